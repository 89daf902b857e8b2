/-! THE START, 4: what holds then -/
def th0 : TH := (fun _ => none, 0, 0)
theorem r1M_0 : r1M 0 = 0 := by decide +kernel
theorem r1M_1 : r1M 1 = 1 := by decide +kernel
theorem r1M_2 : r1M 2 = 0 := by decide +kernel
theorem r1M_s : ∀ d, d < 20 → r1M (3 + d) = -1 := by decide +kernel
theorem r1M_w : ∀ d, d < 20 → r1M (23 + d) = -1 := by decide +kernel
theorem w1M_v : ∀ k, k < 80 → w1M k = 1 := by decide +kernel
section S98z4
variable {L : Nat} {xs : Nat → Int32} {h1 : Nat → Option TC} {s : Nat}
theorem w1S_g : w1S.2.1 = wfg g1W := rfl
theorem th0_new : hnew th0 (.inr (10, tdf 10)) 11 = zr 1 (fun _ => tcell0) 10 (tdf 10) (fun _ => none) 0 11 := by
  unfold hnew zr rput th0
  refine Prod.ext ?_ rfl
  funext j
  show va_up (fun _ => none) 0 (some (Sum.inr (10, tdf 10))) j = _
  by_cases e : j = 0
  · subst e
    rw [uE]
    dsimp only
    rw [if_pos (by omega), uE]
  · rw [uN e]
    dsimp only
    rw [if_neg (by omega)]
theorem hM_45 {F : Nat → Int32} {E : Nat → Int64} {M : Nat → Nat → Int32} {U : Nat → Nat → Int64} {c : Option TC} {p : Nat × Nat} : hM (va_up h1 45 c, p) 45 F E M U = hM (h1, p) 45 F E M U := by
  unfold hM rput
  refine Prod.ext ?_ rfl
  funext j
  dsimp only
  by_cases q : 45 ≤ j ∧ j < 45 + 25
  · rw [if_pos q, if_pos q]
  · rw [if_neg q, if_neg q, uN (by omega)]
theorem rel0 (hs : s ≤ 10000) : Rel 0 (hX (hM (fun _ => none, 70, s) 45 f0M e0M (va_up (va_up g0M 0 r1M) 3 w1M) u0M) (fun _ => 0) g1X (fun _ _ => none) w1S.1 w1S.2.1 w1S.2.2 w1S w1S (fun _ => 0) (fun _ _ => 0) (fun _ => 0) (fun _ _ => 0)) := by
  refine ⟨_, _, _, _, _, _, _, _, _, _, _, _, _, _, _, _, _, rfl, ?_⟩
  refine ⟨⟨Nat.le_refl _, Nat.le_refl _, hs, fun _ _ => rfl⟩, ⟨rfl, rfl, rfl, rfl, rfl⟩, ?_, ⟨fun _ _ => Or.inl rfl, fun _ _ => Or.inl rfl, fun _ _ => Or.inl rfl⟩, ⟨rfl, Or.inl rfl, fun z => absurd z (by decide)⟩, ⟨0, by decide, rfl, rfl, fun k hk => by omega⟩, ⟨0, by decide, rfl, rfl, fun k hk => by omega⟩, ⟨fun i hi => ?_, fun i j o _ _ _ h => by cases h⟩, fun i hi => ?_, ⟨0, by decide, rfl, rfl, fun k hk => by omega⟩⟩
  · refine ⟨0, 0, 0, rQ_fresh (wfg_F g1W) ⟨rfl, rfl, rfl⟩ rfl ?_ ?_ ?_ ?_ ?_ ?_ ?_ ?_ ?_⟩
    · show (1 : Int32) = r1M 1
      rw [r1M_1]
    · exact r1M_0
    · exact r1M_2
    · exact r1M_s
    · exact r1M_w
    · intro d hd
      have key : ∀ d, d < 20 → va_up (va_up g0M 0 r1M) 3 w1M 2 d = 10 := by decide +kernel
      exact key d hd
    · exact w1M_v
    · intro l hl
      rw [w1S_g, wfg_o (g := g1W) (s := 5) (by decide) (by decide) (by decide) (by decide) (by decide)]
      rcases (show l = 0 ∨ l = 1 ∨ l = 2 ∨ l = 3 by omega) with rfl | rfl | rfl | rfl <;> rfl
    · rw [w1S_g, wfg_o (g := g1W) (s := 5) (by decide) (by decide) (by decide) (by decide) (by decide)]
      exact ⟨⟨10, by decide, rfl⟩, ⟨2, by decide, rfl⟩, ⟨1, by decide, rfl⟩, ⟨6, by decide, rfl⟩⟩
  · rcases (show i = 0 ∨ i = 1 ∨ i = 2 ∨ i = 3 by omega) with rfl | rfl | rfl | rfl <;> exact Or.inl ⟨rfl, rfl⟩
  · rcases (show i = 0 ∨ i = 1 ∨ i = 2 ∨ i = 3 by omega) with rfl | rfl | rfl | rfl <;> exact Or.inl ⟨rfl, rfl, rfl⟩
theorem start0 : ∃ H, Rel 0 H ∧ ∀ K, tA (L, xs) iL_law 0 (tini 4 [vR (some 1000000000)]) [] th0 K = tA (L, xs) iL_law 18 [vR (some 1000000000), vR (some 0), vR (some 45), vI (nI (5 * 0))] [] H K := by
  obtain ⟨s', b1, eX⟩ := sX10_init (sc := (L, xs)) (a := fun _ => tcell0)
  refine ⟨_, rel0 (s := s' + 53 + 1569) (by omega), fun K => ?_⟩
  have i0 : tini 4 [vR (some 1000000000)] = [vR (some 1000000000), vU, vU, vU] := rfl
  have n1 : tnew th0 (.inr (10, tdf 10)) 11 = some (zr 1 (fun _ => tcell0) 10 (tdf 10) (fun _ => none) 0 11) := by rw [tnew_ok (by decide), th0_new]
  generalize hH : hX (fun _ => none, 45, s') (fun _ => 0) g1X (fun _ _ => none) w1S.1 w1S.2.1 w1S.2.2 w1S w1S (fun _ => 0) (fun _ _ => 0) (fun _ => 0) (fun _ _ => 0) = H1 at eX
  have h21 : H1.2.1 = 45 := by rw [← hH]; rfl
  have h22 : H1.2.2 = s' := by rw [← hH]; rfl
  have e2 : hnew H1 (.inr (11, tdf 11)) 53 = zr 1 (fun _ => tcell0) 11 (tdf 11) (hnew H1 (.inr (11, tdf 11)) 53).1 45 (s' + 53) := by
    have := zr_of (H := hnew H1 (.inr (11, tdf 11)) 53) (w := 45) (ci := 11) (fs := tdf 11) (by show va_up H1.1 H1.2.1 _ 45 = _; rw [h21, uE]) (by show H1.2.1 + 1 = 46; rw [h21])
    refine this.trans ?_
    rw [show (hnew H1 (.inr (11, tdf 11)) 53).2.2 = s' + 53 from by show H1.2.2 + 53 = _; rw [h22]]
  have n2 : tnew H1 (.inr (11, tdf 11)) 53 = some (hnew H1 (.inr (11, tdf 11)) 53) := tnew_ok (by rw [h21]; decide)
  have eM := fun (K : Option TV → TH → Prop) => sX11_init (sc := (L, xs)) (a := fun _ => tcell0) (h0 := (hnew H1 (.inr (11, tdf 11)) 53).1) (s := s' + 53) K
  rw [← e2] at eM
  have e3 : hM ((hnew H1 (.inr (11, tdf 11)) 53).1, 70, s' + 53 + 1569) 45 f0M e0M (va_up (va_up g0M 0 r1M) 3 w1M) u0M = hX (hM (fun _ => none, 70, s' + 53 + 1569) 45 f0M e0M (va_up (va_up g0M 0 r1M) 3 w1M) u0M) (fun _ => 0) g1X (fun _ _ => none) w1S.1 w1S.2.1 w1S.2.2 w1S w1S (fun _ => 0) (fun _ _ => 0) (fun _ => 0) (fun _ _ => 0) := by
    rw [hXM]
    show hM (va_up H1.1 H1.2.1 _, 70, s' + 53 + 1569) 45 f0M e0M (va_up (va_up g0M 0 r1M) 3 w1M) u0M = _
    rw [h21, hM_45, ← hH]
    rfl
  rw [i0, rL_law_0, n1]
  simp only [oz_some, rL_law_3, rL_law_4, rL_law_7, rL_law_8, rL_law_11, rL_law_12, rL_law_15, rL_law_16, rL_law_17, eX, eM, tpu_none, tclr_R, tclr_U, n2, h21, th0]
  rw [e3]
  rfl
end S98z4
