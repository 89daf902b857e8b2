/-! THE START, 2: the class, the Model -/
section S98z
variable {sc : Nat × (Nat → Int32)} {n w s ci k kind l t m : Nat} {a : Nat → TC} {fs fs' : Nat → TV} {h0 : Nat → Option TC} {v : TV} {x z : Int32} {K : Option TV → TH → Prop} {c : TC} {f : Nat → Int32} {d : Nat → TC} {H : TH}
theorem sX1_init (hw : w + 20 < 1000000) : tA sc iX1_init 0 [vR (some w)] [] (zr 1 a 1 (tdf 1) h0 w s) K = K none (hC (h0, w + 2, s + 240) w (fun _ => 0) (fun _ => 0) (fun _ _ => 0) (fun _ _ => 0)) := by
  have b240 : (240 : Int32).toNatClampNeg = 240 := rfl
  simp (disch := first | omega | decide) only [rX1_init_0, rX1_init_1, rX1_init_4, rX1_init_5, rX1_init_8, rX1_init_10, rX1_init_13, zr_na1, zr_pR, zr_21, oz_some, b240]
  refine congrArg (K none) (rput_cong ?_)
  intro j hj
  rcases (show j = 0 ∨ j = 1 by omega) with rfl | rfl
  · show (Sum.inr (1, _) : TC) = Sum.inr (1, oC w (fun _ => 0) (fun _ => 0))
    congr 2
    funext k
    match k with
    | 0 => rfl
    | 1 => rfl
    | 2 => rfl
    | 3 => rfl
    | 4 => rfl
    | 5 => rfl
    | k + 6 => rfl
  · rfl
theorem sX8_init (hw : w + 20 < 1000000) : tA sc iX8_init 0 [vR (some w)] [] (zr 1 a 8 (tdf 8) h0 w s) K = K none (hT (h0, w + 2, s + 30) w (fun _ => 0) (fun _ => 0) (fun _ _ => 0) (fun _ _ => 0)) := by
  have b30 : (30 : Int32).toNatClampNeg = 30 := rfl
  simp (disch := first | omega | decide) only [rX8_init_0, rX8_init_1, rX8_init_4, rX8_init_5, rX8_init_7, rX8_init_9, rX8_init_12, zr_na0, zr_pR, zr_21, oz_some, b30]
  refine congrArg (K none) (rput_cong ?_)
  intro j hj
  rcases (show j = 0 ∨ j = 1 by omega) with rfl | rfl
  · show (Sum.inr (8, _) : TC) = Sum.inr (8, oT w (fun _ => 0) (fun _ => 0))
    congr 2
    funext k
    match k with
    | 0 => rfl
    | 1 => rfl
    | 2 => rfl
    | k + 3 => rfl
  · rfl
theorem zr_of (h1 : H.1 w = some (.inr (ci, fs))) (h2 : H.2.1 = w + 1) : H = zr 1 (fun _ => tcell0) ci fs H.1 w H.2.2 := by
  unfold zr rput
  refine Prod.ext ?_ (Prod.ext h2 rfl)
  funext k
  dsimp only
  by_cases q : w ≤ k ∧ k < w + 1
  · have e : k = w := by omega
    subst e
    rw [if_pos q, Nat.sub_self, uE, h1]
  · rw [if_neg q]
/-- a region that was made inside goes into the whole -/
def ovl (a d : Nat → TC) (n : Nat) : Nat → TC := fun k => if n ≤ k then d (k - n) else a k
theorem zr_out (hn : 0 < n) : rput m d ((zr (n + 1) (va_up a n c) ci fs (fun _ => none) 0 s).1, n + m, k) n = zr (n + m) (ovl a d n) ci fs (fun _ => none) 0 k ∨ m = 0 := by
  by_cases hm : m = 0
  · exact Or.inr hm
  · refine Or.inl ?_
    unfold zr rput ovl
    refine Prod.ext ?_ (Prod.ext (by show n + m = 0 + (n + m); omega) rfl)
    funext j
    dsimp only
    by_cases q : n ≤ j ∧ j < n + m
    · rw [if_pos q, if_pos (by omega), uN (by omega), if_pos (by omega), Nat.sub_zero]
    · rw [if_neg q]
      by_cases q2 : j < n
      · rw [if_pos (by omega), if_pos (by omega), Nat.sub_zero]
        by_cases e : j = 0
        · subst e; rw [uE, uE]
        · rw [uN e, uN e, uN (by omega), if_neg (by omega)]
      · rw [if_neg (by omega), if_neg (by omega)]
theorem zr_in (hn : 0 < n) : zr (n + 1) (va_up a n (.inr (ci, fs'))) 10 fs (fun _ => none) 0 s = zr 1 (fun _ => tcell0) ci fs' (zr (n + 1) (va_up a n (.inr (ci, fs'))) 10 fs (fun _ => none) 0 s).1 n s := by
  have h1 : (zr (n + 1) (va_up a n (.inr (ci, fs'))) 10 fs (fun _ => none) 0 s).1 n = some (.inr (ci, fs')) := by
    have := zr_at (a := a) (c := .inr (ci, fs')) (ci := 10) (fs := fs) (h0 := fun _ => none) (w := 0) (s := s) hn
    rw [Nat.zero_add] at this
    exact this
  exact zr_of h1 (by show 0 + (n + 1) = n + 1; omega)
theorem x_newW (hn : 0 < n) (hb : n < 1000) : ∃ s', s' ≤ s + 400 ∧ ∀ K, tA sc iX9_init 0 [vR (some n)] [] (zr (n + 1) (va_up a n (.inr (9, tdf 9))) 10 fs (fun _ => none) 0 s) K = K none (zr (n + 12) (ovl a (wcf n (upd (upd (upd f1W 6 0) 10 0) 14 0) (wfg g1W) (fun _ => none)) n) 10 fs (fun _ => none) 0 s') := by
  obtain ⟨s', h1, h2⟩ := sX9_init (sc := sc) (w := n) (a := fun _ => tcell0) (h0 := (zr (n + 1) (va_up a n (.inr (9, tdf 9))) 10 fs (fun _ => none) 0 s).1) (s := s) (by omega)
  refine ⟨s', h1, fun K => ?_⟩
  rw [zr_in hn, h2]
  exact congrArg (K none) ((zr_out hn).resolve_right (by decide))
theorem x_newC (hn : 0 < n) (hb : n < 1000) : tA sc iX1_init 0 [vR (some n)] [] (zr (n + 1) (va_up a n (.inr (1, tdf 1))) 10 fs (fun _ => none) 0 s) K = K none (zr (n + 2) (ovl a (cC n (fun _ => 0) (fun _ => 0) (fun _ _ => 0) (fun _ _ => 0)) n) 10 fs (fun _ => none) 0 (s + 240)) := by
  rw [zr_in hn, sX1_init (by omega)]
  exact congrArg (K none) ((zr_out hn).resolve_right (by decide))
theorem x_newT (hn : 0 < n) (hb : n < 1000) : tA sc iX8_init 0 [vR (some n)] [] (zr (n + 1) (va_up a n (.inr (8, tdf 8))) 10 fs (fun _ => none) 0 s) K = K none (zr (n + 2) (ovl a (cT n (fun _ => 0) (fun _ => 0) (fun _ _ => 0) (fun _ _ => 0)) n) 10 fs (fun _ => none) 0 (s + 30)) := by
  rw [zr_in hn, sX8_init (by omega)]
  exact congrArg (K none) ((zr_out hn).resolve_right (by decide))
theorem zr_na4 (hn : 0 < n) (hw : w + n < 1000000) (hx : ¬ x < 0 ∧ x.toNatClampNeg ≤ 1000) : tna (zr n a ci fs h0 w s) 4 x = some (zr (n + 1) (va_up a n (.inl (4, x.toNatClampNeg, .inr (.inr (.inr (.inr (fun _ => none))))))) ci fs h0 w (s + x.toNatClampNeg)) := by
  unfold tna
  rw [if_neg (by rintro (h | h); exact hx.1 h; have := hx.2; omega)]
  show tnew _ _ _ = _
  rw [tnew_ok (h := zr n a ci fs h0 w s) hw, zr_new hn]
def w1S : WS := (upd (upd (upd f1W 6 0) 10 0) 14 0, wfg g1W, fun _ => none)
def g1X : Nat → Nat → Int32 := fun k => if k = 1 then (upd (upd (upd (upd (fun _ => 0) 0 (-1)) 1 (-1)) 2 (-1)) 3 (-1)) else fun _ => 0
def aX1 (a : Nat → TC) : Nat → TC := ovl a (wcf 1 w1S.1 w1S.2.1 w1S.2.2) 1
def aX2 (a : Nat → TC) : Nat → TC := ovl (aX1 a) (wcf 13 w1S.1 w1S.2.1 w1S.2.2) 13
def aX3 (a : Nat → TC) : Nat → TC := ovl (aX2 a) (wcf 25 w1S.1 w1S.2.1 w1S.2.2) 25
def aX4 (a : Nat → TC) : Nat → TC := ovl (aX3 a) (cC 37 (fun _ => 0) (fun _ => 0) (fun _ _ => 0) (fun _ _ => 0)) 37
theorem zr_hX {xx : Nat → Int32} {G : Nat → Nat → Int32} {Y : Nat → Nat → Option Nat} {f : Nat → Int32} {g : Nat → Nat → Int32} {y : Nat → Option Nat} {b c : WS} {cf : Nat → Int32} {cg : Nat → Nat → Int32} {tf : Nat → Int32} {tg : Nat → Nat → Int32} (hc : ∀ j, j < 45 → va_up a 0 (.inr (10, fs)) j = cX xx G Y f g y b c cf cg tf tg j) : zr 45 a 10 fs (fun _ => none) 0 s = hX (fun _ => none, 45, s) xx G Y f g y b c cf cg tf tg := rput_cong hc
theorem sX10_init : ∃ s', s' ≤ 3000 ∧ ∀ K, tA sc iX10_init 0 [vR (some 0)] [] (zr 1 a 10 (tdf 10) (fun _ => none) 0 11) K = K none (hX (fun _ => none, 45, s') (fun _ => 0) g1X (fun _ _ => none) w1S.1 w1S.2.1 w1S.2.2 w1S w1S (fun _ => 0) (fun _ _ => 0) (fun _ => 0) (fun _ _ => 0)) := by
  obtain ⟨s1, b1, e1⟩ := x_newW (sc := sc) (n := 1) (a := a) (fs := tdf 10) (s := 26) (by decide) (by decide)
  have e1 : ∀ K, tA sc iX9_init 0 [vR (some 1)] [] (zr 2 (va_up a 1 (.inr (9, tdf 9))) 10 (tdf 10) (fun _ => none) 0 26) K = K none (zr 13 (aX1 a) 10 (tdf 10) (fun _ => none) 0 s1) := e1
  obtain ⟨s2, b2, e2⟩ := x_newW (sc := sc) (n := 13) (a := aX1 a) (fs := va_up (tdf 10) 0 (vR (some 1))) (s := s1 + 15) (by decide) (by decide)
  have e2 : ∀ K, tA sc iX9_init 0 [vR (some 13)] [] (zr 14 (va_up (aX1 a) 13 (.inr (9, tdf 9))) 10 (va_up (tdf 10) 0 (vR (some 1))) (fun _ => none) 0 (s1 + 15)) K = K none (zr 25 (aX2 a) 10 (va_up (tdf 10) 0 (vR (some 1))) (fun _ => none) 0 s2) := e2
  obtain ⟨s3, b3, e3⟩ := x_newW (sc := sc) (n := 25) (a := aX2 a) (fs := va_up (va_up (tdf 10) 0 (vR (some 1))) 1 (vR (some 13))) (s := s2 + 15) (by decide) (by decide)
  have e3 : ∀ K, tA sc iX9_init 0 [vR (some 25)] [] (zr 26 (va_up (aX2 a) 25 (.inr (9, tdf 9))) 10 (va_up (va_up (tdf 10) 0 (vR (some 1))) 1 (vR (some 13))) (fun _ => none) 0 (s2 + 15)) K = K none (zr 37 (aX3 a) 10 (va_up (va_up (tdf 10) 0 (vR (some 1))) 1 (vR (some 13))) (fun _ => none) 0 s3) := e3
  have e4 : ∀ (fs : Nat → TV) (s : Nat) (K : Option TV → TH → Prop), tA sc iX1_init 0 [vR (some 37)] [] (zr 38 (va_up (aX3 a) 37 (.inr (1, tdf 1))) 10 fs (fun _ => none) 0 s) K = K none (zr 39 (aX4 a) 10 fs (fun _ => none) 0 (s + 240)) := fun fs s K => x_newC (n := 37) (by decide) (by decide)
  have e5 : ∀ (A : Nat → TC) (fs : Nat → TV) (s : Nat) (K : Option TV → TH → Prop), tA sc iX8_init 0 [vR (some 43)] [] (zr 44 (va_up A 43 (.inr (8, tdf 8))) 10 fs (fun _ => none) 0 s) K = K none (zr 45 (ovl A (cT 43 (fun _ => 0) (fun _ => 0) (fun _ _ => 0) (fun _ _ => 0)) 43) 10 fs (fun _ => none) 0 (s + 30)) := fun A fs s K => x_newT (n := 43) (by decide) (by decide)
  have b60 : (60 : Int32).toNatClampNeg = 60 := rfl
  have b4 : (4 : Int32).toNatClampNeg = 4 := rfl
  have c0 : (0 : Int32).toNatClampNeg = 0 := rfl
  have c1 : (1 : Int32).toNatClampNeg = 1 := rfl
  have c2 : (2 : Int32).toNatClampNeg = 2 := rfl
  have c3 : (3 : Int32).toNatClampNeg = 3 := rfl
  have as42 : ∀ (A : Nat → TC) (fs : Nat → TV) (s : Nat) (f : Nat → Int32) (x z : Int32), ¬ (x < 0 ∨ 4 ≤ x.toNatClampNeg) → tasi (zr 43 (va_up A 42 (.inl (0, 4, .inl f))) 10 fs (fun _ => none) 0 s) 42 x z = some (zr 43 (va_up A 42 (.inl (0, 4, .inl (upd f x.toNatClampNeg z)))) 10 fs (fun _ => none) 0 s) := fun A fs s f x z hx => zr_as (n := 42) (w := 0) (by decide) hx
  refine ⟨s3 + 6 + 240 + 60 + 4 + 4 + 4 + 3 + 30, by omega, fun K => ?_⟩
  simp (disch := first | omega | decide) only [rX10_init_0, rX10_init_1, rX10_init_4, rX10_init_5, rX10_init_8, rX10_init_9, rX10_init_12, rX10_init_15, rX10_init_16, rX10_init_19, rX10_init_20, rX10_init_23, rX10_init_26, rX10_init_27, rX10_init_30, rX10_init_31, rX10_init_34, rX10_init_37, rX10_init_38, rX10_init_41, rX10_init_42, rX10_init_45, rX10_init_48, rX10_init_49, rX10_init_51, rX10_init_53, rX10_init_56, rX10_init_57, rX10_init_58, rX10_init_61, rX10_init_64, rX10_init_65, rX10_init_66, rX10_init_69, rX10_init_72, rX10_init_73, rX10_init_74, rX10_init_76, rX10_init_77, rX10_init_78, rX10_init_79, rX10_init_80, rX10_init_81, rX10_init_82, rX10_init_83, rX10_init_84, rX10_init_85, rX10_init_86, rX10_init_87, rX10_init_88, rX10_init_89, rX10_init_90, rX10_init_91, rX10_init_92, rX10_init_95, rX10_init_96, rX10_init_99, rX10_init_100, rX10_init_103, rX10_init_106, zr_cln, zr_na0, zr_na4, zr_pR, zr_21, oz_some, tpu_none, Nat.zero_add, Nat.reduceAdd, e1, e2, e3, e4, e5, b60, b4, as42, c0, c1, c2, c3]
  refine congrArg (K none) (zr_hX ?_)
  intro j hj
  match j, hj with
  | 0, _ =>
    show (Sum.inr (10, _) : TC) = Sum.inr (10, oX (fun _ => 0))
    congr 2
    funext k
    match k with
    | 0 => rfl
    | 1 => rfl
    | 2 => rfl
    | 3 => rfl
    | 4 => rfl
    | 5 => rfl
    | 6 => rfl
    | 7 => rfl
    | 8 => rfl
    | 9 => rfl
    | 10 => rfl
    | k + 11 => rfl
  | 1, _ => rfl
  | 2, _ => rfl
  | 3, _ => rfl
  | 4, _ => rfl
  | 5, _ => rfl
  | 6, _ => rfl
  | 7, _ => rfl
  | 8, _ => rfl
  | 9, _ => rfl
  | 10, _ => rfl
  | 11, _ => rfl
  | 12, _ => rfl
  | 13, _ => rfl
  | 14, _ => rfl
  | 15, _ => rfl
  | 16, _ => rfl
  | 17, _ => rfl
  | 18, _ => rfl
  | 19, _ => rfl
  | 20, _ => rfl
  | 21, _ => rfl
  | 22, _ => rfl
  | 23, _ => rfl
  | 24, _ => rfl
  | 25, _ => rfl
  | 26, _ => rfl
  | 27, _ => rfl
  | 28, _ => rfl
  | 29, _ => rfl
  | 30, _ => rfl
  | 31, _ => rfl
  | 32, _ => rfl
  | 33, _ => rfl
  | 34, _ => rfl
  | 35, _ => rfl
  | 36, _ => rfl
  | 37, _ => rfl
  | 38, _ => rfl
  | 39, _ => rfl
  | 40, _ => rfl
  | 41, _ => rfl
  | 42, _ => rfl
  | 43, _ => rfl
  | 44, _ => rfl
  | j + 45, h => exact absurd h (by omega)
end S98z
