/-! THE START: objects and their rows, made one behind the other -/
/-- an object at w (cell 0) and n - 1 cells behind it; the heap ends there -/
def zr (n : Nat) (a : Nat → TC) (ci : Nat) (fs : Nat → TV) (h0 : Nat → Option TC) (w s : Nat) : TH := rput n (va_up a 0 (.inr (ci, fs))) (h0, w + n, s) w
section S98y
variable {sc : Nat × (Nat → Int32)} {n w s ci k kind l t : Nat} {a : Nat → TC} {fs : Nat → TV} {h0 : Nat → Option TC} {v : TV} {x z : Int32} {K : Option TV → TH → Prop} {c : TC} {f : Nat → Int32}
theorem zr_0 (hn : 0 < n) : (zr n a ci fs h0 w s).1 w = some (.inr (ci, fs)) := by
  have := rput_at (n := n) (cf := va_up a 0 (.inr (ci, fs))) (h := (h0, w + n, s)) (b := w) (j := 0) hn
  rw [uE] at this
  exact this
theorem zr_cl (hn : 0 < n) : tcl (zr n a ci fs h0 w s) w = some ci := by unfold tcl; rw [zr_0 hn]
theorem zr_21 : (zr n a ci fs h0 w s).2.1 = w + n := rfl
theorem zr_put (hn : 0 < n) (hk : tkok kind v = true) : tput (zr n a ci fs h0 w s) w [ci] k kind v = some (zr n a ci (va_up fs k v) h0 w s) := by
  unfold tput
  rw [zr_0 hn]
  dsimp only
  rw [if_pos ⟨by simp, hk⟩]
  exact congrArg some (rput_set (j := 0) hn (uU _ _ _ _))
theorem zr_pR (hn : 0 < n) {r : Option Nat} : tput (zr n a ci fs h0 w s) w [ci] k 3 (vR r) = some (zr n a ci (va_up fs k (vR r)) h0 w s) := zr_put hn rfl
theorem zr_pI (hn : 0 < n) : tput (zr n a ci fs h0 w s) w [ci] k 0 (vI x) = some (zr n a ci (va_up fs k (vI x)) h0 w s) := zr_put hn rfl
theorem zr_new (hn : 0 < n) : hnew (zr n a ci fs h0 w s) c k = zr (n + 1) (va_up a n c) ci fs h0 w (s + k) := by
  unfold hnew zr rput
  refine Prod.ext ?_ (Prod.ext (by show w + n + 1 = w + (n + 1); omega) rfl)
  funext j
  show va_up _ (w + n) _ j = _
  by_cases e : j = w + n
  · subst e
    rw [uE]
    dsimp only
    rw [if_pos (by omega), Nat.add_sub_cancel_left, uN (by omega), uE]
  · rw [uN e]
    dsimp only
    by_cases q : w ≤ j ∧ j < w + n
    · rw [if_pos q, if_pos (by omega)]
      by_cases e0 : j - w = 0
      · rw [e0, uE, uE]
      · rw [uN e0, uN e0, uN (by omega)]
    · rw [if_neg q, if_neg (by omega)]
theorem zr_na0 (hn : 0 < n) (hw : w + n < 1000000) (hx : ¬ x < 0 ∧ x.toNatClampNeg ≤ 1000) : tna (zr n a ci fs h0 w s) 0 x = some (zr (n + 1) (va_up a n (.inl (0, x.toNatClampNeg, .inl (fun _ => 0)))) ci fs h0 w (s + x.toNatClampNeg)) := by
  unfold tna
  rw [if_neg (by rintro (h | h); exact hx.1 h; have := hx.2; omega)]
  show tnew _ _ _ = _
  rw [tnew_ok (h := zr n a ci fs h0 w s) hw, zr_new hn]
theorem zr_na1 (hn : 0 < n) (hw : w + n < 1000000) (hx : ¬ x < 0 ∧ x.toNatClampNeg ≤ 1000) : tna (zr n a ci fs h0 w s) 1 x = some (zr (n + 1) (va_up a n (.inl (1, x.toNatClampNeg, .inl (fun _ => 0)))) ci fs h0 w (s + x.toNatClampNeg)) := by
  unfold tna
  rw [if_neg (by rintro (h | h); exact hx.1 h; have := hx.2; omega)]
  show tnew _ _ _ = _
  rw [tnew_ok (h := zr n a ci fs h0 w s) hw, zr_new hn]
theorem zr_na2 (hn : 0 < n) (hw : w + n < 1000000) (hx : ¬ x < 0 ∧ x.toNatClampNeg ≤ 1000) : tna (zr n a ci fs h0 w s) 2 x = some (zr (n + 1) (va_up a n (.inl (2, x.toNatClampNeg, .inr (.inl (fun _ => 0))))) ci fs h0 w (s + x.toNatClampNeg)) := by
  unfold tna
  rw [if_neg (by rintro (h | h); exact hx.1 h; have := hx.2; omega)]
  show tnew _ _ _ = _
  rw [tnew_ok (h := zr n a ci fs h0 w s) hw, zr_new hn]
theorem zr_na3 (hn : 0 < n) (hw : w + n < 1000000) (hx : ¬ x < 0 ∧ x.toNatClampNeg ≤ 1000) : tna (zr n a ci fs h0 w s) 3 x = some (zr (n + 1) (va_up a n (.inl (3, x.toNatClampNeg, .inr (.inr (.inr (.inr (fun _ => none))))))) ci fs h0 w (s + x.toNatClampNeg)) := by
  unfold tna
  rw [if_neg (by rintro (h | h); exact hx.1 h; have := hx.2; omega)]
  show tnew _ _ _ = _
  rw [tnew_ok (h := zr n a ci fs h0 w s) hw, zr_new hn]
theorem zr_cln (hn : 0 < n) (hw : w + n < 1000000) : tnew (zr n a ci fs h0 w s) c k = some (zr (n + 1) (va_up a n c) ci fs h0 w (s + k)) := by
  rw [tnew_ok (h := zr n a ci fs h0 w s) hw, zr_new hn]
theorem zr_at (hn : 0 < n) : (zr (n + 1) (va_up a n c) ci fs h0 w s).1 (w + n) = some c := by
  have := rput_at (n := n + 1) (cf := va_up (va_up a n c) 0 (.inr (ci, fs))) (h := (h0, w + (n + 1), s)) (b := w) (j := n) (by omega)
  rw [uN (by omega), uE] at this
  exact this
theorem zr_cc {st : List TV} (hn : 0 < n) : theap sc iX9_init (.checkcast 31) 3 (vR (some (w + n)) :: st) (zr (n + 1) (va_up a n (.inl (0, l, .inl f))) ci fs h0 w s) = some (vR (some (w + n)) :: st, zr (n + 1) (va_up a n (.inl (0, l, .inl f))) ci fs h0 w s) := by
  have e : (True ∧ mO iX9_init = tCC.1 ∧ 31 = tCC.2) := ⟨trivial, rfl, rfl⟩
  simp only [theap]
  rw [if_pos e, zr_at hn]
  rfl
theorem zr_as (hn : 0 < n) (hx : ¬ (x < 0 ∨ l ≤ x.toNatClampNeg)) : tasi (zr (n + 1) (va_up a n (.inl (0, l, .inl f))) ci fs h0 w s) (w + n) x z = some (zr (n + 1) (va_up a n (.inl (0, l, .inl (upd f x.toNatClampNeg z)))) ci fs h0 w s) := by
  rw [tasi_of (zr_at hn) hx]
  refine congrArg some (rput_set (j := n) (by omega) ?_)
  funext j
  by_cases e : j = n
  · subst e; rw [uE, uN (by omega), uE]
  · rw [uN e]
    by_cases e0 : j = 0
    · subst e0; rw [uE, uE]
    · rw [uN e0, uN e0, uN e, uN e]
theorem rput_cong {b : Nat} {cf cf' : Nat → TC} {h : TH} (hc : ∀ j, j < n → cf j = cf' j) : rput n cf h b = rput n cf' h b := by
  unfold rput
  refine Prod.ext ?_ rfl
  funext k
  by_cases q : b ≤ k ∧ k < b + n
  · simp only [if_pos q]; rw [hc _ (by omega)]
  · simp only [if_neg q]
def g1W : Nat → Nat → Int32 := fun s => if s = 5 then tfirst else fun _ => 0
def f1W : Nat → Int32 := fun k => if k = 7 then 1 else 0
theorem sX9_init (hw : w + 20 < 1000000) : ∃ s', s' ≤ s + 400 ∧ ∀ K, tA sc iX9_init 0 [vR (some w)] [] (zr 1 a 9 (tdf 9) h0 w s) K = K none (hW (h0, w + 12, s') w (upd (upd (upd f1W 6 0) 10 0) 14 0) (wfg g1W) (fun _ => none)) := by
  have fin : ∀ (A : Nat → TC) (fs : Nat → TV) (s : Nat) (K : Option TV → TH → Prop), (∀ j, j < 12 → va_up A 0 (.inr (9, fs)) j = wcf w f1W g1W (fun _ => none) j) → tA sc iX9_init 101 [vR (some w)] [] (zr 12 A 9 fs h0 w s) K = K none (hW (h0, w + 12, s) w (upd (upd (upd f1W 6 0) 10 0) 14 0) (wfg g1W) (fun _ => none)) := by
    intro A fs s K hc
    have e : zr 12 A 9 fs h0 w s = hW (h0, w + 12, s) w f1W g1W (fun _ => none) := rput_cong hc
    rw [e]
    simp (disch := first | omega | exact hW_cl) only [rX9_init_101, rX9_init_102, rX9_init_105, sX9_forgetAll, tpu_none]
  have b20 : (20 : Int32).toNatClampNeg = 20 := rfl
  have b80 : (80 : Int32).toNatClampNeg = 80 := rfl
  have b5 : (5 : Int32).toNatClampNeg = 5 := rfl
  have b40 : (40 : Int32).toNatClampNeg = 40 := rfl
  refine ⟨s + 20 + 80 + 20 + 20 + 20 + 4 + 5 + 5 + 40 + 40 + 40, by omega, fun K => ?_⟩
  simp (disch := first | omega | decide | exact zr_cl (by omega)) only [rX9_init_0, rX9_init_1, rX9_init_4, rX9_init_5, rX9_init_7, rX9_init_9, rX9_init_12, rX9_init_13, rX9_init_15, rX9_init_17, rX9_init_20, rX9_init_21, rX9_init_23, rX9_init_25, rX9_init_28, rX9_init_29, rX9_init_31, rX9_init_33, rX9_init_36, rX9_init_37, rX9_init_39, rX9_init_41, rX9_init_44, rX9_init_45, rX9_init_48, rX9_init_51, rX9_init_54, rX9_init_57, rX9_init_58, rX9_init_59, rX9_init_62, rX9_init_63, rX9_init_64, rX9_init_67, rX9_init_70, rX9_init_71, rX9_init_72, rX9_init_74, rX9_init_77, rX9_init_78, rX9_init_80, rX9_init_82, rX9_init_85, rX9_init_86, rX9_init_88, rX9_init_90, rX9_init_93, rX9_init_94, rX9_init_96, rX9_init_98, zr_na0, zr_na3, zr_cln, zr_cc, zr_pR, zr_pI, zr_21, oz_some, b20, b80, b5, b40]
  refine fin _ _ _ K ?_
  intro j hj
  rcases (show j = 0 ∨ j = 1 ∨ j = 2 ∨ j = 3 ∨ j = 4 ∨ j = 5 ∨ j = 6 ∨ j = 7 ∨ j = 8 ∨ j = 9 ∨ j = 10 ∨ j = 11 by omega) with rfl | rfl | rfl | rfl | rfl | rfl | rfl | rfl | rfl | rfl | rfl | rfl
  · show (Sum.inr (9, _) : TC) = Sum.inr (9, wobj w f1W)
    congr 2
    funext k
    match k with
    | 0 => rfl
    | 1 => rfl
    | 2 => rfl
    | 3 => rfl
    | 4 => rfl
    | 5 => rfl
    | 6 => rfl
    | 7 => rfl
    | 8 => rfl
    | 9 => rfl
    | 10 => rfl
    | 11 => rfl
    | 12 => rfl
    | 13 => rfl
    | 14 => rfl
    | k + 15 => rfl
  all_goals rfl
end S98y
