/-! BOTH SIDES IN ONE HEAP: the class at 0, the Model at 45, things from 70 on -/
theorem rput_comm {n n' b b' : Nat} {cf cf' : Nat → TC} {h : TH} (hb : b + n ≤ b' ∨ b' + n' ≤ b) : rput n cf (rput n' cf' h b') b = rput n' cf' (rput n cf h b) b' := by
  unfold rput
  refine Prod.ext ?_ rfl
  funext k
  by_cases q : b ≤ k ∧ k < b + n
  · have q2 : ¬ (b' ≤ k ∧ k < b' + n') := by omega
    simp only [if_pos q, if_neg q2]
  · simp only [if_neg q]
/-- a new cell -/
def hnew (h : TH) (c : TC) (n : Nat) : TH := (va_up h.1 h.2.1 (some c), h.2.1 + 1, h.2.2 + n)
theorem tnew_ok {h : TH} {c : TC} {n : Nat} (hs : h.2.1 < 1000000) : tnew h c n = some (hnew h c n) := if_pos hs
theorem rput_new {n b k : Nat} {cf : Nat → TC} {h : TH} {c : TC} (hb : b + n ≤ h.2.1) : hnew (rput n cf h b) c k = rput n cf (hnew h c k) b := by
  unfold hnew rput
  refine Prod.ext ?_ rfl
  funext j
  dsimp only
  by_cases q : j = h.2.1
  · subst q
    rw [uE, if_neg (by omega), uE]
  · rw [uN q, uN q]
theorem rput_tset {n b o : Nat} {cf : Nat → TC} {h : TH} {c : TC} (ho : b + n ≤ o) : tset (rput n cf h b) o c = rput n cf (tset h o c) b := by
  unfold tset rput
  refine Prod.ext ?_ rfl
  funext j
  dsimp only
  by_cases q : j = o
  · subst q
    rw [uE, if_neg (by omega), uE]
  · rw [uN q, uN q]
section S85
variable {sc : Nat × (Nat → Int32)} {h D : TH} {n k m o : Nat} {x : Nat → Int32} {G : Nat → Nat → Int32} {Y : Nat → Nat → Option Nat} {f f' F F' : Nat → Int32} {g g' M M' : Nat → Nat → Int32} {y y' : Nat → Option Nat} {b c : WS} {cf cf' tf tf' : Nat → Int32} {cg cg' tg tg' : Nat → Nat → Int32} {v : Int32} {E E' : Nat → Int64} {U U' : Nat → Nat → Int64} {r : Option TV} {ls : List TV} {K : Option TV → TH → Prop} {z : TC}
theorem hXM : hX (hM D 45 F E M U) x G Y f g y b c cf cg tf tg = hM (hX D x G Y f g y b c cf cg tf tg) 45 F E M U := rput_comm (Or.inl (by decide))
theorem HL_off (ho : 70 ≤ o) : (hX (hM D 45 F E M U) x G Y f g y b c cf cg tf tg).1 o = D.1 o := by
  rw [hX_off (by omega)]
  exact rput_off (Or.inr (by omega))
theorem HL_2 : (hX (hM D 45 F E M U) x G Y f g y b c cf cg tf tg).2 = D.2 := rfl
theorem HL_new (hs : 70 ≤ D.2.1) : hnew (hX (hM D 45 F E M U) x G Y f g y b c cf cg tf tg) z n = hX (hM (hnew D z n) 45 F E M U) x G Y f g y b c cf cg tf tg := by
  unfold hX hM
  rw [rput_new (show 0 + 45 ≤ (rput 25 (cM 45 F E M U) D 45).2.1 by show 0 + 45 ≤ D.2.1; omega), rput_new (by omega)]
theorem HL_set (ho : 70 ≤ o) : tset (hX (hM D 45 F E M U) x G Y f g y b c cf cg tf tg) o z = hX (hM (tset D o z) 45 F E M U) x G Y f g y b c cf cg tf tg := by
  unfold hX hM
  rw [rput_tset (by omega), rput_tset (by omega)]
/-- a method of World, at the world -/
theorem atW0 (hs : ∀ (h : TH) (K : Option TV → TH → Prop), tA sc m 0 ls [] (hW h 1 f g y) K = K r (hW h 1 f' g' y')) (K : Option TV → TH → Prop) : tA sc m 0 ls [] (hX h x G Y f g y b c cf cg tf tg) K = K r (hX h x G Y f' g' y' b c cf cg tf tg) := by
  rw [hX_w0, hs, hX_W0]
theorem atW1 (hs : ∀ (h : TH) (K : Option TV → TH → Prop), tA sc m 0 ls [] (hW h 13 b.1 b.2.1 b.2.2) K = K r (hW h 13 f' g' y')) (K : Option TV → TH → Prop) : tA sc m 0 ls [] (hX h x G Y f g y b c cf cg tf tg) K = K r (hX h x G Y f g y (f', g', y') c cf cg tf tg) := by
  rw [hX_w1, hs, hX_W1]
/-- a method of the Clerk -/
theorem atC (hs : ∀ (h : TH) (K : Option TV → TH → Prop), tA sc m 0 ls [] (hC h 37 cf (fun _ => 0) cg (fun _ _ => 0)) K = K r (hC h 37 cf' (fun _ => 0) cg' (fun _ _ => 0))) (K : Option TV → TH → Prop) : tA sc m 0 ls [] (hX h x G Y f g y b c cf cg tf tg) K = K r (hX h x G Y f g y b c cf' cg' tf tg) := by
  rw [hX_c, hs, hX_C]
theorem atT (hs : ∀ (h : TH) (K : Option TV → TH → Prop), tA sc m 0 ls [] (hT h 43 tf (fun _ => 0) tg (fun _ _ => 0)) K = K r (hT h 43 tf' (fun _ => 0) tg' (fun _ _ => 0))) (K : Option TV → TH → Prop) : tA sc m 0 ls [] (hX h x G Y f g y b c cf cg tf tg) K = K r (hX h x G Y f g y b c cf cg tf' tg') := by
  rw [hX_t, hs, hX_T]
/-- a method of the Model -/
theorem atM (hs : ∀ (h : TH) (K : Option TV → TH → Prop), tA sc m 0 ls [] (hM h 45 F E M U) K = K r (hM h 45 F' E' M' U')) (K : Option TV → TH → Prop) : tA sc m 0 ls [] (hX (hM D 45 F E M U) x G Y f g y b c cf cg tf tg) K = K r (hX (hM D 45 F' E' M' U') x G Y f g y b c cf cg tf tg) := by
  rw [hXM, hs, hXM]
end S85
