/-! THE CLASS'S HEAP: one region of 45 cells (wip/whole/gen_regX.py) -/
abbrev WS : Type := (Nat → Int32) × (Nat → Nat → Int32) × (Nat → Option Nat)
def oX (x : Nat → Int32) : Nat → TV := fun k => match k with
  | 0 => vR (some 1)
  | 1 => vR (some 13)
  | 2 => vR (some 25)
  | 3 => vI (x 3)
  | 4 => vR (some 37)
  | 5 => vR (some 39)
  | 6 => vI (x 6)
  | 7 => vR (some 40)
  | 8 => vR (some 41)
  | 9 => vR (some 42)
  | 10 => vR (some 43)
  | _ => vI 0
def cX (x : Nat → Int32) (G : Nat → Nat → Int32) (Y : Nat → Nat → Option Nat) (f : Nat → Int32) (g : Nat → Nat → Int32) (y : Nat → Option Nat) (b c : WS) (cf : Nat → Int32) (cg : Nat → Nat → Int32) (tf : Nat → Int32) (tg : Nat → Nat → Int32) : Nat → TC := fun k =>
  if k < 1 then .inr (10, oX x) else if k < 13 then wcf 1 f g y (k - 1) else if k < 25 then wcf 13 b.1 b.2.1 b.2.2 (k - 13) else if k < 37 then wcf 25 c.1 c.2.1 c.2.2 (k - 25) else if k < 39 then cC 37 cf (fun _ => 0) cg (fun _ _ => 0) (k - 37) else if k < 40 then .inl (0, 60, .inl (G 0)) else if k < 41 then .inl (4, 4, .inr (.inr (.inr (.inr (Y 0))))) else if k < 42 then .inl (4, 4, .inr (.inr (.inr (.inr (Y 1))))) else if k < 43 then .inl (0, 4, .inl (G 1)) else cT 43 tf (fun _ => 0) tg (fun _ _ => 0) (k - 43)
def hX (h : TH) (x : Nat → Int32) (G : Nat → Nat → Int32) (Y : Nat → Nat → Option Nat) (f : Nat → Int32) (g : Nat → Nat → Int32) (y : Nat → Option Nat) (b c : WS) (cf : Nat → Int32) (cg : Nat → Nat → Int32) (tf : Nat → Int32) (tg : Nat → Nat → Int32) : TH := rput 45 (cX x G Y f g y b c cf cg tf tg) h 0
section S84
variable {sc : Nat × (Nat → Int32)} {h : TH} {n k : Nat} {x : Nat → Int32} {G : Nat → Nat → Int32} {Y : Nat → Nat → Option Nat} {f f' : Nat → Int32} {g g' : Nat → Nat → Int32} {y y' : Nat → Option Nat} {b c : WS} {cf cf' tf tf' : Nat → Int32} {cg cg' tg tg' : Nat → Nat → Int32} {v : Int32} {e : Nat → Int64} {u : Nat → Nat → Int64} {r : Option Nat}
theorem hX_at (hk : k < 45) : (hX h x G Y f g y b c cf cg tf tg).1 k = some (cX x G Y f g y b c cf cg tf tg k) := by
  have := rput_at (n := 45) (cf := cX x G Y f g y b c cf cg tf tg) (h := h) (b := 0) (j := k) hk
  rw [Nat.zero_add] at this
  exact this
theorem hX_off (hk : 45 ≤ k) : (hX h x G Y f g y b c cf cg tf tg).1 k = h.1 k := rput_off (Or.inr (by omega))
theorem hX_2 : (hX h x G Y f g y b c cf cg tf tg).2 = h.2 := rfl
theorem hX_W0 : hW (hX h x G Y f g y b c cf cg tf tg) 1 f' g' y' = hX h x G Y f' g' y' b c cf cg tf tg := by
  refine Prod.ext ?_ rfl
  funext k
  by_cases q : 1 ≤ k ∧ k < 13
  · rw [hX_at (by omega), show (hW (hX h x G Y f g y b c cf cg tf tg) 1 f' g' y').1 k = some (wcf 1 f' g' y' (k - 1)) by unfold hW rput; exact if_pos q]
    unfold cX
    rw [if_neg (by omega), if_pos (by omega)]
  · rw [hW_off (by omega)]
    by_cases q2 : k < 45
    · rw [hX_at q2, hX_at q2]
      unfold cX
      by_cases q3 : k < 1
      · simp only [if_pos q3]
      · simp only [if_neg q3, if_neg (show ¬ k < 13 by omega)]
    · rw [hX_off (by omega), hX_off (by omega)]
theorem hX_W1 : hW (hX h x G Y f g y b c cf cg tf tg) 13 f' g' y' = hX h x G Y f g y (f', g', y') c cf cg tf tg := by
  refine Prod.ext ?_ rfl
  funext k
  by_cases q : 13 ≤ k ∧ k < 25
  · rw [hX_at (by omega), show (hW (hX h x G Y f g y b c cf cg tf tg) 13 f' g' y').1 k = some (wcf 13 f' g' y' (k - 13)) by unfold hW rput; exact if_pos q]
    unfold cX
    rw [if_neg (by omega), if_neg (by omega), if_pos (by omega)]
  · rw [hW_off (by omega)]
    by_cases q2 : k < 45
    · rw [hX_at q2, hX_at q2]
      unfold cX
      by_cases q3 : k < 13
      · simp only [if_pos q3]
      · simp only [if_neg (show ¬ k < 1 by omega), if_neg q3, if_neg (show ¬ k < 25 by omega)]
    · rw [hX_off (by omega), hX_off (by omega)]
theorem hX_W2 : hW (hX h x G Y f g y b c cf cg tf tg) 25 f' g' y' = hX h x G Y f g y b (f', g', y') cf cg tf tg := by
  refine Prod.ext ?_ rfl
  funext k
  by_cases q : 25 ≤ k ∧ k < 37
  · rw [hX_at (by omega), show (hW (hX h x G Y f g y b c cf cg tf tg) 25 f' g' y').1 k = some (wcf 25 f' g' y' (k - 25)) by unfold hW rput; exact if_pos q]
    unfold cX
    rw [if_neg (by omega), if_neg (by omega), if_neg (by omega), if_pos (by omega)]
  · rw [hW_off (by omega)]
    by_cases q2 : k < 45
    · rw [hX_at q2, hX_at q2]
      unfold cX
      by_cases q3 : k < 25
      · simp only [if_pos q3]
      · simp only [if_neg (show ¬ k < 1 by omega), if_neg (show ¬ k < 13 by omega), if_neg q3, if_neg (show ¬ k < 37 by omega)]
    · rw [hX_off (by omega), hX_off (by omega)]
theorem hX_C : hC (hX h x G Y f g y b c cf cg tf tg) 37 cf' (fun _ => 0) cg' (fun _ _ => 0) = hX h x G Y f g y b c cf' cg' tf tg := by
  refine Prod.ext ?_ rfl
  funext k
  by_cases q : 37 ≤ k ∧ k < 39
  · rw [hX_at (by omega), show (hC (hX h x G Y f g y b c cf cg tf tg) 37 cf' (fun _ => 0) cg' (fun _ _ => 0)).1 k = some (cC 37 cf' (fun _ => 0) cg' (fun _ _ => 0) (k - 37)) by unfold hC rput; exact if_pos q]
    unfold cX
    rw [if_neg (by omega), if_neg (by omega), if_neg (by omega), if_neg (by omega), if_pos (by omega)]
  · rw [show (hC (hX h x G Y f g y b c cf cg tf tg) 37 cf' (fun _ => 0) cg' (fun _ _ => 0)).1 k = (hX h x G Y f g y b c cf cg tf tg).1 k from rput_off (by omega)]
    by_cases q2 : k < 45
    · rw [hX_at q2, hX_at q2]
      unfold cX
      by_cases q3 : k < 37
      · simp only [if_pos q3]
      · simp only [if_neg (show ¬ k < 1 by omega), if_neg (show ¬ k < 13 by omega), if_neg (show ¬ k < 25 by omega), if_neg q3, if_neg (show ¬ k < 39 by omega)]
    · rw [hX_off (by omega), hX_off (by omega)]
theorem hX_T : hT (hX h x G Y f g y b c cf cg tf tg) 43 tf' (fun _ => 0) tg' (fun _ _ => 0) = hX h x G Y f g y b c cf cg tf' tg' := by
  refine Prod.ext ?_ rfl
  funext k
  by_cases q : 43 ≤ k ∧ k < 45
  · rw [hX_at (by omega), show (hT (hX h x G Y f g y b c cf cg tf tg) 43 tf' (fun _ => 0) tg' (fun _ _ => 0)).1 k = some (cT 43 tf' (fun _ => 0) tg' (fun _ _ => 0) (k - 43)) by unfold hT rput; exact if_pos q]
    unfold cX
    rw [if_neg (by omega), if_neg (by omega), if_neg (by omega), if_neg (by omega), if_neg (by omega), if_neg (by omega), if_neg (by omega), if_neg (by omega), if_neg (by omega)]
  · rw [show (hT (hX h x G Y f g y b c cf cg tf tg) 43 tf' (fun _ => 0) tg' (fun _ _ => 0)).1 k = (hX h x G Y f g y b c cf cg tf tg).1 k from rput_off (by omega)]
    by_cases q2 : k < 45
    · rw [hX_at q2, hX_at q2]
      unfold cX
      by_cases q3 : k < 43
      · simp only [if_pos q3]
      · omega
    · rw [hX_off (by omega), hX_off (by omega)]
theorem hX_w0 : hX h x G Y f g y b c cf cg tf tg = hW (hX h x G Y f g y b c cf cg tf tg) 1 f g y := hX_W0.symm
theorem hX_w1 : hX h x G Y f g y b c cf cg tf tg = hW (hX h x G Y f g y b c cf cg tf tg) 13 b.1 b.2.1 b.2.2 := hX_W1.symm
theorem hX_w2 : hX h x G Y f g y b c cf cg tf tg = hW (hX h x G Y f g y b c cf cg tf tg) 25 c.1 c.2.1 c.2.2 := hX_W2.symm
theorem hX_c : hX h x G Y f g y b c cf cg tf tg = hC (hX h x G Y f g y b c cf cg tf tg) 37 cf (fun _ => 0) cg (fun _ _ => 0) := hX_C.symm
theorem hX_t : hX h x G Y f g y b c cf cg tf tg = hT (hX h x G Y f g y b c cf cg tf tg) 43 tf (fun _ => 0) tg (fun _ _ => 0) := hX_T.symm
theorem hX_0 : (hX h x G Y f g y b c cf cg tf tg).1 0 = some (.inr (10, oX x)) := hX_at (by decide)
theorem hX_cl : tcl (hX h x G Y f g y b c cf cg tf tg) 0 = some 10 := by unfold tcl; rw [hX_0]
theorem hX_g0 : tget (hX h x G Y f g y b c cf cg tf tg) 0 [10] 0 = some (vR (some 1)) := by unfold tget; rw [hX_0]; rfl
theorem hX_g1 : tget (hX h x G Y f g y b c cf cg tf tg) 0 [10] 1 = some (vR (some 13)) := by unfold tget; rw [hX_0]; rfl
theorem hX_g2 : tget (hX h x G Y f g y b c cf cg tf tg) 0 [10] 2 = some (vR (some 25)) := by unfold tget; rw [hX_0]; rfl
theorem hX_g3 : tget (hX h x G Y f g y b c cf cg tf tg) 0 [10] 3 = some (vI (x 3)) := by unfold tget; rw [hX_0]; rfl
theorem hX_g4 : tget (hX h x G Y f g y b c cf cg tf tg) 0 [10] 4 = some (vR (some 37)) := by unfold tget; rw [hX_0]; rfl
theorem hX_g5 : tget (hX h x G Y f g y b c cf cg tf tg) 0 [10] 5 = some (vR (some 39)) := by unfold tget; rw [hX_0]; rfl
theorem hX_g6 : tget (hX h x G Y f g y b c cf cg tf tg) 0 [10] 6 = some (vI (x 6)) := by unfold tget; rw [hX_0]; rfl
theorem hX_g7 : tget (hX h x G Y f g y b c cf cg tf tg) 0 [10] 7 = some (vR (some 40)) := by unfold tget; rw [hX_0]; rfl
theorem hX_g8 : tget (hX h x G Y f g y b c cf cg tf tg) 0 [10] 8 = some (vR (some 41)) := by unfold tget; rw [hX_0]; rfl
theorem hX_g9 : tget (hX h x G Y f g y b c cf cg tf tg) 0 [10] 9 = some (vR (some 42)) := by unfold tget; rw [hX_0]; rfl
theorem hX_g10 : tget (hX h x G Y f g y b c cf cg tf tg) 0 [10] 10 = some (vR (some 43)) := by unfold tget; rw [hX_0]; rfl
theorem hX_set0 {x' : Nat → Int32} : tset (hX h x G Y f g y b c cf cg tf tg) 0 (.inr (10, oX x')) = hX h x' G Y f g y b c cf cg tf tg := by
  have := rput_set (n := 45) (cf := cX x G Y f g y b c cf cg tf tg) (cf' := cX x' G Y f g y b c cf cg tf tg) (h := h) (b := 0) (j := 0) (c := .inr (10, oX x')) (by decide) (by
    funext k
    unfold va_up
    by_cases q : k = 0
    · rw [if_pos q, q]; rfl
    · rw [if_neg q]; unfold cX; simp only [if_neg (show ¬ k < 1 by omega)])
  exact this
theorem hX_o3 : va_up (oX x) 3 (vI v) = oX (upd x 3 v) := by
  funext k
  match k with | 0 => rfl | 1 => rfl | 2 => rfl | 3 => rfl | 4 => rfl | 5 => rfl | 6 => rfl | 7 => rfl | 8 => rfl | 9 => rfl | 10 => rfl | k + 11 => rfl
theorem hX_p3 (hv : v = 0 ∨ v = 1) : tput (hX h x G Y f g y b c cf cg tf tg) 0 [10] 3 1 (vI v) = some (hX h (upd x 3 v) G Y f g y b c cf cg tf tg) := by
  unfold tput
  rw [hX_0]
  dsimp only
  rw [if_pos ⟨rfl, by simp [tkok, hv]⟩, hX_o3, hX_set0]
theorem hX_o6 : va_up (oX x) 6 (vI v) = oX (upd x 6 v) := by
  funext k
  match k with | 0 => rfl | 1 => rfl | 2 => rfl | 3 => rfl | 4 => rfl | 5 => rfl | 6 => rfl | 7 => rfl | 8 => rfl | 9 => rfl | 10 => rfl | k + 11 => rfl
theorem hX_p6 : tput (hX h x G Y f g y b c cf cg tf tg) 0 [10] 6 0 (vI v) = some (hX h (upd x 6 v) G Y f g y b c cf cg tf tg) := by
  unfold tput
  rw [hX_0]
  dsimp only
  rw [if_pos ⟨rfl, rfl⟩, hX_o6, hX_set0]
theorem hX_a_rows : (hX h x G Y f g y b c cf cg tf tg).1 39 = some (.inl (0, 60, .inl (G 0))) := hX_at (by decide)
theorem hX_r_rows (hn : n < 60) : tald sc (hX h x G Y f g y b c cf cg tf tg) 0 39 (nI n) = some (G 0 n) := by unfold tald tai; rw [hX_a_rows]; dsimp only; rw [if_pos ⟨rfl, nI_in hn (by decide)⟩, nI_clamp (by omega)]
theorem hX_s_rows {p : Nat → Int32} : tset (hX h x G Y f g y b c cf cg tf tg) 39 (.inl (0, 60, .inl p)) = hX h x (va_up G 0 p) Y f g y b c cf cg tf tg := by
  have := rput_set (n := 45) (cf := cX x G Y f g y b c cf cg tf tg) (cf' := cX x (va_up G 0 p) Y f g y b c cf cg tf tg) (h := h) (b := 0) (j := 39) (c := .inl (0, 60, .inl p)) (by decide) (by
    funext k
    by_cases q : k = 39
    · rw [q, uE]; rfl
    · rw [uN q]
      unfold cX
      by_cases q1 : k < 39
      · simp only [if_pos q1]
      · by_cases q2 : k < 40
        · simp only [if_pos q2, if_neg q1]
          first | omega | rw [uN (show (0 : Nat) ≠ 1 by decide)] | rw [uN (show (1 : Nat) ≠ 0 by decide)]
        · by_cases q3 : k < 42
          · simp only [if_pos q3, if_neg q2]
          · by_cases q4 : k < 43
            · simp only [if_pos q4, if_neg q3, if_neg q2]
              first | omega | rw [uN (show (0 : Nat) ≠ 1 by decide)] | rw [uN (show (1 : Nat) ≠ 0 by decide)]
            · simp only [if_neg q4, if_neg q3, if_neg q2, if_neg q1])
  rw [Nat.zero_add] at this
  exact this
theorem hX_w_rows (hn : n < 60) : tasi (hX h x G Y f g y b c cf cg tf tg) 39 (nI n) v = some (hX h x (va_up G 0 (upd (G 0) n v)) Y f g y b c cf cg tf tg) := by rw [tasi_of hX_a_rows (nI_in hn (by decide)), nI_clamp (by omega)]; exact congrArg some hX_s_rows
theorem hX_a_shs : (hX h x G Y f g y b c cf cg tf tg).1 42 = some (.inl (0, 4, .inl (G 1))) := hX_at (by decide)
theorem hX_r_shs (hn : n < 4) : tald sc (hX h x G Y f g y b c cf cg tf tg) 0 42 (nI n) = some (G 1 n) := by unfold tald tai; rw [hX_a_shs]; dsimp only; rw [if_pos ⟨rfl, nI_in hn (by decide)⟩, nI_clamp (by omega)]
theorem hX_s_shs {p : Nat → Int32} : tset (hX h x G Y f g y b c cf cg tf tg) 42 (.inl (0, 4, .inl p)) = hX h x (va_up G 1 p) Y f g y b c cf cg tf tg := by
  have := rput_set (n := 45) (cf := cX x G Y f g y b c cf cg tf tg) (cf' := cX x (va_up G 1 p) Y f g y b c cf cg tf tg) (h := h) (b := 0) (j := 42) (c := .inl (0, 4, .inl p)) (by decide) (by
    funext k
    by_cases q : k = 42
    · rw [q, uE]; rfl
    · rw [uN q]
      unfold cX
      by_cases q1 : k < 39
      · simp only [if_pos q1]
      · by_cases q2 : k < 40
        · simp only [if_pos q2, if_neg q1]
          first | omega | rw [uN (show (0 : Nat) ≠ 1 by decide)] | rw [uN (show (1 : Nat) ≠ 0 by decide)]
        · by_cases q3 : k < 42
          · simp only [if_pos q3, if_neg q2]
          · by_cases q4 : k < 43
            · simp only [if_pos q4, if_neg q3, if_neg q2]
              first | omega | rw [uN (show (0 : Nat) ≠ 1 by decide)] | rw [uN (show (1 : Nat) ≠ 0 by decide)]
            · simp only [if_neg q4, if_neg q3, if_neg q2, if_neg q1])
  rw [Nat.zero_add] at this
  exact this
theorem hX_w_shs (hn : n < 4) : tasi (hX h x G Y f g y b c cf cg tf tg) 42 (nI n) v = some (hX h x (va_up G 1 (upd (G 1) n v)) Y f g y b c cf cg tf tg) := by rw [tasi_of hX_a_shs (nI_in hn (by decide)), nI_clamp (by omega)]; exact congrArg some hX_s_shs
theorem hX_a_sh : (hX h x G Y f g y b c cf cg tf tg).1 40 = some (.inl (4, 4, .inr (.inr (.inr (.inr (Y 0)))))) := hX_at (by decide)
theorem hX_r_sh (hn : n < 4) : tldr (hX h x G Y f g y b c cf cg tf tg) 40 (nI n) = some (Y 0 n) := by unfold tldr; rw [hX_a_sh]; dsimp only; rw [if_pos ⟨Or.inr rfl, nI_in hn (by decide)⟩, nI_clamp (by omega)]
theorem hX_s_sh {p : Nat → Option Nat} : tset (hX h x G Y f g y b c cf cg tf tg) 40 (.inl (4, 4, .inr (.inr (.inr (.inr p))))) = hX h x G (va_up Y 0 p) f g y b c cf cg tf tg := by
  have := rput_set (n := 45) (cf := cX x G Y f g y b c cf cg tf tg) (cf' := cX x G (va_up Y 0 p) f g y b c cf cg tf tg) (h := h) (b := 0) (j := 40) (c := .inl (4, 4, .inr (.inr (.inr (.inr p))))) (by decide) (by
    funext k
    by_cases q : k = 40
    · rw [q, uE]; rfl
    · rw [uN q]
      unfold cX
      by_cases q1 : k < 40
      · simp only [if_pos q1]
      · by_cases q2 : k < 41
        · simp only [if_pos q2, if_neg q1]
          first | omega | rw [uN (show (0 : Nat) ≠ 1 by decide)] | rw [uN (show (1 : Nat) ≠ 0 by decide)]
        · by_cases q3 : k < 42
          · simp only [if_pos q3, if_neg q2]
            first | omega | rw [uN (show (0 : Nat) ≠ 1 by decide)] | rw [uN (show (1 : Nat) ≠ 0 by decide)]
          · simp only [if_neg q3, if_neg q2, if_neg q1])
  rw [Nat.zero_add] at this
  exact this
theorem hX_w_sh {o : Nat} (hn : n < 4) (ho : tcl (hX h x G Y f g y b c cf cg tf tg) o = some 5) : tasr (hX h x G Y f g y b c cf cg tf tg) 40 (nI n) (some o) = some (hX h x G (va_up Y 0 (va_up (Y 0) n (some o))) f g y b c cf cg tf tg) := by
  unfold tasr
  rw [hX_a_sh]
  dsimp only
  rw [if_pos ⟨Or.inr rfl, nI_in hn (by decide)⟩, ho]
  dsimp only
  rw [if_pos (by decide), nI_clamp (by omega)]
  exact congrArg some hX_s_sh
theorem hX_n_sh (hn : n < 4) : tasr (hX h x G Y f g y b c cf cg tf tg) 40 (nI n) none = some (hX h x G (va_up Y 0 (va_up (Y 0) n none)) f g y b c cf cg tf tg) := by
  unfold tasr
  rw [hX_a_sh]
  dsimp only
  rw [if_pos ⟨Or.inr rfl, nI_in hn (by decide)⟩, nI_clamp (by omega)]
  exact congrArg some hX_s_sh
theorem hX_a_ss : (hX h x G Y f g y b c cf cg tf tg).1 41 = some (.inl (4, 4, .inr (.inr (.inr (.inr (Y 1)))))) := hX_at (by decide)
theorem hX_r_ss (hn : n < 4) : tldr (hX h x G Y f g y b c cf cg tf tg) 41 (nI n) = some (Y 1 n) := by unfold tldr; rw [hX_a_ss]; dsimp only; rw [if_pos ⟨Or.inr rfl, nI_in hn (by decide)⟩, nI_clamp (by omega)]
theorem hX_s_ss {p : Nat → Option Nat} : tset (hX h x G Y f g y b c cf cg tf tg) 41 (.inl (4, 4, .inr (.inr (.inr (.inr p))))) = hX h x G (va_up Y 1 p) f g y b c cf cg tf tg := by
  have := rput_set (n := 45) (cf := cX x G Y f g y b c cf cg tf tg) (cf' := cX x G (va_up Y 1 p) f g y b c cf cg tf tg) (h := h) (b := 0) (j := 41) (c := .inl (4, 4, .inr (.inr (.inr (.inr p))))) (by decide) (by
    funext k
    by_cases q : k = 41
    · rw [q, uE]; rfl
    · rw [uN q]
      unfold cX
      by_cases q1 : k < 40
      · simp only [if_pos q1]
      · by_cases q2 : k < 41
        · simp only [if_pos q2, if_neg q1]
          first | omega | rw [uN (show (0 : Nat) ≠ 1 by decide)] | rw [uN (show (1 : Nat) ≠ 0 by decide)]
        · by_cases q3 : k < 42
          · simp only [if_pos q3, if_neg q2]
            first | omega | rw [uN (show (0 : Nat) ≠ 1 by decide)] | rw [uN (show (1 : Nat) ≠ 0 by decide)]
          · simp only [if_neg q3, if_neg q2, if_neg q1])
  rw [Nat.zero_add] at this
  exact this
theorem hX_w_ss {o : Nat} (hn : n < 4) (ho : tcl (hX h x G Y f g y b c cf cg tf tg) o = some 5) : tasr (hX h x G Y f g y b c cf cg tf tg) 41 (nI n) (some o) = some (hX h x G (va_up Y 1 (va_up (Y 1) n (some o))) f g y b c cf cg tf tg) := by
  unfold tasr
  rw [hX_a_ss]
  dsimp only
  rw [if_pos ⟨Or.inr rfl, nI_in hn (by decide)⟩, ho]
  dsimp only
  rw [if_pos (by decide), nI_clamp (by omega)]
  exact congrArg some hX_s_ss
theorem hX_n_ss (hn : n < 4) : tasr (hX h x G Y f g y b c cf cg tf tg) 41 (nI n) none = some (hX h x G (va_up Y 1 (va_up (Y 1) n none)) f g y b c cf cg tf tg) := by
  unfold tasr
  rw [hX_a_ss]
  dsimp only
  rw [if_pos ⟨Or.inr rfl, nI_in hn (by decide)⟩, nI_clamp (by omega)]
  exact congrArg some hX_s_ss
theorem hX_0cl : tcl (hX h x G Y f g y b c cf cg tf tg) 1 = some 9 := by rw [hX_w0]; exact hW_cl
theorem hX_0g0 : tget (hX h x G Y f g y b c cf cg tf tg) 1 [9] 0 = some (vR (some 2)) := by rw [hX_w0]; exact hW_g0
theorem hX_0g1 : tget (hX h x G Y f g y b c cf cg tf tg) 1 [9] 1 = some (vR (some 3)) := by rw [hX_w0]; exact hW_g1
theorem hX_0g2 : tget (hX h x G Y f g y b c cf cg tf tg) 1 [9] 2 = some (vR (some 4)) := by rw [hX_w0]; exact hW_g2
theorem hX_0g3 : tget (hX h x G Y f g y b c cf cg tf tg) 1 [9] 3 = some (vR (some 5)) := by rw [hX_w0]; exact hW_g3
theorem hX_0g4 : tget (hX h x G Y f g y b c cf cg tf tg) 1 [9] 4 = some (vR (some 6)) := by rw [hX_w0]; exact hW_g4
theorem hX_0g5 : tget (hX h x G Y f g y b c cf cg tf tg) 1 [9] 5 = some (vR (some 7)) := by rw [hX_w0]; exact hW_g5
theorem hX_0g6 : tget (hX h x G Y f g y b c cf cg tf tg) 1 [9] 6 = some (vI (f 6)) := by rw [hX_w0]; exact hW_g6
theorem hX_0g7 : tget (hX h x G Y f g y b c cf cg tf tg) 1 [9] 7 = some (vI (f 7)) := by rw [hX_w0]; exact hW_g7
theorem hX_0g8 : tget (hX h x G Y f g y b c cf cg tf tg) 1 [9] 8 = some (vR (some 8)) := by rw [hX_w0]; exact hW_g8
theorem hX_0g9 : tget (hX h x G Y f g y b c cf cg tf tg) 1 [9] 9 = some (vR (some 9)) := by rw [hX_w0]; exact hW_g9
theorem hX_0g10 : tget (hX h x G Y f g y b c cf cg tf tg) 1 [9] 10 = some (vI (f 10)) := by rw [hX_w0]; exact hW_g10
theorem hX_0g11 : tget (hX h x G Y f g y b c cf cg tf tg) 1 [9] 11 = some (vR (some 10)) := by rw [hX_w0]; exact hW_g11
theorem hX_0g12 : tget (hX h x G Y f g y b c cf cg tf tg) 1 [9] 12 = some (vR (some 11)) := by rw [hX_w0]; exact hW_g12
theorem hX_0g13 : tget (hX h x G Y f g y b c cf cg tf tg) 1 [9] 13 = some (vR (some 12)) := by rw [hX_w0]; exact hW_g13
theorem hX_0g14 : tget (hX h x G Y f g y b c cf cg tf tg) 1 [9] 14 = some (vI (f 14)) := by rw [hX_w0]; exact hW_g14
theorem hX_0r0 (hn : n < 20) : tald sc (hX h x G Y f g y b c cf cg tf tg) 0 2 (nI n) = some (g 0 n) := by rw [hX_w0]; exact hW_r0 hn
theorem hX_0w0 (hn : n < 20) : tasi (hX h x G Y f g y b c cf cg tf tg) 2 (nI n) v = some (hX h x G Y f (va_up g 0 (upd (g 0) n v)) y b c cf cg tf tg) := by rw [hX_w0]; refine (hW_w0 hn).trans ?_; rw [hX_W0]
theorem hX_0r1 (hn : n < 80) : tald sc (hX h x G Y f g y b c cf cg tf tg) 0 3 (nI n) = some (g 1 n) := by rw [hX_w0]; exact hW_r1 hn
theorem hX_0w1 (hn : n < 80) : tasi (hX h x G Y f g y b c cf cg tf tg) 3 (nI n) v = some (hX h x G Y f (va_up g 1 (upd (g 1) n v)) y b c cf cg tf tg) := by rw [hX_w0]; refine (hW_w1 hn).trans ?_; rw [hX_W0]
theorem hX_0r2 (hn : n < 20) : tald sc (hX h x G Y f g y b c cf cg tf tg) 0 4 (nI n) = some (g 2 n) := by rw [hX_w0]; exact hW_r2 hn
theorem hX_0w2 (hn : n < 20) : tasi (hX h x G Y f g y b c cf cg tf tg) 4 (nI n) v = some (hX h x G Y f (va_up g 2 (upd (g 2) n v)) y b c cf cg tf tg) := by rw [hX_w0]; refine (hW_w2 hn).trans ?_; rw [hX_W0]
theorem hX_0r3 (hn : n < 20) : tald sc (hX h x G Y f g y b c cf cg tf tg) 0 5 (nI n) = some (g 3 n) := by rw [hX_w0]; exact hW_r3 hn
theorem hX_0w3 (hn : n < 20) : tasi (hX h x G Y f g y b c cf cg tf tg) 5 (nI n) v = some (hX h x G Y f (va_up g 3 (upd (g 3) n v)) y b c cf cg tf tg) := by rw [hX_w0]; refine (hW_w3 hn).trans ?_; rw [hX_W0]
theorem hX_0r4 (hn : n < 20) : tald sc (hX h x G Y f g y b c cf cg tf tg) 0 6 (nI n) = some (g 4 n) := by rw [hX_w0]; exact hW_r4 hn
theorem hX_0w4 (hn : n < 20) : tasi (hX h x G Y f g y b c cf cg tf tg) 6 (nI n) v = some (hX h x G Y f (va_up g 4 (upd (g 4) n v)) y b c cf cg tf tg) := by rw [hX_w0]; refine (hW_w4 hn).trans ?_; rw [hX_W0]
theorem hX_0r5 (hn : n < 4) : tald sc (hX h x G Y f g y b c cf cg tf tg) 0 7 (nI n) = some (g 5 n) := by rw [hX_w0]; exact hW_r5 hn
theorem hX_0w5 (hn : n < 4) : tasi (hX h x G Y f g y b c cf cg tf tg) 7 (nI n) v = some (hX h x G Y f (va_up g 5 (upd (g 5) n v)) y b c cf cg tf tg) := by rw [hX_w0]; refine (hW_w5 hn).trans ?_; rw [hX_W0]
theorem hX_0r9 (hn : n < 5) : tald sc (hX h x G Y f g y b c cf cg tf tg) 0 9 (nI n) = some (g 9 n) := by rw [hX_w0]; exact hW_r9 hn
theorem hX_0w9 (hn : n < 5) : tasi (hX h x G Y f g y b c cf cg tf tg) 9 (nI n) v = some (hX h x G Y f (va_up g 9 (upd (g 9) n v)) y b c cf cg tf tg) := by rw [hX_w0]; refine (hW_w9 hn).trans ?_; rw [hX_W0]
theorem hX_0r11 (hn : n < 40) : tald sc (hX h x G Y f g y b c cf cg tf tg) 0 10 (nI n) = some (g 11 n) := by rw [hX_w0]; exact hW_r11 hn
theorem hX_0w11 (hn : n < 40) : tasi (hX h x G Y f g y b c cf cg tf tg) 10 (nI n) v = some (hX h x G Y f (va_up g 11 (upd (g 11) n v)) y b c cf cg tf tg) := by rw [hX_w0]; refine (hW_w11 hn).trans ?_; rw [hX_W0]
theorem hX_0r12 (hn : n < 40) : tald sc (hX h x G Y f g y b c cf cg tf tg) 0 11 (nI n) = some (g 12 n) := by rw [hX_w0]; exact hW_r12 hn
theorem hX_0w12 (hn : n < 40) : tasi (hX h x G Y f g y b c cf cg tf tg) 11 (nI n) v = some (hX h x G Y f (va_up g 12 (upd (g 12) n v)) y b c cf cg tf tg) := by rw [hX_w0]; refine (hW_w12 hn).trans ?_; rw [hX_W0]
theorem hX_0r13 (hn : n < 40) : tald sc (hX h x G Y f g y b c cf cg tf tg) 0 12 (nI n) = some (g 13 n) := by rw [hX_w0]; exact hW_r13 hn
theorem hX_0w13 (hn : n < 40) : tasi (hX h x G Y f g y b c cf cg tf tg) 12 (nI n) v = some (hX h x G Y f (va_up g 13 (upd (g 13) n v)) y b c cf cg tf tg) := by rw [hX_w0]; refine (hW_w13 hn).trans ?_; rw [hX_W0]
theorem hX_0r8 (hn : n < 5) : tldr (hX h x G Y f g y b c cf cg tf tg) 8 (nI n) = some (y n) := by rw [hX_w0]; exact hW_r8 hn
theorem hX_0p6 : tput (hX h x G Y f g y b c cf cg tf tg) 1 [9] 6 0 (vI v) = some (hX h x G Y (upd f 6 v) g y b c cf cg tf tg) := by rw [hX_w0]; refine hW_p6.trans ?_; rw [hX_W0]
theorem hX_0p7 : tput (hX h x G Y f g y b c cf cg tf tg) 1 [9] 7 0 (vI v) = some (hX h x G Y (upd f 7 v) g y b c cf cg tf tg) := by rw [hX_w0]; refine hW_p7.trans ?_; rw [hX_W0]
theorem hX_0p10 : tput (hX h x G Y f g y b c cf cg tf tg) 1 [9] 10 0 (vI v) = some (hX h x G Y (upd f 10 v) g y b c cf cg tf tg) := by rw [hX_w0]; refine hW_p10.trans ?_; rw [hX_W0]
theorem hX_0p14 : tput (hX h x G Y f g y b c cf cg tf tg) 1 [9] 14 0 (vI v) = some (hX h x G Y (upd f 14 v) g y b c cf cg tf tg) := by rw [hX_w0]; refine hW_p14.trans ?_; rw [hX_W0]
theorem hX_1cl : tcl (hX h x G Y f g y b c cf cg tf tg) 13 = some 9 := by rw [hX_w1]; exact hW_cl
theorem hX_1g0 : tget (hX h x G Y f g y b c cf cg tf tg) 13 [9] 0 = some (vR (some 14)) := by rw [hX_w1]; exact hW_g0
theorem hX_1g1 : tget (hX h x G Y f g y b c cf cg tf tg) 13 [9] 1 = some (vR (some 15)) := by rw [hX_w1]; exact hW_g1
theorem hX_1g2 : tget (hX h x G Y f g y b c cf cg tf tg) 13 [9] 2 = some (vR (some 16)) := by rw [hX_w1]; exact hW_g2
theorem hX_1g3 : tget (hX h x G Y f g y b c cf cg tf tg) 13 [9] 3 = some (vR (some 17)) := by rw [hX_w1]; exact hW_g3
theorem hX_1g4 : tget (hX h x G Y f g y b c cf cg tf tg) 13 [9] 4 = some (vR (some 18)) := by rw [hX_w1]; exact hW_g4
theorem hX_1g5 : tget (hX h x G Y f g y b c cf cg tf tg) 13 [9] 5 = some (vR (some 19)) := by rw [hX_w1]; exact hW_g5
theorem hX_1g6 : tget (hX h x G Y f g y b c cf cg tf tg) 13 [9] 6 = some (vI (b.1 6)) := by rw [hX_w1]; exact hW_g6
theorem hX_1g7 : tget (hX h x G Y f g y b c cf cg tf tg) 13 [9] 7 = some (vI (b.1 7)) := by rw [hX_w1]; exact hW_g7
theorem hX_1g8 : tget (hX h x G Y f g y b c cf cg tf tg) 13 [9] 8 = some (vR (some 20)) := by rw [hX_w1]; exact hW_g8
theorem hX_1g9 : tget (hX h x G Y f g y b c cf cg tf tg) 13 [9] 9 = some (vR (some 21)) := by rw [hX_w1]; exact hW_g9
theorem hX_1g10 : tget (hX h x G Y f g y b c cf cg tf tg) 13 [9] 10 = some (vI (b.1 10)) := by rw [hX_w1]; exact hW_g10
theorem hX_1g11 : tget (hX h x G Y f g y b c cf cg tf tg) 13 [9] 11 = some (vR (some 22)) := by rw [hX_w1]; exact hW_g11
theorem hX_1g12 : tget (hX h x G Y f g y b c cf cg tf tg) 13 [9] 12 = some (vR (some 23)) := by rw [hX_w1]; exact hW_g12
theorem hX_1g13 : tget (hX h x G Y f g y b c cf cg tf tg) 13 [9] 13 = some (vR (some 24)) := by rw [hX_w1]; exact hW_g13
theorem hX_1g14 : tget (hX h x G Y f g y b c cf cg tf tg) 13 [9] 14 = some (vI (b.1 14)) := by rw [hX_w1]; exact hW_g14
theorem hX_1r0 (hn : n < 20) : tald sc (hX h x G Y f g y b c cf cg tf tg) 0 14 (nI n) = some (b.2.1 0 n) := by rw [hX_w1]; exact hW_r0 hn
theorem hX_1r1 (hn : n < 80) : tald sc (hX h x G Y f g y b c cf cg tf tg) 0 15 (nI n) = some (b.2.1 1 n) := by rw [hX_w1]; exact hW_r1 hn
theorem hX_1r2 (hn : n < 20) : tald sc (hX h x G Y f g y b c cf cg tf tg) 0 16 (nI n) = some (b.2.1 2 n) := by rw [hX_w1]; exact hW_r2 hn
theorem hX_1r3 (hn : n < 20) : tald sc (hX h x G Y f g y b c cf cg tf tg) 0 17 (nI n) = some (b.2.1 3 n) := by rw [hX_w1]; exact hW_r3 hn
theorem hX_1r4 (hn : n < 20) : tald sc (hX h x G Y f g y b c cf cg tf tg) 0 18 (nI n) = some (b.2.1 4 n) := by rw [hX_w1]; exact hW_r4 hn
theorem hX_1r5 (hn : n < 4) : tald sc (hX h x G Y f g y b c cf cg tf tg) 0 19 (nI n) = some (b.2.1 5 n) := by rw [hX_w1]; exact hW_r5 hn
theorem hX_1r9 (hn : n < 5) : tald sc (hX h x G Y f g y b c cf cg tf tg) 0 21 (nI n) = some (b.2.1 9 n) := by rw [hX_w1]; exact hW_r9 hn
theorem hX_1r11 (hn : n < 40) : tald sc (hX h x G Y f g y b c cf cg tf tg) 0 22 (nI n) = some (b.2.1 11 n) := by rw [hX_w1]; exact hW_r11 hn
theorem hX_1r12 (hn : n < 40) : tald sc (hX h x G Y f g y b c cf cg tf tg) 0 23 (nI n) = some (b.2.1 12 n) := by rw [hX_w1]; exact hW_r12 hn
theorem hX_1r13 (hn : n < 40) : tald sc (hX h x G Y f g y b c cf cg tf tg) 0 24 (nI n) = some (b.2.1 13 n) := by rw [hX_w1]; exact hW_r13 hn
theorem hX_1r8 (hn : n < 5) : tldr (hX h x G Y f g y b c cf cg tf tg) 20 (nI n) = some (b.2.2 n) := by rw [hX_w1]; exact hW_r8 hn
theorem hX_Ccl : tcl (hX h x G Y f g y b c cf cg tf tg) 37 = some 1 := by rw [hX_c]; exact hC_cl
theorem hX_Cg0 : tget (hX h x G Y f g y b c cf cg tf tg) 37 [1] 0 = some (vR (some 38)) := by rw [hX_c]; exact hC_g0
theorem hX_Cg1 : tget (hX h x G Y f g y b c cf cg tf tg) 37 [1] 1 = some (vI (cf 1)) := by rw [hX_c]; exact hC_g1
theorem hX_Cp1 : tput (hX h x G Y f g y b c cf cg tf tg) 37 [1] 1 0 (vI v) = some (hX h x G Y f g y b c (upd cf 1 v) cg tf tg) := by rw [hX_c]; refine hC_p1.trans ?_; rw [hX_C]
theorem hX_Cg2 : tget (hX h x G Y f g y b c cf cg tf tg) 37 [1] 2 = some (vI (cf 2)) := by rw [hX_c]; exact hC_g2
theorem hX_Cp2 : tput (hX h x G Y f g y b c cf cg tf tg) 37 [1] 2 0 (vI v) = some (hX h x G Y f g y b c (upd cf 2 v) cg tf tg) := by rw [hX_c]; refine hC_p2.trans ?_; rw [hX_C]
theorem hX_Cg3 : tget (hX h x G Y f g y b c cf cg tf tg) 37 [1] 3 = some (vI (cf 3)) := by rw [hX_c]; exact hC_g3
theorem hX_Cp3 : tput (hX h x G Y f g y b c cf cg tf tg) 37 [1] 3 0 (vI v) = some (hX h x G Y f g y b c (upd cf 3 v) cg tf tg) := by rw [hX_c]; refine hC_p3.trans ?_; rw [hX_C]
theorem hX_Cg4 : tget (hX h x G Y f g y b c cf cg tf tg) 37 [1] 4 = some (vI (cf 4)) := by rw [hX_c]; exact hC_g4
theorem hX_Cp4 : tput (hX h x G Y f g y b c cf cg tf tg) 37 [1] 4 0 (vI v) = some (hX h x G Y f g y b c (upd cf 4 v) cg tf tg) := by rw [hX_c]; refine hC_p4.trans ?_; rw [hX_C]
theorem hX_Cg5 : tget (hX h x G Y f g y b c cf cg tf tg) 37 [1] 5 = some (vI (cf 5)) := by rw [hX_c]; exact hC_g5
theorem hX_Cp5 : tput (hX h x G Y f g y b c cf cg tf tg) 37 [1] 5 0 (vI v) = some (hX h x G Y f g y b c (upd cf 5 v) cg tf tg) := by rw [hX_c]; refine hC_p5.trans ?_; rw [hX_C]
theorem hX_Cr0 (hn : n < 240) : tald sc (hX h x G Y f g y b c cf cg tf tg) 1 38 (nI n) = some (cg 0 n) := by rw [hX_c]; exact hC_r0 hn
theorem hX_Tcl : tcl (hX h x G Y f g y b c cf cg tf tg) 43 = some 8 := by rw [hX_t]; exact hT_cl
theorem hX_Tg0 : tget (hX h x G Y f g y b c cf cg tf tg) 43 [8] 0 = some (vR (some 44)) := by rw [hX_t]; exact hT_g0
theorem hX_Tg1 : tget (hX h x G Y f g y b c cf cg tf tg) 43 [8] 1 = some (vI (tf 1)) := by rw [hX_t]; exact hT_g1
theorem hX_Tp1 : tput (hX h x G Y f g y b c cf cg tf tg) 43 [8] 1 0 (vI v) = some (hX h x G Y f g y b c cf cg (upd tf 1 v) tg) := by rw [hX_t]; refine hT_p1.trans ?_; rw [hX_T]
theorem hX_Tg2 : tget (hX h x G Y f g y b c cf cg tf tg) 43 [8] 2 = some (vI (tf 2)) := by rw [hX_t]; exact hT_g2
theorem hX_Tp2 (hv : v = 0 ∨ v = 1) : tput (hX h x G Y f g y b c cf cg tf tg) 43 [8] 2 1 (vI v) = some (hX h x G Y f g y b c cf cg (upd tf 2 v) tg) := by rw [hX_t]; refine (hT_p2 hv).trans ?_; rw [hX_T]
theorem hX_Tr0 (hn : n < 30) : tald sc (hX h x G Y f g y b c cf cg tf tg) 0 44 (nI n) = some (tg 0 n) := by rw [hX_t]; exact hT_r0 hn
end S84
