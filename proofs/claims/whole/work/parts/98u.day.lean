/-! THE CLERK, 11: a day told, on both sides -/
def w4 (p : Nat → Int32) (d : Nat) (a0 a1 a2 a3 : Int32) : Nat → Int32 := upd (upd (upd (upd p (4 * d + 0) a0) (4 * d + 1) a1) (4 * d + 2) a2) (4 * d + 3) a3
section S98u
variable {sc : Nat × (Nat → Int32)} {h D D0 : TH} {m n q q1 q2 q3 q4 k p i j d t ns cs kd s wv : Nat} {tp : Nat → Nat} {x : Nat → Int32} {G : Nat → Nat → Int32} {Y : Nat → Nat → Option Nat} {f F F0 : Nat → Int32} {g M M0 M2 : Nat → Nat → Int32} {y : Nat → Option Nat} {c : WS} {cf tf fb : Nat → Int32} {cg tg gb gb2 gb' : Nat → Nat → Int32} {yb : Nat → Option Nat} {v sg a0 a1 a2 a3 : Int32} {E E0 : Nat → Int64} {U U0 : Nat → Nat → Int64} {K : Option TV → TH → Prop} {P A r : Nat → Int32} {l3 : TV}
theorem u4 : upd (upd (upd (upd r (4 * d) (A 0)) (4 * d + 1) (A 1)) (4 * d + 2) (A 2)) (4 * d + 3) (A 3) k = if 4 * d ≤ k ∧ k < 4 * d + 4 then A (k - 4 * d) else r k := by
  by_cases q : 4 * d ≤ k ∧ k < 4 * d + 4
  · rw [if_pos q]
    rcases (show k = 4 * d ∨ k = 4 * d + 1 ∨ k = 4 * d + 2 ∨ k = 4 * d + 3 by omega) with e | e | e | e
    · rw [e, pN (by omega), pN (by omega), pN (by omega), pE, Nat.sub_self]
    · rw [e, pN (by omega), pN (by omega), pE, Nat.add_sub_cancel_left]
    · rw [e, pN (by omega), pE, Nat.add_sub_cancel_left]
    · rw [e, pE, Nat.add_sub_cancel_left]
  · rw [if_neg q, pN (by omega), pN (by omega), pN (by omega), pN (by omega)]
theorem waw_w4 : waw (va_up gb 1 (w4 (gb 1) d a0 a1 a2 a3)) d (-1) = a0 + a1 + a2 + a3 := by
  unfold w4
  rw [Nat.add_zero, waw_m1, uE, pN (by omega), pN (by omega), pN (by omega), pE, pN (by omega), pN (by omega), pE, pN (by omega), pE, pE]
theorem xr_F1 (h1 : cf 1 = nI n) (hn : n ≤ 240) (hT : TP n tp (cg 0)) (hq : q ≤ n) (hd : d < 20) (c1 : ¬ num n tp q < 10) : ∃ p', ∀ K, tA sc iX1_readWeights 0 [vR (some 37), vR (some 13), vI (nI d), vU, vU] [] (hX h x G Y f g y ((fb, gb, yb)) c (cfS cf n tp (q) (-1)) cg tf tg) K = K none (hX h x G Y f g y ((fb, va_up gb 1 p', yb)) c (cfS cf n tp (q) (nI q)) cg tf tg) := by
  obtain ⟨p', hp⟩ := xw_F (sc := sc) (h := h) (x := x) (G := G) (Y := Y) (f := f) (g := g) (y := y) (c := c) (cf := cf) (cg := cg) (tf := tf) (tg := tg) (n := n) (tp := tp) (fb := fb) (yb := yb) (q := q) (p := q) (d := d) (by omega) hd 3 1 (va_up gb 1 (upd (gb 1) (4 * d + 0) 0)) (vI (nI q)) rfl
  refine ⟨p', fun K => ?_⟩
  rw [xw_0, xw_n h1 hn hT hq hd (by decide) c1, hp, uU]
theorem xr_F2 (h1 : cf 1 = nI n) (hn : n ≤ 240) (hT : TP n tp (cg 0)) (hq : q ≤ n) (hd : d < 20) (e1 : nx n tp q = q1) (c1 : num n tp q < 10) (c2 : ¬ num n tp q1 < 10) : ∃ p', ∀ K, tA sc iX1_readWeights 0 [vR (some 37), vR (some 13), vI (nI d), vU, vU] [] (hX h x G Y f g y ((fb, gb, yb)) c (cfS cf n tp (q) (-1)) cg tf tg) K = K none (hX h x G Y f g y ((fb, va_up gb 1 p', yb)) c (cfS cf n tp (q1) (nI q1)) cg tf tg) := by
  have l1 : q1 ≤ n := e1 ▸ nx_le hq
  obtain ⟨p', hp⟩ := xw_F (sc := sc) (h := h) (x := x) (G := G) (Y := Y) (f := f) (g := g) (y := y) (c := c) (cf := cf) (cg := cg) (tf := tf) (tg := tg) (n := n) (tp := tp) (fb := fb) (yb := yb) (q := q1) (p := q1) (d := d) (by omega) hd 2 2 (va_up gb 1 (upd (upd (gb 1) (4 * d + 0) (nI (num n tp q))) (4 * d + 1) 0)) (vI (nI q1)) rfl
  refine ⟨p', fun K => ?_⟩
  rw [xw_0, xw_s h1 hn hT hq hd (by decide) c1, e1, xw_n h1 hn hT l1 hd (by decide) c2]
  simp only [uE, uU]
  rw [hp, uU]
theorem xr_F3 (h1 : cf 1 = nI n) (hn : n ≤ 240) (hT : TP n tp (cg 0)) (hq : q ≤ n) (hd : d < 20) (e1 : nx n tp q = q1) (e2 : nx n tp q1 = q2) (c1 : num n tp q < 10) (c2 : num n tp q1 < 10) (c3 : ¬ num n tp q2 < 10) : ∃ p', ∀ K, tA sc iX1_readWeights 0 [vR (some 37), vR (some 13), vI (nI d), vU, vU] [] (hX h x G Y f g y ((fb, gb, yb)) c (cfS cf n tp (q) (-1)) cg tf tg) K = K none (hX h x G Y f g y ((fb, va_up gb 1 p', yb)) c (cfS cf n tp (q2) (nI q2)) cg tf tg) := by
  have l1 : q1 ≤ n := e1 ▸ nx_le hq
  have l2 : q2 ≤ n := e2 ▸ nx_le l1
  obtain ⟨p', hp⟩ := xw_F (sc := sc) (h := h) (x := x) (G := G) (Y := Y) (f := f) (g := g) (y := y) (c := c) (cf := cf) (cg := cg) (tf := tf) (tg := tg) (n := n) (tp := tp) (fb := fb) (yb := yb) (q := q2) (p := q2) (d := d) (by omega) hd 1 3 (va_up gb 1 (upd (upd (upd (gb 1) (4 * d + 0) (nI (num n tp q))) (4 * d + 1) (nI (num n tp q1))) (4 * d + 2) 0)) (vI (nI q2)) rfl
  refine ⟨p', fun K => ?_⟩
  rw [xw_0, xw_s h1 hn hT hq hd (by decide) c1, e1, xw_s h1 hn hT l1 hd (by decide) c2, e2, xw_n h1 hn hT l2 hd (by decide) c3]
  simp only [uE, uU]
  rw [hp, uU]
theorem xr_F4 (h1 : cf 1 = nI n) (hn : n ≤ 240) (hT : TP n tp (cg 0)) (hq : q ≤ n) (hd : d < 20) (e1 : nx n tp q = q1) (e2 : nx n tp q1 = q2) (e3 : nx n tp q2 = q3) (c1 : num n tp q < 10) (c2 : num n tp q1 < 10) (c3 : num n tp q2 < 10) (c4 : ¬ num n tp q3 < 10) : ∃ p', ∀ K, tA sc iX1_readWeights 0 [vR (some 37), vR (some 13), vI (nI d), vU, vU] [] (hX h x G Y f g y ((fb, gb, yb)) c (cfS cf n tp (q) (-1)) cg tf tg) K = K none (hX h x G Y f g y ((fb, va_up gb 1 p', yb)) c (cfS cf n tp (q3) (nI q3)) cg tf tg) := by
  have l1 : q1 ≤ n := e1 ▸ nx_le hq
  have l2 : q2 ≤ n := e2 ▸ nx_le l1
  have l3 : q3 ≤ n := e3 ▸ nx_le l2
  obtain ⟨p', hp⟩ := xw_F (sc := sc) (h := h) (x := x) (G := G) (Y := Y) (f := f) (g := g) (y := y) (c := c) (cf := cf) (cg := cg) (tf := tf) (tg := tg) (n := n) (tp := tp) (fb := fb) (yb := yb) (q := q3) (p := q3) (d := d) (by omega) hd 0 4 (va_up gb 1 (upd (upd (upd (upd (gb 1) (4 * d + 0) (nI (num n tp q))) (4 * d + 1) (nI (num n tp q1))) (4 * d + 2) (nI (num n tp q2))) (4 * d + 3) 0)) (vI (nI q3)) rfl
  refine ⟨p', fun K => ?_⟩
  rw [xw_0, xw_s h1 hn hT hq hd (by decide) c1, e1, xw_s h1 hn hT l1 hd (by decide) c2, e2, xw_s h1 hn hT l2 hd (by decide) c3, e3, xw_n h1 hn hT l3 hd (by decide) c4]
  simp only [uE, uU]
  rw [hp, uU]
theorem xr_Z (h1 : cf 1 = nI n) (hn : n ≤ 240) (hT : TP n tp (cg 0)) (hq : q ≤ n) (hd : d < 20) (e1 : nx n tp q = q1) (e2 : nx n tp q1 = q2) (e3 : nx n tp q2 = q3) (c1 : num n tp q < 10) (c2 : num n tp q1 < 10) (c3 : num n tp q2 < 10) (c4 : num n tp q3 < 10) (cz : num n tp q + num n tp q1 + num n tp q2 + num n tp q3 = 0) : ∃ p', ∀ K, tA sc iX1_readWeights 0 [vR (some 37), vR (some 13), vI (nI d), vU, vU] [] (hX h x G Y f g y ((fb, gb, yb)) c (cfS cf n tp (q) (-1)) cg tf tg) K = K none (hX h x G Y f g y ((fb, va_up gb 1 p', yb)) c (cfS cf n tp (nx n tp q3) (nI q3)) cg tf tg) := by
  have l1 : q1 ≤ n := e1 ▸ nx_le hq
  have l2 : q2 ≤ n := e2 ▸ nx_le l1
  have l3 : q3 ≤ n := e3 ▸ nx_le l2
  have hz := waw_w4 (gb := gb) (d := d) (a0 := nI (num n tp q)) (a1 := nI (num n tp q1)) (a2 := nI (num n tp q2)) (a3 := nI (num n tp q3))
  rw [nI_add, nI_add, nI_add, cz] at hz
  refine ⟨w4 (gb 1) d (nI (num n tp q)) (nI (num n tp q1)) (nI (num n tp q2)) (nI (num n tp q3)), fun K => ?_⟩
  rw [xw_0, xw_s h1 hn hT hq hd (by decide) c1, e1, xw_s h1 hn hT l1 hd (by decide) c2, e2, xw_s h1 hn hT l2 hd (by decide) c3, e3, xw_s h1 hn hT l3 hd (by decide) c4]
  simp only [uE, uU]
  exact xw_z hd hz
theorem xr_K (h1 : cf 1 = nI n) (hn : n ≤ 240) (hT : TP n tp (cg 0)) (hq : q ≤ n) (hd : d < 20) (e1 : nx n tp q = q1) (e2 : nx n tp q1 = q2) (e3 : nx n tp q2 = q3) (c1 : num n tp q < 10) (c2 : num n tp q1 < 10) (c3 : num n tp q2 < 10) (c4 : num n tp q3 < 10) (cz : ¬ num n tp q + num n tp q1 + num n tp q2 + num n tp q3 = 0) : tA sc iX1_readWeights 0 [vR (some 37), vR (some 13), vI (nI d), vU, vU] [] (hX h x G Y f g y ((fb, gb, yb)) c (cfS cf n tp (q) (-1)) cg tf tg) K = K none (hX h x G Y f g y ((fb, va_up gb 1 (w4 (gb 1) d (nI (num n tp q)) (nI (num n tp q1)) (nI (num n tp q2)) (nI (num n tp q3))), yb)) c (cfS cf n tp (nx n tp q3) (-1)) cg tf tg) := by
  have l1 : q1 ≤ n := e1 ▸ nx_le hq
  have l2 : q2 ≤ n := e2 ▸ nx_le l1
  have l3 : q3 ≤ n := e3 ▸ nx_le l2
  have hz := waw_w4 (gb := gb) (d := d) (a0 := nI (num n tp q)) (a1 := nI (num n tp q1)) (a2 := nI (num n tp q2)) (a3 := nI (num n tp q3))
  rw [nI_add, nI_add, nI_add] at hz
  have hz0 : ¬ waw (va_up gb 1 (w4 (gb 1) d (nI (num n tp q)) (nI (num n tp q1)) (nI (num n tp q2)) (nI (num n tp q3)))) d (-1) = 0 := by
    rw [hz]
    exact nI_ne0 (by omega) (by omega)
  rw [xw_0, xw_s h1 hn hT hq hd (by decide) c1, e1, xw_s h1 hn hT l1 hd (by decide) c2, e2, xw_s h1 hn hT l2 hd (by decide) c3, e3, xw_s h1 hn hT l3 hd (by decide) c4]
  simp only [uE, uU]
  exact xw_k hd hz0
theorem day_tail (h1 : cf 1 = nI n) (hn : n ≤ 240) (hT : TP n tp (cg 0)) (h9 : F 9 = nI n) (hQ : TQ n tp (M2 8)) (hq : q ≤ n) (hd : d < 20) (hg : gb2 2 d = -1) : (∃ (gb' : Nat → Nat → Int32) (qs p : Nat), p ≤ n ∧ (∀ K, tA sc iX1_readDay 61 [vR (some 37), vR (some 13), vI (nI d), vI (nI wv)] [] (hX h x G Y f g y ((fb, gb2, yb)) c (cfS cf n tp (q) (-1)) cg tf tg) (fun v h1 => tA sc iX1_readThing 32 [vR (some 37), vR (some 13), vI (-1)] (tpu v []) h1 K) = K none (hX h x G Y f g y ((fb, gb', yb)) c (cfS cf n tp (qs) (nI p)) cg tf tg)) ∧ (∀ h K, tA sc iX11_wantDay 168 [vR (some m), vI (nI d), vI (nI wv), vI 4, vU] [] (hM h m (FmS (F) n tp (q) (1)) (EmS E n tp (q)) (M2) U) (fun v h1 => tA sc iX11_wantClause 88 [vR (some m)] (tpu v []) h1 K) = K none (hM h m (FmS (F) n tp (p) (0)) (EmS E n tp (p)) (M2) U))) ∨ (∃ (gb' : Nat → Nat → Int32) (sg : Int32) (q' : Nat), (sg = -1 ∨ inR sg 4) ∧ q ≤ q' ∧ q' ≤ n ∧ (∀ e, gb' 2 e = if e = d then sg else gb2 2 e) ∧ (∀ s, s ≠ 2 → gb' s = gb2 s) ∧ (∀ K, tA sc iX1_readDay 61 [vR (some 37), vR (some 13), vI (nI d), vI (nI wv)] [] (hX h x G Y f g y ((fb, gb2, yb)) c (cfS cf n tp (q) (-1)) cg tf tg) (fun v h1 => tA sc iX1_readThing 32 [vR (some 37), vR (some 13), vI (-1)] (tpu v []) h1 K) = K none (hX h x G Y f g y ((fb, gb', yb)) c (cfS cf n tp (q') (-1)) cg tf tg)) ∧ (∀ h K, tA sc iX11_wantDay 168 [vR (some m), vI (nI d), vI (nI wv), vI 4, vU] [] (hM h m (FmS (F) n tp (q) (1)) (EmS E n tp (q)) (M2) U) (fun v h1 => tA sc iX11_wantClause 88 [vR (some m)] (tpu v []) h1 K) = K none (hM h m (FmS (F) n tp (q') (1)) (EmS E n tp (q')) (dayM M2 d (nI wv) sg) U))) := by
  by_cases z9 : tkn n tp q = 9
  · obtain ⟨q1, e1⟩ : ∃ q1, nx n tp q = q1 := ⟨_, rfl⟩
    obtain ⟨q2, e2⟩ : ∃ q2, nx n tp q1 = q2 := ⟨_, rfl⟩
    have l1 : q1 ≤ n := e1 ▸ nx_le hq
    have l2 : q2 ≤ n := e2 ▸ nx_le l1
    have g1 : q ≤ q1 := e1 ▸ nx_ge
    have g2 : q1 ≤ q2 := e2 ▸ nx_ge
    by_cases c1 : num n tp q1 < 4
    · by_cases c5 : tko n tp q2 = 3 ∧ tp q2 = 59
      · refine Or.inr ⟨va_up gb2 2 (upd (gb2 2) d (nI (num n tp q1))), nI (num n tp q1), nx n tp q2, Or.inr ⟨_, c1, rfl⟩, Nat.le_trans (show q ≤ q2 by omega) nx_ge, nx_le l2, fun e => ?_, fun s hs => uN hs, fun K => ?_, fun h K => ?_⟩
        · rw [uE]
          by_cases y : e = d
          · rw [if_pos y, y, pE]
          · rw [if_neg y, pN y]
        · rw [x_day61 h1 hn hT hq hd z9 e1, if_pos c1, e2, tpu_none, x_th32, x_thE h1 hn hT l2, if_pos c5]
        · rw [m_day168 h9 hn hQ hq hd z9 e1 e2, if_pos c1, if_pos c5, tpu_none, m_cl88]
      · refine Or.inl ⟨va_up gb2 2 (upd (gb2 2) d (nI (num n tp q1))), q2, q2, l2, fun K => ?_, fun h K => ?_⟩
        · rw [x_day61 h1 hn hT hq hd z9 e1, if_pos c1, e2, tpu_none, x_th32, x_thE h1 hn hT l2, if_neg c5]
        · rw [m_day168 h9 hn hQ hq hd z9 e1 e2, if_pos c1, if_neg c5, tpu_none, m_cl88]
    · refine Or.inl ⟨va_up gb2 2 (upd (gb2 2) d 0), q1, q1, l1, fun K => ?_, fun h K => ?_⟩
      · rw [x_day61 h1 hn hT hq hd z9 e1, if_neg c1, tpu_none, x_th32, x_thF (by omega)]
      · rw [m_day168 h9 hn hQ hq hd z9 e1 e2, if_neg c1, tpu_none, m_cl88]
  · by_cases c5 : tko n tp q = 3 ∧ tp q = 59
    · refine Or.inr ⟨gb2, -1, nx n tp q, Or.inl rfl, nx_ge, nx_le hq, fun e => ?_, fun s hs => rfl, fun K => ?_, fun h K => ?_⟩
      · by_cases y : e = d
        · rw [if_pos y, y]; exact hg
        · rw [if_neg y]
      · rw [x_day61n hn hT z9, tpu_none, x_th32, x_thE h1 hn hT hq, if_pos c5]
      · rw [m_day168n h9 hn hQ hq hd z9, if_pos c5, tpu_none, m_cl88]
    · refine Or.inl ⟨gb2, q, q, hq, fun K => ?_, fun h K => ?_⟩
      · rw [x_day61n hn hT z9, tpu_none, x_th32, x_thE h1 hn hT hq, if_neg c5]
      · rw [m_day168n h9 hn hQ hq hd z9, if_neg c5, tpu_none, m_cl88]
theorem day_fin (R : rQ 0 t ns cs D fb gb yb (F 17) (MFr F M)) (hd : d < 20) (hw : wv < 100) (hA : ∀ j, j < 4 → inR (P j) 10) (hs : ¬ P 0 + P 1 + P 2 + P 3 = 0) (hsg : sg = -1 ∨ inR sg 4) (b0 : gb2 0 = upd (upd (gb 0) d 10) d (nI wv)) (b1 : ∀ k, k < 80 → gb2 1 k = if 4 * d ≤ k ∧ k < 4 * d + 4 then P (k - 4 * d) else gb 1 k) (b2 : gb2 2 = upd (gb 2) d (-1)) (bo : ∀ s, s ≠ 0 → s ≠ 1 → s ≠ 2 → gb2 s = gb s) (t2 : ∀ e, gb' 2 e = if e = d then sg else gb2 2 e) (to : ∀ s, s ≠ 2 → gb' s = gb2 s) : rQ 0 t ns cs D fb gb' yb (F 17) (MFr F (dayM (va_up M 24 P) d (nI wv) sg)) := by
  refine rF_day (A := P) (sg := sg) (w := wv) R hd hw hA hs hsg ?_ ?_ ?_ ?_ ?_ ?_ ?_ ⟨rfl, rfl, rfl, rfl⟩
  · intro e he
    rw [to 0 (by decide), b0]
    by_cases y : e = d
    · rw [if_pos y, y, pE]
    · rw [if_neg y, pN y, pN y]
  · intro k hk
    rw [to 1 (by decide)]
    exact b1 k hk
  · intro e he
    rw [t2, b2]
    by_cases y : e = d
    · rw [if_pos y, if_pos y]
    · rw [if_neg y, if_neg y, pN y]
  · intro s s0 s1 s2
    rw [to s s2]
    exact bo s s0 s1 s2
  · intro e he
    show upd (M 19) d (nI wv) e = _
    by_cases y : e = d
    · rw [if_pos y, y, pE]
    · rw [if_neg y, pN y]
  · intro k hk
    exact u4 (A := P) (r := M 20)
  · intro e he
    show upd (M 21) d sg e = _
    by_cases y : e = d
    · rw [if_pos y, y, pE]
    · rw [if_neg y, pN y]
theorem kM_2 {p r : Nat → Int32} : kM M (va_up (va_up M 24 p) 24 r) := fun j h1 h2 h3 h4 h5 h6 => by rw [uN h6, uN h6]
theorem kM_day : kM M (dayM (va_up M 24 P) d v sg) := fun j h1 h2 h3 h4 h5 h6 => by
  unfold dayM
  rw [uN h2, uN h3, uN h1, uN h6]
set_option maxHeartbeats 4000000 in
theorem cl_day (h1 : cf 1 = nI n) (hn : n ≤ 240) (hT : TP n tp (cg 0)) (h9 : F 9 = nI n) (hQ : TQ n tp (M 8)) (hq : q < n) (R : rQ 0 t ns cs D fb gb yb (F 17) (MFr F M)) (X : xb D0 D ns) (hY : rY D yb) (d1 : 70 ≤ D0.2.1) (d2 : D0.2.1 < 900000) (z : tkn n tp q = 6) : (∃ (j : Nat) (D' : TH) (b' : WS) (qs p : Nat) (F' : Nat → Int32) (M' : Nat → Nat → Int32), j ≤ 5 ∧ p ≤ n ∧ xb D0 D' j ∧ rY D' b'.2.2 ∧ kF F F' ∧ kM M M' ∧ (∀ K, tA sc iX1_readThing 0 [vR (some 37), vR (some 13), vU] [] (hX (hM D 45 F0 E0 M0 U0) x G Y f g y ((fb, gb, yb)) c (cfS cf n tp (q) (-1)) cg tf tg) K = K none (hX (hM D' 45 F0 E0 M0 U0) x G Y f g y (b') c (cfS cf n tp (qs) (nI p)) cg tf tg)) ∧ (∀ h K, tA sc iX11_wantClause 0 [vR (some m)] [] (hM h m (FmS (F) n tp (q) (1)) (EmS E n tp (q)) (M) U) K = K none (hM h m (FmS (F') n tp (p) (0)) (EmS E n tp (p)) (M') U))) ∨ (∃ (D' : TH) (b' : WS) (q' t' ns' cs' : Nat) (F' : Nat → Int32) (M' : Nat → Nat → Int32), q < q' ∧ q' ≤ n ∧ xb D0 D' ns' ∧ rY D' b'.2.2 ∧ kF F F' ∧ kM M M' ∧ rQ 0 t' ns' cs' D' b'.1 b'.2.1 b'.2.2 (F' 17) (MFr F' M') ∧ (∀ K, tA sc iX1_readThing 0 [vR (some 37), vR (some 13), vU] [] (hX (hM D 45 F0 E0 M0 U0) x G Y f g y ((fb, gb, yb)) c (cfS cf n tp (q) (-1)) cg tf tg) K = K none (hX (hM D' 45 F0 E0 M0 U0) x G Y f g y (b') c (cfS cf n tp (q') (-1)) cg tf tg)) ∧ (∀ h K, tA sc iX11_wantClause 0 [vR (some m)] [] (hM h m (FmS (F) n tp (q) (1)) (EmS E n tp (q)) (M) U) K = K none (hM h m (FmS (F') n tp (q') (1)) (EmS E n tp (q')) (M') U))) := by
  have R0 := R
  obtain ⟨t20, n5, -⟩ := R
  have hb : ∀ k, k < n → tp k < 256 := fun k hk => (hQ k hk).1
  have hql : q ≤ n := Nat.le_of_lt hq
  obtain ⟨q1, e1⟩ : ∃ q1, nx n tp q = q1 := ⟨_, rfl⟩
  obtain ⟨q2, e2⟩ : ∃ q2, nx n tp q1 = q2 := ⟨_, rfl⟩
  obtain ⟨q3, e3⟩ : ∃ q3, nx n tp q2 = q3 := ⟨_, rfl⟩
  obtain ⟨q4, e4⟩ : ∃ q4, nx n tp q3 = q4 := ⟨_, rfl⟩
  have l1 : q1 ≤ n := e1 ▸ nx_le hql
  have l2 : q2 ≤ n := e2 ▸ nx_le l1
  have l3 : q3 ≤ n := e3 ▸ nx_le l2
  have l4 : q4 ≤ n := e4 ▸ nx_le l3
  have g1 : q < q1 := e1 ▸ nx_lt hq
  have g2 : q1 ≤ q2 := e2 ▸ nx_ge
  have g3 : q2 ≤ q3 := e3 ▸ nx_ge
  have g4 : q3 ≤ q4 := e4 ▸ nx_ge
  by_cases c1 : num n tp q1 < 20
  · by_cases c2 : tkn n tp q2 = 7
    · by_cases c3 : num n tp q3 < 100
      · obtain ⟨d, hd⟩ : ∃ d, num n tp q1 = d := ⟨_, rfl⟩
        obtain ⟨wv, hw⟩ : ∃ wv, num n tp q3 = wv := ⟨_, rfl⟩
        have hd20 : d < 20 := hd ▸ c1
        have hw100 : wv < 100 := hw ▸ c3
        have hQ1 : ∀ p, TQ n tp (va_up M 24 p 8) := fun p => hQ
        have hg1 : va_up (wfgd gb d) 0 (upd (wfgd gb d 0) d (nI wv)) 2 d = -1 := pE _ _ _
        have b0 : va_up (wfgd gb d) 0 (upd (wfgd gb d 0) d (nI wv)) 0 = upd (upd (gb 0) d 10) d (nI wv) := rfl
        have b2 : va_up (wfgd gb d) 0 (upd (wfgd gb d 0) d (nI wv)) 2 = upd (gb 2) d (-1) := rfl
        have bo : ∀ s, s ≠ 0 → s ≠ 1 → s ≠ 2 → va_up (wfgd gb d) 0 (upd (wfgd gb d 0) d (nI wv)) s = gb s := by
          intro s s0 s1 s2
          unfold wfgd
          rw [uN s0, uN s1, uN s2, uN s0]
        have b1 : ∀ k, va_up (wfgd gb d) 0 (upd (wfgd gb d 0) d (nI wv)) 1 k = if 4 * d ≤ k ∧ k < 4 * d + 4 then 1 else gb 1 k := by
          intro k
          show wfgw d (gb 1) k = _
          by_cases y : 4 * d ≤ k ∧ k < 4 * d + 4
          · rw [if_pos y]; exact wfgw_in y.1 y.2
          · rw [if_neg y]; exact wfgw_off (by omega)
        by_cases z8 : tkn n tp q4 = 8
        · obtain ⟨q5, e5⟩ : ∃ q5, nx n tp q4 = q5 := ⟨_, rfl⟩
          obtain ⟨q6, e6⟩ : ∃ q6, nx n tp q5 = q6 := ⟨_, rfl⟩
          obtain ⟨q7, e7⟩ : ∃ q7, nx n tp q6 = q7 := ⟨_, rfl⟩
          obtain ⟨q8, e8⟩ : ∃ q8, nx n tp q7 = q8 := ⟨_, rfl⟩
          obtain ⟨q9, e9⟩ : ∃ q9, nx n tp q8 = q9 := ⟨_, rfl⟩
          have l5 : q5 ≤ n := e5 ▸ nx_le l4
          have l6 : q6 ≤ n := e6 ▸ nx_le l5
          have l7 : q7 ≤ n := e7 ▸ nx_le l6
          have l8 : q8 ≤ n := e8 ▸ nx_le l7
          have l9 : q9 ≤ n := e9 ▸ nx_le l8
          have g5 : q4 ≤ q5 := e5 ▸ nx_ge
          have g6 : q5 ≤ q6 := e6 ▸ nx_ge
          have g7 : q6 ≤ q7 := e7 ▸ nx_ge
          have g8 : q7 ≤ q8 := e8 ▸ nx_ge
          have g9 : q8 ≤ q9 := e9 ▸ nx_ge
          by_cases k1 : num n tp q5 < 10
          · by_cases k2 : num n tp q6 < 10
            · by_cases k3 : num n tp q7 < 10
              · by_cases k4 : num n tp q8 < 10
                · by_cases k5 : num n tp q5 + num n tp q6 + num n tp q7 + num n tp q8 = 0
                  · obtain ⟨p', hp⟩ := xr_Z (sc := sc) (h := hM D 45 F0 E0 M0 U0) (x := x) (G := G) (Y := Y) (f := f) (g := g) (y := y) (c := c) (cf := cf) (cg := cg) (tf := tf) (tg := tg) (n := n) (tp := tp) (fb := fb) (yb := yb) (gb := va_up (wfgd gb d) 0 (upd (wfgd gb d 0) d (nI wv))) (q := q5) h1 hn hT l5 hd20 e6 e7 e8 k1 k2 k3 k4 k5
                    refine Or.inl ⟨ns, D, (fb, va_up (va_up (wfgd gb d) 0 (upd (wfgd gb d 0) d (nI wv))) 1 p', yb), nx n tp q8, q8, F, va_up (va_up M 24 (P1 (M 24))) 24 (P4 (va_up M 24 (P1 (M 24)) 24) (nI (num n tp q5)) (nI (num n tp q6)) (nI (num n tp q7)) (vl n tp q8)), n5, l8, X, hY, kF_rf, kM_2, fun K => ?_, fun h K => ?_⟩
                    · rw [x_thD hn hT z, x_day0 h1 hn hT hql e1 e2 e3 e4, if_pos c1, if_pos c2, if_pos c3, hd, hw, x_day30 hd20, x_day42 h1 hn hT l4 z8, e5, hp, tpu_none, x_day61F (by omega), tpu_none, x_th32, x_thF (by omega)]
                    · rw [m_clD hb z, m_day0 h9 hn hQ hql e1 e2 e3 e4, if_pos c1, if_pos c2, if_pos c3, hd, hw, m_day45F4 h9 hn (hQ1 _) l4 z8 e5 e6 e7 e8 k1 k2 k3 (Or.inr k5), tpu_none, m_cl88]
                  · rcases day_tail (sc := sc) (h := hM D 45 F0 E0 M0 U0) (x := x) (G := G) (Y := Y) (f := f) (g := g) (y := y) (c := c) (cf := cf) (cg := cg) (tf := tf) (tg := tg) (n := n) (tp := tp) (fb := fb) (yb := yb) (m := m) (E := E) (U := U) (F := F) (q := q9) (d := d) (wv := wv) (gb2 := va_up (va_up (wfgd gb d) 0 (upd (wfgd gb d 0) d (nI wv))) 1 (w4 (va_up (wfgd gb d) 0 (upd (wfgd gb d 0) d (nI wv)) 1) d (nI (num n tp q5)) (nI (num n tp q6)) (nI (num n tp q7)) (nI (num n tp q8)))) (M2 := va_up (va_up M 24 (P1 (M 24))) 24 (P4 (va_up M 24 (P1 (M 24)) 24) (nI (num n tp q5)) (nI (num n tp q6)) (nI (num n tp q7)) (nI (num n tp q8)))) h1 hn hT h9 hQ l9 hd20 hg1 with ⟨gb', qs, p, tp1, tc, tm⟩ | ⟨gb', sg, q', ts, tq1, tq2, tt, to, tc, tm⟩
                    · refine Or.inl ⟨ns, D, (fb, gb', yb), qs, p, F, va_up (va_up M 24 (P1 (M 24))) 24 (P4 (va_up M 24 (P1 (M 24)) 24) (nI (num n tp q5)) (nI (num n tp q6)) (nI (num n tp q7)) (nI (num n tp q8))), n5, tp1, X, hY, kF_rf, kM_2, fun K => ?_, fun h K => ?_⟩
                      · rw [x_thD hn hT z, x_day0 h1 hn hT hql e1 e2 e3 e4, if_pos c1, if_pos c2, if_pos c3, hd, hw, x_day30 hd20, x_day42 h1 hn hT l4 z8, e5, xr_K h1 hn hT l5 hd20 e6 e7 e8 k1 k2 k3 k4 k5, e9, tpu_none]
                        exact tc K
                      · rw [m_clD hb z, m_day0 h9 hn hQ hql e1 e2 e3 e4, if_pos c1, if_pos c2, if_pos c3, hd, hw, m_day45_ h9 hn (hQ1 _) l4 z8 e5 e6 e7 e8 k1 k2 k3 k4 k5, e9]
                        exact tm h K
                    · refine Or.inr ⟨D, (fb, gb', yb), q', t, ns, cs, F, dayM (va_up M 24 (P4 (va_up M 24 (P1 (M 24)) 24) (nI (num n tp q5)) (nI (num n tp q6)) (nI (num n tp q7)) (nI (num n tp q8)))) d (nI wv) sg, by omega, tq2, X, hY, kF_rf, kM_day, ?_, fun K => ?_, fun h K => ?_⟩
                      · refine day_fin (gb2 := va_up (va_up (wfgd gb d) 0 (upd (wfgd gb d 0) d (nI wv))) 1 (w4 (va_up (wfgd gb d) 0 (upd (wfgd gb d 0) d (nI wv)) 1) d (nI (num n tp q5)) (nI (num n tp q6)) (nI (num n tp q7)) (nI (num n tp q8)))) R0 hd20 hw100 ?_ ?_ ts b0 ?_ b2 ?_ tt to
                        · intro j hj
                          rcases (show j = 0 ∨ j = 1 ∨ j = 2 ∨ j = 3 by omega) with rfl | rfl | rfl | rfl
                          · exact ⟨_, k1, rfl⟩
                          · exact ⟨_, k2, rfl⟩
                          · exact ⟨_, k3, rfl⟩
                          · exact ⟨_, k4, rfl⟩
                        · show ¬ nI (num n tp q5) + nI (num n tp q6) + nI (num n tp q7) + nI (num n tp q8) = 0
                          rw [nI_add, nI_add, nI_add]
                          exact nI_ne0 (by omega) (by omega)
                        · intro k hk
                          have := u4 (A := P4 (va_up M 24 (P1 (M 24)) 24) (nI (num n tp q5)) (nI (num n tp q6)) (nI (num n tp q7)) (nI (num n tp q8))) (r := va_up (wfgd gb d) 0 (upd (wfgd gb d 0) d (nI wv)) 1) (d := d) (k := k)
                          refine Eq.trans this ?_
                          by_cases y : 4 * d ≤ k ∧ k < 4 * d + 4
                          · rw [if_pos y, if_pos y]
                          · rw [if_neg y, if_neg y, b1, if_neg y]
                        · intro s s0 s1 s2
                          rw [uN s1]
                          exact bo s s0 s1 s2
                      · rw [x_thD hn hT z, x_day0 h1 hn hT hql e1 e2 e3 e4, if_pos c1, if_pos c2, if_pos c3, hd, hw, x_day30 hd20, x_day42 h1 hn hT l4 z8, e5, xr_K h1 hn hT l5 hd20 e6 e7 e8 k1 k2 k3 k4 k5, e9, tpu_none]
                        exact tc K
                      · have tm := tm h K
                        rw [uU] at tm
                        rw [m_clD hb z, m_day0 h9 hn hQ hql e1 e2 e3 e4, if_pos c1, if_pos c2, if_pos c3, hd, hw, m_day45_ h9 hn (hQ1 _) l4 z8 e5 e6 e7 e8 k1 k2 k3 k4 k5, e9, uU]
                        exact tm
                · obtain ⟨p', hp⟩ := xr_F4 (sc := sc) (h := hM D 45 F0 E0 M0 U0) (x := x) (G := G) (Y := Y) (f := f) (g := g) (y := y) (c := c) (cf := cf) (cg := cg) (tf := tf) (tg := tg) (n := n) (tp := tp) (fb := fb) (yb := yb) (gb := va_up (wfgd gb d) 0 (upd (wfgd gb d 0) d (nI wv))) (q := q5) h1 hn hT l5 hd20 e6 e7 e8 k1 k2 k3 k4
                  refine Or.inl ⟨ns, D, (fb, va_up (va_up (wfgd gb d) 0 (upd (wfgd gb d 0) d (nI wv))) 1 p', yb), q8, q8, F, va_up (va_up M 24 (P1 (M 24))) 24 (P4 (va_up M 24 (P1 (M 24)) 24) (nI (num n tp q5)) (nI (num n tp q6)) (nI (num n tp q7)) (vl n tp q8)), n5, l8, X, hY, kF_rf, kM_2, fun K => ?_, fun h K => ?_⟩
                  · rw [x_thD hn hT z, x_day0 h1 hn hT hql e1 e2 e3 e4, if_pos c1, if_pos c2, if_pos c3, hd, hw, x_day30 hd20, x_day42 h1 hn hT l4 z8, e5, hp, tpu_none, x_day61F (by omega), tpu_none, x_th32, x_thF (by omega)]
                  · rw [m_clD hb z, m_day0 h9 hn hQ hql e1 e2 e3 e4, if_pos c1, if_pos c2, if_pos c3, hd, hw, m_day45F4 h9 hn (hQ1 _) l4 z8 e5 e6 e7 e8 k1 k2 k3 (Or.inl k4), tpu_none, m_cl88]
              · obtain ⟨p', hp⟩ := xr_F3 (sc := sc) (h := hM D 45 F0 E0 M0 U0) (x := x) (G := G) (Y := Y) (f := f) (g := g) (y := y) (c := c) (cf := cf) (cg := cg) (tf := tf) (tg := tg) (n := n) (tp := tp) (fb := fb) (yb := yb) (gb := va_up (wfgd gb d) 0 (upd (wfgd gb d 0) d (nI wv))) (q := q5) h1 hn hT l5 hd20 e6 e7 k1 k2 k3
                refine Or.inl ⟨ns, D, (fb, va_up (va_up (wfgd gb d) 0 (upd (wfgd gb d 0) d (nI wv))) 1 p', yb), q7, q7, F, va_up (va_up M 24 (P1 (M 24))) 24 (P4 (va_up M 24 (P1 (M 24)) 24) (nI (num n tp q5)) (nI (num n tp q6)) (vl n tp q7) (vl n tp q7)), n5, l7, X, hY, kF_rf, kM_2, fun K => ?_, fun h K => ?_⟩
                · rw [x_thD hn hT z, x_day0 h1 hn hT hql e1 e2 e3 e4, if_pos c1, if_pos c2, if_pos c3, hd, hw, x_day30 hd20, x_day42 h1 hn hT l4 z8, e5, hp, tpu_none, x_day61F (by omega), tpu_none, x_th32, x_thF (by omega)]
                · rw [m_clD hb z, m_day0 h9 hn hQ hql e1 e2 e3 e4, if_pos c1, if_pos c2, if_pos c3, hd, hw, m_day45F3 h9 hn (hQ1 _) l4 z8 e5 e6 e7 k1 k2 k3, tpu_none, m_cl88]
            · obtain ⟨p', hp⟩ := xr_F2 (sc := sc) (h := hM D 45 F0 E0 M0 U0) (x := x) (G := G) (Y := Y) (f := f) (g := g) (y := y) (c := c) (cf := cf) (cg := cg) (tf := tf) (tg := tg) (n := n) (tp := tp) (fb := fb) (yb := yb) (gb := va_up (wfgd gb d) 0 (upd (wfgd gb d 0) d (nI wv))) (q := q5) h1 hn hT l5 hd20 e6 k1 k2
              refine Or.inl ⟨ns, D, (fb, va_up (va_up (wfgd gb d) 0 (upd (wfgd gb d 0) d (nI wv))) 1 p', yb), q6, q6, F, va_up (va_up M 24 (P1 (M 24))) 24 (P4 (va_up M 24 (P1 (M 24)) 24) (nI (num n tp q5)) (vl n tp q6) (vl n tp q6) (vl n tp q6)), n5, l6, X, hY, kF_rf, kM_2, fun K => ?_, fun h K => ?_⟩
              · rw [x_thD hn hT z, x_day0 h1 hn hT hql e1 e2 e3 e4, if_pos c1, if_pos c2, if_pos c3, hd, hw, x_day30 hd20, x_day42 h1 hn hT l4 z8, e5, hp, tpu_none, x_day61F (by omega), tpu_none, x_th32, x_thF (by omega)]
              · rw [m_clD hb z, m_day0 h9 hn hQ hql e1 e2 e3 e4, if_pos c1, if_pos c2, if_pos c3, hd, hw, m_day45F2 h9 hn (hQ1 _) l4 z8 e5 e6 k1 k2, tpu_none, m_cl88]
          · obtain ⟨p', hp⟩ := xr_F1 (sc := sc) (h := hM D 45 F0 E0 M0 U0) (x := x) (G := G) (Y := Y) (f := f) (g := g) (y := y) (c := c) (cf := cf) (cg := cg) (tf := tf) (tg := tg) (n := n) (tp := tp) (fb := fb) (yb := yb) (gb := va_up (wfgd gb d) 0 (upd (wfgd gb d 0) d (nI wv))) (q := q5) h1 hn hT l5 hd20 k1
            refine Or.inl ⟨ns, D, (fb, va_up (va_up (wfgd gb d) 0 (upd (wfgd gb d 0) d (nI wv))) 1 p', yb), q5, q5, F, va_up (va_up M 24 (P1 (M 24))) 24 (P4 (va_up M 24 (P1 (M 24)) 24) (vl n tp q5) (vl n tp q5) (vl n tp q5) (vl n tp q5)), n5, l5, X, hY, kF_rf, kM_2, fun K => ?_, fun h K => ?_⟩
            · rw [x_thD hn hT z, x_day0 h1 hn hT hql e1 e2 e3 e4, if_pos c1, if_pos c2, if_pos c3, hd, hw, x_day30 hd20, x_day42 h1 hn hT l4 z8, e5, hp, tpu_none, x_day61F (by omega), tpu_none, x_th32, x_thF (by omega)]
            · rw [m_clD hb z, m_day0 h9 hn hQ hql e1 e2 e3 e4, if_pos c1, if_pos c2, if_pos c3, hd, hw, m_day45F1 h9 hn (hQ1 _) l4 z8 e5 k1, tpu_none, m_cl88]
        · rcases day_tail (sc := sc) (h := hM D 45 F0 E0 M0 U0) (x := x) (G := G) (Y := Y) (f := f) (g := g) (y := y) (c := c) (cf := cf) (cg := cg) (tf := tf) (tg := tg) (n := n) (tp := tp) (fb := fb) (yb := yb) (m := m) (E := E) (U := U) (F := F) (q := q4) (d := d) (wv := wv) (gb2 := va_up (wfgd gb d) 0 (upd (wfgd gb d 0) d (nI wv))) (M2 := va_up M 24 (P1 (M 24))) h1 hn hT h9 hQ l4 hd20 hg1 with ⟨gb', qs, p, tp1, tc, tm⟩ | ⟨gb', sg, q', ts, tq1, tq2, tt, to, tc, tm⟩
          · refine Or.inl ⟨ns, D, (fb, gb', yb), qs, p, F, va_up M 24 (P1 (M 24)), n5, tp1, X, hY, kF_rf, kM_up (k := 24) (P := P1 (M 24)) (by omega), fun K => ?_, fun h K => ?_⟩
            · rw [x_thD hn hT z, x_day0 h1 hn hT hql e1 e2 e3 e4, if_pos c1, if_pos c2, if_pos c3, hd, hw, x_day30 hd20, x_day42n hn hT z8]
              exact tc K
            · rw [m_clD hb z, m_day0 h9 hn hQ hql e1 e2 e3 e4, if_pos c1, if_pos c2, if_pos c3, hd, hw, m_day45n hb z8]
              exact tm h K
          · refine Or.inr ⟨D, (fb, gb', yb), q', t, ns, cs, F, dayM (va_up M 24 (P1 (M 24))) d (nI wv) sg, by omega, tq2, X, hY, kF_rf, kM_day, ?_, fun K => ?_, fun h K => ?_⟩
            · refine day_fin (gb2 := va_up (wfgd gb d) 0 (upd (wfgd gb d 0) d (nI wv))) R0 hd20 hw100 ?_ ?_ ts b0 ?_ b2 bo tt to
              · intro j hj
                rcases (show j = 0 ∨ j = 1 ∨ j = 2 ∨ j = 3 by omega) with rfl | rfl | rfl | rfl <;> exact ⟨1, by decide, rfl⟩
              · show ¬ (1 : Int32) + 1 + 1 + 1 = 0
                decide
              · intro k hk
                rw [b1]
                by_cases y : 4 * d ≤ k ∧ k < 4 * d + 4
                · rw [if_pos y, if_pos y]
                  rcases (show k - 4 * d = 0 ∨ k - 4 * d = 1 ∨ k - 4 * d = 2 ∨ k - 4 * d = 3 by omega) with e | e | e | e <;> rw [e] <;> rfl
                · rw [if_neg y, if_neg y]
            · rw [x_thD hn hT z, x_day0 h1 hn hT hql e1 e2 e3 e4, if_pos c1, if_pos c2, if_pos c3, hd, hw, x_day30 hd20, x_day42n hn hT z8]
              exact tc K
            · rw [m_clD hb z, m_day0 h9 hn hQ hql e1 e2 e3 e4, if_pos c1, if_pos c2, if_pos c3, hd, hw, m_day45n hb z8]
              exact tm h K
      · refine Or.inl ⟨ns, D, (fb, gb, yb), q3, q3, F, va_up M 24 (P1 (M 24)), n5, l3, X, hY, kF_rf, kM_up (by omega), fun K => ?_, fun h K => ?_⟩
        · rw [x_thD hn hT z, x_day0 h1 hn hT hql e1 e2 e3 e4, if_pos c1, if_pos c2, if_neg c3, tpu_none, x_th32, x_thF (by omega)]
        · rw [m_clD hb z, m_day0 h9 hn hQ hql e1 e2 e3 e4, if_pos c1, if_pos c2, if_neg c3, tpu_none, m_cl88]
    · refine Or.inl ⟨ns, D, (fb, gb, yb), q2, q2, F, va_up M 24 (P1 (M 24)), n5, l2, X, hY, kF_rf, kM_up (by omega), fun K => ?_, fun h K => ?_⟩
      · rw [x_thD hn hT z, x_day0 h1 hn hT hql e1 e2 e3 e4, if_pos c1, if_neg c2, tpu_none, x_th32, x_thF (by omega)]
      · rw [m_clD hb z, m_day0 h9 hn hQ hql e1 e2 e3 e4, if_pos c1, if_neg c2, tpu_none, m_cl88]
  · refine Or.inl ⟨ns, D, (fb, gb, yb), q1, q1, F, va_up M 24 (P1 (M 24)), n5, l1, X, hY, kF_rf, kM_up (by omega), fun K => ?_, fun h K => ?_⟩
    · rw [x_thD hn hT z, x_day0 h1 hn hT hql e1 e2 e3 e4, if_neg c1, tpu_none, x_th32, x_thF (by omega)]
    · rw [m_clD hb z, m_day0 h9 hn hQ hql e1 e2 e3 e4, if_neg c1, tpu_none, m_cl88]
/-- any thing -/
theorem clause (h1 : cf 1 = nI n) (hn : n ≤ 240) (hT : TP n tp (cg 0)) (h9 : F 9 = nI n) (hQ : TQ n tp (M 8)) (hq : q < n) (R : rQ 0 t ns cs D fb gb yb (F 17) (MFr F M)) (X : xb D0 D ns) (hY : rY D yb) (d1 : 70 ≤ D0.2.1) (d2 : D0.2.1 < 900000) : (∃ (j : Nat) (D' : TH) (b' : WS) (qs p : Nat) (F' : Nat → Int32) (M' : Nat → Nat → Int32), j ≤ 5 ∧ p ≤ n ∧ xb D0 D' j ∧ rY D' b'.2.2 ∧ kF F F' ∧ kM M M' ∧ (∀ K, tA sc iX1_readThing 0 [vR (some 37), vR (some 13), vU] [] (hX (hM D 45 F0 E0 M0 U0) x G Y f g y ((fb, gb, yb)) c (cfS cf n tp (q) (-1)) cg tf tg) K = K none (hX (hM D' 45 F0 E0 M0 U0) x G Y f g y (b') c (cfS cf n tp (qs) (nI p)) cg tf tg)) ∧ (∀ h K, tA sc iX11_wantClause 0 [vR (some m)] [] (hM h m (FmS (F) n tp (q) (1)) (EmS E n tp (q)) (M) U) K = K none (hM h m (FmS (F') n tp (p) (0)) (EmS E n tp (p)) (M') U))) ∨ (∃ (D' : TH) (b' : WS) (q' t' ns' cs' : Nat) (F' : Nat → Int32) (M' : Nat → Nat → Int32), q < q' ∧ q' ≤ n ∧ xb D0 D' ns' ∧ rY D' b'.2.2 ∧ kF F F' ∧ kM M M' ∧ rQ 0 t' ns' cs' D' b'.1 b'.2.1 b'.2.2 (F' 17) (MFr F' M') ∧ (∀ K, tA sc iX1_readThing 0 [vR (some 37), vR (some 13), vU] [] (hX (hM D 45 F0 E0 M0 U0) x G Y f g y ((fb, gb, yb)) c (cfS cf n tp (q) (-1)) cg tf tg) K = K none (hX (hM D' 45 F0 E0 M0 U0) x G Y f g y (b') c (cfS cf n tp (q') (-1)) cg tf tg)) ∧ (∀ h K, tA sc iX11_wantClause 0 [vR (some m)] [] (hM h m (FmS (F) n tp (q) (1)) (EmS E n tp (q)) (M) U) K = K none (hM h m (FmS (F') n tp (q') (1)) (EmS E n tp (q')) (M') U))) := by
  by_cases z0 : tkn n tp q < 6
  · exact cl_sayer h1 hn hT h9 hQ hq R X hY d1 d2 rfl z0
  · by_cases z1 : tkn n tp q = 6
    · exact cl_day h1 hn hT h9 hQ hq R X hY d1 d2 z1
    · by_cases z2 : tkn n tp q = 10
      · exact cl_said h1 hn hT h9 hQ hq R X hY d1 d2 z2
      · by_cases z3 : tkn n tp q = 11
        · exact cl_now h1 hn hT h9 hQ hq R X hY d1 d2 z3
        · exact cl_none h1 hn hT h9 hQ hq R X hY d1 d2 z0 z1 z2 z3
end S98u
