/-! A MORNING -/
section S25
variable {sc : Nat × (Nat → Int32)} {h : TH} {w d k c t j o kd nu a : Nat} {f : Nat → Int32} {g : Nat → Nat → Int32} {y : Nat → Option Nat} {s x : Int32} {K : Option TV → TH → Prop}
theorem wlast_in {top : Nat} (h : top < 20) : wlast g t top = -1 ∨ inR (wlast g t top) 20 := by
  unfold wlast
  split
  · exact Or.inr ⟨_, by omega, rfl⟩
  · exact Or.inl rfl
theorem wltd_in (h : t < 20) : wltd g t = -1 ∨ inR (wltd g t) 20 := by
  unfold wltd
  split
  · exact Or.inl rfl
  · exact Or.inr ⟨_, h, rfl⟩
theorem wdts_in (h2 : t ≤ 20) : wdts g t c kd a = -1 ∨ (inR (wdts g t c kd a) 20 ∧ t < 20 ∧ ¬ c = 40) := by
  unfold wdts
  by_cases q : t = 20 ∨ c = 40
  · rw [if_pos q]; exact Or.inl rfl
  · rw [if_neg q]
    have ht : t < 20 := by omega
    have key : wcho g t kd a = -1 ∨ inR (wcho g t kd a) 20 := by
      unfold wcho
      split
      · exact Or.inl rfl
      · exact wlast_in (by omega)
      · exact wltd_in ht
      · split
        · exact Or.inl rfl
        · exact wltd_in ht
      · exact wlast_in (by omega)
      · split
        · exact Or.inl rfl
        · exact Or.inr ⟨_, ht, rfl⟩
    rcases key with e | e
    · exact Or.inl e
    · exact Or.inr ⟨e, ht, fun z => q (Or.inr z)⟩
/-- what a sayer's speaking leaves: how many sayings there are, and the rows -/
def wspkF (nu d : Nat) : Nat → Nat × (Nat → Nat → Int32) → Nat × (Nat → Nat → Int32) := fun i a => (a.1 + 1, wsellG a.2 a.1 nu d (nI i))
def wspk (t kd nu a : Nat) (q : Nat × (Nat → Nat → Int32)) : Nat × (Nat → Nat → Int32) :=
  if wdts q.2 t q.1 kd a < 0 then q else lfold (wspkF nu (wdts q.2 t q.1 kd a).toNatClampNeg) (min 4 (wfst q.2 (wdts q.2 t q.1 kd a).toNatClampNeg kd a + min (wbr kd) (40 - q.1)) - wfst q.2 (wdts q.2 t q.1 kd a).toNatClampNeg kd a) (wfst q.2 (wdts q.2 t q.1 kd a).toNatClampNeg kd a) q
theorem updS (f : Nat → Int32) (k : Nat) : upd f k (f k) = f := by
  funext j
  unfold upd
  by_cases e : j = k
  · rw [if_pos e, e]
  · rw [if_neg e]
theorem updU (f : Nat → Int32) (k : Nat) (v v' : Int32) : upd (upd f k v) k v' = upd f k v' := by
  funext j
  unfold upd
  by_cases e : j = k
  · rw [if_pos e, if_pos e]
  · rw [if_neg e, if_neg e, if_neg e]
theorem sX9_sellSayingU (h4 : c < 40) (hd : d < 20) (hk : k < 5) : tA sc iX9_sellSaying 0 [vR (some w), vI (nI k), vI (nI d), vI x] [] (hW h w (upd f 14 (nI c)) g y) K = K (some (vI (nI c))) (hW h w (upd f 14 (nI (c + 1))) (wsellG g c k d x) y) := by
  rw [sX9_sellSaying (f := upd f 14 (nI c)) (c := c) (pE _ _ _) h4 hd hk, updU]
theorem wfst_n (h4 : kd ≠ 4) (h5 : kd ≠ 5) : wfst g d kd a = wlkN g d := by
  unfold wfst
  rw [if_neg h4, if_neg h5]
theorem wfst_4 : wfst g d 4 a = 0 := by
  unfold wfst
  rw [if_pos rfl]
theorem wfst_5 : wfst g d 5 a = a % 4 := by
  unfold wfst
  rw [if_neg (by decide), if_pos rfl]
theorem sX9_ls14 {ls : List TV} (hs1 : isS (hW h w f g y) o kd nu a) (hd : d < 20) : tA sc iX9_letSpeak 14 ls [vI (nI d), vR (some w), vR (some o)] (hW h w f g y) K = tA sc iX9_letSpeak 17 ls [vI (nI (wfst g d kd a))] (hW h w f g y) K := by
  have hcl := isS_cl hs1
  have hk := hs1.1
  rcases (show kd = 0 ∨ kd = 1 ∨ kd = 2 ∨ kd = 3 ∨ kd = 4 ∨ kd = 5 by omega) with rfl | rfl | rfl | rfl | rfl | rfl
  · rw [rX9_letSpeak_14_4 (show tcl (hW h w f g y) o = some 4 from hcl), sX4_firstWeather hd, tpu_some, wfst_n (by decide) (by decide)]
  · rw [rX9_letSpeak_14_2 (show tcl (hW h w f g y) o = some 2 from hcl), sX4_firstWeather hd, tpu_some, wfst_n (by decide) (by decide)]
  · rw [rX9_letSpeak_14_3 (show tcl (hW h w f g y) o = some 3 from hcl), sX4_firstWeather hd, tpu_some, wfst_n (by decide) (by decide)]
  · rw [rX9_letSpeak_14_6 (show tcl (hW h w f g y) o = some 6 from hcl), sX4_firstWeather hd, tpu_some, wfst_n (by decide) (by decide)]
  · rw [rX9_letSpeak_14_0 (show tcl (hW h w f g y) o = some 0 from hcl), wfst_4]
    simp only [rX0_firstWeather_0, rX0_firstWeather_1, tpu_some]
    rfl
  · rw [rX9_letSpeak_14_7 (show tcl (hW h w f g y) o = some 7 from hcl), sX7_firstWeather hs1, tpu_some, wfst_5]
theorem nI_min4 : ∀ b, b < 9 → (if nI b < 4 then nI b else 4) = nI (min 4 b) := by decide +kernel
theorem sX9_letSpeak (hs : isS h o kd nu a) (ho : o < w ∨ w + 12 ≤ o) (ht : f 6 = nI t) (h2 : t ≤ 20) (hc : f 14 = nI c) (h4 : c ≤ 40) : tA sc iX9_letSpeak 0 [vR (some w), vR (some o), vU, vU, vU, vU] [] (hW h w f g y) K = K none (hW h w (upd f 14 (nI (wspk t kd nu a (c, g)).1)) (wspk t kd nu a (c, g)).2 y) := by
  have e1 := fun (K : Option TV → TH → Prop) => sX9_dayToSay (sc := sc) (K := K) (g := g) (y := y) hs ho ht h2 hc h4
  have e2 := fun (K : Option TV → TH → Prop) => sX9_sayingsAtOnce (sc := sc) (K := K) (g := g) (y := y) hs ho hc h4
  unfold wspk
  dsimp only
  rcases wdts_in (g := g) (t := t) (c := c) (kd := kd) (a := a) h2 with q | ⟨⟨d, hd, q⟩, h3, h5⟩
  · have q0 : ((0 : Int32) ≤ -1) = False := by decide
    have q1 : ((-1 : Int32) < 0) = True := by decide
    simp (disch := first | omega | exact hW_cl) only [rX9_letSpeak_0, rX9_letSpeak_1, rX9_letSpeak_2, rX9_letSpeak_5, rX9_letSpeak_6, rX9_letSpeak_7, rX9_letSpeak_10, rX9_letSpeak_11, rX9_letSpeak_12, rX9_letSpeak_13, rX9_letSpeak_14_0, rX9_letSpeak_14_2, rX9_letSpeak_14_3, rX9_letSpeak_14_4, rX9_letSpeak_14_6, rX9_letSpeak_14_7, rX9_letSpeak_17, rX9_letSpeak_18, rX9_letSpeak_19, rX9_letSpeak_20, rX9_letSpeak_21, rX9_letSpeak_22, rX9_letSpeak_25, rX9_letSpeak_26, rX9_letSpeak_29, rX9_letSpeak_31, rX9_letSpeak_32, rX9_letSpeak_36, rX9_letSpeak_38, rX9_letSpeak_41, rX9_letSpeak_42, rX9_letSpeak_43, rX9_letSpeak_46, rX9_letSpeak_47, rX9_letSpeak_49, rX9_letSpeak_52, rX9_letSpeak_53, rX9_letSpeak_56, rX9_letSpeak_59, e1, q, q0, q1, if_false, if_true, hW_cl, hW_g0, hW_g1, hW_g2, hW_g3, hW_g4, hW_g5, hW_g6, hW_g7, hW_g8, hW_g9, hW_g10, hW_g11, hW_g12, hW_g13, hW_g14, hW_r0, hW_r1, hW_r2, hW_r3, hW_r4, hW_r5, hW_r8, hW_r9, hW_r11, hW_r12, hW_r13, hW_w0, hW_w1, hW_w2, hW_w3, hW_w4, hW_w5, hW_w9, hW_w11, hW_w12, hW_w13, hW_p6, hW_p7, hW_p10, hW_p14, hW_l0, hW_l1, hW_l2, hW_l3, oz_some, tclr_I, tclr_R, tclr_U, tclr_L, tpu_some, tpu_none, nI4, nI4', nI_add, i01, i12, i23, i34, reduceIte]
    rw [← hc, updS]
  · have q0 : ((0 : Int32) ≤ nI d) = True := nIle_t (a := 0) (by omega) (by omega)
    have q1 : (nI d < (0 : Int32)) = False := nIlt0 (by omega)
    simp only [q, q1, if_false, nI_clamp (show d < 2 ^ 31 by omega)]
    have hs1 := isS_hW (f := f) (g := g) (y := y) ho hs
    have hcl := isS_cl hs1
    generalize hF : wfst g d kd a = F
    have hF4 : F < 4 := by rw [← hF]; exact wfst_lt
    have hb : min (wbr kd) (40 - c) ≤ 4 ∧ min (wbr kd) (40 - c) ≤ 40 - c := by unfold wbr; split <;> omega
    generalize hB : min (wbr kd) (40 - c) = B at e2 hb ⊢
    have m4 := nI_min4 (F + B) (by omega)
    rw [← nI_add] at m4
    have L := loopI (fun i (q : Nat × (Nat → Nat → Int32)) => tA sc iX9_letSpeak 34 [vR (some w), vR (some o), vI (nI d), vI (nI F), vI (nI (min 4 (F + B))), vI (nI i)] [] (hW h w (upd f 14 (nI q.1)) q.2 y) K) (fun q => K none (hW h w (upd f 14 (nI q.1)) q.2 y)) (wspkF nu d) (min 4 (F + B)) (fun i q => q.1 + (min 4 (F + B) - i) ≤ 40) ?_ ?_ ?_ (min 4 (F + B) - F) F (c, g) (by omega) (by dsimp only; omega)
    · dsimp only at L
      rw [← hc, updS] at L
      have fin : tA sc iX9_letSpeak 17 [vR (some w), vR (some o), vI (nI d), vU, vU, vU] [vI (nI F)] (hW h w f g y) K = K none (hW h w (upd f 14 (nI (lfold (wspkF nu d) (min 4 (F + B) - F) F (c, g)).1)) (lfold (wspkF nu d) (min 4 (F + B) - F) F (c, g)).2 y) := by
        simp (disch := first | omega | exact hW_cl) only [rX9_letSpeak_17, rX9_letSpeak_18, rX9_letSpeak_19, rX9_letSpeak_20, rX9_letSpeak_21, rX9_letSpeak_22, rX9_letSpeak_25, rX9_letSpeak_26, rX9_letSpeak_29, rX9_letSpeak_31, rX9_letSpeak_32, e2, tclr_I, tclr_R, tclr_U, tpu_some, m4]
        exact L
      have ef := fun (ls : List TV) (K : Option TV → TH → Prop) => sX9_ls14 (sc := sc) (ls := ls) (d := d) (K := K) hs1 hd
      simp (disch := first | omega | assumption | exact hW_cl) only [rX9_letSpeak_0, rX9_letSpeak_1, rX9_letSpeak_2, rX9_letSpeak_5, rX9_letSpeak_6, rX9_letSpeak_7, rX9_letSpeak_11, rX9_letSpeak_12, rX9_letSpeak_13, ef, e1, q, q0, if_true, tclr_I, tclr_R, tclr_U, tpu_some, hF]
      exact fin
    · intro q hq
      rw [rX9_letSpeak_34]
      simp (disch := first | omega | exact hW_cl) only [rX9_letSpeak_0, rX9_letSpeak_1, rX9_letSpeak_2, rX9_letSpeak_5, rX9_letSpeak_6, rX9_letSpeak_7, rX9_letSpeak_10, rX9_letSpeak_11, rX9_letSpeak_12, rX9_letSpeak_13, rX9_letSpeak_14_0, rX9_letSpeak_14_2, rX9_letSpeak_14_3, rX9_letSpeak_14_4, rX9_letSpeak_14_6, rX9_letSpeak_14_7, rX9_letSpeak_17, rX9_letSpeak_18, rX9_letSpeak_19, rX9_letSpeak_20, rX9_letSpeak_21, rX9_letSpeak_22, rX9_letSpeak_25, rX9_letSpeak_26, rX9_letSpeak_29, rX9_letSpeak_31, rX9_letSpeak_32, rX9_letSpeak_36, rX9_letSpeak_38, rX9_letSpeak_41, rX9_letSpeak_42, rX9_letSpeak_43, rX9_letSpeak_46, rX9_letSpeak_47, rX9_letSpeak_49, rX9_letSpeak_52, rX9_letSpeak_53, rX9_letSpeak_56, rX9_letSpeak_59, nIle_t, if_true]
    · intro i q hi hq
      have hsu := isS_g1 (isS_hW (f := upd f 14 (nI q.1)) (g := q.2) (y := y) ho hs)
      have hnu := hs.2.1
      rw [rX9_letSpeak_34]
      simp (disch := first | omega | exact hW_cl) only [rX9_letSpeak_0, rX9_letSpeak_1, rX9_letSpeak_2, rX9_letSpeak_5, rX9_letSpeak_6, rX9_letSpeak_7, rX9_letSpeak_10, rX9_letSpeak_11, rX9_letSpeak_12, rX9_letSpeak_13, rX9_letSpeak_14_0, rX9_letSpeak_14_2, rX9_letSpeak_14_3, rX9_letSpeak_14_4, rX9_letSpeak_14_6, rX9_letSpeak_14_7, rX9_letSpeak_17, rX9_letSpeak_18, rX9_letSpeak_19, rX9_letSpeak_20, rX9_letSpeak_21, rX9_letSpeak_22, rX9_letSpeak_25, rX9_letSpeak_26, rX9_letSpeak_29, rX9_letSpeak_31, rX9_letSpeak_32, rX9_letSpeak_36, rX9_letSpeak_38, rX9_letSpeak_41, rX9_letSpeak_42, rX9_letSpeak_43, rX9_letSpeak_46, rX9_letSpeak_47, rX9_letSpeak_49, rX9_letSpeak_52, rX9_letSpeak_53, rX9_letSpeak_56, rX9_letSpeak_59, nIle_f, if_false, hsu, sX9_sellSayingU, nI_1, oz_some, tclr_I, tclr_R, tclr_U, tpu_some]
      rfl
    · intro i q hi hq
      show q.1 + 1 + (min 4 (F + B) - (i + 1)) ≤ 40
      omega
end S25
