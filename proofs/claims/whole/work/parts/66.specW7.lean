/-! A MORNING, whole; forgetting; the best place -/
section S26
variable {sc : Nat × (Nat → Int32)} {h : TH} {w d k c t j o kd nu a : Nat} {f : Nat → Int32} {g : Nat → Nat → Int32} {y : Nat → Option Nat} {s x : Int32} {K : Option TV → TH → Prop}
/-- the sayings are in order -/
def wOKs (q : Nat × (Nat → Nat → Int32)) : Prop := q.1 ≤ 40 ∧ ∀ i, i < q.1 → inR (q.2 12 i) 20 ∧ inR (q.2 11 i) 5 ∧ inR (q.2 13 i) 4
theorem wsellG_12 (i : Nat) : wsellG g c k d x 12 i = upd (g 12) c (nI d) i := rfl
theorem wsellG_11 (i : Nat) : wsellG g c k d x 11 i = upd (g 11) c (nI k) i := rfl
theorem wsellG_13 (i : Nat) : wsellG g c k d x 13 i = upd (g 13) c x i := rfl
theorem wOKs_sell {q : Nat × (Nat → Nat → Int32)} (hq : wOKs q) (h4 : q.1 < 40) (hk : k < 5) (hd : d < 20) (hj : j < 4) : wOKs (q.1 + 1, wsellG q.2 q.1 k d (nI j)) := by
  refine ⟨h4, fun i hi => ?_⟩
  dsimp only at hi ⊢
  rw [wsellG_12, wsellG_11, wsellG_13]
  by_cases e : i = q.1
  · subst e
    rw [pE, pE, pE]
    exact ⟨⟨d, hd, rfl⟩, ⟨k, hk, rfl⟩, ⟨j, hj, rfl⟩⟩
  · rw [pN e, pN e, pN e]
    exact hq.2 i (by omega)
theorem wOKs_spk {q : Nat × (Nat → Nat → Int32)} (hq : wOKs q) (h2 : t ≤ 20) (hk : nu < 5) : wOKs (wspk t kd nu a q) := by
  unfold wspk
  rcases wdts_in (g := q.2) (t := t) (c := q.1) (kd := kd) (a := a) h2 with e | ⟨⟨d, hd, e⟩, h3, h5⟩
  · rw [e, if_pos (by decide)]; exact hq
  · rw [e, if_neg (by rw [nIlt0 (by omega)]; exact not_false), nI_clamp (by omega)]
    have hF4 : wfst q.2 d kd a < 4 := wfst_lt
    generalize wfst q.2 d kd a = F at hF4
    have hb : min (wbr kd) (40 - q.1) ≤ 40 - q.1 := by omega
    generalize min (wbr kd) (40 - q.1) = B at hb
    have := lfold_inv (F := wspkF nu d) (fun i (z : Nat × (Nat → Nat → Int32)) => wOKs z ∧ z.1 + (min 4 (F + B) - i) ≤ 40) (min 4 (F + B) - F) F q ⟨hq, by have := hq.1; omega⟩ (by
      intro j b h1 h2 hb
      have := hb.2
      exact ⟨wOKs_sell hb.1 (by omega) hk hd (by omega), by show b.1 + 1 + (min 4 (F + B) - (j + 1)) ≤ 40; omega⟩)
    exact this.1
def wspks (t : Nat) (Skd Sa : Nat → Nat) (n i : Nat) (q : Nat × (Nat → Nat → Int32)) : Nat × (Nat → Nat → Int32) := lfold (fun i q => wspk t (Skd i) i (Sa i) q) n i q
theorem wOKs_spks {Skd Sa : Nat → Nat} {n : Nat} {q : Nat × (Nat → Nat → Int32)} (hq : wOKs q) (h2 : t ≤ 20) (hn : n ≤ 5) : wOKs (wspks t Skd Sa n 0 q) := by
  unfold wspks
  exact lfold_inv (F := fun i q => wspk t (Skd i) i (Sa i) q) (fun _ z => wOKs z) n 0 q hq (fun j b h1 h3 hb => wOKs_spk hb h2 (by omega))
def wd1 (f : Nat → Int32) (t : Nat) (q : Nat × (Nat → Nat → Int32)) : (Nat → Int32) × (Nat → Nat → Int32) :=
  (upd (upd (upd f 14 (nI q.1)) 7 (wdz f)) 6 (nI (t + 1)), va_up q.2 3 (upd (q.2 3) t (wdrawn q.2 t (wdz f))))
def wd2 (t c : Nat) (r : (Nat → Int32) × (Nat → Nat → Int32)) : (Nat → Int32) × (Nat → Nat → Int32) := (r.1, va_up r.2 9 (lfold (wsetF r.1 r.2 t) c 0 (r.2 9)))
def wd3 (t : Nat) (r : (Nat → Int32) × (Nat → Nat → Int32)) : (Nat → Int32) × (Nat → Nat → Int32) :=
  if t + 4 < 20 then (if 0 ≤ r.2 2 (t + 4) then r else (upd r.1 7 (wdz r.1), va_up r.2 2 (upd (r.2 2) (t + 4) (wdrawn r.2 (t + 4) (wdz r.1))))) else r
/-- a morning -/
def wdawn (f : Nat → Int32) (g : Nat → Nat → Int32) (t k5 c : Nat) (Skd Sa : Nat → Nat) : (Nat → Int32) × (Nat → Nat → Int32) :=
  if t = 20 then (f, g) else wd3 t (wd2 t (wspks t Skd Sa k5 0 (c, g)).1 (wd1 f t (wspks t Skd Sa k5 0 (c, g))))
theorem nI_a3 (n : Nat) : nI n + 3 = nI (n + 3) := by rw [show (3 : Int32) = nI 3 from rfl, nI_add]
theorem sX9_settleU (f : Nat → Int32) (hc : f 14 = nI c) (hd : d < 20) (hq : wOKs (c, g)) : tA sc iX9_settle 0 [vR (some w), vI (nI d), vU] [] (hW h w f g y) K = K none (hW h w f (va_up g 9 (lfold (wsetF f g d) c 0 (g 9))) y) := sX9_settle hc hq.1 hd (fun i hi => (hq.2 i hi).1) (fun i hi => (hq.2 i hi).2.1)
theorem lfold_snd {α β : Type} {F : Nat → β × α → β × α} {G : Nat → α → α} (h : ∀ i q, (F i q).2 = G i q.2) : ∀ (n i : Nat) (q : β × α), (lfold F n i q).2 = lfold G n i q.2
  | 0, _, _ => rfl
  | n + 1, i, q => by rw [lfold, lfold, lfold_snd h n (i + 1) (F i q), h]
theorem wdz_14 {v : Int32} : wdz (upd f 14 v) = wdz f := rfl
theorem wOKs_3 {q : Nat × (Nat → Nat → Int32)} {v : Nat → Int32} (hq : wOKs q) : wOKs (q.1, va_up q.2 3 v) := hq
theorem upd_14_6 {v : Int32} : upd f 14 v 6 = f 6 := rfl
theorem upd_14_10 {v : Int32} : upd f 14 v 10 = f 10 := rfl
theorem upd_7_6 {v : Int32} : upd f 7 v 6 = f 6 := rfl
theorem sX9_dawnB {l1 l2 : TV} (ht : f 6 = nI (t + 1)) (h2 : t < 20) : tA sc iX9_dawn 79 [vR (some w), l1, l2] [] (hW h w f g y) K = K none (hW h w (wd3 t (f, g)).1 (wd3 t (f, g)).2 y) := by
  unfold wd3
  dsimp only
  by_cases q : t + 4 < 20
  · have e0 : ((20 : Int32) ≤ nI (t + 1 + 3)) = False := nIle_f (a := 20) (by omega) (by decide)
    simp (disch := first | omega | exact hW_cl) only [rX9_dawn_0, rX9_dawn_1, rX9_dawn_4, rX9_dawn_6, rX9_dawn_9, rX9_dawn_10, rX9_dawn_11, rX9_dawn_13, rX9_dawn_14, rX9_dawn_17, rX9_dawn_20, rX9_dawn_21, rX9_dawn_24, rX9_dawn_25, rX9_dawn_26, rX9_dawn_27, rX9_dawn_28n, rX9_dawn_28s, rX9_dawn_31, rX9_dawn_32, rX9_dawn_33, rX9_dawn_36, rX9_dawn_39, rX9_dawn_42, rX9_dawn_43, rX9_dawn_46, rX9_dawn_47, rX9_dawn_50, rX9_dawn_51, rX9_dawn_52, rX9_dawn_55, rX9_dawn_58, rX9_dawn_59, rX9_dawn_60, rX9_dawn_61, rX9_dawn_64, rX9_dawn_65, rX9_dawn_66, rX9_dawn_69, rX9_dawn_70, rX9_dawn_71, rX9_dawn_74, rX9_dawn_75, rX9_dawn_76, rX9_dawn_79, rX9_dawn_80, rX9_dawn_83, rX9_dawn_84, rX9_dawn_85, rX9_dawn_86, rX9_dawn_87, rX9_dawn_89, rX9_dawn_92, rX9_dawn_93, rX9_dawn_96, rX9_dawn_97, rX9_dawn_98, rX9_dawn_101, rX9_dawn_102, rX9_dawn_105, rX9_dawn_106, rX9_dawn_107, rX9_dawn_108, rX9_dawn_111, rX9_dawn_112, sX9_drawn, hW_cl, hW_g0, hW_g1, hW_g2, hW_g3, hW_g4, hW_g5, hW_g6, hW_g7, hW_g8, hW_g9, hW_g10, hW_g11, hW_g12, hW_g13, hW_g14, hW_r0, hW_r1, hW_r2, hW_r3, hW_r4, hW_r5, hW_r8, hW_r9, hW_r11, hW_r12, hW_r13, hW_w0, hW_w1, hW_w2, hW_w3, hW_w4, hW_w5, hW_w9, hW_w11, hW_w12, hW_w13, hW_p6, hW_p7, hW_p10, hW_p14, hW_l0, hW_l1, hW_l2, hW_l3, oz_some, tclr_I, tclr_R, tclr_U, tpu_some, ht, nI_a3, e0, if_false]
    rw [if_pos q]
    by_cases q2 : 0 ≤ g 2 (t + 4)
    · rw [if_pos q2, if_pos q2]
    · rw [if_neg q2, if_neg q2]
  · have e0 : ((20 : Int32) ≤ nI (t + 1 + 3)) = True := nIle_t (a := 20) (by omega) (by omega)
    simp (disch := first | omega | exact hW_cl) only [rX9_dawn_0, rX9_dawn_1, rX9_dawn_4, rX9_dawn_6, rX9_dawn_9, rX9_dawn_10, rX9_dawn_11, rX9_dawn_13, rX9_dawn_14, rX9_dawn_17, rX9_dawn_20, rX9_dawn_21, rX9_dawn_24, rX9_dawn_25, rX9_dawn_26, rX9_dawn_27, rX9_dawn_28n, rX9_dawn_28s, rX9_dawn_31, rX9_dawn_32, rX9_dawn_33, rX9_dawn_36, rX9_dawn_39, rX9_dawn_42, rX9_dawn_43, rX9_dawn_46, rX9_dawn_47, rX9_dawn_50, rX9_dawn_51, rX9_dawn_52, rX9_dawn_55, rX9_dawn_58, rX9_dawn_59, rX9_dawn_60, rX9_dawn_61, rX9_dawn_64, rX9_dawn_65, rX9_dawn_66, rX9_dawn_69, rX9_dawn_70, rX9_dawn_71, rX9_dawn_74, rX9_dawn_75, rX9_dawn_76, rX9_dawn_79, rX9_dawn_80, rX9_dawn_83, rX9_dawn_84, rX9_dawn_85, rX9_dawn_86, rX9_dawn_87, rX9_dawn_89, rX9_dawn_92, rX9_dawn_93, rX9_dawn_96, rX9_dawn_97, rX9_dawn_98, rX9_dawn_101, rX9_dawn_102, rX9_dawn_105, rX9_dawn_106, rX9_dawn_107, rX9_dawn_108, rX9_dawn_111, rX9_dawn_112, hW_cl, hW_g0, hW_g1, hW_g2, hW_g3, hW_g4, hW_g5, hW_g6, hW_g7, hW_g8, hW_g9, hW_g10, hW_g11, hW_g12, hW_g13, hW_g14, hW_r0, hW_r1, hW_r2, hW_r3, hW_r4, hW_r5, hW_r8, hW_r9, hW_r11, hW_r12, hW_r13, hW_w0, hW_w1, hW_w2, hW_w3, hW_w4, hW_w5, hW_w9, hW_w11, hW_w12, hW_w13, hW_p6, hW_p7, hW_p10, hW_p14, hW_l0, hW_l1, hW_l2, hW_l3, oz_some, tclr_I, tclr_R, tclr_U, tpu_some, ht, nI_a3, e0, if_true]
    rw [if_neg q]
theorem sX9_dawnA {l1 l2 : TV} {q : Nat × (Nat → Nat → Int32)} (ht : f 6 = nI t) (h2 : t < 20) (hq : wOKs q) : tA sc iX9_dawn 42 [vR (some w), l1, l2] [] (hW h w (upd f 14 (nI q.1)) q.2 y) K = K none (hW h w (wd3 t (wd2 t q.1 (wd1 f t q))).1 (wd3 t (wd2 t q.1 (wd1 f t q))).2 y) := by
  have eS := fun (K : Option TV → TH → Prop) => sX9_settleU (sc := sc) (h := h) (w := w) (y := y) (K := K) (c := q.1) (d := t) (g := va_up q.2 3 (upd (q.2 3) t (wdrawn q.2 t (wdz f)))) (upd (upd (upd f 14 (nI q.1)) 7 (wdz f)) 6 (nI (t + 1))) rfl h2 (wOKs_3 hq)
  have eB := fun (l1 l2 : TV) => sX9_dawnB (sc := sc) (h := h) (w := w) (y := y) (K := K) (l1 := l1) (l2 := l2) (f := (wd2 t q.1 (wd1 f t q)).1) (g := (wd2 t q.1 (wd1 f t q)).2) (t := t) rfl h2
  simp (disch := first | omega | exact hW_cl) only [rX9_dawn_42, rX9_dawn_43, rX9_dawn_46, rX9_dawn_47, rX9_dawn_50, rX9_dawn_51, rX9_dawn_52, rX9_dawn_55, rX9_dawn_58, rX9_dawn_59, rX9_dawn_60, rX9_dawn_61, rX9_dawn_64, rX9_dawn_65, rX9_dawn_66, rX9_dawn_69, rX9_dawn_70, rX9_dawn_71, rX9_dawn_74, rX9_dawn_75, rX9_dawn_76, sX9_drawn, hW_cl, hW_g0, hW_g1, hW_g2, hW_g3, hW_g4, hW_g5, hW_g6, hW_g7, hW_g8, hW_g9, hW_g10, hW_g11, hW_g12, hW_g13, hW_g14, hW_r0, hW_r1, hW_r2, hW_r3, hW_r4, hW_r5, hW_r8, hW_r9, hW_r11, hW_r12, hW_r13, hW_w0, hW_w1, hW_w2, hW_w3, hW_w4, hW_w5, hW_w9, hW_w11, hW_w12, hW_w13, hW_p6, hW_p7, hW_p10, hW_p14, hW_l0, hW_l1, hW_l2, hW_l3, oz_some, tclr_I, tclr_R, tclr_U, tpu_some, tpu_none, upd_14_6, upd_7_6, ht, wdz_14, nI_1, pE, nI_s1, eS]
  exact eB l1 l2
set_option maxHeartbeats 4000000 in
theorem sX9_dawn {Skd Sa So : Nat → Nat} (ht : f 6 = nI t) (h2 : t ≤ 20) (hk : f 10 = nI k) (h5 : k ≤ 5) (hc : f 14 = nI c) (hq : wOKs (c, g)) (hS : ∀ i, i < k → y i = some (So i) ∧ isS h (So i) (Skd i) i (Sa i) ∧ (So i < w ∨ w + 12 ≤ So i)) : tA sc iX9_dawn 0 [vR (some w), vU, vU] [] (hW h w f g y) K = K none (hW h w (wdawn f g t k c Skd Sa).1 (wdawn f g t k c Skd Sa).2 y) := by
  unfold wdawn
  by_cases q1 : t = 20
  · subst q1
    have e0 : (nI 20 < (20 : Int32)) = False := by decide
    simp (disch := first | omega | exact hW_cl) only [rX9_dawn_0, rX9_dawn_1, rX9_dawn_4, rX9_dawn_6, rX9_dawn_9, rX9_dawn_10, rX9_dawn_11, rX9_dawn_13, rX9_dawn_14, rX9_dawn_17, rX9_dawn_20, rX9_dawn_21, rX9_dawn_24, rX9_dawn_25, rX9_dawn_26, rX9_dawn_27, rX9_dawn_28n, rX9_dawn_28s, rX9_dawn_31, rX9_dawn_32, rX9_dawn_33, rX9_dawn_36, rX9_dawn_39, rX9_dawn_42, rX9_dawn_43, rX9_dawn_46, rX9_dawn_47, rX9_dawn_50, rX9_dawn_51, rX9_dawn_52, rX9_dawn_55, rX9_dawn_58, rX9_dawn_59, rX9_dawn_60, rX9_dawn_61, rX9_dawn_64, rX9_dawn_65, rX9_dawn_66, rX9_dawn_69, rX9_dawn_70, rX9_dawn_71, rX9_dawn_74, rX9_dawn_75, rX9_dawn_76, rX9_dawn_79, rX9_dawn_80, rX9_dawn_83, rX9_dawn_84, rX9_dawn_85, rX9_dawn_86, rX9_dawn_87, rX9_dawn_89, rX9_dawn_92, rX9_dawn_93, rX9_dawn_96, rX9_dawn_97, rX9_dawn_98, rX9_dawn_101, rX9_dawn_102, rX9_dawn_105, rX9_dawn_106, rX9_dawn_107, rX9_dawn_108, rX9_dawn_111, rX9_dawn_112, hW_cl, hW_g0, hW_g1, hW_g2, hW_g3, hW_g4, hW_g5, hW_g6, hW_g7, hW_g8, hW_g9, hW_g10, hW_g11, hW_g12, hW_g13, hW_g14, hW_r0, hW_r1, hW_r2, hW_r3, hW_r4, hW_r5, hW_r8, hW_r9, hW_r11, hW_r12, hW_r13, hW_w0, hW_w1, hW_w2, hW_w3, hW_w4, hW_w5, hW_w9, hW_w11, hW_w12, hW_w13, hW_p6, hW_p7, hW_p10, hW_p14, hW_l0, hW_l1, hW_l2, hW_l3, oz_some, tclr_I, tclr_R, tclr_U, tclr_L, tpu_some, tpu_none, nI4, nI4', nI_add, i01, i12, i23, i34, reduceIte, ht, e0, if_false, if_true]
  · have q1' : t < 20 := by omega
    have e0 : (nI t < (20 : Int32)) = True := nIlt_t (b := 20) q1' (by decide)
    rw [if_neg q1]
    have hQ := wOKs_spks (Skd := Skd) (Sa := Sa) hq h2 h5
    have L := loopI (fun i (q : TV × (Nat × (Nat → Nat → Int32))) => tA sc iX9_dawn 12 [vR (some w), vI (nI i), q.1] [] (hW h w (upd f 14 (nI q.2.1)) q.2.2 y) K) (fun q => tA sc iX9_dawn 42 [vR (some w), vI (nI k), q.1] [] (hW h w (upd f 14 (nI q.2.1)) q.2.2 y) K) (fun i q => (vR (some (So i)), wspk t (Skd i) i (Sa i) q.2)) k (fun _ q => wOKs q.2) ?_ ?_ ?_ k 0 (vU, (c, g)) (by omega) hq
    · rw [sX9_dawnA ht q1' (by rw [lfold_snd (G := fun i q => wspk t (Skd i) i (Sa i) q) (fun i q => rfl)]; exact hQ), lfold_snd (G := fun i q => wspk t (Skd i) i (Sa i) q) (fun i q => rfl)] at L
      dsimp only at L
      rw [← hc, updS] at L
      simp (disch := first | omega | exact hW_cl) only [rX9_dawn_0, rX9_dawn_1, rX9_dawn_4, rX9_dawn_6, rX9_dawn_10, rX9_dawn_11, hW_cl, hW_g0, hW_g1, hW_g2, hW_g3, hW_g4, hW_g5, hW_g6, hW_g7, hW_g8, hW_g9, hW_g10, hW_g11, hW_g12, hW_g13, hW_g14, hW_r0, hW_r1, hW_r2, hW_r3, hW_r4, hW_r5, hW_r8, hW_r9, hW_r11, hW_r12, hW_r13, hW_w0, hW_w1, hW_w2, hW_w3, hW_w4, hW_w5, hW_w9, hW_w11, hW_w12, hW_w13, hW_p6, hW_p7, hW_p10, hW_p14, hW_l0, hW_l1, hW_l2, hW_l3, oz_some, tclr_I, tclr_R, tclr_U, ht, e0, if_true]
      exact L
    · intro q hI
      rw [rX9_dawn_12]
      simp (disch := first | omega | exact hW_cl) only [rX9_dawn_13, rX9_dawn_14, rX9_dawn_17, hW_cl, hW_g0, hW_g1, hW_g2, hW_g3, hW_g4, hW_g5, hW_g6, hW_g7, hW_g8, hW_g9, hW_g10, hW_g11, hW_g12, hW_g13, hW_g14, hW_r0, hW_r1, hW_r2, hW_r3, hW_r4, hW_r5, hW_r8, hW_r9, hW_r11, hW_r12, hW_r13, hW_w0, hW_w1, hW_w2, hW_w3, hW_w4, hW_w5, hW_w9, hW_w11, hW_w12, hW_w13, hW_p6, hW_p7, hW_p10, hW_p14, hW_l0, hW_l1, hW_l2, hW_l3, oz_some, upd_14_10, hk, nIle_t, if_true]
    · intro i q hi hI
      obtain ⟨g1, g2, g3⟩ := hS i hi
      have eL := fun (K : Option TV → TH → Prop) => sX9_letSpeak (sc := sc) (K := K) (w := w) (y := y) (g := q.2.2) (f := upd f 14 (nI q.2.1)) (c := q.2.1) g2 g3 ht h2 rfl hI.1
      rw [rX9_dawn_12]
      simp (disch := first | omega | exact hW_cl) only [rX9_dawn_13, rX9_dawn_14, rX9_dawn_17, rX9_dawn_9, rX9_dawn_13, rX9_dawn_14, rX9_dawn_17, rX9_dawn_20, rX9_dawn_21, rX9_dawn_24, rX9_dawn_25, rX9_dawn_26, rX9_dawn_27, rX9_dawn_28n, rX9_dawn_28s, rX9_dawn_31, rX9_dawn_32, rX9_dawn_33, rX9_dawn_36, rX9_dawn_39, rX9_dawn_43, rX9_dawn_46, rX9_dawn_47, rX9_dawn_50, rX9_dawn_51, rX9_dawn_52, rX9_dawn_55, rX9_dawn_58, rX9_dawn_59, rX9_dawn_60, rX9_dawn_61, rX9_dawn_64, rX9_dawn_65, rX9_dawn_66, rX9_dawn_69, rX9_dawn_70, rX9_dawn_71, rX9_dawn_74, rX9_dawn_75, rX9_dawn_76, rX9_dawn_79, rX9_dawn_80, rX9_dawn_83, rX9_dawn_84, rX9_dawn_85, rX9_dawn_86, rX9_dawn_87, rX9_dawn_89, rX9_dawn_92, rX9_dawn_93, rX9_dawn_96, rX9_dawn_97, rX9_dawn_98, rX9_dawn_101, rX9_dawn_102, rX9_dawn_105, rX9_dawn_106, rX9_dawn_107, rX9_dawn_108, rX9_dawn_111, rX9_dawn_112, hW_cl, hW_g0, hW_g1, hW_g2, hW_g3, hW_g4, hW_g5, hW_g6, hW_g7, hW_g8, hW_g9, hW_g10, hW_g11, hW_g12, hW_g13, hW_g14, hW_r0, hW_r1, hW_r2, hW_r3, hW_r4, hW_r5, hW_r8, hW_r9, hW_r11, hW_r12, hW_r13, hW_w0, hW_w1, hW_w2, hW_w3, hW_w4, hW_w5, hW_w9, hW_w11, hW_w12, hW_w13, hW_p6, hW_p7, hW_p10, hW_p14, hW_l0, hW_l1, hW_l2, hW_l3, oz_some, tclr_I, tclr_R, tclr_U, tpu_none, upd_14_10, hk, nIle_f, if_false, g1, eL, nI_1, updU]
    · intro i q hi hI
      exact wOKs_spk hI h2 (by omega)
end S26
