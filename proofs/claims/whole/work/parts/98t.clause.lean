/-! THE CLERK, 10: a thing told, on both sides -/
/-- j sayers more -/
def xb (D0 D : TH) (j : Nat) : Prop := ext D0 D ∧ D.2.1 = D0.2.1 + j ∧ D.2.2 = D0.2.2 + 3 * j ∧ ∀ k, D.2.1 ≤ k → D.1 k = none
def kF (F F' : Nat → Int32) : Prop := ∀ k, k ≠ 16 → k ≠ 17 → k ≠ 18 → F' k = F k
def kM (M M' : Nat → Nat → Int32) : Prop := ∀ k, k ≠ 19 → k ≠ 20 → k ≠ 21 → k ≠ 22 → k ≠ 23 → k ≠ 24 → M' k = M k
section S98t
variable {sc : Nat × (Nat → Int32)} {h D D0 : TH} {m n q q1 q2 q3 q4 k p i j d t ns cs kd s wv : Nat} {tp : Nat → Nat} {x : Nat → Int32} {G : Nat → Nat → Int32} {Y : Nat → Nat → Option Nat} {f F F0 : Nat → Int32} {g M M0 M2 : Nat → Nat → Int32} {y : Nat → Option Nat} {c : WS} {cf tf fb : Nat → Int32} {cg tg gb gb2 : Nat → Nat → Int32} {yb : Nat → Option Nat} {v : Int32} {E E0 : Nat → Int64} {U U0 : Nat → Nat → Int64} {K : Option TV → TH → Prop} {P A pp_ : Nat → Int32} {l3 : TV}
theorem xb_new {z : TC} (X : xb D0 D j) : xb D0 (hnew D z 3) (j + 1) := by
  obtain ⟨⟨x1, x2⟩, x3, x4, x5⟩ := X
  refine ⟨⟨?_, ?_⟩, ?_, ?_, ?_⟩
  · show D0.2.1 ≤ D.2.1 + 1; omega
  · intro o ho
    rw [show (hnew D z 3).1 o = D.1 o from uN (by omega)]
    exact x2 o ho
  · show D.2.1 + 1 = _; omega
  · show D.2.2 + 3 = _; omega
  · intro k hk
    have hk : D.2.1 + 1 ≤ k := hk
    rw [show (hnew D z 3).1 k = D.1 k from uN (by omega)]
    exact x5 k (by omega)
theorem rY_new (hy : rY D yb) (hk : kd < 6) (h5 : ns < 5) (ha : s < 10) (d1 : 70 ≤ D.2.1) : rY (hnew D (.inr (kcl kd, sfs (kcl kd) (nI kd) (nI ns) (nI s))) 3) (va_up yb ns (some D.2.1)) := by
  intro i hi
  by_cases e : i = ns
  · subst e
    exact Or.inr ⟨D.2.1, kd, i, s, uE _ _ _, d1, Nat.lt_succ_self _, new_isS hk h5 ha⟩
  · rw [uN e]
    exact rY_ext ext_new hy i hi
theorem kF_rf : kF F F := fun _ _ _ _ => rfl
theorem kM_rf : kM M M := fun _ _ _ _ _ _ _ => rfl
theorem kF_up (hk : k = 16 ∨ k = 17 ∨ k = 18) : kF F (upd F k v) := fun j h1 h2 h3 => pN (by omega)
theorem kM_up (hk : 19 ≤ k ∧ k ≤ 24) : kM M (va_up M k P) := fun j h1 h2 h3 h4 h5 h6 => uN (by omega)
/-- a sayer told -/
theorem cl_sayer (h1 : cf 1 = nI n) (hn : n ≤ 240) (hT : TP n tp (cg 0)) (h9 : F 9 = nI n) (hQ : TQ n tp (M 8)) (hq : q < n) (R : rQ 0 t ns cs D fb gb yb (F 17) (MFr F M)) (X : xb D0 D ns) (hY : rY D yb) (d1 : 70 ≤ D0.2.1) (d2 : D0.2.1 < 900000) (z : tkn n tp q = kd) (hk : kd < 6) : (∃ (j : Nat) (D' : TH) (b' : WS) (qs p : Nat) (F' : Nat → Int32) (M' : Nat → Nat → Int32), j ≤ 5 ∧ p ≤ n ∧ xb D0 D' j ∧ rY D' b'.2.2 ∧ kF F F' ∧ kM M M' ∧ (∀ K, tA sc iX1_readThing 0 [vR (some 37), vR (some 13), vU] [] (hX (hM D 45 F0 E0 M0 U0) x G Y f g y ((fb, gb, yb)) c (cfS cf n tp (q) (-1)) cg tf tg) K = K none (hX (hM D' 45 F0 E0 M0 U0) x G Y f g y (b') c (cfS cf n tp (qs) (nI p)) cg tf tg)) ∧ (∀ h K, tA sc iX11_wantClause 0 [vR (some m)] [] (hM h m (FmS (F) n tp (q) (1)) (EmS E n tp (q)) (M) U) K = K none (hM h m (FmS (F') n tp (p) (0)) (EmS E n tp (p)) (M') U))) ∨ (∃ (D' : TH) (b' : WS) (q' t' ns' cs' : Nat) (F' : Nat → Int32) (M' : Nat → Nat → Int32), q < q' ∧ q' ≤ n ∧ xb D0 D' ns' ∧ rY D' b'.2.2 ∧ kF F F' ∧ kM M M' ∧ rQ 0 t' ns' cs' D' b'.1 b'.2.1 b'.2.2 (F' 17) (MFr F' M') ∧ (∀ K, tA sc iX1_readThing 0 [vR (some 37), vR (some 13), vU] [] (hX (hM D 45 F0 E0 M0 U0) x G Y f g y ((fb, gb, yb)) c (cfS cf n tp (q) (-1)) cg tf tg) K = K none (hX (hM D' 45 F0 E0 M0 U0) x G Y f g y (b') c (cfS cf n tp (q') (-1)) cg tf tg)) ∧ (∀ h K, tA sc iX11_wantClause 0 [vR (some m)] [] (hM h m (FmS (F) n tp (q) (1)) (EmS E n tp (q)) (M) U) K = K none (hM h m (FmS (F') n tp (q') (1)) (EmS E n tp (q')) (M') U))) := by
  have R0 := R
  obtain ⟨t20, n5, w6, m6, w7, w10, s4, w14, hT', hD, hS⟩ := R
  have hb : ∀ k, k < n → tp k < 256 := fun k hk => (hQ k hk).1
  have hql : q ≤ n := Nat.le_of_lt hq
  have X0 := X
  obtain ⟨x1, x3, x4, x5⟩ := X
  by_cases e5 : ns = 5
  · subst e5
    refine Or.inl ⟨5, D, (fb, gb, yb), q, q, F, M, Nat.le_refl _, hql, X0, hY, kF_rf, kM_rf, fun K => ?_, fun h K => ?_⟩
    · rw [x_thS hn hT z hk, x_sayer5 w10, tpu_none, x_th15, x_thF (by omega)]
    · rw [m_clS hb z hk, m_sayer5 s4, tpu_none, m_cl88]
  · have h5 : ns < 5 := by omega
    obtain ⟨q1, e1⟩ : ∃ q1, nx n tp q = q1 := ⟨_, rfl⟩
    obtain ⟨q2, e2⟩ : ∃ q2, nx n tp q1 = q2 := ⟨_, rfl⟩
    have l1 : q1 ≤ n := e1 ▸ nx_le hql
    have l2 : q2 ≤ n := e2 ▸ nx_le l1
    by_cases c1 : num n tp q1 < 10
    · by_cases c5 : tko n tp q2 = 3 ∧ tp q2 = 59
      · have lt1 : q < q1 := e1 ▸ nx_lt hq
        have lt2 : q1 ≤ q2 := e2 ▸ nx_ge
        refine Or.inr ⟨hnew D (.inr (kcl kd, sfs (kcl kd) (nI kd) (nI ns) (nI (num n tp q1)))) 3, (upd fb 10 (nI (ns + 1)), va_up gb 9 (upd (gb 9) ns 0), va_up yb ns (some D.2.1)), nx n tp q2, t, ns + 1, cs, upd F 17 (nI (ns + 1)), va_up M 22 (upd (upd (M 22) (2 * ns) (nI kd)) (2 * ns + 1) (nI (num n tp q1))), Nat.lt_of_lt_of_le (Nat.lt_of_lt_of_le lt1 lt2) nx_ge, nx_le l2, xb_new X0, rY_new hY hk h5 c1 (by omega), kF_up (by omega), kM_up (by omega), rF_sayer R0 h5 hk c1 (by omega), fun K => ?_, fun h K => ?_⟩
        · rw [x_thS hn hT z hk, x_sayerN h1 hn hT hql w10 h5 hk (by omega) (by omega) e1 c1, e2, tpu_none, x_th15, x_thE h1 hn hT l2, if_pos c5]
        · rw [m_clS hb z hk, m_sayer h9 hn hQ hql s4 h5 e1 e2, if_pos c1, if_pos c5, tpu_none, m_cl88]
      · refine Or.inl ⟨ns + 1, hnew D (.inr (kcl kd, sfs (kcl kd) (nI kd) (nI ns) (nI (num n tp q1)))) 3, (upd fb 10 (nI (ns + 1)), va_up gb 9 (upd (gb 9) ns 0), va_up yb ns (some D.2.1)), q2, q2, F, M, h5, l2, xb_new X0, rY_new hY hk h5 c1 (by omega), kF_rf, kM_rf, fun K => ?_, fun h K => ?_⟩
        · rw [x_thS hn hT z hk, x_sayerN h1 hn hT hql w10 h5 hk (by omega) (by omega) e1 c1, e2, tpu_none, x_th15, x_thE h1 hn hT l2, if_neg c5]
        · rw [m_clS hb z hk, m_sayer h9 hn hQ hql s4 h5 e1 e2, if_pos c1, if_neg c5, tpu_none, m_cl88]
    · refine Or.inl ⟨ns, D, (fb, gb, yb), q1, q1, F, M, n5, l1, X0, hY, kF_rf, kM_rf, fun K => ?_, fun h K => ?_⟩
      · rw [x_thS hn hT z hk, x_sayerF h1 hn hT hql w10 h5 e1 c1, tpu_none, x_th15, x_thF (by omega)]
      · rw [m_clS hb z hk, m_sayer h9 hn hQ hql s4 h5 e1 e2, if_neg c1, tpu_none, m_cl88]
/-- a saying told -/
theorem cl_said (h1 : cf 1 = nI n) (hn : n ≤ 240) (hT : TP n tp (cg 0)) (h9 : F 9 = nI n) (hQ : TQ n tp (M 8)) (hq : q < n) (R : rQ 0 t ns cs D fb gb yb (F 17) (MFr F M)) (X : xb D0 D ns) (hY : rY D yb) (d1 : 70 ≤ D0.2.1) (d2 : D0.2.1 < 900000) (z : tkn n tp q = 10) : (∃ (j : Nat) (D' : TH) (b' : WS) (qs p : Nat) (F' : Nat → Int32) (M' : Nat → Nat → Int32), j ≤ 5 ∧ p ≤ n ∧ xb D0 D' j ∧ rY D' b'.2.2 ∧ kF F F' ∧ kM M M' ∧ (∀ K, tA sc iX1_readThing 0 [vR (some 37), vR (some 13), vU] [] (hX (hM D 45 F0 E0 M0 U0) x G Y f g y ((fb, gb, yb)) c (cfS cf n tp (q) (-1)) cg tf tg) K = K none (hX (hM D' 45 F0 E0 M0 U0) x G Y f g y (b') c (cfS cf n tp (qs) (nI p)) cg tf tg)) ∧ (∀ h K, tA sc iX11_wantClause 0 [vR (some m)] [] (hM h m (FmS (F) n tp (q) (1)) (EmS E n tp (q)) (M) U) K = K none (hM h m (FmS (F') n tp (p) (0)) (EmS E n tp (p)) (M') U))) ∨ (∃ (D' : TH) (b' : WS) (q' t' ns' cs' : Nat) (F' : Nat → Int32) (M' : Nat → Nat → Int32), q < q' ∧ q' ≤ n ∧ xb D0 D' ns' ∧ rY D' b'.2.2 ∧ kF F F' ∧ kM M M' ∧ rQ 0 t' ns' cs' D' b'.1 b'.2.1 b'.2.2 (F' 17) (MFr F' M') ∧ (∀ K, tA sc iX1_readThing 0 [vR (some 37), vR (some 13), vU] [] (hX (hM D 45 F0 E0 M0 U0) x G Y f g y ((fb, gb, yb)) c (cfS cf n tp (q) (-1)) cg tf tg) K = K none (hX (hM D' 45 F0 E0 M0 U0) x G Y f g y (b') c (cfS cf n tp (q') (-1)) cg tf tg)) ∧ (∀ h K, tA sc iX11_wantClause 0 [vR (some m)] [] (hM h m (FmS (F) n tp (q) (1)) (EmS E n tp (q)) (M) U) K = K none (hM h m (FmS (F') n tp (q') (1)) (EmS E n tp (q')) (M') U))) := by
  have R0 := R
  obtain ⟨t20, n5, w6, m6, w7, w10, s4, w14, hT', hD, hS⟩ := R
  have hb : ∀ k, k < n → tp k < 256 := fun k hk => (hQ k hk).1
  have hql : q ≤ n := Nat.le_of_lt hq
  have f18 : F 18 = nI cs := hD.2.1
  have c40 := hD.1
  by_cases e4 : cs = 40
  · subst e4
    refine Or.inl ⟨ns, D, (fb, gb, yb), q, q, F, M, n5, hql, X, hY, kF_rf, kM_rf, fun K => ?_, fun h K => ?_⟩
    · rw [x_thG hn hT z, x_said40 w14, tpu_none, x_th49, x_thF (by omega)]
    · rw [m_clG hb z, m_said40 f18, tpu_none, m_cl88]
  · have h4 : cs < 40 := by omega
    obtain ⟨q1, e1⟩ : ∃ q1, nx n tp q = q1 := ⟨_, rfl⟩
    obtain ⟨q2, e2⟩ : ∃ q2, nx n tp q1 = q2 := ⟨_, rfl⟩
    obtain ⟨q3, e3⟩ : ∃ q3, nx n tp q2 = q3 := ⟨_, rfl⟩
    obtain ⟨q4, e4⟩ : ∃ q4, nx n tp q3 = q4 := ⟨_, rfl⟩
    have l1 : q1 ≤ n := e1 ▸ nx_le hql
    have l2 : q2 ≤ n := e2 ▸ nx_le l1
    have l3 : q3 ≤ n := e3 ▸ nx_le l2
    have l4 : q4 ≤ n := e4 ▸ nx_le l3
    by_cases c1 : num n tp q1 < ns
    · by_cases c2 : num n tp q2 < 20
      · by_cases c3 : num n tp q3 < 4
        · have fs := frs_said R0 c2 c3
          by_cases c4 : wsaid gb (num n tp q2) (nI (num n tp q3)) = 1
          · have c4' := fs.mpr c4
            refine Or.inl ⟨ns, D, (fb, gb, yb), q4, q3, F, M, n5, l3, X, hY, kF_rf, kM_rf, fun K => ?_, fun h K => ?_⟩
            · rw [x_thG hn hT z, x_said h1 hn hT hql w14 h4 w10 n5 e1 e2 e3 e4, if_pos c1, if_pos c2, if_pos c3, if_pos c4, tpu_none, x_th49, x_thF (by omega)]
            · rw [m_clG hb z, m_said h9 hn hQ hql f18 h4 s4 n5 e1 e2 e3 e4, if_pos c1, if_pos c2, if_pos c3, if_pos c4', tpu_none, m_cl88]
          · have c4' : ¬ frs M (nI (num n tp q2)) (nI (num n tp q3)) cs = 1 := fun y => c4 (fs.mp y)
            by_cases c5 : tko n tp q4 = 3 ∧ tp q4 = 59
            · have lt1 : q < q1 := e1 ▸ nx_lt hq
              have lt2 : q1 ≤ q2 := e2 ▸ nx_ge
              have lt3 : q2 ≤ q3 := e3 ▸ nx_ge
              have lt4 : q3 ≤ q4 := e4 ▸ nx_ge
              refine Or.inr ⟨D, (upd fb 14 (nI (cs + 1)), waddG gb cs (nI (num n tp q1)) (num n tp q2) (nI (num n tp q3)), yb), nx n tp q4, t, ns, cs + 1, upd F 18 (nI (cs + 1)), va_up M 23 (upd (upd (upd (M 23) (3 * cs) (nI (num n tp q1))) (3 * cs + 1) (nI (num n tp q2))) (3 * cs + 2) (nI (num n tp q3))), Nat.lt_of_lt_of_le (show q < q4 by omega) nx_ge, nx_le l4, X, hY, kF_up (by omega), kM_up (by omega), rF_said R0 h4 c2 c3 c1 c4, fun K => ?_, fun h K => ?_⟩
              · rw [x_thG hn hT z, x_said h1 hn hT hql w14 h4 w10 n5 e1 e2 e3 e4, if_pos c1, if_pos c2, if_pos c3, if_neg c4, tpu_none, x_th49, x_thE h1 hn hT l4, if_pos c5]
              · rw [m_clG hb z, m_said h9 hn hQ hql f18 h4 s4 n5 e1 e2 e3 e4, if_pos c1, if_pos c2, if_pos c3, if_neg c4', if_pos c5, tpu_none, m_cl88]
            · refine Or.inl ⟨ns, D, (upd fb 14 (nI (cs + 1)), waddG gb cs (nI (num n tp q1)) (num n tp q2) (nI (num n tp q3)), yb), q4, q4, F, M, n5, l4, X, hY, kF_rf, kM_rf, fun K => ?_, fun h K => ?_⟩
              · rw [x_thG hn hT z, x_said h1 hn hT hql w14 h4 w10 n5 e1 e2 e3 e4, if_pos c1, if_pos c2, if_pos c3, if_neg c4, tpu_none, x_th49, x_thE h1 hn hT l4, if_neg c5]
              · rw [m_clG hb z, m_said h9 hn hQ hql f18 h4 s4 n5 e1 e2 e3 e4, if_pos c1, if_pos c2, if_pos c3, if_neg c4', if_neg c5, tpu_none, m_cl88]
        · refine Or.inl ⟨ns, D, (fb, gb, yb), q3, q3, F, M, n5, l3, X, hY, kF_rf, kM_rf, fun K => ?_, fun h K => ?_⟩
          · rw [x_thG hn hT z, x_said h1 hn hT hql w14 h4 w10 n5 e1 e2 e3 e4, if_pos c1, if_pos c2, if_neg c3, tpu_none, x_th49, x_thF (by omega)]
          · rw [m_clG hb z, m_said h9 hn hQ hql f18 h4 s4 n5 e1 e2 e3 e4, if_pos c1, if_pos c2, if_neg c3, tpu_none, m_cl88]
      · refine Or.inl ⟨ns, D, (fb, gb, yb), q2, q2, F, M, n5, l2, X, hY, kF_rf, kM_rf, fun K => ?_, fun h K => ?_⟩
        · rw [x_thG hn hT z, x_said h1 hn hT hql w14 h4 w10 n5 e1 e2 e3 e4, if_pos c1, if_neg c2, tpu_none, x_th49, x_thF (by omega)]
        · rw [m_clG hb z, m_said h9 hn hQ hql f18 h4 s4 n5 e1 e2 e3 e4, if_pos c1, if_neg c2, tpu_none, m_cl88]
    · refine Or.inl ⟨ns, D, (fb, gb, yb), q1, q1, F, M, n5, l1, X, hY, kF_rf, kM_rf, fun K => ?_, fun h K => ?_⟩
      · rw [x_thG hn hT z, x_said h1 hn hT hql w14 h4 w10 n5 e1 e2 e3 e4, if_neg c1, tpu_none, x_th49, x_thF (by omega)]
      · rw [m_clG hb z, m_said h9 hn hQ hql f18 h4 s4 n5 e1 e2 e3 e4, if_neg c1, tpu_none, m_cl88]
/-- NOW told -/
theorem cl_now (h1 : cf 1 = nI n) (hn : n ≤ 240) (hT : TP n tp (cg 0)) (h9 : F 9 = nI n) (hQ : TQ n tp (M 8)) (hq : q < n) (R : rQ 0 t ns cs D fb gb yb (F 17) (MFr F M)) (X : xb D0 D ns) (hY : rY D yb) (d1 : 70 ≤ D0.2.1) (d2 : D0.2.1 < 900000) (z : tkn n tp q = 11) : (∃ (j : Nat) (D' : TH) (b' : WS) (qs p : Nat) (F' : Nat → Int32) (M' : Nat → Nat → Int32), j ≤ 5 ∧ p ≤ n ∧ xb D0 D' j ∧ rY D' b'.2.2 ∧ kF F F' ∧ kM M M' ∧ (∀ K, tA sc iX1_readThing 0 [vR (some 37), vR (some 13), vU] [] (hX (hM D 45 F0 E0 M0 U0) x G Y f g y ((fb, gb, yb)) c (cfS cf n tp (q) (-1)) cg tf tg) K = K none (hX (hM D' 45 F0 E0 M0 U0) x G Y f g y (b') c (cfS cf n tp (qs) (nI p)) cg tf tg)) ∧ (∀ h K, tA sc iX11_wantClause 0 [vR (some m)] [] (hM h m (FmS (F) n tp (q) (1)) (EmS E n tp (q)) (M) U) K = K none (hM h m (FmS (F') n tp (p) (0)) (EmS E n tp (p)) (M') U))) ∨ (∃ (D' : TH) (b' : WS) (q' t' ns' cs' : Nat) (F' : Nat → Int32) (M' : Nat → Nat → Int32), q < q' ∧ q' ≤ n ∧ xb D0 D' ns' ∧ rY D' b'.2.2 ∧ kF F F' ∧ kM M M' ∧ rQ 0 t' ns' cs' D' b'.1 b'.2.1 b'.2.2 (F' 17) (MFr F' M') ∧ (∀ K, tA sc iX1_readThing 0 [vR (some 37), vR (some 13), vU] [] (hX (hM D 45 F0 E0 M0 U0) x G Y f g y ((fb, gb, yb)) c (cfS cf n tp (q) (-1)) cg tf tg) K = K none (hX (hM D' 45 F0 E0 M0 U0) x G Y f g y (b') c (cfS cf n tp (q') (-1)) cg tf tg)) ∧ (∀ h K, tA sc iX11_wantClause 0 [vR (some m)] [] (hM h m (FmS (F) n tp (q) (1)) (EmS E n tp (q)) (M) U) K = K none (hM h m (FmS (F') n tp (q') (1)) (EmS E n tp (q')) (M') U))) := by
  have R0 := R
  obtain ⟨t20, n5, -⟩ := R
  have hb : ∀ k, k < n → tp k < 256 := fun k hk => (hQ k hk).1
  have hql : q ≤ n := Nat.le_of_lt hq
  obtain ⟨q1, e1⟩ : ∃ q1, nx n tp q = q1 := ⟨_, rfl⟩
  obtain ⟨q2, e2⟩ : ∃ q2, nx n tp q1 = q2 := ⟨_, rfl⟩
  have l1 : q1 ≤ n := e1 ▸ nx_le hql
  have l2 : q2 ≤ n := e2 ▸ nx_le l1
  by_cases c1 : num n tp q1 < 21
  · by_cases c5 : tko n tp q2 = 3 ∧ tp q2 = 59
    · have lt1 : q < q1 := e1 ▸ nx_lt hq
      have lt2 : q1 ≤ q2 := e2 ▸ nx_ge
      refine Or.inr ⟨D, (upd fb 6 (nI (num n tp q1)), gb, yb), nx n tp q2, num n tp q1, ns, cs, upd F 16 (nI (num n tp q1)), M, Nat.lt_of_lt_of_le (show q < q2 by omega) nx_ge, nx_le l2, X, hY, kF_up (by omega), kM_rf, rF_now R0 (by omega), fun K => ?_, fun h K => ?_⟩
      · rw [x_thN h1 hn hT hql z e1, if_pos c1, e2, x_thE h1 hn hT l2, if_pos c5]
      · rw [m_clN h9 hn hQ hql z e1 e2, if_pos c1, if_pos c5]
    · refine Or.inl ⟨ns, D, (upd fb 6 (nI (num n tp q1)), gb, yb), q2, q2, upd F 16 (nI (num n tp q1)), M, n5, l2, X, hY, kF_up (by omega), kM_rf, fun K => ?_, fun h K => ?_⟩
      · rw [x_thN h1 hn hT hql z e1, if_pos c1, e2, x_thE h1 hn hT l2, if_neg c5]
      · rw [m_clN h9 hn hQ hql z e1 e2, if_pos c1, if_neg c5]
  · refine Or.inl ⟨ns, D, (upd fb 6 0, gb, yb), q1, q1, upd F 16 (vl n tp q1), M, n5, l1, X, hY, kF_up (by omega), kM_rf, fun K => ?_, fun h K => ?_⟩
    · rw [x_thN h1 hn hT hql z e1, if_neg c1]
    · rw [m_clN h9 hn hQ hql z e1 e2, if_neg c1]
/-- nothing told -/
theorem cl_none (h1 : cf 1 = nI n) (hn : n ≤ 240) (hT : TP n tp (cg 0)) (h9 : F 9 = nI n) (hQ : TQ n tp (M 8)) (hq : q < n) (R : rQ 0 t ns cs D fb gb yb (F 17) (MFr F M)) (X : xb D0 D ns) (hY : rY D yb) (d1 : 70 ≤ D0.2.1) (d2 : D0.2.1 < 900000) (z0 : ¬ tkn n tp q < 6) (z1 : ¬ tkn n tp q = 6) (z2 : ¬ tkn n tp q = 10) (z3 : ¬ tkn n tp q = 11) : (∃ (j : Nat) (D' : TH) (b' : WS) (qs p : Nat) (F' : Nat → Int32) (M' : Nat → Nat → Int32), j ≤ 5 ∧ p ≤ n ∧ xb D0 D' j ∧ rY D' b'.2.2 ∧ kF F F' ∧ kM M M' ∧ (∀ K, tA sc iX1_readThing 0 [vR (some 37), vR (some 13), vU] [] (hX (hM D 45 F0 E0 M0 U0) x G Y f g y ((fb, gb, yb)) c (cfS cf n tp (q) (-1)) cg tf tg) K = K none (hX (hM D' 45 F0 E0 M0 U0) x G Y f g y (b') c (cfS cf n tp (qs) (nI p)) cg tf tg)) ∧ (∀ h K, tA sc iX11_wantClause 0 [vR (some m)] [] (hM h m (FmS (F) n tp (q) (1)) (EmS E n tp (q)) (M) U) K = K none (hM h m (FmS (F') n tp (p) (0)) (EmS E n tp (p)) (M') U))) ∨ (∃ (D' : TH) (b' : WS) (q' t' ns' cs' : Nat) (F' : Nat → Int32) (M' : Nat → Nat → Int32), q < q' ∧ q' ≤ n ∧ xb D0 D' ns' ∧ rY D' b'.2.2 ∧ kF F F' ∧ kM M M' ∧ rQ 0 t' ns' cs' D' b'.1 b'.2.1 b'.2.2 (F' 17) (MFr F' M') ∧ (∀ K, tA sc iX1_readThing 0 [vR (some 37), vR (some 13), vU] [] (hX (hM D 45 F0 E0 M0 U0) x G Y f g y ((fb, gb, yb)) c (cfS cf n tp (q) (-1)) cg tf tg) K = K none (hX (hM D' 45 F0 E0 M0 U0) x G Y f g y (b') c (cfS cf n tp (q') (-1)) cg tf tg)) ∧ (∀ h K, tA sc iX11_wantClause 0 [vR (some m)] [] (hM h m (FmS (F) n tp (q) (1)) (EmS E n tp (q)) (M) U) K = K none (hM h m (FmS (F') n tp (q') (1)) (EmS E n tp (q')) (M') U))) := by
  obtain ⟨t20, n5, -⟩ := R
  have hb : ∀ k, k < n → tp k < 256 := fun k hk => (hQ k hk).1
  have hql : q ≤ n := Nat.le_of_lt hq
  refine Or.inl ⟨ns, D, (fb, gb, yb), q, q, F, M, n5, hql, X, hY, kF_rf, kM_rf, fun K => ?_, fun h K => ?_⟩
  · rw [x_th0 hn hT hql z0 z1 z2 z3]
  · rw [m_cl0 hb z0 z1 z2 z3]
end S98t
