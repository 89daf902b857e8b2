/-! THE CLERK, 5: the class's words, in the whole heap -/
section S98o
variable {sc : Nat × (Nat → Int32)} {h D : TH} {n q k p i j d ns cs kd a s : Nat} {tp : Nat → Nat} {x : Nat → Int32} {G : Nat → Nat → Int32} {Y : Nat → Nat → Option Nat} {f F : Nat → Int32} {g M : Nat → Nat → Int32} {y : Nat → Option Nat} {b c : WS} {cf tf fb : Nat → Int32} {cg tg gb : Nat → Nat → Int32} {yb : Nat → Option Nat} {v ft w : Int32} {E : Nat → Int64} {U : Nat → Nat → Int64} {K : Option TV → TH → Prop} {l3 : TV}
theorem lt3 : ∀ v, v < 100 → (nI v ≤ (3 : Int32) ↔ v < 4) := by decide +kernel
theorem lt9 : ∀ v, v < 100 → (nI v ≤ (9 : Int32) ↔ v < 10) := by decide +kernel
theorem lt19 : ∀ v, v < 100 → (nI v ≤ (19 : Int32) ↔ v < 20) := by decide +kernel
theorem lt20 : ∀ v, v < 100 → (nI v ≤ (20 : Int32) ↔ v < 21) := by decide +kernel
theorem lt99 : ∀ v, v < 100 → (nI v ≤ (99 : Int32) ↔ v < 100) := by decide +kernel
theorem ltS : ∀ s, s < 6 → ∀ v, v < 100 → (nI v ≤ nI s - 1 ↔ v < s) := by decide +kernel
theorem x_step (h1 : cf 1 = nI n) (hn : n ≤ 240) (hT : TP n tp (cg 0)) (hq : q ≤ n) : tA sc iX1_step 0 [vR (some 37)] [] (hX h x G Y f g y (b) c (cfS cf n tp (q) (ft)) cg tf tg) K = K none (hX h x G Y f g y (b) c (cfS cf n tp (nx n tp q) (ft)) cg tf tg) := by
  conv => lhs; rw [hX_c]
  rw [c_step h1 hn hT hq, hX_C]
theorem x_num {m : Nat} (h1 : cf 1 = nI n) (hn : n ≤ 240) (hT : TP n tp (cg 0)) (hq : q ≤ n) (hm : m ≤ 100) (hx : ∀ v, v < 100 → (nI v ≤ w ↔ v < m)) : tA sc iX1_takeNumber 0 [vR (some 37), vI w, vU] [] (hX h x G Y f g y (b) c (cfS cf n tp (q) (-1)) cg tf tg) K = if num n tp q < m then K (some (vI (nI (num n tp q)))) (hX h x G Y f g y (b) c (cfS cf n tp (nx n tp q) (-1)) cg tf tg) else K (some (vI 0)) (hX h x G Y f g y (b) c (cfS cf n tp (q) (nI q)) cg tf tg) := by
  conv => lhs; rw [hX_c]
  rw [c_num h1 hn hT hq hm hx, hX_C, hX_C]
theorem x_num3 (h1 : cf 1 = nI n) (hn : n ≤ 240) (hT : TP n tp (cg 0)) (hq : q ≤ n) : tA sc iX1_takeNumber 0 [vR (some 37), vI 3, vU] [] (hX h x G Y f g y (b) c (cfS cf n tp (q) (-1)) cg tf tg) K = if num n tp q < 4 then K (some (vI (nI (num n tp q)))) (hX h x G Y f g y (b) c (cfS cf n tp (nx n tp q) (-1)) cg tf tg) else K (some (vI 0)) (hX h x G Y f g y (b) c (cfS cf n tp (q) (nI q)) cg tf tg) := x_num h1 hn hT hq (by decide) lt3
theorem x_num9 (h1 : cf 1 = nI n) (hn : n ≤ 240) (hT : TP n tp (cg 0)) (hq : q ≤ n) : tA sc iX1_takeNumber 0 [vR (some 37), vI 9, vU] [] (hX h x G Y f g y (b) c (cfS cf n tp (q) (-1)) cg tf tg) K = if num n tp q < 10 then K (some (vI (nI (num n tp q)))) (hX h x G Y f g y (b) c (cfS cf n tp (nx n tp q) (-1)) cg tf tg) else K (some (vI 0)) (hX h x G Y f g y (b) c (cfS cf n tp (q) (nI q)) cg tf tg) := x_num h1 hn hT hq (by decide) lt9
theorem x_num19 (h1 : cf 1 = nI n) (hn : n ≤ 240) (hT : TP n tp (cg 0)) (hq : q ≤ n) : tA sc iX1_takeNumber 0 [vR (some 37), vI 19, vU] [] (hX h x G Y f g y (b) c (cfS cf n tp (q) (-1)) cg tf tg) K = if num n tp q < 20 then K (some (vI (nI (num n tp q)))) (hX h x G Y f g y (b) c (cfS cf n tp (nx n tp q) (-1)) cg tf tg) else K (some (vI 0)) (hX h x G Y f g y (b) c (cfS cf n tp (q) (nI q)) cg tf tg) := x_num h1 hn hT hq (by decide) lt19
theorem x_num20 (h1 : cf 1 = nI n) (hn : n ≤ 240) (hT : TP n tp (cg 0)) (hq : q ≤ n) : tA sc iX1_takeNumber 0 [vR (some 37), vI 20, vU] [] (hX h x G Y f g y (b) c (cfS cf n tp (q) (-1)) cg tf tg) K = if num n tp q < 21 then K (some (vI (nI (num n tp q)))) (hX h x G Y f g y (b) c (cfS cf n tp (nx n tp q) (-1)) cg tf tg) else K (some (vI 0)) (hX h x G Y f g y (b) c (cfS cf n tp (q) (nI q)) cg tf tg) := x_num h1 hn hT hq (by decide) lt20
theorem x_num99 (h1 : cf 1 = nI n) (hn : n ≤ 240) (hT : TP n tp (cg 0)) (hq : q ≤ n) : tA sc iX1_takeNumber 0 [vR (some 37), vI 99, vU] [] (hX h x G Y f g y (b) c (cfS cf n tp (q) (-1)) cg tf tg) K = if num n tp q < 100 then K (some (vI (nI (num n tp q)))) (hX h x G Y f g y (b) c (cfS cf n tp (nx n tp q) (-1)) cg tf tg) else K (some (vI 0)) (hX h x G Y f g y (b) c (cfS cf n tp (q) (nI q)) cg tf tg) := x_num h1 hn hT hq (by decide) lt99
theorem x_numS (h1 : cf 1 = nI n) (hn : n ≤ 240) (hT : TP n tp (cg 0)) (hq : q ≤ n) (hs : ns ≤ 5) : tA sc iX1_takeNumber 0 [vR (some 37), vI (nI ns - 1), vU] [] (hX h x G Y f g y (b) c (cfS cf n tp (q) (-1)) cg tf tg) K = if num n tp q < ns then K (some (vI (nI (num n tp q)))) (hX h x G Y f g y (b) c (cfS cf n tp (nx n tp q) (-1)) cg tf tg) else K (some (vI 0)) (hX h x G Y f g y (b) c (cfS cf n tp (q) (nI q)) cg tf tg) := x_num h1 hn hT hq (by omega) (ltS ns (by omega))
theorem x_numF (hp : p ≤ 240) : tA sc iX1_takeNumber 0 [vR (some 37), vI w, vU] [] (hX h x G Y f g y (b) c (cfS cf n tp (q) (nI p)) cg tf tg) K = K (some (vI 0)) (hX h x G Y f g y (b) c (cfS cf n tp (q) (nI p)) cg tf tg) := by
  conv => lhs; rw [hX_c]
  rw [c_numF hp, hX_C]
theorem x_name (hn : n ≤ 240) (hT : TP n tp (cg 0)) (hj : j < 12) : tA sc iX1_isName 0 [vR (some 37), vR (some (1000000003 + j)), vU] [] (hX h x G Y f g y (b) c (cfS cf n tp (q) (ft)) cg tf tg) K = K (some (vI (if tkn n tp q = j then 1 else 0))) (hX h x G Y f g y (b) c (cfS cf n tp (q) (ft)) cg tf tg) := by
  conv => lhs; rw [hX_c]
  rw [c_name hn hT hj, hX_C]
theorem x_n0 (hn : n ≤ 240) (hT : TP n tp (cg 0)) : tA sc iX1_isName 0 [vR (some 37), vR (some 1000000003), vU] [] (hX h x G Y f g y (b) c (cfS cf n tp (q) (ft)) cg tf tg) K = K (some (vI (if tkn n tp q = 0 then 1 else 0))) (hX h x G Y f g y (b) c (cfS cf n tp (q) (ft)) cg tf tg) := x_name (j := 0) hn hT (by decide)
theorem x_n1 (hn : n ≤ 240) (hT : TP n tp (cg 0)) : tA sc iX1_isName 0 [vR (some 37), vR (some 1000000004), vU] [] (hX h x G Y f g y (b) c (cfS cf n tp (q) (ft)) cg tf tg) K = K (some (vI (if tkn n tp q = 1 then 1 else 0))) (hX h x G Y f g y (b) c (cfS cf n tp (q) (ft)) cg tf tg) := x_name (j := 1) hn hT (by decide)
theorem x_n2 (hn : n ≤ 240) (hT : TP n tp (cg 0)) : tA sc iX1_isName 0 [vR (some 37), vR (some 1000000005), vU] [] (hX h x G Y f g y (b) c (cfS cf n tp (q) (ft)) cg tf tg) K = K (some (vI (if tkn n tp q = 2 then 1 else 0))) (hX h x G Y f g y (b) c (cfS cf n tp (q) (ft)) cg tf tg) := x_name (j := 2) hn hT (by decide)
theorem x_n3 (hn : n ≤ 240) (hT : TP n tp (cg 0)) : tA sc iX1_isName 0 [vR (some 37), vR (some 1000000006), vU] [] (hX h x G Y f g y (b) c (cfS cf n tp (q) (ft)) cg tf tg) K = K (some (vI (if tkn n tp q = 3 then 1 else 0))) (hX h x G Y f g y (b) c (cfS cf n tp (q) (ft)) cg tf tg) := x_name (j := 3) hn hT (by decide)
theorem x_n4 (hn : n ≤ 240) (hT : TP n tp (cg 0)) : tA sc iX1_isName 0 [vR (some 37), vR (some 1000000007), vU] [] (hX h x G Y f g y (b) c (cfS cf n tp (q) (ft)) cg tf tg) K = K (some (vI (if tkn n tp q = 4 then 1 else 0))) (hX h x G Y f g y (b) c (cfS cf n tp (q) (ft)) cg tf tg) := x_name (j := 4) hn hT (by decide)
theorem x_n5 (hn : n ≤ 240) (hT : TP n tp (cg 0)) : tA sc iX1_isName 0 [vR (some 37), vR (some 1000000008), vU] [] (hX h x G Y f g y (b) c (cfS cf n tp (q) (ft)) cg tf tg) K = K (some (vI (if tkn n tp q = 5 then 1 else 0))) (hX h x G Y f g y (b) c (cfS cf n tp (q) (ft)) cg tf tg) := x_name (j := 5) hn hT (by decide)
theorem x_n6 (hn : n ≤ 240) (hT : TP n tp (cg 0)) : tA sc iX1_isName 0 [vR (some 37), vR (some 1000000009), vU] [] (hX h x G Y f g y (b) c (cfS cf n tp (q) (ft)) cg tf tg) K = K (some (vI (if tkn n tp q = 6 then 1 else 0))) (hX h x G Y f g y (b) c (cfS cf n tp (q) (ft)) cg tf tg) := x_name (j := 6) hn hT (by decide)
theorem x_n7 (hn : n ≤ 240) (hT : TP n tp (cg 0)) : tA sc iX1_isName 0 [vR (some 37), vR (some 1000000010), vU] [] (hX h x G Y f g y (b) c (cfS cf n tp (q) (ft)) cg tf tg) K = K (some (vI (if tkn n tp q = 7 then 1 else 0))) (hX h x G Y f g y (b) c (cfS cf n tp (q) (ft)) cg tf tg) := x_name (j := 7) hn hT (by decide)
theorem x_n8 (hn : n ≤ 240) (hT : TP n tp (cg 0)) : tA sc iX1_isName 0 [vR (some 37), vR (some 1000000011), vU] [] (hX h x G Y f g y (b) c (cfS cf n tp (q) (ft)) cg tf tg) K = K (some (vI (if tkn n tp q = 8 then 1 else 0))) (hX h x G Y f g y (b) c (cfS cf n tp (q) (ft)) cg tf tg) := x_name (j := 8) hn hT (by decide)
theorem x_n9 (hn : n ≤ 240) (hT : TP n tp (cg 0)) : tA sc iX1_isName 0 [vR (some 37), vR (some 1000000012), vU] [] (hX h x G Y f g y (b) c (cfS cf n tp (q) (ft)) cg tf tg) K = K (some (vI (if tkn n tp q = 9 then 1 else 0))) (hX h x G Y f g y (b) c (cfS cf n tp (q) (ft)) cg tf tg) := x_name (j := 9) hn hT (by decide)
theorem x_n10 (hn : n ≤ 240) (hT : TP n tp (cg 0)) : tA sc iX1_isName 0 [vR (some 37), vR (some 1000000013), vU] [] (hX h x G Y f g y (b) c (cfS cf n tp (q) (ft)) cg tf tg) K = K (some (vI (if tkn n tp q = 10 then 1 else 0))) (hX h x G Y f g y (b) c (cfS cf n tp (q) (ft)) cg tf tg) := x_name (j := 10) hn hT (by decide)
theorem x_n11 (hn : n ≤ 240) (hT : TP n tp (cg 0)) : tA sc iX1_isName 0 [vR (some 37), vR (some 1000000014), vU] [] (hX h x G Y f g y (b) c (cfS cf n tp (q) (ft)) cg tf tg) K = K (some (vI (if tkn n tp q = 11 then 1 else 0))) (hX h x G Y f g y (b) c (cfS cf n tp (q) (ft)) cg tf tg) := x_name (j := 11) hn hT (by decide)
theorem x_wname (h1 : cf 1 = nI n) (hn : n ≤ 240) (hT : TP n tp (cg 0)) (hq : q ≤ n) : tA sc iX1_takeWorthName 0 [vR (some 37)] [] (hX h x G Y f g y (b) c (cfS cf n tp (q) (-1)) cg tf tg) K = if tkn n tp q = 7 then K none (hX h x G Y f g y (b) c (cfS cf n tp (nx n tp q) (-1)) cg tf tg) else K none (hX h x G Y f g y (b) c (cfS cf n tp (q) (nI q)) cg tf tg) := by
  conv => lhs; rw [hX_c]
  rw [c_wname h1 hn hT hq, hX_C, hX_C]
theorem x_wnameF (hp : p ≤ 240) : tA sc iX1_takeWorthName 0 [vR (some 37)] [] (hX h x G Y f g y (b) c (cfS cf n tp (q) (nI p)) cg tf tg) K = K none (hX h x G Y f g y (b) c (cfS cf n tp (q) (nI p)) cg tf tg) := by
  conv => lhs; rw [hX_c]
  rw [c_wnameF hp, hX_C]
theorem x_semi (h1 : cf 1 = nI n) (hn : n ≤ 240) (hT : TP n tp (cg 0)) (hq : q ≤ n) : tA sc iX1_takeSemicolon 0 [vR (some 37)] [] (hX h x G Y f g y (b) c (cfS cf n tp (q) (-1)) cg tf tg) K = if tko n tp q = 3 ∧ tp q = 59 then K none (hX h x G Y f g y (b) c (cfS cf n tp (nx n tp q) (-1)) cg tf tg) else K none (hX h x G Y f g y (b) c (cfS cf n tp (q) (nI q)) cg tf tg) := by
  conv => lhs; rw [hX_c]
  rw [c_semi h1 hn hT hq, hX_C, hX_C]
theorem x_semiF (hp : p ≤ 240) : tA sc iX1_takeSemicolon 0 [vR (some 37)] [] (hX h x G Y f g y (b) c (cfS cf n tp (q) (nI p)) cg tf tg) K = K none (hX h x G Y f g y (b) c (cfS cf n tp (q) (nI p)) cg tf tg) := by
  conv => lhs; rw [hX_c]
  rw [c_semiF hp, hX_C]
theorem x_kind (hn : n ≤ 240) (hT : TP n tp (cg 0)) : tA sc iX1_kindNamed 0 [vR (some 37)] [] (hX h x G Y f g y (b) c (cfS cf n tp (q) (ft)) cg tf tg) K = K (some (vI (kdn (tkn n tp q)))) (hX h x G Y f g y (b) c (cfS cf n tp (q) (ft)) cg tf tg) := by
  conv => lhs; rw [hX_c]
  rw [c_kind hn hT, hX_C]
/-! the draft, written -/
theorem hX_1w0 (hd : d < 20) : tasi (hX h x G Y f g y (fb, gb, yb) c cf cg tf tg) 14 (nI d) v = some (hX h x G Y f g y (fb, va_up gb 0 (upd (gb 0) d v), yb) c cf cg tf tg) := by rw [hX_w1]; refine (hW_w0 hd).trans ?_; rw [hX_W1]
theorem hX_1w1 (hd : d < 80) : tasi (hX h x G Y f g y (fb, gb, yb) c cf cg tf tg) 15 (nI d) v = some (hX h x G Y f g y (fb, va_up gb 1 (upd (gb 1) d v), yb) c cf cg tf tg) := by rw [hX_w1]; refine (hW_w1 hd).trans ?_; rw [hX_W1]
theorem hX_1w2 (hd : d < 20) : tasi (hX h x G Y f g y (fb, gb, yb) c cf cg tf tg) 16 (nI d) v = some (hX h x G Y f g y (fb, va_up gb 2 (upd (gb 2) d v), yb) c cf cg tf tg) := by rw [hX_w1]; refine (hW_w2 hd).trans ?_; rw [hX_W1]
theorem hX_1p6 : tput (hX h x G Y f g y (fb, gb, yb) c cf cg tf tg) 13 [9] 6 0 (vI v) = some (hX h x G Y f g y (upd fb 6 v, gb, yb) c cf cg tf tg) := by rw [hX_w1]; refine hW_p6.trans ?_; rw [hX_W1]
theorem d_forget (hd : d < 20) : tA sc iX9_forgetDay 0 [vR (some 13), vI (nI d), vU] [] (hX h x G Y f g y (fb, gb, yb) c cf cg tf tg) K = K none (hX h x G Y f g y (fb, wfgd gb d, yb) c cf cg tf tg) := atW1 (fun h K => sX9_forgetDay hd) K
theorem d_all (hd : d < 20) : tA sc iX9_allWith 0 [vR (some 13), vI (nI d), vI v, vU, vU] [] (hX h x G Y f g y (fb, gb, yb) c cf cg tf tg) K = K (some (vI (waw gb d v))) (hX h x G Y f g y (fb, gb, yb) c cf cg tf tg) := atW1 (fun h K => sX9_allWith hd) K
theorem d_room : tA sc iX9_room 0 [vR (some 13)] [] (hX h x G Y f g y (fb, gb, yb) c cf cg tf tg) K = K (some (vI (40 - fb 14))) (hX h x G Y f g y (fb, gb, yb) c cf cg tf tg) := atW1 (fun h K => sX9_room) K
theorem d_isSaid (hd : d < 20) : tA sc iX9_isSaid 0 [vR (some 13), vI (nI d), vI v] [] (hX h x G Y f g y (fb, gb, yb) c cf cg tf tg) K = K (some (vI (if wsaid gb d v = 1 then 1 else 0))) (hX h x G Y f g y (fb, gb, yb) c cf cg tf tg) := atW1 (fun h K => sX9_isSaidR hd) K
theorem d_addSaying (hc : fb 14 = nI cs) (h4 : cs < 40) (hd : d < 20) : tA sc iX9_addSaying 0 [vR (some 13), vI w, vI (nI d), vI v, vU] [] (hX h x G Y f g y (fb, gb, yb) c cf cg tf tg) K = K (some (vI (nI cs))) (hX h x G Y f g y (upd fb 14 (nI (cs + 1)), waddG gb cs w d v, yb) c cf cg tf tg) := atW1 (fun h K => sX9_addSaying hc h4 hd) K
theorem d_thing (hk : kd < 6) (d1 : 70 ≤ D.2.1) (hs : D.2.1 < 1000000) : tA sc iX10_thingOf 0 [vI (nI kd), vI (nI ns), vI (nI a)] [] (hX (hM D 45 F E M U) x G Y f g y (fb, gb, yb) c cf cg tf tg) K = K (some (vR (some D.2.1))) (hX (hM (hnew D (.inr (kcl kd, sfs (kcl kd) (nI kd) (nI ns) (nI a))) 3) 45 F E M U) x G Y f g y (fb, gb, yb) c cf cg tf tg) := by
  rw [sX10_thingOf (H := (hX (hM D 45 F E M U) x G Y f g y (fb, gb, yb) c cf cg tf tg)) (show D.2.1 < 1000000 from hs) hk, HL_new d1]
  rfl
theorem d_addSayer (hc : fb 10 = nI ns) (h5 : ns < 5) (hk : kd < 6) (d1 : 70 ≤ D.2.1) : tA sc iX9_addSayer 0 [vR (some 13), vR (some D.2.1), vU] [] (hX (hM (hnew D (.inr (kcl kd, sfs (kcl kd) (nI kd) (nI ns) (nI a))) 3) 45 F E M U) x G Y f g y (fb, gb, yb) c cf cg tf tg) K = K (some (vI (nI ns))) (hX (hM (hnew D (.inr (kcl kd, sfs (kcl kd) (nI kd) (nI ns) (nI a))) 3) 45 F E M U) x G Y f g y (upd fb 10 (nI (ns + 1)), va_up gb 9 (upd (gb 9) ns 0), va_up yb ns (some D.2.1)) c cf cg tf tg) := by
  have eY : okY (hX (hM (hnew D (.inr (kcl kd, sfs (kcl kd) (nI kd) (nI ns) (nI a))) 3) 45 F E M U) x G Y f g y (fb, gb, yb) c cf cg tf tg) 13 (some D.2.1) := Or.inr ⟨D.2.1, kcl kd, rfl, Or.inr (by omega), by unfold tcl; rw [HL_off d1, hnew_at], fit_kcl kd hk⟩
  conv => lhs; rw [hX_w1]
  rw [sX9_addSayer hc h5 eY, hX_W1]
end S98o
