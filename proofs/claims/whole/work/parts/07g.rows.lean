/-! instructions, by program (wip/whole/gen_rows.py) -/
section S17
variable {sc : Nat × (Nat → Int32)} {h : TH} {Q : Option TV → TH → Prop} {st ls : List TV} {l0 l1 l2 l3 l4 l5 l6 l7 l8 l9 l10 l11 l12 l13 l14 : TV} {x y j : Int32} {u w : Int64} {o a : Nat} {r : Option Nat} {v s0 s1 s2 s3 : TV} {p0 p1 p2 p3 p4 : Int32} {q0 q1 q2 q3 : Int64} {n0 n1 n2 n3 : Option Nat}

theorem mB_X11_would : mB iX11_would = cX11_would := rfl
theorem mO_X11_would : mO iX11_would = 11 := rfl
theorem rX11_would_0 : tA sc iX11_would 0 [vR r, l1, l2] st h Q = tA sc iX11_would 1 [vR r, l1, l2] (vR r :: st) h Q := tA_pure mB_X11_would dX11_would_0 rfl
theorem rX11_would_1 : tA sc iX11_would 1 [l0, vI x, l2] st h Q = tA sc iX11_would 2 [l0, vI x, l2] (vI x :: st) h Q := tA_pure mB_X11_would dX11_would_1 rfl
theorem rX11_would_2 (hci : tcl h o = some 11) : tA sc iX11_would 2 ls [vI p0, vR (some o)] h Q = tA sc iX11_isSayer 0 [vR (some o), vI p0] [] h (fun v h1 => tA sc iX11_would 5 ls (tpu v []) h1 Q) := tA_cV mB_X11_would mO_X11_would dX11_would_2 cT_11_247 rfl (Nat.le_of_ble_eq_true rfl) rfl rfl rfl hci
theorem rX11_would_5 : tA sc iX11_would 5 ls (vI x :: st) h Q = (if x = 0 then tA sc iX11_would 17 ls st h Q else tA sc iX11_would 8 ls st h Q) := tA_if mB_X11_would dX11_would_5 (fun _ _ _ _ => rfl) rfl
theorem rX11_would_8 : tA sc iX11_would 8 [l0, l1, vI x] st h Q = tA sc iX11_would 9 [l0, l1, vI x] (vI x :: st) h Q := tA_pure mB_X11_would dX11_would_8 rfl
theorem rX11_would_9 : tA sc iX11_would 9 ls st h Q = tA sc iX11_would 10 ls (vI (0) :: st) h Q := tA_pure mB_X11_would dX11_would_9 rfl
theorem rX11_would_10 : tA sc iX11_would 10 ls st h Q = tA sc iX11_would 11 ls (vI (2) :: st) h Q := tA_pure mB_X11_would dX11_would_10 rfl
theorem rX11_would_11 : tA sc iX11_would 11 ls [vI p2, vI p1, vI p0] h Q = tA sc iX11_in 0 [vI p0, vI p1, vI p2] [] h (fun v h1 => tA sc iX11_would 14 ls (tpu v []) h1 Q) := tA_cS mB_X11_would mO_X11_would dX11_would_11 cT_11_83 ⟨Nat.le_of_ble_eq_true rfl, Nat.le_of_ble_eq_true rfl⟩ rfl rfl rfl rfl
theorem rX11_would_14 : tA sc iX11_would 14 ls (vI x :: st) h Q = (if ¬ x = 0 then tA sc iX11_would 19 ls st h Q else tA sc iX11_would 17 ls st h Q) := tA_if mB_X11_would dX11_would_14 (fun _ _ _ _ => rfl) rfl
theorem rX11_would_17 : tA sc iX11_would 17 ls st h Q = tA sc iX11_would 18 ls (vI (-1) :: st) h Q := tA_pure mB_X11_would dX11_would_17 rfl
theorem rX11_would_18 : tA sc iX11_would 18 ls [vI x] h Q = Q (some (vI x)) h := tA_ret mB_X11_would dX11_would_18 (fun _ _ _ _ => rfl) (fun _ _ _ => rfl) (fun _ _ _ _ _ => rfl) rfl rfl
theorem rX11_would_19 : tA sc iX11_would 19 [vR r, l1, l2] st h Q = tA sc iX11_would 20 [vR r, l1, l2] (vR r :: st) h Q := tA_pure mB_X11_would dX11_would_19 rfl
theorem rX11_would_20 : tA sc iX11_would 20 [l0, vI x, l2] st h Q = tA sc iX11_would 21 [l0, vI x, l2] (vI x :: st) h Q := tA_pure mB_X11_would dX11_would_20 rfl
theorem rX11_would_21 (hci : tcl h o = some 11) : tA sc iX11_would 21 ls [vI p0, vR (some o)] h Q = tA sc iX11_findSaying 0 [vR (some o), vI p0, vU, vU, vU, vU, vU] [] h (fun v h1 => tA sc iX11_would 24 ls (tpu v []) h1 Q) := tA_cV mB_X11_would mO_X11_would dX11_would_21 cT_11_280 rfl (Nat.le_of_ble_eq_true rfl) rfl rfl rfl hci
theorem rX11_would_24 : tA sc iX11_would 24 [l0, l1, vI x] st h Q = tA sc iX11_would 25 [l0, l1, vI x] (vI x :: st) h Q := tA_pure mB_X11_would dX11_would_24 rfl
theorem rX11_would_25 : tA sc iX11_would 25 ls st h Q = tA sc iX11_would 26 ls (vI (2) :: st) h Q := tA_pure mB_X11_would dX11_would_25 rfl
theorem rX11_would_26 : tA sc iX11_would 26 ls (vI y :: vI x :: st) h Q = (if ¬ x = y then tA sc iX11_would 36 ls st h Q else tA sc iX11_would 29 ls st h Q) := tA_if mB_X11_would dX11_would_26 (fun _ _ _ _ => rfl) rfl
theorem rX11_would_29 : tA sc iX11_would 29 [vR r, l1, l2] st h Q = tA sc iX11_would 30 [vR r, l1, l2] (vR r :: st) h Q := tA_pure mB_X11_would dX11_would_29 rfl
theorem rX11_would_30 : tA sc iX11_would 30 ls (vR (some o) :: st) h Q = oz (tget h o [11] 27) (fun v => tA sc iX11_would 33 ls (v :: st) h Q) := tA_get mB_X11_would mO_X11_would dX11_would_30 fT_11_267
theorem rX11_would_33 : tA sc iX11_would 33 ls st h Q = tA sc iX11_would 63 ls st h Q := tA_jump mB_X11_would dX11_would_33 (fun _ _ _ _ => rfl) rfl
theorem rX11_would_36 : tA sc iX11_would 36 [vR r, l1, l2] st h Q = tA sc iX11_would 37 [vR r, l1, l2] (vR r :: st) h Q := tA_pure mB_X11_would dX11_would_36 rfl
theorem rX11_would_37 : tA sc iX11_would 37 ls (vR (some o) :: st) h Q = oz (tget h o [11] 27) (fun v => tA sc iX11_would 40 ls (v :: st) h Q) := tA_get mB_X11_would mO_X11_would dX11_would_37 fT_11_267
theorem rX11_would_40 : tA sc iX11_would 40 ls (vI x :: st) h Q = (if ¬ x = 0 then tA sc iX11_would 48 ls st h Q else tA sc iX11_would 43 ls st h Q) := tA_if mB_X11_would dX11_would_40 (fun _ _ _ _ => rfl) rfl
theorem rX11_would_43 : tA sc iX11_would 43 ls st h Q = tA sc iX11_would 45 ls (vI (-3) :: st) h Q := tA_pure mB_X11_would dX11_would_43 rfl
theorem rX11_would_45 : tA sc iX11_would 45 ls st h Q = tA sc iX11_would 63 ls st h Q := tA_jump mB_X11_would dX11_would_45 (fun _ _ _ _ => rfl) rfl
theorem rX11_would_48 : tA sc iX11_would 48 [l0, l1, vI x] st h Q = tA sc iX11_would 49 [l0, l1, vI x] (vI x :: st) h Q := tA_pure mB_X11_would dX11_would_48 rfl
theorem rX11_would_49 : tA sc iX11_would 49 ls (vI x :: st) h Q = (if ¬ x = 0 then tA sc iX11_would 59 ls st h Q else tA sc iX11_would 52 ls st h Q) := tA_if mB_X11_would dX11_would_49 (fun _ _ _ _ => rfl) rfl
theorem rX11_would_52 : tA sc iX11_would 52 [vR r, l1, l2] st h Q = tA sc iX11_would 53 [vR r, l1, l2] (vR r :: st) h Q := tA_pure mB_X11_would dX11_would_52 rfl
theorem rX11_would_53 : tA sc iX11_would 53 ls (vR (some o) :: st) h Q = oz (tget h o [11] 25) (fun v => tA sc iX11_would 56 ls (v :: st) h Q) := tA_get mB_X11_would mO_X11_would dX11_would_53 fT_11_261
theorem rX11_would_56 : tA sc iX11_would 56 ls st h Q = tA sc iX11_would 63 ls st h Q := tA_jump mB_X11_would dX11_would_56 (fun _ _ _ _ => rfl) rfl
theorem rX11_would_59 : tA sc iX11_would 59 [vR r, l1, l2] st h Q = tA sc iX11_would 60 [vR r, l1, l2] (vR r :: st) h Q := tA_pure mB_X11_would dX11_would_59 rfl
theorem rX11_would_60 : tA sc iX11_would 60 ls (vR (some o) :: st) h Q = oz (tget h o [11] 26) (fun v => tA sc iX11_would 63 ls (v :: st) h Q) := tA_get mB_X11_would mO_X11_would dX11_would_60 fT_11_264
theorem rX11_would_63 : tA sc iX11_would 63 ls [vI x] h Q = Q (some (vI x)) h := tA_ret mB_X11_would dX11_would_63 (fun _ _ _ _ => rfl) (fun _ _ _ => rfl) (fun _ _ _ _ _ => rfl) rfl rfl
theorem mB_X11_drawn : mB iX11_drawn = cX11_drawn := rfl
theorem mO_X11_drawn : mO iX11_drawn = 11 := rfl
theorem rX11_drawn_0 : tA sc iX11_drawn 0 [vR r, l1, l2, l3, l4] st h Q = tA sc iX11_drawn 1 [vR r, l1, l2, l3, l4] (vR r :: st) h Q := tA_pure mB_X11_drawn dX11_drawn_0 rfl
theorem rX11_drawn_1 : tA sc iX11_drawn 1 ls (vR (some o) :: st) h Q = oz (tget h o [11] 0) (fun v => tA sc iX11_drawn 4 ls (v :: st) h Q) := tA_get mB_X11_drawn mO_X11_drawn dX11_drawn_1 fT_11_7
theorem rX11_drawn_4 : tA sc iX11_drawn 4 [vR r, l1, l2, l3, l4] st h Q = tA sc iX11_drawn 5 [vR r, l1, l2, l3, l4] (vR r :: st) h Q := tA_pure mB_X11_drawn dX11_drawn_4 rfl
theorem rX11_drawn_5 : tA sc iX11_drawn 5 ls (vR (some o) :: st) h Q = oz (tget h o [11] 1) (fun v => tA sc iX11_drawn 8 ls (v :: st) h Q) := tA_get mB_X11_drawn mO_X11_drawn dX11_drawn_5 fT_11_91
theorem rX11_drawn_8 : tA sc iX11_drawn 8 ls st h Q = tA sc iX11_drawn 9 ls (vI (1) :: st) h Q := tA_pure mB_X11_drawn dX11_drawn_8 rfl
theorem rX11_drawn_9 : tA sc iX11_drawn 9 ls (vI y :: vI x :: st) h Q = tA sc iX11_drawn 10 ls (vI (x + y) :: st) h Q := tA_pure mB_X11_drawn dX11_drawn_9 rfl
theorem rX11_drawn_10 : tA sc iX11_drawn 10 [vR r, l1, l2, l3, l4] st h Q = tA sc iX11_drawn 11 [vR r, l1, l2, l3, l4] (vR r :: st) h Q := tA_pure mB_X11_drawn dX11_drawn_10 rfl
theorem rX11_drawn_11 : tA sc iX11_drawn 11 ls st h Q = tA sc iX11_drawn 12 ls (vI (1) :: st) h Q := tA_pure mB_X11_drawn dX11_drawn_11 rfl
theorem rX11_drawn_12 (hci : tcl h o = some 11) : tA sc iX11_drawn 12 ls [vI p0, vR (some o), s0, s1] h Q = tA sc iX11_its 0 [vR (some o), vI p0] [] h (fun v h1 => tA sc iX11_drawn 15 ls (tpu v [s0, s1]) h1 Q) := tA_cV mB_X11_drawn mO_X11_drawn dX11_drawn_12 cT_11_225 rfl (Nat.le_of_ble_eq_true rfl) rfl rfl rfl hci
theorem rX11_drawn_15 : tA sc iX11_drawn 15 ls st h Q = tA sc iX11_drawn 18 ls (vI (1103515245) :: st) h Q := tA_pure mB_X11_drawn dX11_drawn_15 rfl
theorem rX11_drawn_18 : tA sc iX11_drawn 18 ls (vI y :: vI x :: st) h Q = tA sc iX11_drawn 19 ls (vI (x * y) :: st) h Q := tA_pure mB_X11_drawn dX11_drawn_18 rfl
theorem rX11_drawn_19 : tA sc iX11_drawn 19 ls st h Q = tA sc iX11_drawn 22 ls (vI (12345) :: st) h Q := tA_pure mB_X11_drawn dX11_drawn_19 rfl
theorem rX11_drawn_22 : tA sc iX11_drawn 22 ls (vI y :: vI x :: st) h Q = tA sc iX11_drawn 23 ls (vI (x + y) :: st) h Q := tA_pure mB_X11_drawn dX11_drawn_22 rfl
theorem rX11_drawn_23 : tA sc iX11_drawn 23 ls (vI x :: vI j :: vR (some a) :: st) h Q = oz (tasi h a j x) (fun h' => tA sc iX11_drawn 24 ls st h' Q) := tA_iast mB_X11_drawn dX11_drawn_23
theorem rX11_drawn_24 : tA sc iX11_drawn 24 [vR r, l1, l2, l3, l4] st h Q = tA sc iX11_drawn 25 [vR r, l1, l2, l3, l4] (vR r :: st) h Q := tA_pure mB_X11_drawn dX11_drawn_24 rfl
theorem rX11_drawn_25 : tA sc iX11_drawn 25 ls st h Q = tA sc iX11_drawn 26 ls (vI (1) :: st) h Q := tA_pure mB_X11_drawn dX11_drawn_25 rfl
theorem rX11_drawn_26 (hci : tcl h o = some 11) : tA sc iX11_drawn 26 ls [vI p0, vR (some o)] h Q = tA sc iX11_its 0 [vR (some o), vI p0] [] h (fun v h1 => tA sc iX11_drawn 29 ls (tpu v []) h1 Q) := tA_cV mB_X11_drawn mO_X11_drawn dX11_drawn_26 cT_11_225 rfl (Nat.le_of_ble_eq_true rfl) rfl rfl rfl hci
theorem rX11_drawn_29 : tA sc iX11_drawn 29 ls st h Q = tA sc iX11_drawn 31 ls (vI (16) :: st) h Q := tA_pure mB_X11_drawn dX11_drawn_29 rfl
theorem rX11_drawn_31 : tA sc iX11_drawn 31 ls (vI y :: vI x :: st) h Q = tA sc iX11_drawn 32 ls (vI ((x.toUInt32 >>> (y.toUInt32 &&& Int32.toUInt32 31)).toInt32) :: st) h Q := tA_pure mB_X11_drawn dX11_drawn_31 rfl
theorem rX11_drawn_32 : tA sc iX11_drawn 32 [l0, l1, vI x, l3, l4] st h Q = tA sc iX11_drawn 33 [l0, l1, vI x, l3, l4] (vI x :: st) h Q := tA_pure mB_X11_drawn dX11_drawn_32 rfl
theorem rX11_drawn_33 : tA sc iX11_drawn 33 ls (vI x :: st) h Q = (if x = 0 then tA sc iX11_drawn 44 ls st h Q else tA sc iX11_drawn 36 ls st h Q) := tA_if mB_X11_drawn dX11_drawn_33 (fun _ _ _ _ => rfl) rfl
theorem rX11_drawn_36 : tA sc iX11_drawn 36 [vR r, l1, l2, l3, l4] st h Q = tA sc iX11_drawn 37 [vR r, l1, l2, l3, l4] (vR r :: st) h Q := tA_pure mB_X11_drawn dX11_drawn_36 rfl
theorem rX11_drawn_37 : tA sc iX11_drawn 37 [l0, vI x, l2, l3, l4] st h Q = tA sc iX11_drawn 38 [l0, vI x, l2, l3, l4] (vI x :: st) h Q := tA_pure mB_X11_drawn dX11_drawn_37 rfl
theorem rX11_drawn_38 (hci : tcl h o = some 11) : tA sc iX11_drawn 38 ls [vI p0, vR (some o), s0] h Q = tA sc iX11_plainAll 0 [vR (some o), vI p0] [] h (fun v h1 => tA sc iX11_drawn 41 ls (tpu v [s0]) h1 Q) := tA_cV mB_X11_drawn mO_X11_drawn dX11_drawn_38 cT_11_222 rfl (Nat.le_of_ble_eq_true rfl) rfl rfl rfl hci
theorem rX11_drawn_41 : tA sc iX11_drawn 41 ls st h Q = tA sc iX11_drawn 49 ls st h Q := tA_jump mB_X11_drawn dX11_drawn_41 (fun _ _ _ _ => rfl) rfl
theorem rX11_drawn_44 : tA sc iX11_drawn 44 [vR r, l1, l2, l3, l4] st h Q = tA sc iX11_drawn 45 [vR r, l1, l2, l3, l4] (vR r :: st) h Q := tA_pure mB_X11_drawn dX11_drawn_44 rfl
theorem rX11_drawn_45 : tA sc iX11_drawn 45 [l0, vI x, l2, l3, l4] st h Q = tA sc iX11_drawn 46 [l0, vI x, l2, l3, l4] (vI x :: st) h Q := tA_pure mB_X11_drawn dX11_drawn_45 rfl
theorem rX11_drawn_46 (hci : tcl h o = some 11) : tA sc iX11_drawn 46 ls [vI p0, vR (some o), s0] h Q = tA sc iX11_allOf 0 [vR (some o), vI p0] [] h (fun v h1 => tA sc iX11_drawn 49 ls (tpu v [s0]) h1 Q) := tA_cV mB_X11_drawn mO_X11_drawn dX11_drawn_46 cT_11_277 rfl (Nat.le_of_ble_eq_true rfl) rfl rfl rfl hci
theorem rX11_drawn_49 : tA sc iX11_drawn 49 ls (vI y :: vI x :: st) h Q = (¬ y = 0 ∧ tA sc iX11_drawn 50 ls (vI (x - x / y * y) :: st) h Q) := tA_div mB_X11_drawn dX11_drawn_49 (fun _ _ _ => rfl) (fun _ _ _ _ _ => rfl) rfl (fun _ _ => rfl) rfl
theorem rX11_drawn_50 : tA sc iX11_drawn 50 [l0, l1, l2, l3, l4] (vI x :: st) h Q = tA sc iX11_drawn 51 [l0, l1, tclr l2, vI x, l4] st h Q := tA_pure mB_X11_drawn dX11_drawn_50 rfl
theorem rX11_drawn_51 : tA sc iX11_drawn 51 ls st h Q = tA sc iX11_drawn 52 ls (vI (0) :: st) h Q := tA_pure mB_X11_drawn dX11_drawn_51 rfl
theorem rX11_drawn_52 : tA sc iX11_drawn 52 [l0, l1, l2, l3, l4] (vI x :: st) h Q = tA sc iX11_drawn 54 [l0, l1, l2, tclr l3, vI x] st h Q := tA_pure mB_X11_drawn dX11_drawn_52 rfl
theorem rX11_drawn_54 : tA sc iX11_drawn 54 [l0, l1, l2, vI x, l4] st h Q = tA sc iX11_drawn 55 [l0, l1, l2, vI x, l4] (vI x :: st) h Q := tA_pure mB_X11_drawn dX11_drawn_54 rfl
theorem rX11_drawn_55 : tA sc iX11_drawn 55 [l0, l1, vI x, l3, l4] st h Q = tA sc iX11_drawn 56 [l0, l1, vI x, l3, l4] (vI x :: st) h Q := tA_pure mB_X11_drawn dX11_drawn_55 rfl
theorem rX11_drawn_56 : tA sc iX11_drawn 56 ls (vI x :: st) h Q = (if x = 0 then tA sc iX11_drawn 73 ls st h Q else tA sc iX11_drawn 59 ls st h Q) := tA_if mB_X11_drawn dX11_drawn_56 (fun _ _ _ _ => rfl) rfl
theorem rX11_drawn_59 : tA sc iX11_drawn 59 [vR r, l1, l2, l3, l4] st h Q = tA sc iX11_drawn 60 [vR r, l1, l2, l3, l4] (vR r :: st) h Q := tA_pure mB_X11_drawn dX11_drawn_59 rfl
theorem rX11_drawn_60 : tA sc iX11_drawn 60 ls (vR (some o) :: st) h Q = oz (tget h o [11] 3) (fun v => tA sc iX11_drawn 63 ls (v :: st) h Q) := tA_get mB_X11_drawn mO_X11_drawn dX11_drawn_60 fT_11_16
theorem rX11_drawn_63 : tA sc iX11_drawn 63 ls st h Q = tA sc iX11_drawn 64 ls (vI (4) :: st) h Q := tA_pure mB_X11_drawn dX11_drawn_63 rfl
theorem rX11_drawn_64 : tA sc iX11_drawn 64 [l0, vI x, l2, l3, l4] st h Q = tA sc iX11_drawn 65 [l0, vI x, l2, l3, l4] (vI x :: st) h Q := tA_pure mB_X11_drawn dX11_drawn_64 rfl
theorem rX11_drawn_65 : tA sc iX11_drawn 65 ls (vI y :: vI x :: st) h Q = tA sc iX11_drawn 66 ls (vI (x * y) :: st) h Q := tA_pure mB_X11_drawn dX11_drawn_65 rfl
theorem rX11_drawn_66 : tA sc iX11_drawn 66 [l0, l1, l2, l3, vI x] st h Q = tA sc iX11_drawn 68 [l0, l1, l2, l3, vI x] (vI x :: st) h Q := tA_pure mB_X11_drawn dX11_drawn_66 rfl
theorem rX11_drawn_68 : tA sc iX11_drawn 68 ls (vI y :: vI x :: st) h Q = tA sc iX11_drawn 69 ls (vI (x + y) :: st) h Q := tA_pure mB_X11_drawn dX11_drawn_68 rfl
theorem rX11_drawn_69 : tA sc iX11_drawn 69 ls (vI j :: vR (some a) :: st) h Q = oz (tald sc h 0 a j) (fun v => tA sc iX11_drawn 70 ls (vI v :: st) h Q) := tA_iald mB_X11_drawn dX11_drawn_69
theorem rX11_drawn_70 : tA sc iX11_drawn 70 ls st h Q = tA sc iX11_drawn 80 ls st h Q := tA_jump mB_X11_drawn dX11_drawn_70 (fun _ _ _ _ => rfl) rfl
theorem rX11_drawn_73 : tA sc iX11_drawn 73 [vR r, l1, l2, l3, l4] st h Q = tA sc iX11_drawn 74 [vR r, l1, l2, l3, l4] (vR r :: st) h Q := tA_pure mB_X11_drawn dX11_drawn_73 rfl
theorem rX11_drawn_74 : tA sc iX11_drawn 74 [l0, vI x, l2, l3, l4] st h Q = tA sc iX11_drawn 75 [l0, vI x, l2, l3, l4] (vI x :: st) h Q := tA_pure mB_X11_drawn dX11_drawn_74 rfl
theorem rX11_drawn_75 : tA sc iX11_drawn 75 [l0, l1, l2, l3, vI x] st h Q = tA sc iX11_drawn 77 [l0, l1, l2, l3, vI x] (vI x :: st) h Q := tA_pure mB_X11_drawn dX11_drawn_75 rfl
theorem rX11_drawn_77 (hci : tcl h o = some 11) : tA sc iX11_drawn 77 ls [vI p1, vI p0, vR (some o), s0] h Q = tA sc iX11_weightOf 0 [vR (some o), vI p0, vI p1] [] h (fun v h1 => tA sc iX11_drawn 80 ls (tpu v [s0]) h1 Q) := tA_cV mB_X11_drawn mO_X11_drawn dX11_drawn_77 cT_11_228 rfl (Nat.le_of_ble_eq_true rfl) rfl rfl rfl hci
theorem rX11_drawn_80 : tA sc iX11_drawn 80 ls (vI y :: vI x :: st) h Q = (if x < y then tA sc iX11_drawn 117 ls st h Q else tA sc iX11_drawn 83 ls st h Q) := tA_if mB_X11_drawn dX11_drawn_80 (fun _ _ _ _ => rfl) rfl
theorem rX11_drawn_83 : tA sc iX11_drawn 83 [l0, l1, l2, vI x, l4] st h Q = tA sc iX11_drawn 84 [l0, l1, l2, vI x, l4] (vI x :: st) h Q := tA_pure mB_X11_drawn dX11_drawn_83 rfl
theorem rX11_drawn_84 : tA sc iX11_drawn 84 [l0, l1, vI x, l3, l4] st h Q = tA sc iX11_drawn 85 [l0, l1, vI x, l3, l4] (vI x :: st) h Q := tA_pure mB_X11_drawn dX11_drawn_84 rfl
theorem rX11_drawn_85 : tA sc iX11_drawn 85 ls (vI x :: st) h Q = (if x = 0 then tA sc iX11_drawn 102 ls st h Q else tA sc iX11_drawn 88 ls st h Q) := tA_if mB_X11_drawn dX11_drawn_85 (fun _ _ _ _ => rfl) rfl
theorem rX11_drawn_88 : tA sc iX11_drawn 88 [vR r, l1, l2, l3, l4] st h Q = tA sc iX11_drawn 89 [vR r, l1, l2, l3, l4] (vR r :: st) h Q := tA_pure mB_X11_drawn dX11_drawn_88 rfl
theorem rX11_drawn_89 : tA sc iX11_drawn 89 ls (vR (some o) :: st) h Q = oz (tget h o [11] 3) (fun v => tA sc iX11_drawn 92 ls (v :: st) h Q) := tA_get mB_X11_drawn mO_X11_drawn dX11_drawn_89 fT_11_16
theorem rX11_drawn_92 : tA sc iX11_drawn 92 ls st h Q = tA sc iX11_drawn 93 ls (vI (4) :: st) h Q := tA_pure mB_X11_drawn dX11_drawn_92 rfl
theorem rX11_drawn_93 : tA sc iX11_drawn 93 [l0, vI x, l2, l3, l4] st h Q = tA sc iX11_drawn 94 [l0, vI x, l2, l3, l4] (vI x :: st) h Q := tA_pure mB_X11_drawn dX11_drawn_93 rfl
theorem rX11_drawn_94 : tA sc iX11_drawn 94 ls (vI y :: vI x :: st) h Q = tA sc iX11_drawn 95 ls (vI (x * y) :: st) h Q := tA_pure mB_X11_drawn dX11_drawn_94 rfl
theorem rX11_drawn_95 : tA sc iX11_drawn 95 [l0, l1, l2, l3, vI x] st h Q = tA sc iX11_drawn 97 [l0, l1, l2, l3, vI x] (vI x :: st) h Q := tA_pure mB_X11_drawn dX11_drawn_95 rfl
theorem rX11_drawn_97 : tA sc iX11_drawn 97 ls (vI y :: vI x :: st) h Q = tA sc iX11_drawn 98 ls (vI (x + y) :: st) h Q := tA_pure mB_X11_drawn dX11_drawn_97 rfl
theorem rX11_drawn_98 : tA sc iX11_drawn 98 ls (vI j :: vR (some a) :: st) h Q = oz (tald sc h 0 a j) (fun v => tA sc iX11_drawn 99 ls (vI v :: st) h Q) := tA_iald mB_X11_drawn dX11_drawn_98
theorem rX11_drawn_99 : tA sc iX11_drawn 99 ls st h Q = tA sc iX11_drawn 109 ls st h Q := tA_jump mB_X11_drawn dX11_drawn_99 (fun _ _ _ _ => rfl) rfl
theorem rX11_drawn_102 : tA sc iX11_drawn 102 [vR r, l1, l2, l3, l4] st h Q = tA sc iX11_drawn 103 [vR r, l1, l2, l3, l4] (vR r :: st) h Q := tA_pure mB_X11_drawn dX11_drawn_102 rfl
theorem rX11_drawn_103 : tA sc iX11_drawn 103 [l0, vI x, l2, l3, l4] st h Q = tA sc iX11_drawn 104 [l0, vI x, l2, l3, l4] (vI x :: st) h Q := tA_pure mB_X11_drawn dX11_drawn_103 rfl
theorem rX11_drawn_104 : tA sc iX11_drawn 104 [l0, l1, l2, l3, vI x] st h Q = tA sc iX11_drawn 106 [l0, l1, l2, l3, vI x] (vI x :: st) h Q := tA_pure mB_X11_drawn dX11_drawn_104 rfl
theorem rX11_drawn_106 (hci : tcl h o = some 11) : tA sc iX11_drawn 106 ls [vI p1, vI p0, vR (some o), s0] h Q = tA sc iX11_weightOf 0 [vR (some o), vI p0, vI p1] [] h (fun v h1 => tA sc iX11_drawn 109 ls (tpu v [s0]) h1 Q) := tA_cV mB_X11_drawn mO_X11_drawn dX11_drawn_106 cT_11_228 rfl (Nat.le_of_ble_eq_true rfl) rfl rfl rfl hci
theorem rX11_drawn_109 : tA sc iX11_drawn 109 ls (vI y :: vI x :: st) h Q = tA sc iX11_drawn 110 ls (vI (x - y) :: st) h Q := tA_pure mB_X11_drawn dX11_drawn_109 rfl
theorem rX11_drawn_110 : tA sc iX11_drawn 110 [l0, l1, l2, l3, l4] (vI x :: st) h Q = tA sc iX11_drawn 111 [l0, l1, tclr l2, vI x, l4] st h Q := tA_pure mB_X11_drawn dX11_drawn_110 rfl
theorem rX11_drawn_111 : tA sc iX11_drawn 111 [l0, l1, l2, l3, vI x] st h Q = tA sc iX11_drawn 114 [l0, l1, l2, tclr l3, vI (x + 1)] st h Q := tA_pure mB_X11_drawn dX11_drawn_111 rfl
theorem rX11_drawn_114 : tA sc iX11_drawn 114 ls st h Q = tA sc iX11_drawn 54 ls st h Q := tA_jump mB_X11_drawn dX11_drawn_114 (fun _ _ _ _ => rfl) rfl
theorem rX11_drawn_117 : tA sc iX11_drawn 117 [l0, l1, l2, l3, vI x] st h Q = tA sc iX11_drawn 119 [l0, l1, l2, l3, vI x] (vI x :: st) h Q := tA_pure mB_X11_drawn dX11_drawn_117 rfl
theorem rX11_drawn_119 : tA sc iX11_drawn 119 ls [vI x] h Q = Q (some (vI x)) h := tA_ret mB_X11_drawn dX11_drawn_119 (fun _ _ _ _ => rfl) (fun _ _ _ => rfl) (fun _ _ _ _ _ => rfl) rfl rfl
theorem mB_X11_morningGoes : mB iX11_morningGoes = cX11_morningGoes := rfl
theorem mO_X11_morningGoes : mO iX11_morningGoes = 11 := rfl
theorem rX11_morningGoes_0 : tA sc iX11_morningGoes 0 ls st h Q = tA sc iX11_morningGoes 1 ls (vI (0) :: st) h Q := tA_pure mB_X11_morningGoes dX11_morningGoes_0 rfl
theorem rX11_morningGoes_1 : tA sc iX11_morningGoes 1 [l0, l1, l2, l3, l4] (vI x :: st) h Q = tA sc iX11_morningGoes 2 [tclr l0, vI x, l2, l3, l4] st h Q := tA_pure mB_X11_morningGoes dX11_morningGoes_1 rfl
theorem rX11_morningGoes_2 : tA sc iX11_morningGoes 2 [l0, vI x, l2, l3, l4] st h Q = tA sc iX11_morningGoes 3 [l0, vI x, l2, l3, l4] (vI x :: st) h Q := tA_pure mB_X11_morningGoes dX11_morningGoes_2 rfl
theorem rX11_morningGoes_3 : tA sc iX11_morningGoes 3 [vR r, l1, l2, l3, l4] st h Q = tA sc iX11_morningGoes 4 [vR r, l1, l2, l3, l4] (vR r :: st) h Q := tA_pure mB_X11_morningGoes dX11_morningGoes_3 rfl
theorem rX11_morningGoes_4 : tA sc iX11_morningGoes 4 ls (vR (some o) :: st) h Q = oz (tget h o [11] 4) (fun v => tA sc iX11_morningGoes 7 ls (v :: st) h Q) := tA_get mB_X11_morningGoes mO_X11_morningGoes dX11_morningGoes_4 fT_11_87
theorem rX11_morningGoes_7 : tA sc iX11_morningGoes 7 ls (vI y :: vI x :: st) h Q = (if y ≤ x then tA sc iX11_morningGoes 54 ls st h Q else tA sc iX11_morningGoes 10 ls st h Q) := tA_if mB_X11_morningGoes dX11_morningGoes_7 (fun _ _ _ _ => rfl) rfl
theorem rX11_morningGoes_10 : tA sc iX11_morningGoes 10 [vR r, l1, l2, l3, l4] st h Q = tA sc iX11_morningGoes 11 [vR r, l1, l2, l3, l4] (vR r :: st) h Q := tA_pure mB_X11_morningGoes dX11_morningGoes_10 rfl
theorem rX11_morningGoes_11 : tA sc iX11_morningGoes 11 [l0, vI x, l2, l3, l4] st h Q = tA sc iX11_morningGoes 12 [l0, vI x, l2, l3, l4] (vI x :: st) h Q := tA_pure mB_X11_morningGoes dX11_morningGoes_11 rfl
theorem rX11_morningGoes_12 (hci : tcl h o = some 11) : tA sc iX11_morningGoes 12 ls [vI p0, vR (some o)] h Q = tA sc iX11_findSaying 0 [vR (some o), vI p0, vU, vU, vU, vU, vU] [] h (fun v h1 => tA sc iX11_morningGoes 15 ls (tpu v []) h1 Q) := tA_cV mB_X11_morningGoes mO_X11_morningGoes dX11_morningGoes_12 cT_11_280 rfl (Nat.le_of_ble_eq_true rfl) rfl rfl rfl hci
theorem rX11_morningGoes_15 : tA sc iX11_morningGoes 15 [vR r, l1, l2, l3, l4] st h Q = tA sc iX11_morningGoes 16 [vR r, l1, l2, l3, l4] (vR r :: st) h Q := tA_pure mB_X11_morningGoes dX11_morningGoes_15 rfl
theorem rX11_morningGoes_16 : tA sc iX11_morningGoes 16 ls (vR (some o) :: st) h Q = oz (tget h o [11] 27) (fun v => tA sc iX11_morningGoes 19 ls (v :: st) h Q) := tA_get mB_X11_morningGoes mO_X11_morningGoes dX11_morningGoes_16 fT_11_267
theorem rX11_morningGoes_19 : tA sc iX11_morningGoes 19 [l0, l1, l2, l3, l4] (vI x :: st) h Q = tA sc iX11_morningGoes 20 [l0, tclr l1, vI x, l3, l4] st h Q := tA_pure mB_X11_morningGoes dX11_morningGoes_19 rfl
theorem rX11_morningGoes_20 : tA sc iX11_morningGoes 20 ls st h Q = tA sc iX11_morningGoes 21 ls (vI (0) :: st) h Q := tA_pure mB_X11_morningGoes dX11_morningGoes_20 rfl
theorem rX11_morningGoes_21 : tA sc iX11_morningGoes 21 [l0, l1, l2, l3, l4] (vI x :: st) h Q = tA sc iX11_morningGoes 22 [l0, l1, tclr l2, vI x, l4] st h Q := tA_pure mB_X11_morningGoes dX11_morningGoes_21 rfl
theorem rX11_morningGoes_22 : tA sc iX11_morningGoes 22 [l0, l1, l2, vI x, l4] st h Q = tA sc iX11_morningGoes 23 [l0, l1, l2, vI x, l4] (vI x :: st) h Q := tA_pure mB_X11_morningGoes dX11_morningGoes_22 rfl
theorem rX11_morningGoes_23 : tA sc iX11_morningGoes 23 [l0, l1, vI x, l3, l4] st h Q = tA sc iX11_morningGoes 24 [l0, l1, vI x, l3, l4] (vI x :: st) h Q := tA_pure mB_X11_morningGoes dX11_morningGoes_23 rfl
theorem rX11_morningGoes_24 : tA sc iX11_morningGoes 24 ls (vI y :: vI x :: st) h Q = (if y ≤ x then tA sc iX11_morningGoes 48 ls st h Q else tA sc iX11_morningGoes 27 ls st h Q) := tA_if mB_X11_morningGoes dX11_morningGoes_24 (fun _ _ _ _ => rfl) rfl
theorem rX11_morningGoes_27 : tA sc iX11_morningGoes 27 [vR r, l1, l2, l3, l4] st h Q = tA sc iX11_morningGoes 28 [vR r, l1, l2, l3, l4] (vR r :: st) h Q := tA_pure mB_X11_morningGoes dX11_morningGoes_27 rfl
theorem rX11_morningGoes_28 : tA sc iX11_morningGoes 28 [l0, vI x, l2, l3, l4] st h Q = tA sc iX11_morningGoes 29 [l0, vI x, l2, l3, l4] (vI x :: st) h Q := tA_pure mB_X11_morningGoes dX11_morningGoes_28 rfl
theorem rX11_morningGoes_29 : tA sc iX11_morningGoes 29 [vR r, l1, l2, l3, l4] st h Q = tA sc iX11_morningGoes 30 [vR r, l1, l2, l3, l4] (vR r :: st) h Q := tA_pure mB_X11_morningGoes dX11_morningGoes_29 rfl
theorem rX11_morningGoes_30 : tA sc iX11_morningGoes 30 ls (vR (some o) :: st) h Q = oz (tget h o [11] 25) (fun v => tA sc iX11_morningGoes 33 ls (v :: st) h Q) := tA_get mB_X11_morningGoes mO_X11_morningGoes dX11_morningGoes_30 fT_11_261
theorem rX11_morningGoes_33 : tA sc iX11_morningGoes 33 [vR r, l1, l2, l3, l4] st h Q = tA sc iX11_morningGoes 34 [vR r, l1, l2, l3, l4] (vR r :: st) h Q := tA_pure mB_X11_morningGoes dX11_morningGoes_33 rfl
theorem rX11_morningGoes_34 : tA sc iX11_morningGoes 34 ls (vR (some o) :: st) h Q = oz (tget h o [11] 26) (fun v => tA sc iX11_morningGoes 37 ls (v :: st) h Q) := tA_get mB_X11_morningGoes mO_X11_morningGoes dX11_morningGoes_34 fT_11_264
theorem rX11_morningGoes_37 : tA sc iX11_morningGoes 37 [l0, l1, l2, vI x, l4] st h Q = tA sc iX11_morningGoes 38 [l0, l1, l2, vI x, l4] (vI x :: st) h Q := tA_pure mB_X11_morningGoes dX11_morningGoes_37 rfl
theorem rX11_morningGoes_38 : tA sc iX11_morningGoes 38 ls (vI y :: vI x :: st) h Q = tA sc iX11_morningGoes 39 ls (vI (x + y) :: st) h Q := tA_pure mB_X11_morningGoes dX11_morningGoes_38 rfl
theorem rX11_morningGoes_39 (hci : tcl h o = some 11) : tA sc iX11_morningGoes 39 ls [vI p2, vI p1, vI p0, vR (some o)] h Q = tA sc iX11_says 0 [vR (some o), vI p0, vI p1, vI p2, vU] [] h (fun v h1 => tA sc iX11_morningGoes 42 ls (tpu v []) h1 Q) := tA_cV mB_X11_morningGoes mO_X11_morningGoes dX11_morningGoes_39 cT_11_257 rfl (Nat.le_of_ble_eq_true rfl) rfl rfl rfl hci
theorem rX11_morningGoes_42 : tA sc iX11_morningGoes 42 [l0, l1, l2, vI x, l4] st h Q = tA sc iX11_morningGoes 45 [l0, l1, tclr l2, vI (x + 1), l4] st h Q := tA_pure mB_X11_morningGoes dX11_morningGoes_42 rfl
theorem rX11_morningGoes_45 : tA sc iX11_morningGoes 45 ls st h Q = tA sc iX11_morningGoes 22 ls st h Q := tA_jump mB_X11_morningGoes dX11_morningGoes_45 (fun _ _ _ _ => rfl) rfl
theorem rX11_morningGoes_48 : tA sc iX11_morningGoes 48 [l0, vI x, l2, l3, l4] st h Q = tA sc iX11_morningGoes 51 [tclr l0, vI (x + 1), l2, l3, l4] st h Q := tA_pure mB_X11_morningGoes dX11_morningGoes_48 rfl
theorem rX11_morningGoes_51 : tA sc iX11_morningGoes 51 ls st h Q = tA sc iX11_morningGoes 2 ls st h Q := tA_jump mB_X11_morningGoes dX11_morningGoes_51 (fun _ _ _ _ => rfl) rfl
theorem rX11_morningGoes_54 : tA sc iX11_morningGoes 54 [vR r, l1, l2, l3, l4] st h Q = tA sc iX11_morningGoes 55 [vR r, l1, l2, l3, l4] (vR r :: st) h Q := tA_pure mB_X11_morningGoes dX11_morningGoes_54 rfl
theorem rX11_morningGoes_55 : tA sc iX11_morningGoes 55 ls st h Q = tA sc iX11_morningGoes 56 ls (vI (0) :: st) h Q := tA_pure mB_X11_morningGoes dX11_morningGoes_55 rfl
theorem rX11_morningGoes_56 (hci : tcl h o = some 11) : tA sc iX11_morningGoes 56 ls [vI p0, vR (some o)] h Q = tA sc iX11_its 0 [vR (some o), vI p0] [] h (fun v h1 => tA sc iX11_morningGoes 59 ls (tpu v []) h1 Q) := tA_cV mB_X11_morningGoes mO_X11_morningGoes dX11_morningGoes_56 cT_11_225 rfl (Nat.le_of_ble_eq_true rfl) rfl rfl rfl hci
theorem rX11_morningGoes_59 : tA sc iX11_morningGoes 59 [l0, l1, l2, l3, l4] (vI x :: st) h Q = tA sc iX11_morningGoes 60 [tclr l0, vI x, l2, l3, l4] st h Q := tA_pure mB_X11_morningGoes dX11_morningGoes_59 rfl
theorem rX11_morningGoes_60 : tA sc iX11_morningGoes 60 [vR r, l1, l2, l3, l4] st h Q = tA sc iX11_morningGoes 61 [vR r, l1, l2, l3, l4] (vR r :: st) h Q := tA_pure mB_X11_morningGoes dX11_morningGoes_60 rfl
theorem rX11_morningGoes_61 : tA sc iX11_morningGoes 61 [l0, vI x, l2, l3, l4] st h Q = tA sc iX11_morningGoes 62 [l0, vI x, l2, l3, l4] (vI x :: st) h Q := tA_pure mB_X11_morningGoes dX11_morningGoes_61 rfl
theorem rX11_morningGoes_62 : tA sc iX11_morningGoes 62 ls st h Q = tA sc iX11_morningGoes 63 ls (vI (0) :: st) h Q := tA_pure mB_X11_morningGoes dX11_morningGoes_62 rfl
theorem rX11_morningGoes_63 (hci : tcl h o = some 11) : tA sc iX11_morningGoes 63 ls [vI p1, vI p0, vR (some o)] h Q = tA sc iX11_drawn 0 [vR (some o), vI p0, vI p1, vU, vU] [] h (fun v h1 => tA sc iX11_morningGoes 66 ls (tpu v []) h1 Q) := tA_cV mB_X11_morningGoes mO_X11_morningGoes dX11_morningGoes_63 cT_11_284 rfl (Nat.le_of_ble_eq_true rfl) rfl rfl rfl hci
theorem rX11_morningGoes_66 : tA sc iX11_morningGoes 66 [l0, l1, l2, l3, l4] (vI x :: st) h Q = tA sc iX11_morningGoes 67 [l0, tclr l1, vI x, l3, l4] st h Q := tA_pure mB_X11_morningGoes dX11_morningGoes_66 rfl
theorem rX11_morningGoes_67 : tA sc iX11_morningGoes 67 [vR r, l1, l2, l3, l4] st h Q = tA sc iX11_morningGoes 68 [vR r, l1, l2, l3, l4] (vR r :: st) h Q := tA_pure mB_X11_morningGoes dX11_morningGoes_67 rfl
theorem rX11_morningGoes_68 : tA sc iX11_morningGoes 68 ls (vR (some o) :: st) h Q = oz (tget h o [11] 0) (fun v => tA sc iX11_morningGoes 71 ls (v :: st) h Q) := tA_get mB_X11_morningGoes mO_X11_morningGoes dX11_morningGoes_68 fT_11_7
theorem rX11_morningGoes_71 : tA sc iX11_morningGoes 71 [vR r, l1, l2, l3, l4] st h Q = tA sc iX11_morningGoes 72 [vR r, l1, l2, l3, l4] (vR r :: st) h Q := tA_pure mB_X11_morningGoes dX11_morningGoes_71 rfl
theorem rX11_morningGoes_72 : tA sc iX11_morningGoes 72 ls (vR (some o) :: st) h Q = oz (tget h o [11] 1) (fun v => tA sc iX11_morningGoes 75 ls (v :: st) h Q) := tA_get mB_X11_morningGoes mO_X11_morningGoes dX11_morningGoes_72 fT_11_91
theorem rX11_morningGoes_75 : tA sc iX11_morningGoes 75 ls st h Q = tA sc iX11_morningGoes 77 ls (vI (23) :: st) h Q := tA_pure mB_X11_morningGoes dX11_morningGoes_75 rfl
theorem rX11_morningGoes_77 : tA sc iX11_morningGoes 77 ls (vI y :: vI x :: st) h Q = tA sc iX11_morningGoes 78 ls (vI (x + y) :: st) h Q := tA_pure mB_X11_morningGoes dX11_morningGoes_77 rfl
theorem rX11_morningGoes_78 : tA sc iX11_morningGoes 78 [l0, vI x, l2, l3, l4] st h Q = tA sc iX11_morningGoes 79 [l0, vI x, l2, l3, l4] (vI x :: st) h Q := tA_pure mB_X11_morningGoes dX11_morningGoes_78 rfl
theorem rX11_morningGoes_79 : tA sc iX11_morningGoes 79 ls (vI y :: vI x :: st) h Q = tA sc iX11_morningGoes 80 ls (vI (x + y) :: st) h Q := tA_pure mB_X11_morningGoes dX11_morningGoes_79 rfl
theorem rX11_morningGoes_80 : tA sc iX11_morningGoes 80 [l0, l1, vI x, l3, l4] st h Q = tA sc iX11_morningGoes 81 [l0, l1, vI x, l3, l4] (vI x :: st) h Q := tA_pure mB_X11_morningGoes dX11_morningGoes_80 rfl
theorem rX11_morningGoes_81 : tA sc iX11_morningGoes 81 ls (vI x :: vI j :: vR (some a) :: st) h Q = oz (tasi h a j x) (fun h' => tA sc iX11_morningGoes 82 ls st h' Q) := tA_iast mB_X11_morningGoes dX11_morningGoes_81
theorem rX11_morningGoes_82 : tA sc iX11_morningGoes 82 [vR r, l1, l2, l3, l4] st h Q = tA sc iX11_morningGoes 83 [vR r, l1, l2, l3, l4] (vR r :: st) h Q := tA_pure mB_X11_morningGoes dX11_morningGoes_82 rfl
theorem rX11_morningGoes_83 : tA sc iX11_morningGoes 83 ls st h Q = tA sc iX11_morningGoes 84 ls (vI (0) :: st) h Q := tA_pure mB_X11_morningGoes dX11_morningGoes_83 rfl
theorem rX11_morningGoes_84 : tA sc iX11_morningGoes 84 ls (v :: vR (some o) :: st) h Q = oz (tput h o [11] 28 0 v) (fun h' => tA sc iX11_morningGoes 87 ls st h' Q) := tA_put mB_X11_morningGoes mO_X11_morningGoes dX11_morningGoes_84 fT_11_288 (Or.inl (by decide))
theorem rX11_morningGoes_87 : tA sc iX11_morningGoes 87 ls st h Q = tA sc iX11_morningGoes 88 ls (vI (0) :: st) h Q := tA_pure mB_X11_morningGoes dX11_morningGoes_87 rfl
theorem rX11_morningGoes_88 : tA sc iX11_morningGoes 88 [l0, l1, l2, l3, l4] (vI x :: st) h Q = tA sc iX11_morningGoes 89 [l0, l1, tclr l2, vI x, l4] st h Q := tA_pure mB_X11_morningGoes dX11_morningGoes_88 rfl
theorem rX11_morningGoes_89 : tA sc iX11_morningGoes 89 [l0, l1, l2, vI x, l4] st h Q = tA sc iX11_morningGoes 90 [l0, l1, l2, vI x, l4] (vI x :: st) h Q := tA_pure mB_X11_morningGoes dX11_morningGoes_89 rfl
theorem rX11_morningGoes_90 : tA sc iX11_morningGoes 90 [vR r, l1, l2, l3, l4] st h Q = tA sc iX11_morningGoes 91 [vR r, l1, l2, l3, l4] (vR r :: st) h Q := tA_pure mB_X11_morningGoes dX11_morningGoes_90 rfl
theorem rX11_morningGoes_91 : tA sc iX11_morningGoes 91 ls st h Q = tA sc iX11_morningGoes 92 ls (vI (2) :: st) h Q := tA_pure mB_X11_morningGoes dX11_morningGoes_91 rfl
theorem rX11_morningGoes_92 (hci : tcl h o = some 11) : tA sc iX11_morningGoes 92 ls [vI p0, vR (some o), s0] h Q = tA sc iX11_its 0 [vR (some o), vI p0] [] h (fun v h1 => tA sc iX11_morningGoes 95 ls (tpu v [s0]) h1 Q) := tA_cV mB_X11_morningGoes mO_X11_morningGoes dX11_morningGoes_92 cT_11_225 rfl (Nat.le_of_ble_eq_true rfl) rfl rfl rfl hci
theorem rX11_morningGoes_95 : tA sc iX11_morningGoes 95 ls (vI y :: vI x :: st) h Q = (if y ≤ x then tA sc iX11_morningGoes 191 ls st h Q else tA sc iX11_morningGoes 98 ls st h Q) := tA_if mB_X11_morningGoes dX11_morningGoes_95 (fun _ _ _ _ => rfl) rfl
theorem rX11_morningGoes_98 : tA sc iX11_morningGoes 98 [vR r, l1, l2, l3, l4] st h Q = tA sc iX11_morningGoes 99 [vR r, l1, l2, l3, l4] (vR r :: st) h Q := tA_pure mB_X11_morningGoes dX11_morningGoes_98 rfl
theorem rX11_morningGoes_99 : tA sc iX11_morningGoes 99 [l0, l1, l2, vI x, l4] st h Q = tA sc iX11_morningGoes 100 [l0, l1, l2, vI x, l4] (vI x :: st) h Q := tA_pure mB_X11_morningGoes dX11_morningGoes_99 rfl
theorem rX11_morningGoes_100 : tA sc iX11_morningGoes 100 ls st h Q = tA sc iX11_morningGoes 101 ls (vI (1) :: st) h Q := tA_pure mB_X11_morningGoes dX11_morningGoes_100 rfl
theorem rX11_morningGoes_101 (hci : tcl h o = some 11) : tA sc iX11_morningGoes 101 ls [vI p1, vI p0, vR (some o)] h Q = tA sc iX11_saying 0 [vR (some o), vI p0, vI p1] [] h (fun v h1 => tA sc iX11_morningGoes 104 ls (tpu v []) h1 Q) := tA_cV mB_X11_morningGoes mO_X11_morningGoes dX11_morningGoes_101 cT_11_232 rfl (Nat.le_of_ble_eq_true rfl) rfl rfl rfl hci
theorem rX11_morningGoes_104 : tA sc iX11_morningGoes 104 [l0, vI x, l2, l3, l4] st h Q = tA sc iX11_morningGoes 105 [l0, vI x, l2, l3, l4] (vI x :: st) h Q := tA_pure mB_X11_morningGoes dX11_morningGoes_104 rfl
theorem rX11_morningGoes_105 : tA sc iX11_morningGoes 105 ls (vI y :: vI x :: st) h Q = (if ¬ x = y then tA sc iX11_morningGoes 185 ls st h Q else tA sc iX11_morningGoes 108 ls st h Q) := tA_if mB_X11_morningGoes dX11_morningGoes_105 (fun _ _ _ _ => rfl) rfl
theorem rX11_morningGoes_108 : tA sc iX11_morningGoes 108 [vR r, l1, l2, l3, l4] st h Q = tA sc iX11_morningGoes 109 [vR r, l1, l2, l3, l4] (vR r :: st) h Q := tA_pure mB_X11_morningGoes dX11_morningGoes_108 rfl
theorem rX11_morningGoes_109 : tA sc iX11_morningGoes 109 [l0, l1, l2, vI x, l4] st h Q = tA sc iX11_morningGoes 110 [l0, l1, l2, vI x, l4] (vI x :: st) h Q := tA_pure mB_X11_morningGoes dX11_morningGoes_109 rfl
theorem rX11_morningGoes_110 : tA sc iX11_morningGoes 110 ls st h Q = tA sc iX11_morningGoes 111 ls (vI (0) :: st) h Q := tA_pure mB_X11_morningGoes dX11_morningGoes_110 rfl
theorem rX11_morningGoes_111 (hci : tcl h o = some 11) : tA sc iX11_morningGoes 111 ls [vI p1, vI p0, vR (some o)] h Q = tA sc iX11_saying 0 [vR (some o), vI p0, vI p1] [] h (fun v h1 => tA sc iX11_morningGoes 114 ls (tpu v []) h1 Q) := tA_cV mB_X11_morningGoes mO_X11_morningGoes dX11_morningGoes_111 cT_11_232 rfl (Nat.le_of_ble_eq_true rfl) rfl rfl rfl hci
theorem rX11_morningGoes_114 : tA sc iX11_morningGoes 114 [l0, l1, l2, l3, l4] (vI x :: st) h Q = tA sc iX11_morningGoes 116 [l0, l1, l2, tclr l3, vI x] st h Q := tA_pure mB_X11_morningGoes dX11_morningGoes_114 rfl
theorem rX11_morningGoes_116 : tA sc iX11_morningGoes 116 [vR r, l1, l2, l3, l4] st h Q = tA sc iX11_morningGoes 117 [vR r, l1, l2, l3, l4] (vR r :: st) h Q := tA_pure mB_X11_morningGoes dX11_morningGoes_116 rfl
theorem rX11_morningGoes_117 : tA sc iX11_morningGoes 117 ls (vR (some o) :: st) h Q = oz (tget h o [11] 0) (fun v => tA sc iX11_morningGoes 120 ls (v :: st) h Q) := tA_get mB_X11_morningGoes mO_X11_morningGoes dX11_morningGoes_117 fT_11_7
theorem rX11_morningGoes_120 : tA sc iX11_morningGoes 120 [vR r, l1, l2, l3, l4] st h Q = tA sc iX11_morningGoes 121 [vR r, l1, l2, l3, l4] (vR r :: st) h Q := tA_pure mB_X11_morningGoes dX11_morningGoes_120 rfl
theorem rX11_morningGoes_121 : tA sc iX11_morningGoes 121 ls (vR (some o) :: st) h Q = oz (tget h o [11] 1) (fun v => tA sc iX11_morningGoes 124 ls (v :: st) h Q) := tA_get mB_X11_morningGoes mO_X11_morningGoes dX11_morningGoes_121 fT_11_91
theorem rX11_morningGoes_124 : tA sc iX11_morningGoes 124 ls st h Q = tA sc iX11_morningGoes 126 ls (vI (43) :: st) h Q := tA_pure mB_X11_morningGoes dX11_morningGoes_124 rfl
theorem rX11_morningGoes_126 : tA sc iX11_morningGoes 126 ls (vI y :: vI x :: st) h Q = tA sc iX11_morningGoes 127 ls (vI (x + y) :: st) h Q := tA_pure mB_X11_morningGoes dX11_morningGoes_126 rfl
theorem rX11_morningGoes_127 : tA sc iX11_morningGoes 127 [l0, l1, l2, l3, vI x] st h Q = tA sc iX11_morningGoes 129 [l0, l1, l2, l3, vI x] (vI x :: st) h Q := tA_pure mB_X11_morningGoes dX11_morningGoes_127 rfl
theorem rX11_morningGoes_129 : tA sc iX11_morningGoes 129 ls (vI y :: vI x :: st) h Q = tA sc iX11_morningGoes 130 ls (vI (x + y) :: st) h Q := tA_pure mB_X11_morningGoes dX11_morningGoes_129 rfl
theorem rX11_morningGoes_130 : tA sc iX11_morningGoes 130 ls (vI x :: vR r :: st) h Q = tA sc iX11_morningGoes 131 ls (vI x :: vR r :: vI x :: vR r :: st) h Q := tA_pure mB_X11_morningGoes dX11_morningGoes_130 rfl
theorem rX11_morningGoes_131 : tA sc iX11_morningGoes 131 ls (vI j :: vR (some a) :: st) h Q = oz (tald sc h 0 a j) (fun v => tA sc iX11_morningGoes 132 ls (vI v :: st) h Q) := tA_iald mB_X11_morningGoes dX11_morningGoes_131
theorem rX11_morningGoes_132 : tA sc iX11_morningGoes 132 [vR r, l1, l2, l3, l4] st h Q = tA sc iX11_morningGoes 133 [vR r, l1, l2, l3, l4] (vR r :: st) h Q := tA_pure mB_X11_morningGoes dX11_morningGoes_132 rfl
theorem rX11_morningGoes_133 : tA sc iX11_morningGoes 133 [l0, l1, l2, vI x, l4] st h Q = tA sc iX11_morningGoes 134 [l0, l1, l2, vI x, l4] (vI x :: st) h Q := tA_pure mB_X11_morningGoes dX11_morningGoes_133 rfl
theorem rX11_morningGoes_134 : tA sc iX11_morningGoes 134 ls st h Q = tA sc iX11_morningGoes 135 ls (vI (2) :: st) h Q := tA_pure mB_X11_morningGoes dX11_morningGoes_134 rfl
theorem rX11_morningGoes_135 (hci : tcl h o = some 11) : tA sc iX11_morningGoes 135 ls [vI p1, vI p0, vR (some o), s0, s1, s2] h Q = tA sc iX11_saying 0 [vR (some o), vI p0, vI p1] [] h (fun v h1 => tA sc iX11_morningGoes 138 ls (tpu v [s0, s1, s2]) h1 Q) := tA_cV mB_X11_morningGoes mO_X11_morningGoes dX11_morningGoes_135 cT_11_232 rfl (Nat.le_of_ble_eq_true rfl) rfl rfl rfl hci
theorem rX11_morningGoes_138 : tA sc iX11_morningGoes 138 [l0, l1, vI x, l3, l4] st h Q = tA sc iX11_morningGoes 139 [l0, l1, vI x, l3, l4] (vI x :: st) h Q := tA_pure mB_X11_morningGoes dX11_morningGoes_138 rfl
theorem rX11_morningGoes_139 : tA sc iX11_morningGoes 139 ls (vI y :: vI x :: st) h Q = (if ¬ x = y then tA sc iX11_morningGoes 150 ls st h Q else tA sc iX11_morningGoes 142 ls st h Q) := tA_if mB_X11_morningGoes dX11_morningGoes_139 (fun _ _ _ _ => rfl) rfl
theorem rX11_morningGoes_142 : tA sc iX11_morningGoes 142 [vR r, l1, l2, l3, l4] st h Q = tA sc iX11_morningGoes 143 [vR r, l1, l2, l3, l4] (vR r :: st) h Q := tA_pure mB_X11_morningGoes dX11_morningGoes_142 rfl
theorem rX11_morningGoes_143 : tA sc iX11_morningGoes 143 [l0, vI x, l2, l3, l4] st h Q = tA sc iX11_morningGoes 144 [l0, vI x, l2, l3, l4] (vI x :: st) h Q := tA_pure mB_X11_morningGoes dX11_morningGoes_143 rfl
theorem rX11_morningGoes_144 (hci : tcl h o = some 11) : tA sc iX11_morningGoes 144 ls [vI p0, vR (some o), s0, s1, s2] h Q = tA sc iX11_earn 0 [vR (some o), vI p0] [] h (fun v h1 => tA sc iX11_morningGoes 147 ls (tpu v [s0, s1, s2]) h1 Q) := tA_cV mB_X11_morningGoes mO_X11_morningGoes dX11_morningGoes_144 cT_11_238 rfl (Nat.le_of_ble_eq_true rfl) rfl rfl rfl hci
theorem rX11_morningGoes_147 : tA sc iX11_morningGoes 147 ls st h Q = tA sc iX11_morningGoes 158 ls st h Q := tA_jump mB_X11_morningGoes dX11_morningGoes_147 (fun _ _ _ _ => rfl) rfl
theorem rX11_morningGoes_150 : tA sc iX11_morningGoes 150 ls st h Q = tA sc iX11_morningGoes 151 ls (vI (0) :: st) h Q := tA_pure mB_X11_morningGoes dX11_morningGoes_150 rfl
theorem rX11_morningGoes_151 : tA sc iX11_morningGoes 151 [vR r, l1, l2, l3, l4] st h Q = tA sc iX11_morningGoes 152 [vR r, l1, l2, l3, l4] (vR r :: st) h Q := tA_pure mB_X11_morningGoes dX11_morningGoes_151 rfl
theorem rX11_morningGoes_152 : tA sc iX11_morningGoes 152 ls (vR (some o) :: st) h Q = oz (tget h o [11] 6) (fun v => tA sc iX11_morningGoes 155 ls (v :: st) h Q) := tA_get mB_X11_morningGoes mO_X11_morningGoes dX11_morningGoes_152 fT_11_22
theorem rX11_morningGoes_155 : tA sc iX11_morningGoes 155 ls st h Q = tA sc iX11_morningGoes 156 ls (vI (1) :: st) h Q := tA_pure mB_X11_morningGoes dX11_morningGoes_155 rfl
theorem rX11_morningGoes_156 : tA sc iX11_morningGoes 156 ls (vI j :: vR (some a) :: st) h Q = oz (tald sc h 0 a j) (fun v => tA sc iX11_morningGoes 157 ls (vI v :: st) h Q) := tA_iald mB_X11_morningGoes dX11_morningGoes_156
theorem rX11_morningGoes_157 : tA sc iX11_morningGoes 157 ls (vI y :: vI x :: st) h Q = tA sc iX11_morningGoes 158 ls (vI (x - y) :: st) h Q := tA_pure mB_X11_morningGoes dX11_morningGoes_157 rfl
theorem rX11_morningGoes_158 : tA sc iX11_morningGoes 158 ls (vI y :: vI x :: st) h Q = tA sc iX11_morningGoes 159 ls (vI (x + y) :: st) h Q := tA_pure mB_X11_morningGoes dX11_morningGoes_158 rfl
theorem rX11_morningGoes_159 : tA sc iX11_morningGoes 159 ls (vI x :: vI j :: vR (some a) :: st) h Q = oz (tasi h a j x) (fun h' => tA sc iX11_morningGoes 160 ls st h' Q) := tA_iast mB_X11_morningGoes dX11_morningGoes_159
theorem rX11_morningGoes_160 : tA sc iX11_morningGoes 160 [vR r, l1, l2, l3, l4] st h Q = tA sc iX11_morningGoes 161 [vR r, l1, l2, l3, l4] (vR r :: st) h Q := tA_pure mB_X11_morningGoes dX11_morningGoes_160 rfl
theorem rX11_morningGoes_161 : tA sc iX11_morningGoes 161 [vR r, l1, l2, l3, l4] st h Q = tA sc iX11_morningGoes 162 [vR r, l1, l2, l3, l4] (vR r :: st) h Q := tA_pure mB_X11_morningGoes dX11_morningGoes_161 rfl
theorem rX11_morningGoes_162 : tA sc iX11_morningGoes 162 [l0, l1, l2, vI x, l4] st h Q = tA sc iX11_morningGoes 163 [l0, l1, l2, vI x, l4] (vI x :: st) h Q := tA_pure mB_X11_morningGoes dX11_morningGoes_162 rfl
theorem rX11_morningGoes_163 : tA sc iX11_morningGoes 163 ls st h Q = tA sc iX11_morningGoes 164 ls (vI (2) :: st) h Q := tA_pure mB_X11_morningGoes dX11_morningGoes_163 rfl
theorem rX11_morningGoes_164 (hci : tcl h o = some 11) : tA sc iX11_morningGoes 164 ls [vI p1, vI p0, vR (some o), s0] h Q = tA sc iX11_saying 0 [vR (some o), vI p0, vI p1] [] h (fun v h1 => tA sc iX11_morningGoes 167 ls (tpu v [s0]) h1 Q) := tA_cV mB_X11_morningGoes mO_X11_morningGoes dX11_morningGoes_164 cT_11_232 rfl (Nat.le_of_ble_eq_true rfl) rfl rfl rfl hci
theorem rX11_morningGoes_167 : tA sc iX11_morningGoes 167 [l0, l1, vI x, l3, l4] st h Q = tA sc iX11_morningGoes 168 [l0, l1, vI x, l3, l4] (vI x :: st) h Q := tA_pure mB_X11_morningGoes dX11_morningGoes_167 rfl
theorem rX11_morningGoes_168 : tA sc iX11_morningGoes 168 ls (vI y :: vI x :: st) h Q = (if ¬ x = y then tA sc iX11_morningGoes 178 ls st h Q else tA sc iX11_morningGoes 171 ls st h Q) := tA_if mB_X11_morningGoes dX11_morningGoes_168 (fun _ _ _ _ => rfl) rfl
theorem rX11_morningGoes_171 : tA sc iX11_morningGoes 171 [l0, l1, l2, l3, vI x] st h Q = tA sc iX11_morningGoes 173 [l0, l1, l2, l3, vI x] (vI x :: st) h Q := tA_pure mB_X11_morningGoes dX11_morningGoes_171 rfl
theorem rX11_morningGoes_173 : tA sc iX11_morningGoes 173 ls st h Q = tA sc iX11_morningGoes 174 ls (vI (1) :: st) h Q := tA_pure mB_X11_morningGoes dX11_morningGoes_173 rfl
theorem rX11_morningGoes_174 : tA sc iX11_morningGoes 174 ls (vI y :: vI x :: st) h Q = tA sc iX11_morningGoes 175 ls (vI (x + y) :: st) h Q := tA_pure mB_X11_morningGoes dX11_morningGoes_174 rfl
theorem rX11_morningGoes_175 : tA sc iX11_morningGoes 175 ls st h Q = tA sc iX11_morningGoes 182 ls st h Q := tA_jump mB_X11_morningGoes dX11_morningGoes_175 (fun _ _ _ _ => rfl) rfl
theorem rX11_morningGoes_178 : tA sc iX11_morningGoes 178 [vR r, l1, l2, l3, l4] st h Q = tA sc iX11_morningGoes 179 [vR r, l1, l2, l3, l4] (vR r :: st) h Q := tA_pure mB_X11_morningGoes dX11_morningGoes_178 rfl
theorem rX11_morningGoes_179 : tA sc iX11_morningGoes 179 ls (vR (some o) :: st) h Q = oz (tget h o [11] 28) (fun v => tA sc iX11_morningGoes 182 ls (v :: st) h Q) := tA_get mB_X11_morningGoes mO_X11_morningGoes dX11_morningGoes_179 fT_11_288
theorem rX11_morningGoes_182 : tA sc iX11_morningGoes 182 ls (v :: vR (some o) :: st) h Q = oz (tput h o [11] 28 0 v) (fun h' => tA sc iX11_morningGoes 185 ls st h' Q) := tA_put mB_X11_morningGoes mO_X11_morningGoes dX11_morningGoes_182 fT_11_288 (Or.inl (by decide))
theorem rX11_morningGoes_185 : tA sc iX11_morningGoes 185 [l0, l1, l2, vI x, l4] st h Q = tA sc iX11_morningGoes 188 [l0, l1, tclr l2, vI (x + 1), l4] st h Q := tA_pure mB_X11_morningGoes dX11_morningGoes_185 rfl
theorem rX11_morningGoes_188 : tA sc iX11_morningGoes 188 ls st h Q = tA sc iX11_morningGoes 89 ls st h Q := tA_jump mB_X11_morningGoes dX11_morningGoes_188 (fun _ _ _ _ => rfl) rfl
theorem rX11_morningGoes_191 : tA sc iX11_morningGoes 191 [vR r, l1, l2, l3, l4] st h Q = tA sc iX11_morningGoes 192 [vR r, l1, l2, l3, l4] (vR r :: st) h Q := tA_pure mB_X11_morningGoes dX11_morningGoes_191 rfl
theorem rX11_morningGoes_192 : tA sc iX11_morningGoes 192 ls (vR (some o) :: st) h Q = oz (tget h o [11] 0) (fun v => tA sc iX11_morningGoes 195 ls (v :: st) h Q) := tA_get mB_X11_morningGoes mO_X11_morningGoes dX11_morningGoes_192 fT_11_7
theorem rX11_morningGoes_195 : tA sc iX11_morningGoes 195 [vR r, l1, l2, l3, l4] st h Q = tA sc iX11_morningGoes 196 [vR r, l1, l2, l3, l4] (vR r :: st) h Q := tA_pure mB_X11_morningGoes dX11_morningGoes_195 rfl
theorem rX11_morningGoes_196 : tA sc iX11_morningGoes 196 ls (vR (some o) :: st) h Q = oz (tget h o [11] 1) (fun v => tA sc iX11_morningGoes 199 ls (v :: st) h Q) := tA_get mB_X11_morningGoes mO_X11_morningGoes dX11_morningGoes_196 fT_11_91
theorem rX11_morningGoes_199 : tA sc iX11_morningGoes 199 ls st h Q = tA sc iX11_morningGoes 200 ls (vI (0) :: st) h Q := tA_pure mB_X11_morningGoes dX11_morningGoes_199 rfl
theorem rX11_morningGoes_200 : tA sc iX11_morningGoes 200 ls (vI y :: vI x :: st) h Q = tA sc iX11_morningGoes 201 ls (vI (x + y) :: st) h Q := tA_pure mB_X11_morningGoes dX11_morningGoes_200 rfl
theorem rX11_morningGoes_201 : tA sc iX11_morningGoes 201 ls (vI x :: vR r :: st) h Q = tA sc iX11_morningGoes 202 ls (vI x :: vR r :: vI x :: vR r :: st) h Q := tA_pure mB_X11_morningGoes dX11_morningGoes_201 rfl
theorem rX11_morningGoes_202 : tA sc iX11_morningGoes 202 ls (vI j :: vR (some a) :: st) h Q = oz (tald sc h 0 a j) (fun v => tA sc iX11_morningGoes 203 ls (vI v :: st) h Q) := tA_iald mB_X11_morningGoes dX11_morningGoes_202
theorem rX11_morningGoes_203 : tA sc iX11_morningGoes 203 ls st h Q = tA sc iX11_morningGoes 204 ls (vI (1) :: st) h Q := tA_pure mB_X11_morningGoes dX11_morningGoes_203 rfl
theorem rX11_morningGoes_204 : tA sc iX11_morningGoes 204 ls (vI y :: vI x :: st) h Q = tA sc iX11_morningGoes 205 ls (vI (x + y) :: st) h Q := tA_pure mB_X11_morningGoes dX11_morningGoes_204 rfl
theorem rX11_morningGoes_205 : tA sc iX11_morningGoes 205 ls (vI x :: vI j :: vR (some a) :: st) h Q = oz (tasi h a j x) (fun h' => tA sc iX11_morningGoes 206 ls st h' Q) := tA_iast mB_X11_morningGoes dX11_morningGoes_205
theorem rX11_morningGoes_206 : tA sc iX11_morningGoes 206 [vR r, l1, l2, l3, l4] st h Q = tA sc iX11_morningGoes 207 [vR r, l1, l2, l3, l4] (vR r :: st) h Q := tA_pure mB_X11_morningGoes dX11_morningGoes_206 rfl
theorem rX11_morningGoes_207 : tA sc iX11_morningGoes 207 ls st h Q = tA sc iX11_morningGoes 208 ls (vI (0) :: st) h Q := tA_pure mB_X11_morningGoes dX11_morningGoes_207 rfl
theorem rX11_morningGoes_208 (hci : tcl h o = some 11) : tA sc iX11_morningGoes 208 ls [vI p0, vR (some o)] h Q = tA sc iX11_its 0 [vR (some o), vI p0] [] h (fun v h1 => tA sc iX11_morningGoes 211 ls (tpu v []) h1 Q) := tA_cV mB_X11_morningGoes mO_X11_morningGoes dX11_morningGoes_208 cT_11_225 rfl (Nat.le_of_ble_eq_true rfl) rfl rfl rfl hci
theorem rX11_morningGoes_211 : tA sc iX11_morningGoes 211 ls st h Q = tA sc iX11_morningGoes 212 ls (vI (3) :: st) h Q := tA_pure mB_X11_morningGoes dX11_morningGoes_211 rfl
theorem rX11_morningGoes_212 : tA sc iX11_morningGoes 212 ls (vI y :: vI x :: st) h Q = tA sc iX11_morningGoes 213 ls (vI (x + y) :: st) h Q := tA_pure mB_X11_morningGoes dX11_morningGoes_212 rfl
theorem rX11_morningGoes_213 : tA sc iX11_morningGoes 213 [l0, l1, l2, l3, l4] (vI x :: st) h Q = tA sc iX11_morningGoes 214 [l0, l1, tclr l2, vI x, l4] st h Q := tA_pure mB_X11_morningGoes dX11_morningGoes_213 rfl
theorem rX11_morningGoes_214 : tA sc iX11_morningGoes 214 [l0, l1, l2, vI x, l4] st h Q = tA sc iX11_morningGoes 215 [l0, l1, l2, vI x, l4] (vI x :: st) h Q := tA_pure mB_X11_morningGoes dX11_morningGoes_214 rfl
theorem rX11_morningGoes_215 : tA sc iX11_morningGoes 215 ls st h Q = tA sc iX11_morningGoes 217 ls (vI (20) :: st) h Q := tA_pure mB_X11_morningGoes dX11_morningGoes_215 rfl
theorem rX11_morningGoes_217 : tA sc iX11_morningGoes 217 ls (vI y :: vI x :: st) h Q = (if y ≤ x then tA sc iX11_morningGoes 259 ls st h Q else tA sc iX11_morningGoes 220 ls st h Q) := tA_if mB_X11_morningGoes dX11_morningGoes_217 (fun _ _ _ _ => rfl) rfl
theorem rX11_morningGoes_220 : tA sc iX11_morningGoes 220 [vR r, l1, l2, l3, l4] st h Q = tA sc iX11_morningGoes 221 [vR r, l1, l2, l3, l4] (vR r :: st) h Q := tA_pure mB_X11_morningGoes dX11_morningGoes_220 rfl
theorem rX11_morningGoes_221 : tA sc iX11_morningGoes 221 ls st h Q = tA sc iX11_morningGoes 222 ls (vI (3) :: st) h Q := tA_pure mB_X11_morningGoes dX11_morningGoes_221 rfl
theorem rX11_morningGoes_222 : tA sc iX11_morningGoes 222 [l0, l1, l2, vI x, l4] st h Q = tA sc iX11_morningGoes 223 [l0, l1, l2, vI x, l4] (vI x :: st) h Q := tA_pure mB_X11_morningGoes dX11_morningGoes_222 rfl
theorem rX11_morningGoes_223 : tA sc iX11_morningGoes 223 ls st h Q = tA sc iX11_morningGoes 225 ls (vI (20) :: st) h Q := tA_pure mB_X11_morningGoes dX11_morningGoes_223 rfl
theorem rX11_morningGoes_225 : tA sc iX11_morningGoes 225 ls (vI y :: vI x :: st) h Q = (if y ≤ x then tA sc iX11_morningGoes 232 ls st h Q else tA sc iX11_morningGoes 228 ls st h Q) := tA_if mB_X11_morningGoes dX11_morningGoes_225 (fun _ _ _ _ => rfl) rfl
theorem rX11_morningGoes_228 : tA sc iX11_morningGoes 228 [l0, l1, l2, vI x, l4] st h Q = tA sc iX11_morningGoes 229 [l0, l1, l2, vI x, l4] (vI x :: st) h Q := tA_pure mB_X11_morningGoes dX11_morningGoes_228 rfl
theorem rX11_morningGoes_229 : tA sc iX11_morningGoes 229 ls st h Q = tA sc iX11_morningGoes 233 ls st h Q := tA_jump mB_X11_morningGoes dX11_morningGoes_229 (fun _ _ _ _ => rfl) rfl
theorem rX11_morningGoes_232 : tA sc iX11_morningGoes 232 ls st h Q = tA sc iX11_morningGoes 233 ls (vI (0) :: st) h Q := tA_pure mB_X11_morningGoes dX11_morningGoes_232 rfl
theorem rX11_morningGoes_233 : tA sc iX11_morningGoes 233 ls (vI y :: vI x :: st) h Q = tA sc iX11_morningGoes 234 ls (vI (x + y) :: st) h Q := tA_pure mB_X11_morningGoes dX11_morningGoes_233 rfl
theorem rX11_morningGoes_234 (hci : tcl h o = some 11) : tA sc iX11_morningGoes 234 ls [vI p0, vR (some o)] h Q = tA sc iX11_its 0 [vR (some o), vI p0] [] h (fun v h1 => tA sc iX11_morningGoes 237 ls (tpu v []) h1 Q) := tA_cV mB_X11_morningGoes mO_X11_morningGoes dX11_morningGoes_234 cT_11_225 rfl (Nat.le_of_ble_eq_true rfl) rfl rfl rfl hci
theorem rX11_morningGoes_237 : tA sc iX11_morningGoes 237 ls (vI x :: st) h Q = (if 0 ≤ x then tA sc iX11_morningGoes 259 ls st h Q else tA sc iX11_morningGoes 240 ls st h Q) := tA_if mB_X11_morningGoes dX11_morningGoes_237 (fun _ _ _ _ => rfl) rfl
theorem rX11_morningGoes_240 : tA sc iX11_morningGoes 240 [vR r, l1, l2, l3, l4] st h Q = tA sc iX11_morningGoes 241 [vR r, l1, l2, l3, l4] (vR r :: st) h Q := tA_pure mB_X11_morningGoes dX11_morningGoes_240 rfl
theorem rX11_morningGoes_241 : tA sc iX11_morningGoes 241 ls (vR (some o) :: st) h Q = oz (tget h o [11] 0) (fun v => tA sc iX11_morningGoes 244 ls (v :: st) h Q) := tA_get mB_X11_morningGoes mO_X11_morningGoes dX11_morningGoes_241 fT_11_7
theorem rX11_morningGoes_244 : tA sc iX11_morningGoes 244 [vR r, l1, l2, l3, l4] st h Q = tA sc iX11_morningGoes 245 [vR r, l1, l2, l3, l4] (vR r :: st) h Q := tA_pure mB_X11_morningGoes dX11_morningGoes_244 rfl
theorem rX11_morningGoes_245 : tA sc iX11_morningGoes 245 ls (vR (some o) :: st) h Q = oz (tget h o [11] 1) (fun v => tA sc iX11_morningGoes 248 ls (v :: st) h Q) := tA_get mB_X11_morningGoes mO_X11_morningGoes dX11_morningGoes_245 fT_11_91
theorem rX11_morningGoes_248 : tA sc iX11_morningGoes 248 ls st h Q = tA sc iX11_morningGoes 249 ls (vI (3) :: st) h Q := tA_pure mB_X11_morningGoes dX11_morningGoes_248 rfl
theorem rX11_morningGoes_249 : tA sc iX11_morningGoes 249 ls (vI y :: vI x :: st) h Q = tA sc iX11_morningGoes 250 ls (vI (x + y) :: st) h Q := tA_pure mB_X11_morningGoes dX11_morningGoes_249 rfl
theorem rX11_morningGoes_250 : tA sc iX11_morningGoes 250 [l0, l1, l2, vI x, l4] st h Q = tA sc iX11_morningGoes 251 [l0, l1, l2, vI x, l4] (vI x :: st) h Q := tA_pure mB_X11_morningGoes dX11_morningGoes_250 rfl
theorem rX11_morningGoes_251 : tA sc iX11_morningGoes 251 ls (vI y :: vI x :: st) h Q = tA sc iX11_morningGoes 252 ls (vI (x + y) :: st) h Q := tA_pure mB_X11_morningGoes dX11_morningGoes_251 rfl
theorem rX11_morningGoes_252 : tA sc iX11_morningGoes 252 [vR r, l1, l2, l3, l4] st h Q = tA sc iX11_morningGoes 253 [vR r, l1, l2, l3, l4] (vR r :: st) h Q := tA_pure mB_X11_morningGoes dX11_morningGoes_252 rfl
theorem rX11_morningGoes_253 : tA sc iX11_morningGoes 253 [l0, l1, l2, vI x, l4] st h Q = tA sc iX11_morningGoes 254 [l0, l1, l2, vI x, l4] (vI x :: st) h Q := tA_pure mB_X11_morningGoes dX11_morningGoes_253 rfl
theorem rX11_morningGoes_254 : tA sc iX11_morningGoes 254 ls st h Q = tA sc iX11_morningGoes 255 ls (vI (1) :: st) h Q := tA_pure mB_X11_morningGoes dX11_morningGoes_254 rfl
theorem rX11_morningGoes_255 (hci : tcl h o = some 11) : tA sc iX11_morningGoes 255 ls [vI p1, vI p0, vR (some o), s0, s1] h Q = tA sc iX11_drawn 0 [vR (some o), vI p0, vI p1, vU, vU] [] h (fun v h1 => tA sc iX11_morningGoes 258 ls (tpu v [s0, s1]) h1 Q) := tA_cV mB_X11_morningGoes mO_X11_morningGoes dX11_morningGoes_255 cT_11_284 rfl (Nat.le_of_ble_eq_true rfl) rfl rfl rfl hci
theorem rX11_morningGoes_258 : tA sc iX11_morningGoes 258 ls (vI x :: vI j :: vR (some a) :: st) h Q = oz (tasi h a j x) (fun h' => tA sc iX11_morningGoes 259 ls st h' Q) := tA_iast mB_X11_morningGoes dX11_morningGoes_258
theorem rX11_morningGoes_259 : tA sc iX11_morningGoes 259 ls [] h Q = Q (none) h := tA_ret mB_X11_morningGoes dX11_morningGoes_259 (fun _ _ _ _ => rfl) (fun _ _ _ => rfl) (fun _ _ _ _ _ => rfl) rfl rfl
theorem mB_X11_morning : mB iX11_morning = cX11_morning := rfl
theorem mO_X11_morning : mO iX11_morning = 11 := rfl
theorem rX11_morning_0 : tA sc iX11_morning 0 [l0, vI x, l2] st h Q = tA sc iX11_morning 1 [l0, vI x, l2] (vI x :: st) h Q := tA_pure mB_X11_morning dX11_morning_0 rfl
theorem rX11_morning_1 : tA sc iX11_morning 1 ls st h Q = tA sc iX11_morning 2 ls (vI (0) :: st) h Q := tA_pure mB_X11_morning dX11_morning_1 rfl
theorem rX11_morning_2 : tA sc iX11_morning 2 ls st h Q = tA sc iX11_morning 4 ls (vI (20) :: st) h Q := tA_pure mB_X11_morning dX11_morning_2 rfl
theorem rX11_morning_4 : tA sc iX11_morning 4 ls [vI p2, vI p1, vI p0] h Q = tA sc iX11_in 0 [vI p0, vI p1, vI p2] [] h (fun v h1 => tA sc iX11_morning 7 ls (tpu v []) h1 Q) := tA_cS mB_X11_morning mO_X11_morning dX11_morning_4 cT_11_83 ⟨Nat.le_of_ble_eq_true rfl, Nat.le_of_ble_eq_true rfl⟩ rfl rfl rfl rfl
theorem rX11_morning_7 : tA sc iX11_morning 7 ls (vI x :: st) h Q = (if ¬ x = 0 then tA sc iX11_morning 12 ls st h Q else tA sc iX11_morning 10 ls st h Q) := tA_if mB_X11_morning dX11_morning_7 (fun _ _ _ _ => rfl) rfl
theorem rX11_morning_10 : tA sc iX11_morning 10 ls st h Q = tA sc iX11_morning 11 ls (vI (-1) :: st) h Q := tA_pure mB_X11_morning dX11_morning_10 rfl
theorem rX11_morning_11 : tA sc iX11_morning 11 ls [vI x] h Q = Q (some (vI x)) h := tA_ret mB_X11_morning dX11_morning_11 (fun _ _ _ _ => rfl) (fun _ _ _ => rfl) (fun _ _ _ _ _ => rfl) rfl rfl
theorem rX11_morning_12 : tA sc iX11_morning 12 ls st h Q = tA sc iX11_morning 13 ls (vI (0) :: st) h Q := tA_pure mB_X11_morning dX11_morning_12 rfl
theorem rX11_morning_13 : tA sc iX11_morning 13 [l0, l1, l2] (vI x :: st) h Q = tA sc iX11_morning 14 [l0, tclr l1, vI x] st h Q := tA_pure mB_X11_morning dX11_morning_13 rfl
theorem rX11_morning_14 : tA sc iX11_morning 14 [l0, l1, vI x] st h Q = tA sc iX11_morning 15 [l0, l1, vI x] (vI x :: st) h Q := tA_pure mB_X11_morning dX11_morning_14 rfl
theorem rX11_morning_15 : tA sc iX11_morning 15 [l0, vI x, l2] st h Q = tA sc iX11_morning 16 [l0, vI x, l2] (vI x :: st) h Q := tA_pure mB_X11_morning dX11_morning_15 rfl
theorem rX11_morning_16 : tA sc iX11_morning 16 ls (vI y :: vI x :: st) h Q = (if y ≤ x then tA sc iX11_morning 40 ls st h Q else tA sc iX11_morning 19 ls st h Q) := tA_if mB_X11_morning dX11_morning_16 (fun _ _ _ _ => rfl) rfl
theorem rX11_morning_19 : tA sc iX11_morning 19 [vR r, l1, l2] st h Q = tA sc iX11_morning 20 [vR r, l1, l2] (vR r :: st) h Q := tA_pure mB_X11_morning dX11_morning_19 rfl
theorem rX11_morning_20 : tA sc iX11_morning 20 ls (vR (some o) :: st) h Q = oz (tget h o [11] 0) (fun v => tA sc iX11_morning 23 ls (v :: st) h Q) := tA_get mB_X11_morning mO_X11_morning dX11_morning_20 fT_11_7
theorem rX11_morning_23 : tA sc iX11_morning 23 ls st h Q = tA sc iX11_morning 24 ls (vI (0) :: st) h Q := tA_pure mB_X11_morning dX11_morning_23 rfl
theorem rX11_morning_24 : tA sc iX11_morning 24 ls (vI j :: vR (some a) :: st) h Q = oz (tald sc h 0 a j) (fun v => tA sc iX11_morning 25 ls (vI v :: st) h Q) := tA_iald mB_X11_morning dX11_morning_24
theorem rX11_morning_25 : tA sc iX11_morning 25 ls st h Q = tA sc iX11_morning 27 ls (vI (20) :: st) h Q := tA_pure mB_X11_morning dX11_morning_25 rfl
theorem rX11_morning_27 : tA sc iX11_morning 27 ls (vI y :: vI x :: st) h Q = (if y ≤ x then tA sc iX11_morning 40 ls st h Q else tA sc iX11_morning 30 ls st h Q) := tA_if mB_X11_morning dX11_morning_27 (fun _ _ _ _ => rfl) rfl
theorem rX11_morning_30 : tA sc iX11_morning 30 [vR r, l1, l2] st h Q = tA sc iX11_morning 31 [vR r, l1, l2] (vR r :: st) h Q := tA_pure mB_X11_morning dX11_morning_30 rfl
theorem rX11_morning_31 (hci : tcl h o = some 11) : tA sc iX11_morning 31 ls [vR (some o)] h Q = tA sc iX11_morningGoes 0 [vR (some o), vU, vU, vU, vU] [] h (fun v h1 => tA sc iX11_morning 34 ls (tpu v []) h1 Q) := tA_cV mB_X11_morning mO_X11_morning dX11_morning_31 cT_11_291 rfl (Nat.le_of_ble_eq_true rfl) rfl rfl rfl hci
theorem rX11_morning_34 : tA sc iX11_morning 34 [l0, l1, vI x] st h Q = tA sc iX11_morning 37 [l0, tclr l1, vI (x + 1)] st h Q := tA_pure mB_X11_morning dX11_morning_34 rfl
theorem rX11_morning_37 : tA sc iX11_morning 37 ls st h Q = tA sc iX11_morning 14 ls st h Q := tA_jump mB_X11_morning dX11_morning_37 (fun _ _ _ _ => rfl) rfl
theorem rX11_morning_40 : tA sc iX11_morning 40 [vR r, l1, l2] st h Q = tA sc iX11_morning 41 [vR r, l1, l2] (vR r :: st) h Q := tA_pure mB_X11_morning dX11_morning_40 rfl
theorem rX11_morning_41 : tA sc iX11_morning 41 ls (vR (some o) :: st) h Q = oz (tget h o [11] 0) (fun v => tA sc iX11_morning 44 ls (v :: st) h Q) := tA_get mB_X11_morning mO_X11_morning dX11_morning_41 fT_11_7
theorem rX11_morning_44 : tA sc iX11_morning 44 ls st h Q = tA sc iX11_morning 45 ls (vI (0) :: st) h Q := tA_pure mB_X11_morning dX11_morning_44 rfl
theorem rX11_morning_45 : tA sc iX11_morning 45 ls (vI j :: vR (some a) :: st) h Q = oz (tald sc h 0 a j) (fun v => tA sc iX11_morning 46 ls (vI v :: st) h Q) := tA_iald mB_X11_morning dX11_morning_45
theorem rX11_morning_46 : tA sc iX11_morning 46 ls [vI x] h Q = Q (some (vI x)) h := tA_ret mB_X11_morning dX11_morning_46 (fun _ _ _ _ => rfl) (fun _ _ _ => rfl) (fun _ _ _ _ _ => rfl) rfl rfl
theorem mB_X11_now : mB iX11_now = cX11_now := rfl
theorem mO_X11_now : mO iX11_now = 11 := rfl
theorem rX11_now_0 : tA sc iX11_now 0 [vR r] st h Q = tA sc iX11_now 1 [vR r] (vR r :: st) h Q := tA_pure mB_X11_now dX11_now_0 rfl
theorem rX11_now_1 : tA sc iX11_now 1 ls (vR (some o) :: st) h Q = oz (tget h o [11] 0) (fun v => tA sc iX11_now 4 ls (v :: st) h Q) := tA_get mB_X11_now mO_X11_now dX11_now_1 fT_11_7
theorem rX11_now_4 : tA sc iX11_now 4 ls st h Q = tA sc iX11_now 5 ls (vI (0) :: st) h Q := tA_pure mB_X11_now dX11_now_4 rfl
theorem rX11_now_5 : tA sc iX11_now 5 ls (vI j :: vR (some a) :: st) h Q = oz (tald sc h 0 a j) (fun v => tA sc iX11_now 6 ls (vI v :: st) h Q) := tA_iald mB_X11_now dX11_now_5
theorem rX11_now_6 : tA sc iX11_now 6 ls [vI x] h Q = Q (some (vI x)) h := tA_ret mB_X11_now dX11_now_6 (fun _ _ _ _ => rfl) (fun _ _ _ => rfl) (fun _ _ _ _ _ => rfl) rfl rfl
theorem mB_X11_owner : mB iX11_owner = cX11_owner := rfl
theorem mO_X11_owner : mO iX11_owner = 11 := rfl
theorem rX11_owner_0 : tA sc iX11_owner 0 [l0, vI x, l2, l3] st h Q = tA sc iX11_owner 1 [l0, vI x, l2, l3] (vI x :: st) h Q := tA_pure mB_X11_owner dX11_owner_0 rfl
theorem rX11_owner_1 : tA sc iX11_owner 1 ls [vI p0] h Q = tA sc iX11_isDay 0 [vI p0] [] h (fun v h1 => tA sc iX11_owner 4 ls (tpu v []) h1 Q) := tA_cS mB_X11_owner mO_X11_owner dX11_owner_1 cT_11_216 ⟨Nat.le_of_ble_eq_true rfl, Nat.le_of_ble_eq_true rfl⟩ rfl rfl rfl rfl
theorem rX11_owner_4 : tA sc iX11_owner 4 ls (vI x :: st) h Q = (if ¬ x = 0 then tA sc iX11_owner 9 ls st h Q else tA sc iX11_owner 7 ls st h Q) := tA_if mB_X11_owner dX11_owner_4 (fun _ _ _ _ => rfl) rfl
theorem rX11_owner_7 : tA sc iX11_owner 7 ls st h Q = tA sc iX11_owner 8 ls (vI (-1) :: st) h Q := tA_pure mB_X11_owner dX11_owner_7 rfl
theorem rX11_owner_8 : tA sc iX11_owner 8 ls [vI x] h Q = Q (some (vI x)) h := tA_ret mB_X11_owner dX11_owner_8 (fun _ _ _ _ => rfl) (fun _ _ _ => rfl) (fun _ _ _ _ _ => rfl) rfl rfl
theorem rX11_owner_9 : tA sc iX11_owner 9 ls st h Q = tA sc iX11_owner 11 ls (vI (-3) :: st) h Q := tA_pure mB_X11_owner dX11_owner_9 rfl
theorem rX11_owner_11 : tA sc iX11_owner 11 [l0, l1, l2, l3] (vI x :: st) h Q = tA sc iX11_owner 12 [l0, tclr l1, vI x, l3] st h Q := tA_pure mB_X11_owner dX11_owner_11 rfl
theorem rX11_owner_12 : tA sc iX11_owner 12 ls st h Q = tA sc iX11_owner 13 ls (vI (0) :: st) h Q := tA_pure mB_X11_owner dX11_owner_12 rfl
theorem rX11_owner_13 : tA sc iX11_owner 13 [l0, l1, l2, l3] (vI x :: st) h Q = tA sc iX11_owner 14 [l0, l1, tclr l2, vI x] st h Q := tA_pure mB_X11_owner dX11_owner_13 rfl
theorem rX11_owner_14 : tA sc iX11_owner 14 [l0, l1, l2, vI x] st h Q = tA sc iX11_owner 15 [l0, l1, l2, vI x] (vI x :: st) h Q := tA_pure mB_X11_owner dX11_owner_14 rfl
theorem rX11_owner_15 : tA sc iX11_owner 15 [vR r, l1, l2, l3] st h Q = tA sc iX11_owner 16 [vR r, l1, l2, l3] (vR r :: st) h Q := tA_pure mB_X11_owner dX11_owner_15 rfl
theorem rX11_owner_16 : tA sc iX11_owner 16 ls (vR (some o) :: st) h Q = oz (tget h o [11] 0) (fun v => tA sc iX11_owner 19 ls (v :: st) h Q) := tA_get mB_X11_owner mO_X11_owner dX11_owner_16 fT_11_7
theorem rX11_owner_19 : tA sc iX11_owner 19 ls st h Q = tA sc iX11_owner 20 ls (vI (2) :: st) h Q := tA_pure mB_X11_owner dX11_owner_19 rfl
theorem rX11_owner_20 : tA sc iX11_owner 20 ls (vI j :: vR (some a) :: st) h Q = oz (tald sc h 0 a j) (fun v => tA sc iX11_owner 21 ls (vI v :: st) h Q) := tA_iald mB_X11_owner dX11_owner_20
theorem rX11_owner_21 : tA sc iX11_owner 21 ls (vI y :: vI x :: st) h Q = (if y ≤ x then tA sc iX11_owner 79 ls st h Q else tA sc iX11_owner 24 ls st h Q) := tA_if mB_X11_owner dX11_owner_21 (fun _ _ _ _ => rfl) rfl
theorem rX11_owner_24 : tA sc iX11_owner 24 [l0, vI x, l2, l3] st h Q = tA sc iX11_owner 25 [l0, vI x, l2, l3] (vI x :: st) h Q := tA_pure mB_X11_owner dX11_owner_24 rfl
theorem rX11_owner_25 : tA sc iX11_owner 25 [vR r, l1, l2, l3] st h Q = tA sc iX11_owner 26 [vR r, l1, l2, l3] (vR r :: st) h Q := tA_pure mB_X11_owner dX11_owner_25 rfl
theorem rX11_owner_26 : tA sc iX11_owner 26 ls (vR (some o) :: st) h Q = oz (tget h o [11] 0) (fun v => tA sc iX11_owner 29 ls (v :: st) h Q) := tA_get mB_X11_owner mO_X11_owner dX11_owner_26 fT_11_7
theorem rX11_owner_29 : tA sc iX11_owner 29 ls st h Q = tA sc iX11_owner 30 ls (vI (0) :: st) h Q := tA_pure mB_X11_owner dX11_owner_29 rfl
theorem rX11_owner_30 : tA sc iX11_owner 30 ls (vI j :: vR (some a) :: st) h Q = oz (tald sc h 0 a j) (fun v => tA sc iX11_owner 31 ls (vI v :: st) h Q) := tA_iald mB_X11_owner dX11_owner_30
theorem rX11_owner_31 : tA sc iX11_owner 31 ls (vI y :: vI x :: st) h Q = (if y ≤ x then tA sc iX11_owner 71 ls st h Q else tA sc iX11_owner 34 ls st h Q) := tA_if mB_X11_owner dX11_owner_31 (fun _ _ _ _ => rfl) rfl
theorem rX11_owner_34 : tA sc iX11_owner 34 [vR r, l1, l2, l3] st h Q = tA sc iX11_owner 35 [vR r, l1, l2, l3] (vR r :: st) h Q := tA_pure mB_X11_owner dX11_owner_34 rfl
theorem rX11_owner_35 : tA sc iX11_owner 35 [l0, l1, l2, vI x] st h Q = tA sc iX11_owner 36 [l0, l1, l2, vI x] (vI x :: st) h Q := tA_pure mB_X11_owner dX11_owner_35 rfl
theorem rX11_owner_36 : tA sc iX11_owner 36 ls st h Q = tA sc iX11_owner 37 ls (vI (1) :: st) h Q := tA_pure mB_X11_owner dX11_owner_36 rfl
theorem rX11_owner_37 (hci : tcl h o = some 11) : tA sc iX11_owner 37 ls [vI p1, vI p0, vR (some o)] h Q = tA sc iX11_saying 0 [vR (some o), vI p0, vI p1] [] h (fun v h1 => tA sc iX11_owner 40 ls (tpu v []) h1 Q) := tA_cV mB_X11_owner mO_X11_owner dX11_owner_37 cT_11_232 rfl (Nat.le_of_ble_eq_true rfl) rfl rfl rfl hci
theorem rX11_owner_40 : tA sc iX11_owner 40 [l0, vI x, l2, l3] st h Q = tA sc iX11_owner 41 [l0, vI x, l2, l3] (vI x :: st) h Q := tA_pure mB_X11_owner dX11_owner_40 rfl
theorem rX11_owner_41 : tA sc iX11_owner 41 ls (vI y :: vI x :: st) h Q = (if ¬ x = y then tA sc iX11_owner 71 ls st h Q else tA sc iX11_owner 44 ls st h Q) := tA_if mB_X11_owner dX11_owner_41 (fun _ _ _ _ => rfl) rfl
theorem rX11_owner_44 : tA sc iX11_owner 44 [vR r, l1, l2, l3] st h Q = tA sc iX11_owner 45 [vR r, l1, l2, l3] (vR r :: st) h Q := tA_pure mB_X11_owner dX11_owner_44 rfl
theorem rX11_owner_45 : tA sc iX11_owner 45 [l0, l1, l2, vI x] st h Q = tA sc iX11_owner 46 [l0, l1, l2, vI x] (vI x :: st) h Q := tA_pure mB_X11_owner dX11_owner_45 rfl
theorem rX11_owner_46 : tA sc iX11_owner 46 ls st h Q = tA sc iX11_owner 47 ls (vI (2) :: st) h Q := tA_pure mB_X11_owner dX11_owner_46 rfl
theorem rX11_owner_47 (hci : tcl h o = some 11) : tA sc iX11_owner 47 ls [vI p1, vI p0, vR (some o)] h Q = tA sc iX11_saying 0 [vR (some o), vI p0, vI p1] [] h (fun v h1 => tA sc iX11_owner 50 ls (tpu v []) h1 Q) := tA_cV mB_X11_owner mO_X11_owner dX11_owner_47 cT_11_232 rfl (Nat.le_of_ble_eq_true rfl) rfl rfl rfl hci
theorem rX11_owner_50 : tA sc iX11_owner 50 [vR r, l1, l2, l3] st h Q = tA sc iX11_owner 51 [vR r, l1, l2, l3] (vR r :: st) h Q := tA_pure mB_X11_owner dX11_owner_50 rfl
theorem rX11_owner_51 : tA sc iX11_owner 51 ls (vR (some o) :: st) h Q = oz (tget h o [11] 0) (fun v => tA sc iX11_owner 54 ls (v :: st) h Q) := tA_get mB_X11_owner mO_X11_owner dX11_owner_51 fT_11_7
theorem rX11_owner_54 : tA sc iX11_owner 54 ls st h Q = tA sc iX11_owner 56 ls (vI (23) :: st) h Q := tA_pure mB_X11_owner dX11_owner_54 rfl
theorem rX11_owner_56 : tA sc iX11_owner 56 [l0, vI x, l2, l3] st h Q = tA sc iX11_owner 57 [l0, vI x, l2, l3] (vI x :: st) h Q := tA_pure mB_X11_owner dX11_owner_56 rfl
theorem rX11_owner_57 : tA sc iX11_owner 57 ls (vI y :: vI x :: st) h Q = tA sc iX11_owner 58 ls (vI (x + y) :: st) h Q := tA_pure mB_X11_owner dX11_owner_57 rfl
theorem rX11_owner_58 : tA sc iX11_owner 58 ls (vI j :: vR (some a) :: st) h Q = oz (tald sc h 0 a j) (fun v => tA sc iX11_owner 59 ls (vI v :: st) h Q) := tA_iald mB_X11_owner dX11_owner_58
theorem rX11_owner_59 : tA sc iX11_owner 59 ls (vI y :: vI x :: st) h Q = (if ¬ x = y then tA sc iX11_owner 71 ls st h Q else tA sc iX11_owner 62 ls st h Q) := tA_if mB_X11_owner dX11_owner_59 (fun _ _ _ _ => rfl) rfl
theorem rX11_owner_62 : tA sc iX11_owner 62 [vR r, l1, l2, l3] st h Q = tA sc iX11_owner 63 [vR r, l1, l2, l3] (vR r :: st) h Q := tA_pure mB_X11_owner dX11_owner_62 rfl
theorem rX11_owner_63 : tA sc iX11_owner 63 [l0, l1, l2, vI x] st h Q = tA sc iX11_owner 64 [l0, l1, l2, vI x] (vI x :: st) h Q := tA_pure mB_X11_owner dX11_owner_63 rfl
theorem rX11_owner_64 : tA sc iX11_owner 64 ls st h Q = tA sc iX11_owner 65 ls (vI (0) :: st) h Q := tA_pure mB_X11_owner dX11_owner_64 rfl
theorem rX11_owner_65 (hci : tcl h o = some 11) : tA sc iX11_owner 65 ls [vI p1, vI p0, vR (some o)] h Q = tA sc iX11_saying 0 [vR (some o), vI p0, vI p1] [] h (fun v h1 => tA sc iX11_owner 68 ls (tpu v []) h1 Q) := tA_cV mB_X11_owner mO_X11_owner dX11_owner_65 cT_11_232 rfl (Nat.le_of_ble_eq_true rfl) rfl rfl rfl hci
theorem rX11_owner_68 : tA sc iX11_owner 68 ls st h Q = tA sc iX11_owner 72 ls st h Q := tA_jump mB_X11_owner dX11_owner_68 (fun _ _ _ _ => rfl) rfl
theorem rX11_owner_71 : tA sc iX11_owner 71 [l0, l1, vI x, l3] st h Q = tA sc iX11_owner 72 [l0, l1, vI x, l3] (vI x :: st) h Q := tA_pure mB_X11_owner dX11_owner_71 rfl
theorem rX11_owner_72 : tA sc iX11_owner 72 [l0, l1, l2, l3] (vI x :: st) h Q = tA sc iX11_owner 73 [l0, tclr l1, vI x, l3] st h Q := tA_pure mB_X11_owner dX11_owner_72 rfl
theorem rX11_owner_73 : tA sc iX11_owner 73 [l0, l1, l2, vI x] st h Q = tA sc iX11_owner 76 [l0, l1, tclr l2, vI (x + 1)] st h Q := tA_pure mB_X11_owner dX11_owner_73 rfl
theorem rX11_owner_76 : tA sc iX11_owner 76 ls st h Q = tA sc iX11_owner 14 ls st h Q := tA_jump mB_X11_owner dX11_owner_76 (fun _ _ _ _ => rfl) rfl
theorem rX11_owner_79 : tA sc iX11_owner 79 [l0, l1, vI x, l3] st h Q = tA sc iX11_owner 80 [l0, l1, vI x, l3] (vI x :: st) h Q := tA_pure mB_X11_owner dX11_owner_79 rfl
theorem rX11_owner_80 : tA sc iX11_owner 80 ls [vI x] h Q = Q (some (vI x)) h := tA_ret mB_X11_owner dX11_owner_80 (fun _ _ _ _ => rfl) (fun _ _ _ => rfl) (fun _ _ _ _ _ => rfl) rfl rfl
theorem mB_X11_lowest : mB iX11_lowest = cX11_lowest := rfl
theorem mO_X11_lowest : mO iX11_lowest = 11 := rfl
theorem rX11_lowest_0 : tA sc iX11_lowest 0 [l0, vL u, l2, l3, l4, l5, l6, l7, l8, l9, l10] st h Q = tA sc iX11_lowest 1 [l0, vL u, l2, l3, l4, l5, l6, l7, l8, l9, l10] (vL u :: st) h Q := tA_pure mB_X11_lowest dX11_lowest_0 rfl
theorem rX11_lowest_1 : tA sc iX11_lowest 1 ls st h Q = tA sc iX11_lowest 2 ls (vL 0 :: st) h Q := tA_pure mB_X11_lowest dX11_lowest_1 rfl
theorem rX11_lowest_2 : tA sc iX11_lowest 2 ls (vL w :: vL u :: st) h Q = tA sc iX11_lowest 3 ls (vI (lg_cmp u w) :: st) h Q := tA_pure mB_X11_lowest dX11_lowest_2 rfl
theorem rX11_lowest_3 : tA sc iX11_lowest 3 ls (vI x :: st) h Q = (if 0 ≤ x then tA sc iX11_lowest 11 ls st h Q else tA sc iX11_lowest 6 ls st h Q) := tA_if mB_X11_lowest dX11_lowest_3 (fun _ _ _ _ => rfl) rfl
theorem rX11_lowest_6 : tA sc iX11_lowest 6 [l0, vL u, l2, l3, l4, l5, l6, l7, l8, l9, l10] st h Q = tA sc iX11_lowest 7 [l0, vL u, l2, l3, l4, l5, l6, l7, l8, l9, l10] (vL u :: st) h Q := tA_pure mB_X11_lowest dX11_lowest_6 rfl
theorem rX11_lowest_7 : tA sc iX11_lowest 7 ls (vL u :: st) h Q = tA sc iX11_lowest 8 ls (vL (-u) :: st) h Q := tA_pure mB_X11_lowest dX11_lowest_7 rfl
theorem rX11_lowest_8 : tA sc iX11_lowest 8 ls st h Q = tA sc iX11_lowest 12 ls st h Q := tA_jump mB_X11_lowest dX11_lowest_8 (fun _ _ _ _ => rfl) rfl
theorem rX11_lowest_11 : tA sc iX11_lowest 11 [l0, vL u, l2, l3, l4, l5, l6, l7, l8, l9, l10] st h Q = tA sc iX11_lowest 12 [l0, vL u, l2, l3, l4, l5, l6, l7, l8, l9, l10] (vL u :: st) h Q := tA_pure mB_X11_lowest dX11_lowest_11 rfl
theorem rX11_lowest_12 : tA sc iX11_lowest 12 [l0, l1, l2, l3, l4, l5, l6, l7, l8, l9, l10] (vL u :: st) h Q = tA sc iX11_lowest 14 [l0, l1, l2, l3, tclr l4, vL u, vU, l7, l8, l9, l10] st h Q := tA_pure mB_X11_lowest dX11_lowest_12 rfl
theorem rX11_lowest_14 : tA sc iX11_lowest 14 [l0, l1, l2, vL u, l4, l5, l6, l7, l8, l9, l10] st h Q = tA sc iX11_lowest 15 [l0, l1, l2, vL u, l4, l5, l6, l7, l8, l9, l10] (vL u :: st) h Q := tA_pure mB_X11_lowest dX11_lowest_14 rfl
theorem rX11_lowest_15 : tA sc iX11_lowest 15 [l0, l1, l2, l3, l4, l5, l6, l7, l8, l9, l10] (vL u :: st) h Q = tA sc iX11_lowest 17 [l0, l1, l2, l3, l4, l5, tclr l6, vL u, vU, l9, l10] st h Q := tA_pure mB_X11_lowest dX11_lowest_15 rfl
theorem rX11_lowest_17 : tA sc iX11_lowest 17 [l0, l1, l2, l3, l4, l5, l6, vL u, l8, l9, l10] st h Q = tA sc iX11_lowest 19 [l0, l1, l2, l3, l4, l5, l6, vL u, l8, l9, l10] (vL u :: st) h Q := tA_pure mB_X11_lowest dX11_lowest_17 rfl
theorem rX11_lowest_19 : tA sc iX11_lowest 19 ls st h Q = tA sc iX11_lowest 20 ls (vL 0 :: st) h Q := tA_pure mB_X11_lowest dX11_lowest_19 rfl
theorem rX11_lowest_20 : tA sc iX11_lowest 20 ls (vL w :: vL u :: st) h Q = tA sc iX11_lowest 21 ls (vI (lg_cmp u w) :: st) h Q := tA_pure mB_X11_lowest dX11_lowest_20 rfl
theorem rX11_lowest_21 : tA sc iX11_lowest 21 ls (vI x :: st) h Q = (if x = 0 then tA sc iX11_lowest 42 ls st h Q else tA sc iX11_lowest 24 ls st h Q) := tA_if mB_X11_lowest dX11_lowest_21 (fun _ _ _ _ => rfl) rfl
theorem rX11_lowest_24 : tA sc iX11_lowest 24 [l0, l1, l2, l3, l4, vL u, l6, l7, l8, l9, l10] st h Q = tA sc iX11_lowest 26 [l0, l1, l2, l3, l4, vL u, l6, l7, l8, l9, l10] (vL u :: st) h Q := tA_pure mB_X11_lowest dX11_lowest_24 rfl
theorem rX11_lowest_26 : tA sc iX11_lowest 26 [l0, l1, l2, l3, l4, l5, l6, vL u, l8, l9, l10] st h Q = tA sc iX11_lowest 28 [l0, l1, l2, l3, l4, l5, l6, vL u, l8, l9, l10] (vL u :: st) h Q := tA_pure mB_X11_lowest dX11_lowest_26 rfl
theorem rX11_lowest_28 : tA sc iX11_lowest 28 ls (vL w :: vL u :: st) h Q = (¬ w = 0 ∧ tA sc iX11_lowest 29 ls (vL (u - u / w * w) :: st) h Q) := tA_divl mB_X11_lowest dX11_lowest_28 (fun _ _ _ => rfl) (fun _ _ _ _ _ => rfl) rfl (fun _ _ => rfl) rfl
theorem rX11_lowest_29 : tA sc iX11_lowest 29 [l0, l1, l2, l3, l4, l5, l6, l7, l8, l9, l10] (vL u :: st) h Q = tA sc iX11_lowest 31 [l0, l1, l2, l3, l4, l5, l6, l7, tclr l8, vL u, vU] st h Q := tA_pure mB_X11_lowest dX11_lowest_29 rfl
theorem rX11_lowest_31 : tA sc iX11_lowest 31 [l0, l1, l2, l3, l4, l5, l6, vL u, l8, l9, l10] st h Q = tA sc iX11_lowest 33 [l0, l1, l2, l3, l4, l5, l6, vL u, l8, l9, l10] (vL u :: st) h Q := tA_pure mB_X11_lowest dX11_lowest_31 rfl
theorem rX11_lowest_33 : tA sc iX11_lowest 33 [l0, l1, l2, l3, l4, l5, l6, l7, l8, l9, l10] (vL u :: st) h Q = tA sc iX11_lowest 35 [l0, l1, l2, l3, tclr l4, vL u, vU, l7, l8, l9, l10] st h Q := tA_pure mB_X11_lowest dX11_lowest_33 rfl
theorem rX11_lowest_35 : tA sc iX11_lowest 35 [l0, l1, l2, l3, l4, l5, l6, l7, l8, vL u, l10] st h Q = tA sc iX11_lowest 37 [l0, l1, l2, l3, l4, l5, l6, l7, l8, vL u, l10] (vL u :: st) h Q := tA_pure mB_X11_lowest dX11_lowest_35 rfl
theorem rX11_lowest_37 : tA sc iX11_lowest 37 [l0, l1, l2, l3, l4, l5, l6, l7, l8, l9, l10] (vL u :: st) h Q = tA sc iX11_lowest 39 [l0, l1, l2, l3, l4, l5, tclr l6, vL u, vU, l9, l10] st h Q := tA_pure mB_X11_lowest dX11_lowest_37 rfl
theorem rX11_lowest_39 : tA sc iX11_lowest 39 ls st h Q = tA sc iX11_lowest 17 ls st h Q := tA_jump mB_X11_lowest dX11_lowest_39 (fun _ _ _ _ => rfl) rfl
theorem rX11_lowest_42 : tA sc iX11_lowest 42 [vR r, l1, l2, l3, l4, l5, l6, l7, l8, l9, l10] st h Q = tA sc iX11_lowest 43 [vR r, l1, l2, l3, l4, l5, l6, l7, l8, l9, l10] (vR r :: st) h Q := tA_pure mB_X11_lowest dX11_lowest_42 rfl
theorem rX11_lowest_43 : tA sc iX11_lowest 43 [l0, vL u, l2, l3, l4, l5, l6, l7, l8, l9, l10] st h Q = tA sc iX11_lowest 44 [l0, vL u, l2, l3, l4, l5, l6, l7, l8, l9, l10] (vL u :: st) h Q := tA_pure mB_X11_lowest dX11_lowest_43 rfl
theorem rX11_lowest_44 : tA sc iX11_lowest 44 [l0, l1, l2, l3, l4, vL u, l6, l7, l8, l9, l10] st h Q = tA sc iX11_lowest 46 [l0, l1, l2, l3, l4, vL u, l6, l7, l8, l9, l10] (vL u :: st) h Q := tA_pure mB_X11_lowest dX11_lowest_44 rfl
theorem rX11_lowest_46 : tA sc iX11_lowest 46 ls (vL w :: vL u :: st) h Q = (¬ w = 0 ∧ tA sc iX11_lowest 47 ls (vL (u / w) :: st) h Q) := tA_divl mB_X11_lowest dX11_lowest_46 (fun _ _ _ => rfl) (fun _ _ _ _ _ => rfl) rfl (fun _ _ => rfl) rfl
theorem rX11_lowest_47 : tA sc iX11_lowest 47 ls (v :: vR (some o) :: st) h Q = oz (tput h o [11] 29 2 v) (fun h' => tA sc iX11_lowest 50 ls st h' Q) := tA_put mB_X11_lowest mO_X11_lowest dX11_lowest_47 fT_11_294 (Or.inl (by decide))
theorem rX11_lowest_50 : tA sc iX11_lowest 50 [vR r, l1, l2, l3, l4, l5, l6, l7, l8, l9, l10] st h Q = tA sc iX11_lowest 51 [vR r, l1, l2, l3, l4, l5, l6, l7, l8, l9, l10] (vR r :: st) h Q := tA_pure mB_X11_lowest dX11_lowest_50 rfl
theorem rX11_lowest_51 : tA sc iX11_lowest 51 [l0, l1, l2, vL u, l4, l5, l6, l7, l8, l9, l10] st h Q = tA sc iX11_lowest 52 [l0, l1, l2, vL u, l4, l5, l6, l7, l8, l9, l10] (vL u :: st) h Q := tA_pure mB_X11_lowest dX11_lowest_51 rfl
theorem rX11_lowest_52 : tA sc iX11_lowest 52 [l0, l1, l2, l3, l4, vL u, l6, l7, l8, l9, l10] st h Q = tA sc iX11_lowest 54 [l0, l1, l2, l3, l4, vL u, l6, l7, l8, l9, l10] (vL u :: st) h Q := tA_pure mB_X11_lowest dX11_lowest_52 rfl
theorem rX11_lowest_54 : tA sc iX11_lowest 54 ls (vL w :: vL u :: st) h Q = (¬ w = 0 ∧ tA sc iX11_lowest 55 ls (vL (u / w) :: st) h Q) := tA_divl mB_X11_lowest dX11_lowest_54 (fun _ _ _ => rfl) (fun _ _ _ _ _ => rfl) rfl (fun _ _ => rfl) rfl
theorem rX11_lowest_55 : tA sc iX11_lowest 55 ls (v :: vR (some o) :: st) h Q = oz (tput h o [11] 30 2 v) (fun h' => tA sc iX11_lowest 58 ls st h' Q) := tA_put mB_X11_lowest mO_X11_lowest dX11_lowest_55 fT_11_297 (Or.inl (by decide))
theorem rX11_lowest_58 : tA sc iX11_lowest 58 ls [] h Q = Q (none) h := tA_ret mB_X11_lowest dX11_lowest_58 (fun _ _ _ _ => rfl) (fun _ _ _ => rfl) (fun _ _ _ _ _ => rfl) rfl rfl
theorem mB_X11_toldPart : mB iX11_toldPart = cX11_toldPart := rfl
theorem mO_X11_toldPart : mO iX11_toldPart = 11 := rfl
theorem rX11_toldPart_0 : tA sc iX11_toldPart 0 [l0, vI x] st h Q = tA sc iX11_toldPart 1 [l0, vI x] (vI x :: st) h Q := tA_pure mB_X11_toldPart dX11_toldPart_0 rfl
theorem rX11_toldPart_1 : tA sc iX11_toldPart 1 ls (vI x :: st) h Q = (if ¬ x = 0 then tA sc iX11_toldPart 11 ls st h Q else tA sc iX11_toldPart 4 ls st h Q) := tA_if mB_X11_toldPart dX11_toldPart_1 (fun _ _ _ _ => rfl) rfl
theorem rX11_toldPart_4 : tA sc iX11_toldPart 4 [vR r, l1] st h Q = tA sc iX11_toldPart 5 [vR r, l1] (vR r :: st) h Q := tA_pure mB_X11_toldPart dX11_toldPart_4 rfl
theorem rX11_toldPart_5 : tA sc iX11_toldPart 5 ls (vR (some o) :: st) h Q = oz (tget h o [11] 29) (fun v => tA sc iX11_toldPart 8 ls (v :: st) h Q) := tA_get mB_X11_toldPart mO_X11_toldPart dX11_toldPart_5 fT_11_294
theorem rX11_toldPart_8 : tA sc iX11_toldPart 8 ls st h Q = tA sc iX11_toldPart 15 ls st h Q := tA_jump mB_X11_toldPart dX11_toldPart_8 (fun _ _ _ _ => rfl) rfl
theorem rX11_toldPart_11 : tA sc iX11_toldPart 11 [vR r, l1] st h Q = tA sc iX11_toldPart 12 [vR r, l1] (vR r :: st) h Q := tA_pure mB_X11_toldPart dX11_toldPart_11 rfl
theorem rX11_toldPart_12 : tA sc iX11_toldPart 12 ls (vR (some o) :: st) h Q = oz (tget h o [11] 30) (fun v => tA sc iX11_toldPart 15 ls (v :: st) h Q) := tA_get mB_X11_toldPart mO_X11_toldPart dX11_toldPart_12 fT_11_297
theorem rX11_toldPart_15 : tA sc iX11_toldPart 15 ls [vL u] h Q = Q (some (vL u)) h := tA_ret mB_X11_toldPart dX11_toldPart_15 (fun _ _ _ _ => rfl) (fun _ _ _ => rfl) (fun _ _ _ _ _ => rfl) rfl rfl
theorem mB_X11_isComing : mB iX11_isComing = cX11_isComing := rfl
theorem mO_X11_isComing : mO iX11_isComing = 11 := rfl
theorem rX11_isComing_0 : tA sc iX11_isComing 0 [l0, vI x] st h Q = tA sc iX11_isComing 1 [l0, vI x] (vI x :: st) h Q := tA_pure mB_X11_isComing dX11_isComing_0 rfl
theorem rX11_isComing_1 : tA sc iX11_isComing 1 [vR r, l1] st h Q = tA sc iX11_isComing 2 [vR r, l1] (vR r :: st) h Q := tA_pure mB_X11_isComing dX11_isComing_1 rfl
theorem rX11_isComing_2 : tA sc iX11_isComing 2 ls (vR (some o) :: st) h Q = oz (tget h o [11] 0) (fun v => tA sc iX11_isComing 5 ls (v :: st) h Q) := tA_get mB_X11_isComing mO_X11_isComing dX11_isComing_2 fT_11_7
theorem rX11_isComing_5 : tA sc iX11_isComing 5 ls st h Q = tA sc iX11_isComing 6 ls (vI (0) :: st) h Q := tA_pure mB_X11_isComing dX11_isComing_5 rfl
theorem rX11_isComing_6 : tA sc iX11_isComing 6 ls (vI j :: vR (some a) :: st) h Q = oz (tald sc h 0 a j) (fun v => tA sc iX11_isComing 7 ls (vI v :: st) h Q) := tA_iald mB_X11_isComing dX11_isComing_6
theorem rX11_isComing_7 : tA sc iX11_isComing 7 ls st h Q = tA sc iX11_isComing 9 ls (vI (19) :: st) h Q := tA_pure mB_X11_isComing dX11_isComing_7 rfl
theorem rX11_isComing_9 : tA sc iX11_isComing 9 ls [vI p2, vI p1, vI p0] h Q = tA sc iX11_in 0 [vI p0, vI p1, vI p2] [] h (fun v h1 => tA sc iX11_isComing 12 ls (tpu v []) h1 Q) := tA_cS mB_X11_isComing mO_X11_isComing dX11_isComing_9 cT_11_83 ⟨Nat.le_of_ble_eq_true rfl, Nat.le_of_ble_eq_true rfl⟩ rfl rfl rfl rfl
theorem rX11_isComing_12 : tA sc iX11_isComing 12 ls [vI x] h Q = ((x = 0 ∨ x = 1) ∧ Q (some (vI x)) h) := tA_retz mB_X11_isComing dX11_isComing_12 rfl
theorem mB_X11_odds : mB iX11_odds = cX11_odds := rfl
theorem mO_X11_odds : mO iX11_odds = 11 := rfl
theorem rX11_odds_0 : tA sc iX11_odds 0 [vR r, l1, l2, l3] st h Q = tA sc iX11_odds 1 [vR r, l1, l2, l3] (vR r :: st) h Q := tA_pure mB_X11_odds dX11_odds_0 rfl
theorem rX11_odds_1 : tA sc iX11_odds 1 [l0, vI x, l2, l3] st h Q = tA sc iX11_odds 2 [l0, vI x, l2, l3] (vI x :: st) h Q := tA_pure mB_X11_odds dX11_odds_1 rfl
theorem rX11_odds_2 (hci : tcl h o = some 11) : tA sc iX11_odds 2 ls [vI p0, vR (some o)] h Q = tA sc iX11_isComing 0 [vR (some o), vI p0] [] h (fun v h1 => tA sc iX11_odds 5 ls (tpu v []) h1 Q) := tA_cV mB_X11_odds mO_X11_odds dX11_odds_2 cT_11_300 rfl (Nat.le_of_ble_eq_true rfl) rfl rfl rfl hci
theorem rX11_odds_5 : tA sc iX11_odds 5 ls (vI x :: st) h Q = (if x = 0 then tA sc iX11_odds 22 ls st h Q else tA sc iX11_odds 8 ls st h Q) := tA_if mB_X11_odds dX11_odds_5 (fun _ _ _ _ => rfl) rfl
theorem rX11_odds_8 : tA sc iX11_odds 8 [l0, l1, vI x, l3] st h Q = tA sc iX11_odds 9 [l0, l1, vI x, l3] (vI x :: st) h Q := tA_pure mB_X11_odds dX11_odds_8 rfl
theorem rX11_odds_9 : tA sc iX11_odds 9 ls [vI p0] h Q = tA sc iX11_isWeather 0 [vI p0] [] h (fun v h1 => tA sc iX11_odds 12 ls (tpu v []) h1 Q) := tA_cS mB_X11_odds mO_X11_odds dX11_odds_9 cT_11_219 ⟨Nat.le_of_ble_eq_true rfl, Nat.le_of_ble_eq_true rfl⟩ rfl rfl rfl rfl
theorem rX11_odds_12 : tA sc iX11_odds 12 ls (vI x :: st) h Q = (if x = 0 then tA sc iX11_odds 22 ls st h Q else tA sc iX11_odds 15 ls st h Q) := tA_if mB_X11_odds dX11_odds_12 (fun _ _ _ _ => rfl) rfl
theorem rX11_odds_15 : tA sc iX11_odds 15 [l0, l1, l2, vI x] st h Q = tA sc iX11_odds 16 [l0, l1, l2, vI x] (vI x :: st) h Q := tA_pure mB_X11_odds dX11_odds_15 rfl
theorem rX11_odds_16 : tA sc iX11_odds 16 ls [vI p0] h Q = tA sc iX11_isSide 0 [vI p0] [] h (fun v h1 => tA sc iX11_odds 19 ls (tpu v []) h1 Q) := tA_cS mB_X11_odds mO_X11_odds dX11_odds_16 cT_11_303 ⟨Nat.le_of_ble_eq_true rfl, Nat.le_of_ble_eq_true rfl⟩ rfl rfl rfl rfl
theorem rX11_odds_19 : tA sc iX11_odds 19 ls (vI x :: st) h Q = (if ¬ x = 0 then tA sc iX11_odds 24 ls st h Q else tA sc iX11_odds 22 ls st h Q) := tA_if mB_X11_odds dX11_odds_19 (fun _ _ _ _ => rfl) rfl
theorem rX11_odds_22 : tA sc iX11_odds 22 ls st h Q = tA sc iX11_odds 23 ls (vI (-1) :: st) h Q := tA_pure mB_X11_odds dX11_odds_22 rfl
theorem rX11_odds_23 : tA sc iX11_odds 23 ls [vI x] h Q = Q (some (vI x)) h := tA_ret mB_X11_odds dX11_odds_23 (fun _ _ _ _ => rfl) (fun _ _ _ => rfl) (fun _ _ _ _ _ => rfl) rfl rfl
theorem rX11_odds_24 : tA sc iX11_odds 24 [vR r, l1, l2, l3] st h Q = tA sc iX11_odds 25 [vR r, l1, l2, l3] (vR r :: st) h Q := tA_pure mB_X11_odds dX11_odds_24 rfl
theorem rX11_odds_25 : tA sc iX11_odds 25 [vR r, l1, l2, l3] st h Q = tA sc iX11_odds 26 [vR r, l1, l2, l3] (vR r :: st) h Q := tA_pure mB_X11_odds dX11_odds_25 rfl
theorem rX11_odds_26 : tA sc iX11_odds 26 [l0, vI x, l2, l3] st h Q = tA sc iX11_odds 27 [l0, vI x, l2, l3] (vI x :: st) h Q := tA_pure mB_X11_odds dX11_odds_26 rfl
theorem rX11_odds_27 : tA sc iX11_odds 27 [l0, l1, vI x, l3] st h Q = tA sc iX11_odds 28 [l0, l1, vI x, l3] (vI x :: st) h Q := tA_pure mB_X11_odds dX11_odds_27 rfl
theorem rX11_odds_28 (hci : tcl h o = some 11) : tA sc iX11_odds 28 ls [vI p1, vI p0, vR (some o), s0] h Q = tA sc iX11_weightOf 0 [vR (some o), vI p0, vI p1] [] h (fun v h1 => tA sc iX11_odds 31 ls (tpu v [s0]) h1 Q) := tA_cV mB_X11_odds mO_X11_odds dX11_odds_28 cT_11_228 rfl (Nat.le_of_ble_eq_true rfl) rfl rfl rfl hci
theorem rX11_odds_31 : tA sc iX11_odds 31 ls (vI x :: st) h Q = tA sc iX11_odds 32 ls (vL x.toInt64 :: st) h Q := tA_pure mB_X11_odds dX11_odds_31 rfl
theorem rX11_odds_32 : tA sc iX11_odds 32 [vR r, l1, l2, l3] st h Q = tA sc iX11_odds 33 [vR r, l1, l2, l3] (vR r :: st) h Q := tA_pure mB_X11_odds dX11_odds_32 rfl
theorem rX11_odds_33 : tA sc iX11_odds 33 [l0, vI x, l2, l3] st h Q = tA sc iX11_odds 34 [l0, vI x, l2, l3] (vI x :: st) h Q := tA_pure mB_X11_odds dX11_odds_33 rfl
theorem rX11_odds_34 (hci : tcl h o = some 11) : tA sc iX11_odds 34 ls [vI p0, vR (some o), s0, s1] h Q = tA sc iX11_allOf 0 [vR (some o), vI p0] [] h (fun v h1 => tA sc iX11_odds 37 ls (tpu v [s0, s1]) h1 Q) := tA_cV mB_X11_odds mO_X11_odds dX11_odds_34 cT_11_277 rfl (Nat.le_of_ble_eq_true rfl) rfl rfl rfl hci
theorem rX11_odds_37 : tA sc iX11_odds 37 ls (vI x :: st) h Q = tA sc iX11_odds 38 ls (vL x.toInt64 :: st) h Q := tA_pure mB_X11_odds dX11_odds_37 rfl
theorem rX11_odds_38 (hci : tcl h o = some 11) : tA sc iX11_odds 38 ls [vL q1, vL q0, vR (some o)] h Q = tA sc iX11_lowest 0 [vR (some o), vL q0, vU, vL q1, vU, vU, vU, vU, vU, vU, vU] [] h (fun v h1 => tA sc iX11_odds 41 ls (tpu v []) h1 Q) := tA_cV mB_X11_odds mO_X11_odds dX11_odds_38 cT_11_306 rfl (Nat.le_of_ble_eq_true rfl) rfl rfl rfl hci
theorem rX11_odds_41 : tA sc iX11_odds 41 [vR r, l1, l2, l3] st h Q = tA sc iX11_odds 42 [vR r, l1, l2, l3] (vR r :: st) h Q := tA_pure mB_X11_odds dX11_odds_41 rfl
theorem rX11_odds_42 : tA sc iX11_odds 42 [l0, l1, l2, vI x] st h Q = tA sc iX11_odds 43 [l0, l1, l2, vI x] (vI x :: st) h Q := tA_pure mB_X11_odds dX11_odds_42 rfl
theorem rX11_odds_43 (hci : tcl h o = some 11) : tA sc iX11_odds 43 ls [vI p0, vR (some o)] h Q = tA sc iX11_toldPart 0 [vR (some o), vI p0] [] h (fun v h1 => tA sc iX11_odds 46 ls (tpu v []) h1 Q) := tA_cV mB_X11_odds mO_X11_odds dX11_odds_43 cT_11_310 rfl (Nat.le_of_ble_eq_true rfl) rfl rfl rfl hci
theorem rX11_odds_46 : tA sc iX11_odds 46 ls (vL u :: st) h Q = tA sc iX11_odds 47 ls (vI u.toInt32 :: st) h Q := tA_pure mB_X11_odds dX11_odds_46 rfl
theorem rX11_odds_47 : tA sc iX11_odds 47 ls [vI x] h Q = Q (some (vI x)) h := tA_ret mB_X11_odds dX11_odds_47 (fun _ _ _ _ => rfl) (fun _ _ _ => rfl) (fun _ _ _ _ _ => rfl) rfl rfl
theorem mB_X11_gainBy : mB iX11_gainBy = cX11_gainBy := rfl
theorem mO_X11_gainBy : mO iX11_gainBy = 11 := rfl
theorem rX11_gainBy_0 : tA sc iX11_gainBy 0 [vR r, l1, l2, l3] st h Q = tA sc iX11_gainBy 1 [vR r, l1, l2, l3] (vR r :: st) h Q := tA_pure mB_X11_gainBy dX11_gainBy_0 rfl
theorem rX11_gainBy_1 : tA sc iX11_gainBy 1 [l0, vI x, l2, l3] st h Q = tA sc iX11_gainBy 2 [l0, vI x, l2, l3] (vI x :: st) h Q := tA_pure mB_X11_gainBy dX11_gainBy_1 rfl
theorem rX11_gainBy_2 (hci : tcl h o = some 11) : tA sc iX11_gainBy 2 ls [vI p0, vR (some o)] h Q = tA sc iX11_earn 0 [vR (some o), vI p0] [] h (fun v h1 => tA sc iX11_gainBy 5 ls (tpu v []) h1 Q) := tA_cV mB_X11_gainBy mO_X11_gainBy dX11_gainBy_2 cT_11_238 rfl (Nat.le_of_ble_eq_true rfl) rfl rfl rfl hci
theorem rX11_gainBy_5 : tA sc iX11_gainBy 5 ls (vI x :: st) h Q = tA sc iX11_gainBy 6 ls (vL x.toInt64 :: st) h Q := tA_pure mB_X11_gainBy dX11_gainBy_5 rfl
theorem rX11_gainBy_6 : tA sc iX11_gainBy 6 [l0, l1, vI x, l3] st h Q = tA sc iX11_gainBy 7 [l0, l1, vI x, l3] (vI x :: st) h Q := tA_pure mB_X11_gainBy dX11_gainBy_6 rfl
theorem rX11_gainBy_7 : tA sc iX11_gainBy 7 ls (vI x :: st) h Q = tA sc iX11_gainBy 8 ls (vL x.toInt64 :: st) h Q := tA_pure mB_X11_gainBy dX11_gainBy_7 rfl
theorem rX11_gainBy_8 : tA sc iX11_gainBy 8 ls (vL w :: vL u :: st) h Q = tA sc iX11_gainBy 9 ls (vL (u * w) :: st) h Q := tA_pure mB_X11_gainBy dX11_gainBy_8 rfl
theorem rX11_gainBy_9 : tA sc iX11_gainBy 9 [vR r, l1, l2, l3] st h Q = tA sc iX11_gainBy 10 [vR r, l1, l2, l3] (vR r :: st) h Q := tA_pure mB_X11_gainBy dX11_gainBy_9 rfl
theorem rX11_gainBy_10 : tA sc iX11_gainBy 10 ls (vR (some o) :: st) h Q = oz (tget h o [11] 6) (fun v => tA sc iX11_gainBy 13 ls (v :: st) h Q) := tA_get mB_X11_gainBy mO_X11_gainBy dX11_gainBy_10 fT_11_22
theorem rX11_gainBy_13 : tA sc iX11_gainBy 13 ls st h Q = tA sc iX11_gainBy 14 ls (vI (1) :: st) h Q := tA_pure mB_X11_gainBy dX11_gainBy_13 rfl
theorem rX11_gainBy_14 : tA sc iX11_gainBy 14 ls (vI j :: vR (some a) :: st) h Q = oz (tald sc h 0 a j) (fun v => tA sc iX11_gainBy 15 ls (vI v :: st) h Q) := tA_iald mB_X11_gainBy dX11_gainBy_14
theorem rX11_gainBy_15 : tA sc iX11_gainBy 15 ls (vI x :: st) h Q = tA sc iX11_gainBy 16 ls (vL x.toInt64 :: st) h Q := tA_pure mB_X11_gainBy dX11_gainBy_15 rfl
theorem rX11_gainBy_16 : tA sc iX11_gainBy 16 [l0, l1, l2, vI x] st h Q = tA sc iX11_gainBy 17 [l0, l1, l2, vI x] (vI x :: st) h Q := tA_pure mB_X11_gainBy dX11_gainBy_16 rfl
theorem rX11_gainBy_17 : tA sc iX11_gainBy 17 [l0, l1, vI x, l3] st h Q = tA sc iX11_gainBy 18 [l0, l1, vI x, l3] (vI x :: st) h Q := tA_pure mB_X11_gainBy dX11_gainBy_17 rfl
theorem rX11_gainBy_18 : tA sc iX11_gainBy 18 ls (vI y :: vI x :: st) h Q = tA sc iX11_gainBy 19 ls (vI (x - y) :: st) h Q := tA_pure mB_X11_gainBy dX11_gainBy_18 rfl
theorem rX11_gainBy_19 : tA sc iX11_gainBy 19 ls (vI x :: st) h Q = tA sc iX11_gainBy 20 ls (vL x.toInt64 :: st) h Q := tA_pure mB_X11_gainBy dX11_gainBy_19 rfl
theorem rX11_gainBy_20 : tA sc iX11_gainBy 20 ls (vL w :: vL u :: st) h Q = tA sc iX11_gainBy 21 ls (vL (u * w) :: st) h Q := tA_pure mB_X11_gainBy dX11_gainBy_20 rfl
theorem rX11_gainBy_21 : tA sc iX11_gainBy 21 ls (vL w :: vL u :: st) h Q = tA sc iX11_gainBy 22 ls (vL (u - w) :: st) h Q := tA_pure mB_X11_gainBy dX11_gainBy_21 rfl
theorem rX11_gainBy_22 : tA sc iX11_gainBy 22 [vR r, l1, l2, l3] st h Q = tA sc iX11_gainBy 23 [vR r, l1, l2, l3] (vR r :: st) h Q := tA_pure mB_X11_gainBy dX11_gainBy_22 rfl
theorem rX11_gainBy_23 : tA sc iX11_gainBy 23 ls (vR (some o) :: st) h Q = oz (tget h o [11] 6) (fun v => tA sc iX11_gainBy 26 ls (v :: st) h Q) := tA_get mB_X11_gainBy mO_X11_gainBy dX11_gainBy_23 fT_11_22
theorem rX11_gainBy_26 : tA sc iX11_gainBy 26 ls st h Q = tA sc iX11_gainBy 27 ls (vI (2) :: st) h Q := tA_pure mB_X11_gainBy dX11_gainBy_26 rfl
theorem rX11_gainBy_27 : tA sc iX11_gainBy 27 ls (vI j :: vR (some a) :: st) h Q = oz (tald sc h 0 a j) (fun v => tA sc iX11_gainBy 28 ls (vI v :: st) h Q) := tA_iald mB_X11_gainBy dX11_gainBy_27
theorem rX11_gainBy_28 : tA sc iX11_gainBy 28 ls (vI x :: st) h Q = tA sc iX11_gainBy 29 ls (vL x.toInt64 :: st) h Q := tA_pure mB_X11_gainBy dX11_gainBy_28 rfl
theorem rX11_gainBy_29 : tA sc iX11_gainBy 29 [l0, l1, l2, vI x] st h Q = tA sc iX11_gainBy 30 [l0, l1, l2, vI x] (vI x :: st) h Q := tA_pure mB_X11_gainBy dX11_gainBy_29 rfl
theorem rX11_gainBy_30 : tA sc iX11_gainBy 30 ls (vI x :: st) h Q = tA sc iX11_gainBy 31 ls (vL x.toInt64 :: st) h Q := tA_pure mB_X11_gainBy dX11_gainBy_30 rfl
theorem rX11_gainBy_31 : tA sc iX11_gainBy 31 ls (vL w :: vL u :: st) h Q = tA sc iX11_gainBy 32 ls (vL (u * w) :: st) h Q := tA_pure mB_X11_gainBy dX11_gainBy_31 rfl
theorem rX11_gainBy_32 : tA sc iX11_gainBy 32 ls (vL w :: vL u :: st) h Q = tA sc iX11_gainBy 33 ls (vL (u - w) :: st) h Q := tA_pure mB_X11_gainBy dX11_gainBy_32 rfl
theorem rX11_gainBy_33 : tA sc iX11_gainBy 33 ls [vL u] h Q = Q (some (vL u)) h := tA_ret mB_X11_gainBy dX11_gainBy_33 (fun _ _ _ _ => rfl) (fun _ _ _ => rfl) (fun _ _ _ _ _ => rfl) rfl rfl
theorem mB_X11_gain : mB iX11_gain = cX11_gain := rfl
theorem mO_X11_gain : mO iX11_gain = 11 := rfl
theorem rX11_gain_0 : tA sc iX11_gain 0 [vR r, l1, l2, l3] st h Q = tA sc iX11_gain 1 [vR r, l1, l2, l3] (vR r :: st) h Q := tA_pure mB_X11_gain dX11_gain_0 rfl
theorem rX11_gain_1 : tA sc iX11_gain 1 [l0, vI x, l2, l3] st h Q = tA sc iX11_gain 2 [l0, vI x, l2, l3] (vI x :: st) h Q := tA_pure mB_X11_gain dX11_gain_1 rfl
theorem rX11_gain_2 (hci : tcl h o = some 11) : tA sc iX11_gain 2 ls [vI p0, vR (some o)] h Q = tA sc iX11_isComing 0 [vR (some o), vI p0] [] h (fun v h1 => tA sc iX11_gain 5 ls (tpu v []) h1 Q) := tA_cV mB_X11_gain mO_X11_gain dX11_gain_2 cT_11_300 rfl (Nat.le_of_ble_eq_true rfl) rfl rfl rfl hci
theorem rX11_gain_5 : tA sc iX11_gain 5 ls (vI x :: st) h Q = (if x = 0 then tA sc iX11_gain 57 ls st h Q else tA sc iX11_gain 8 ls st h Q) := tA_if mB_X11_gain dX11_gain_5 (fun _ _ _ _ => rfl) rfl
theorem rX11_gain_8 : tA sc iX11_gain 8 [l0, l1, vI x, l3] st h Q = tA sc iX11_gain 9 [l0, l1, vI x, l3] (vI x :: st) h Q := tA_pure mB_X11_gain dX11_gain_8 rfl
theorem rX11_gain_9 : tA sc iX11_gain 9 ls [vI p0] h Q = tA sc iX11_isWeather 0 [vI p0] [] h (fun v h1 => tA sc iX11_gain 12 ls (tpu v []) h1 Q) := tA_cS mB_X11_gain mO_X11_gain dX11_gain_9 cT_11_219 ⟨Nat.le_of_ble_eq_true rfl, Nat.le_of_ble_eq_true rfl⟩ rfl rfl rfl rfl
theorem rX11_gain_12 : tA sc iX11_gain 12 ls (vI x :: st) h Q = (if x = 0 then tA sc iX11_gain 57 ls st h Q else tA sc iX11_gain 15 ls st h Q) := tA_if mB_X11_gain dX11_gain_12 (fun _ _ _ _ => rfl) rfl
theorem rX11_gain_15 : tA sc iX11_gain 15 [l0, l1, l2, vI x] st h Q = tA sc iX11_gain 16 [l0, l1, l2, vI x] (vI x :: st) h Q := tA_pure mB_X11_gain dX11_gain_15 rfl
theorem rX11_gain_16 : tA sc iX11_gain 16 ls [vI p0] h Q = tA sc iX11_isSide 0 [vI p0] [] h (fun v h1 => tA sc iX11_gain 19 ls (tpu v []) h1 Q) := tA_cS mB_X11_gain mO_X11_gain dX11_gain_16 cT_11_303 ⟨Nat.le_of_ble_eq_true rfl, Nat.le_of_ble_eq_true rfl⟩ rfl rfl rfl rfl
theorem rX11_gain_19 : tA sc iX11_gain 19 ls (vI x :: st) h Q = (if x = 0 then tA sc iX11_gain 57 ls st h Q else tA sc iX11_gain 22 ls st h Q) := tA_if mB_X11_gain dX11_gain_19 (fun _ _ _ _ => rfl) rfl
theorem rX11_gain_22 : tA sc iX11_gain 22 [vR r, l1, l2, l3] st h Q = tA sc iX11_gain 23 [vR r, l1, l2, l3] (vR r :: st) h Q := tA_pure mB_X11_gain dX11_gain_22 rfl
theorem rX11_gain_23 : tA sc iX11_gain 23 [l0, vI x, l2, l3] st h Q = tA sc iX11_gain 24 [l0, vI x, l2, l3] (vI x :: st) h Q := tA_pure mB_X11_gain dX11_gain_23 rfl
theorem rX11_gain_24 : tA sc iX11_gain 24 ls [vI p0, s0] h Q = tA sc iX11_isDay 0 [vI p0] [] h (fun v h1 => tA sc iX11_gain 27 ls (tpu v [s0]) h1 Q) := tA_cS mB_X11_gain mO_X11_gain dX11_gain_24 cT_11_216 ⟨Nat.le_of_ble_eq_true rfl, Nat.le_of_ble_eq_true rfl⟩ rfl rfl rfl rfl
theorem rX11_gain_27 : tA sc iX11_gain 27 ls (vI x :: st) h Q = (if x = 0 then tA sc iX11_gain 34 ls st h Q else tA sc iX11_gain 30 ls st h Q) := tA_if mB_X11_gain dX11_gain_27 (fun _ _ _ _ => rfl) rfl
theorem rX11_gain_30 : tA sc iX11_gain 30 [l0, vI x, l2, l3] st h Q = tA sc iX11_gain 31 [l0, vI x, l2, l3] (vI x :: st) h Q := tA_pure mB_X11_gain dX11_gain_30 rfl
theorem rX11_gain_31 : tA sc iX11_gain 31 ls st h Q = tA sc iX11_gain 35 ls st h Q := tA_jump mB_X11_gain dX11_gain_31 (fun _ _ _ _ => rfl) rfl
theorem rX11_gain_34 : tA sc iX11_gain 34 ls st h Q = tA sc iX11_gain 35 ls (vI (0) :: st) h Q := tA_pure mB_X11_gain dX11_gain_34 rfl
theorem rX11_gain_35 (hci : tcl h o = some 11) : tA sc iX11_gain 35 ls [vI p0, vR (some o)] h Q = tA sc iX11_saidOf 0 [vR (some o), vI p0, vU, vU] [] h (fun v h1 => tA sc iX11_gain 38 ls (tpu v []) h1 Q) := tA_cV mB_X11_gain mO_X11_gain dX11_gain_35 cT_11_244 rfl (Nat.le_of_ble_eq_true rfl) rfl rfl rfl hci
theorem rX11_gain_38 : tA sc iX11_gain 38 [l0, l1, vI x, l3] st h Q = tA sc iX11_gain 39 [l0, l1, vI x, l3] (vI x :: st) h Q := tA_pure mB_X11_gain dX11_gain_38 rfl
theorem rX11_gain_39 : tA sc iX11_gain 39 ls [vI p0, s0] h Q = tA sc iX11_isWeather 0 [vI p0] [] h (fun v h1 => tA sc iX11_gain 42 ls (tpu v [s0]) h1 Q) := tA_cS mB_X11_gain mO_X11_gain dX11_gain_39 cT_11_219 ⟨Nat.le_of_ble_eq_true rfl, Nat.le_of_ble_eq_true rfl⟩ rfl rfl rfl rfl
theorem rX11_gain_42 : tA sc iX11_gain 42 ls (vI x :: st) h Q = (if x = 0 then tA sc iX11_gain 49 ls st h Q else tA sc iX11_gain 45 ls st h Q) := tA_if mB_X11_gain dX11_gain_42 (fun _ _ _ _ => rfl) rfl
theorem rX11_gain_45 : tA sc iX11_gain 45 [l0, l1, vI x, l3] st h Q = tA sc iX11_gain 46 [l0, l1, vI x, l3] (vI x :: st) h Q := tA_pure mB_X11_gain dX11_gain_45 rfl
theorem rX11_gain_46 : tA sc iX11_gain 46 ls st h Q = tA sc iX11_gain 50 ls st h Q := tA_jump mB_X11_gain dX11_gain_46 (fun _ _ _ _ => rfl) rfl
theorem rX11_gain_49 : tA sc iX11_gain 49 ls st h Q = tA sc iX11_gain 50 ls (vI (0) :: st) h Q := tA_pure mB_X11_gain dX11_gain_49 rfl
theorem rX11_gain_50 : tA sc iX11_gain 50 ls (vI y :: vI x :: st) h Q = tA sc iX11_gain 51 ls (vI (x >>> (y &&& 31)) :: st) h Q := tA_pure mB_X11_gain dX11_gain_50 rfl
theorem rX11_gain_51 : tA sc iX11_gain 51 ls st h Q = tA sc iX11_gain 52 ls (vI (1) :: st) h Q := tA_pure mB_X11_gain dX11_gain_51 rfl
theorem rX11_gain_52 : tA sc iX11_gain 52 ls (vI y :: vI x :: st) h Q = tA sc iX11_gain 53 ls (vI (x &&& y) :: st) h Q := tA_pure mB_X11_gain dX11_gain_52 rfl
theorem rX11_gain_53 : tA sc iX11_gain 53 ls st h Q = tA sc iX11_gain 54 ls (vI (1) :: st) h Q := tA_pure mB_X11_gain dX11_gain_53 rfl
theorem rX11_gain_54 : tA sc iX11_gain 54 ls (vI y :: vI x :: st) h Q = (if ¬ x = y then tA sc iX11_gain 61 ls st h Q else tA sc iX11_gain 57 ls st h Q) := tA_if mB_X11_gain dX11_gain_54 (fun _ _ _ _ => rfl) rfl
theorem rX11_gain_57 : tA sc iX11_gain 57 ls st h Q = tA sc iX11_gain 60 ls (vL (-1000000000000) :: st) h Q := tA_pure mB_X11_gain dX11_gain_57 rfl
theorem rX11_gain_60 : tA sc iX11_gain 60 ls [vL u] h Q = Q (some (vL u)) h := tA_ret mB_X11_gain dX11_gain_60 (fun _ _ _ _ => rfl) (fun _ _ _ => rfl) (fun _ _ _ _ _ => rfl) rfl rfl
theorem rX11_gain_61 : tA sc iX11_gain 61 [vR r, l1, l2, l3] st h Q = tA sc iX11_gain 62 [vR r, l1, l2, l3] (vR r :: st) h Q := tA_pure mB_X11_gain dX11_gain_61 rfl
theorem rX11_gain_62 : tA sc iX11_gain 62 [vR r, l1, l2, l3] st h Q = tA sc iX11_gain 63 [vR r, l1, l2, l3] (vR r :: st) h Q := tA_pure mB_X11_gain dX11_gain_62 rfl
theorem rX11_gain_63 : tA sc iX11_gain 63 [l0, vI x, l2, l3] st h Q = tA sc iX11_gain 64 [l0, vI x, l2, l3] (vI x :: st) h Q := tA_pure mB_X11_gain dX11_gain_63 rfl
theorem rX11_gain_64 : tA sc iX11_gain 64 [vR r, l1, l2, l3] st h Q = tA sc iX11_gain 65 [vR r, l1, l2, l3] (vR r :: st) h Q := tA_pure mB_X11_gain dX11_gain_64 rfl
theorem rX11_gain_65 : tA sc iX11_gain 65 [l0, vI x, l2, l3] st h Q = tA sc iX11_gain 66 [l0, vI x, l2, l3] (vI x :: st) h Q := tA_pure mB_X11_gain dX11_gain_65 rfl
theorem rX11_gain_66 : tA sc iX11_gain 66 [l0, l1, vI x, l3] st h Q = tA sc iX11_gain 67 [l0, l1, vI x, l3] (vI x :: st) h Q := tA_pure mB_X11_gain dX11_gain_66 rfl
theorem rX11_gain_67 (hci : tcl h o = some 11) : tA sc iX11_gain 67 ls [vI p1, vI p0, vR (some o), s0, s1, s2] h Q = tA sc iX11_weightOf 0 [vR (some o), vI p0, vI p1] [] h (fun v h1 => tA sc iX11_gain 70 ls (tpu v [s0, s1, s2]) h1 Q) := tA_cV mB_X11_gain mO_X11_gain dX11_gain_67 cT_11_228 rfl (Nat.le_of_ble_eq_true rfl) rfl rfl rfl hci
theorem rX11_gain_70 : tA sc iX11_gain 70 [vR r, l1, l2, l3] st h Q = tA sc iX11_gain 71 [vR r, l1, l2, l3] (vR r :: st) h Q := tA_pure mB_X11_gain dX11_gain_70 rfl
theorem rX11_gain_71 : tA sc iX11_gain 71 [l0, vI x, l2, l3] st h Q = tA sc iX11_gain 72 [l0, vI x, l2, l3] (vI x :: st) h Q := tA_pure mB_X11_gain dX11_gain_71 rfl
theorem rX11_gain_72 (hci : tcl h o = some 11) : tA sc iX11_gain 72 ls [vI p0, vR (some o), s0, s1, s2, s3] h Q = tA sc iX11_allOf 0 [vR (some o), vI p0] [] h (fun v h1 => tA sc iX11_gain 75 ls (tpu v [s0, s1, s2, s3]) h1 Q) := tA_cV mB_X11_gain mO_X11_gain dX11_gain_72 cT_11_277 rfl (Nat.le_of_ble_eq_true rfl) rfl rfl rfl hci
theorem rX11_gain_75 (hci : tcl h o = some 11) : tA sc iX11_gain 75 ls [vI p2, vI p1, vI p0, vR (some o), s0] h Q = tA sc iX11_gainBy 0 [vR (some o), vI p0, vI p1, vI p2] [] h (fun v h1 => tA sc iX11_gain 78 ls (tpu v [s0]) h1 Q) := tA_cV mB_X11_gain mO_X11_gain dX11_gain_75 cT_11_316 rfl (Nat.le_of_ble_eq_true rfl) rfl rfl rfl hci
theorem rX11_gain_78 : tA sc iX11_gain 78 [vR r, l1, l2, l3] st h Q = tA sc iX11_gain 79 [vR r, l1, l2, l3] (vR r :: st) h Q := tA_pure mB_X11_gain dX11_gain_78 rfl
theorem rX11_gain_79 : tA sc iX11_gain 79 [l0, vI x, l2, l3] st h Q = tA sc iX11_gain 80 [l0, vI x, l2, l3] (vI x :: st) h Q := tA_pure mB_X11_gain dX11_gain_79 rfl
theorem rX11_gain_80 (hci : tcl h o = some 11) : tA sc iX11_gain 80 ls [vI p0, vR (some o), s0, s1] h Q = tA sc iX11_allOf 0 [vR (some o), vI p0] [] h (fun v h1 => tA sc iX11_gain 83 ls (tpu v [s0, s1]) h1 Q) := tA_cV mB_X11_gain mO_X11_gain dX11_gain_80 cT_11_277 rfl (Nat.le_of_ble_eq_true rfl) rfl rfl rfl hci
theorem rX11_gain_83 : tA sc iX11_gain 83 ls (vI x :: st) h Q = tA sc iX11_gain 84 ls (vL x.toInt64 :: st) h Q := tA_pure mB_X11_gain dX11_gain_83 rfl
theorem rX11_gain_84 (hci : tcl h o = some 11) : tA sc iX11_gain 84 ls [vL q1, vL q0, vR (some o)] h Q = tA sc iX11_lowest 0 [vR (some o), vL q0, vU, vL q1, vU, vU, vU, vU, vU, vU, vU] [] h (fun v h1 => tA sc iX11_gain 87 ls (tpu v []) h1 Q) := tA_cV mB_X11_gain mO_X11_gain dX11_gain_84 cT_11_306 rfl (Nat.le_of_ble_eq_true rfl) rfl rfl rfl hci
theorem rX11_gain_87 : tA sc iX11_gain 87 [vR r, l1, l2, l3] st h Q = tA sc iX11_gain 88 [vR r, l1, l2, l3] (vR r :: st) h Q := tA_pure mB_X11_gain dX11_gain_87 rfl
theorem rX11_gain_88 : tA sc iX11_gain 88 [l0, l1, l2, vI x] st h Q = tA sc iX11_gain 89 [l0, l1, l2, vI x] (vI x :: st) h Q := tA_pure mB_X11_gain dX11_gain_88 rfl
theorem rX11_gain_89 (hci : tcl h o = some 11) : tA sc iX11_gain 89 ls [vI p0, vR (some o)] h Q = tA sc iX11_toldPart 0 [vR (some o), vI p0] [] h (fun v h1 => tA sc iX11_gain 92 ls (tpu v []) h1 Q) := tA_cV mB_X11_gain mO_X11_gain dX11_gain_89 cT_11_310 rfl (Nat.le_of_ble_eq_true rfl) rfl rfl rfl hci
theorem rX11_gain_92 : tA sc iX11_gain 92 ls [vL u] h Q = Q (some (vL u)) h := tA_ret mB_X11_gain dX11_gain_92 (fun _ _ _ _ => rfl) (fun _ _ _ => rfl) (fun _ _ _ _ _ => rfl) rfl rfl
theorem mB_X11_bestBy : mB iX11_bestBy = cX11_bestBy := rfl
theorem mO_X11_bestBy : mO iX11_bestBy = 11 := rfl
theorem rX11_bestBy_0 : tA sc iX11_bestBy 0 [vR r, l1, l2, l3, l4, l5, l6, l7, l8] st h Q = tA sc iX11_bestBy 1 [vR r, l1, l2, l3, l4, l5, l6, l7, l8] (vR r :: st) h Q := tA_pure mB_X11_bestBy dX11_bestBy_0 rfl
theorem rX11_bestBy_1 : tA sc iX11_bestBy 1 [l0, vI x, l2, l3, l4, l5, l6, l7, l8] st h Q = tA sc iX11_bestBy 2 [l0, vI x, l2, l3, l4, l5, l6, l7, l8] (vI x :: st) h Q := tA_pure mB_X11_bestBy dX11_bestBy_1 rfl
theorem rX11_bestBy_2 (hci : tcl h o = some 11) : tA sc iX11_bestBy 2 ls [vI p0, vR (some o)] h Q = tA sc iX11_plainAll 0 [vR (some o), vI p0] [] h (fun v h1 => tA sc iX11_bestBy 5 ls (tpu v []) h1 Q) := tA_cV mB_X11_bestBy mO_X11_bestBy dX11_bestBy_2 cT_11_222 rfl (Nat.le_of_ble_eq_true rfl) rfl rfl rfl hci
theorem rX11_bestBy_5 : tA sc iX11_bestBy 5 [vR r, l1, l2, l3, l4, l5, l6, l7, l8] st h Q = tA sc iX11_bestBy 6 [vR r, l1, l2, l3, l4, l5, l6, l7, l8] (vR r :: st) h Q := tA_pure mB_X11_bestBy dX11_bestBy_5 rfl
theorem rX11_bestBy_6 : tA sc iX11_bestBy 6 ls (vR (some o) :: st) h Q = oz (tget h o [11] 6) (fun v => tA sc iX11_bestBy 9 ls (v :: st) h Q) := tA_get mB_X11_bestBy mO_X11_bestBy dX11_bestBy_6 fT_11_22
theorem rX11_bestBy_9 : tA sc iX11_bestBy 9 ls st h Q = tA sc iX11_bestBy 10 ls (vI (3) :: st) h Q := tA_pure mB_X11_bestBy dX11_bestBy_9 rfl
theorem rX11_bestBy_10 : tA sc iX11_bestBy 10 ls (vI j :: vR (some a) :: st) h Q = oz (tald sc h 0 a j) (fun v => tA sc iX11_bestBy 11 ls (vI v :: st) h Q) := tA_iald mB_X11_bestBy dX11_bestBy_10
theorem rX11_bestBy_11 : tA sc iX11_bestBy 11 ls (vI y :: vI x :: st) h Q = tA sc iX11_bestBy 12 ls (vI (x + y) :: st) h Q := tA_pure mB_X11_bestBy dX11_bestBy_11 rfl
theorem rX11_bestBy_12 : tA sc iX11_bestBy 12 [l0, l1, l2, l3, l4, l5, l6, l7, l8] (vI x :: st) h Q = tA sc iX11_bestBy 13 [l0, l1, tclr l2, vI x, l4, l5, l6, l7, l8] st h Q := tA_pure mB_X11_bestBy dX11_bestBy_12 rfl
theorem rX11_bestBy_13 : tA sc iX11_bestBy 13 ls st h Q = tA sc iX11_bestBy 14 ls (vL 0 :: st) h Q := tA_pure mB_X11_bestBy dX11_bestBy_13 rfl
theorem rX11_bestBy_14 : tA sc iX11_bestBy 14 [l0, l1, l2, l3, l4, l5, l6, l7, l8] (vL u :: st) h Q = tA sc iX11_bestBy 16 [l0, l1, l2, tclr l3, vL u, vU, l6, l7, l8] st h Q := tA_pure mB_X11_bestBy dX11_bestBy_14 rfl
theorem rX11_bestBy_16 : tA sc iX11_bestBy 16 ls st h Q = tA sc iX11_bestBy 17 ls (vI (0) :: st) h Q := tA_pure mB_X11_bestBy dX11_bestBy_16 rfl
theorem rX11_bestBy_17 : tA sc iX11_bestBy 17 [l0, l1, l2, l3, l4, l5, l6, l7, l8] (vI x :: st) h Q = tA sc iX11_bestBy 19 [l0, l1, l2, l3, l4, tclr l5, vI x, l7, l8] st h Q := tA_pure mB_X11_bestBy dX11_bestBy_17 rfl
theorem rX11_bestBy_19 : tA sc iX11_bestBy 19 [l0, l1, l2, l3, l4, l5, vI x, l7, l8] st h Q = tA sc iX11_bestBy 21 [l0, l1, l2, l3, l4, l5, vI x, l7, l8] (vI x :: st) h Q := tA_pure mB_X11_bestBy dX11_bestBy_19 rfl
theorem rX11_bestBy_21 : tA sc iX11_bestBy 21 ls st h Q = tA sc iX11_bestBy 22 ls (vI (4) :: st) h Q := tA_pure mB_X11_bestBy dX11_bestBy_21 rfl
theorem rX11_bestBy_22 : tA sc iX11_bestBy 22 ls (vI y :: vI x :: st) h Q = (if y ≤ x then tA sc iX11_bestBy 97 ls st h Q else tA sc iX11_bestBy 25 ls st h Q) := tA_if mB_X11_bestBy dX11_bestBy_22 (fun _ _ _ _ => rfl) rfl
theorem rX11_bestBy_25 : tA sc iX11_bestBy 25 [vR r, l1, l2, l3, l4, l5, l6, l7, l8] st h Q = tA sc iX11_bestBy 26 [vR r, l1, l2, l3, l4, l5, l6, l7, l8] (vR r :: st) h Q := tA_pure mB_X11_bestBy dX11_bestBy_25 rfl
theorem rX11_bestBy_26 : tA sc iX11_bestBy 26 [l0, vI x, l2, l3, l4, l5, l6, l7, l8] st h Q = tA sc iX11_bestBy 27 [l0, vI x, l2, l3, l4, l5, l6, l7, l8] (vI x :: st) h Q := tA_pure mB_X11_bestBy dX11_bestBy_26 rfl
theorem rX11_bestBy_27 : tA sc iX11_bestBy 27 [vR r, l1, l2, l3, l4, l5, l6, l7, l8] st h Q = tA sc iX11_bestBy 28 [vR r, l1, l2, l3, l4, l5, l6, l7, l8] (vR r :: st) h Q := tA_pure mB_X11_bestBy dX11_bestBy_27 rfl
theorem rX11_bestBy_28 : tA sc iX11_bestBy 28 ls (vR (some o) :: st) h Q = oz (tget h o [11] 3) (fun v => tA sc iX11_bestBy 31 ls (v :: st) h Q) := tA_get mB_X11_bestBy mO_X11_bestBy dX11_bestBy_28 fT_11_16
theorem rX11_bestBy_31 : tA sc iX11_bestBy 31 ls st h Q = tA sc iX11_bestBy 32 ls (vI (4) :: st) h Q := tA_pure mB_X11_bestBy dX11_bestBy_31 rfl
theorem rX11_bestBy_32 : tA sc iX11_bestBy 32 [l0, vI x, l2, l3, l4, l5, l6, l7, l8] st h Q = tA sc iX11_bestBy 33 [l0, vI x, l2, l3, l4, l5, l6, l7, l8] (vI x :: st) h Q := tA_pure mB_X11_bestBy dX11_bestBy_32 rfl
theorem rX11_bestBy_33 : tA sc iX11_bestBy 33 ls (vI y :: vI x :: st) h Q = tA sc iX11_bestBy 34 ls (vI (x * y) :: st) h Q := tA_pure mB_X11_bestBy dX11_bestBy_33 rfl
theorem rX11_bestBy_34 : tA sc iX11_bestBy 34 [l0, l1, l2, l3, l4, l5, vI x, l7, l8] st h Q = tA sc iX11_bestBy 36 [l0, l1, l2, l3, l4, l5, vI x, l7, l8] (vI x :: st) h Q := tA_pure mB_X11_bestBy dX11_bestBy_34 rfl
theorem rX11_bestBy_36 : tA sc iX11_bestBy 36 ls (vI y :: vI x :: st) h Q = tA sc iX11_bestBy 37 ls (vI (x + y) :: st) h Q := tA_pure mB_X11_bestBy dX11_bestBy_36 rfl
theorem rX11_bestBy_37 : tA sc iX11_bestBy 37 ls (vI j :: vR (some a) :: st) h Q = oz (tald sc h 0 a j) (fun v => tA sc iX11_bestBy 38 ls (vI v :: st) h Q) := tA_iald mB_X11_bestBy dX11_bestBy_37
theorem rX11_bestBy_38 : tA sc iX11_bestBy 38 [l0, l1, l2, l3, l4, l5, vI x, l7, l8] st h Q = tA sc iX11_bestBy 40 [l0, l1, l2, l3, l4, l5, vI x, l7, l8] (vI x :: st) h Q := tA_pure mB_X11_bestBy dX11_bestBy_38 rfl
theorem rX11_bestBy_40 : tA sc iX11_bestBy 40 [l0, l1, vI x, l3, l4, l5, l6, l7, l8] st h Q = tA sc iX11_bestBy 41 [l0, l1, vI x, l3, l4, l5, l6, l7, l8] (vI x :: st) h Q := tA_pure mB_X11_bestBy dX11_bestBy_40 rfl
theorem rX11_bestBy_41 : tA sc iX11_bestBy 41 ls (vI y :: vI x :: st) h Q = (if ¬ x = y then tA sc iX11_bestBy 53 ls st h Q else tA sc iX11_bestBy 44 ls st h Q) := tA_if mB_X11_bestBy dX11_bestBy_41 (fun _ _ _ _ => rfl) rfl
theorem rX11_bestBy_44 : tA sc iX11_bestBy 44 [vR r, l1, l2, l3, l4, l5, l6, l7, l8] st h Q = tA sc iX11_bestBy 45 [vR r, l1, l2, l3, l4, l5, l6, l7, l8] (vR r :: st) h Q := tA_pure mB_X11_bestBy dX11_bestBy_44 rfl
theorem rX11_bestBy_45 : tA sc iX11_bestBy 45 ls (vR (some o) :: st) h Q = oz (tget h o [11] 6) (fun v => tA sc iX11_bestBy 48 ls (v :: st) h Q) := tA_get mB_X11_bestBy mO_X11_bestBy dX11_bestBy_45 fT_11_22
theorem rX11_bestBy_48 : tA sc iX11_bestBy 48 ls st h Q = tA sc iX11_bestBy 49 ls (vI (3) :: st) h Q := tA_pure mB_X11_bestBy dX11_bestBy_48 rfl
theorem rX11_bestBy_49 : tA sc iX11_bestBy 49 ls (vI j :: vR (some a) :: st) h Q = oz (tald sc h 0 a j) (fun v => tA sc iX11_bestBy 50 ls (vI v :: st) h Q) := tA_iald mB_X11_bestBy dX11_bestBy_49
theorem rX11_bestBy_50 : tA sc iX11_bestBy 50 ls st h Q = tA sc iX11_bestBy 54 ls st h Q := tA_jump mB_X11_bestBy dX11_bestBy_50 (fun _ _ _ _ => rfl) rfl
theorem rX11_bestBy_53 : tA sc iX11_bestBy 53 ls st h Q = tA sc iX11_bestBy 54 ls (vI (0) :: st) h Q := tA_pure mB_X11_bestBy dX11_bestBy_53 rfl
theorem rX11_bestBy_54 : tA sc iX11_bestBy 54 ls (vI y :: vI x :: st) h Q = tA sc iX11_bestBy 55 ls (vI (x + y) :: st) h Q := tA_pure mB_X11_bestBy dX11_bestBy_54 rfl
theorem rX11_bestBy_55 : tA sc iX11_bestBy 55 [l0, l1, l2, vI x, l4, l5, l6, l7, l8] st h Q = tA sc iX11_bestBy 56 [l0, l1, l2, vI x, l4, l5, l6, l7, l8] (vI x :: st) h Q := tA_pure mB_X11_bestBy dX11_bestBy_55 rfl
theorem rX11_bestBy_56 (hci : tcl h o = some 11) : tA sc iX11_bestBy 56 ls [vI p2, vI p1, vI p0, vR (some o)] h Q = tA sc iX11_gainBy 0 [vR (some o), vI p0, vI p1, vI p2] [] h (fun v h1 => tA sc iX11_bestBy 59 ls (tpu v []) h1 Q) := tA_cV mB_X11_bestBy mO_X11_bestBy dX11_bestBy_56 cT_11_316 rfl (Nat.le_of_ble_eq_true rfl) rfl rfl rfl hci
theorem rX11_bestBy_59 : tA sc iX11_bestBy 59 [l0, l1, l2, l3, l4, l5, l6, l7, l8] (vL u :: st) h Q = tA sc iX11_bestBy 61 [l0, l1, l2, l3, l4, l5, tclr l6, vL u, vU] st h Q := tA_pure mB_X11_bestBy dX11_bestBy_59 rfl
theorem rX11_bestBy_61 : tA sc iX11_bestBy 61 [vR r, l1, l2, l3, l4, l5, l6, l7, l8] st h Q = tA sc iX11_bestBy 62 [vR r, l1, l2, l3, l4, l5, l6, l7, l8] (vR r :: st) h Q := tA_pure mB_X11_bestBy dX11_bestBy_61 rfl
theorem rX11_bestBy_62 : tA sc iX11_bestBy 62 [l0, vI x, l2, l3, l4, l5, l6, l7, l8] st h Q = tA sc iX11_bestBy 63 [l0, vI x, l2, l3, l4, l5, l6, l7, l8] (vI x :: st) h Q := tA_pure mB_X11_bestBy dX11_bestBy_62 rfl
theorem rX11_bestBy_63 (hci : tcl h o = some 11) : tA sc iX11_bestBy 63 ls [vI p0, vR (some o)] h Q = tA sc iX11_saidOf 0 [vR (some o), vI p0, vU, vU] [] h (fun v h1 => tA sc iX11_bestBy 66 ls (tpu v []) h1 Q) := tA_cV mB_X11_bestBy mO_X11_bestBy dX11_bestBy_63 cT_11_244 rfl (Nat.le_of_ble_eq_true rfl) rfl rfl rfl hci
theorem rX11_bestBy_66 : tA sc iX11_bestBy 66 [l0, l1, l2, l3, l4, l5, vI x, l7, l8] st h Q = tA sc iX11_bestBy 68 [l0, l1, l2, l3, l4, l5, vI x, l7, l8] (vI x :: st) h Q := tA_pure mB_X11_bestBy dX11_bestBy_66 rfl
theorem rX11_bestBy_68 : tA sc iX11_bestBy 68 ls (vI y :: vI x :: st) h Q = tA sc iX11_bestBy 69 ls (vI (x >>> (y &&& 31)) :: st) h Q := tA_pure mB_X11_bestBy dX11_bestBy_68 rfl
theorem rX11_bestBy_69 : tA sc iX11_bestBy 69 ls st h Q = tA sc iX11_bestBy 70 ls (vI (1) :: st) h Q := tA_pure mB_X11_bestBy dX11_bestBy_69 rfl
theorem rX11_bestBy_70 : tA sc iX11_bestBy 70 ls (vI y :: vI x :: st) h Q = tA sc iX11_bestBy 71 ls (vI (x &&& y) :: st) h Q := tA_pure mB_X11_bestBy dX11_bestBy_70 rfl
theorem rX11_bestBy_71 : tA sc iX11_bestBy 71 ls (vI x :: st) h Q = (if ¬ x = 0 then tA sc iX11_bestBy 87 ls st h Q else tA sc iX11_bestBy 74 ls st h Q) := tA_if mB_X11_bestBy dX11_bestBy_71 (fun _ _ _ _ => rfl) rfl
theorem rX11_bestBy_74 : tA sc iX11_bestBy 74 [l0, l1, l2, l3, l4, l5, l6, vL u, l8] st h Q = tA sc iX11_bestBy 76 [l0, l1, l2, l3, l4, l5, l6, vL u, l8] (vL u :: st) h Q := tA_pure mB_X11_bestBy dX11_bestBy_74 rfl
theorem rX11_bestBy_76 : tA sc iX11_bestBy 76 [l0, l1, l2, l3, vL u, l5, l6, l7, l8] st h Q = tA sc iX11_bestBy 78 [l0, l1, l2, l3, vL u, l5, l6, l7, l8] (vL u :: st) h Q := tA_pure mB_X11_bestBy dX11_bestBy_76 rfl
theorem rX11_bestBy_78 : tA sc iX11_bestBy 78 ls (vL w :: vL u :: st) h Q = tA sc iX11_bestBy 79 ls (vI (lg_cmp u w) :: st) h Q := tA_pure mB_X11_bestBy dX11_bestBy_78 rfl
theorem rX11_bestBy_79 : tA sc iX11_bestBy 79 ls (vI x :: st) h Q = (if x ≤ 0 then tA sc iX11_bestBy 87 ls st h Q else tA sc iX11_bestBy 82 ls st h Q) := tA_if mB_X11_bestBy dX11_bestBy_79 (fun _ _ _ _ => rfl) rfl
theorem rX11_bestBy_82 : tA sc iX11_bestBy 82 [l0, l1, l2, l3, l4, l5, l6, vL u, l8] st h Q = tA sc iX11_bestBy 84 [l0, l1, l2, l3, l4, l5, l6, vL u, l8] (vL u :: st) h Q := tA_pure mB_X11_bestBy dX11_bestBy_82 rfl
theorem rX11_bestBy_84 : tA sc iX11_bestBy 84 ls st h Q = tA sc iX11_bestBy 89 ls st h Q := tA_jump mB_X11_bestBy dX11_bestBy_84 (fun _ _ _ _ => rfl) rfl
theorem rX11_bestBy_87 : tA sc iX11_bestBy 87 [l0, l1, l2, l3, vL u, l5, l6, l7, l8] st h Q = tA sc iX11_bestBy 89 [l0, l1, l2, l3, vL u, l5, l6, l7, l8] (vL u :: st) h Q := tA_pure mB_X11_bestBy dX11_bestBy_87 rfl
theorem rX11_bestBy_89 : tA sc iX11_bestBy 89 [l0, l1, l2, l3, l4, l5, l6, l7, l8] (vL u :: st) h Q = tA sc iX11_bestBy 91 [l0, l1, l2, tclr l3, vL u, vU, l6, l7, l8] st h Q := tA_pure mB_X11_bestBy dX11_bestBy_89 rfl
theorem rX11_bestBy_91 : tA sc iX11_bestBy 91 [l0, l1, l2, l3, l4, l5, vI x, l7, l8] st h Q = tA sc iX11_bestBy 94 [l0, l1, l2, l3, l4, tclr l5, vI (x + 1), l7, l8] st h Q := tA_pure mB_X11_bestBy dX11_bestBy_91 rfl
theorem rX11_bestBy_94 : tA sc iX11_bestBy 94 ls st h Q = tA sc iX11_bestBy 19 ls st h Q := tA_jump mB_X11_bestBy dX11_bestBy_94 (fun _ _ _ _ => rfl) rfl
theorem rX11_bestBy_97 : tA sc iX11_bestBy 97 [l0, l1, l2, l3, vL u, l5, l6, l7, l8] st h Q = tA sc iX11_bestBy 99 [l0, l1, l2, l3, vL u, l5, l6, l7, l8] (vL u :: st) h Q := tA_pure mB_X11_bestBy dX11_bestBy_97 rfl
theorem rX11_bestBy_99 : tA sc iX11_bestBy 99 ls [vL u] h Q = Q (some (vL u)) h := tA_ret mB_X11_bestBy dX11_bestBy_99 (fun _ _ _ _ => rfl) (fun _ _ _ => rfl) (fun _ _ _ _ _ => rfl) rfl rfl
theorem mB_X11_waited : mB iX11_waited = cX11_waited := rfl
theorem mO_X11_waited : mO iX11_waited = 11 := rfl
theorem rX11_waited_0 : tA sc iX11_waited 0 [l0, vI x, l2, l3, l4, l5] st h Q = tA sc iX11_waited 1 [l0, vI x, l2, l3, l4, l5] (vI x :: st) h Q := tA_pure mB_X11_waited dX11_waited_0 rfl
theorem rX11_waited_1 : tA sc iX11_waited 1 ls [vI p0] h Q = tA sc iX11_isDay 0 [vI p0] [] h (fun v h1 => tA sc iX11_waited 4 ls (tpu v []) h1 Q) := tA_cS mB_X11_waited mO_X11_waited dX11_waited_1 cT_11_216 ⟨Nat.le_of_ble_eq_true rfl, Nat.le_of_ble_eq_true rfl⟩ rfl rfl rfl rfl
theorem rX11_waited_4 : tA sc iX11_waited 4 ls (vI x :: st) h Q = (if x = 0 then tA sc iX11_waited 48 ls st h Q else tA sc iX11_waited 7 ls st h Q) := tA_if mB_X11_waited dX11_waited_4 (fun _ _ _ _ => rfl) rfl
theorem rX11_waited_7 : tA sc iX11_waited 7 [l0, vI x, l2, l3, l4, l5] st h Q = tA sc iX11_waited 8 [l0, vI x, l2, l3, l4, l5] (vI x :: st) h Q := tA_pure mB_X11_waited dX11_waited_7 rfl
theorem rX11_waited_8 : tA sc iX11_waited 8 [vR r, l1, l2, l3, l4, l5] st h Q = tA sc iX11_waited 9 [vR r, l1, l2, l3, l4, l5] (vR r :: st) h Q := tA_pure mB_X11_waited dX11_waited_8 rfl
theorem rX11_waited_9 : tA sc iX11_waited 9 ls (vR (some o) :: st) h Q = oz (tget h o [11] 0) (fun v => tA sc iX11_waited 12 ls (v :: st) h Q) := tA_get mB_X11_waited mO_X11_waited dX11_waited_9 fT_11_7
theorem rX11_waited_12 : tA sc iX11_waited 12 ls st h Q = tA sc iX11_waited 13 ls (vI (0) :: st) h Q := tA_pure mB_X11_waited dX11_waited_12 rfl
theorem rX11_waited_13 : tA sc iX11_waited 13 ls (vI j :: vR (some a) :: st) h Q = oz (tald sc h 0 a j) (fun v => tA sc iX11_waited 14 ls (vI v :: st) h Q) := tA_iald mB_X11_waited dX11_waited_13
theorem rX11_waited_14 : tA sc iX11_waited 14 ls st h Q = tA sc iX11_waited 15 ls (vI (3) :: st) h Q := tA_pure mB_X11_waited dX11_waited_14 rfl
theorem rX11_waited_15 : tA sc iX11_waited 15 ls (vI y :: vI x :: st) h Q = tA sc iX11_waited 16 ls (vI (x + y) :: st) h Q := tA_pure mB_X11_waited dX11_waited_15 rfl
theorem rX11_waited_16 : tA sc iX11_waited 16 ls (vI y :: vI x :: st) h Q = (if x ≤ y then tA sc iX11_waited 48 ls st h Q else tA sc iX11_waited 19 ls st h Q) := tA_if mB_X11_waited dX11_waited_16 (fun _ _ _ _ => rfl) rfl
theorem rX11_waited_19 : tA sc iX11_waited 19 [vR r, l1, l2, l3, l4, l5] st h Q = tA sc iX11_waited 20 [vR r, l1, l2, l3, l4, l5] (vR r :: st) h Q := tA_pure mB_X11_waited dX11_waited_19 rfl
theorem rX11_waited_20 : tA sc iX11_waited 20 ls (vR (some o) :: st) h Q = oz (tget h o [11] 0) (fun v => tA sc iX11_waited 23 ls (v :: st) h Q) := tA_get mB_X11_waited mO_X11_waited dX11_waited_20 fT_11_7
theorem rX11_waited_23 : tA sc iX11_waited 23 ls st h Q = tA sc iX11_waited 24 ls (vI (3) :: st) h Q := tA_pure mB_X11_waited dX11_waited_23 rfl
theorem rX11_waited_24 : tA sc iX11_waited 24 [l0, vI x, l2, l3, l4, l5] st h Q = tA sc iX11_waited 25 [l0, vI x, l2, l3, l4, l5] (vI x :: st) h Q := tA_pure mB_X11_waited dX11_waited_24 rfl
theorem rX11_waited_25 : tA sc iX11_waited 25 ls [vI p0, s0, s1] h Q = tA sc iX11_isDay 0 [vI p0] [] h (fun v h1 => tA sc iX11_waited 28 ls (tpu v [s0, s1]) h1 Q) := tA_cS mB_X11_waited mO_X11_waited dX11_waited_25 cT_11_216 ⟨Nat.le_of_ble_eq_true rfl, Nat.le_of_ble_eq_true rfl⟩ rfl rfl rfl rfl
theorem rX11_waited_28 : tA sc iX11_waited 28 ls (vI x :: st) h Q = (if x = 0 then tA sc iX11_waited 35 ls st h Q else tA sc iX11_waited 31 ls st h Q) := tA_if mB_X11_waited dX11_waited_28 (fun _ _ _ _ => rfl) rfl
theorem rX11_waited_31 : tA sc iX11_waited 31 [l0, vI x, l2, l3, l4, l5] st h Q = tA sc iX11_waited 32 [l0, vI x, l2, l3, l4, l5] (vI x :: st) h Q := tA_pure mB_X11_waited dX11_waited_31 rfl
theorem rX11_waited_32 : tA sc iX11_waited 32 ls st h Q = tA sc iX11_waited 36 ls st h Q := tA_jump mB_X11_waited dX11_waited_32 (fun _ _ _ _ => rfl) rfl
theorem rX11_waited_35 : tA sc iX11_waited 35 ls st h Q = tA sc iX11_waited 36 ls (vI (0) :: st) h Q := tA_pure mB_X11_waited dX11_waited_35 rfl
theorem rX11_waited_36 : tA sc iX11_waited 36 ls (vI y :: vI x :: st) h Q = tA sc iX11_waited 37 ls (vI (x + y) :: st) h Q := tA_pure mB_X11_waited dX11_waited_36 rfl
theorem rX11_waited_37 : tA sc iX11_waited 37 ls (vI j :: vR (some a) :: st) h Q = oz (tald sc h 0 a j) (fun v => tA sc iX11_waited 38 ls (vI v :: st) h Q) := tA_iald mB_X11_waited dX11_waited_37
theorem rX11_waited_38 : tA sc iX11_waited 38 ls (vI x :: st) h Q = (if 0 ≤ x then tA sc iX11_waited 48 ls st h Q else tA sc iX11_waited 41 ls st h Q) := tA_if mB_X11_waited dX11_waited_38 (fun _ _ _ _ => rfl) rfl
theorem rX11_waited_41 : tA sc iX11_waited 41 [l0, l1, vI x, l3, l4, l5] st h Q = tA sc iX11_waited 42 [l0, l1, vI x, l3, l4, l5] (vI x :: st) h Q := tA_pure mB_X11_waited dX11_waited_41 rfl
theorem rX11_waited_42 : tA sc iX11_waited 42 ls [vI p0] h Q = tA sc iX11_isSide 0 [vI p0] [] h (fun v h1 => tA sc iX11_waited 45 ls (tpu v []) h1 Q) := tA_cS mB_X11_waited mO_X11_waited dX11_waited_42 cT_11_303 ⟨Nat.le_of_ble_eq_true rfl, Nat.le_of_ble_eq_true rfl⟩ rfl rfl rfl rfl
theorem rX11_waited_45 : tA sc iX11_waited 45 ls (vI x :: st) h Q = (if ¬ x = 0 then tA sc iX11_waited 52 ls st h Q else tA sc iX11_waited 48 ls st h Q) := tA_if mB_X11_waited dX11_waited_45 (fun _ _ _ _ => rfl) rfl
theorem rX11_waited_48 : tA sc iX11_waited 48 ls st h Q = tA sc iX11_waited 51 ls (vL (-1000000000000) :: st) h Q := tA_pure mB_X11_waited dX11_waited_48 rfl
theorem rX11_waited_51 : tA sc iX11_waited 51 ls [vL u] h Q = Q (some (vL u)) h := tA_ret mB_X11_waited dX11_waited_51 (fun _ _ _ _ => rfl) (fun _ _ _ => rfl) (fun _ _ _ _ _ => rfl) rfl rfl
theorem rX11_waited_52 : tA sc iX11_waited 52 ls st h Q = tA sc iX11_waited 53 ls (vL 0 :: st) h Q := tA_pure mB_X11_waited dX11_waited_52 rfl
theorem rX11_waited_53 : tA sc iX11_waited 53 [l0, l1, l2, l3, l4, l5] (vL u :: st) h Q = tA sc iX11_waited 54 [l0, l1, tclr l2, vL u, vU, l5] st h Q := tA_pure mB_X11_waited dX11_waited_53 rfl
theorem rX11_waited_54 : tA sc iX11_waited 54 ls st h Q = tA sc iX11_waited 55 ls (vI (0) :: st) h Q := tA_pure mB_X11_waited dX11_waited_54 rfl
theorem rX11_waited_55 : tA sc iX11_waited 55 [l0, l1, l2, l3, l4, l5] (vI x :: st) h Q = tA sc iX11_waited 57 [l0, l1, l2, l3, tclr l4, vI x] st h Q := tA_pure mB_X11_waited dX11_waited_55 rfl
theorem rX11_waited_57 : tA sc iX11_waited 57 [l0, l1, l2, l3, l4, vI x] st h Q = tA sc iX11_waited 59 [l0, l1, l2, l3, l4, vI x] (vI x :: st) h Q := tA_pure mB_X11_waited dX11_waited_57 rfl
theorem rX11_waited_59 : tA sc iX11_waited 59 ls st h Q = tA sc iX11_waited 60 ls (vI (4) :: st) h Q := tA_pure mB_X11_waited dX11_waited_59 rfl
theorem rX11_waited_60 : tA sc iX11_waited 60 ls (vI y :: vI x :: st) h Q = (if y ≤ x then tA sc iX11_waited 92 ls st h Q else tA sc iX11_waited 63 ls st h Q) := tA_if mB_X11_waited dX11_waited_60 (fun _ _ _ _ => rfl) rfl
theorem rX11_waited_63 : tA sc iX11_waited 63 [l0, l1, l2, vL u, l4, l5] st h Q = tA sc iX11_waited 64 [l0, l1, l2, vL u, l4, l5] (vL u :: st) h Q := tA_pure mB_X11_waited dX11_waited_63 rfl
theorem rX11_waited_64 : tA sc iX11_waited 64 [vR r, l1, l2, l3, l4, l5] st h Q = tA sc iX11_waited 65 [vR r, l1, l2, l3, l4, l5] (vR r :: st) h Q := tA_pure mB_X11_waited dX11_waited_64 rfl
theorem rX11_waited_65 : tA sc iX11_waited 65 ls (vR (some o) :: st) h Q = oz (tget h o [11] 3) (fun v => tA sc iX11_waited 68 ls (v :: st) h Q) := tA_get mB_X11_waited mO_X11_waited dX11_waited_65 fT_11_16
theorem rX11_waited_68 : tA sc iX11_waited 68 ls st h Q = tA sc iX11_waited 69 ls (vI (4) :: st) h Q := tA_pure mB_X11_waited dX11_waited_68 rfl
theorem rX11_waited_69 : tA sc iX11_waited 69 [l0, vI x, l2, l3, l4, l5] st h Q = tA sc iX11_waited 70 [l0, vI x, l2, l3, l4, l5] (vI x :: st) h Q := tA_pure mB_X11_waited dX11_waited_69 rfl
theorem rX11_waited_70 : tA sc iX11_waited 70 ls (vI y :: vI x :: st) h Q = tA sc iX11_waited 71 ls (vI (x * y) :: st) h Q := tA_pure mB_X11_waited dX11_waited_70 rfl
theorem rX11_waited_71 : tA sc iX11_waited 71 [l0, l1, l2, l3, l4, vI x] st h Q = tA sc iX11_waited 73 [l0, l1, l2, l3, l4, vI x] (vI x :: st) h Q := tA_pure mB_X11_waited dX11_waited_71 rfl
theorem rX11_waited_73 : tA sc iX11_waited 73 ls (vI y :: vI x :: st) h Q = tA sc iX11_waited 74 ls (vI (x + y) :: st) h Q := tA_pure mB_X11_waited dX11_waited_73 rfl
theorem rX11_waited_74 : tA sc iX11_waited 74 ls (vI j :: vR (some a) :: st) h Q = oz (tald sc h 0 a j) (fun v => tA sc iX11_waited 75 ls (vI v :: st) h Q) := tA_iald mB_X11_waited dX11_waited_74
theorem rX11_waited_75 : tA sc iX11_waited 75 ls (vI x :: st) h Q = tA sc iX11_waited 76 ls (vL x.toInt64 :: st) h Q := tA_pure mB_X11_waited dX11_waited_75 rfl
theorem rX11_waited_76 : tA sc iX11_waited 76 [vR r, l1, l2, l3, l4, l5] st h Q = tA sc iX11_waited 77 [vR r, l1, l2, l3, l4, l5] (vR r :: st) h Q := tA_pure mB_X11_waited dX11_waited_76 rfl
theorem rX11_waited_77 : tA sc iX11_waited 77 [l0, vI x, l2, l3, l4, l5] st h Q = tA sc iX11_waited 78 [l0, vI x, l2, l3, l4, l5] (vI x :: st) h Q := tA_pure mB_X11_waited dX11_waited_77 rfl
theorem rX11_waited_78 : tA sc iX11_waited 78 [l0, l1, l2, l3, l4, vI x] st h Q = tA sc iX11_waited 80 [l0, l1, l2, l3, l4, vI x] (vI x :: st) h Q := tA_pure mB_X11_waited dX11_waited_78 rfl
theorem rX11_waited_80 (hci : tcl h o = some 11) : tA sc iX11_waited 80 ls [vI p1, vI p0, vR (some o), s0, s1] h Q = tA sc iX11_bestBy 0 [vR (some o), vI p0, vI p1, vU, vU, vU, vU, vU, vU] [] h (fun v h1 => tA sc iX11_waited 83 ls (tpu v [s0, s1]) h1 Q) := tA_cV mB_X11_waited mO_X11_waited dX11_waited_80 cT_11_320 rfl (Nat.le_of_ble_eq_true rfl) rfl rfl rfl hci
theorem rX11_waited_83 : tA sc iX11_waited 83 ls (vL w :: vL u :: st) h Q = tA sc iX11_waited 84 ls (vL (u * w) :: st) h Q := tA_pure mB_X11_waited dX11_waited_83 rfl
theorem rX11_waited_84 : tA sc iX11_waited 84 ls (vL w :: vL u :: st) h Q = tA sc iX11_waited 85 ls (vL (u + w) :: st) h Q := tA_pure mB_X11_waited dX11_waited_84 rfl
theorem rX11_waited_85 : tA sc iX11_waited 85 [l0, l1, l2, l3, l4, l5] (vL u :: st) h Q = tA sc iX11_waited 86 [l0, l1, tclr l2, vL u, vU, l5] st h Q := tA_pure mB_X11_waited dX11_waited_85 rfl
theorem rX11_waited_86 : tA sc iX11_waited 86 [l0, l1, l2, l3, l4, vI x] st h Q = tA sc iX11_waited 89 [l0, l1, l2, l3, tclr l4, vI (x + 1)] st h Q := tA_pure mB_X11_waited dX11_waited_86 rfl
theorem rX11_waited_89 : tA sc iX11_waited 89 ls st h Q = tA sc iX11_waited 57 ls st h Q := tA_jump mB_X11_waited dX11_waited_89 (fun _ _ _ _ => rfl) rfl
theorem rX11_waited_92 : tA sc iX11_waited 92 [vR r, l1, l2, l3, l4, l5] st h Q = tA sc iX11_waited 93 [vR r, l1, l2, l3, l4, l5] (vR r :: st) h Q := tA_pure mB_X11_waited dX11_waited_92 rfl
theorem rX11_waited_93 : tA sc iX11_waited 93 [l0, l1, l2, vL u, l4, l5] st h Q = tA sc iX11_waited 94 [l0, l1, l2, vL u, l4, l5] (vL u :: st) h Q := tA_pure mB_X11_waited dX11_waited_93 rfl
theorem rX11_waited_94 : tA sc iX11_waited 94 [vR r, l1, l2, l3, l4, l5] st h Q = tA sc iX11_waited 95 [vR r, l1, l2, l3, l4, l5] (vR r :: st) h Q := tA_pure mB_X11_waited dX11_waited_94 rfl
theorem rX11_waited_95 : tA sc iX11_waited 95 [l0, vI x, l2, l3, l4, l5] st h Q = tA sc iX11_waited 96 [l0, vI x, l2, l3, l4, l5] (vI x :: st) h Q := tA_pure mB_X11_waited dX11_waited_95 rfl
theorem rX11_waited_96 (hci : tcl h o = some 11) : tA sc iX11_waited 96 ls [vI p0, vR (some o), s0, s1] h Q = tA sc iX11_plainAll 0 [vR (some o), vI p0] [] h (fun v h1 => tA sc iX11_waited 99 ls (tpu v [s0, s1]) h1 Q) := tA_cV mB_X11_waited mO_X11_waited dX11_waited_96 cT_11_222 rfl (Nat.le_of_ble_eq_true rfl) rfl rfl rfl hci
theorem rX11_waited_99 : tA sc iX11_waited 99 ls (vI x :: st) h Q = tA sc iX11_waited 100 ls (vL x.toInt64 :: st) h Q := tA_pure mB_X11_waited dX11_waited_99 rfl
theorem rX11_waited_100 : tA sc iX11_waited 100 [vR r, l1, l2, l3, l4, l5] st h Q = tA sc iX11_waited 101 [vR r, l1, l2, l3, l4, l5] (vR r :: st) h Q := tA_pure mB_X11_waited dX11_waited_100 rfl
theorem rX11_waited_101 : tA sc iX11_waited 101 [l0, vI x, l2, l3, l4, l5] st h Q = tA sc iX11_waited 102 [l0, vI x, l2, l3, l4, l5] (vI x :: st) h Q := tA_pure mB_X11_waited dX11_waited_101 rfl
theorem rX11_waited_102 (hci : tcl h o = some 11) : tA sc iX11_waited 102 ls [vI p0, vR (some o), s0, s1, s2] h Q = tA sc iX11_plainAll 0 [vR (some o), vI p0] [] h (fun v h1 => tA sc iX11_waited 105 ls (tpu v [s0, s1, s2]) h1 Q) := tA_cV mB_X11_waited mO_X11_waited dX11_waited_102 cT_11_222 rfl (Nat.le_of_ble_eq_true rfl) rfl rfl rfl hci
theorem rX11_waited_105 : tA sc iX11_waited 105 [vR r, l1, l2, l3, l4, l5] st h Q = tA sc iX11_waited 106 [vR r, l1, l2, l3, l4, l5] (vR r :: st) h Q := tA_pure mB_X11_waited dX11_waited_105 rfl
theorem rX11_waited_106 : tA sc iX11_waited 106 ls (vR (some o) :: st) h Q = oz (tget h o [11] 6) (fun v => tA sc iX11_waited 109 ls (v :: st) h Q) := tA_get mB_X11_waited mO_X11_waited dX11_waited_106 fT_11_22
theorem rX11_waited_109 : tA sc iX11_waited 109 ls st h Q = tA sc iX11_waited 110 ls (vI (3) :: st) h Q := tA_pure mB_X11_waited dX11_waited_109 rfl
theorem rX11_waited_110 : tA sc iX11_waited 110 ls (vI j :: vR (some a) :: st) h Q = oz (tald sc h 0 a j) (fun v => tA sc iX11_waited 111 ls (vI v :: st) h Q) := tA_iald mB_X11_waited dX11_waited_110
theorem rX11_waited_111 : tA sc iX11_waited 111 ls (vI y :: vI x :: st) h Q = tA sc iX11_waited 112 ls (vI (x + y) :: st) h Q := tA_pure mB_X11_waited dX11_waited_111 rfl
theorem rX11_waited_112 : tA sc iX11_waited 112 ls (vI x :: st) h Q = tA sc iX11_waited 113 ls (vL x.toInt64 :: st) h Q := tA_pure mB_X11_waited dX11_waited_112 rfl
theorem rX11_waited_113 : tA sc iX11_waited 113 ls (vL w :: vL u :: st) h Q = tA sc iX11_waited 114 ls (vL (u * w) :: st) h Q := tA_pure mB_X11_waited dX11_waited_113 rfl
theorem rX11_waited_114 (hci : tcl h o = some 11) : tA sc iX11_waited 114 ls [vL q1, vL q0, vR (some o)] h Q = tA sc iX11_lowest 0 [vR (some o), vL q0, vU, vL q1, vU, vU, vU, vU, vU, vU, vU] [] h (fun v h1 => tA sc iX11_waited 117 ls (tpu v []) h1 Q) := tA_cV mB_X11_waited mO_X11_waited dX11_waited_114 cT_11_306 rfl (Nat.le_of_ble_eq_true rfl) rfl rfl rfl hci
theorem rX11_waited_117 : tA sc iX11_waited 117 [vR r, l1, l2, l3, l4, l5] st h Q = tA sc iX11_waited 118 [vR r, l1, l2, l3, l4, l5] (vR r :: st) h Q := tA_pure mB_X11_waited dX11_waited_117 rfl
theorem rX11_waited_118 : tA sc iX11_waited 118 [l0, l1, vI x, l3, l4, l5] st h Q = tA sc iX11_waited 119 [l0, l1, vI x, l3, l4, l5] (vI x :: st) h Q := tA_pure mB_X11_waited dX11_waited_118 rfl
theorem rX11_waited_119 (hci : tcl h o = some 11) : tA sc iX11_waited 119 ls [vI p0, vR (some o)] h Q = tA sc iX11_toldPart 0 [vR (some o), vI p0] [] h (fun v h1 => tA sc iX11_waited 122 ls (tpu v []) h1 Q) := tA_cV mB_X11_waited mO_X11_waited dX11_waited_119 cT_11_310 rfl (Nat.le_of_ble_eq_true rfl) rfl rfl rfl hci
theorem rX11_waited_122 : tA sc iX11_waited 122 ls [vL u] h Q = Q (some (vL u)) h := tA_ret mB_X11_waited dX11_waited_122 (fun _ _ _ _ => rfl) (fun _ _ _ => rfl) (fun _ _ _ _ _ => rfl) rfl rfl
theorem mB_X11_best : mB iX11_best = cX11_best := rfl
theorem mO_X11_best : mO iX11_best = 11 := rfl
theorem rX11_best_0 : tA sc iX11_best 0 [l0, vI x, l2, l3, l4, l5, l6, l7, l8, l9, l10] st h Q = tA sc iX11_best 1 [l0, vI x, l2, l3, l4, l5, l6, l7, l8, l9, l10] (vI x :: st) h Q := tA_pure mB_X11_best dX11_best_0 rfl
theorem rX11_best_1 : tA sc iX11_best 1 ls [vI p0] h Q = tA sc iX11_isSide 0 [vI p0] [] h (fun v h1 => tA sc iX11_best 4 ls (tpu v []) h1 Q) := tA_cS mB_X11_best mO_X11_best dX11_best_1 cT_11_303 ⟨Nat.le_of_ble_eq_true rfl, Nat.le_of_ble_eq_true rfl⟩ rfl rfl rfl rfl
theorem rX11_best_4 : tA sc iX11_best 4 ls (vI x :: st) h Q = (if ¬ x = 0 then tA sc iX11_best 9 ls st h Q else tA sc iX11_best 7 ls st h Q) := tA_if mB_X11_best dX11_best_4 (fun _ _ _ _ => rfl) rfl
theorem rX11_best_7 : tA sc iX11_best 7 ls st h Q = tA sc iX11_best 8 ls (vI (-1) :: st) h Q := tA_pure mB_X11_best dX11_best_7 rfl
theorem rX11_best_8 : tA sc iX11_best 8 ls [vI x] h Q = Q (some (vI x)) h := tA_ret mB_X11_best dX11_best_8 (fun _ _ _ _ => rfl) (fun _ _ _ => rfl) (fun _ _ _ _ _ => rfl) rfl rfl
theorem rX11_best_9 : tA sc iX11_best 9 ls st h Q = tA sc iX11_best 11 ls (vI (-3) :: st) h Q := tA_pure mB_X11_best dX11_best_9 rfl
theorem rX11_best_11 : tA sc iX11_best 11 [l0, l1, l2, l3, l4, l5, l6, l7, l8, l9, l10] (vI x :: st) h Q = tA sc iX11_best 12 [l0, tclr l1, vI x, l3, l4, l5, l6, l7, l8, l9, l10] st h Q := tA_pure mB_X11_best dX11_best_11 rfl
theorem rX11_best_12 : tA sc iX11_best 12 ls st h Q = tA sc iX11_best 13 ls (vL 0 :: st) h Q := tA_pure mB_X11_best dX11_best_12 rfl
theorem rX11_best_13 : tA sc iX11_best 13 [l0, l1, l2, l3, l4, l5, l6, l7, l8, l9, l10] (vL u :: st) h Q = tA sc iX11_best 14 [l0, l1, tclr l2, vL u, vU, l5, l6, l7, l8, l9, l10] st h Q := tA_pure mB_X11_best dX11_best_13 rfl
theorem rX11_best_14 : tA sc iX11_best 14 ls st h Q = tA sc iX11_best 15 ls (vI (1) :: st) h Q := tA_pure mB_X11_best dX11_best_14 rfl
theorem rX11_best_15 : tA sc iX11_best 15 [l0, l1, l2, l3, l4, l5, l6, l7, l8, l9, l10] (vI x :: st) h Q = tA sc iX11_best 17 [l0, l1, l2, l3, tclr l4, vI x, l6, l7, l8, l9, l10] st h Q := tA_pure mB_X11_best dX11_best_15 rfl
theorem rX11_best_17 : tA sc iX11_best 17 [vR r, l1, l2, l3, l4, l5, l6, l7, l8, l9, l10] st h Q = tA sc iX11_best 18 [vR r, l1, l2, l3, l4, l5, l6, l7, l8, l9, l10] (vR r :: st) h Q := tA_pure mB_X11_best dX11_best_17 rfl
theorem rX11_best_18 : tA sc iX11_best 18 ls (vR (some o) :: st) h Q = oz (tget h o [11] 0) (fun v => tA sc iX11_best 21 ls (v :: st) h Q) := tA_get mB_X11_best mO_X11_best dX11_best_18 fT_11_7
theorem rX11_best_21 : tA sc iX11_best 21 ls st h Q = tA sc iX11_best 22 ls (vI (0) :: st) h Q := tA_pure mB_X11_best dX11_best_21 rfl
theorem rX11_best_22 : tA sc iX11_best 22 ls (vI j :: vR (some a) :: st) h Q = oz (tald sc h 0 a j) (fun v => tA sc iX11_best 23 ls (vI v :: st) h Q) := tA_iald mB_X11_best dX11_best_22
theorem rX11_best_23 : tA sc iX11_best 23 [l0, l1, l2, l3, l4, l5, l6, l7, l8, l9, l10] (vI x :: st) h Q = tA sc iX11_best 25 [l0, l1, l2, l3, l4, tclr l5, vI x, l7, l8, l9, l10] st h Q := tA_pure mB_X11_best dX11_best_23 rfl
theorem rX11_best_25 : tA sc iX11_best 25 [l0, l1, l2, l3, l4, l5, vI x, l7, l8, l9, l10] st h Q = tA sc iX11_best 27 [l0, l1, l2, l3, l4, l5, vI x, l7, l8, l9, l10] (vI x :: st) h Q := tA_pure mB_X11_best dX11_best_25 rfl
theorem rX11_best_27 : tA sc iX11_best 27 ls st h Q = tA sc iX11_best 29 ls (vI (20) :: st) h Q := tA_pure mB_X11_best dX11_best_27 rfl
theorem rX11_best_29 : tA sc iX11_best 29 ls (vI y :: vI x :: st) h Q = (if y ≤ x then tA sc iX11_best 127 ls st h Q else tA sc iX11_best 32 ls st h Q) := tA_if mB_X11_best dX11_best_29 (fun _ _ _ _ => rfl) rfl
theorem rX11_best_32 : tA sc iX11_best 32 [vR r, l1, l2, l3, l4, l5, l6, l7, l8, l9, l10] st h Q = tA sc iX11_best 33 [vR r, l1, l2, l3, l4, l5, l6, l7, l8, l9, l10] (vR r :: st) h Q := tA_pure mB_X11_best dX11_best_32 rfl
theorem rX11_best_33 : tA sc iX11_best 33 [l0, l1, l2, l3, l4, l5, vI x, l7, l8, l9, l10] st h Q = tA sc iX11_best 35 [l0, l1, l2, l3, l4, l5, vI x, l7, l8, l9, l10] (vI x :: st) h Q := tA_pure mB_X11_best dX11_best_33 rfl
theorem rX11_best_35 (hci : tcl h o = some 11) : tA sc iX11_best 35 ls [vI p0, vR (some o)] h Q = tA sc iX11_allOf 0 [vR (some o), vI p0] [] h (fun v h1 => tA sc iX11_best 38 ls (tpu v []) h1 Q) := tA_cV mB_X11_best mO_X11_best dX11_best_35 cT_11_277 rfl (Nat.le_of_ble_eq_true rfl) rfl rfl rfl hci
theorem rX11_best_38 : tA sc iX11_best 38 [l0, l1, l2, l3, l4, l5, l6, l7, l8, l9, l10] (vI x :: st) h Q = tA sc iX11_best 40 [l0, l1, l2, l3, l4, l5, tclr l6, vI x, l8, l9, l10] st h Q := tA_pure mB_X11_best dX11_best_38 rfl
theorem rX11_best_40 : tA sc iX11_best 40 ls st h Q = tA sc iX11_best 41 ls (vI (0) :: st) h Q := tA_pure mB_X11_best dX11_best_40 rfl
theorem rX11_best_41 : tA sc iX11_best 41 [l0, l1, l2, l3, l4, l5, l6, l7, l8, l9, l10] (vI x :: st) h Q = tA sc iX11_best 43 [l0, l1, l2, l3, l4, l5, l6, tclr l7, vI x, l9, l10] st h Q := tA_pure mB_X11_best dX11_best_41 rfl
theorem rX11_best_43 : tA sc iX11_best 43 [l0, l1, l2, l3, l4, l5, l6, l7, vI x, l9, l10] st h Q = tA sc iX11_best 45 [l0, l1, l2, l3, l4, l5, l6, l7, vI x, l9, l10] (vI x :: st) h Q := tA_pure mB_X11_best dX11_best_43 rfl
theorem rX11_best_45 : tA sc iX11_best 45 ls st h Q = tA sc iX11_best 46 ls (vI (4) :: st) h Q := tA_pure mB_X11_best dX11_best_45 rfl
theorem rX11_best_46 : tA sc iX11_best 46 ls (vI y :: vI x :: st) h Q = (if y ≤ x then tA sc iX11_best 121 ls st h Q else tA sc iX11_best 49 ls st h Q) := tA_if mB_X11_best dX11_best_46 (fun _ _ _ _ => rfl) rfl
theorem rX11_best_49 : tA sc iX11_best 49 [vR r, l1, l2, l3, l4, l5, l6, l7, l8, l9, l10] st h Q = tA sc iX11_best 50 [vR r, l1, l2, l3, l4, l5, l6, l7, l8, l9, l10] (vR r :: st) h Q := tA_pure mB_X11_best dX11_best_49 rfl
theorem rX11_best_50 : tA sc iX11_best 50 [l0, l1, l2, l3, l4, l5, vI x, l7, l8, l9, l10] st h Q = tA sc iX11_best 52 [l0, l1, l2, l3, l4, l5, vI x, l7, l8, l9, l10] (vI x :: st) h Q := tA_pure mB_X11_best dX11_best_50 rfl
theorem rX11_best_52 (hci : tcl h o = some 11) : tA sc iX11_best 52 ls [vI p0, vR (some o)] h Q = tA sc iX11_saidOf 0 [vR (some o), vI p0, vU, vU] [] h (fun v h1 => tA sc iX11_best 55 ls (tpu v []) h1 Q) := tA_cV mB_X11_best mO_X11_best dX11_best_52 cT_11_244 rfl (Nat.le_of_ble_eq_true rfl) rfl rfl rfl hci
theorem rX11_best_55 : tA sc iX11_best 55 [l0, l1, l2, l3, l4, l5, l6, l7, vI x, l9, l10] st h Q = tA sc iX11_best 57 [l0, l1, l2, l3, l4, l5, l6, l7, vI x, l9, l10] (vI x :: st) h Q := tA_pure mB_X11_best dX11_best_55 rfl
theorem rX11_best_57 : tA sc iX11_best 57 ls (vI y :: vI x :: st) h Q = tA sc iX11_best 58 ls (vI (x >>> (y &&& 31)) :: st) h Q := tA_pure mB_X11_best dX11_best_57 rfl
theorem rX11_best_58 : tA sc iX11_best 58 ls st h Q = tA sc iX11_best 59 ls (vI (1) :: st) h Q := tA_pure mB_X11_best dX11_best_58 rfl
theorem rX11_best_59 : tA sc iX11_best 59 ls (vI y :: vI x :: st) h Q = tA sc iX11_best 60 ls (vI (x &&& y) :: st) h Q := tA_pure mB_X11_best dX11_best_59 rfl
theorem rX11_best_60 : tA sc iX11_best 60 ls (vI x :: st) h Q = (if ¬ x = 0 then tA sc iX11_best 115 ls st h Q else tA sc iX11_best 63 ls st h Q) := tA_if mB_X11_best dX11_best_60 (fun _ _ _ _ => rfl) rfl
theorem rX11_best_63 : tA sc iX11_best 63 [vR r, l1, l2, l3, l4, l5, l6, l7, l8, l9, l10] st h Q = tA sc iX11_best 64 [vR r, l1, l2, l3, l4, l5, l6, l7, l8, l9, l10] (vR r :: st) h Q := tA_pure mB_X11_best dX11_best_63 rfl
theorem rX11_best_64 : tA sc iX11_best 64 [l0, l1, l2, l3, l4, l5, vI x, l7, l8, l9, l10] st h Q = tA sc iX11_best 66 [l0, l1, l2, l3, l4, l5, vI x, l7, l8, l9, l10] (vI x :: st) h Q := tA_pure mB_X11_best dX11_best_64 rfl
theorem rX11_best_66 : tA sc iX11_best 66 [vR r, l1, l2, l3, l4, l5, l6, l7, l8, l9, l10] st h Q = tA sc iX11_best 67 [vR r, l1, l2, l3, l4, l5, l6, l7, l8, l9, l10] (vR r :: st) h Q := tA_pure mB_X11_best dX11_best_66 rfl
theorem rX11_best_67 : tA sc iX11_best 67 [l0, l1, l2, l3, l4, l5, vI x, l7, l8, l9, l10] st h Q = tA sc iX11_best 69 [l0, l1, l2, l3, l4, l5, vI x, l7, l8, l9, l10] (vI x :: st) h Q := tA_pure mB_X11_best dX11_best_67 rfl
theorem rX11_best_69 : tA sc iX11_best 69 [l0, l1, l2, l3, l4, l5, l6, l7, vI x, l9, l10] st h Q = tA sc iX11_best 71 [l0, l1, l2, l3, l4, l5, l6, l7, vI x, l9, l10] (vI x :: st) h Q := tA_pure mB_X11_best dX11_best_69 rfl
theorem rX11_best_71 (hci : tcl h o = some 11) : tA sc iX11_best 71 ls [vI p1, vI p0, vR (some o), s0, s1] h Q = tA sc iX11_weightOf 0 [vR (some o), vI p0, vI p1] [] h (fun v h1 => tA sc iX11_best 74 ls (tpu v [s0, s1]) h1 Q) := tA_cV mB_X11_best mO_X11_best dX11_best_71 cT_11_228 rfl (Nat.le_of_ble_eq_true rfl) rfl rfl rfl hci
theorem rX11_best_74 : tA sc iX11_best 74 [l0, l1, l2, l3, l4, l5, l6, vI x, l8, l9, l10] st h Q = tA sc iX11_best 76 [l0, l1, l2, l3, l4, l5, l6, vI x, l8, l9, l10] (vI x :: st) h Q := tA_pure mB_X11_best dX11_best_74 rfl
theorem rX11_best_76 (hci : tcl h o = some 11) : tA sc iX11_best 76 ls [vI p2, vI p1, vI p0, vR (some o)] h Q = tA sc iX11_gainBy 0 [vR (some o), vI p0, vI p1, vI p2] [] h (fun v h1 => tA sc iX11_best 79 ls (tpu v []) h1 Q) := tA_cV mB_X11_best mO_X11_best dX11_best_76 cT_11_316 rfl (Nat.le_of_ble_eq_true rfl) rfl rfl rfl hci
theorem rX11_best_79 : tA sc iX11_best 79 [l0, l1, l2, l3, l4, l5, l6, l7, l8, l9, l10] (vL u :: st) h Q = tA sc iX11_best 81 [l0, l1, l2, l3, l4, l5, l6, l7, tclr l8, vL u, vU] st h Q := tA_pure mB_X11_best dX11_best_79 rfl
theorem rX11_best_81 : tA sc iX11_best 81 [l0, l1, vI x, l3, l4, l5, l6, l7, l8, l9, l10] st h Q = tA sc iX11_best 82 [l0, l1, vI x, l3, l4, l5, l6, l7, l8, l9, l10] (vI x :: st) h Q := tA_pure mB_X11_best dX11_best_81 rfl
theorem rX11_best_82 : tA sc iX11_best 82 ls (vI x :: st) h Q = (if x < 0 then tA sc iX11_best 100 ls st h Q else tA sc iX11_best 85 ls st h Q) := tA_if mB_X11_best dX11_best_82 (fun _ _ _ _ => rfl) rfl
theorem rX11_best_85 : tA sc iX11_best 85 [l0, l1, l2, l3, l4, l5, l6, l7, l8, vL u, l10] st h Q = tA sc iX11_best 87 [l0, l1, l2, l3, l4, l5, l6, l7, l8, vL u, l10] (vL u :: st) h Q := tA_pure mB_X11_best dX11_best_85 rfl
theorem rX11_best_87 : tA sc iX11_best 87 [l0, l1, l2, l3, l4, vI x, l6, l7, l8, l9, l10] st h Q = tA sc iX11_best 89 [l0, l1, l2, l3, l4, vI x, l6, l7, l8, l9, l10] (vI x :: st) h Q := tA_pure mB_X11_best dX11_best_87 rfl
theorem rX11_best_89 : tA sc iX11_best 89 ls (vI x :: st) h Q = tA sc iX11_best 90 ls (vL x.toInt64 :: st) h Q := tA_pure mB_X11_best dX11_best_89 rfl
theorem rX11_best_90 : tA sc iX11_best 90 ls (vL w :: vL u :: st) h Q = tA sc iX11_best 91 ls (vL (u * w) :: st) h Q := tA_pure mB_X11_best dX11_best_90 rfl
theorem rX11_best_91 : tA sc iX11_best 91 [l0, l1, l2, vL u, l4, l5, l6, l7, l8, l9, l10] st h Q = tA sc iX11_best 92 [l0, l1, l2, vL u, l4, l5, l6, l7, l8, l9, l10] (vL u :: st) h Q := tA_pure mB_X11_best dX11_best_91 rfl
theorem rX11_best_92 : tA sc iX11_best 92 [l0, l1, l2, l3, l4, l5, l6, vI x, l8, l9, l10] st h Q = tA sc iX11_best 94 [l0, l1, l2, l3, l4, l5, l6, vI x, l8, l9, l10] (vI x :: st) h Q := tA_pure mB_X11_best dX11_best_92 rfl
theorem rX11_best_94 : tA sc iX11_best 94 ls (vI x :: st) h Q = tA sc iX11_best 95 ls (vL x.toInt64 :: st) h Q := tA_pure mB_X11_best dX11_best_94 rfl
theorem rX11_best_95 : tA sc iX11_best 95 ls (vL w :: vL u :: st) h Q = tA sc iX11_best 96 ls (vL (u * w) :: st) h Q := tA_pure mB_X11_best dX11_best_95 rfl
theorem rX11_best_96 : tA sc iX11_best 96 ls (vL w :: vL u :: st) h Q = tA sc iX11_best 97 ls (vI (lg_cmp u w) :: st) h Q := tA_pure mB_X11_best dX11_best_96 rfl
theorem rX11_best_97 : tA sc iX11_best 97 ls (vI x :: st) h Q = (if x ≤ 0 then tA sc iX11_best 115 ls st h Q else tA sc iX11_best 100 ls st h Q) := tA_if mB_X11_best dX11_best_97 (fun _ _ _ _ => rfl) rfl
theorem rX11_best_100 : tA sc iX11_best 100 ls st h Q = tA sc iX11_best 101 ls (vI (4) :: st) h Q := tA_pure mB_X11_best dX11_best_100 rfl
theorem rX11_best_101 : tA sc iX11_best 101 [l0, l1, l2, l3, l4, l5, vI x, l7, l8, l9, l10] st h Q = tA sc iX11_best 103 [l0, l1, l2, l3, l4, l5, vI x, l7, l8, l9, l10] (vI x :: st) h Q := tA_pure mB_X11_best dX11_best_101 rfl
theorem rX11_best_103 : tA sc iX11_best 103 ls (vI y :: vI x :: st) h Q = tA sc iX11_best 104 ls (vI (x * y) :: st) h Q := tA_pure mB_X11_best dX11_best_103 rfl
theorem rX11_best_104 : tA sc iX11_best 104 [l0, l1, l2, l3, l4, l5, l6, l7, vI x, l9, l10] st h Q = tA sc iX11_best 106 [l0, l1, l2, l3, l4, l5, l6, l7, vI x, l9, l10] (vI x :: st) h Q := tA_pure mB_X11_best dX11_best_104 rfl
theorem rX11_best_106 : tA sc iX11_best 106 ls (vI y :: vI x :: st) h Q = tA sc iX11_best 107 ls (vI (x + y) :: st) h Q := tA_pure mB_X11_best dX11_best_106 rfl
theorem rX11_best_107 : tA sc iX11_best 107 [l0, l1, l2, l3, l4, l5, l6, l7, l8, l9, l10] (vI x :: st) h Q = tA sc iX11_best 108 [l0, tclr l1, vI x, l3, l4, l5, l6, l7, l8, l9, l10] st h Q := tA_pure mB_X11_best dX11_best_107 rfl
theorem rX11_best_108 : tA sc iX11_best 108 [l0, l1, l2, l3, l4, l5, l6, l7, l8, vL u, l10] st h Q = tA sc iX11_best 110 [l0, l1, l2, l3, l4, l5, l6, l7, l8, vL u, l10] (vL u :: st) h Q := tA_pure mB_X11_best dX11_best_108 rfl
theorem rX11_best_110 : tA sc iX11_best 110 [l0, l1, l2, l3, l4, l5, l6, l7, l8, l9, l10] (vL u :: st) h Q = tA sc iX11_best 111 [l0, l1, tclr l2, vL u, vU, l5, l6, l7, l8, l9, l10] st h Q := tA_pure mB_X11_best dX11_best_110 rfl
theorem rX11_best_111 : tA sc iX11_best 111 [l0, l1, l2, l3, l4, l5, l6, vI x, l8, l9, l10] st h Q = tA sc iX11_best 113 [l0, l1, l2, l3, l4, l5, l6, vI x, l8, l9, l10] (vI x :: st) h Q := tA_pure mB_X11_best dX11_best_111 rfl
theorem rX11_best_113 : tA sc iX11_best 113 [l0, l1, l2, l3, l4, l5, l6, l7, l8, l9, l10] (vI x :: st) h Q = tA sc iX11_best 115 [l0, l1, l2, l3, tclr l4, vI x, l6, l7, l8, l9, l10] st h Q := tA_pure mB_X11_best dX11_best_113 rfl
theorem rX11_best_115 : tA sc iX11_best 115 [l0, l1, l2, l3, l4, l5, l6, l7, vI x, l9, l10] st h Q = tA sc iX11_best 118 [l0, l1, l2, l3, l4, l5, l6, tclr l7, vI (x + 1), l9, l10] st h Q := tA_pure mB_X11_best dX11_best_115 rfl
theorem rX11_best_118 : tA sc iX11_best 118 ls st h Q = tA sc iX11_best 43 ls st h Q := tA_jump mB_X11_best dX11_best_118 (fun _ _ _ _ => rfl) rfl
theorem rX11_best_121 : tA sc iX11_best 121 [l0, l1, l2, l3, l4, l5, vI x, l7, l8, l9, l10] st h Q = tA sc iX11_best 124 [l0, l1, l2, l3, l4, tclr l5, vI (x + 1), l7, l8, l9, l10] st h Q := tA_pure mB_X11_best dX11_best_121 rfl
theorem rX11_best_124 : tA sc iX11_best 124 ls st h Q = tA sc iX11_best 25 ls st h Q := tA_jump mB_X11_best dX11_best_124 (fun _ _ _ _ => rfl) rfl
theorem rX11_best_127 : tA sc iX11_best 127 [l0, l1, vI x, l3, l4, l5, l6, l7, l8, l9, l10] st h Q = tA sc iX11_best 128 [l0, l1, vI x, l3, l4, l5, l6, l7, l8, l9, l10] (vI x :: st) h Q := tA_pure mB_X11_best dX11_best_127 rfl
theorem rX11_best_128 : tA sc iX11_best 128 ls (vI x :: st) h Q = (if 0 ≤ x then tA sc iX11_best 136 ls st h Q else tA sc iX11_best 131 ls st h Q) := tA_if mB_X11_best dX11_best_128 (fun _ _ _ _ => rfl) rfl
theorem rX11_best_131 : tA sc iX11_best 131 ls st h Q = tA sc iX11_best 133 ls (vI (-3) :: st) h Q := tA_pure mB_X11_best dX11_best_131 rfl
theorem rX11_best_133 : tA sc iX11_best 133 ls st h Q = tA sc iX11_best 149 ls st h Q := tA_jump mB_X11_best dX11_best_133 (fun _ _ _ _ => rfl) rfl
theorem rX11_best_136 : tA sc iX11_best 136 [l0, vI x, l2, l3, l4, l5, l6, l7, l8, l9, l10] st h Q = tA sc iX11_best 137 [l0, vI x, l2, l3, l4, l5, l6, l7, l8, l9, l10] (vI x :: st) h Q := tA_pure mB_X11_best dX11_best_136 rfl
theorem rX11_best_137 : tA sc iX11_best 137 ls (vI x :: st) h Q = (if ¬ x = 0 then tA sc iX11_best 146 ls st h Q else tA sc iX11_best 140 ls st h Q) := tA_if mB_X11_best dX11_best_137 (fun _ _ _ _ => rfl) rfl
theorem rX11_best_140 : tA sc iX11_best 140 [l0, l1, vI x, l3, l4, l5, l6, l7, l8, l9, l10] st h Q = tA sc iX11_best 141 [l0, l1, vI x, l3, l4, l5, l6, l7, l8, l9, l10] (vI x :: st) h Q := tA_pure mB_X11_best dX11_best_140 rfl
theorem rX11_best_141 : tA sc iX11_best 141 ls st h Q = tA sc iX11_best 142 ls (vI (4) :: st) h Q := tA_pure mB_X11_best dX11_best_141 rfl
theorem rX11_best_142 : tA sc iX11_best 142 ls (vI y :: vI x :: st) h Q = (¬ y = 0 ∧ tA sc iX11_best 143 ls (vI (x / y) :: st) h Q) := tA_div mB_X11_best dX11_best_142 (fun _ _ _ => rfl) (fun _ _ _ _ _ => rfl) rfl (fun _ _ => rfl) rfl
theorem rX11_best_143 : tA sc iX11_best 143 ls st h Q = tA sc iX11_best 149 ls st h Q := tA_jump mB_X11_best dX11_best_143 (fun _ _ _ _ => rfl) rfl
theorem rX11_best_146 : tA sc iX11_best 146 [l0, l1, vI x, l3, l4, l5, l6, l7, l8, l9, l10] st h Q = tA sc iX11_best 147 [l0, l1, vI x, l3, l4, l5, l6, l7, l8, l9, l10] (vI x :: st) h Q := tA_pure mB_X11_best dX11_best_146 rfl
theorem rX11_best_147 : tA sc iX11_best 147 ls st h Q = tA sc iX11_best 148 ls (vI (4) :: st) h Q := tA_pure mB_X11_best dX11_best_147 rfl
theorem rX11_best_148 : tA sc iX11_best 148 ls (vI y :: vI x :: st) h Q = (¬ y = 0 ∧ tA sc iX11_best 149 ls (vI (x - x / y * y) :: st) h Q) := tA_div mB_X11_best dX11_best_148 (fun _ _ _ => rfl) (fun _ _ _ _ _ => rfl) rfl (fun _ _ => rfl) rfl
theorem rX11_best_149 : tA sc iX11_best 149 ls [vI x] h Q = Q (some (vI x)) h := tA_ret mB_X11_best dX11_best_149 (fun _ _ _ _ => rfl) (fun _ _ _ => rfl) (fun _ _ _ _ _ => rfl) rfl rfl
theorem mB_X11_whole : mB iX11_whole = cX11_whole := rfl
theorem mO_X11_whole : mO iX11_whole = 11 := rfl
theorem rX11_whole_0 : tA sc iX11_whole 0 [vR r, l1, l2, l3, l4, l5] st h Q = tA sc iX11_whole 1 [vR r, l1, l2, l3, l4, l5] (vR r :: st) h Q := tA_pure mB_X11_whole dX11_whole_0 rfl
theorem rX11_whole_1 : tA sc iX11_whole 1 [l0, vI x, l2, l3, l4, l5] st h Q = tA sc iX11_whole 2 [l0, vI x, l2, l3, l4, l5] (vI x :: st) h Q := tA_pure mB_X11_whole dX11_whole_1 rfl
theorem rX11_whole_2 (hci : tcl h o = some 11) : tA sc iX11_whole 2 ls [vI p0, vR (some o)] h Q = tA sc iX11_isComing 0 [vR (some o), vI p0] [] h (fun v h1 => tA sc iX11_whole 5 ls (tpu v []) h1 Q) := tA_cV mB_X11_whole mO_X11_whole dX11_whole_2 cT_11_300 rfl (Nat.le_of_ble_eq_true rfl) rfl rfl rfl hci
theorem rX11_whole_5 : tA sc iX11_whole 5 ls (vI x :: st) h Q = (if x = 0 then tA sc iX11_whole 15 ls st h Q else tA sc iX11_whole 8 ls st h Q) := tA_if mB_X11_whole dX11_whole_5 (fun _ _ _ _ => rfl) rfl
theorem rX11_whole_8 : tA sc iX11_whole 8 [l0, l1, vI x, l3, l4, l5] st h Q = tA sc iX11_whole 9 [l0, l1, vI x, l3, l4, l5] (vI x :: st) h Q := tA_pure mB_X11_whole dX11_whole_8 rfl
theorem rX11_whole_9 : tA sc iX11_whole 9 ls [vI p0] h Q = tA sc iX11_isSide 0 [vI p0] [] h (fun v h1 => tA sc iX11_whole 12 ls (tpu v []) h1 Q) := tA_cS mB_X11_whole mO_X11_whole dX11_whole_9 cT_11_303 ⟨Nat.le_of_ble_eq_true rfl, Nat.le_of_ble_eq_true rfl⟩ rfl rfl rfl rfl
theorem rX11_whole_12 : tA sc iX11_whole 12 ls (vI x :: st) h Q = (if ¬ x = 0 then tA sc iX11_whole 19 ls st h Q else tA sc iX11_whole 15 ls st h Q) := tA_if mB_X11_whole dX11_whole_12 (fun _ _ _ _ => rfl) rfl
theorem rX11_whole_15 : tA sc iX11_whole 15 ls st h Q = tA sc iX11_whole 18 ls (vL (-1000000000000) :: st) h Q := tA_pure mB_X11_whole dX11_whole_15 rfl
theorem rX11_whole_18 : tA sc iX11_whole 18 ls [vL u] h Q = Q (some (vL u)) h := tA_ret mB_X11_whole dX11_whole_18 (fun _ _ _ _ => rfl) (fun _ _ _ => rfl) (fun _ _ _ _ _ => rfl) rfl rfl
theorem rX11_whole_19 : tA sc iX11_whole 19 ls st h Q = tA sc iX11_whole 20 ls (vL 0 :: st) h Q := tA_pure mB_X11_whole dX11_whole_19 rfl
theorem rX11_whole_20 : tA sc iX11_whole 20 [l0, l1, l2, l3, l4, l5] (vL u :: st) h Q = tA sc iX11_whole 21 [l0, l1, tclr l2, vL u, vU, l5] st h Q := tA_pure mB_X11_whole dX11_whole_20 rfl
theorem rX11_whole_21 : tA sc iX11_whole 21 ls st h Q = tA sc iX11_whole 22 ls (vI (0) :: st) h Q := tA_pure mB_X11_whole dX11_whole_21 rfl
theorem rX11_whole_22 : tA sc iX11_whole 22 [l0, l1, l2, l3, l4, l5] (vI x :: st) h Q = tA sc iX11_whole 24 [l0, l1, l2, l3, tclr l4, vI x] st h Q := tA_pure mB_X11_whole dX11_whole_22 rfl
theorem rX11_whole_24 : tA sc iX11_whole 24 [l0, l1, l2, l3, l4, vI x] st h Q = tA sc iX11_whole 26 [l0, l1, l2, l3, l4, vI x] (vI x :: st) h Q := tA_pure mB_X11_whole dX11_whole_24 rfl
theorem rX11_whole_26 : tA sc iX11_whole 26 ls st h Q = tA sc iX11_whole 27 ls (vI (4) :: st) h Q := tA_pure mB_X11_whole dX11_whole_26 rfl
theorem rX11_whole_27 : tA sc iX11_whole 27 ls (vI y :: vI x :: st) h Q = (if y ≤ x then tA sc iX11_whole 73 ls st h Q else tA sc iX11_whole 30 ls st h Q) := tA_if mB_X11_whole dX11_whole_27 (fun _ _ _ _ => rfl) rfl
theorem rX11_whole_30 : tA sc iX11_whole 30 [l0, l1, l2, vL u, l4, l5] st h Q = tA sc iX11_whole 31 [l0, l1, l2, vL u, l4, l5] (vL u :: st) h Q := tA_pure mB_X11_whole dX11_whole_30 rfl
theorem rX11_whole_31 : tA sc iX11_whole 31 [vR r, l1, l2, l3, l4, l5] st h Q = tA sc iX11_whole 32 [vR r, l1, l2, l3, l4, l5] (vR r :: st) h Q := tA_pure mB_X11_whole dX11_whole_31 rfl
theorem rX11_whole_32 : tA sc iX11_whole 32 [l0, vI x, l2, l3, l4, l5] st h Q = tA sc iX11_whole 33 [l0, vI x, l2, l3, l4, l5] (vI x :: st) h Q := tA_pure mB_X11_whole dX11_whole_32 rfl
theorem rX11_whole_33 (hci : tcl h o = some 11) : tA sc iX11_whole 33 ls [vI p0, vR (some o), s0] h Q = tA sc iX11_saidOf 0 [vR (some o), vI p0, vU, vU] [] h (fun v h1 => tA sc iX11_whole 36 ls (tpu v [s0]) h1 Q) := tA_cV mB_X11_whole mO_X11_whole dX11_whole_33 cT_11_244 rfl (Nat.le_of_ble_eq_true rfl) rfl rfl rfl hci
theorem rX11_whole_36 : tA sc iX11_whole 36 [l0, l1, l2, l3, l4, vI x] st h Q = tA sc iX11_whole 38 [l0, l1, l2, l3, l4, vI x] (vI x :: st) h Q := tA_pure mB_X11_whole dX11_whole_36 rfl
theorem rX11_whole_38 : tA sc iX11_whole 38 ls (vI y :: vI x :: st) h Q = tA sc iX11_whole 39 ls (vI (x >>> (y &&& 31)) :: st) h Q := tA_pure mB_X11_whole dX11_whole_38 rfl
theorem rX11_whole_39 : tA sc iX11_whole 39 ls st h Q = tA sc iX11_whole 40 ls (vI (1) :: st) h Q := tA_pure mB_X11_whole dX11_whole_39 rfl
theorem rX11_whole_40 : tA sc iX11_whole 40 ls (vI y :: vI x :: st) h Q = tA sc iX11_whole 41 ls (vI (x &&& y) :: st) h Q := tA_pure mB_X11_whole dX11_whole_40 rfl
theorem rX11_whole_41 : tA sc iX11_whole 41 ls (vI x :: st) h Q = (if ¬ x = 0 then tA sc iX11_whole 64 ls st h Q else tA sc iX11_whole 44 ls st h Q) := tA_if mB_X11_whole dX11_whole_41 (fun _ _ _ _ => rfl) rfl
theorem rX11_whole_44 : tA sc iX11_whole 44 [vR r, l1, l2, l3, l4, l5] st h Q = tA sc iX11_whole 45 [vR r, l1, l2, l3, l4, l5] (vR r :: st) h Q := tA_pure mB_X11_whole dX11_whole_44 rfl
theorem rX11_whole_45 : tA sc iX11_whole 45 [l0, vI x, l2, l3, l4, l5] st h Q = tA sc iX11_whole 46 [l0, vI x, l2, l3, l4, l5] (vI x :: st) h Q := tA_pure mB_X11_whole dX11_whole_45 rfl
theorem rX11_whole_46 : tA sc iX11_whole 46 [vR r, l1, l2, l3, l4, l5] st h Q = tA sc iX11_whole 47 [vR r, l1, l2, l3, l4, l5] (vR r :: st) h Q := tA_pure mB_X11_whole dX11_whole_46 rfl
theorem rX11_whole_47 : tA sc iX11_whole 47 [l0, vI x, l2, l3, l4, l5] st h Q = tA sc iX11_whole 48 [l0, vI x, l2, l3, l4, l5] (vI x :: st) h Q := tA_pure mB_X11_whole dX11_whole_47 rfl
theorem rX11_whole_48 : tA sc iX11_whole 48 [l0, l1, l2, l3, l4, vI x] st h Q = tA sc iX11_whole 50 [l0, l1, l2, l3, l4, vI x] (vI x :: st) h Q := tA_pure mB_X11_whole dX11_whole_48 rfl
theorem rX11_whole_50 (hci : tcl h o = some 11) : tA sc iX11_whole 50 ls [vI p1, vI p0, vR (some o), s0, s1, s2] h Q = tA sc iX11_weightOf 0 [vR (some o), vI p0, vI p1] [] h (fun v h1 => tA sc iX11_whole 53 ls (tpu v [s0, s1, s2]) h1 Q) := tA_cV mB_X11_whole mO_X11_whole dX11_whole_50 cT_11_228 rfl (Nat.le_of_ble_eq_true rfl) rfl rfl rfl hci
theorem rX11_whole_53 : tA sc iX11_whole 53 [vR r, l1, l2, l3, l4, l5] st h Q = tA sc iX11_whole 54 [vR r, l1, l2, l3, l4, l5] (vR r :: st) h Q := tA_pure mB_X11_whole dX11_whole_53 rfl
theorem rX11_whole_54 : tA sc iX11_whole 54 [l0, vI x, l2, l3, l4, l5] st h Q = tA sc iX11_whole 55 [l0, vI x, l2, l3, l4, l5] (vI x :: st) h Q := tA_pure mB_X11_whole dX11_whole_54 rfl
theorem rX11_whole_55 (hci : tcl h o = some 11) : tA sc iX11_whole 55 ls [vI p0, vR (some o), s0, s1, s2, s3] h Q = tA sc iX11_allOf 0 [vR (some o), vI p0] [] h (fun v h1 => tA sc iX11_whole 58 ls (tpu v [s0, s1, s2, s3]) h1 Q) := tA_cV mB_X11_whole mO_X11_whole dX11_whole_55 cT_11_277 rfl (Nat.le_of_ble_eq_true rfl) rfl rfl rfl hci
theorem rX11_whole_58 (hci : tcl h o = some 11) : tA sc iX11_whole 58 ls [vI p2, vI p1, vI p0, vR (some o), s0] h Q = tA sc iX11_gainBy 0 [vR (some o), vI p0, vI p1, vI p2] [] h (fun v h1 => tA sc iX11_whole 61 ls (tpu v [s0]) h1 Q) := tA_cV mB_X11_whole mO_X11_whole dX11_whole_58 cT_11_316 rfl (Nat.le_of_ble_eq_true rfl) rfl rfl rfl hci
theorem rX11_whole_61 : tA sc iX11_whole 61 ls st h Q = tA sc iX11_whole 65 ls st h Q := tA_jump mB_X11_whole dX11_whole_61 (fun _ _ _ _ => rfl) rfl
theorem rX11_whole_64 : tA sc iX11_whole 64 ls st h Q = tA sc iX11_whole 65 ls (vL 0 :: st) h Q := tA_pure mB_X11_whole dX11_whole_64 rfl
theorem rX11_whole_65 : tA sc iX11_whole 65 ls (vL w :: vL u :: st) h Q = tA sc iX11_whole 66 ls (vL (u + w) :: st) h Q := tA_pure mB_X11_whole dX11_whole_65 rfl
theorem rX11_whole_66 : tA sc iX11_whole 66 [l0, l1, l2, l3, l4, l5] (vL u :: st) h Q = tA sc iX11_whole 67 [l0, l1, tclr l2, vL u, vU, l5] st h Q := tA_pure mB_X11_whole dX11_whole_66 rfl
theorem rX11_whole_67 : tA sc iX11_whole 67 [l0, l1, l2, l3, l4, vI x] st h Q = tA sc iX11_whole 70 [l0, l1, l2, l3, tclr l4, vI (x + 1)] st h Q := tA_pure mB_X11_whole dX11_whole_67 rfl
theorem rX11_whole_70 : tA sc iX11_whole 70 ls st h Q = tA sc iX11_whole 24 ls st h Q := tA_jump mB_X11_whole dX11_whole_70 (fun _ _ _ _ => rfl) rfl
theorem rX11_whole_73 : tA sc iX11_whole 73 [vR r, l1, l2, l3, l4, l5] st h Q = tA sc iX11_whole 74 [vR r, l1, l2, l3, l4, l5] (vR r :: st) h Q := tA_pure mB_X11_whole dX11_whole_73 rfl
theorem rX11_whole_74 : tA sc iX11_whole 74 [l0, l1, l2, vL u, l4, l5] st h Q = tA sc iX11_whole 75 [l0, l1, l2, vL u, l4, l5] (vL u :: st) h Q := tA_pure mB_X11_whole dX11_whole_74 rfl
theorem rX11_whole_75 : tA sc iX11_whole 75 [vR r, l1, l2, l3, l4, l5] st h Q = tA sc iX11_whole 76 [vR r, l1, l2, l3, l4, l5] (vR r :: st) h Q := tA_pure mB_X11_whole dX11_whole_75 rfl
theorem rX11_whole_76 : tA sc iX11_whole 76 [l0, vI x, l2, l3, l4, l5] st h Q = tA sc iX11_whole 77 [l0, vI x, l2, l3, l4, l5] (vI x :: st) h Q := tA_pure mB_X11_whole dX11_whole_76 rfl
theorem rX11_whole_77 (hci : tcl h o = some 11) : tA sc iX11_whole 77 ls [vI p0, vR (some o), s0, s1] h Q = tA sc iX11_allOf 0 [vR (some o), vI p0] [] h (fun v h1 => tA sc iX11_whole 80 ls (tpu v [s0, s1]) h1 Q) := tA_cV mB_X11_whole mO_X11_whole dX11_whole_77 cT_11_277 rfl (Nat.le_of_ble_eq_true rfl) rfl rfl rfl hci
theorem rX11_whole_80 : tA sc iX11_whole 80 ls (vI x :: st) h Q = tA sc iX11_whole 81 ls (vL x.toInt64 :: st) h Q := tA_pure mB_X11_whole dX11_whole_80 rfl
theorem rX11_whole_81 (hci : tcl h o = some 11) : tA sc iX11_whole 81 ls [vL q1, vL q0, vR (some o)] h Q = tA sc iX11_lowest 0 [vR (some o), vL q0, vU, vL q1, vU, vU, vU, vU, vU, vU, vU] [] h (fun v h1 => tA sc iX11_whole 84 ls (tpu v []) h1 Q) := tA_cV mB_X11_whole mO_X11_whole dX11_whole_81 cT_11_306 rfl (Nat.le_of_ble_eq_true rfl) rfl rfl rfl hci
theorem rX11_whole_84 : tA sc iX11_whole 84 [vR r, l1, l2, l3, l4, l5] st h Q = tA sc iX11_whole 85 [vR r, l1, l2, l3, l4, l5] (vR r :: st) h Q := tA_pure mB_X11_whole dX11_whole_84 rfl
theorem rX11_whole_85 : tA sc iX11_whole 85 [l0, l1, vI x, l3, l4, l5] st h Q = tA sc iX11_whole 86 [l0, l1, vI x, l3, l4, l5] (vI x :: st) h Q := tA_pure mB_X11_whole dX11_whole_85 rfl
theorem rX11_whole_86 (hci : tcl h o = some 11) : tA sc iX11_whole 86 ls [vI p0, vR (some o)] h Q = tA sc iX11_toldPart 0 [vR (some o), vI p0] [] h (fun v h1 => tA sc iX11_whole 89 ls (tpu v []) h1 Q) := tA_cV mB_X11_whole mO_X11_whole dX11_whole_86 cT_11_310 rfl (Nat.le_of_ble_eq_true rfl) rfl rfl rfl hci
theorem rX11_whole_89 : tA sc iX11_whole 89 ls [vL u] h Q = Q (some (vL u)) h := tA_ret mB_X11_whole dX11_whole_89 (fun _ _ _ _ => rfl) (fun _ _ _ => rfl) (fun _ _ _ _ _ => rfl) rfl rfl
theorem mB_X11_owed : mB iX11_owed = cX11_owed := rfl
theorem mO_X11_owed : mO iX11_owed = 11 := rfl
theorem rX11_owed_0 : tA sc iX11_owed 0 [vR r, l1, l2, l3, l4, l5, l6, l7] st h Q = tA sc iX11_owed 1 [vR r, l1, l2, l3, l4, l5, l6, l7] (vR r :: st) h Q := tA_pure mB_X11_owed dX11_owed_0 rfl
theorem rX11_owed_1 : tA sc iX11_owed 1 [l0, vI x, l2, l3, l4, l5, l6, l7] st h Q = tA sc iX11_owed 2 [l0, vI x, l2, l3, l4, l5, l6, l7] (vI x :: st) h Q := tA_pure mB_X11_owed dX11_owed_1 rfl
theorem rX11_owed_2 (hci : tcl h o = some 11) : tA sc iX11_owed 2 ls [vI p0, vR (some o)] h Q = tA sc iX11_isSayer 0 [vR (some o), vI p0] [] h (fun v h1 => tA sc iX11_owed 5 ls (tpu v []) h1 Q) := tA_cV mB_X11_owed mO_X11_owed dX11_owed_2 cT_11_247 rfl (Nat.le_of_ble_eq_true rfl) rfl rfl rfl hci
theorem rX11_owed_5 : tA sc iX11_owed 5 ls (vI x :: st) h Q = (if ¬ x = 0 then tA sc iX11_owed 12 ls st h Q else tA sc iX11_owed 8 ls st h Q) := tA_if mB_X11_owed dX11_owed_5 (fun _ _ _ _ => rfl) rfl
theorem rX11_owed_8 : tA sc iX11_owed 8 ls st h Q = tA sc iX11_owed 11 ls (vL (-1000000000000) :: st) h Q := tA_pure mB_X11_owed dX11_owed_8 rfl
theorem rX11_owed_11 : tA sc iX11_owed 11 ls [vL u] h Q = Q (some (vL u)) h := tA_ret mB_X11_owed dX11_owed_11 (fun _ _ _ _ => rfl) (fun _ _ _ => rfl) (fun _ _ _ _ _ => rfl) rfl rfl
theorem rX11_owed_12 : tA sc iX11_owed 12 ls st h Q = tA sc iX11_owed 15 ls (vL (1000) :: st) h Q := tA_pure mB_X11_owed dX11_owed_12 rfl
theorem rX11_owed_15 : tA sc iX11_owed 15 [vR r, l1, l2, l3, l4, l5, l6, l7] st h Q = tA sc iX11_owed 16 [vR r, l1, l2, l3, l4, l5, l6, l7] (vR r :: st) h Q := tA_pure mB_X11_owed dX11_owed_15 rfl
theorem rX11_owed_16 : tA sc iX11_owed 16 ls (vR (some o) :: st) h Q = oz (tget h o [11] 0) (fun v => tA sc iX11_owed 19 ls (v :: st) h Q) := tA_get mB_X11_owed mO_X11_owed dX11_owed_16 fT_11_7
theorem rX11_owed_19 : tA sc iX11_owed 19 ls st h Q = tA sc iX11_owed 21 ls (vI (43) :: st) h Q := tA_pure mB_X11_owed dX11_owed_19 rfl
theorem rX11_owed_21 : tA sc iX11_owed 21 [l0, vI x, l2, l3, l4, l5, l6, l7] st h Q = tA sc iX11_owed 22 [l0, vI x, l2, l3, l4, l5, l6, l7] (vI x :: st) h Q := tA_pure mB_X11_owed dX11_owed_21 rfl
theorem rX11_owed_22 : tA sc iX11_owed 22 ls (vI y :: vI x :: st) h Q = tA sc iX11_owed 23 ls (vI (x + y) :: st) h Q := tA_pure mB_X11_owed dX11_owed_22 rfl
theorem rX11_owed_23 : tA sc iX11_owed 23 ls (vI j :: vR (some a) :: st) h Q = oz (tald sc h 0 a j) (fun v => tA sc iX11_owed 24 ls (vI v :: st) h Q) := tA_iald mB_X11_owed dX11_owed_23
theorem rX11_owed_24 : tA sc iX11_owed 24 ls (vI x :: st) h Q = tA sc iX11_owed 25 ls (vL x.toInt64 :: st) h Q := tA_pure mB_X11_owed dX11_owed_24 rfl
theorem rX11_owed_25 : tA sc iX11_owed 25 ls (vL w :: vL u :: st) h Q = tA sc iX11_owed 26 ls (vL (u * w) :: st) h Q := tA_pure mB_X11_owed dX11_owed_25 rfl
theorem rX11_owed_26 : tA sc iX11_owed 26 [l0, l1, l2, l3, l4, l5, l6, l7] (vL u :: st) h Q = tA sc iX11_owed 27 [l0, tclr l1, vL u, vU, l4, l5, l6, l7] st h Q := tA_pure mB_X11_owed dX11_owed_26 rfl
theorem rX11_owed_27 : tA sc iX11_owed 27 ls st h Q = tA sc iX11_owed 28 ls (vI (0) :: st) h Q := tA_pure mB_X11_owed dX11_owed_27 rfl
theorem rX11_owed_28 : tA sc iX11_owed 28 [l0, l1, l2, l3, l4, l5, l6, l7] (vI x :: st) h Q = tA sc iX11_owed 30 [l0, l1, l2, tclr l3, vI x, l5, l6, l7] st h Q := tA_pure mB_X11_owed dX11_owed_28 rfl
theorem rX11_owed_30 : tA sc iX11_owed 30 [l0, l1, l2, l3, vI x, l5, l6, l7] st h Q = tA sc iX11_owed 32 [l0, l1, l2, l3, vI x, l5, l6, l7] (vI x :: st) h Q := tA_pure mB_X11_owed dX11_owed_30 rfl
theorem rX11_owed_32 : tA sc iX11_owed 32 [vR r, l1, l2, l3, l4, l5, l6, l7] st h Q = tA sc iX11_owed 33 [vR r, l1, l2, l3, l4, l5, l6, l7] (vR r :: st) h Q := tA_pure mB_X11_owed dX11_owed_32 rfl
theorem rX11_owed_33 : tA sc iX11_owed 33 ls (vR (some o) :: st) h Q = oz (tget h o [11] 0) (fun v => tA sc iX11_owed 36 ls (v :: st) h Q) := tA_get mB_X11_owed mO_X11_owed dX11_owed_33 fT_11_7
theorem rX11_owed_36 : tA sc iX11_owed 36 ls st h Q = tA sc iX11_owed 37 ls (vI (2) :: st) h Q := tA_pure mB_X11_owed dX11_owed_36 rfl
theorem rX11_owed_37 : tA sc iX11_owed 37 ls (vI j :: vR (some a) :: st) h Q = oz (tald sc h 0 a j) (fun v => tA sc iX11_owed 38 ls (vI v :: st) h Q) := tA_iald mB_X11_owed dX11_owed_37
theorem rX11_owed_38 : tA sc iX11_owed 38 ls (vI y :: vI x :: st) h Q = (if y ≤ x then tA sc iX11_owed 138 ls st h Q else tA sc iX11_owed 41 ls st h Q) := tA_if mB_X11_owed dX11_owed_38 (fun _ _ _ _ => rfl) rfl
theorem rX11_owed_41 : tA sc iX11_owed 41 [vR r, l1, l2, l3, l4, l5, l6, l7] st h Q = tA sc iX11_owed 42 [vR r, l1, l2, l3, l4, l5, l6, l7] (vR r :: st) h Q := tA_pure mB_X11_owed dX11_owed_41 rfl
theorem rX11_owed_42 : tA sc iX11_owed 42 [l0, l1, l2, l3, vI x, l5, l6, l7] st h Q = tA sc iX11_owed 44 [l0, l1, l2, l3, vI x, l5, l6, l7] (vI x :: st) h Q := tA_pure mB_X11_owed dX11_owed_42 rfl
theorem rX11_owed_44 : tA sc iX11_owed 44 ls st h Q = tA sc iX11_owed 45 ls (vI (1) :: st) h Q := tA_pure mB_X11_owed dX11_owed_44 rfl
theorem rX11_owed_45 (hci : tcl h o = some 11) : tA sc iX11_owed 45 ls [vI p1, vI p0, vR (some o)] h Q = tA sc iX11_saying 0 [vR (some o), vI p0, vI p1] [] h (fun v h1 => tA sc iX11_owed 48 ls (tpu v []) h1 Q) := tA_cV mB_X11_owed mO_X11_owed dX11_owed_45 cT_11_232 rfl (Nat.le_of_ble_eq_true rfl) rfl rfl rfl hci
theorem rX11_owed_48 : tA sc iX11_owed 48 [l0, l1, l2, l3, l4, l5, l6, l7] (vI x :: st) h Q = tA sc iX11_owed 50 [l0, l1, l2, l3, tclr l4, vI x, l6, l7] st h Q := tA_pure mB_X11_owed dX11_owed_48 rfl
theorem rX11_owed_50 : tA sc iX11_owed 50 [vR r, l1, l2, l3, l4, l5, l6, l7] st h Q = tA sc iX11_owed 51 [vR r, l1, l2, l3, l4, l5, l6, l7] (vR r :: st) h Q := tA_pure mB_X11_owed dX11_owed_50 rfl
theorem rX11_owed_51 : tA sc iX11_owed 51 [l0, l1, l2, l3, vI x, l5, l6, l7] st h Q = tA sc iX11_owed 53 [l0, l1, l2, l3, vI x, l5, l6, l7] (vI x :: st) h Q := tA_pure mB_X11_owed dX11_owed_51 rfl
theorem rX11_owed_53 : tA sc iX11_owed 53 ls st h Q = tA sc iX11_owed 54 ls (vI (0) :: st) h Q := tA_pure mB_X11_owed dX11_owed_53 rfl
theorem rX11_owed_54 (hci : tcl h o = some 11) : tA sc iX11_owed 54 ls [vI p1, vI p0, vR (some o)] h Q = tA sc iX11_saying 0 [vR (some o), vI p0, vI p1] [] h (fun v h1 => tA sc iX11_owed 57 ls (tpu v []) h1 Q) := tA_cV mB_X11_owed mO_X11_owed dX11_owed_54 cT_11_232 rfl (Nat.le_of_ble_eq_true rfl) rfl rfl rfl hci
theorem rX11_owed_57 : tA sc iX11_owed 57 [l0, vI x, l2, l3, l4, l5, l6, l7] st h Q = tA sc iX11_owed 58 [l0, vI x, l2, l3, l4, l5, l6, l7] (vI x :: st) h Q := tA_pure mB_X11_owed dX11_owed_57 rfl
theorem rX11_owed_58 : tA sc iX11_owed 58 ls (vI y :: vI x :: st) h Q = (if ¬ x = y then tA sc iX11_owed 132 ls st h Q else tA sc iX11_owed 61 ls st h Q) := tA_if mB_X11_owed dX11_owed_58 (fun _ _ _ _ => rfl) rfl
theorem rX11_owed_61 : tA sc iX11_owed 61 [l0, l1, l2, l3, l4, vI x, l6, l7] st h Q = tA sc iX11_owed 63 [l0, l1, l2, l3, l4, vI x, l6, l7] (vI x :: st) h Q := tA_pure mB_X11_owed dX11_owed_61 rfl
theorem rX11_owed_63 : tA sc iX11_owed 63 [vR r, l1, l2, l3, l4, l5, l6, l7] st h Q = tA sc iX11_owed 64 [vR r, l1, l2, l3, l4, l5, l6, l7] (vR r :: st) h Q := tA_pure mB_X11_owed dX11_owed_63 rfl
theorem rX11_owed_64 : tA sc iX11_owed 64 ls (vR (some o) :: st) h Q = oz (tget h o [11] 0) (fun v => tA sc iX11_owed 67 ls (v :: st) h Q) := tA_get mB_X11_owed mO_X11_owed dX11_owed_64 fT_11_7
theorem rX11_owed_67 : tA sc iX11_owed 67 ls st h Q = tA sc iX11_owed 68 ls (vI (0) :: st) h Q := tA_pure mB_X11_owed dX11_owed_67 rfl
theorem rX11_owed_68 : tA sc iX11_owed 68 ls (vI j :: vR (some a) :: st) h Q = oz (tald sc h 0 a j) (fun v => tA sc iX11_owed 69 ls (vI v :: st) h Q) := tA_iald mB_X11_owed dX11_owed_68
theorem rX11_owed_69 : tA sc iX11_owed 69 ls (vI y :: vI x :: st) h Q = (if x < y then tA sc iX11_owed 132 ls st h Q else tA sc iX11_owed 72 ls st h Q) := tA_if mB_X11_owed dX11_owed_69 (fun _ _ _ _ => rfl) rfl
theorem rX11_owed_72 : tA sc iX11_owed 72 [vR r, l1, l2, l3, l4, l5, l6, l7] st h Q = tA sc iX11_owed 73 [vR r, l1, l2, l3, l4, l5, l6, l7] (vR r :: st) h Q := tA_pure mB_X11_owed dX11_owed_72 rfl
theorem rX11_owed_73 : tA sc iX11_owed 73 [l0, l1, l2, l3, l4, vI x, l6, l7] st h Q = tA sc iX11_owed 75 [l0, l1, l2, l3, l4, vI x, l6, l7] (vI x :: st) h Q := tA_pure mB_X11_owed dX11_owed_73 rfl
theorem rX11_owed_75 : tA sc iX11_owed 75 [vR r, l1, l2, l3, l4, l5, l6, l7] st h Q = tA sc iX11_owed 76 [vR r, l1, l2, l3, l4, l5, l6, l7] (vR r :: st) h Q := tA_pure mB_X11_owed dX11_owed_75 rfl
theorem rX11_owed_76 : tA sc iX11_owed 76 [l0, l1, l2, l3, vI x, l5, l6, l7] st h Q = tA sc iX11_owed 78 [l0, l1, l2, l3, vI x, l5, l6, l7] (vI x :: st) h Q := tA_pure mB_X11_owed dX11_owed_76 rfl
theorem rX11_owed_78 : tA sc iX11_owed 78 ls st h Q = tA sc iX11_owed 79 ls (vI (2) :: st) h Q := tA_pure mB_X11_owed dX11_owed_78 rfl
theorem rX11_owed_79 (hci : tcl h o = some 11) : tA sc iX11_owed 79 ls [vI p1, vI p0, vR (some o), s0, s1] h Q = tA sc iX11_saying 0 [vR (some o), vI p0, vI p1] [] h (fun v h1 => tA sc iX11_owed 82 ls (tpu v [s0, s1]) h1 Q) := tA_cV mB_X11_owed mO_X11_owed dX11_owed_79 cT_11_232 rfl (Nat.le_of_ble_eq_true rfl) rfl rfl rfl hci
theorem rX11_owed_82 (hci : tcl h o = some 11) : tA sc iX11_owed 82 ls [vI p1, vI p0, vR (some o)] h Q = tA sc iX11_weightOf 0 [vR (some o), vI p0, vI p1] [] h (fun v h1 => tA sc iX11_owed 85 ls (tpu v []) h1 Q) := tA_cV mB_X11_owed mO_X11_owed dX11_owed_82 cT_11_228 rfl (Nat.le_of_ble_eq_true rfl) rfl rfl rfl hci
theorem rX11_owed_85 : tA sc iX11_owed 85 [l0, l1, l2, l3, l4, l5, l6, l7] (vI x :: st) h Q = tA sc iX11_owed 87 [l0, l1, l2, l3, l4, tclr l5, vI x, l7] st h Q := tA_pure mB_X11_owed dX11_owed_85 rfl
theorem rX11_owed_87 : tA sc iX11_owed 87 [vR r, l1, l2, l3, l4, l5, l6, l7] st h Q = tA sc iX11_owed 88 [vR r, l1, l2, l3, l4, l5, l6, l7] (vR r :: st) h Q := tA_pure mB_X11_owed dX11_owed_87 rfl
theorem rX11_owed_88 : tA sc iX11_owed 88 [l0, l1, l2, l3, l4, vI x, l6, l7] st h Q = tA sc iX11_owed 90 [l0, l1, l2, l3, l4, vI x, l6, l7] (vI x :: st) h Q := tA_pure mB_X11_owed dX11_owed_88 rfl
theorem rX11_owed_90 (hci : tcl h o = some 11) : tA sc iX11_owed 90 ls [vI p0, vR (some o)] h Q = tA sc iX11_allOf 0 [vR (some o), vI p0] [] h (fun v h1 => tA sc iX11_owed 93 ls (tpu v []) h1 Q) := tA_cV mB_X11_owed mO_X11_owed dX11_owed_90 cT_11_277 rfl (Nat.le_of_ble_eq_true rfl) rfl rfl rfl hci
theorem rX11_owed_93 : tA sc iX11_owed 93 [l0, l1, l2, l3, l4, l5, l6, l7] (vI x :: st) h Q = tA sc iX11_owed 95 [l0, l1, l2, l3, l4, l5, tclr l6, vI x] st h Q := tA_pure mB_X11_owed dX11_owed_93 rfl
theorem rX11_owed_95 : tA sc iX11_owed 95 [l0, l1, vL u, l3, l4, l5, l6, l7] st h Q = tA sc iX11_owed 96 [l0, l1, vL u, l3, l4, l5, l6, l7] (vL u :: st) h Q := tA_pure mB_X11_owed dX11_owed_95 rfl
theorem rX11_owed_96 : tA sc iX11_owed 96 ls st h Q = tA sc iX11_owed 99 ls (vL (1000) :: st) h Q := tA_pure mB_X11_owed dX11_owed_96 rfl
theorem rX11_owed_99 : tA sc iX11_owed 99 [vR r, l1, l2, l3, l4, l5, l6, l7] st h Q = tA sc iX11_owed 100 [vR r, l1, l2, l3, l4, l5, l6, l7] (vR r :: st) h Q := tA_pure mB_X11_owed dX11_owed_99 rfl
theorem rX11_owed_100 : tA sc iX11_owed 100 [l0, l1, l2, l3, l4, vI x, l6, l7] st h Q = tA sc iX11_owed 102 [l0, l1, l2, l3, l4, vI x, l6, l7] (vI x :: st) h Q := tA_pure mB_X11_owed dX11_owed_100 rfl
theorem rX11_owed_102 (hci : tcl h o = some 11) : tA sc iX11_owed 102 ls [vI p0, vR (some o), s0, s1] h Q = tA sc iX11_earn 0 [vR (some o), vI p0] [] h (fun v h1 => tA sc iX11_owed 105 ls (tpu v [s0, s1]) h1 Q) := tA_cV mB_X11_owed mO_X11_owed dX11_owed_102 cT_11_238 rfl (Nat.le_of_ble_eq_true rfl) rfl rfl rfl hci
theorem rX11_owed_105 : tA sc iX11_owed 105 ls (vI x :: st) h Q = tA sc iX11_owed 106 ls (vL x.toInt64 :: st) h Q := tA_pure mB_X11_owed dX11_owed_105 rfl
theorem rX11_owed_106 : tA sc iX11_owed 106 [l0, l1, l2, l3, l4, l5, vI x, l7] st h Q = tA sc iX11_owed 108 [l0, l1, l2, l3, l4, l5, vI x, l7] (vI x :: st) h Q := tA_pure mB_X11_owed dX11_owed_106 rfl
theorem rX11_owed_108 : tA sc iX11_owed 108 ls (vI x :: st) h Q = tA sc iX11_owed 109 ls (vL x.toInt64 :: st) h Q := tA_pure mB_X11_owed dX11_owed_108 rfl
theorem rX11_owed_109 : tA sc iX11_owed 109 ls (vL w :: vL u :: st) h Q = tA sc iX11_owed 110 ls (vL (u * w) :: st) h Q := tA_pure mB_X11_owed dX11_owed_109 rfl
theorem rX11_owed_110 : tA sc iX11_owed 110 [vR r, l1, l2, l3, l4, l5, l6, l7] st h Q = tA sc iX11_owed 111 [vR r, l1, l2, l3, l4, l5, l6, l7] (vR r :: st) h Q := tA_pure mB_X11_owed dX11_owed_110 rfl
theorem rX11_owed_111 : tA sc iX11_owed 111 ls (vR (some o) :: st) h Q = oz (tget h o [11] 6) (fun v => tA sc iX11_owed 114 ls (v :: st) h Q) := tA_get mB_X11_owed mO_X11_owed dX11_owed_111 fT_11_22
theorem rX11_owed_114 : tA sc iX11_owed 114 ls st h Q = tA sc iX11_owed 115 ls (vI (1) :: st) h Q := tA_pure mB_X11_owed dX11_owed_114 rfl
theorem rX11_owed_115 : tA sc iX11_owed 115 ls (vI j :: vR (some a) :: st) h Q = oz (tald sc h 0 a j) (fun v => tA sc iX11_owed 116 ls (vI v :: st) h Q) := tA_iald mB_X11_owed dX11_owed_115
theorem rX11_owed_116 : tA sc iX11_owed 116 ls (vI x :: st) h Q = tA sc iX11_owed 117 ls (vL x.toInt64 :: st) h Q := tA_pure mB_X11_owed dX11_owed_116 rfl
theorem rX11_owed_117 : tA sc iX11_owed 117 [l0, l1, l2, l3, l4, l5, l6, vI x] st h Q = tA sc iX11_owed 119 [l0, l1, l2, l3, l4, l5, l6, vI x] (vI x :: st) h Q := tA_pure mB_X11_owed dX11_owed_117 rfl
theorem rX11_owed_119 : tA sc iX11_owed 119 [l0, l1, l2, l3, l4, l5, vI x, l7] st h Q = tA sc iX11_owed 121 [l0, l1, l2, l3, l4, l5, vI x, l7] (vI x :: st) h Q := tA_pure mB_X11_owed dX11_owed_119 rfl
theorem rX11_owed_121 : tA sc iX11_owed 121 ls (vI y :: vI x :: st) h Q = tA sc iX11_owed 122 ls (vI (x - y) :: st) h Q := tA_pure mB_X11_owed dX11_owed_121 rfl
theorem rX11_owed_122 : tA sc iX11_owed 122 ls (vI x :: st) h Q = tA sc iX11_owed 123 ls (vL x.toInt64 :: st) h Q := tA_pure mB_X11_owed dX11_owed_122 rfl
theorem rX11_owed_123 : tA sc iX11_owed 123 ls (vL w :: vL u :: st) h Q = tA sc iX11_owed 124 ls (vL (u * w) :: st) h Q := tA_pure mB_X11_owed dX11_owed_123 rfl
theorem rX11_owed_124 : tA sc iX11_owed 124 ls (vL w :: vL u :: st) h Q = tA sc iX11_owed 125 ls (vL (u - w) :: st) h Q := tA_pure mB_X11_owed dX11_owed_124 rfl
theorem rX11_owed_125 : tA sc iX11_owed 125 ls (vL w :: vL u :: st) h Q = tA sc iX11_owed 126 ls (vL (u * w) :: st) h Q := tA_pure mB_X11_owed dX11_owed_125 rfl
theorem rX11_owed_126 : tA sc iX11_owed 126 [l0, l1, l2, l3, l4, l5, l6, vI x] st h Q = tA sc iX11_owed 128 [l0, l1, l2, l3, l4, l5, l6, vI x] (vI x :: st) h Q := tA_pure mB_X11_owed dX11_owed_126 rfl
theorem rX11_owed_128 : tA sc iX11_owed 128 ls (vI x :: st) h Q = tA sc iX11_owed 129 ls (vL x.toInt64 :: st) h Q := tA_pure mB_X11_owed dX11_owed_128 rfl
theorem rX11_owed_129 : tA sc iX11_owed 129 ls (vL w :: vL u :: st) h Q = (¬ w = 0 ∧ tA sc iX11_owed 130 ls (vL (u / w) :: st) h Q) := tA_divl mB_X11_owed dX11_owed_129 (fun _ _ _ => rfl) (fun _ _ _ _ _ => rfl) rfl (fun _ _ => rfl) rfl
theorem rX11_owed_130 : tA sc iX11_owed 130 ls (vL w :: vL u :: st) h Q = tA sc iX11_owed 131 ls (vL (u + w) :: st) h Q := tA_pure mB_X11_owed dX11_owed_130 rfl
theorem rX11_owed_131 : tA sc iX11_owed 131 [l0, l1, l2, l3, l4, l5, l6, l7] (vL u :: st) h Q = tA sc iX11_owed 132 [l0, tclr l1, vL u, vU, l4, l5, l6, l7] st h Q := tA_pure mB_X11_owed dX11_owed_131 rfl
theorem rX11_owed_132 : tA sc iX11_owed 132 [l0, l1, l2, l3, vI x, l5, l6, l7] st h Q = tA sc iX11_owed 135 [l0, l1, l2, tclr l3, vI (x + 1), l5, l6, l7] st h Q := tA_pure mB_X11_owed dX11_owed_132 rfl
theorem rX11_owed_135 : tA sc iX11_owed 135 ls st h Q = tA sc iX11_owed 30 ls st h Q := tA_jump mB_X11_owed dX11_owed_135 (fun _ _ _ _ => rfl) rfl
theorem rX11_owed_138 : tA sc iX11_owed 138 [l0, l1, vL u, l3, l4, l5, l6, l7] st h Q = tA sc iX11_owed 139 [l0, l1, vL u, l3, l4, l5, l6, l7] (vL u :: st) h Q := tA_pure mB_X11_owed dX11_owed_138 rfl
theorem rX11_owed_139 : tA sc iX11_owed 139 ls [vL u] h Q = Q (some (vL u)) h := tA_ret mB_X11_owed dX11_owed_139 (fun _ _ _ _ => rfl) (fun _ _ _ => rfl) (fun _ _ _ _ _ => rfl) rfl rfl
theorem mB_X11_findRight : mB iX11_findRight = cX11_findRight := rfl
theorem mO_X11_findRight : mO iX11_findRight = 11 := rfl
theorem rX11_findRight_0 : tA sc iX11_findRight 0 [vR r, l1, l2, l3] st h Q = tA sc iX11_findRight 1 [vR r, l1, l2, l3] (vR r :: st) h Q := tA_pure mB_X11_findRight dX11_findRight_0 rfl
theorem rX11_findRight_1 : tA sc iX11_findRight 1 ls st h Q = tA sc iX11_findRight 2 ls (vI (0) :: st) h Q := tA_pure mB_X11_findRight dX11_findRight_1 rfl
theorem rX11_findRight_2 : tA sc iX11_findRight 2 ls (v :: vR (some o) :: st) h Q = oz (tput h o [11] 31 0 v) (fun h' => tA sc iX11_findRight 5 ls st h' Q) := tA_put mB_X11_findRight mO_X11_findRight dX11_findRight_2 fT_11_326 (Or.inl (by decide))
theorem rX11_findRight_5 : tA sc iX11_findRight 5 [vR r, l1, l2, l3] st h Q = tA sc iX11_findRight 6 [vR r, l1, l2, l3] (vR r :: st) h Q := tA_pure mB_X11_findRight dX11_findRight_5 rfl
theorem rX11_findRight_6 : tA sc iX11_findRight 6 ls st h Q = tA sc iX11_findRight 7 ls (vI (0) :: st) h Q := tA_pure mB_X11_findRight dX11_findRight_6 rfl
theorem rX11_findRight_7 : tA sc iX11_findRight 7 ls (v :: vR (some o) :: st) h Q = oz (tput h o [11] 32 0 v) (fun h' => tA sc iX11_findRight 10 ls st h' Q) := tA_put mB_X11_findRight mO_X11_findRight dX11_findRight_7 fT_11_329 (Or.inl (by decide))
theorem rX11_findRight_10 : tA sc iX11_findRight 10 ls st h Q = tA sc iX11_findRight 11 ls (vI (0) :: st) h Q := tA_pure mB_X11_findRight dX11_findRight_10 rfl
theorem rX11_findRight_11 : tA sc iX11_findRight 11 [l0, l1, l2, l3] (vI x :: st) h Q = tA sc iX11_findRight 12 [l0, tclr l1, vI x, l3] st h Q := tA_pure mB_X11_findRight dX11_findRight_11 rfl
theorem rX11_findRight_12 : tA sc iX11_findRight 12 [l0, l1, vI x, l3] st h Q = tA sc iX11_findRight 13 [l0, l1, vI x, l3] (vI x :: st) h Q := tA_pure mB_X11_findRight dX11_findRight_12 rfl
theorem rX11_findRight_13 : tA sc iX11_findRight 13 [vR r, l1, l2, l3] st h Q = tA sc iX11_findRight 14 [vR r, l1, l2, l3] (vR r :: st) h Q := tA_pure mB_X11_findRight dX11_findRight_13 rfl
theorem rX11_findRight_14 : tA sc iX11_findRight 14 ls (vR (some o) :: st) h Q = oz (tget h o [11] 0) (fun v => tA sc iX11_findRight 17 ls (v :: st) h Q) := tA_get mB_X11_findRight mO_X11_findRight dX11_findRight_14 fT_11_7
theorem rX11_findRight_17 : tA sc iX11_findRight 17 ls st h Q = tA sc iX11_findRight 18 ls (vI (2) :: st) h Q := tA_pure mB_X11_findRight dX11_findRight_17 rfl
theorem rX11_findRight_18 : tA sc iX11_findRight 18 ls (vI j :: vR (some a) :: st) h Q = oz (tald sc h 0 a j) (fun v => tA sc iX11_findRight 19 ls (vI v :: st) h Q) := tA_iald mB_X11_findRight dX11_findRight_18
theorem rX11_findRight_19 : tA sc iX11_findRight 19 ls (vI y :: vI x :: st) h Q = (if y ≤ x then tA sc iX11_findRight 97 ls st h Q else tA sc iX11_findRight 22 ls st h Q) := tA_if mB_X11_findRight dX11_findRight_19 (fun _ _ _ _ => rfl) rfl
theorem rX11_findRight_22 : tA sc iX11_findRight 22 [vR r, l1, l2, l3] st h Q = tA sc iX11_findRight 23 [vR r, l1, l2, l3] (vR r :: st) h Q := tA_pure mB_X11_findRight dX11_findRight_22 rfl
theorem rX11_findRight_23 : tA sc iX11_findRight 23 [l0, l1, vI x, l3] st h Q = tA sc iX11_findRight 24 [l0, l1, vI x, l3] (vI x :: st) h Q := tA_pure mB_X11_findRight dX11_findRight_23 rfl
theorem rX11_findRight_24 : tA sc iX11_findRight 24 ls st h Q = tA sc iX11_findRight 25 ls (vI (1) :: st) h Q := tA_pure mB_X11_findRight dX11_findRight_24 rfl
theorem rX11_findRight_25 (hci : tcl h o = some 11) : tA sc iX11_findRight 25 ls [vI p1, vI p0, vR (some o)] h Q = tA sc iX11_saying 0 [vR (some o), vI p0, vI p1] [] h (fun v h1 => tA sc iX11_findRight 28 ls (tpu v []) h1 Q) := tA_cV mB_X11_findRight mO_X11_findRight dX11_findRight_25 cT_11_232 rfl (Nat.le_of_ble_eq_true rfl) rfl rfl rfl hci
theorem rX11_findRight_28 : tA sc iX11_findRight 28 [l0, l1, l2, l3] (vI x :: st) h Q = tA sc iX11_findRight 29 [l0, l1, tclr l2, vI x] st h Q := tA_pure mB_X11_findRight dX11_findRight_28 rfl
theorem rX11_findRight_29 : tA sc iX11_findRight 29 [vR r, l1, l2, l3] st h Q = tA sc iX11_findRight 30 [vR r, l1, l2, l3] (vR r :: st) h Q := tA_pure mB_X11_findRight dX11_findRight_29 rfl
theorem rX11_findRight_30 : tA sc iX11_findRight 30 [l0, l1, vI x, l3] st h Q = tA sc iX11_findRight 31 [l0, l1, vI x, l3] (vI x :: st) h Q := tA_pure mB_X11_findRight dX11_findRight_30 rfl
theorem rX11_findRight_31 : tA sc iX11_findRight 31 ls st h Q = tA sc iX11_findRight 32 ls (vI (0) :: st) h Q := tA_pure mB_X11_findRight dX11_findRight_31 rfl
theorem rX11_findRight_32 (hci : tcl h o = some 11) : tA sc iX11_findRight 32 ls [vI p1, vI p0, vR (some o)] h Q = tA sc iX11_saying 0 [vR (some o), vI p0, vI p1] [] h (fun v h1 => tA sc iX11_findRight 35 ls (tpu v []) h1 Q) := tA_cV mB_X11_findRight mO_X11_findRight dX11_findRight_32 cT_11_232 rfl (Nat.le_of_ble_eq_true rfl) rfl rfl rfl hci
theorem rX11_findRight_35 : tA sc iX11_findRight 35 [l0, vI x, l2, l3] st h Q = tA sc iX11_findRight 36 [l0, vI x, l2, l3] (vI x :: st) h Q := tA_pure mB_X11_findRight dX11_findRight_35 rfl
theorem rX11_findRight_36 : tA sc iX11_findRight 36 ls (vI y :: vI x :: st) h Q = (if ¬ x = y then tA sc iX11_findRight 91 ls st h Q else tA sc iX11_findRight 39 ls st h Q) := tA_if mB_X11_findRight dX11_findRight_36 (fun _ _ _ _ => rfl) rfl
theorem rX11_findRight_39 : tA sc iX11_findRight 39 [l0, l1, l2, vI x] st h Q = tA sc iX11_findRight 40 [l0, l1, l2, vI x] (vI x :: st) h Q := tA_pure mB_X11_findRight dX11_findRight_39 rfl
theorem rX11_findRight_40 : tA sc iX11_findRight 40 [vR r, l1, l2, l3] st h Q = tA sc iX11_findRight 41 [vR r, l1, l2, l3] (vR r :: st) h Q := tA_pure mB_X11_findRight dX11_findRight_40 rfl
theorem rX11_findRight_41 : tA sc iX11_findRight 41 ls (vR (some o) :: st) h Q = oz (tget h o [11] 0) (fun v => tA sc iX11_findRight 44 ls (v :: st) h Q) := tA_get mB_X11_findRight mO_X11_findRight dX11_findRight_41 fT_11_7
theorem rX11_findRight_44 : tA sc iX11_findRight 44 ls st h Q = tA sc iX11_findRight 45 ls (vI (0) :: st) h Q := tA_pure mB_X11_findRight dX11_findRight_44 rfl
theorem rX11_findRight_45 : tA sc iX11_findRight 45 ls (vI j :: vR (some a) :: st) h Q = oz (tald sc h 0 a j) (fun v => tA sc iX11_findRight 46 ls (vI v :: st) h Q) := tA_iald mB_X11_findRight dX11_findRight_45
theorem rX11_findRight_46 : tA sc iX11_findRight 46 ls (vI y :: vI x :: st) h Q = (if y ≤ x then tA sc iX11_findRight 91 ls st h Q else tA sc iX11_findRight 49 ls st h Q) := tA_if mB_X11_findRight dX11_findRight_46 (fun _ _ _ _ => rfl) rfl
theorem rX11_findRight_49 : tA sc iX11_findRight 49 [vR r, l1, l2, l3] st h Q = tA sc iX11_findRight 50 [vR r, l1, l2, l3] (vR r :: st) h Q := tA_pure mB_X11_findRight dX11_findRight_49 rfl
theorem rX11_findRight_50 : tA sc iX11_findRight 50 ls (vR r :: st) h Q = tA sc iX11_findRight 51 ls (vR r :: vR r :: st) h Q := tA_pure mB_X11_findRight dX11_findRight_50 rfl
theorem rX11_findRight_51 : tA sc iX11_findRight 51 ls (vR (some o) :: st) h Q = oz (tget h o [11] 32) (fun v => tA sc iX11_findRight 54 ls (v :: st) h Q) := tA_get mB_X11_findRight mO_X11_findRight dX11_findRight_51 fT_11_329
theorem rX11_findRight_54 : tA sc iX11_findRight 54 ls st h Q = tA sc iX11_findRight 55 ls (vI (1) :: st) h Q := tA_pure mB_X11_findRight dX11_findRight_54 rfl
theorem rX11_findRight_55 : tA sc iX11_findRight 55 ls (vI y :: vI x :: st) h Q = tA sc iX11_findRight 56 ls (vI (x + y) :: st) h Q := tA_pure mB_X11_findRight dX11_findRight_55 rfl
theorem rX11_findRight_56 : tA sc iX11_findRight 56 ls (v :: vR (some o) :: st) h Q = oz (tput h o [11] 32 0 v) (fun h' => tA sc iX11_findRight 59 ls st h' Q) := tA_put mB_X11_findRight mO_X11_findRight dX11_findRight_56 fT_11_329 (Or.inl (by decide))
theorem rX11_findRight_59 : tA sc iX11_findRight 59 [vR r, l1, l2, l3] st h Q = tA sc iX11_findRight 60 [vR r, l1, l2, l3] (vR r :: st) h Q := tA_pure mB_X11_findRight dX11_findRight_59 rfl
theorem rX11_findRight_60 : tA sc iX11_findRight 60 ls (vR r :: st) h Q = tA sc iX11_findRight 61 ls (vR r :: vR r :: st) h Q := tA_pure mB_X11_findRight dX11_findRight_60 rfl
theorem rX11_findRight_61 : tA sc iX11_findRight 61 ls (vR (some o) :: st) h Q = oz (tget h o [11] 31) (fun v => tA sc iX11_findRight 64 ls (v :: st) h Q) := tA_get mB_X11_findRight mO_X11_findRight dX11_findRight_61 fT_11_326
theorem rX11_findRight_64 : tA sc iX11_findRight 64 [vR r, l1, l2, l3] st h Q = tA sc iX11_findRight 65 [vR r, l1, l2, l3] (vR r :: st) h Q := tA_pure mB_X11_findRight dX11_findRight_64 rfl
theorem rX11_findRight_65 : tA sc iX11_findRight 65 ls (vR (some o) :: st) h Q = oz (tget h o [11] 0) (fun v => tA sc iX11_findRight 68 ls (v :: st) h Q) := tA_get mB_X11_findRight mO_X11_findRight dX11_findRight_65 fT_11_7
theorem rX11_findRight_68 : tA sc iX11_findRight 68 ls st h Q = tA sc iX11_findRight 70 ls (vI (23) :: st) h Q := tA_pure mB_X11_findRight dX11_findRight_68 rfl
theorem rX11_findRight_70 : tA sc iX11_findRight 70 [l0, l1, l2, vI x] st h Q = tA sc iX11_findRight 71 [l0, l1, l2, vI x] (vI x :: st) h Q := tA_pure mB_X11_findRight dX11_findRight_70 rfl
theorem rX11_findRight_71 : tA sc iX11_findRight 71 ls (vI y :: vI x :: st) h Q = tA sc iX11_findRight 72 ls (vI (x + y) :: st) h Q := tA_pure mB_X11_findRight dX11_findRight_71 rfl
theorem rX11_findRight_72 : tA sc iX11_findRight 72 ls (vI j :: vR (some a) :: st) h Q = oz (tald sc h 0 a j) (fun v => tA sc iX11_findRight 73 ls (vI v :: st) h Q) := tA_iald mB_X11_findRight dX11_findRight_72
theorem rX11_findRight_73 : tA sc iX11_findRight 73 [vR r, l1, l2, l3] st h Q = tA sc iX11_findRight 74 [vR r, l1, l2, l3] (vR r :: st) h Q := tA_pure mB_X11_findRight dX11_findRight_73 rfl
theorem rX11_findRight_74 : tA sc iX11_findRight 74 [l0, l1, vI x, l3] st h Q = tA sc iX11_findRight 75 [l0, l1, vI x, l3] (vI x :: st) h Q := tA_pure mB_X11_findRight dX11_findRight_74 rfl
theorem rX11_findRight_75 : tA sc iX11_findRight 75 ls st h Q = tA sc iX11_findRight 76 ls (vI (2) :: st) h Q := tA_pure mB_X11_findRight dX11_findRight_75 rfl
theorem rX11_findRight_76 (hci : tcl h o = some 11) : tA sc iX11_findRight 76 ls [vI p1, vI p0, vR (some o), s0, s1, s2] h Q = tA sc iX11_saying 0 [vR (some o), vI p0, vI p1] [] h (fun v h1 => tA sc iX11_findRight 79 ls (tpu v [s0, s1, s2]) h1 Q) := tA_cV mB_X11_findRight mO_X11_findRight dX11_findRight_76 cT_11_232 rfl (Nat.le_of_ble_eq_true rfl) rfl rfl rfl hci
theorem rX11_findRight_79 : tA sc iX11_findRight 79 ls (vI y :: vI x :: st) h Q = (if ¬ x = y then tA sc iX11_findRight 86 ls st h Q else tA sc iX11_findRight 82 ls st h Q) := tA_if mB_X11_findRight dX11_findRight_79 (fun _ _ _ _ => rfl) rfl
theorem rX11_findRight_82 : tA sc iX11_findRight 82 ls st h Q = tA sc iX11_findRight 83 ls (vI (1) :: st) h Q := tA_pure mB_X11_findRight dX11_findRight_82 rfl
theorem rX11_findRight_83 : tA sc iX11_findRight 83 ls st h Q = tA sc iX11_findRight 87 ls st h Q := tA_jump mB_X11_findRight dX11_findRight_83 (fun _ _ _ _ => rfl) rfl
theorem rX11_findRight_86 : tA sc iX11_findRight 86 ls st h Q = tA sc iX11_findRight 87 ls (vI (0) :: st) h Q := tA_pure mB_X11_findRight dX11_findRight_86 rfl
theorem rX11_findRight_87 : tA sc iX11_findRight 87 ls (vI y :: vI x :: st) h Q = tA sc iX11_findRight 88 ls (vI (x + y) :: st) h Q := tA_pure mB_X11_findRight dX11_findRight_87 rfl
theorem rX11_findRight_88 : tA sc iX11_findRight 88 ls (v :: vR (some o) :: st) h Q = oz (tput h o [11] 31 0 v) (fun h' => tA sc iX11_findRight 91 ls st h' Q) := tA_put mB_X11_findRight mO_X11_findRight dX11_findRight_88 fT_11_326 (Or.inl (by decide))
theorem rX11_findRight_91 : tA sc iX11_findRight 91 [l0, l1, vI x, l3] st h Q = tA sc iX11_findRight 94 [l0, tclr l1, vI (x + 1), l3] st h Q := tA_pure mB_X11_findRight dX11_findRight_91 rfl
theorem rX11_findRight_94 : tA sc iX11_findRight 94 ls st h Q = tA sc iX11_findRight 12 ls st h Q := tA_jump mB_X11_findRight dX11_findRight_94 (fun _ _ _ _ => rfl) rfl
theorem rX11_findRight_97 : tA sc iX11_findRight 97 [vR r, l1, l2, l3] st h Q = tA sc iX11_findRight 98 [vR r, l1, l2, l3] (vR r :: st) h Q := tA_pure mB_X11_findRight dX11_findRight_97 rfl
theorem rX11_findRight_98 : tA sc iX11_findRight 98 [vR r, l1, l2, l3] st h Q = tA sc iX11_findRight 99 [vR r, l1, l2, l3] (vR r :: st) h Q := tA_pure mB_X11_findRight dX11_findRight_98 rfl
theorem rX11_findRight_99 : tA sc iX11_findRight 99 ls (vR (some o) :: st) h Q = oz (tget h o [11] 32) (fun v => tA sc iX11_findRight 102 ls (v :: st) h Q) := tA_get mB_X11_findRight mO_X11_findRight dX11_findRight_99 fT_11_329
theorem rX11_findRight_102 : tA sc iX11_findRight 102 ls (vI x :: st) h Q = (if ¬ x = 0 then tA sc iX11_findRight 109 ls st h Q else tA sc iX11_findRight 105 ls st h Q) := tA_if mB_X11_findRight dX11_findRight_102 (fun _ _ _ _ => rfl) rfl
theorem rX11_findRight_105 : tA sc iX11_findRight 105 ls st h Q = tA sc iX11_findRight 106 ls (vI (1) :: st) h Q := tA_pure mB_X11_findRight dX11_findRight_105 rfl
theorem rX11_findRight_106 : tA sc iX11_findRight 106 ls st h Q = tA sc iX11_findRight 113 ls st h Q := tA_jump mB_X11_findRight dX11_findRight_106 (fun _ _ _ _ => rfl) rfl
theorem rX11_findRight_109 : tA sc iX11_findRight 109 [vR r, l1, l2, l3] st h Q = tA sc iX11_findRight 110 [vR r, l1, l2, l3] (vR r :: st) h Q := tA_pure mB_X11_findRight dX11_findRight_109 rfl
theorem rX11_findRight_110 : tA sc iX11_findRight 110 ls (vR (some o) :: st) h Q = oz (tget h o [11] 32) (fun v => tA sc iX11_findRight 113 ls (v :: st) h Q) := tA_get mB_X11_findRight mO_X11_findRight dX11_findRight_110 fT_11_329
theorem rX11_findRight_113 : tA sc iX11_findRight 113 ls (v :: vR (some o) :: st) h Q = oz (tput h o [11] 32 0 v) (fun h' => tA sc iX11_findRight 116 ls st h' Q) := tA_put mB_X11_findRight mO_X11_findRight dX11_findRight_113 fT_11_329 (Or.inl (by decide))
theorem rX11_findRight_116 : tA sc iX11_findRight 116 ls [] h Q = Q (none) h := tA_ret mB_X11_findRight dX11_findRight_116 (fun _ _ _ _ => rfl) (fun _ _ _ => rfl) (fun _ _ _ _ _ => rfl) rfl rfl
theorem mB_X11_believed : mB iX11_believed = cX11_believed := rfl
theorem mO_X11_believed : mO iX11_believed = 11 := rfl
theorem rX11_believed_0 : tA sc iX11_believed 0 [vR r, l1, l2] st h Q = tA sc iX11_believed 1 [vR r, l1, l2] (vR r :: st) h Q := tA_pure mB_X11_believed dX11_believed_0 rfl
theorem rX11_believed_1 : tA sc iX11_believed 1 [l0, vI x, l2] st h Q = tA sc iX11_believed 2 [l0, vI x, l2] (vI x :: st) h Q := tA_pure mB_X11_believed dX11_believed_1 rfl
theorem rX11_believed_2 (hci : tcl h o = some 11) : tA sc iX11_believed 2 ls [vI p0, vR (some o)] h Q = tA sc iX11_isSayer 0 [vR (some o), vI p0] [] h (fun v h1 => tA sc iX11_believed 5 ls (tpu v []) h1 Q) := tA_cV mB_X11_believed mO_X11_believed dX11_believed_2 cT_11_247 rfl (Nat.le_of_ble_eq_true rfl) rfl rfl rfl hci
theorem rX11_believed_5 : tA sc iX11_believed 5 ls (vI x :: st) h Q = (if x = 0 then tA sc iX11_believed 15 ls st h Q else tA sc iX11_believed 8 ls st h Q) := tA_if mB_X11_believed dX11_believed_5 (fun _ _ _ _ => rfl) rfl
theorem rX11_believed_8 : tA sc iX11_believed 8 [l0, l1, vI x] st h Q = tA sc iX11_believed 9 [l0, l1, vI x] (vI x :: st) h Q := tA_pure mB_X11_believed dX11_believed_8 rfl
theorem rX11_believed_9 : tA sc iX11_believed 9 ls [vI p0] h Q = tA sc iX11_isSide 0 [vI p0] [] h (fun v h1 => tA sc iX11_believed 12 ls (tpu v []) h1 Q) := tA_cS mB_X11_believed mO_X11_believed dX11_believed_9 cT_11_303 ⟨Nat.le_of_ble_eq_true rfl, Nat.le_of_ble_eq_true rfl⟩ rfl rfl rfl rfl
theorem rX11_believed_12 : tA sc iX11_believed 12 ls (vI x :: st) h Q = (if ¬ x = 0 then tA sc iX11_believed 17 ls st h Q else tA sc iX11_believed 15 ls st h Q) := tA_if mB_X11_believed dX11_believed_12 (fun _ _ _ _ => rfl) rfl
theorem rX11_believed_15 : tA sc iX11_believed 15 ls st h Q = tA sc iX11_believed 16 ls (vI (-1) :: st) h Q := tA_pure mB_X11_believed dX11_believed_15 rfl
theorem rX11_believed_16 : tA sc iX11_believed 16 ls [vI x] h Q = Q (some (vI x)) h := tA_ret mB_X11_believed dX11_believed_16 (fun _ _ _ _ => rfl) (fun _ _ _ => rfl) (fun _ _ _ _ _ => rfl) rfl rfl
theorem rX11_believed_17 : tA sc iX11_believed 17 [vR r, l1, l2] st h Q = tA sc iX11_believed 18 [vR r, l1, l2] (vR r :: st) h Q := tA_pure mB_X11_believed dX11_believed_17 rfl
theorem rX11_believed_18 : tA sc iX11_believed 18 [l0, vI x, l2] st h Q = tA sc iX11_believed 19 [l0, vI x, l2] (vI x :: st) h Q := tA_pure mB_X11_believed dX11_believed_18 rfl
theorem rX11_believed_19 (hci : tcl h o = some 11) : tA sc iX11_believed 19 ls [vI p0, vR (some o)] h Q = tA sc iX11_findRight 0 [vR (some o), vI p0, vU, vU] [] h (fun v h1 => tA sc iX11_believed 22 ls (tpu v []) h1 Q) := tA_cV mB_X11_believed mO_X11_believed dX11_believed_19 cT_11_332 rfl (Nat.le_of_ble_eq_true rfl) rfl rfl rfl hci
theorem rX11_believed_22 : tA sc iX11_believed 22 [vR r, l1, l2] st h Q = tA sc iX11_believed 23 [vR r, l1, l2] (vR r :: st) h Q := tA_pure mB_X11_believed dX11_believed_22 rfl
theorem rX11_believed_23 : tA sc iX11_believed 23 [vR r, l1, l2] st h Q = tA sc iX11_believed 24 [vR r, l1, l2] (vR r :: st) h Q := tA_pure mB_X11_believed dX11_believed_23 rfl
theorem rX11_believed_24 : tA sc iX11_believed 24 ls (vR (some o) :: st) h Q = oz (tget h o [11] 31) (fun v => tA sc iX11_believed 27 ls (v :: st) h Q) := tA_get mB_X11_believed mO_X11_believed dX11_believed_24 fT_11_326
theorem rX11_believed_27 : tA sc iX11_believed 27 ls (vI x :: st) h Q = tA sc iX11_believed 28 ls (vL x.toInt64 :: st) h Q := tA_pure mB_X11_believed dX11_believed_27 rfl
theorem rX11_believed_28 : tA sc iX11_believed 28 [vR r, l1, l2] st h Q = tA sc iX11_believed 29 [vR r, l1, l2] (vR r :: st) h Q := tA_pure mB_X11_believed dX11_believed_28 rfl
theorem rX11_believed_29 : tA sc iX11_believed 29 ls (vR (some o) :: st) h Q = oz (tget h o [11] 32) (fun v => tA sc iX11_believed 32 ls (v :: st) h Q) := tA_get mB_X11_believed mO_X11_believed dX11_believed_29 fT_11_329
theorem rX11_believed_32 : tA sc iX11_believed 32 ls (vI x :: st) h Q = tA sc iX11_believed 33 ls (vL x.toInt64 :: st) h Q := tA_pure mB_X11_believed dX11_believed_32 rfl
theorem rX11_believed_33 (hci : tcl h o = some 11) : tA sc iX11_believed 33 ls [vL q1, vL q0, vR (some o)] h Q = tA sc iX11_lowest 0 [vR (some o), vL q0, vU, vL q1, vU, vU, vU, vU, vU, vU, vU] [] h (fun v h1 => tA sc iX11_believed 36 ls (tpu v []) h1 Q) := tA_cV mB_X11_believed mO_X11_believed dX11_believed_33 cT_11_306 rfl (Nat.le_of_ble_eq_true rfl) rfl rfl rfl hci
theorem rX11_believed_36 : tA sc iX11_believed 36 [vR r, l1, l2] st h Q = tA sc iX11_believed 37 [vR r, l1, l2] (vR r :: st) h Q := tA_pure mB_X11_believed dX11_believed_36 rfl
theorem rX11_believed_37 : tA sc iX11_believed 37 [l0, l1, vI x] st h Q = tA sc iX11_believed 38 [l0, l1, vI x] (vI x :: st) h Q := tA_pure mB_X11_believed dX11_believed_37 rfl
theorem rX11_believed_38 (hci : tcl h o = some 11) : tA sc iX11_believed 38 ls [vI p0, vR (some o)] h Q = tA sc iX11_toldPart 0 [vR (some o), vI p0] [] h (fun v h1 => tA sc iX11_believed 41 ls (tpu v []) h1 Q) := tA_cV mB_X11_believed mO_X11_believed dX11_believed_38 cT_11_310 rfl (Nat.le_of_ble_eq_true rfl) rfl rfl rfl hci
theorem rX11_believed_41 : tA sc iX11_believed 41 ls (vL u :: st) h Q = tA sc iX11_believed 42 ls (vI u.toInt32 :: st) h Q := tA_pure mB_X11_believed dX11_believed_41 rfl
theorem rX11_believed_42 : tA sc iX11_believed 42 ls [vI x] h Q = Q (some (vI x)) h := tA_ret mB_X11_believed dX11_believed_42 (fun _ _ _ _ => rfl) (fun _ _ _ => rfl) (fun _ _ _ _ _ => rfl) rfl rfl
theorem mB_X11_whom : mB iX11_whom = cX11_whom := rfl
theorem mO_X11_whom : mO iX11_whom = 11 := rfl
theorem rX11_whom_0 : tA sc iX11_whom 0 ls st h Q = tA sc iX11_whom 2 ls (vI (-3) :: st) h Q := tA_pure mB_X11_whom dX11_whom_0 rfl
theorem rX11_whom_2 : tA sc iX11_whom 2 [l0, l1, l2, l3, l4] (vI x :: st) h Q = tA sc iX11_whom 3 [tclr l0, vI x, l2, l3, l4] st h Q := tA_pure mB_X11_whom dX11_whom_2 rfl
theorem rX11_whom_3 : tA sc iX11_whom 3 ls st h Q = tA sc iX11_whom 4 ls (vI (0) :: st) h Q := tA_pure mB_X11_whom dX11_whom_3 rfl
theorem rX11_whom_4 : tA sc iX11_whom 4 [l0, l1, l2, l3, l4] (vI x :: st) h Q = tA sc iX11_whom 5 [l0, tclr l1, vI x, l3, l4] st h Q := tA_pure mB_X11_whom dX11_whom_4 rfl
theorem rX11_whom_5 : tA sc iX11_whom 5 ls st h Q = tA sc iX11_whom 6 ls (vI (1) :: st) h Q := tA_pure mB_X11_whom dX11_whom_5 rfl
theorem rX11_whom_6 : tA sc iX11_whom 6 [l0, l1, l2, l3, l4] (vI x :: st) h Q = tA sc iX11_whom 7 [l0, l1, tclr l2, vI x, l4] st h Q := tA_pure mB_X11_whom dX11_whom_6 rfl
theorem rX11_whom_7 : tA sc iX11_whom 7 ls st h Q = tA sc iX11_whom 8 ls (vI (0) :: st) h Q := tA_pure mB_X11_whom dX11_whom_7 rfl
theorem rX11_whom_8 : tA sc iX11_whom 8 [l0, l1, l2, l3, l4] (vI x :: st) h Q = tA sc iX11_whom 10 [l0, l1, l2, tclr l3, vI x] st h Q := tA_pure mB_X11_whom dX11_whom_8 rfl
theorem rX11_whom_10 : tA sc iX11_whom 10 [l0, l1, l2, l3, vI x] st h Q = tA sc iX11_whom 12 [l0, l1, l2, l3, vI x] (vI x :: st) h Q := tA_pure mB_X11_whom dX11_whom_10 rfl
theorem rX11_whom_12 : tA sc iX11_whom 12 [vR r, l1, l2, l3, l4] st h Q = tA sc iX11_whom 13 [vR r, l1, l2, l3, l4] (vR r :: st) h Q := tA_pure mB_X11_whom dX11_whom_12 rfl
theorem rX11_whom_13 : tA sc iX11_whom 13 ls (vR (some o) :: st) h Q = oz (tget h o [11] 4) (fun v => tA sc iX11_whom 16 ls (v :: st) h Q) := tA_get mB_X11_whom mO_X11_whom dX11_whom_13 fT_11_87
theorem rX11_whom_16 : tA sc iX11_whom 16 ls (vI y :: vI x :: st) h Q = (if y ≤ x then tA sc iX11_whom 63 ls st h Q else tA sc iX11_whom 19 ls st h Q) := tA_if mB_X11_whom dX11_whom_16 (fun _ _ _ _ => rfl) rfl
theorem rX11_whom_19 : tA sc iX11_whom 19 [vR r, l1, l2, l3, l4] st h Q = tA sc iX11_whom 20 [vR r, l1, l2, l3, l4] (vR r :: st) h Q := tA_pure mB_X11_whom dX11_whom_19 rfl
theorem rX11_whom_20 : tA sc iX11_whom 20 [l0, l1, l2, l3, vI x] st h Q = tA sc iX11_whom 22 [l0, l1, l2, l3, vI x] (vI x :: st) h Q := tA_pure mB_X11_whom dX11_whom_20 rfl
theorem rX11_whom_22 (hci : tcl h o = some 11) : tA sc iX11_whom 22 ls [vI p0, vR (some o)] h Q = tA sc iX11_findRight 0 [vR (some o), vI p0, vU, vU] [] h (fun v h1 => tA sc iX11_whom 25 ls (tpu v []) h1 Q) := tA_cV mB_X11_whom mO_X11_whom dX11_whom_22 cT_11_332 rfl (Nat.le_of_ble_eq_true rfl) rfl rfl rfl hci
theorem rX11_whom_25 : tA sc iX11_whom 25 [l0, vI x, l2, l3, l4] st h Q = tA sc iX11_whom 26 [l0, vI x, l2, l3, l4] (vI x :: st) h Q := tA_pure mB_X11_whom dX11_whom_25 rfl
theorem rX11_whom_26 : tA sc iX11_whom 26 ls (vI x :: st) h Q = (if x < 0 then tA sc iX11_whom 44 ls st h Q else tA sc iX11_whom 29 ls st h Q) := tA_if mB_X11_whom dX11_whom_26 (fun _ _ _ _ => rfl) rfl
theorem rX11_whom_29 : tA sc iX11_whom 29 [vR r, l1, l2, l3, l4] st h Q = tA sc iX11_whom 30 [vR r, l1, l2, l3, l4] (vR r :: st) h Q := tA_pure mB_X11_whom dX11_whom_29 rfl
theorem rX11_whom_30 : tA sc iX11_whom 30 ls (vR (some o) :: st) h Q = oz (tget h o [11] 31) (fun v => tA sc iX11_whom 33 ls (v :: st) h Q) := tA_get mB_X11_whom mO_X11_whom dX11_whom_30 fT_11_326
theorem rX11_whom_33 : tA sc iX11_whom 33 [l0, l1, l2, vI x, l4] st h Q = tA sc iX11_whom 34 [l0, l1, l2, vI x, l4] (vI x :: st) h Q := tA_pure mB_X11_whom dX11_whom_33 rfl
theorem rX11_whom_34 : tA sc iX11_whom 34 ls (vI y :: vI x :: st) h Q = tA sc iX11_whom 35 ls (vI (x * y) :: st) h Q := tA_pure mB_X11_whom dX11_whom_34 rfl
theorem rX11_whom_35 : tA sc iX11_whom 35 [l0, l1, vI x, l3, l4] st h Q = tA sc iX11_whom 36 [l0, l1, vI x, l3, l4] (vI x :: st) h Q := tA_pure mB_X11_whom dX11_whom_35 rfl
theorem rX11_whom_36 : tA sc iX11_whom 36 [vR r, l1, l2, l3, l4] st h Q = tA sc iX11_whom 37 [vR r, l1, l2, l3, l4] (vR r :: st) h Q := tA_pure mB_X11_whom dX11_whom_36 rfl
theorem rX11_whom_37 : tA sc iX11_whom 37 ls (vR (some o) :: st) h Q = oz (tget h o [11] 32) (fun v => tA sc iX11_whom 40 ls (v :: st) h Q) := tA_get mB_X11_whom mO_X11_whom dX11_whom_37 fT_11_329
theorem rX11_whom_40 : tA sc iX11_whom 40 ls (vI y :: vI x :: st) h Q = tA sc iX11_whom 41 ls (vI (x * y) :: st) h Q := tA_pure mB_X11_whom dX11_whom_40 rfl
theorem rX11_whom_41 : tA sc iX11_whom 41 ls (vI y :: vI x :: st) h Q = (if x ≤ y then tA sc iX11_whom 57 ls st h Q else tA sc iX11_whom 44 ls st h Q) := tA_if mB_X11_whom dX11_whom_41 (fun _ _ _ _ => rfl) rfl
theorem rX11_whom_44 : tA sc iX11_whom 44 [l0, l1, l2, l3, vI x] st h Q = tA sc iX11_whom 46 [l0, l1, l2, l3, vI x] (vI x :: st) h Q := tA_pure mB_X11_whom dX11_whom_44 rfl
theorem rX11_whom_46 : tA sc iX11_whom 46 [l0, l1, l2, l3, l4] (vI x :: st) h Q = tA sc iX11_whom 47 [tclr l0, vI x, l2, l3, l4] st h Q := tA_pure mB_X11_whom dX11_whom_46 rfl
theorem rX11_whom_47 : tA sc iX11_whom 47 [vR r, l1, l2, l3, l4] st h Q = tA sc iX11_whom 48 [vR r, l1, l2, l3, l4] (vR r :: st) h Q := tA_pure mB_X11_whom dX11_whom_47 rfl
theorem rX11_whom_48 : tA sc iX11_whom 48 ls (vR (some o) :: st) h Q = oz (tget h o [11] 31) (fun v => tA sc iX11_whom 51 ls (v :: st) h Q) := tA_get mB_X11_whom mO_X11_whom dX11_whom_48 fT_11_326
theorem rX11_whom_51 : tA sc iX11_whom 51 [l0, l1, l2, l3, l4] (vI x :: st) h Q = tA sc iX11_whom 52 [l0, tclr l1, vI x, l3, l4] st h Q := tA_pure mB_X11_whom dX11_whom_51 rfl
theorem rX11_whom_52 : tA sc iX11_whom 52 [vR r, l1, l2, l3, l4] st h Q = tA sc iX11_whom 53 [vR r, l1, l2, l3, l4] (vR r :: st) h Q := tA_pure mB_X11_whom dX11_whom_52 rfl
theorem rX11_whom_53 : tA sc iX11_whom 53 ls (vR (some o) :: st) h Q = oz (tget h o [11] 32) (fun v => tA sc iX11_whom 56 ls (v :: st) h Q) := tA_get mB_X11_whom mO_X11_whom dX11_whom_53 fT_11_329
theorem rX11_whom_56 : tA sc iX11_whom 56 [l0, l1, l2, l3, l4] (vI x :: st) h Q = tA sc iX11_whom 57 [l0, l1, tclr l2, vI x, l4] st h Q := tA_pure mB_X11_whom dX11_whom_56 rfl
theorem rX11_whom_57 : tA sc iX11_whom 57 [l0, l1, l2, l3, vI x] st h Q = tA sc iX11_whom 60 [l0, l1, l2, tclr l3, vI (x + 1)] st h Q := tA_pure mB_X11_whom dX11_whom_57 rfl
theorem rX11_whom_60 : tA sc iX11_whom 60 ls st h Q = tA sc iX11_whom 10 ls st h Q := tA_jump mB_X11_whom dX11_whom_60 (fun _ _ _ _ => rfl) rfl
theorem rX11_whom_63 : tA sc iX11_whom 63 [l0, vI x, l2, l3, l4] st h Q = tA sc iX11_whom 64 [l0, vI x, l2, l3, l4] (vI x :: st) h Q := tA_pure mB_X11_whom dX11_whom_63 rfl
theorem rX11_whom_64 : tA sc iX11_whom 64 ls [vI x] h Q = Q (some (vI x)) h := tA_ret mB_X11_whom dX11_whom_64 (fun _ _ _ _ => rfl) (fun _ _ _ => rfl) (fun _ _ _ _ _ => rfl) rfl rfl
theorem mB_X11_open : mB iX11_open = cX11_open := rfl
theorem mO_X11_open : mO iX11_open = 11 := rfl
theorem rX11_open_0 : tA sc iX11_open 0 ls st h Q = tA sc iX11_open 1 ls (vI (0) :: st) h Q := tA_pure mB_X11_open dX11_open_0 rfl
theorem rX11_open_1 : tA sc iX11_open 1 [l0, l1, l2] (vI x :: st) h Q = tA sc iX11_open 2 [tclr l0, vI x, l2] st h Q := tA_pure mB_X11_open dX11_open_1 rfl
theorem rX11_open_2 : tA sc iX11_open 2 [vR r, l1, l2] st h Q = tA sc iX11_open 3 [vR r, l1, l2] (vR r :: st) h Q := tA_pure mB_X11_open dX11_open_2 rfl
theorem rX11_open_3 : tA sc iX11_open 3 ls (vR (some o) :: st) h Q = oz (tget h o [11] 0) (fun v => tA sc iX11_open 6 ls (v :: st) h Q) := tA_get mB_X11_open mO_X11_open dX11_open_3 fT_11_7
theorem rX11_open_6 : tA sc iX11_open 6 ls st h Q = tA sc iX11_open 7 ls (vI (0) :: st) h Q := tA_pure mB_X11_open dX11_open_6 rfl
theorem rX11_open_7 : tA sc iX11_open 7 ls (vI j :: vR (some a) :: st) h Q = oz (tald sc h 0 a j) (fun v => tA sc iX11_open 8 ls (vI v :: st) h Q) := tA_iald mB_X11_open dX11_open_7
theorem rX11_open_8 : tA sc iX11_open 8 [l0, l1, l2] (vI x :: st) h Q = tA sc iX11_open 9 [l0, tclr l1, vI x] st h Q := tA_pure mB_X11_open dX11_open_8 rfl
theorem rX11_open_9 : tA sc iX11_open 9 [l0, l1, vI x] st h Q = tA sc iX11_open 10 [l0, l1, vI x] (vI x :: st) h Q := tA_pure mB_X11_open dX11_open_9 rfl
theorem rX11_open_10 : tA sc iX11_open 10 ls st h Q = tA sc iX11_open 12 ls (vI (20) :: st) h Q := tA_pure mB_X11_open dX11_open_10 rfl
theorem rX11_open_12 : tA sc iX11_open 12 ls (vI y :: vI x :: st) h Q = (if y ≤ x then tA sc iX11_open 39 ls st h Q else tA sc iX11_open 15 ls st h Q) := tA_if mB_X11_open dX11_open_12 (fun _ _ _ _ => rfl) rfl
theorem rX11_open_15 : tA sc iX11_open 15 [l0, vI x, l2] st h Q = tA sc iX11_open 16 [l0, vI x, l2] (vI x :: st) h Q := tA_pure mB_X11_open dX11_open_15 rfl
theorem rX11_open_16 : tA sc iX11_open 16 [vR r, l1, l2] st h Q = tA sc iX11_open 17 [vR r, l1, l2] (vR r :: st) h Q := tA_pure mB_X11_open dX11_open_16 rfl
theorem rX11_open_17 : tA sc iX11_open 17 [l0, l1, vI x] st h Q = tA sc iX11_open 18 [l0, l1, vI x] (vI x :: st) h Q := tA_pure mB_X11_open dX11_open_17 rfl
theorem rX11_open_18 (hci : tcl h o = some 11) : tA sc iX11_open 18 ls [vI p0, vR (some o), s0] h Q = tA sc iX11_saidOf 0 [vR (some o), vI p0, vU, vU] [] h (fun v h1 => tA sc iX11_open 21 ls (tpu v [s0]) h1 Q) := tA_cV mB_X11_open mO_X11_open dX11_open_18 cT_11_244 rfl (Nat.le_of_ble_eq_true rfl) rfl rfl rfl hci
theorem rX11_open_21 : tA sc iX11_open 21 ls (vI x :: st) h Q = (if ¬ x = 0 then tA sc iX11_open 30 ls st h Q else tA sc iX11_open 24 ls st h Q) := tA_if mB_X11_open dX11_open_21 (fun _ _ _ _ => rfl) rfl
theorem rX11_open_24 : tA sc iX11_open 24 ls st h Q = tA sc iX11_open 25 ls (vI (1) :: st) h Q := tA_pure mB_X11_open dX11_open_24 rfl
theorem rX11_open_25 : tA sc iX11_open 25 [l0, l1, vI x] st h Q = tA sc iX11_open 26 [l0, l1, vI x] (vI x :: st) h Q := tA_pure mB_X11_open dX11_open_25 rfl
theorem rX11_open_26 : tA sc iX11_open 26 ls (vI y :: vI x :: st) h Q = tA sc iX11_open 27 ls (vI (x <<< (y &&& 31)) :: st) h Q := tA_pure mB_X11_open dX11_open_26 rfl
theorem rX11_open_27 : tA sc iX11_open 27 ls st h Q = tA sc iX11_open 31 ls st h Q := tA_jump mB_X11_open dX11_open_27 (fun _ _ _ _ => rfl) rfl
theorem rX11_open_30 : tA sc iX11_open 30 ls st h Q = tA sc iX11_open 31 ls (vI (0) :: st) h Q := tA_pure mB_X11_open dX11_open_30 rfl
theorem rX11_open_31 : tA sc iX11_open 31 ls (vI y :: vI x :: st) h Q = tA sc iX11_open 32 ls (vI (x ||| y) :: st) h Q := tA_pure mB_X11_open dX11_open_31 rfl
theorem rX11_open_32 : tA sc iX11_open 32 [l0, l1, l2] (vI x :: st) h Q = tA sc iX11_open 33 [tclr l0, vI x, l2] st h Q := tA_pure mB_X11_open dX11_open_32 rfl
theorem rX11_open_33 : tA sc iX11_open 33 [l0, l1, vI x] st h Q = tA sc iX11_open 36 [l0, tclr l1, vI (x + 1)] st h Q := tA_pure mB_X11_open dX11_open_33 rfl
theorem rX11_open_36 : tA sc iX11_open 36 ls st h Q = tA sc iX11_open 9 ls st h Q := tA_jump mB_X11_open dX11_open_36 (fun _ _ _ _ => rfl) rfl
theorem rX11_open_39 : tA sc iX11_open 39 [l0, vI x, l2] st h Q = tA sc iX11_open 40 [l0, vI x, l2] (vI x :: st) h Q := tA_pure mB_X11_open dX11_open_39 rfl
theorem rX11_open_40 : tA sc iX11_open 40 ls [vI x] h Q = Q (some (vI x)) h := tA_ret mB_X11_open dX11_open_40 (fun _ _ _ _ => rfl) (fun _ _ _ => rfl) (fun _ _ _ _ _ => rfl) rfl rfl
theorem mB_X11_seed : mB iX11_seed = cX11_seed := rfl
theorem mO_X11_seed : mO iX11_seed = 11 := rfl
theorem rX11_seed_0 : tA sc iX11_seed 0 [vR r, l1, l2] st h Q = tA sc iX11_seed 1 [vR r, l1, l2] (vR r :: st) h Q := tA_pure mB_X11_seed dX11_seed_0 rfl
theorem rX11_seed_1 : tA sc iX11_seed 1 ls (vR (some o) :: st) h Q = oz (tget h o [11] 0) (fun v => tA sc iX11_seed 4 ls (v :: st) h Q) := tA_get mB_X11_seed mO_X11_seed dX11_seed_1 fT_11_7
theorem rX11_seed_4 : tA sc iX11_seed 4 ls st h Q = tA sc iX11_seed 5 ls (vI (1) :: st) h Q := tA_pure mB_X11_seed dX11_seed_4 rfl
theorem rX11_seed_5 : tA sc iX11_seed 5 ls (vI j :: vR (some a) :: st) h Q = oz (tald sc h 0 a j) (fun v => tA sc iX11_seed 6 ls (vI v :: st) h Q) := tA_iald mB_X11_seed dX11_seed_5
theorem rX11_seed_6 : tA sc iX11_seed 6 [l0, l1, l2] (vI x :: st) h Q = tA sc iX11_seed 7 [l0, tclr l1, vI x] st h Q := tA_pure mB_X11_seed dX11_seed_6 rfl
theorem rX11_seed_7 : tA sc iX11_seed 7 [vR r, l1, l2] st h Q = tA sc iX11_seed 8 [vR r, l1, l2] (vR r :: st) h Q := tA_pure mB_X11_seed dX11_seed_7 rfl
theorem rX11_seed_8 : tA sc iX11_seed 8 ls (vR (some o) :: st) h Q = oz (tget h o [11] 0) (fun v => tA sc iX11_seed 11 ls (v :: st) h Q) := tA_get mB_X11_seed mO_X11_seed dX11_seed_8 fT_11_7
theorem rX11_seed_11 : tA sc iX11_seed 11 ls st h Q = tA sc iX11_seed 12 ls (vI (1) :: st) h Q := tA_pure mB_X11_seed dX11_seed_11 rfl
theorem rX11_seed_12 : tA sc iX11_seed 12 [l0, vI x, l2] st h Q = tA sc iX11_seed 13 [l0, vI x, l2] (vI x :: st) h Q := tA_pure mB_X11_seed dX11_seed_12 rfl
theorem rX11_seed_13 : tA sc iX11_seed 13 ls (vI x :: vI j :: vR (some a) :: st) h Q = oz (tasi h a j x) (fun h' => tA sc iX11_seed 14 ls st h' Q) := tA_iast mB_X11_seed dX11_seed_13
theorem rX11_seed_14 : tA sc iX11_seed 14 [l0, l1, vI x] st h Q = tA sc iX11_seed 15 [l0, l1, vI x] (vI x :: st) h Q := tA_pure mB_X11_seed dX11_seed_14 rfl
theorem rX11_seed_15 : tA sc iX11_seed 15 ls [vI x] h Q = Q (some (vI x)) h := tA_ret mB_X11_seed dX11_seed_15 (fun _ _ _ _ => rfl) (fun _ _ _ => rfl) (fun _ _ _ _ _ => rfl) rfl rfl
theorem mB_X11_findRows : mB iX11_findRows = cX11_findRows := rfl
theorem mO_X11_findRows : mO iX11_findRows = 11 := rfl
theorem rX11_findRows_0 : tA sc iX11_findRows 0 ls st h Q = tA sc iX11_findRows 1 ls (vI (0) :: st) h Q := tA_pure mB_X11_findRows dX11_findRows_0 rfl
theorem rX11_findRows_1 : tA sc iX11_findRows 1 [l0, l1, l2, l3] (vI x :: st) h Q = tA sc iX11_findRows 2 [l0, tclr l1, vI x, l3] st h Q := tA_pure mB_X11_findRows dX11_findRows_1 rfl
theorem rX11_findRows_2 : tA sc iX11_findRows 2 [l0, l1, vI x, l3] st h Q = tA sc iX11_findRows 3 [l0, l1, vI x, l3] (vI x :: st) h Q := tA_pure mB_X11_findRows dX11_findRows_2 rfl
theorem rX11_findRows_3 : tA sc iX11_findRows 3 ls st h Q = tA sc iX11_findRows 6 ls (vI (168) :: st) h Q := tA_pure mB_X11_findRows dX11_findRows_3 rfl
theorem rX11_findRows_6 : tA sc iX11_findRows 6 ls (vI y :: vI x :: st) h Q = (if y ≤ x then tA sc iX11_findRows 31 ls st h Q else tA sc iX11_findRows 9 ls st h Q) := tA_if mB_X11_findRows dX11_findRows_6 (fun _ _ _ _ => rfl) rfl
theorem rX11_findRows_9 : tA sc iX11_findRows 9 [vR r, l1, l2, l3] st h Q = tA sc iX11_findRows 10 [vR r, l1, l2, l3] (vR r :: st) h Q := tA_pure mB_X11_findRows dX11_findRows_9 rfl
theorem rX11_findRows_10 : tA sc iX11_findRows 10 ls (vR (some o) :: st) h Q = oz (tget h o [11] 0) (fun v => tA sc iX11_findRows 13 ls (v :: st) h Q) := tA_get mB_X11_findRows mO_X11_findRows dX11_findRows_10 fT_11_7
theorem rX11_findRows_13 : tA sc iX11_findRows 13 ls st h Q = tA sc iX11_findRows 16 ls (vI (168) :: st) h Q := tA_pure mB_X11_findRows dX11_findRows_13 rfl
theorem rX11_findRows_16 : tA sc iX11_findRows 16 [l0, l1, vI x, l3] st h Q = tA sc iX11_findRows 17 [l0, l1, vI x, l3] (vI x :: st) h Q := tA_pure mB_X11_findRows dX11_findRows_16 rfl
theorem rX11_findRows_17 : tA sc iX11_findRows 17 ls (vI y :: vI x :: st) h Q = tA sc iX11_findRows 18 ls (vI (x + y) :: st) h Q := tA_pure mB_X11_findRows dX11_findRows_17 rfl
theorem rX11_findRows_18 : tA sc iX11_findRows 18 [vR r, l1, l2, l3] st h Q = tA sc iX11_findRows 19 [vR r, l1, l2, l3] (vR r :: st) h Q := tA_pure mB_X11_findRows dX11_findRows_18 rfl
theorem rX11_findRows_19 : tA sc iX11_findRows 19 ls (vR (some o) :: st) h Q = oz (tget h o [11] 0) (fun v => tA sc iX11_findRows 22 ls (v :: st) h Q) := tA_get mB_X11_findRows mO_X11_findRows dX11_findRows_19 fT_11_7
theorem rX11_findRows_22 : tA sc iX11_findRows 22 [l0, l1, vI x, l3] st h Q = tA sc iX11_findRows 23 [l0, l1, vI x, l3] (vI x :: st) h Q := tA_pure mB_X11_findRows dX11_findRows_22 rfl
theorem rX11_findRows_23 : tA sc iX11_findRows 23 ls (vI j :: vR (some a) :: st) h Q = oz (tald sc h 0 a j) (fun v => tA sc iX11_findRows 24 ls (vI v :: st) h Q) := tA_iald mB_X11_findRows dX11_findRows_23
theorem rX11_findRows_24 : tA sc iX11_findRows 24 ls (vI x :: vI j :: vR (some a) :: st) h Q = oz (tasi h a j x) (fun h' => tA sc iX11_findRows 25 ls st h' Q) := tA_iast mB_X11_findRows dX11_findRows_24
theorem rX11_findRows_25 : tA sc iX11_findRows 25 [l0, l1, vI x, l3] st h Q = tA sc iX11_findRows 28 [l0, tclr l1, vI (x + 1), l3] st h Q := tA_pure mB_X11_findRows dX11_findRows_25 rfl
theorem rX11_findRows_28 : tA sc iX11_findRows 28 ls st h Q = tA sc iX11_findRows 2 ls st h Q := tA_jump mB_X11_findRows dX11_findRows_28 (fun _ _ _ _ => rfl) rfl
theorem rX11_findRows_31 : tA sc iX11_findRows 31 [vR r, l1, l2, l3] st h Q = tA sc iX11_findRows 32 [vR r, l1, l2, l3] (vR r :: st) h Q := tA_pure mB_X11_findRows dX11_findRows_31 rfl
theorem rX11_findRows_32 : tA sc iX11_findRows 32 ls st h Q = tA sc iX11_findRows 35 ls (vI (168) :: st) h Q := tA_pure mB_X11_findRows dX11_findRows_32 rfl
theorem rX11_findRows_35 : tA sc iX11_findRows 35 ls (v :: vR (some o) :: st) h Q = oz (tput h o [11] 1 0 v) (fun h' => tA sc iX11_findRows 38 ls st h' Q) := tA_put mB_X11_findRows mO_X11_findRows dX11_findRows_35 fT_11_91 (Or.inl (by decide))
theorem rX11_findRows_38 : tA sc iX11_findRows 38 [vR r, l1, l2, l3] st h Q = tA sc iX11_findRows 39 [vR r, l1, l2, l3] (vR r :: st) h Q := tA_pure mB_X11_findRows dX11_findRows_38 rfl
theorem rX11_findRows_39 : tA sc iX11_findRows 39 ls st h Q = tA sc iX11_findRows 40 ls (vI (0) :: st) h Q := tA_pure mB_X11_findRows dX11_findRows_39 rfl
theorem rX11_findRows_40 : tA sc iX11_findRows 40 ls (v :: vR (some o) :: st) h Q = oz (tput h o [11] 36 0 v) (fun h' => tA sc iX11_findRows 43 ls st h' Q) := tA_put mB_X11_findRows mO_X11_findRows dX11_findRows_40 fT_11_335 (Or.inl (by decide))
theorem rX11_findRows_43 : tA sc iX11_findRows 43 [vR r, l1, l2, l3] st h Q = tA sc iX11_findRows 44 [vR r, l1, l2, l3] (vR r :: st) h Q := tA_pure mB_X11_findRows dX11_findRows_43 rfl
theorem rX11_findRows_44 : tA sc iX11_findRows 44 ls (vR (some o) :: st) h Q = oz (tget h o [11] 36) (fun v => tA sc iX11_findRows 47 ls (v :: st) h Q) := tA_get mB_X11_findRows mO_X11_findRows dX11_findRows_44 fT_11_335
theorem rX11_findRows_47 : tA sc iX11_findRows 47 [l0, vI x, l2, l3] st h Q = tA sc iX11_findRows 48 [l0, vI x, l2, l3] (vI x :: st) h Q := tA_pure mB_X11_findRows dX11_findRows_47 rfl
theorem rX11_findRows_48 : tA sc iX11_findRows 48 ls (vI y :: vI x :: st) h Q = (if y ≤ x then tA sc iX11_findRows 163 ls st h Q else tA sc iX11_findRows 51 ls st h Q) := tA_if mB_X11_findRows dX11_findRows_48 (fun _ _ _ _ => rfl) rfl
theorem rX11_findRows_51 : tA sc iX11_findRows 51 [vR r, l1, l2, l3] st h Q = tA sc iX11_findRows 52 [vR r, l1, l2, l3] (vR r :: st) h Q := tA_pure mB_X11_findRows dX11_findRows_51 rfl
theorem rX11_findRows_52 : tA sc iX11_findRows 52 ls st h Q = tA sc iX11_findRows 53 ls (vI (0) :: st) h Q := tA_pure mB_X11_findRows dX11_findRows_52 rfl
theorem rX11_findRows_53 (hci : tcl h o = some 11) : tA sc iX11_findRows 53 ls [vI p0, vR (some o)] h Q = tA sc iX11_its 0 [vR (some o), vI p0] [] h (fun v h1 => tA sc iX11_findRows 56 ls (tpu v []) h1 Q) := tA_cV mB_X11_findRows mO_X11_findRows dX11_findRows_53 cT_11_225 rfl (Nat.le_of_ble_eq_true rfl) rfl rfl rfl hci
theorem rX11_findRows_56 : tA sc iX11_findRows 56 ls st h Q = tA sc iX11_findRows 58 ls (vI (20) :: st) h Q := tA_pure mB_X11_findRows dX11_findRows_56 rfl
theorem rX11_findRows_58 : tA sc iX11_findRows 58 ls (vI y :: vI x :: st) h Q = (if y ≤ x then tA sc iX11_findRows 163 ls st h Q else tA sc iX11_findRows 61 ls st h Q) := tA_if mB_X11_findRows dX11_findRows_58 (fun _ _ _ _ => rfl) rfl
theorem rX11_findRows_61 : tA sc iX11_findRows 61 [vR r, l1, l2, l3] st h Q = tA sc iX11_findRows 62 [vR r, l1, l2, l3] (vR r :: st) h Q := tA_pure mB_X11_findRows dX11_findRows_61 rfl
theorem rX11_findRows_62 (hci : tcl h o = some 11) : tA sc iX11_findRows 62 ls [vR (some o)] h Q = tA sc iX11_morningGoes 0 [vR (some o), vU, vU, vU, vU] [] h (fun v h1 => tA sc iX11_findRows 65 ls (tpu v []) h1 Q) := tA_cV mB_X11_findRows mO_X11_findRows dX11_findRows_62 cT_11_291 rfl (Nat.le_of_ble_eq_true rfl) rfl rfl rfl hci
theorem rX11_findRows_65 : tA sc iX11_findRows 65 [vR r, l1, l2, l3] st h Q = tA sc iX11_findRows 66 [vR r, l1, l2, l3] (vR r :: st) h Q := tA_pure mB_X11_findRows dX11_findRows_65 rfl
theorem rX11_findRows_66 : tA sc iX11_findRows 66 ls (vR (some o) :: st) h Q = oz (tget h o [11] 34) (fun v => tA sc iX11_findRows 69 ls (v :: st) h Q) := tA_get mB_X11_findRows mO_X11_findRows dX11_findRows_66 fT_11_52
theorem rX11_findRows_69 : tA sc iX11_findRows 69 ls st h Q = tA sc iX11_findRows 70 ls (vI (3) :: st) h Q := tA_pure mB_X11_findRows dX11_findRows_69 rfl
theorem rX11_findRows_70 : tA sc iX11_findRows 70 [vR r, l1, l2, l3] st h Q = tA sc iX11_findRows 71 [vR r, l1, l2, l3] (vR r :: st) h Q := tA_pure mB_X11_findRows dX11_findRows_70 rfl
theorem rX11_findRows_71 : tA sc iX11_findRows 71 ls (vR (some o) :: st) h Q = oz (tget h o [11] 36) (fun v => tA sc iX11_findRows 74 ls (v :: st) h Q) := tA_get mB_X11_findRows mO_X11_findRows dX11_findRows_71 fT_11_335
theorem rX11_findRows_74 : tA sc iX11_findRows 74 ls (vI y :: vI x :: st) h Q = tA sc iX11_findRows 75 ls (vI (x * y) :: st) h Q := tA_pure mB_X11_findRows dX11_findRows_74 rfl
theorem rX11_findRows_75 : tA sc iX11_findRows 75 [vR r, l1, l2, l3] st h Q = tA sc iX11_findRows 76 [vR r, l1, l2, l3] (vR r :: st) h Q := tA_pure mB_X11_findRows dX11_findRows_75 rfl
theorem rX11_findRows_76 : tA sc iX11_findRows 76 ls st h Q = tA sc iX11_findRows 78 ls (vI (23) :: st) h Q := tA_pure mB_X11_findRows dX11_findRows_76 rfl
theorem rX11_findRows_78 : tA sc iX11_findRows 78 [vR r, l1, l2, l3] st h Q = tA sc iX11_findRows 79 [vR r, l1, l2, l3] (vR r :: st) h Q := tA_pure mB_X11_findRows dX11_findRows_78 rfl
theorem rX11_findRows_79 : tA sc iX11_findRows 79 ls st h Q = tA sc iX11_findRows 80 ls (vI (0) :: st) h Q := tA_pure mB_X11_findRows dX11_findRows_79 rfl
theorem rX11_findRows_80 (hci : tcl h o = some 11) : tA sc iX11_findRows 80 ls [vI p0, vR (some o), s0, s1, s2, s3] h Q = tA sc iX11_its 0 [vR (some o), vI p0] [] h (fun v h1 => tA sc iX11_findRows 83 ls (tpu v [s0, s1, s2, s3]) h1 Q) := tA_cV mB_X11_findRows mO_X11_findRows dX11_findRows_80 cT_11_225 rfl (Nat.le_of_ble_eq_true rfl) rfl rfl rfl hci
theorem rX11_findRows_83 : tA sc iX11_findRows 83 ls (vI y :: vI x :: st) h Q = tA sc iX11_findRows 84 ls (vI (x + y) :: st) h Q := tA_pure mB_X11_findRows dX11_findRows_83 rfl
theorem rX11_findRows_84 : tA sc iX11_findRows 84 ls st h Q = tA sc iX11_findRows 85 ls (vI (1) :: st) h Q := tA_pure mB_X11_findRows dX11_findRows_84 rfl
theorem rX11_findRows_85 : tA sc iX11_findRows 85 ls (vI y :: vI x :: st) h Q = tA sc iX11_findRows 86 ls (vI (x - y) :: st) h Q := tA_pure mB_X11_findRows dX11_findRows_85 rfl
theorem rX11_findRows_86 (hci : tcl h o = some 11) : tA sc iX11_findRows 86 ls [vI p0, vR (some o), s0, s1] h Q = tA sc iX11_its 0 [vR (some o), vI p0] [] h (fun v h1 => tA sc iX11_findRows 89 ls (tpu v [s0, s1]) h1 Q) := tA_cV mB_X11_findRows mO_X11_findRows dX11_findRows_86 cT_11_225 rfl (Nat.le_of_ble_eq_true rfl) rfl rfl rfl hci
theorem rX11_findRows_89 : tA sc iX11_findRows 89 ls (vI x :: vI j :: vR (some a) :: st) h Q = oz (tasi h a j x) (fun h' => tA sc iX11_findRows 90 ls st h' Q) := tA_iast mB_X11_findRows dX11_findRows_89
theorem rX11_findRows_90 : tA sc iX11_findRows 90 [vR r, l1, l2, l3] st h Q = tA sc iX11_findRows 91 [vR r, l1, l2, l3] (vR r :: st) h Q := tA_pure mB_X11_findRows dX11_findRows_90 rfl
theorem rX11_findRows_91 : tA sc iX11_findRows 91 ls (vR (some o) :: st) h Q = oz (tget h o [11] 34) (fun v => tA sc iX11_findRows 94 ls (v :: st) h Q) := tA_get mB_X11_findRows mO_X11_findRows dX11_findRows_91 fT_11_52
theorem rX11_findRows_94 : tA sc iX11_findRows 94 ls st h Q = tA sc iX11_findRows 95 ls (vI (3) :: st) h Q := tA_pure mB_X11_findRows dX11_findRows_94 rfl
theorem rX11_findRows_95 : tA sc iX11_findRows 95 [vR r, l1, l2, l3] st h Q = tA sc iX11_findRows 96 [vR r, l1, l2, l3] (vR r :: st) h Q := tA_pure mB_X11_findRows dX11_findRows_95 rfl
theorem rX11_findRows_96 : tA sc iX11_findRows 96 ls (vR (some o) :: st) h Q = oz (tget h o [11] 36) (fun v => tA sc iX11_findRows 99 ls (v :: st) h Q) := tA_get mB_X11_findRows mO_X11_findRows dX11_findRows_96 fT_11_335
theorem rX11_findRows_99 : tA sc iX11_findRows 99 ls (vI y :: vI x :: st) h Q = tA sc iX11_findRows 100 ls (vI (x * y) :: st) h Q := tA_pure mB_X11_findRows dX11_findRows_99 rfl
theorem rX11_findRows_100 : tA sc iX11_findRows 100 ls st h Q = tA sc iX11_findRows 101 ls (vI (1) :: st) h Q := tA_pure mB_X11_findRows dX11_findRows_100 rfl
theorem rX11_findRows_101 : tA sc iX11_findRows 101 ls (vI y :: vI x :: st) h Q = tA sc iX11_findRows 102 ls (vI (x + y) :: st) h Q := tA_pure mB_X11_findRows dX11_findRows_101 rfl
theorem rX11_findRows_102 : tA sc iX11_findRows 102 [vR r, l1, l2, l3] st h Q = tA sc iX11_findRows 103 [vR r, l1, l2, l3] (vR r :: st) h Q := tA_pure mB_X11_findRows dX11_findRows_102 rfl
theorem rX11_findRows_103 : tA sc iX11_findRows 103 ls (vR (some o) :: st) h Q = oz (tget h o [11] 28) (fun v => tA sc iX11_findRows 106 ls (v :: st) h Q) := tA_get mB_X11_findRows mO_X11_findRows dX11_findRows_103 fT_11_288
theorem rX11_findRows_106 : tA sc iX11_findRows 106 ls (vI x :: vI j :: vR (some a) :: st) h Q = oz (tasi h a j x) (fun h' => tA sc iX11_findRows 107 ls st h' Q) := tA_iast mB_X11_findRows dX11_findRows_106
theorem rX11_findRows_107 : tA sc iX11_findRows 107 ls st h Q = tA sc iX11_findRows 108 ls (vI (0) :: st) h Q := tA_pure mB_X11_findRows dX11_findRows_107 rfl
theorem rX11_findRows_108 : tA sc iX11_findRows 108 [l0, l1, l2, l3] (vI x :: st) h Q = tA sc iX11_findRows 109 [l0, tclr l1, vI x, l3] st h Q := tA_pure mB_X11_findRows dX11_findRows_108 rfl
theorem rX11_findRows_109 : tA sc iX11_findRows 109 ls st h Q = tA sc iX11_findRows 110 ls (vI (0) :: st) h Q := tA_pure mB_X11_findRows dX11_findRows_109 rfl
theorem rX11_findRows_110 : tA sc iX11_findRows 110 [l0, l1, l2, l3] (vI x :: st) h Q = tA sc iX11_findRows 111 [l0, l1, tclr l2, vI x] st h Q := tA_pure mB_X11_findRows dX11_findRows_110 rfl
theorem rX11_findRows_111 : tA sc iX11_findRows 111 [l0, l1, l2, vI x] st h Q = tA sc iX11_findRows 112 [l0, l1, l2, vI x] (vI x :: st) h Q := tA_pure mB_X11_findRows dX11_findRows_111 rfl
theorem rX11_findRows_112 : tA sc iX11_findRows 112 [vR r, l1, l2, l3] st h Q = tA sc iX11_findRows 113 [vR r, l1, l2, l3] (vR r :: st) h Q := tA_pure mB_X11_findRows dX11_findRows_112 rfl
theorem rX11_findRows_113 : tA sc iX11_findRows 113 ls (vR (some o) :: st) h Q = oz (tget h o [11] 4) (fun v => tA sc iX11_findRows 116 ls (v :: st) h Q) := tA_get mB_X11_findRows mO_X11_findRows dX11_findRows_113 fT_11_87
theorem rX11_findRows_116 : tA sc iX11_findRows 116 ls (vI y :: vI x :: st) h Q = (if y ≤ x then tA sc iX11_findRows 136 ls st h Q else tA sc iX11_findRows 119 ls st h Q) := tA_if mB_X11_findRows dX11_findRows_116 (fun _ _ _ _ => rfl) rfl
theorem rX11_findRows_119 : tA sc iX11_findRows 119 [l0, l1, vI x, l3] st h Q = tA sc iX11_findRows 120 [l0, l1, vI x, l3] (vI x :: st) h Q := tA_pure mB_X11_findRows dX11_findRows_119 rfl
theorem rX11_findRows_120 : tA sc iX11_findRows 120 [vR r, l1, l2, l3] st h Q = tA sc iX11_findRows 121 [vR r, l1, l2, l3] (vR r :: st) h Q := tA_pure mB_X11_findRows dX11_findRows_120 rfl
theorem rX11_findRows_121 : tA sc iX11_findRows 121 ls st h Q = tA sc iX11_findRows 123 ls (vI (43) :: st) h Q := tA_pure mB_X11_findRows dX11_findRows_121 rfl
theorem rX11_findRows_123 : tA sc iX11_findRows 123 [l0, l1, l2, vI x] st h Q = tA sc iX11_findRows 124 [l0, l1, l2, vI x] (vI x :: st) h Q := tA_pure mB_X11_findRows dX11_findRows_123 rfl
theorem rX11_findRows_124 : tA sc iX11_findRows 124 ls (vI y :: vI x :: st) h Q = tA sc iX11_findRows 125 ls (vI (x + y) :: st) h Q := tA_pure mB_X11_findRows dX11_findRows_124 rfl
theorem rX11_findRows_125 (hci : tcl h o = some 11) : tA sc iX11_findRows 125 ls [vI p0, vR (some o), s0] h Q = tA sc iX11_its 0 [vR (some o), vI p0] [] h (fun v h1 => tA sc iX11_findRows 128 ls (tpu v [s0]) h1 Q) := tA_cV mB_X11_findRows mO_X11_findRows dX11_findRows_125 cT_11_225 rfl (Nat.le_of_ble_eq_true rfl) rfl rfl rfl hci
theorem rX11_findRows_128 : tA sc iX11_findRows 128 ls (vI y :: vI x :: st) h Q = tA sc iX11_findRows 129 ls (vI (x + y) :: st) h Q := tA_pure mB_X11_findRows dX11_findRows_128 rfl
theorem rX11_findRows_129 : tA sc iX11_findRows 129 [l0, l1, l2, l3] (vI x :: st) h Q = tA sc iX11_findRows 130 [l0, tclr l1, vI x, l3] st h Q := tA_pure mB_X11_findRows dX11_findRows_129 rfl
theorem rX11_findRows_130 : tA sc iX11_findRows 130 [l0, l1, l2, vI x] st h Q = tA sc iX11_findRows 133 [l0, l1, tclr l2, vI (x + 1)] st h Q := tA_pure mB_X11_findRows dX11_findRows_130 rfl
theorem rX11_findRows_133 : tA sc iX11_findRows 133 ls st h Q = tA sc iX11_findRows 111 ls st h Q := tA_jump mB_X11_findRows dX11_findRows_133 (fun _ _ _ _ => rfl) rfl
theorem rX11_findRows_136 : tA sc iX11_findRows 136 [vR r, l1, l2, l3] st h Q = tA sc iX11_findRows 137 [vR r, l1, l2, l3] (vR r :: st) h Q := tA_pure mB_X11_findRows dX11_findRows_136 rfl
theorem rX11_findRows_137 : tA sc iX11_findRows 137 ls (vR (some o) :: st) h Q = oz (tget h o [11] 34) (fun v => tA sc iX11_findRows 140 ls (v :: st) h Q) := tA_get mB_X11_findRows mO_X11_findRows dX11_findRows_137 fT_11_52
theorem rX11_findRows_140 : tA sc iX11_findRows 140 ls st h Q = tA sc iX11_findRows 141 ls (vI (3) :: st) h Q := tA_pure mB_X11_findRows dX11_findRows_140 rfl
theorem rX11_findRows_141 : tA sc iX11_findRows 141 [vR r, l1, l2, l3] st h Q = tA sc iX11_findRows 142 [vR r, l1, l2, l3] (vR r :: st) h Q := tA_pure mB_X11_findRows dX11_findRows_141 rfl
theorem rX11_findRows_142 : tA sc iX11_findRows 142 ls (vR (some o) :: st) h Q = oz (tget h o [11] 36) (fun v => tA sc iX11_findRows 145 ls (v :: st) h Q) := tA_get mB_X11_findRows mO_X11_findRows dX11_findRows_142 fT_11_335
theorem rX11_findRows_145 : tA sc iX11_findRows 145 ls (vI y :: vI x :: st) h Q = tA sc iX11_findRows 146 ls (vI (x * y) :: st) h Q := tA_pure mB_X11_findRows dX11_findRows_145 rfl
theorem rX11_findRows_146 : tA sc iX11_findRows 146 ls st h Q = tA sc iX11_findRows 147 ls (vI (2) :: st) h Q := tA_pure mB_X11_findRows dX11_findRows_146 rfl
theorem rX11_findRows_147 : tA sc iX11_findRows 147 ls (vI y :: vI x :: st) h Q = tA sc iX11_findRows 148 ls (vI (x + y) :: st) h Q := tA_pure mB_X11_findRows dX11_findRows_147 rfl
theorem rX11_findRows_148 : tA sc iX11_findRows 148 [l0, l1, vI x, l3] st h Q = tA sc iX11_findRows 149 [l0, l1, vI x, l3] (vI x :: st) h Q := tA_pure mB_X11_findRows dX11_findRows_148 rfl
theorem rX11_findRows_149 : tA sc iX11_findRows 149 ls (vI x :: vI j :: vR (some a) :: st) h Q = oz (tasi h a j x) (fun h' => tA sc iX11_findRows 150 ls st h' Q) := tA_iast mB_X11_findRows dX11_findRows_149
theorem rX11_findRows_150 : tA sc iX11_findRows 150 [vR r, l1, l2, l3] st h Q = tA sc iX11_findRows 151 [vR r, l1, l2, l3] (vR r :: st) h Q := tA_pure mB_X11_findRows dX11_findRows_150 rfl
theorem rX11_findRows_151 : tA sc iX11_findRows 151 ls (vR r :: st) h Q = tA sc iX11_findRows 152 ls (vR r :: vR r :: st) h Q := tA_pure mB_X11_findRows dX11_findRows_151 rfl
theorem rX11_findRows_152 : tA sc iX11_findRows 152 ls (vR (some o) :: st) h Q = oz (tget h o [11] 36) (fun v => tA sc iX11_findRows 155 ls (v :: st) h Q) := tA_get mB_X11_findRows mO_X11_findRows dX11_findRows_152 fT_11_335
theorem rX11_findRows_155 : tA sc iX11_findRows 155 ls st h Q = tA sc iX11_findRows 156 ls (vI (1) :: st) h Q := tA_pure mB_X11_findRows dX11_findRows_155 rfl
theorem rX11_findRows_156 : tA sc iX11_findRows 156 ls (vI y :: vI x :: st) h Q = tA sc iX11_findRows 157 ls (vI (x + y) :: st) h Q := tA_pure mB_X11_findRows dX11_findRows_156 rfl
theorem rX11_findRows_157 : tA sc iX11_findRows 157 ls (v :: vR (some o) :: st) h Q = oz (tput h o [11] 36 0 v) (fun h' => tA sc iX11_findRows 160 ls st h' Q) := tA_put mB_X11_findRows mO_X11_findRows dX11_findRows_157 fT_11_335 (Or.inl (by decide))
theorem rX11_findRows_160 : tA sc iX11_findRows 160 ls st h Q = tA sc iX11_findRows 43 ls st h Q := tA_jump mB_X11_findRows dX11_findRows_160 (fun _ _ _ _ => rfl) rfl
theorem rX11_findRows_163 : tA sc iX11_findRows 163 [vR r, l1, l2, l3] st h Q = tA sc iX11_findRows 164 [vR r, l1, l2, l3] (vR r :: st) h Q := tA_pure mB_X11_findRows dX11_findRows_163 rfl
theorem rX11_findRows_164 : tA sc iX11_findRows 164 ls st h Q = tA sc iX11_findRows 165 ls (vI (0) :: st) h Q := tA_pure mB_X11_findRows dX11_findRows_164 rfl
theorem rX11_findRows_165 : tA sc iX11_findRows 165 ls (v :: vR (some o) :: st) h Q = oz (tput h o [11] 1 0 v) (fun h' => tA sc iX11_findRows 168 ls st h' Q) := tA_put mB_X11_findRows mO_X11_findRows dX11_findRows_165 fT_11_91 (Or.inl (by decide))
theorem rX11_findRows_168 : tA sc iX11_findRows 168 ls [] h Q = Q (none) h := tA_ret mB_X11_findRows dX11_findRows_168 (fun _ _ _ _ => rfl) (fun _ _ _ => rfl) (fun _ _ _ _ _ => rfl) rfl rfl
theorem mB_X11_prove : mB iX11_prove = cX11_prove := rfl
theorem mO_X11_prove : mO iX11_prove = 11 := rfl
theorem rX11_prove_0 : tA sc iX11_prove 0 [l0, vI x, l2] st h Q = tA sc iX11_prove 1 [l0, vI x, l2] (vI x :: st) h Q := tA_pure mB_X11_prove dX11_prove_0 rfl
theorem rX11_prove_1 : tA sc iX11_prove 1 ls st h Q = tA sc iX11_prove 2 ls (vI (1) :: st) h Q := tA_pure mB_X11_prove dX11_prove_1 rfl
theorem rX11_prove_2 : tA sc iX11_prove 2 ls st h Q = tA sc iX11_prove 4 ls (vI (20) :: st) h Q := tA_pure mB_X11_prove dX11_prove_2 rfl
theorem rX11_prove_4 : tA sc iX11_prove 4 ls [vI p2, vI p1, vI p0] h Q = tA sc iX11_in 0 [vI p0, vI p1, vI p2] [] h (fun v h1 => tA sc iX11_prove 7 ls (tpu v []) h1 Q) := tA_cS mB_X11_prove mO_X11_prove dX11_prove_4 cT_11_83 ⟨Nat.le_of_ble_eq_true rfl, Nat.le_of_ble_eq_true rfl⟩ rfl rfl rfl rfl
theorem rX11_prove_7 : tA sc iX11_prove 7 ls (vI x :: st) h Q = (if ¬ x = 0 then tA sc iX11_prove 12 ls st h Q else tA sc iX11_prove 10 ls st h Q) := tA_if mB_X11_prove dX11_prove_7 (fun _ _ _ _ => rfl) rfl
theorem rX11_prove_10 : tA sc iX11_prove 10 ls st h Q = tA sc iX11_prove 11 ls (vI (-1) :: st) h Q := tA_pure mB_X11_prove dX11_prove_10 rfl
theorem rX11_prove_11 : tA sc iX11_prove 11 ls [vI x] h Q = Q (some (vI x)) h := tA_ret mB_X11_prove dX11_prove_11 (fun _ _ _ _ => rfl) (fun _ _ _ => rfl) (fun _ _ _ _ _ => rfl) rfl rfl
theorem rX11_prove_12 : tA sc iX11_prove 12 [vR r, l1, l2] st h Q = tA sc iX11_prove 13 [vR r, l1, l2] (vR r :: st) h Q := tA_pure mB_X11_prove dX11_prove_12 rfl
theorem rX11_prove_13 : tA sc iX11_prove 13 [l0, vI x, l2] st h Q = tA sc iX11_prove 14 [l0, vI x, l2] (vI x :: st) h Q := tA_pure mB_X11_prove dX11_prove_13 rfl
theorem rX11_prove_14 (hci : tcl h o = some 11) : tA sc iX11_prove 14 ls [vI p0, vR (some o)] h Q = tA sc iX11_findRows 0 [vR (some o), vI p0, vU, vU] [] h (fun v h1 => tA sc iX11_prove 17 ls (tpu v []) h1 Q) := tA_cV mB_X11_prove mO_X11_prove dX11_prove_14 cT_11_338 rfl (Nat.le_of_ble_eq_true rfl) rfl rfl rfl hci
theorem rX11_prove_17 : tA sc iX11_prove 17 [vR r, l1, l2] st h Q = tA sc iX11_prove 18 [vR r, l1, l2] (vR r :: st) h Q := tA_pure mB_X11_prove dX11_prove_17 rfl
theorem rX11_prove_18 : tA sc iX11_prove 18 [vR r, l1, l2] st h Q = tA sc iX11_prove 19 [vR r, l1, l2] (vR r :: st) h Q := tA_pure mB_X11_prove dX11_prove_18 rfl
theorem rX11_prove_19 : tA sc iX11_prove 19 ls (vR (some o) :: st) h Q = oz (tget h o [11] 36) (fun v => tA sc iX11_prove 22 ls (v :: st) h Q) := tA_get mB_X11_prove mO_X11_prove dX11_prove_19 fT_11_335
theorem rX11_prove_22 : tA sc iX11_prove 22 ls (v :: vR (some o) :: st) h Q = oz (tput h o [11] 35 0 v) (fun h' => tA sc iX11_prove 25 ls st h' Q) := tA_put mB_X11_prove mO_X11_prove dX11_prove_22 fT_11_213 (Or.inl (by decide))
theorem rX11_prove_25 : tA sc iX11_prove 25 ls st h Q = tA sc iX11_prove 26 ls (vI (0) :: st) h Q := tA_pure mB_X11_prove dX11_prove_25 rfl
theorem rX11_prove_26 : tA sc iX11_prove 26 [l0, l1, l2] (vI x :: st) h Q = tA sc iX11_prove 27 [l0, tclr l1, vI x] st h Q := tA_pure mB_X11_prove dX11_prove_26 rfl
theorem rX11_prove_27 : tA sc iX11_prove 27 [l0, l1, vI x] st h Q = tA sc iX11_prove 28 [l0, l1, vI x] (vI x :: st) h Q := tA_pure mB_X11_prove dX11_prove_27 rfl
theorem rX11_prove_28 : tA sc iX11_prove 28 ls st h Q = tA sc iX11_prove 29 ls (vI (3) :: st) h Q := tA_pure mB_X11_prove dX11_prove_28 rfl
theorem rX11_prove_29 : tA sc iX11_prove 29 [vR r, l1, l2] st h Q = tA sc iX11_prove 30 [vR r, l1, l2] (vR r :: st) h Q := tA_pure mB_X11_prove dX11_prove_29 rfl
theorem rX11_prove_30 : tA sc iX11_prove 30 ls (vR (some o) :: st) h Q = oz (tget h o [11] 35) (fun v => tA sc iX11_prove 33 ls (v :: st) h Q) := tA_get mB_X11_prove mO_X11_prove dX11_prove_30 fT_11_213
theorem rX11_prove_33 : tA sc iX11_prove 33 ls (vI y :: vI x :: st) h Q = tA sc iX11_prove 34 ls (vI (x * y) :: st) h Q := tA_pure mB_X11_prove dX11_prove_33 rfl
theorem rX11_prove_34 : tA sc iX11_prove 34 ls (vI y :: vI x :: st) h Q = (if y ≤ x then tA sc iX11_prove 55 ls st h Q else tA sc iX11_prove 37 ls st h Q) := tA_if mB_X11_prove dX11_prove_34 (fun _ _ _ _ => rfl) rfl
theorem rX11_prove_37 : tA sc iX11_prove 37 [vR r, l1, l2] st h Q = tA sc iX11_prove 38 [vR r, l1, l2] (vR r :: st) h Q := tA_pure mB_X11_prove dX11_prove_37 rfl
theorem rX11_prove_38 : tA sc iX11_prove 38 ls (vR (some o) :: st) h Q = oz (tget h o [11] 33) (fun v => tA sc iX11_prove 41 ls (v :: st) h Q) := tA_get mB_X11_prove mO_X11_prove dX11_prove_38 fT_11_49
theorem rX11_prove_41 : tA sc iX11_prove 41 [l0, l1, vI x] st h Q = tA sc iX11_prove 42 [l0, l1, vI x] (vI x :: st) h Q := tA_pure mB_X11_prove dX11_prove_41 rfl
theorem rX11_prove_42 : tA sc iX11_prove 42 [vR r, l1, l2] st h Q = tA sc iX11_prove 43 [vR r, l1, l2] (vR r :: st) h Q := tA_pure mB_X11_prove dX11_prove_42 rfl
theorem rX11_prove_43 : tA sc iX11_prove 43 ls (vR (some o) :: st) h Q = oz (tget h o [11] 34) (fun v => tA sc iX11_prove 46 ls (v :: st) h Q) := tA_get mB_X11_prove mO_X11_prove dX11_prove_43 fT_11_52
theorem rX11_prove_46 : tA sc iX11_prove 46 [l0, l1, vI x] st h Q = tA sc iX11_prove 47 [l0, l1, vI x] (vI x :: st) h Q := tA_pure mB_X11_prove dX11_prove_46 rfl
theorem rX11_prove_47 : tA sc iX11_prove 47 ls (vI j :: vR (some a) :: st) h Q = oz (tald sc h 0 a j) (fun v => tA sc iX11_prove 48 ls (vI v :: st) h Q) := tA_iald mB_X11_prove dX11_prove_47
theorem rX11_prove_48 : tA sc iX11_prove 48 ls (vI x :: vI j :: vR (some a) :: st) h Q = oz (tasi h a j x) (fun h' => tA sc iX11_prove 49 ls st h' Q) := tA_iast mB_X11_prove dX11_prove_48
theorem rX11_prove_49 : tA sc iX11_prove 49 [l0, l1, vI x] st h Q = tA sc iX11_prove 52 [l0, tclr l1, vI (x + 1)] st h Q := tA_pure mB_X11_prove dX11_prove_49 rfl
theorem rX11_prove_52 : tA sc iX11_prove 52 ls st h Q = tA sc iX11_prove 27 ls st h Q := tA_jump mB_X11_prove dX11_prove_52 (fun _ _ _ _ => rfl) rfl
theorem rX11_prove_55 : tA sc iX11_prove 55 [vR r, l1, l2] st h Q = tA sc iX11_prove 56 [vR r, l1, l2] (vR r :: st) h Q := tA_pure mB_X11_prove dX11_prove_55 rfl
theorem rX11_prove_56 : tA sc iX11_prove 56 ls (vR (some o) :: st) h Q = oz (tget h o [11] 35) (fun v => tA sc iX11_prove 59 ls (v :: st) h Q) := tA_get mB_X11_prove mO_X11_prove dX11_prove_56 fT_11_213
theorem rX11_prove_59 : tA sc iX11_prove 59 ls [vI x] h Q = Q (some (vI x)) h := tA_ret mB_X11_prove dX11_prove_59 (fun _ _ _ _ => rfl) (fun _ _ _ => rfl) (fun _ _ _ _ _ => rfl) rfl rfl
theorem mB_X11_isRow : mB iX11_isRow = cX11_isRow := rfl
theorem mO_X11_isRow : mO iX11_isRow = 11 := rfl
theorem rX11_isRow_0 : tA sc iX11_isRow 0 [l0, vI x, l2] st h Q = tA sc iX11_isRow 1 [l0, vI x, l2] (vI x :: st) h Q := tA_pure mB_X11_isRow dX11_isRow_0 rfl
theorem rX11_isRow_1 : tA sc iX11_isRow 1 ls st h Q = tA sc iX11_isRow 2 ls (vI (0) :: st) h Q := tA_pure mB_X11_isRow dX11_isRow_1 rfl
theorem rX11_isRow_2 : tA sc iX11_isRow 2 [vR r, l1, l2] st h Q = tA sc iX11_isRow 3 [vR r, l1, l2] (vR r :: st) h Q := tA_pure mB_X11_isRow dX11_isRow_2 rfl
theorem rX11_isRow_3 : tA sc iX11_isRow 3 ls (vR (some o) :: st) h Q = oz (tget h o [11] 35) (fun v => tA sc iX11_isRow 6 ls (v :: st) h Q) := tA_get mB_X11_isRow mO_X11_isRow dX11_isRow_3 fT_11_213
theorem rX11_isRow_6 : tA sc iX11_isRow 6 ls st h Q = tA sc iX11_isRow 7 ls (vI (1) :: st) h Q := tA_pure mB_X11_isRow dX11_isRow_6 rfl
theorem rX11_isRow_7 : tA sc iX11_isRow 7 ls (vI y :: vI x :: st) h Q = tA sc iX11_isRow 8 ls (vI (x - y) :: st) h Q := tA_pure mB_X11_isRow dX11_isRow_7 rfl
theorem rX11_isRow_8 : tA sc iX11_isRow 8 ls [vI p2, vI p1, vI p0] h Q = tA sc iX11_in 0 [vI p0, vI p1, vI p2] [] h (fun v h1 => tA sc iX11_isRow 11 ls (tpu v []) h1 Q) := tA_cS mB_X11_isRow mO_X11_isRow dX11_isRow_8 cT_11_83 ⟨Nat.le_of_ble_eq_true rfl, Nat.le_of_ble_eq_true rfl⟩ rfl rfl rfl rfl
theorem rX11_isRow_11 : tA sc iX11_isRow 11 ls (vI x :: st) h Q = (if x = 0 then tA sc iX11_isRow 27 ls st h Q else tA sc iX11_isRow 14 ls st h Q) := tA_if mB_X11_isRow dX11_isRow_11 (fun _ _ _ _ => rfl) rfl
theorem rX11_isRow_14 : tA sc iX11_isRow 14 [l0, l1, vI x] st h Q = tA sc iX11_isRow 15 [l0, l1, vI x] (vI x :: st) h Q := tA_pure mB_X11_isRow dX11_isRow_14 rfl
theorem rX11_isRow_15 : tA sc iX11_isRow 15 ls st h Q = tA sc iX11_isRow 16 ls (vI (0) :: st) h Q := tA_pure mB_X11_isRow dX11_isRow_15 rfl
theorem rX11_isRow_16 : tA sc iX11_isRow 16 ls st h Q = tA sc iX11_isRow 17 ls (vI (2) :: st) h Q := tA_pure mB_X11_isRow dX11_isRow_16 rfl
theorem rX11_isRow_17 : tA sc iX11_isRow 17 ls [vI p2, vI p1, vI p0] h Q = tA sc iX11_in 0 [vI p0, vI p1, vI p2] [] h (fun v h1 => tA sc iX11_isRow 20 ls (tpu v []) h1 Q) := tA_cS mB_X11_isRow mO_X11_isRow dX11_isRow_17 cT_11_83 ⟨Nat.le_of_ble_eq_true rfl, Nat.le_of_ble_eq_true rfl⟩ rfl rfl rfl rfl
theorem rX11_isRow_20 : tA sc iX11_isRow 20 ls (vI x :: st) h Q = (if x = 0 then tA sc iX11_isRow 27 ls st h Q else tA sc iX11_isRow 23 ls st h Q) := tA_if mB_X11_isRow dX11_isRow_20 (fun _ _ _ _ => rfl) rfl
theorem rX11_isRow_23 : tA sc iX11_isRow 23 ls st h Q = tA sc iX11_isRow 24 ls (vI (1) :: st) h Q := tA_pure mB_X11_isRow dX11_isRow_23 rfl
theorem rX11_isRow_24 : tA sc iX11_isRow 24 ls st h Q = tA sc iX11_isRow 28 ls st h Q := tA_jump mB_X11_isRow dX11_isRow_24 (fun _ _ _ _ => rfl) rfl
theorem rX11_isRow_27 : tA sc iX11_isRow 27 ls st h Q = tA sc iX11_isRow 28 ls (vI (0) :: st) h Q := tA_pure mB_X11_isRow dX11_isRow_27 rfl
theorem rX11_isRow_28 : tA sc iX11_isRow 28 ls [vI x] h Q = ((x = 0 ∨ x = 1) ∧ Q (some (vI x)) h) := tA_retz mB_X11_isRow dX11_isRow_28 rfl
theorem mB_X11_row : mB iX11_row = cX11_row := rfl
theorem mO_X11_row : mO iX11_row = 11 := rfl
theorem rX11_row_0 : tA sc iX11_row 0 [vR r, l1, l2] st h Q = tA sc iX11_row 1 [vR r, l1, l2] (vR r :: st) h Q := tA_pure mB_X11_row dX11_row_0 rfl
theorem rX11_row_1 : tA sc iX11_row 1 [l0, vI x, l2] st h Q = tA sc iX11_row 2 [l0, vI x, l2] (vI x :: st) h Q := tA_pure mB_X11_row dX11_row_1 rfl
theorem rX11_row_2 : tA sc iX11_row 2 [l0, l1, vI x] st h Q = tA sc iX11_row 3 [l0, l1, vI x] (vI x :: st) h Q := tA_pure mB_X11_row dX11_row_2 rfl
theorem rX11_row_3 (hci : tcl h o = some 11) : tA sc iX11_row 3 ls [vI p1, vI p0, vR (some o)] h Q = tA sc iX11_isRow 0 [vR (some o), vI p0, vI p1] [] h (fun v h1 => tA sc iX11_row 6 ls (tpu v []) h1 Q) := tA_cV mB_X11_row mO_X11_row dX11_row_3 cT_11_341 rfl (Nat.le_of_ble_eq_true rfl) rfl rfl rfl hci
theorem rX11_row_6 : tA sc iX11_row 6 ls (vI x :: st) h Q = (if x = 0 then tA sc iX11_row 22 ls st h Q else tA sc iX11_row 9 ls st h Q) := tA_if mB_X11_row dX11_row_6 (fun _ _ _ _ => rfl) rfl
theorem rX11_row_9 : tA sc iX11_row 9 [vR r, l1, l2] st h Q = tA sc iX11_row 10 [vR r, l1, l2] (vR r :: st) h Q := tA_pure mB_X11_row dX11_row_9 rfl
theorem rX11_row_10 : tA sc iX11_row 10 ls (vR (some o) :: st) h Q = oz (tget h o [11] 33) (fun v => tA sc iX11_row 13 ls (v :: st) h Q) := tA_get mB_X11_row mO_X11_row dX11_row_10 fT_11_49
theorem rX11_row_13 : tA sc iX11_row 13 ls st h Q = tA sc iX11_row 14 ls (vI (3) :: st) h Q := tA_pure mB_X11_row dX11_row_13 rfl
theorem rX11_row_14 : tA sc iX11_row 14 [l0, vI x, l2] st h Q = tA sc iX11_row 15 [l0, vI x, l2] (vI x :: st) h Q := tA_pure mB_X11_row dX11_row_14 rfl
theorem rX11_row_15 : tA sc iX11_row 15 ls (vI y :: vI x :: st) h Q = tA sc iX11_row 16 ls (vI (x * y) :: st) h Q := tA_pure mB_X11_row dX11_row_15 rfl
theorem rX11_row_16 : tA sc iX11_row 16 [l0, l1, vI x] st h Q = tA sc iX11_row 17 [l0, l1, vI x] (vI x :: st) h Q := tA_pure mB_X11_row dX11_row_16 rfl
theorem rX11_row_17 : tA sc iX11_row 17 ls (vI y :: vI x :: st) h Q = tA sc iX11_row 18 ls (vI (x + y) :: st) h Q := tA_pure mB_X11_row dX11_row_17 rfl
theorem rX11_row_18 : tA sc iX11_row 18 ls (vI j :: vR (some a) :: st) h Q = oz (tald sc h 0 a j) (fun v => tA sc iX11_row 19 ls (vI v :: st) h Q) := tA_iald mB_X11_row dX11_row_18
theorem rX11_row_19 : tA sc iX11_row 19 ls st h Q = tA sc iX11_row 25 ls st h Q := tA_jump mB_X11_row dX11_row_19 (fun _ _ _ _ => rfl) rfl
theorem rX11_row_22 : tA sc iX11_row 22 ls st h Q = tA sc iX11_row 25 ls (vI (-2147483648) :: st) h Q := tA_pure mB_X11_row dX11_row_22 rfl
theorem rX11_row_25 : tA sc iX11_row 25 ls [vI x] h Q = Q (some (vI x)) h := tA_ret mB_X11_row dX11_row_25 (fun _ _ _ _ => rfl) (fun _ _ _ => rfl) (fun _ _ _ _ _ => rfl) rfl rfl
theorem mB_X11_alterRow : mB iX11_alterRow = cX11_alterRow := rfl
theorem mO_X11_alterRow : mO iX11_alterRow = 11 := rfl
theorem rX11_alterRow_0 : tA sc iX11_alterRow 0 [vR r, l1, l2, l3, l4] st h Q = tA sc iX11_alterRow 1 [vR r, l1, l2, l3, l4] (vR r :: st) h Q := tA_pure mB_X11_alterRow dX11_alterRow_0 rfl
theorem rX11_alterRow_1 : tA sc iX11_alterRow 1 [l0, vI x, l2, l3, l4] st h Q = tA sc iX11_alterRow 2 [l0, vI x, l2, l3, l4] (vI x :: st) h Q := tA_pure mB_X11_alterRow dX11_alterRow_1 rfl
theorem rX11_alterRow_2 : tA sc iX11_alterRow 2 [l0, l1, vI x, l3, l4] st h Q = tA sc iX11_alterRow 3 [l0, l1, vI x, l3, l4] (vI x :: st) h Q := tA_pure mB_X11_alterRow dX11_alterRow_2 rfl
theorem rX11_alterRow_3 (hci : tcl h o = some 11) : tA sc iX11_alterRow 3 ls [vI p1, vI p0, vR (some o)] h Q = tA sc iX11_isRow 0 [vR (some o), vI p0, vI p1] [] h (fun v h1 => tA sc iX11_alterRow 6 ls (tpu v []) h1 Q) := tA_cV mB_X11_alterRow mO_X11_alterRow dX11_alterRow_3 cT_11_341 rfl (Nat.le_of_ble_eq_true rfl) rfl rfl rfl hci
theorem rX11_alterRow_6 : tA sc iX11_alterRow 6 ls (vI x :: st) h Q = (if ¬ x = 0 then tA sc iX11_alterRow 13 ls st h Q else tA sc iX11_alterRow 9 ls st h Q) := tA_if mB_X11_alterRow dX11_alterRow_6 (fun _ _ _ _ => rfl) rfl
theorem rX11_alterRow_9 : tA sc iX11_alterRow 9 ls st h Q = tA sc iX11_alterRow 12 ls (vI (-2147483648) :: st) h Q := tA_pure mB_X11_alterRow dX11_alterRow_9 rfl
theorem rX11_alterRow_12 : tA sc iX11_alterRow 12 ls [vI x] h Q = Q (some (vI x)) h := tA_ret mB_X11_alterRow dX11_alterRow_12 (fun _ _ _ _ => rfl) (fun _ _ _ => rfl) (fun _ _ _ _ _ => rfl) rfl rfl
theorem rX11_alterRow_13 : tA sc iX11_alterRow 13 [vR r, l1, l2, l3, l4] st h Q = tA sc iX11_alterRow 14 [vR r, l1, l2, l3, l4] (vR r :: st) h Q := tA_pure mB_X11_alterRow dX11_alterRow_13 rfl
theorem rX11_alterRow_14 : tA sc iX11_alterRow 14 ls (vR (some o) :: st) h Q = oz (tget h o [11] 33) (fun v => tA sc iX11_alterRow 17 ls (v :: st) h Q) := tA_get mB_X11_alterRow mO_X11_alterRow dX11_alterRow_14 fT_11_49
theorem rX11_alterRow_17 : tA sc iX11_alterRow 17 ls st h Q = tA sc iX11_alterRow 18 ls (vI (3) :: st) h Q := tA_pure mB_X11_alterRow dX11_alterRow_17 rfl
theorem rX11_alterRow_18 : tA sc iX11_alterRow 18 [l0, vI x, l2, l3, l4] st h Q = tA sc iX11_alterRow 19 [l0, vI x, l2, l3, l4] (vI x :: st) h Q := tA_pure mB_X11_alterRow dX11_alterRow_18 rfl
theorem rX11_alterRow_19 : tA sc iX11_alterRow 19 ls (vI y :: vI x :: st) h Q = tA sc iX11_alterRow 20 ls (vI (x * y) :: st) h Q := tA_pure mB_X11_alterRow dX11_alterRow_19 rfl
theorem rX11_alterRow_20 : tA sc iX11_alterRow 20 [l0, l1, vI x, l3, l4] st h Q = tA sc iX11_alterRow 21 [l0, l1, vI x, l3, l4] (vI x :: st) h Q := tA_pure mB_X11_alterRow dX11_alterRow_20 rfl
theorem rX11_alterRow_21 : tA sc iX11_alterRow 21 ls (vI y :: vI x :: st) h Q = tA sc iX11_alterRow 22 ls (vI (x + y) :: st) h Q := tA_pure mB_X11_alterRow dX11_alterRow_21 rfl
theorem rX11_alterRow_22 : tA sc iX11_alterRow 22 ls (vI j :: vR (some a) :: st) h Q = oz (tald sc h 0 a j) (fun v => tA sc iX11_alterRow 23 ls (vI v :: st) h Q) := tA_iald mB_X11_alterRow dX11_alterRow_22
theorem rX11_alterRow_23 : tA sc iX11_alterRow 23 [l0, l1, l2, l3, l4] (vI x :: st) h Q = tA sc iX11_alterRow 25 [l0, l1, l2, tclr l3, vI x] st h Q := tA_pure mB_X11_alterRow dX11_alterRow_23 rfl
theorem rX11_alterRow_25 : tA sc iX11_alterRow 25 [vR r, l1, l2, l3, l4] st h Q = tA sc iX11_alterRow 26 [vR r, l1, l2, l3, l4] (vR r :: st) h Q := tA_pure mB_X11_alterRow dX11_alterRow_25 rfl
theorem rX11_alterRow_26 : tA sc iX11_alterRow 26 ls (vR (some o) :: st) h Q = oz (tget h o [11] 33) (fun v => tA sc iX11_alterRow 29 ls (v :: st) h Q) := tA_get mB_X11_alterRow mO_X11_alterRow dX11_alterRow_26 fT_11_49
theorem rX11_alterRow_29 : tA sc iX11_alterRow 29 ls st h Q = tA sc iX11_alterRow 30 ls (vI (3) :: st) h Q := tA_pure mB_X11_alterRow dX11_alterRow_29 rfl
theorem rX11_alterRow_30 : tA sc iX11_alterRow 30 [l0, vI x, l2, l3, l4] st h Q = tA sc iX11_alterRow 31 [l0, vI x, l2, l3, l4] (vI x :: st) h Q := tA_pure mB_X11_alterRow dX11_alterRow_30 rfl
theorem rX11_alterRow_31 : tA sc iX11_alterRow 31 ls (vI y :: vI x :: st) h Q = tA sc iX11_alterRow 32 ls (vI (x * y) :: st) h Q := tA_pure mB_X11_alterRow dX11_alterRow_31 rfl
theorem rX11_alterRow_32 : tA sc iX11_alterRow 32 [l0, l1, vI x, l3, l4] st h Q = tA sc iX11_alterRow 33 [l0, l1, vI x, l3, l4] (vI x :: st) h Q := tA_pure mB_X11_alterRow dX11_alterRow_32 rfl
theorem rX11_alterRow_33 : tA sc iX11_alterRow 33 ls (vI y :: vI x :: st) h Q = tA sc iX11_alterRow 34 ls (vI (x + y) :: st) h Q := tA_pure mB_X11_alterRow dX11_alterRow_33 rfl
theorem rX11_alterRow_34 : tA sc iX11_alterRow 34 [l0, l1, l2, vI x, l4] st h Q = tA sc iX11_alterRow 35 [l0, l1, l2, vI x, l4] (vI x :: st) h Q := tA_pure mB_X11_alterRow dX11_alterRow_34 rfl
theorem rX11_alterRow_35 : tA sc iX11_alterRow 35 ls (vI x :: vI j :: vR (some a) :: st) h Q = oz (tasi h a j x) (fun h' => tA sc iX11_alterRow 36 ls st h' Q) := tA_iast mB_X11_alterRow dX11_alterRow_35
theorem rX11_alterRow_36 : tA sc iX11_alterRow 36 [l0, l1, l2, l3, vI x] st h Q = tA sc iX11_alterRow 38 [l0, l1, l2, l3, vI x] (vI x :: st) h Q := tA_pure mB_X11_alterRow dX11_alterRow_36 rfl
theorem rX11_alterRow_38 : tA sc iX11_alterRow 38 ls [vI x] h Q = Q (some (vI x)) h := tA_ret mB_X11_alterRow dX11_alterRow_38 (fun _ _ _ _ => rfl) (fun _ _ _ => rfl) (fun _ _ _ _ _ => rfl) rfl rfl
theorem mB_X11_judge : mB iX11_judge = cX11_judge := rfl
theorem mO_X11_judge : mO iX11_judge = 11 := rfl
theorem rX11_judge_0 : tA sc iX11_judge 0 [vR r, l1, l2, l3] st h Q = tA sc iX11_judge 1 [vR r, l1, l2, l3] (vR r :: st) h Q := tA_pure mB_X11_judge dX11_judge_0 rfl
theorem rX11_judge_1 : tA sc iX11_judge 1 [vR r, l1, l2, l3] st h Q = tA sc iX11_judge 2 [vR r, l1, l2, l3] (vR r :: st) h Q := tA_pure mB_X11_judge dX11_judge_1 rfl
theorem rX11_judge_2 : tA sc iX11_judge 2 ls (vR (some o) :: st) h Q = oz (tget h o [11] 35) (fun v => tA sc iX11_judge 5 ls (v :: st) h Q) := tA_get mB_X11_judge mO_X11_judge dX11_judge_2 fT_11_213
theorem rX11_judge_5 (hci : tcl h o = some 11) : tA sc iX11_judge 5 ls [vI p0, vR (some o)] h Q = tA sc iX11_findRows 0 [vR (some o), vI p0, vU, vU] [] h (fun v h1 => tA sc iX11_judge 8 ls (tpu v []) h1 Q) := tA_cV mB_X11_judge mO_X11_judge dX11_judge_5 cT_11_338 rfl (Nat.le_of_ble_eq_true rfl) rfl rfl rfl hci
theorem rX11_judge_8 : tA sc iX11_judge 8 ls st h Q = tA sc iX11_judge 9 ls (vI (0) :: st) h Q := tA_pure mB_X11_judge dX11_judge_8 rfl
theorem rX11_judge_9 : tA sc iX11_judge 9 [l0, l1, l2, l3] (vI x :: st) h Q = tA sc iX11_judge 10 [tclr l0, vI x, l2, l3] st h Q := tA_pure mB_X11_judge dX11_judge_9 rfl
theorem rX11_judge_10 : tA sc iX11_judge 10 [l0, vI x, l2, l3] st h Q = tA sc iX11_judge 11 [l0, vI x, l2, l3] (vI x :: st) h Q := tA_pure mB_X11_judge dX11_judge_10 rfl
theorem rX11_judge_11 : tA sc iX11_judge 11 [vR r, l1, l2, l3] st h Q = tA sc iX11_judge 12 [vR r, l1, l2, l3] (vR r :: st) h Q := tA_pure mB_X11_judge dX11_judge_11 rfl
theorem rX11_judge_12 : tA sc iX11_judge 12 ls (vR (some o) :: st) h Q = oz (tget h o [11] 35) (fun v => tA sc iX11_judge 15 ls (v :: st) h Q) := tA_get mB_X11_judge mO_X11_judge dX11_judge_12 fT_11_213
theorem rX11_judge_15 : tA sc iX11_judge 15 ls (vI y :: vI x :: st) h Q = (if y ≤ x then tA sc iX11_judge 92 ls st h Q else tA sc iX11_judge 18 ls st h Q) := tA_if mB_X11_judge dX11_judge_15 (fun _ _ _ _ => rfl) rfl
theorem rX11_judge_18 : tA sc iX11_judge 18 [l0, vI x, l2, l3] st h Q = tA sc iX11_judge 19 [l0, vI x, l2, l3] (vI x :: st) h Q := tA_pure mB_X11_judge dX11_judge_18 rfl
theorem rX11_judge_19 : tA sc iX11_judge 19 [vR r, l1, l2, l3] st h Q = tA sc iX11_judge 20 [vR r, l1, l2, l3] (vR r :: st) h Q := tA_pure mB_X11_judge dX11_judge_19 rfl
theorem rX11_judge_20 : tA sc iX11_judge 20 ls (vR (some o) :: st) h Q = oz (tget h o [11] 36) (fun v => tA sc iX11_judge 23 ls (v :: st) h Q) := tA_get mB_X11_judge mO_X11_judge dX11_judge_20 fT_11_335
theorem rX11_judge_23 : tA sc iX11_judge 23 ls (vI y :: vI x :: st) h Q = (if y ≤ x then tA sc iX11_judge 30 ls st h Q else tA sc iX11_judge 26 ls st h Q) := tA_if mB_X11_judge dX11_judge_23 (fun _ _ _ _ => rfl) rfl
theorem rX11_judge_26 : tA sc iX11_judge 26 ls st h Q = tA sc iX11_judge 27 ls (vI (1) :: st) h Q := tA_pure mB_X11_judge dX11_judge_26 rfl
theorem rX11_judge_27 : tA sc iX11_judge 27 ls st h Q = tA sc iX11_judge 31 ls st h Q := tA_jump mB_X11_judge dX11_judge_27 (fun _ _ _ _ => rfl) rfl
theorem rX11_judge_30 : tA sc iX11_judge 30 ls st h Q = tA sc iX11_judge 31 ls (vI (0) :: st) h Q := tA_pure mB_X11_judge dX11_judge_30 rfl
theorem rX11_judge_31 : tA sc iX11_judge 31 [l0, l1, l2, l3] (vI x :: st) h Q = tA sc iX11_judge 32 [l0, tclr l1, vI x, l3] st h Q := tA_pure mB_X11_judge dX11_judge_31 rfl
theorem rX11_judge_32 : tA sc iX11_judge 32 ls st h Q = tA sc iX11_judge 33 ls (vI (0) :: st) h Q := tA_pure mB_X11_judge dX11_judge_32 rfl
theorem rX11_judge_33 : tA sc iX11_judge 33 [l0, l1, l2, l3] (vI x :: st) h Q = tA sc iX11_judge 34 [l0, l1, tclr l2, vI x] st h Q := tA_pure mB_X11_judge dX11_judge_33 rfl
theorem rX11_judge_34 : tA sc iX11_judge 34 [l0, l1, l2, vI x] st h Q = tA sc iX11_judge 35 [l0, l1, l2, vI x] (vI x :: st) h Q := tA_pure mB_X11_judge dX11_judge_34 rfl
theorem rX11_judge_35 : tA sc iX11_judge 35 ls st h Q = tA sc iX11_judge 36 ls (vI (3) :: st) h Q := tA_pure mB_X11_judge dX11_judge_35 rfl
theorem rX11_judge_36 : tA sc iX11_judge 36 ls (vI y :: vI x :: st) h Q = (if y ≤ x then tA sc iX11_judge 78 ls st h Q else tA sc iX11_judge 39 ls st h Q) := tA_if mB_X11_judge dX11_judge_36 (fun _ _ _ _ => rfl) rfl
theorem rX11_judge_39 : tA sc iX11_judge 39 [l0, l1, vI x, l3] st h Q = tA sc iX11_judge 40 [l0, l1, vI x, l3] (vI x :: st) h Q := tA_pure mB_X11_judge dX11_judge_39 rfl
theorem rX11_judge_40 : tA sc iX11_judge 40 ls (vI x :: st) h Q = (if x = 0 then tA sc iX11_judge 78 ls st h Q else tA sc iX11_judge 43 ls st h Q) := tA_if mB_X11_judge dX11_judge_40 (fun _ _ _ _ => rfl) rfl
theorem rX11_judge_43 : tA sc iX11_judge 43 [vR r, l1, l2, l3] st h Q = tA sc iX11_judge 44 [vR r, l1, l2, l3] (vR r :: st) h Q := tA_pure mB_X11_judge dX11_judge_43 rfl
theorem rX11_judge_44 : tA sc iX11_judge 44 ls (vR (some o) :: st) h Q = oz (tget h o [11] 33) (fun v => tA sc iX11_judge 47 ls (v :: st) h Q) := tA_get mB_X11_judge mO_X11_judge dX11_judge_44 fT_11_49
theorem rX11_judge_47 : tA sc iX11_judge 47 ls st h Q = tA sc iX11_judge 48 ls (vI (3) :: st) h Q := tA_pure mB_X11_judge dX11_judge_47 rfl
theorem rX11_judge_48 : tA sc iX11_judge 48 [l0, vI x, l2, l3] st h Q = tA sc iX11_judge 49 [l0, vI x, l2, l3] (vI x :: st) h Q := tA_pure mB_X11_judge dX11_judge_48 rfl
theorem rX11_judge_49 : tA sc iX11_judge 49 ls (vI y :: vI x :: st) h Q = tA sc iX11_judge 50 ls (vI (x * y) :: st) h Q := tA_pure mB_X11_judge dX11_judge_49 rfl
theorem rX11_judge_50 : tA sc iX11_judge 50 [l0, l1, l2, vI x] st h Q = tA sc iX11_judge 51 [l0, l1, l2, vI x] (vI x :: st) h Q := tA_pure mB_X11_judge dX11_judge_50 rfl
theorem rX11_judge_51 : tA sc iX11_judge 51 ls (vI y :: vI x :: st) h Q = tA sc iX11_judge 52 ls (vI (x + y) :: st) h Q := tA_pure mB_X11_judge dX11_judge_51 rfl
theorem rX11_judge_52 : tA sc iX11_judge 52 ls (vI j :: vR (some a) :: st) h Q = oz (tald sc h 0 a j) (fun v => tA sc iX11_judge 53 ls (vI v :: st) h Q) := tA_iald mB_X11_judge dX11_judge_52
theorem rX11_judge_53 : tA sc iX11_judge 53 [vR r, l1, l2, l3] st h Q = tA sc iX11_judge 54 [vR r, l1, l2, l3] (vR r :: st) h Q := tA_pure mB_X11_judge dX11_judge_53 rfl
theorem rX11_judge_54 : tA sc iX11_judge 54 ls (vR (some o) :: st) h Q = oz (tget h o [11] 34) (fun v => tA sc iX11_judge 57 ls (v :: st) h Q) := tA_get mB_X11_judge mO_X11_judge dX11_judge_54 fT_11_52
theorem rX11_judge_57 : tA sc iX11_judge 57 ls st h Q = tA sc iX11_judge 58 ls (vI (3) :: st) h Q := tA_pure mB_X11_judge dX11_judge_57 rfl
theorem rX11_judge_58 : tA sc iX11_judge 58 [l0, vI x, l2, l3] st h Q = tA sc iX11_judge 59 [l0, vI x, l2, l3] (vI x :: st) h Q := tA_pure mB_X11_judge dX11_judge_58 rfl
theorem rX11_judge_59 : tA sc iX11_judge 59 ls (vI y :: vI x :: st) h Q = tA sc iX11_judge 60 ls (vI (x * y) :: st) h Q := tA_pure mB_X11_judge dX11_judge_59 rfl
theorem rX11_judge_60 : tA sc iX11_judge 60 [l0, l1, l2, vI x] st h Q = tA sc iX11_judge 61 [l0, l1, l2, vI x] (vI x :: st) h Q := tA_pure mB_X11_judge dX11_judge_60 rfl
theorem rX11_judge_61 : tA sc iX11_judge 61 ls (vI y :: vI x :: st) h Q = tA sc iX11_judge 62 ls (vI (x + y) :: st) h Q := tA_pure mB_X11_judge dX11_judge_61 rfl
theorem rX11_judge_62 : tA sc iX11_judge 62 ls (vI j :: vR (some a) :: st) h Q = oz (tald sc h 0 a j) (fun v => tA sc iX11_judge 63 ls (vI v :: st) h Q) := tA_iald mB_X11_judge dX11_judge_62
theorem rX11_judge_63 : tA sc iX11_judge 63 ls (vI y :: vI x :: st) h Q = (if ¬ x = y then tA sc iX11_judge 70 ls st h Q else tA sc iX11_judge 66 ls st h Q) := tA_if mB_X11_judge dX11_judge_63 (fun _ _ _ _ => rfl) rfl
theorem rX11_judge_66 : tA sc iX11_judge 66 ls st h Q = tA sc iX11_judge 67 ls (vI (1) :: st) h Q := tA_pure mB_X11_judge dX11_judge_66 rfl
theorem rX11_judge_67 : tA sc iX11_judge 67 ls st h Q = tA sc iX11_judge 71 ls st h Q := tA_jump mB_X11_judge dX11_judge_67 (fun _ _ _ _ => rfl) rfl
theorem rX11_judge_70 : tA sc iX11_judge 70 ls st h Q = tA sc iX11_judge 71 ls (vI (0) :: st) h Q := tA_pure mB_X11_judge dX11_judge_70 rfl
theorem rX11_judge_71 : tA sc iX11_judge 71 [l0, l1, l2, l3] (vI x :: st) h Q = tA sc iX11_judge 72 [l0, tclr l1, vI x, l3] st h Q := tA_pure mB_X11_judge dX11_judge_71 rfl
theorem rX11_judge_72 : tA sc iX11_judge 72 [l0, l1, l2, vI x] st h Q = tA sc iX11_judge 75 [l0, l1, tclr l2, vI (x + 1)] st h Q := tA_pure mB_X11_judge dX11_judge_72 rfl
theorem rX11_judge_75 : tA sc iX11_judge 75 ls st h Q = tA sc iX11_judge 34 ls st h Q := tA_jump mB_X11_judge dX11_judge_75 (fun _ _ _ _ => rfl) rfl
theorem rX11_judge_78 : tA sc iX11_judge 78 [l0, l1, vI x, l3] st h Q = tA sc iX11_judge 79 [l0, l1, vI x, l3] (vI x :: st) h Q := tA_pure mB_X11_judge dX11_judge_78 rfl
theorem rX11_judge_79 : tA sc iX11_judge 79 ls (vI x :: st) h Q = (if ¬ x = 0 then tA sc iX11_judge 86 ls st h Q else tA sc iX11_judge 82 ls st h Q) := tA_if mB_X11_judge dX11_judge_79 (fun _ _ _ _ => rfl) rfl
theorem rX11_judge_82 : tA sc iX11_judge 82 [l0, vI x, l2, l3] st h Q = tA sc iX11_judge 83 [l0, vI x, l2, l3] (vI x :: st) h Q := tA_pure mB_X11_judge dX11_judge_82 rfl
theorem rX11_judge_83 : tA sc iX11_judge 83 ls st h Q = tA sc iX11_judge 84 ls (vI (1) :: st) h Q := tA_pure mB_X11_judge dX11_judge_83 rfl
theorem rX11_judge_84 : tA sc iX11_judge 84 ls (vI y :: vI x :: st) h Q = tA sc iX11_judge 85 ls (vI (x + y) :: st) h Q := tA_pure mB_X11_judge dX11_judge_84 rfl
theorem rX11_judge_85 : tA sc iX11_judge 85 ls [vI x] h Q = Q (some (vI x)) h := tA_ret mB_X11_judge dX11_judge_85 (fun _ _ _ _ => rfl) (fun _ _ _ => rfl) (fun _ _ _ _ _ => rfl) rfl rfl
theorem rX11_judge_86 : tA sc iX11_judge 86 [l0, vI x, l2, l3] st h Q = tA sc iX11_judge 89 [tclr l0, vI (x + 1), l2, l3] st h Q := tA_pure mB_X11_judge dX11_judge_86 rfl
theorem rX11_judge_89 : tA sc iX11_judge 89 ls st h Q = tA sc iX11_judge 10 ls st h Q := tA_jump mB_X11_judge dX11_judge_89 (fun _ _ _ _ => rfl) rfl
theorem rX11_judge_92 : tA sc iX11_judge 92 ls st h Q = tA sc iX11_judge 93 ls (vI (0) :: st) h Q := tA_pure mB_X11_judge dX11_judge_92 rfl
theorem rX11_judge_93 : tA sc iX11_judge 93 ls [vI x] h Q = Q (some (vI x)) h := tA_ret mB_X11_judge dX11_judge_93 (fun _ _ _ _ => rfl) (fun _ _ _ => rfl) (fun _ _ _ _ _ => rfl) rfl rfl
theorem mB_X11_worths : mB iX11_worths = cX11_worths := rfl
theorem mO_X11_worths : mO iX11_worths = 11 := rfl
theorem rX11_worths_0 : tA sc iX11_worths 0 [l0, vI x, l2, l3, l4, l5, l6, l7, l8] st h Q = tA sc iX11_worths 1 [l0, vI x, l2, l3, l4, l5, l6, l7, l8] (vI x :: st) h Q := tA_pure mB_X11_worths dX11_worths_0 rfl
theorem rX11_worths_1 : tA sc iX11_worths 1 ls [vI p0] h Q = tA sc iX11_isShelf 0 [vI p0] [] h (fun v h1 => tA sc iX11_worths 4 ls (tpu v []) h1 Q) := tA_cS mB_X11_worths mO_X11_worths dX11_worths_1 cT_11_345 ⟨Nat.le_of_ble_eq_true rfl, Nat.le_of_ble_eq_true rfl⟩ rfl rfl rfl rfl
theorem rX11_worths_4 : tA sc iX11_worths 4 ls (vI x :: st) h Q = (if x = 0 then tA sc iX11_worths 34 ls st h Q else tA sc iX11_worths 7 ls st h Q) := tA_if mB_X11_worths dX11_worths_4 (fun _ _ _ _ => rfl) rfl
theorem rX11_worths_7 : tA sc iX11_worths 7 [l0, l1, l2, vI x, l4, l5, l6, l7, l8] st h Q = tA sc iX11_worths 8 [l0, l1, l2, vI x, l4, l5, l6, l7, l8] (vI x :: st) h Q := tA_pure mB_X11_worths dX11_worths_7 rfl
theorem rX11_worths_8 : tA sc iX11_worths 8 ls [vI p0] h Q = tA sc iX11_isDay 0 [vI p0] [] h (fun v h1 => tA sc iX11_worths 11 ls (tpu v []) h1 Q) := tA_cS mB_X11_worths mO_X11_worths dX11_worths_8 cT_11_216 ⟨Nat.le_of_ble_eq_true rfl, Nat.le_of_ble_eq_true rfl⟩ rfl rfl rfl rfl
theorem rX11_worths_11 : tA sc iX11_worths 11 ls (vI x :: st) h Q = (if x = 0 then tA sc iX11_worths 34 ls st h Q else tA sc iX11_worths 14 ls st h Q) := tA_if mB_X11_worths dX11_worths_11 (fun _ _ _ _ => rfl) rfl
theorem rX11_worths_14 : tA sc iX11_worths 14 [l0, l1, l2, l3, vI x, l5, l6, l7, l8] st h Q = tA sc iX11_worths 16 [l0, l1, l2, l3, vI x, l5, l6, l7, l8] (vI x :: st) h Q := tA_pure mB_X11_worths dX11_worths_14 rfl
theorem rX11_worths_16 : tA sc iX11_worths 16 ls st h Q = tA sc iX11_worths 17 ls (vI (0) :: st) h Q := tA_pure mB_X11_worths dX11_worths_16 rfl
theorem rX11_worths_17 : tA sc iX11_worths 17 ls st h Q = tA sc iX11_worths 19 ls (vI (20) :: st) h Q := tA_pure mB_X11_worths dX11_worths_17 rfl
theorem rX11_worths_19 : tA sc iX11_worths 19 ls [vI p2, vI p1, vI p0] h Q = tA sc iX11_in 0 [vI p0, vI p1, vI p2] [] h (fun v h1 => tA sc iX11_worths 22 ls (tpu v []) h1 Q) := tA_cS mB_X11_worths mO_X11_worths dX11_worths_19 cT_11_83 ⟨Nat.le_of_ble_eq_true rfl, Nat.le_of_ble_eq_true rfl⟩ rfl rfl rfl rfl
theorem rX11_worths_22 : tA sc iX11_worths 22 ls (vI x :: st) h Q = (if x = 0 then tA sc iX11_worths 34 ls st h Q else tA sc iX11_worths 25 ls st h Q) := tA_if mB_X11_worths dX11_worths_22 (fun _ _ _ _ => rfl) rfl
theorem rX11_worths_25 : tA sc iX11_worths 25 [l0, l1, l2, vI x, l4, l5, l6, l7, l8] st h Q = tA sc iX11_worths 26 [l0, l1, l2, vI x, l4, l5, l6, l7, l8] (vI x :: st) h Q := tA_pure mB_X11_worths dX11_worths_25 rfl
theorem rX11_worths_26 : tA sc iX11_worths 26 [l0, l1, l2, l3, vI x, l5, l6, l7, l8] st h Q = tA sc iX11_worths 28 [l0, l1, l2, l3, vI x, l5, l6, l7, l8] (vI x :: st) h Q := tA_pure mB_X11_worths dX11_worths_26 rfl
theorem rX11_worths_28 : tA sc iX11_worths 28 ls (vI y :: vI x :: st) h Q = tA sc iX11_worths 29 ls (vI (x + y) :: st) h Q := tA_pure mB_X11_worths dX11_worths_28 rfl
theorem rX11_worths_29 : tA sc iX11_worths 29 ls st h Q = tA sc iX11_worths 31 ls (vI (20) :: st) h Q := tA_pure mB_X11_worths dX11_worths_29 rfl
theorem rX11_worths_31 : tA sc iX11_worths 31 ls (vI y :: vI x :: st) h Q = (if x ≤ y then tA sc iX11_worths 36 ls st h Q else tA sc iX11_worths 34 ls st h Q) := tA_if mB_X11_worths dX11_worths_31 (fun _ _ _ _ => rfl) rfl
theorem rX11_worths_34 : tA sc iX11_worths 34 ls st h Q = tA sc iX11_worths 35 ls (vI (-1) :: st) h Q := tA_pure mB_X11_worths dX11_worths_34 rfl
theorem rX11_worths_35 : tA sc iX11_worths 35 ls [vI x] h Q = Q (some (vI x)) h := tA_ret mB_X11_worths dX11_worths_35 (fun _ _ _ _ => rfl) (fun _ _ _ => rfl) (fun _ _ _ _ _ => rfl) rfl rfl
theorem rX11_worths_36 : tA sc iX11_worths 36 [vR r, l1, l2, l3, l4, l5, l6, l7, l8] st h Q = tA sc iX11_worths 37 [vR r, l1, l2, l3, l4, l5, l6, l7, l8] (vR r :: st) h Q := tA_pure mB_X11_worths dX11_worths_36 rfl
theorem rX11_worths_37 : tA sc iX11_worths 37 [l0, vI x, l2, l3, l4, l5, l6, l7, l8] st h Q = tA sc iX11_worths 38 [l0, vI x, l2, l3, l4, l5, l6, l7, l8] (vI x :: st) h Q := tA_pure mB_X11_worths dX11_worths_37 rfl
theorem rX11_worths_38 : tA sc iX11_worths 38 ls st h Q = tA sc iX11_worths 39 ls (vI (0) :: st) h Q := tA_pure mB_X11_worths dX11_worths_38 rfl
theorem rX11_worths_39 (hci : tcl h o = some 11) : tA sc iX11_worths 39 ls [vI p1, vI p0, vR (some o)] h Q = tA sc iX11_lacksSort 0 [vR (some o), vI p0, vI p1] [] h (fun v h1 => tA sc iX11_worths 42 ls (tpu v []) h1 Q) := tA_cV mB_X11_worths mO_X11_worths dX11_worths_39 cT_11_348 rfl (Nat.le_of_ble_eq_true rfl) rfl rfl rfl hci
theorem rX11_worths_42 : tA sc iX11_worths 42 [l0, l1, l2, l3, l4, l5, l6, l7, l8] (vI x :: st) h Q = tA sc iX11_worths 44 [l0, l1, l2, l3, tclr l4, vI x, l6, l7, l8] st h Q := tA_pure mB_X11_worths dX11_worths_42 rfl
theorem rX11_worths_44 : tA sc iX11_worths 44 [l0, l1, l2, l3, l4, vI x, l6, l7, l8] st h Q = tA sc iX11_worths 46 [l0, l1, l2, l3, l4, vI x, l6, l7, l8] (vI x :: st) h Q := tA_pure mB_X11_worths dX11_worths_44 rfl
theorem rX11_worths_46 : tA sc iX11_worths 46 ls (vI x :: st) h Q = (if x = 0 then tA sc iX11_worths 52 ls st h Q else tA sc iX11_worths 49 ls st h Q) := tA_if mB_X11_worths dX11_worths_46 (fun _ _ _ _ => rfl) rfl
theorem rX11_worths_49 : tA sc iX11_worths 49 [l0, l1, l2, l3, l4, vI x, l6, l7, l8] st h Q = tA sc iX11_worths 51 [l0, l1, l2, l3, l4, vI x, l6, l7, l8] (vI x :: st) h Q := tA_pure mB_X11_worths dX11_worths_49 rfl
theorem rX11_worths_51 : tA sc iX11_worths 51 ls [vI x] h Q = Q (some (vI x)) h := tA_ret mB_X11_worths dX11_worths_51 (fun _ _ _ _ => rfl) (fun _ _ _ => rfl) (fun _ _ _ _ _ => rfl) rfl rfl
theorem rX11_worths_52 : tA sc iX11_worths 52 [l0, l1, vI x, l3, l4, l5, l6, l7, l8] st h Q = tA sc iX11_worths 53 [l0, l1, vI x, l3, l4, l5, l6, l7, l8] (vI x :: st) h Q := tA_pure mB_X11_worths dX11_worths_52 rfl
theorem rX11_worths_53 : tA sc iX11_worths 53 ls (vI x :: st) h Q = (if x < 0 then tA sc iX11_worths 69 ls st h Q else tA sc iX11_worths 56 ls st h Q) := tA_if mB_X11_worths dX11_worths_53 (fun _ _ _ _ => rfl) rfl
theorem rX11_worths_56 : tA sc iX11_worths 56 [l0, l1, vI x, l3, l4, l5, l6, l7, l8] st h Q = tA sc iX11_worths 57 [l0, l1, vI x, l3, l4, l5, l6, l7, l8] (vI x :: st) h Q := tA_pure mB_X11_worths dX11_worths_56 rfl
theorem rX11_worths_57 : tA sc iX11_worths 57 [vR r, l1, l2, l3, l4, l5, l6, l7, l8] st h Q = tA sc iX11_worths 58 [vR r, l1, l2, l3, l4, l5, l6, l7, l8] (vR r :: st) h Q := tA_pure mB_X11_worths dX11_worths_57 rfl
theorem rX11_worths_58 : tA sc iX11_worths 58 ls (vR (some o) :: st) h Q = oz (tget h o [11] 38) (fun v => tA sc iX11_worths 61 ls (v :: st) h Q) := tA_get mB_X11_worths mO_X11_worths dX11_worths_58 fT_11_58
theorem rX11_worths_61 : tA sc iX11_worths 61 [l0, vI x, l2, l3, l4, l5, l6, l7, l8] st h Q = tA sc iX11_worths 62 [l0, vI x, l2, l3, l4, l5, l6, l7, l8] (vI x :: st) h Q := tA_pure mB_X11_worths dX11_worths_61 rfl
theorem rX11_worths_62 : tA sc iX11_worths 62 ls (vI j :: vR (some a) :: st) h Q = oz (tald sc h 0 a j) (fun v => tA sc iX11_worths 63 ls (vI v :: st) h Q) := tA_iald mB_X11_worths dX11_worths_62
theorem rX11_worths_63 : tA sc iX11_worths 63 [l0, l1, l2, l3, vI x, l5, l6, l7, l8] st h Q = tA sc iX11_worths 65 [l0, l1, l2, l3, vI x, l5, l6, l7, l8] (vI x :: st) h Q := tA_pure mB_X11_worths dX11_worths_63 rfl
theorem rX11_worths_65 : tA sc iX11_worths 65 ls (vI y :: vI x :: st) h Q = tA sc iX11_worths 66 ls (vI (x - y) :: st) h Q := tA_pure mB_X11_worths dX11_worths_65 rfl
theorem rX11_worths_66 : tA sc iX11_worths 66 ls (vI y :: vI x :: st) h Q = (if x ≤ y then tA sc iX11_worths 72 ls st h Q else tA sc iX11_worths 69 ls st h Q) := tA_if mB_X11_worths dX11_worths_66 (fun _ _ _ _ => rfl) rfl
theorem rX11_worths_69 : tA sc iX11_worths 69 ls st h Q = tA sc iX11_worths 71 ls (vI (-12) :: st) h Q := tA_pure mB_X11_worths dX11_worths_69 rfl
theorem rX11_worths_71 : tA sc iX11_worths 71 ls [vI x] h Q = Q (some (vI x)) h := tA_ret mB_X11_worths dX11_worths_71 (fun _ _ _ _ => rfl) (fun _ _ _ => rfl) (fun _ _ _ _ _ => rfl) rfl rfl
theorem rX11_worths_72 : tA sc iX11_worths 72 ls st h Q = tA sc iX11_worths 73 ls (vI (0) :: st) h Q := tA_pure mB_X11_worths dX11_worths_72 rfl
theorem rX11_worths_73 : tA sc iX11_worths 73 [l0, l1, l2, l3, l4, l5, l6, l7, l8] (vI x :: st) h Q = tA sc iX11_worths 75 [l0, l1, l2, l3, l4, tclr l5, vI x, l7, l8] st h Q := tA_pure mB_X11_worths dX11_worths_73 rfl
theorem rX11_worths_75 : tA sc iX11_worths 75 [l0, l1, l2, l3, l4, l5, vI x, l7, l8] st h Q = tA sc iX11_worths 77 [l0, l1, l2, l3, l4, l5, vI x, l7, l8] (vI x :: st) h Q := tA_pure mB_X11_worths dX11_worths_75 rfl
theorem rX11_worths_77 : tA sc iX11_worths 77 [l0, l1, l2, l3, vI x, l5, l6, l7, l8] st h Q = tA sc iX11_worths 79 [l0, l1, l2, l3, vI x, l5, l6, l7, l8] (vI x :: st) h Q := tA_pure mB_X11_worths dX11_worths_77 rfl
theorem rX11_worths_79 : tA sc iX11_worths 79 ls (vI y :: vI x :: st) h Q = (if y ≤ x then tA sc iX11_worths 141 ls st h Q else tA sc iX11_worths 82 ls st h Q) := tA_if mB_X11_worths dX11_worths_79 (fun _ _ _ _ => rfl) rfl
theorem rX11_worths_82 : tA sc iX11_worths 82 [vR r, l1, l2, l3, l4, l5, l6, l7, l8] st h Q = tA sc iX11_worths 83 [vR r, l1, l2, l3, l4, l5, l6, l7, l8] (vR r :: st) h Q := tA_pure mB_X11_worths dX11_worths_82 rfl
theorem rX11_worths_83 : tA sc iX11_worths 83 ls (vR (some o) :: st) h Q = oz (tget h o [11] 39) (fun v => tA sc iX11_worths 86 ls (v :: st) h Q) := tA_get mB_X11_worths mO_X11_worths dX11_worths_83 fT_11_61
theorem rX11_worths_86 : tA sc iX11_worths 86 ls st h Q = tA sc iX11_worths 88 ls (vI (40) :: st) h Q := tA_pure mB_X11_worths dX11_worths_86 rfl
theorem rX11_worths_88 : tA sc iX11_worths 88 [l0, vI x, l2, l3, l4, l5, l6, l7, l8] st h Q = tA sc iX11_worths 89 [l0, vI x, l2, l3, l4, l5, l6, l7, l8] (vI x :: st) h Q := tA_pure mB_X11_worths dX11_worths_88 rfl
theorem rX11_worths_89 : tA sc iX11_worths 89 ls (vI y :: vI x :: st) h Q = tA sc iX11_worths 90 ls (vI (x * y) :: st) h Q := tA_pure mB_X11_worths dX11_worths_89 rfl
theorem rX11_worths_90 : tA sc iX11_worths 90 [l0, l1, vI x, l3, l4, l5, l6, l7, l8] st h Q = tA sc iX11_worths 91 [l0, l1, vI x, l3, l4, l5, l6, l7, l8] (vI x :: st) h Q := tA_pure mB_X11_worths dX11_worths_90 rfl
theorem rX11_worths_91 : tA sc iX11_worths 91 ls (vI y :: vI x :: st) h Q = tA sc iX11_worths 92 ls (vI (x + y) :: st) h Q := tA_pure mB_X11_worths dX11_worths_91 rfl
theorem rX11_worths_92 : tA sc iX11_worths 92 [l0, l1, l2, l3, l4, l5, vI x, l7, l8] st h Q = tA sc iX11_worths 94 [l0, l1, l2, l3, l4, l5, vI x, l7, l8] (vI x :: st) h Q := tA_pure mB_X11_worths dX11_worths_92 rfl
theorem rX11_worths_94 : tA sc iX11_worths 94 ls (vI y :: vI x :: st) h Q = tA sc iX11_worths 95 ls (vI (x + y) :: st) h Q := tA_pure mB_X11_worths dX11_worths_94 rfl
theorem rX11_worths_95 : tA sc iX11_worths 95 ls (vI j :: vR (some a) :: st) h Q = oz (tldl h a j) (fun v => tA sc iX11_worths 96 ls (vL v :: st) h Q) := tA_lald mB_X11_worths dX11_worths_95
theorem rX11_worths_96 : tA sc iX11_worths 96 [l0, l1, l2, l3, l4, l5, l6, l7, l8] (vL u :: st) h Q = tA sc iX11_worths 98 [l0, l1, l2, l3, l4, l5, tclr l6, vL u, vU] st h Q := tA_pure mB_X11_worths dX11_worths_96 rfl
theorem rX11_worths_98 : tA sc iX11_worths 98 [vR r, l1, l2, l3, l4, l5, l6, l7, l8] st h Q = tA sc iX11_worths 99 [vR r, l1, l2, l3, l4, l5, l6, l7, l8] (vR r :: st) h Q := tA_pure mB_X11_worths dX11_worths_98 rfl
theorem rX11_worths_99 : tA sc iX11_worths 99 ls (vR (some o) :: st) h Q = oz (tget h o [11] 2) (fun v => tA sc iX11_worths 102 ls (v :: st) h Q) := tA_get mB_X11_worths mO_X11_worths dX11_worths_99 fT_11_13
theorem rX11_worths_102 : tA sc iX11_worths 102 [l0, l1, l2, vI x, l4, l5, l6, l7, l8] st h Q = tA sc iX11_worths 103 [l0, l1, l2, vI x, l4, l5, l6, l7, l8] (vI x :: st) h Q := tA_pure mB_X11_worths dX11_worths_102 rfl
theorem rX11_worths_103 : tA sc iX11_worths 103 [l0, l1, l2, l3, l4, l5, vI x, l7, l8] st h Q = tA sc iX11_worths 105 [l0, l1, l2, l3, l4, l5, vI x, l7, l8] (vI x :: st) h Q := tA_pure mB_X11_worths dX11_worths_103 rfl
theorem rX11_worths_105 : tA sc iX11_worths 105 ls (vI y :: vI x :: st) h Q = tA sc iX11_worths 106 ls (vI (x + y) :: st) h Q := tA_pure mB_X11_worths dX11_worths_105 rfl
theorem rX11_worths_106 : tA sc iX11_worths 106 [l0, l1, l2, l3, l4, l5, l6, vL u, l8] st h Q = tA sc iX11_worths 108 [l0, l1, l2, l3, l4, l5, l6, vL u, l8] (vL u :: st) h Q := tA_pure mB_X11_worths dX11_worths_106 rfl
theorem rX11_worths_108 : tA sc iX11_worths 108 ls st h Q = tA sc iX11_worths 109 ls (vL 0 :: st) h Q := tA_pure mB_X11_worths dX11_worths_108 rfl
theorem rX11_worths_109 : tA sc iX11_worths 109 ls (vL w :: vL u :: st) h Q = tA sc iX11_worths 110 ls (vI (lg_cmp u w) :: st) h Q := tA_pure mB_X11_worths dX11_worths_109 rfl
theorem rX11_worths_110 : tA sc iX11_worths 110 ls (vI x :: st) h Q = (if 0 ≤ x then tA sc iX11_worths 117 ls st h Q else tA sc iX11_worths 113 ls st h Q) := tA_if mB_X11_worths dX11_worths_110 (fun _ _ _ _ => rfl) rfl
theorem rX11_worths_113 : tA sc iX11_worths 113 ls st h Q = tA sc iX11_worths 114 ls (vI (0) :: st) h Q := tA_pure mB_X11_worths dX11_worths_113 rfl
theorem rX11_worths_114 : tA sc iX11_worths 114 ls st h Q = tA sc iX11_worths 134 ls st h Q := tA_jump mB_X11_worths dX11_worths_114 (fun _ _ _ _ => rfl) rfl
theorem rX11_worths_117 : tA sc iX11_worths 117 [l0, l1, l2, l3, l4, l5, l6, vL u, l8] st h Q = tA sc iX11_worths 119 [l0, l1, l2, l3, l4, l5, l6, vL u, l8] (vL u :: st) h Q := tA_pure mB_X11_worths dX11_worths_117 rfl
theorem rX11_worths_119 : tA sc iX11_worths 119 ls st h Q = tA sc iX11_worths 122 ls (vL (99) :: st) h Q := tA_pure mB_X11_worths dX11_worths_119 rfl
theorem rX11_worths_122 : tA sc iX11_worths 122 ls (vL w :: vL u :: st) h Q = tA sc iX11_worths 123 ls (vI (lg_cmp u w) :: st) h Q := tA_pure mB_X11_worths dX11_worths_122 rfl
theorem rX11_worths_123 : tA sc iX11_worths 123 ls (vI x :: st) h Q = (if x ≤ 0 then tA sc iX11_worths 131 ls st h Q else tA sc iX11_worths 126 ls st h Q) := tA_if mB_X11_worths dX11_worths_123 (fun _ _ _ _ => rfl) rfl
theorem rX11_worths_126 : tA sc iX11_worths 126 ls st h Q = tA sc iX11_worths 128 ls (vI (99) :: st) h Q := tA_pure mB_X11_worths dX11_worths_126 rfl
theorem rX11_worths_128 : tA sc iX11_worths 128 ls st h Q = tA sc iX11_worths 134 ls st h Q := tA_jump mB_X11_worths dX11_worths_128 (fun _ _ _ _ => rfl) rfl
theorem rX11_worths_131 : tA sc iX11_worths 131 [l0, l1, l2, l3, l4, l5, l6, vL u, l8] st h Q = tA sc iX11_worths 133 [l0, l1, l2, l3, l4, l5, l6, vL u, l8] (vL u :: st) h Q := tA_pure mB_X11_worths dX11_worths_131 rfl
theorem rX11_worths_133 : tA sc iX11_worths 133 ls (vL u :: st) h Q = tA sc iX11_worths 134 ls (vI u.toInt32 :: st) h Q := tA_pure mB_X11_worths dX11_worths_133 rfl
theorem rX11_worths_134 : tA sc iX11_worths 134 ls (vI x :: vI j :: vR (some a) :: st) h Q = oz (tasi h a j x) (fun h' => tA sc iX11_worths 135 ls st h' Q) := tA_iast mB_X11_worths dX11_worths_134
theorem rX11_worths_135 : tA sc iX11_worths 135 [l0, l1, l2, l3, l4, l5, vI x, l7, l8] st h Q = tA sc iX11_worths 138 [l0, l1, l2, l3, l4, tclr l5, vI (x + 1), l7, l8] st h Q := tA_pure mB_X11_worths dX11_worths_135 rfl
theorem rX11_worths_138 : tA sc iX11_worths 138 ls st h Q = tA sc iX11_worths 75 ls st h Q := tA_jump mB_X11_worths dX11_worths_138 (fun _ _ _ _ => rfl) rfl
theorem rX11_worths_141 : tA sc iX11_worths 141 [l0, l1, l2, l3, vI x, l5, l6, l7, l8] st h Q = tA sc iX11_worths 143 [l0, l1, l2, l3, vI x, l5, l6, l7, l8] (vI x :: st) h Q := tA_pure mB_X11_worths dX11_worths_141 rfl
theorem rX11_worths_143 : tA sc iX11_worths 143 ls [vI x] h Q = Q (some (vI x)) h := tA_ret mB_X11_worths dX11_worths_143 (fun _ _ _ _ => rfl) (fun _ _ _ => rfl) (fun _ _ _ _ _ => rfl) rfl rfl
theorem mB_X11_isShelf : mB iX11_isShelf = cX11_isShelf := rfl
theorem mO_X11_isShelf : mO iX11_isShelf = 11 := rfl
theorem rX11_isShelf_0 : tA sc iX11_isShelf 0 [vI x] st h Q = tA sc iX11_isShelf 1 [vI x] (vI x :: st) h Q := tA_pure mB_X11_isShelf dX11_isShelf_0 rfl
theorem rX11_isShelf_1 : tA sc iX11_isShelf 1 ls st h Q = tA sc iX11_isShelf 2 ls (vI (0) :: st) h Q := tA_pure mB_X11_isShelf dX11_isShelf_1 rfl
theorem rX11_isShelf_2 : tA sc iX11_isShelf 2 ls st h Q = tA sc iX11_isShelf 3 ls (vI (3) :: st) h Q := tA_pure mB_X11_isShelf dX11_isShelf_2 rfl
theorem rX11_isShelf_3 : tA sc iX11_isShelf 3 ls [vI p2, vI p1, vI p0] h Q = tA sc iX11_in 0 [vI p0, vI p1, vI p2] [] h (fun v h1 => tA sc iX11_isShelf 6 ls (tpu v []) h1 Q) := tA_cS mB_X11_isShelf mO_X11_isShelf dX11_isShelf_3 cT_11_83 ⟨Nat.le_of_ble_eq_true rfl, Nat.le_of_ble_eq_true rfl⟩ rfl rfl rfl rfl
theorem rX11_isShelf_6 : tA sc iX11_isShelf 6 ls [vI x] h Q = ((x = 0 ∨ x = 1) ∧ Q (some (vI x)) h) := tA_retz mB_X11_isShelf dX11_isShelf_6 rfl
theorem mB_X11_sheet : mB iX11_sheet = cX11_sheet := rfl
theorem mO_X11_sheet : mO iX11_sheet = 11 := rfl
theorem rX11_sheet_0 : tA sc iX11_sheet 0 [l0, vI x, l2, l3, l4] st h Q = tA sc iX11_sheet 1 [l0, vI x, l2, l3, l4] (vI x :: st) h Q := tA_pure mB_X11_sheet dX11_sheet_0 rfl
theorem rX11_sheet_1 : tA sc iX11_sheet 1 ls [vI p0] h Q = tA sc iX11_isShelf 0 [vI p0] [] h (fun v h1 => tA sc iX11_sheet 4 ls (tpu v []) h1 Q) := tA_cS mB_X11_sheet mO_X11_sheet dX11_sheet_1 cT_11_345 ⟨Nat.le_of_ble_eq_true rfl, Nat.le_of_ble_eq_true rfl⟩ rfl rfl rfl rfl
theorem rX11_sheet_4 : tA sc iX11_sheet 4 ls (vI x :: st) h Q = (if x = 0 then tA sc iX11_sheet 26 ls st h Q else tA sc iX11_sheet 7 ls st h Q) := tA_if mB_X11_sheet dX11_sheet_4 (fun _ _ _ _ => rfl) rfl
theorem rX11_sheet_7 : tA sc iX11_sheet 7 [l0, l1, vI x, l3, l4] st h Q = tA sc iX11_sheet 8 [l0, l1, vI x, l3, l4] (vI x :: st) h Q := tA_pure mB_X11_sheet dX11_sheet_7 rfl
theorem rX11_sheet_8 : tA sc iX11_sheet 8 ls st h Q = tA sc iX11_sheet 9 ls (vI (-1) :: st) h Q := tA_pure mB_X11_sheet dX11_sheet_8 rfl
theorem rX11_sheet_9 : tA sc iX11_sheet 9 ls st h Q = tA sc iX11_sheet 10 ls (vI (3) :: st) h Q := tA_pure mB_X11_sheet dX11_sheet_9 rfl
theorem rX11_sheet_10 : tA sc iX11_sheet 10 ls [vI p2, vI p1, vI p0] h Q = tA sc iX11_in 0 [vI p0, vI p1, vI p2] [] h (fun v h1 => tA sc iX11_sheet 13 ls (tpu v []) h1 Q) := tA_cS mB_X11_sheet mO_X11_sheet dX11_sheet_10 cT_11_83 ⟨Nat.le_of_ble_eq_true rfl, Nat.le_of_ble_eq_true rfl⟩ rfl rfl rfl rfl
theorem rX11_sheet_13 : tA sc iX11_sheet 13 ls (vI x :: st) h Q = (if x = 0 then tA sc iX11_sheet 26 ls st h Q else tA sc iX11_sheet 16 ls st h Q) := tA_if mB_X11_sheet dX11_sheet_13 (fun _ _ _ _ => rfl) rfl
theorem rX11_sheet_16 : tA sc iX11_sheet 16 [l0, l1, vI x, l3, l4] st h Q = tA sc iX11_sheet 17 [l0, l1, vI x, l3, l4] (vI x :: st) h Q := tA_pure mB_X11_sheet dX11_sheet_16 rfl
theorem rX11_sheet_17 : tA sc iX11_sheet 17 ls (vI x :: st) h Q = (if x < 0 then tA sc iX11_sheet 28 ls st h Q else tA sc iX11_sheet 20 ls st h Q) := tA_if mB_X11_sheet dX11_sheet_17 (fun _ _ _ _ => rfl) rfl
theorem rX11_sheet_20 : tA sc iX11_sheet 20 [l0, l1, l2, vI x, l4] st h Q = tA sc iX11_sheet 21 [l0, l1, l2, vI x, l4] (vI x :: st) h Q := tA_pure mB_X11_sheet dX11_sheet_20 rfl
theorem rX11_sheet_21 : tA sc iX11_sheet 21 ls st h Q = tA sc iX11_sheet 23 ls (vI (40) :: st) h Q := tA_pure mB_X11_sheet dX11_sheet_21 rfl
theorem rX11_sheet_23 : tA sc iX11_sheet 23 ls (vI y :: vI x :: st) h Q = (if x ≤ y then tA sc iX11_sheet 28 ls st h Q else tA sc iX11_sheet 26 ls st h Q) := tA_if mB_X11_sheet dX11_sheet_23 (fun _ _ _ _ => rfl) rfl
theorem rX11_sheet_26 : tA sc iX11_sheet 26 ls st h Q = tA sc iX11_sheet 27 ls (vI (-1) :: st) h Q := tA_pure mB_X11_sheet dX11_sheet_26 rfl
theorem rX11_sheet_27 : tA sc iX11_sheet 27 ls [vI x] h Q = Q (some (vI x)) h := tA_ret mB_X11_sheet dX11_sheet_27 (fun _ _ _ _ => rfl) (fun _ _ _ => rfl) (fun _ _ _ _ _ => rfl) rfl rfl
theorem rX11_sheet_28 : tA sc iX11_sheet 28 [l0, l1, vI x, l3, l4] st h Q = tA sc iX11_sheet 29 [l0, l1, vI x, l3, l4] (vI x :: st) h Q := tA_pure mB_X11_sheet dX11_sheet_28 rfl
theorem rX11_sheet_29 : tA sc iX11_sheet 29 ls (vI x :: st) h Q = (if x < 0 then tA sc iX11_sheet 39 ls st h Q else tA sc iX11_sheet 32 ls st h Q) := tA_if mB_X11_sheet dX11_sheet_29 (fun _ _ _ _ => rfl) rfl
theorem rX11_sheet_32 : tA sc iX11_sheet 32 [l0, l1, l2, vI x, l4] st h Q = tA sc iX11_sheet 33 [l0, l1, l2, vI x, l4] (vI x :: st) h Q := tA_pure mB_X11_sheet dX11_sheet_32 rfl
theorem rX11_sheet_33 : tA sc iX11_sheet 33 ls (vI x :: st) h Q = (if 0 ≤ x then tA sc iX11_sheet 39 ls st h Q else tA sc iX11_sheet 36 ls st h Q) := tA_if mB_X11_sheet dX11_sheet_33 (fun _ _ _ _ => rfl) rfl
theorem rX11_sheet_36 : tA sc iX11_sheet 36 ls st h Q = tA sc iX11_sheet 38 ls (vI (-14) :: st) h Q := tA_pure mB_X11_sheet dX11_sheet_36 rfl
theorem rX11_sheet_38 : tA sc iX11_sheet 38 ls [vI x] h Q = Q (some (vI x)) h := tA_ret mB_X11_sheet dX11_sheet_38 (fun _ _ _ _ => rfl) (fun _ _ _ => rfl) (fun _ _ _ _ _ => rfl) rfl rfl
theorem rX11_sheet_39 : tA sc iX11_sheet 39 [vR r, l1, l2, l3, l4] st h Q = tA sc iX11_sheet 40 [vR r, l1, l2, l3, l4] (vR r :: st) h Q := tA_pure mB_X11_sheet dX11_sheet_39 rfl
theorem rX11_sheet_40 : tA sc iX11_sheet 40 ls (vR (some o) :: st) h Q = oz (tget h o [11] 37) (fun v => tA sc iX11_sheet 43 ls (v :: st) h Q) := tA_get mB_X11_sheet mO_X11_sheet dX11_sheet_40 fT_11_55
theorem rX11_sheet_43 : tA sc iX11_sheet 43 [l0, vI x, l2, l3, l4] st h Q = tA sc iX11_sheet 44 [l0, vI x, l2, l3, l4] (vI x :: st) h Q := tA_pure mB_X11_sheet dX11_sheet_43 rfl
theorem rX11_sheet_44 : tA sc iX11_sheet 44 [l0, l1, vI x, l3, l4] st h Q = tA sc iX11_sheet 45 [l0, l1, vI x, l3, l4] (vI x :: st) h Q := tA_pure mB_X11_sheet dX11_sheet_44 rfl
theorem rX11_sheet_45 : tA sc iX11_sheet 45 ls (vI x :: vI j :: vR (some a) :: st) h Q = oz (tasi h a j x) (fun h' => tA sc iX11_sheet 46 ls st h' Q) := tA_iast mB_X11_sheet dX11_sheet_45
theorem rX11_sheet_46 : tA sc iX11_sheet 46 [vR r, l1, l2, l3, l4] st h Q = tA sc iX11_sheet 47 [vR r, l1, l2, l3, l4] (vR r :: st) h Q := tA_pure mB_X11_sheet dX11_sheet_46 rfl
theorem rX11_sheet_47 : tA sc iX11_sheet 47 ls (vR (some o) :: st) h Q = oz (tget h o [11] 38) (fun v => tA sc iX11_sheet 50 ls (v :: st) h Q) := tA_get mB_X11_sheet mO_X11_sheet dX11_sheet_47 fT_11_58
theorem rX11_sheet_50 : tA sc iX11_sheet 50 [l0, vI x, l2, l3, l4] st h Q = tA sc iX11_sheet 51 [l0, vI x, l2, l3, l4] (vI x :: st) h Q := tA_pure mB_X11_sheet dX11_sheet_50 rfl
theorem rX11_sheet_51 : tA sc iX11_sheet 51 [l0, l1, vI x, l3, l4] st h Q = tA sc iX11_sheet 52 [l0, l1, vI x, l3, l4] (vI x :: st) h Q := tA_pure mB_X11_sheet dX11_sheet_51 rfl
theorem rX11_sheet_52 : tA sc iX11_sheet 52 ls (vI x :: st) h Q = (if 0 ≤ x then tA sc iX11_sheet 59 ls st h Q else tA sc iX11_sheet 55 ls st h Q) := tA_if mB_X11_sheet dX11_sheet_52 (fun _ _ _ _ => rfl) rfl
theorem rX11_sheet_55 : tA sc iX11_sheet 55 ls st h Q = tA sc iX11_sheet 56 ls (vI (0) :: st) h Q := tA_pure mB_X11_sheet dX11_sheet_55 rfl
theorem rX11_sheet_56 : tA sc iX11_sheet 56 ls st h Q = tA sc iX11_sheet 60 ls st h Q := tA_jump mB_X11_sheet dX11_sheet_56 (fun _ _ _ _ => rfl) rfl
theorem rX11_sheet_59 : tA sc iX11_sheet 59 [l0, l1, l2, vI x, l4] st h Q = tA sc iX11_sheet 60 [l0, l1, l2, vI x, l4] (vI x :: st) h Q := tA_pure mB_X11_sheet dX11_sheet_59 rfl
theorem rX11_sheet_60 : tA sc iX11_sheet 60 ls (vI x :: vI j :: vR (some a) :: st) h Q = oz (tasi h a j x) (fun h' => tA sc iX11_sheet 61 ls st h' Q) := tA_iast mB_X11_sheet dX11_sheet_60
theorem rX11_sheet_61 : tA sc iX11_sheet 61 ls st h Q = tA sc iX11_sheet 62 ls (vI (0) :: st) h Q := tA_pure mB_X11_sheet dX11_sheet_61 rfl
theorem rX11_sheet_62 : tA sc iX11_sheet 62 [l0, l1, l2, l3, l4] (vI x :: st) h Q = tA sc iX11_sheet 64 [l0, l1, l2, tclr l3, vI x] st h Q := tA_pure mB_X11_sheet dX11_sheet_62 rfl
theorem rX11_sheet_64 : tA sc iX11_sheet 64 [l0, l1, l2, l3, vI x] st h Q = tA sc iX11_sheet 66 [l0, l1, l2, l3, vI x] (vI x :: st) h Q := tA_pure mB_X11_sheet dX11_sheet_64 rfl
theorem rX11_sheet_66 : tA sc iX11_sheet 66 ls st h Q = tA sc iX11_sheet 68 ls (vI (40) :: st) h Q := tA_pure mB_X11_sheet dX11_sheet_66 rfl
theorem rX11_sheet_68 : tA sc iX11_sheet 68 ls (vI y :: vI x :: st) h Q = (if y ≤ x then tA sc iX11_sheet 90 ls st h Q else tA sc iX11_sheet 71 ls st h Q) := tA_if mB_X11_sheet dX11_sheet_68 (fun _ _ _ _ => rfl) rfl
theorem rX11_sheet_71 : tA sc iX11_sheet 71 [vR r, l1, l2, l3, l4] st h Q = tA sc iX11_sheet 72 [vR r, l1, l2, l3, l4] (vR r :: st) h Q := tA_pure mB_X11_sheet dX11_sheet_71 rfl
theorem rX11_sheet_72 : tA sc iX11_sheet 72 ls (vR (some o) :: st) h Q = oz (tget h o [11] 39) (fun v => tA sc iX11_sheet 75 ls (v :: st) h Q) := tA_get mB_X11_sheet mO_X11_sheet dX11_sheet_72 fT_11_61
theorem rX11_sheet_75 : tA sc iX11_sheet 75 ls st h Q = tA sc iX11_sheet 77 ls (vI (40) :: st) h Q := tA_pure mB_X11_sheet dX11_sheet_75 rfl
theorem rX11_sheet_77 : tA sc iX11_sheet 77 [l0, vI x, l2, l3, l4] st h Q = tA sc iX11_sheet 78 [l0, vI x, l2, l3, l4] (vI x :: st) h Q := tA_pure mB_X11_sheet dX11_sheet_77 rfl
theorem rX11_sheet_78 : tA sc iX11_sheet 78 ls (vI y :: vI x :: st) h Q = tA sc iX11_sheet 79 ls (vI (x * y) :: st) h Q := tA_pure mB_X11_sheet dX11_sheet_78 rfl
theorem rX11_sheet_79 : tA sc iX11_sheet 79 [l0, l1, l2, l3, vI x] st h Q = tA sc iX11_sheet 81 [l0, l1, l2, l3, vI x] (vI x :: st) h Q := tA_pure mB_X11_sheet dX11_sheet_79 rfl
theorem rX11_sheet_81 : tA sc iX11_sheet 81 ls (vI y :: vI x :: st) h Q = tA sc iX11_sheet 82 ls (vI (x + y) :: st) h Q := tA_pure mB_X11_sheet dX11_sheet_81 rfl
theorem rX11_sheet_82 : tA sc iX11_sheet 82 ls st h Q = tA sc iX11_sheet 83 ls (vL 0 :: st) h Q := tA_pure mB_X11_sheet dX11_sheet_82 rfl
theorem rX11_sheet_83 : tA sc iX11_sheet 83 ls (vL u :: vI j :: vR (some a) :: st) h Q = oz (tasl h a j u) (fun h' => tA sc iX11_sheet 84 ls st h' Q) := tA_last mB_X11_sheet dX11_sheet_83
theorem rX11_sheet_84 : tA sc iX11_sheet 84 [l0, l1, l2, l3, vI x] st h Q = tA sc iX11_sheet 87 [l0, l1, l2, tclr l3, vI (x + 1)] st h Q := tA_pure mB_X11_sheet dX11_sheet_84 rfl
theorem rX11_sheet_87 : tA sc iX11_sheet 87 ls st h Q = tA sc iX11_sheet 64 ls st h Q := tA_jump mB_X11_sheet dX11_sheet_87 (fun _ _ _ _ => rfl) rfl
theorem rX11_sheet_90 : tA sc iX11_sheet 90 ls st h Q = tA sc iX11_sheet 91 ls (vI (1) :: st) h Q := tA_pure mB_X11_sheet dX11_sheet_90 rfl
theorem rX11_sheet_91 : tA sc iX11_sheet 91 ls [vI x] h Q = Q (some (vI x)) h := tA_ret mB_X11_sheet dX11_sheet_91 (fun _ _ _ _ => rfl) (fun _ _ _ => rfl) (fun _ _ _ _ _ => rfl) rfl rfl
theorem mB_X11_put : mB iX11_put = cX11_put := rfl
theorem mO_X11_put : mO iX11_put = 11 := rfl
theorem rX11_put_0 : tA sc iX11_put 0 [l0, vI x, l2, l3] st h Q = tA sc iX11_put 1 [l0, vI x, l2, l3] (vI x :: st) h Q := tA_pure mB_X11_put dX11_put_0 rfl
theorem rX11_put_1 : tA sc iX11_put 1 ls [vI p0] h Q = tA sc iX11_isShelf 0 [vI p0] [] h (fun v h1 => tA sc iX11_put 4 ls (tpu v []) h1 Q) := tA_cS mB_X11_put mO_X11_put dX11_put_1 cT_11_345 ⟨Nat.le_of_ble_eq_true rfl, Nat.le_of_ble_eq_true rfl⟩ rfl rfl rfl rfl
theorem rX11_put_4 : tA sc iX11_put 4 ls (vI x :: st) h Q = (if ¬ x = 0 then tA sc iX11_put 9 ls st h Q else tA sc iX11_put 7 ls st h Q) := tA_if mB_X11_put dX11_put_4 (fun _ _ _ _ => rfl) rfl
theorem rX11_put_7 : tA sc iX11_put 7 ls st h Q = tA sc iX11_put 8 ls (vI (-1) :: st) h Q := tA_pure mB_X11_put dX11_put_7 rfl
theorem rX11_put_8 : tA sc iX11_put 8 ls [vI x] h Q = Q (some (vI x)) h := tA_ret mB_X11_put dX11_put_8 (fun _ _ _ _ => rfl) (fun _ _ _ => rfl) (fun _ _ _ _ _ => rfl) rfl rfl
theorem rX11_put_9 : tA sc iX11_put 9 [vR r, l1, l2, l3] st h Q = tA sc iX11_put 10 [vR r, l1, l2, l3] (vR r :: st) h Q := tA_pure mB_X11_put dX11_put_9 rfl
theorem rX11_put_10 : tA sc iX11_put 10 ls (vR (some o) :: st) h Q = oz (tget h o [11] 37) (fun v => tA sc iX11_put 13 ls (v :: st) h Q) := tA_get mB_X11_put mO_X11_put dX11_put_10 fT_11_55
theorem rX11_put_13 : tA sc iX11_put 13 [l0, vI x, l2, l3] st h Q = tA sc iX11_put 14 [l0, vI x, l2, l3] (vI x :: st) h Q := tA_pure mB_X11_put dX11_put_13 rfl
theorem rX11_put_14 : tA sc iX11_put 14 ls (vI j :: vR (some a) :: st) h Q = oz (tald sc h 0 a j) (fun v => tA sc iX11_put 15 ls (vI v :: st) h Q) := tA_iald mB_X11_put dX11_put_14
theorem rX11_put_15 : tA sc iX11_put 15 ls (vI x :: st) h Q = (if 0 ≤ x then tA sc iX11_put 21 ls st h Q else tA sc iX11_put 18 ls st h Q) := tA_if mB_X11_put dX11_put_15 (fun _ _ _ _ => rfl) rfl
theorem rX11_put_18 : tA sc iX11_put 18 ls st h Q = tA sc iX11_put 20 ls (vI (-11) :: st) h Q := tA_pure mB_X11_put dX11_put_18 rfl
theorem rX11_put_20 : tA sc iX11_put 20 ls [vI x] h Q = Q (some (vI x)) h := tA_ret mB_X11_put dX11_put_20 (fun _ _ _ _ => rfl) (fun _ _ _ => rfl) (fun _ _ _ _ _ => rfl) rfl rfl
theorem rX11_put_21 : tA sc iX11_put 21 [l0, l1, vI x, l3] st h Q = tA sc iX11_put 22 [l0, l1, vI x, l3] (vI x :: st) h Q := tA_pure mB_X11_put dX11_put_21 rfl
theorem rX11_put_22 : tA sc iX11_put 22 ls st h Q = tA sc iX11_put 23 ls (vI (0) :: st) h Q := tA_pure mB_X11_put dX11_put_22 rfl
theorem rX11_put_23 : tA sc iX11_put 23 [vR r, l1, l2, l3] st h Q = tA sc iX11_put 24 [vR r, l1, l2, l3] (vR r :: st) h Q := tA_pure mB_X11_put dX11_put_23 rfl
theorem rX11_put_24 : tA sc iX11_put 24 ls (vR (some o) :: st) h Q = oz (tget h o [11] 38) (fun v => tA sc iX11_put 27 ls (v :: st) h Q) := tA_get mB_X11_put mO_X11_put dX11_put_24 fT_11_58
theorem rX11_put_27 : tA sc iX11_put 27 [l0, vI x, l2, l3] st h Q = tA sc iX11_put 28 [l0, vI x, l2, l3] (vI x :: st) h Q := tA_pure mB_X11_put dX11_put_27 rfl
theorem rX11_put_28 : tA sc iX11_put 28 ls (vI j :: vR (some a) :: st) h Q = oz (tald sc h 0 a j) (fun v => tA sc iX11_put 29 ls (vI v :: st) h Q) := tA_iald mB_X11_put dX11_put_28
theorem rX11_put_29 : tA sc iX11_put 29 ls st h Q = tA sc iX11_put 30 ls (vI (1) :: st) h Q := tA_pure mB_X11_put dX11_put_29 rfl
theorem rX11_put_30 : tA sc iX11_put 30 ls (vI y :: vI x :: st) h Q = tA sc iX11_put 31 ls (vI (x - y) :: st) h Q := tA_pure mB_X11_put dX11_put_30 rfl
theorem rX11_put_31 : tA sc iX11_put 31 ls [vI p2, vI p1, vI p0] h Q = tA sc iX11_in 0 [vI p0, vI p1, vI p2] [] h (fun v h1 => tA sc iX11_put 34 ls (tpu v []) h1 Q) := tA_cS mB_X11_put mO_X11_put dX11_put_31 cT_11_83 ⟨Nat.le_of_ble_eq_true rfl, Nat.le_of_ble_eq_true rfl⟩ rfl rfl rfl rfl
theorem rX11_put_34 : tA sc iX11_put 34 ls (vI x :: st) h Q = (if ¬ x = 0 then tA sc iX11_put 40 ls st h Q else tA sc iX11_put 37 ls st h Q) := tA_if mB_X11_put dX11_put_34 (fun _ _ _ _ => rfl) rfl
theorem rX11_put_37 : tA sc iX11_put 37 ls st h Q = tA sc iX11_put 39 ls (vI (-12) :: st) h Q := tA_pure mB_X11_put dX11_put_37 rfl
theorem rX11_put_39 : tA sc iX11_put 39 ls [vI x] h Q = Q (some (vI x)) h := tA_ret mB_X11_put dX11_put_39 (fun _ _ _ _ => rfl) (fun _ _ _ => rfl) (fun _ _ _ _ _ => rfl) rfl rfl
theorem rX11_put_40 : tA sc iX11_put 40 [vR r, l1, l2, l3] st h Q = tA sc iX11_put 41 [vR r, l1, l2, l3] (vR r :: st) h Q := tA_pure mB_X11_put dX11_put_40 rfl
theorem rX11_put_41 : tA sc iX11_put 41 ls (vR (some o) :: st) h Q = oz (tget h o [11] 39) (fun v => tA sc iX11_put 44 ls (v :: st) h Q) := tA_get mB_X11_put mO_X11_put dX11_put_41 fT_11_61
theorem rX11_put_44 : tA sc iX11_put 44 ls st h Q = tA sc iX11_put 46 ls (vI (40) :: st) h Q := tA_pure mB_X11_put dX11_put_44 rfl
theorem rX11_put_46 : tA sc iX11_put 46 [l0, vI x, l2, l3] st h Q = tA sc iX11_put 47 [l0, vI x, l2, l3] (vI x :: st) h Q := tA_pure mB_X11_put dX11_put_46 rfl
theorem rX11_put_47 : tA sc iX11_put 47 ls (vI y :: vI x :: st) h Q = tA sc iX11_put 48 ls (vI (x * y) :: st) h Q := tA_pure mB_X11_put dX11_put_47 rfl
theorem rX11_put_48 : tA sc iX11_put 48 [l0, l1, vI x, l3] st h Q = tA sc iX11_put 49 [l0, l1, vI x, l3] (vI x :: st) h Q := tA_pure mB_X11_put dX11_put_48 rfl
theorem rX11_put_49 : tA sc iX11_put 49 ls (vI y :: vI x :: st) h Q = tA sc iX11_put 50 ls (vI (x + y) :: st) h Q := tA_pure mB_X11_put dX11_put_49 rfl
theorem rX11_put_50 : tA sc iX11_put 50 [vR r, l1, l2, l3] st h Q = tA sc iX11_put 51 [vR r, l1, l2, l3] (vR r :: st) h Q := tA_pure mB_X11_put dX11_put_50 rfl
theorem rX11_put_51 : tA sc iX11_put 51 ls (vR (some o) :: st) h Q = oz (tget h o [11] 37) (fun v => tA sc iX11_put 54 ls (v :: st) h Q) := tA_get mB_X11_put mO_X11_put dX11_put_51 fT_11_55
theorem rX11_put_54 : tA sc iX11_put 54 [l0, vI x, l2, l3] st h Q = tA sc iX11_put 55 [l0, vI x, l2, l3] (vI x :: st) h Q := tA_pure mB_X11_put dX11_put_54 rfl
theorem rX11_put_55 : tA sc iX11_put 55 ls (vI j :: vR (some a) :: st) h Q = oz (tald sc h 0 a j) (fun v => tA sc iX11_put 56 ls (vI v :: st) h Q) := tA_iald mB_X11_put dX11_put_55
theorem rX11_put_56 : tA sc iX11_put 56 ls (vI x :: st) h Q = (if ¬ x = 0 then tA sc iX11_put 65 ls st h Q else tA sc iX11_put 59 ls st h Q) := tA_if mB_X11_put dX11_put_56 (fun _ _ _ _ => rfl) rfl
theorem rX11_put_59 : tA sc iX11_put 59 [l0, l1, l2, vI x] st h Q = tA sc iX11_put 60 [l0, l1, l2, vI x] (vI x :: st) h Q := tA_pure mB_X11_put dX11_put_59 rfl
theorem rX11_put_60 : tA sc iX11_put 60 ls (vI x :: st) h Q = tA sc iX11_put 61 ls (vI x.toInt8.toInt32 :: st) h Q := tA_pure mB_X11_put dX11_put_60 rfl
theorem rX11_put_61 : tA sc iX11_put 61 ls (vI x :: st) h Q = tA sc iX11_put 62 ls (vL x.toInt64 :: st) h Q := tA_pure mB_X11_put dX11_put_61 rfl
theorem rX11_put_62 : tA sc iX11_put 62 ls st h Q = tA sc iX11_put 83 ls st h Q := tA_jump mB_X11_put dX11_put_62 (fun _ _ _ _ => rfl) rfl
theorem rX11_put_65 : tA sc iX11_put 65 [vR r, l1, l2, l3] st h Q = tA sc iX11_put 66 [vR r, l1, l2, l3] (vR r :: st) h Q := tA_pure mB_X11_put dX11_put_65 rfl
theorem rX11_put_66 : tA sc iX11_put 66 ls (vR (some o) :: st) h Q = oz (tget h o [11] 37) (fun v => tA sc iX11_put 69 ls (v :: st) h Q) := tA_get mB_X11_put mO_X11_put dX11_put_66 fT_11_55
theorem rX11_put_69 : tA sc iX11_put 69 [l0, vI x, l2, l3] st h Q = tA sc iX11_put 70 [l0, vI x, l2, l3] (vI x :: st) h Q := tA_pure mB_X11_put dX11_put_69 rfl
theorem rX11_put_70 : tA sc iX11_put 70 ls (vI j :: vR (some a) :: st) h Q = oz (tald sc h 0 a j) (fun v => tA sc iX11_put 71 ls (vI v :: st) h Q) := tA_iald mB_X11_put dX11_put_70
theorem rX11_put_71 : tA sc iX11_put 71 ls st h Q = tA sc iX11_put 72 ls (vI (1) :: st) h Q := tA_pure mB_X11_put dX11_put_71 rfl
theorem rX11_put_72 : tA sc iX11_put 72 ls (vI y :: vI x :: st) h Q = (if ¬ x = y then tA sc iX11_put 81 ls st h Q else tA sc iX11_put 75 ls st h Q) := tA_if mB_X11_put dX11_put_72 (fun _ _ _ _ => rfl) rfl
theorem rX11_put_75 : tA sc iX11_put 75 [l0, l1, l2, vI x] st h Q = tA sc iX11_put 76 [l0, l1, l2, vI x] (vI x :: st) h Q := tA_pure mB_X11_put dX11_put_75 rfl
theorem rX11_put_76 : tA sc iX11_put 76 ls (vI x :: st) h Q = tA sc iX11_put 77 ls (vI x.toInt16.toInt32 :: st) h Q := tA_pure mB_X11_put dX11_put_76 rfl
theorem rX11_put_77 : tA sc iX11_put 77 ls (vI x :: st) h Q = tA sc iX11_put 78 ls (vL x.toInt64 :: st) h Q := tA_pure mB_X11_put dX11_put_77 rfl
theorem rX11_put_78 : tA sc iX11_put 78 ls st h Q = tA sc iX11_put 83 ls st h Q := tA_jump mB_X11_put dX11_put_78 (fun _ _ _ _ => rfl) rfl
theorem rX11_put_81 : tA sc iX11_put 81 [l0, l1, l2, vI x] st h Q = tA sc iX11_put 82 [l0, l1, l2, vI x] (vI x :: st) h Q := tA_pure mB_X11_put dX11_put_81 rfl
theorem rX11_put_82 : tA sc iX11_put 82 ls (vI x :: st) h Q = tA sc iX11_put 83 ls (vL x.toInt64 :: st) h Q := tA_pure mB_X11_put dX11_put_82 rfl
theorem rX11_put_83 : tA sc iX11_put 83 ls (vL u :: vI j :: vR (some a) :: st) h Q = oz (tasl h a j u) (fun h' => tA sc iX11_put 84 ls st h' Q) := tA_last mB_X11_put dX11_put_83
theorem rX11_put_84 : tA sc iX11_put 84 ls st h Q = tA sc iX11_put 85 ls (vI (1) :: st) h Q := tA_pure mB_X11_put dX11_put_84 rfl
theorem rX11_put_85 : tA sc iX11_put 85 ls [vI x] h Q = Q (some (vI x)) h := tA_ret mB_X11_put dX11_put_85 (fun _ _ _ _ => rfl) (fun _ _ _ => rfl) (fun _ _ _ _ _ => rfl) rfl rfl
theorem mB_X11_lacksSort : mB iX11_lacksSort = cX11_lacksSort := rfl
theorem mO_X11_lacksSort : mO iX11_lacksSort = 11 := rfl
theorem rX11_lacksSort_0 : tA sc iX11_lacksSort 0 [vR r, l1, l2] st h Q = tA sc iX11_lacksSort 1 [vR r, l1, l2] (vR r :: st) h Q := tA_pure mB_X11_lacksSort dX11_lacksSort_0 rfl
theorem rX11_lacksSort_1 : tA sc iX11_lacksSort 1 ls (vR (some o) :: st) h Q = oz (tget h o [11] 37) (fun v => tA sc iX11_lacksSort 4 ls (v :: st) h Q) := tA_get mB_X11_lacksSort mO_X11_lacksSort dX11_lacksSort_1 fT_11_55
theorem rX11_lacksSort_4 : tA sc iX11_lacksSort 4 [l0, vI x, l2] st h Q = tA sc iX11_lacksSort 5 [l0, vI x, l2] (vI x :: st) h Q := tA_pure mB_X11_lacksSort dX11_lacksSort_4 rfl
theorem rX11_lacksSort_5 : tA sc iX11_lacksSort 5 ls (vI j :: vR (some a) :: st) h Q = oz (tald sc h 0 a j) (fun v => tA sc iX11_lacksSort 6 ls (vI v :: st) h Q) := tA_iald mB_X11_lacksSort dX11_lacksSort_5
theorem rX11_lacksSort_6 : tA sc iX11_lacksSort 6 ls (vI x :: st) h Q = (if 0 ≤ x then tA sc iX11_lacksSort 14 ls st h Q else tA sc iX11_lacksSort 9 ls st h Q) := tA_if mB_X11_lacksSort dX11_lacksSort_6 (fun _ _ _ _ => rfl) rfl
theorem rX11_lacksSort_9 : tA sc iX11_lacksSort 9 ls st h Q = tA sc iX11_lacksSort 11 ls (vI (-11) :: st) h Q := tA_pure mB_X11_lacksSort dX11_lacksSort_9 rfl
theorem rX11_lacksSort_11 : tA sc iX11_lacksSort 11 ls st h Q = tA sc iX11_lacksSort 30 ls st h Q := tA_jump mB_X11_lacksSort dX11_lacksSort_11 (fun _ _ _ _ => rfl) rfl
theorem rX11_lacksSort_14 : tA sc iX11_lacksSort 14 [vR r, l1, l2] st h Q = tA sc iX11_lacksSort 15 [vR r, l1, l2] (vR r :: st) h Q := tA_pure mB_X11_lacksSort dX11_lacksSort_14 rfl
theorem rX11_lacksSort_15 : tA sc iX11_lacksSort 15 ls (vR (some o) :: st) h Q = oz (tget h o [11] 37) (fun v => tA sc iX11_lacksSort 18 ls (v :: st) h Q) := tA_get mB_X11_lacksSort mO_X11_lacksSort dX11_lacksSort_15 fT_11_55
theorem rX11_lacksSort_18 : tA sc iX11_lacksSort 18 [l0, vI x, l2] st h Q = tA sc iX11_lacksSort 19 [l0, vI x, l2] (vI x :: st) h Q := tA_pure mB_X11_lacksSort dX11_lacksSort_18 rfl
theorem rX11_lacksSort_19 : tA sc iX11_lacksSort 19 ls (vI j :: vR (some a) :: st) h Q = oz (tald sc h 0 a j) (fun v => tA sc iX11_lacksSort 20 ls (vI v :: st) h Q) := tA_iald mB_X11_lacksSort dX11_lacksSort_19
theorem rX11_lacksSort_20 : tA sc iX11_lacksSort 20 [l0, l1, vI x] st h Q = tA sc iX11_lacksSort 21 [l0, l1, vI x] (vI x :: st) h Q := tA_pure mB_X11_lacksSort dX11_lacksSort_20 rfl
theorem rX11_lacksSort_21 : tA sc iX11_lacksSort 21 ls (vI y :: vI x :: st) h Q = (if x = y then tA sc iX11_lacksSort 29 ls st h Q else tA sc iX11_lacksSort 24 ls st h Q) := tA_if mB_X11_lacksSort dX11_lacksSort_21 (fun _ _ _ _ => rfl) rfl
theorem rX11_lacksSort_24 : tA sc iX11_lacksSort 24 ls st h Q = tA sc iX11_lacksSort 26 ls (vI (-13) :: st) h Q := tA_pure mB_X11_lacksSort dX11_lacksSort_24 rfl
theorem rX11_lacksSort_26 : tA sc iX11_lacksSort 26 ls st h Q = tA sc iX11_lacksSort 30 ls st h Q := tA_jump mB_X11_lacksSort dX11_lacksSort_26 (fun _ _ _ _ => rfl) rfl
theorem rX11_lacksSort_29 : tA sc iX11_lacksSort 29 ls st h Q = tA sc iX11_lacksSort 30 ls (vI (0) :: st) h Q := tA_pure mB_X11_lacksSort dX11_lacksSort_29 rfl
theorem rX11_lacksSort_30 : tA sc iX11_lacksSort 30 ls [vI x] h Q = Q (some (vI x)) h := tA_ret mB_X11_lacksSort dX11_lacksSort_30 (fun _ _ _ _ => rfl) (fun _ _ _ => rfl) (fun _ _ _ _ _ => rfl) rfl rfl
theorem mB_X11_item : mB iX11_item = cX11_item := rfl
theorem mO_X11_item : mO iX11_item = 11 := rfl
theorem rX11_item_0 : tA sc iX11_item 0 [l0, vI x, l2, l3, l4] st h Q = tA sc iX11_item 1 [l0, vI x, l2, l3, l4] (vI x :: st) h Q := tA_pure mB_X11_item dX11_item_0 rfl
theorem rX11_item_1 : tA sc iX11_item 1 ls [vI p0] h Q = tA sc iX11_isShelf 0 [vI p0] [] h (fun v h1 => tA sc iX11_item 4 ls (tpu v []) h1 Q) := tA_cS mB_X11_item mO_X11_item dX11_item_1 cT_11_345 ⟨Nat.le_of_ble_eq_true rfl, Nat.le_of_ble_eq_true rfl⟩ rfl rfl rfl rfl
theorem rX11_item_4 : tA sc iX11_item 4 ls (vI x :: st) h Q = (if x = 0 then tA sc iX11_item 16 ls st h Q else tA sc iX11_item 7 ls st h Q) := tA_if mB_X11_item dX11_item_4 (fun _ _ _ _ => rfl) rfl
theorem rX11_item_7 : tA sc iX11_item 7 [l0, l1, vI x, l3, l4] st h Q = tA sc iX11_item 8 [l0, l1, vI x, l3, l4] (vI x :: st) h Q := tA_pure mB_X11_item dX11_item_7 rfl
theorem rX11_item_8 : tA sc iX11_item 8 ls st h Q = tA sc iX11_item 9 ls (vI (0) :: st) h Q := tA_pure mB_X11_item dX11_item_8 rfl
theorem rX11_item_9 : tA sc iX11_item 9 ls st h Q = tA sc iX11_item 10 ls (vI (3) :: st) h Q := tA_pure mB_X11_item dX11_item_9 rfl
theorem rX11_item_10 : tA sc iX11_item 10 ls [vI p2, vI p1, vI p0] h Q = tA sc iX11_in 0 [vI p0, vI p1, vI p2] [] h (fun v h1 => tA sc iX11_item 13 ls (tpu v []) h1 Q) := tA_cS mB_X11_item mO_X11_item dX11_item_10 cT_11_83 ⟨Nat.le_of_ble_eq_true rfl, Nat.le_of_ble_eq_true rfl⟩ rfl rfl rfl rfl
theorem rX11_item_13 : tA sc iX11_item 13 ls (vI x :: st) h Q = (if ¬ x = 0 then tA sc iX11_item 18 ls st h Q else tA sc iX11_item 16 ls st h Q) := tA_if mB_X11_item dX11_item_13 (fun _ _ _ _ => rfl) rfl
theorem rX11_item_16 : tA sc iX11_item 16 ls st h Q = tA sc iX11_item 17 ls (vI (-1) :: st) h Q := tA_pure mB_X11_item dX11_item_16 rfl
theorem rX11_item_17 : tA sc iX11_item 17 ls [vI x] h Q = Q (some (vI x)) h := tA_ret mB_X11_item dX11_item_17 (fun _ _ _ _ => rfl) (fun _ _ _ => rfl) (fun _ _ _ _ _ => rfl) rfl rfl
theorem rX11_item_18 : tA sc iX11_item 18 [vR r, l1, l2, l3, l4] st h Q = tA sc iX11_item 19 [vR r, l1, l2, l3, l4] (vR r :: st) h Q := tA_pure mB_X11_item dX11_item_18 rfl
theorem rX11_item_19 : tA sc iX11_item 19 [l0, vI x, l2, l3, l4] st h Q = tA sc iX11_item 20 [l0, vI x, l2, l3, l4] (vI x :: st) h Q := tA_pure mB_X11_item dX11_item_19 rfl
theorem rX11_item_20 : tA sc iX11_item 20 [l0, l1, vI x, l3, l4] st h Q = tA sc iX11_item 21 [l0, l1, vI x, l3, l4] (vI x :: st) h Q := tA_pure mB_X11_item dX11_item_20 rfl
theorem rX11_item_21 (hci : tcl h o = some 11) : tA sc iX11_item 21 ls [vI p1, vI p0, vR (some o)] h Q = tA sc iX11_lacksSort 0 [vR (some o), vI p0, vI p1] [] h (fun v h1 => tA sc iX11_item 24 ls (tpu v []) h1 Q) := tA_cV mB_X11_item mO_X11_item dX11_item_21 cT_11_348 rfl (Nat.le_of_ble_eq_true rfl) rfl rfl rfl hci
theorem rX11_item_24 : tA sc iX11_item 24 [l0, l1, l2, l3, l4] (vI x :: st) h Q = tA sc iX11_item 26 [l0, l1, l2, tclr l3, vI x] st h Q := tA_pure mB_X11_item dX11_item_24 rfl
theorem rX11_item_26 : tA sc iX11_item 26 [l0, l1, l2, l3, vI x] st h Q = tA sc iX11_item 28 [l0, l1, l2, l3, vI x] (vI x :: st) h Q := tA_pure mB_X11_item dX11_item_26 rfl
theorem rX11_item_28 : tA sc iX11_item 28 ls (vI x :: st) h Q = (if x = 0 then tA sc iX11_item 34 ls st h Q else tA sc iX11_item 31 ls st h Q) := tA_if mB_X11_item dX11_item_28 (fun _ _ _ _ => rfl) rfl
theorem rX11_item_31 : tA sc iX11_item 31 [l0, l1, l2, l3, vI x] st h Q = tA sc iX11_item 33 [l0, l1, l2, l3, vI x] (vI x :: st) h Q := tA_pure mB_X11_item dX11_item_31 rfl
theorem rX11_item_33 : tA sc iX11_item 33 ls [vI x] h Q = Q (some (vI x)) h := tA_ret mB_X11_item dX11_item_33 (fun _ _ _ _ => rfl) (fun _ _ _ => rfl) (fun _ _ _ _ _ => rfl) rfl rfl
theorem rX11_item_34 : tA sc iX11_item 34 [l0, l1, l2, vI x, l4] st h Q = tA sc iX11_item 35 [l0, l1, l2, vI x, l4] (vI x :: st) h Q := tA_pure mB_X11_item dX11_item_34 rfl
theorem rX11_item_35 : tA sc iX11_item 35 ls st h Q = tA sc iX11_item 36 ls (vI (0) :: st) h Q := tA_pure mB_X11_item dX11_item_35 rfl
theorem rX11_item_36 : tA sc iX11_item 36 [vR r, l1, l2, l3, l4] st h Q = tA sc iX11_item 37 [vR r, l1, l2, l3, l4] (vR r :: st) h Q := tA_pure mB_X11_item dX11_item_36 rfl
theorem rX11_item_37 : tA sc iX11_item 37 ls (vR (some o) :: st) h Q = oz (tget h o [11] 38) (fun v => tA sc iX11_item 40 ls (v :: st) h Q) := tA_get mB_X11_item mO_X11_item dX11_item_37 fT_11_58
theorem rX11_item_40 : tA sc iX11_item 40 [l0, vI x, l2, l3, l4] st h Q = tA sc iX11_item 41 [l0, vI x, l2, l3, l4] (vI x :: st) h Q := tA_pure mB_X11_item dX11_item_40 rfl
theorem rX11_item_41 : tA sc iX11_item 41 ls (vI j :: vR (some a) :: st) h Q = oz (tald sc h 0 a j) (fun v => tA sc iX11_item 42 ls (vI v :: st) h Q) := tA_iald mB_X11_item dX11_item_41
theorem rX11_item_42 : tA sc iX11_item 42 ls st h Q = tA sc iX11_item 43 ls (vI (1) :: st) h Q := tA_pure mB_X11_item dX11_item_42 rfl
theorem rX11_item_43 : tA sc iX11_item 43 ls (vI y :: vI x :: st) h Q = tA sc iX11_item 44 ls (vI (x - y) :: st) h Q := tA_pure mB_X11_item dX11_item_43 rfl
theorem rX11_item_44 : tA sc iX11_item 44 ls [vI p2, vI p1, vI p0] h Q = tA sc iX11_in 0 [vI p0, vI p1, vI p2] [] h (fun v h1 => tA sc iX11_item 47 ls (tpu v []) h1 Q) := tA_cS mB_X11_item mO_X11_item dX11_item_44 cT_11_83 ⟨Nat.le_of_ble_eq_true rfl, Nat.le_of_ble_eq_true rfl⟩ rfl rfl rfl rfl
theorem rX11_item_47 : tA sc iX11_item 47 ls (vI x :: st) h Q = (if x = 0 then tA sc iX11_item 65 ls st h Q else tA sc iX11_item 50 ls st h Q) := tA_if mB_X11_item dX11_item_47 (fun _ _ _ _ => rfl) rfl
theorem rX11_item_50 : tA sc iX11_item 50 [vR r, l1, l2, l3, l4] st h Q = tA sc iX11_item 51 [vR r, l1, l2, l3, l4] (vR r :: st) h Q := tA_pure mB_X11_item dX11_item_50 rfl
theorem rX11_item_51 : tA sc iX11_item 51 ls (vR (some o) :: st) h Q = oz (tget h o [11] 39) (fun v => tA sc iX11_item 54 ls (v :: st) h Q) := tA_get mB_X11_item mO_X11_item dX11_item_51 fT_11_61
theorem rX11_item_54 : tA sc iX11_item 54 ls st h Q = tA sc iX11_item 56 ls (vI (40) :: st) h Q := tA_pure mB_X11_item dX11_item_54 rfl
theorem rX11_item_56 : tA sc iX11_item 56 [l0, vI x, l2, l3, l4] st h Q = tA sc iX11_item 57 [l0, vI x, l2, l3, l4] (vI x :: st) h Q := tA_pure mB_X11_item dX11_item_56 rfl
theorem rX11_item_57 : tA sc iX11_item 57 ls (vI y :: vI x :: st) h Q = tA sc iX11_item 58 ls (vI (x * y) :: st) h Q := tA_pure mB_X11_item dX11_item_57 rfl
theorem rX11_item_58 : tA sc iX11_item 58 [l0, l1, l2, vI x, l4] st h Q = tA sc iX11_item 59 [l0, l1, l2, vI x, l4] (vI x :: st) h Q := tA_pure mB_X11_item dX11_item_58 rfl
theorem rX11_item_59 : tA sc iX11_item 59 ls (vI y :: vI x :: st) h Q = tA sc iX11_item 60 ls (vI (x + y) :: st) h Q := tA_pure mB_X11_item dX11_item_59 rfl
theorem rX11_item_60 : tA sc iX11_item 60 ls (vI j :: vR (some a) :: st) h Q = oz (tldl h a j) (fun v => tA sc iX11_item 61 ls (vL v :: st) h Q) := tA_lald mB_X11_item dX11_item_60
theorem rX11_item_61 : tA sc iX11_item 61 ls (vL u :: st) h Q = tA sc iX11_item 62 ls (vI u.toInt32 :: st) h Q := tA_pure mB_X11_item dX11_item_61 rfl
theorem rX11_item_62 : tA sc iX11_item 62 ls st h Q = tA sc iX11_item 67 ls st h Q := tA_jump mB_X11_item dX11_item_62 (fun _ _ _ _ => rfl) rfl
theorem rX11_item_65 : tA sc iX11_item 65 ls st h Q = tA sc iX11_item 67 ls (vI (-12) :: st) h Q := tA_pure mB_X11_item dX11_item_65 rfl
theorem rX11_item_67 : tA sc iX11_item 67 ls [vI x] h Q = Q (some (vI x)) h := tA_ret mB_X11_item dX11_item_67 (fun _ _ _ _ => rfl) (fun _ _ _ => rfl) (fun _ _ _ _ _ => rfl) rfl rfl
theorem mB_X11_isHeld : mB iX11_isHeld = cX11_isHeld := rfl
theorem mO_X11_isHeld : mO iX11_isHeld = 11 := rfl
theorem rX11_isHeld_0 : tA sc iX11_isHeld 0 [l0, vI x, l2] st h Q = tA sc iX11_isHeld 1 [l0, vI x, l2] (vI x :: st) h Q := tA_pure mB_X11_isHeld dX11_isHeld_0 rfl
theorem rX11_isHeld_1 : tA sc iX11_isHeld 1 ls (vI x :: st) h Q = (if ¬ x = 0 then tA sc iX11_isHeld 12 ls st h Q else tA sc iX11_isHeld 4 ls st h Q) := tA_if mB_X11_isHeld dX11_isHeld_1 (fun _ _ _ _ => rfl) rfl
theorem rX11_isHeld_4 : tA sc iX11_isHeld 4 [vR r, l1, l2] st h Q = tA sc iX11_isHeld 5 [vR r, l1, l2] (vR r :: st) h Q := tA_pure mB_X11_isHeld dX11_isHeld_4 rfl
theorem rX11_isHeld_5 : tA sc iX11_isHeld 5 [l0, l1, vI x] st h Q = tA sc iX11_isHeld 6 [l0, l1, vI x] (vI x :: st) h Q := tA_pure mB_X11_isHeld dX11_isHeld_5 rfl
theorem rX11_isHeld_6 (hci : tcl h o = some 11) : tA sc iX11_isHeld 6 ls [vI p0, vR (some o)] h Q = tA sc iX11_isSayer 0 [vR (some o), vI p0] [] h (fun v h1 => tA sc iX11_isHeld 9 ls (tpu v []) h1 Q) := tA_cV mB_X11_isHeld mO_X11_isHeld dX11_isHeld_6 cT_11_247 rfl (Nat.le_of_ble_eq_true rfl) rfl rfl rfl hci
theorem rX11_isHeld_9 : tA sc iX11_isHeld 9 ls st h Q = tA sc iX11_isHeld 34 ls st h Q := tA_jump mB_X11_isHeld dX11_isHeld_9 (fun _ _ _ _ => rfl) rfl
theorem rX11_isHeld_12 : tA sc iX11_isHeld 12 [l0, vI x, l2] st h Q = tA sc iX11_isHeld 13 [l0, vI x, l2] (vI x :: st) h Q := tA_pure mB_X11_isHeld dX11_isHeld_12 rfl
theorem rX11_isHeld_13 : tA sc iX11_isHeld 13 ls st h Q = tA sc iX11_isHeld 14 ls (vI (1) :: st) h Q := tA_pure mB_X11_isHeld dX11_isHeld_13 rfl
theorem rX11_isHeld_14 : tA sc iX11_isHeld 14 ls (vI y :: vI x :: st) h Q = (if ¬ x = y then tA sc iX11_isHeld 24 ls st h Q else tA sc iX11_isHeld 17 ls st h Q) := tA_if mB_X11_isHeld dX11_isHeld_14 (fun _ _ _ _ => rfl) rfl
theorem rX11_isHeld_17 : tA sc iX11_isHeld 17 [l0, l1, vI x] st h Q = tA sc iX11_isHeld 18 [l0, l1, vI x] (vI x :: st) h Q := tA_pure mB_X11_isHeld dX11_isHeld_17 rfl
theorem rX11_isHeld_18 : tA sc iX11_isHeld 18 ls [vI p0] h Q = tA sc iX11_isShelf 0 [vI p0] [] h (fun v h1 => tA sc iX11_isHeld 21 ls (tpu v []) h1 Q) := tA_cS mB_X11_isHeld mO_X11_isHeld dX11_isHeld_18 cT_11_345 ⟨Nat.le_of_ble_eq_true rfl, Nat.le_of_ble_eq_true rfl⟩ rfl rfl rfl rfl
theorem rX11_isHeld_21 : tA sc iX11_isHeld 21 ls st h Q = tA sc iX11_isHeld 34 ls st h Q := tA_jump mB_X11_isHeld dX11_isHeld_21 (fun _ _ _ _ => rfl) rfl
theorem rX11_isHeld_24 : tA sc iX11_isHeld 24 [l0, vI x, l2] st h Q = tA sc iX11_isHeld 25 [l0, vI x, l2] (vI x :: st) h Q := tA_pure mB_X11_isHeld dX11_isHeld_24 rfl
theorem rX11_isHeld_25 : tA sc iX11_isHeld 25 ls st h Q = tA sc iX11_isHeld 26 ls (vI (2) :: st) h Q := tA_pure mB_X11_isHeld dX11_isHeld_25 rfl
theorem rX11_isHeld_26 : tA sc iX11_isHeld 26 ls (vI y :: vI x :: st) h Q = (if ¬ x = y then tA sc iX11_isHeld 33 ls st h Q else tA sc iX11_isHeld 29 ls st h Q) := tA_if mB_X11_isHeld dX11_isHeld_26 (fun _ _ _ _ => rfl) rfl
theorem rX11_isHeld_29 : tA sc iX11_isHeld 29 ls st h Q = tA sc iX11_isHeld 30 ls (vI (1) :: st) h Q := tA_pure mB_X11_isHeld dX11_isHeld_29 rfl
theorem rX11_isHeld_30 : tA sc iX11_isHeld 30 ls st h Q = tA sc iX11_isHeld 34 ls st h Q := tA_jump mB_X11_isHeld dX11_isHeld_30 (fun _ _ _ _ => rfl) rfl
theorem rX11_isHeld_33 : tA sc iX11_isHeld 33 ls st h Q = tA sc iX11_isHeld 34 ls (vI (0) :: st) h Q := tA_pure mB_X11_isHeld dX11_isHeld_33 rfl
theorem rX11_isHeld_34 : tA sc iX11_isHeld 34 ls [vI x] h Q = ((x = 0 ∨ x = 1) ∧ Q (some (vI x)) h) := tA_retz mB_X11_isHeld dX11_isHeld_34 rfl
theorem mB_X11_shelf : mB iX11_shelf = cX11_shelf := rfl
theorem mO_X11_shelf : mO iX11_shelf = 11 := rfl
theorem rX11_shelf_0 : tA sc iX11_shelf 0 [l0, vI x, l2, l3] st h Q = tA sc iX11_shelf 1 [l0, vI x, l2, l3] (vI x :: st) h Q := tA_pure mB_X11_shelf dX11_shelf_0 rfl
theorem rX11_shelf_1 : tA sc iX11_shelf 1 ls [vI p0] h Q = tA sc iX11_isShelf 0 [vI p0] [] h (fun v h1 => tA sc iX11_shelf 4 ls (tpu v []) h1 Q) := tA_cS mB_X11_shelf mO_X11_shelf dX11_shelf_1 cT_11_345 ⟨Nat.le_of_ble_eq_true rfl, Nat.le_of_ble_eq_true rfl⟩ rfl rfl rfl rfl
theorem rX11_shelf_4 : tA sc iX11_shelf 4 ls (vI x :: st) h Q = (if x = 0 then tA sc iX11_shelf 16 ls st h Q else tA sc iX11_shelf 7 ls st h Q) := tA_if mB_X11_shelf dX11_shelf_4 (fun _ _ _ _ => rfl) rfl
theorem rX11_shelf_7 : tA sc iX11_shelf 7 [vR r, l1, l2, l3] st h Q = tA sc iX11_shelf 8 [vR r, l1, l2, l3] (vR r :: st) h Q := tA_pure mB_X11_shelf dX11_shelf_7 rfl
theorem rX11_shelf_8 : tA sc iX11_shelf 8 [l0, l1, vI x, l3] st h Q = tA sc iX11_shelf 9 [l0, l1, vI x, l3] (vI x :: st) h Q := tA_pure mB_X11_shelf dX11_shelf_8 rfl
theorem rX11_shelf_9 : tA sc iX11_shelf 9 [l0, l1, l2, vI x] st h Q = tA sc iX11_shelf 10 [l0, l1, l2, vI x] (vI x :: st) h Q := tA_pure mB_X11_shelf dX11_shelf_9 rfl
theorem rX11_shelf_10 (hci : tcl h o = some 11) : tA sc iX11_shelf 10 ls [vI p1, vI p0, vR (some o)] h Q = tA sc iX11_isHeld 0 [vR (some o), vI p0, vI p1] [] h (fun v h1 => tA sc iX11_shelf 13 ls (tpu v []) h1 Q) := tA_cV mB_X11_shelf mO_X11_shelf dX11_shelf_10 cT_11_353 rfl (Nat.le_of_ble_eq_true rfl) rfl rfl rfl hci
theorem rX11_shelf_13 : tA sc iX11_shelf 13 ls (vI x :: st) h Q = (if ¬ x = 0 then tA sc iX11_shelf 18 ls st h Q else tA sc iX11_shelf 16 ls st h Q) := tA_if mB_X11_shelf dX11_shelf_13 (fun _ _ _ _ => rfl) rfl
theorem rX11_shelf_16 : tA sc iX11_shelf 16 ls st h Q = tA sc iX11_shelf 17 ls (vI (-1) :: st) h Q := tA_pure mB_X11_shelf dX11_shelf_16 rfl
theorem rX11_shelf_17 : tA sc iX11_shelf 17 ls [vI x] h Q = Q (some (vI x)) h := tA_ret mB_X11_shelf dX11_shelf_17 (fun _ _ _ _ => rfl) (fun _ _ _ => rfl) (fun _ _ _ _ _ => rfl) rfl rfl
theorem rX11_shelf_18 : tA sc iX11_shelf 18 [vR r, l1, l2, l3] st h Q = tA sc iX11_shelf 19 [vR r, l1, l2, l3] (vR r :: st) h Q := tA_pure mB_X11_shelf dX11_shelf_18 rfl
theorem rX11_shelf_19 : tA sc iX11_shelf 19 ls (vR (some o) :: st) h Q = oz (tget h o [11] 40) (fun v => tA sc iX11_shelf 22 ls (v :: st) h Q) := tA_get mB_X11_shelf mO_X11_shelf dX11_shelf_19 fT_11_65
theorem rX11_shelf_22 : tA sc iX11_shelf 22 [l0, vI x, l2, l3] st h Q = tA sc iX11_shelf 23 [l0, vI x, l2, l3] (vI x :: st) h Q := tA_pure mB_X11_shelf dX11_shelf_22 rfl
theorem rX11_shelf_23 : tA sc iX11_shelf 23 [l0, l1, vI x, l3] st h Q = tA sc iX11_shelf 24 [l0, l1, vI x, l3] (vI x :: st) h Q := tA_pure mB_X11_shelf dX11_shelf_23 rfl
theorem rX11_shelf_24 : tA sc iX11_shelf 24 ls st h Q = tA sc iX11_shelf 25 ls (vI (2) :: st) h Q := tA_pure mB_X11_shelf dX11_shelf_24 rfl
theorem rX11_shelf_25 : tA sc iX11_shelf 25 ls (vI y :: vI x :: st) h Q = (if x = y then tA sc iX11_shelf 42 ls st h Q else tA sc iX11_shelf 28 ls st h Q) := tA_if mB_X11_shelf dX11_shelf_25 (fun _ _ _ _ => rfl) rfl
theorem rX11_shelf_28 : tA sc iX11_shelf 28 [l0, l1, vI x, l3] st h Q = tA sc iX11_shelf 29 [l0, l1, vI x, l3] (vI x :: st) h Q := tA_pure mB_X11_shelf dX11_shelf_28 rfl
theorem rX11_shelf_29 : tA sc iX11_shelf 29 ls st h Q = tA sc iX11_shelf 30 ls (vI (1) :: st) h Q := tA_pure mB_X11_shelf dX11_shelf_29 rfl
theorem rX11_shelf_30 : tA sc iX11_shelf 30 ls (vI y :: vI x :: st) h Q = (if ¬ x = y then tA sc iX11_shelf 46 ls st h Q else tA sc iX11_shelf 33 ls st h Q) := tA_if mB_X11_shelf dX11_shelf_30 (fun _ _ _ _ => rfl) rfl
theorem rX11_shelf_33 : tA sc iX11_shelf 33 [vR r, l1, l2, l3] st h Q = tA sc iX11_shelf 34 [vR r, l1, l2, l3] (vR r :: st) h Q := tA_pure mB_X11_shelf dX11_shelf_33 rfl
theorem rX11_shelf_34 : tA sc iX11_shelf 34 ls (vR (some o) :: st) h Q = oz (tget h o [11] 37) (fun v => tA sc iX11_shelf 37 ls (v :: st) h Q) := tA_get mB_X11_shelf mO_X11_shelf dX11_shelf_34 fT_11_55
theorem rX11_shelf_37 : tA sc iX11_shelf 37 [l0, l1, l2, vI x] st h Q = tA sc iX11_shelf 38 [l0, l1, l2, vI x] (vI x :: st) h Q := tA_pure mB_X11_shelf dX11_shelf_37 rfl
theorem rX11_shelf_38 : tA sc iX11_shelf 38 ls (vI j :: vR (some a) :: st) h Q = oz (tald sc h 0 a j) (fun v => tA sc iX11_shelf 39 ls (vI v :: st) h Q) := tA_iald mB_X11_shelf dX11_shelf_38
theorem rX11_shelf_39 : tA sc iX11_shelf 39 ls (vI x :: st) h Q = (if 0 ≤ x then tA sc iX11_shelf 46 ls st h Q else tA sc iX11_shelf 42 ls st h Q) := tA_if mB_X11_shelf dX11_shelf_39 (fun _ _ _ _ => rfl) rfl
theorem rX11_shelf_42 : tA sc iX11_shelf 42 ls st h Q = tA sc iX11_shelf 43 ls (vI (-1) :: st) h Q := tA_pure mB_X11_shelf dX11_shelf_42 rfl
theorem rX11_shelf_43 : tA sc iX11_shelf 43 ls st h Q = tA sc iX11_shelf 47 ls st h Q := tA_jump mB_X11_shelf dX11_shelf_43 (fun _ _ _ _ => rfl) rfl
theorem rX11_shelf_46 : tA sc iX11_shelf 46 [l0, l1, vI x, l3] st h Q = tA sc iX11_shelf 47 [l0, l1, vI x, l3] (vI x :: st) h Q := tA_pure mB_X11_shelf dX11_shelf_46 rfl
theorem rX11_shelf_47 : tA sc iX11_shelf 47 ls (vI x :: vI j :: vR (some a) :: st) h Q = oz (tasi h a j x) (fun h' => tA sc iX11_shelf 48 ls st h' Q) := tA_iast mB_X11_shelf dX11_shelf_47
theorem rX11_shelf_48 : tA sc iX11_shelf 48 [vR r, l1, l2, l3] st h Q = tA sc iX11_shelf 49 [vR r, l1, l2, l3] (vR r :: st) h Q := tA_pure mB_X11_shelf dX11_shelf_48 rfl
theorem rX11_shelf_49 : tA sc iX11_shelf 49 ls (vR (some o) :: st) h Q = oz (tget h o [11] 41) (fun v => tA sc iX11_shelf 52 ls (v :: st) h Q) := tA_get mB_X11_shelf mO_X11_shelf dX11_shelf_49 fT_11_68
theorem rX11_shelf_52 : tA sc iX11_shelf 52 [l0, vI x, l2, l3] st h Q = tA sc iX11_shelf 53 [l0, vI x, l2, l3] (vI x :: st) h Q := tA_pure mB_X11_shelf dX11_shelf_52 rfl
theorem rX11_shelf_53 : tA sc iX11_shelf 53 [l0, l1, vI x, l3] st h Q = tA sc iX11_shelf 54 [l0, l1, vI x, l3] (vI x :: st) h Q := tA_pure mB_X11_shelf dX11_shelf_53 rfl
theorem rX11_shelf_54 : tA sc iX11_shelf 54 ls st h Q = tA sc iX11_shelf 55 ls (vI (1) :: st) h Q := tA_pure mB_X11_shelf dX11_shelf_54 rfl
theorem rX11_shelf_55 : tA sc iX11_shelf 55 ls (vI y :: vI x :: st) h Q = (if ¬ x = y then tA sc iX11_shelf 67 ls st h Q else tA sc iX11_shelf 58 ls st h Q) := tA_if mB_X11_shelf dX11_shelf_55 (fun _ _ _ _ => rfl) rfl
theorem rX11_shelf_58 : tA sc iX11_shelf 58 [vR r, l1, l2, l3] st h Q = tA sc iX11_shelf 59 [vR r, l1, l2, l3] (vR r :: st) h Q := tA_pure mB_X11_shelf dX11_shelf_58 rfl
theorem rX11_shelf_59 : tA sc iX11_shelf 59 ls (vR (some o) :: st) h Q = oz (tget h o [11] 37) (fun v => tA sc iX11_shelf 62 ls (v :: st) h Q) := tA_get mB_X11_shelf mO_X11_shelf dX11_shelf_59 fT_11_55
theorem rX11_shelf_62 : tA sc iX11_shelf 62 [l0, l1, l2, vI x] st h Q = tA sc iX11_shelf 63 [l0, l1, l2, vI x] (vI x :: st) h Q := tA_pure mB_X11_shelf dX11_shelf_62 rfl
theorem rX11_shelf_63 : tA sc iX11_shelf 63 ls (vI j :: vR (some a) :: st) h Q = oz (tald sc h 0 a j) (fun v => tA sc iX11_shelf 64 ls (vI v :: st) h Q) := tA_iald mB_X11_shelf dX11_shelf_63
theorem rX11_shelf_64 : tA sc iX11_shelf 64 ls st h Q = tA sc iX11_shelf 68 ls st h Q := tA_jump mB_X11_shelf dX11_shelf_64 (fun _ _ _ _ => rfl) rfl
theorem rX11_shelf_67 : tA sc iX11_shelf 67 [l0, l1, l2, vI x] st h Q = tA sc iX11_shelf 68 [l0, l1, l2, vI x] (vI x :: st) h Q := tA_pure mB_X11_shelf dX11_shelf_67 rfl
theorem rX11_shelf_68 : tA sc iX11_shelf 68 ls (vI x :: vI j :: vR (some a) :: st) h Q = oz (tasi h a j x) (fun h' => tA sc iX11_shelf 69 ls st h' Q) := tA_iast mB_X11_shelf dX11_shelf_68
theorem rX11_shelf_69 : tA sc iX11_shelf 69 [vR r, l1, l2, l3] st h Q = tA sc iX11_shelf 70 [vR r, l1, l2, l3] (vR r :: st) h Q := tA_pure mB_X11_shelf dX11_shelf_69 rfl
theorem rX11_shelf_70 : tA sc iX11_shelf 70 ls (vR (some o) :: st) h Q = oz (tget h o [11] 42) (fun v => tA sc iX11_shelf 73 ls (v :: st) h Q) := tA_get mB_X11_shelf mO_X11_shelf dX11_shelf_70 fT_11_71
theorem rX11_shelf_73 : tA sc iX11_shelf 73 [l0, vI x, l2, l3] st h Q = tA sc iX11_shelf 74 [l0, vI x, l2, l3] (vI x :: st) h Q := tA_pure mB_X11_shelf dX11_shelf_73 rfl
theorem rX11_shelf_74 : tA sc iX11_shelf 74 [l0, l1, vI x, l3] st h Q = tA sc iX11_shelf 75 [l0, l1, vI x, l3] (vI x :: st) h Q := tA_pure mB_X11_shelf dX11_shelf_74 rfl
theorem rX11_shelf_75 : tA sc iX11_shelf 75 ls st h Q = tA sc iX11_shelf 76 ls (vI (1) :: st) h Q := tA_pure mB_X11_shelf dX11_shelf_75 rfl
theorem rX11_shelf_76 : tA sc iX11_shelf 76 ls (vI y :: vI x :: st) h Q = (if ¬ x = y then tA sc iX11_shelf 88 ls st h Q else tA sc iX11_shelf 79 ls st h Q) := tA_if mB_X11_shelf dX11_shelf_76 (fun _ _ _ _ => rfl) rfl
theorem rX11_shelf_79 : tA sc iX11_shelf 79 [vR r, l1, l2, l3] st h Q = tA sc iX11_shelf 80 [vR r, l1, l2, l3] (vR r :: st) h Q := tA_pure mB_X11_shelf dX11_shelf_79 rfl
theorem rX11_shelf_80 : tA sc iX11_shelf 80 ls (vR (some o) :: st) h Q = oz (tget h o [11] 38) (fun v => tA sc iX11_shelf 83 ls (v :: st) h Q) := tA_get mB_X11_shelf mO_X11_shelf dX11_shelf_80 fT_11_58
theorem rX11_shelf_83 : tA sc iX11_shelf 83 [l0, l1, l2, vI x] st h Q = tA sc iX11_shelf 84 [l0, l1, l2, vI x] (vI x :: st) h Q := tA_pure mB_X11_shelf dX11_shelf_83 rfl
theorem rX11_shelf_84 : tA sc iX11_shelf 84 ls (vI j :: vR (some a) :: st) h Q = oz (tald sc h 0 a j) (fun v => tA sc iX11_shelf 85 ls (vI v :: st) h Q) := tA_iald mB_X11_shelf dX11_shelf_84
theorem rX11_shelf_85 : tA sc iX11_shelf 85 ls st h Q = tA sc iX11_shelf 89 ls st h Q := tA_jump mB_X11_shelf dX11_shelf_85 (fun _ _ _ _ => rfl) rfl
theorem rX11_shelf_88 : tA sc iX11_shelf 88 ls st h Q = tA sc iX11_shelf 89 ls (vI (0) :: st) h Q := tA_pure mB_X11_shelf dX11_shelf_88 rfl
theorem rX11_shelf_89 : tA sc iX11_shelf 89 ls (vI x :: vI j :: vR (some a) :: st) h Q = oz (tasi h a j x) (fun h' => tA sc iX11_shelf 90 ls st h' Q) := tA_iast mB_X11_shelf dX11_shelf_89
theorem rX11_shelf_90 : tA sc iX11_shelf 90 ls st h Q = tA sc iX11_shelf 91 ls (vI (1) :: st) h Q := tA_pure mB_X11_shelf dX11_shelf_90 rfl
theorem rX11_shelf_91 : tA sc iX11_shelf 91 ls [vI x] h Q = Q (some (vI x)) h := tA_ret mB_X11_shelf dX11_shelf_91 (fun _ _ _ _ => rfl) (fun _ _ _ => rfl) (fun _ _ _ _ _ => rfl) rfl rfl
theorem mB_X11_kindOn : mB iX11_kindOn = cX11_kindOn := rfl
theorem mO_X11_kindOn : mO iX11_kindOn = 11 := rfl
theorem rX11_kindOn_0 : tA sc iX11_kindOn 0 [vR r, l1] st h Q = tA sc iX11_kindOn 1 [vR r, l1] (vR r :: st) h Q := tA_pure mB_X11_kindOn dX11_kindOn_0 rfl
theorem rX11_kindOn_1 : tA sc iX11_kindOn 1 ls (vR (some o) :: st) h Q = oz (tget h o [11] 40) (fun v => tA sc iX11_kindOn 4 ls (v :: st) h Q) := tA_get mB_X11_kindOn mO_X11_kindOn dX11_kindOn_1 fT_11_65
theorem rX11_kindOn_4 : tA sc iX11_kindOn 4 [l0, vI x] st h Q = tA sc iX11_kindOn 5 [l0, vI x] (vI x :: st) h Q := tA_pure mB_X11_kindOn dX11_kindOn_4 rfl
theorem rX11_kindOn_5 : tA sc iX11_kindOn 5 ls (vI j :: vR (some a) :: st) h Q = oz (tald sc h 0 a j) (fun v => tA sc iX11_kindOn 6 ls (vI v :: st) h Q) := tA_iald mB_X11_kindOn dX11_kindOn_5
theorem rX11_kindOn_6 : tA sc iX11_kindOn 6 ls (vI x :: st) h Q = (if x = 0 then tA sc iX11_kindOn 25 ls st h Q else tA sc iX11_kindOn 9 ls st h Q) := tA_if mB_X11_kindOn dX11_kindOn_6 (fun _ _ _ _ => rfl) rfl
theorem rX11_kindOn_9 : tA sc iX11_kindOn 9 [vR r, l1] st h Q = tA sc iX11_kindOn 10 [vR r, l1] (vR r :: st) h Q := tA_pure mB_X11_kindOn dX11_kindOn_9 rfl
theorem rX11_kindOn_10 : tA sc iX11_kindOn 10 ls (vR (some o) :: st) h Q = oz (tget h o [11] 40) (fun v => tA sc iX11_kindOn 13 ls (v :: st) h Q) := tA_get mB_X11_kindOn mO_X11_kindOn dX11_kindOn_10 fT_11_65
theorem rX11_kindOn_13 : tA sc iX11_kindOn 13 [l0, vI x] st h Q = tA sc iX11_kindOn 14 [l0, vI x] (vI x :: st) h Q := tA_pure mB_X11_kindOn dX11_kindOn_13 rfl
theorem rX11_kindOn_14 : tA sc iX11_kindOn 14 ls (vI j :: vR (some a) :: st) h Q = oz (tald sc h 0 a j) (fun v => tA sc iX11_kindOn 15 ls (vI v :: st) h Q) := tA_iald mB_X11_kindOn dX11_kindOn_14
theorem rX11_kindOn_15 : tA sc iX11_kindOn 15 ls (vI x :: st) h Q = (if 0 ≤ x then tA sc iX11_kindOn 22 ls st h Q else tA sc iX11_kindOn 18 ls st h Q) := tA_if mB_X11_kindOn dX11_kindOn_15 (fun _ _ _ _ => rfl) rfl
theorem rX11_kindOn_18 : tA sc iX11_kindOn 18 ls st h Q = tA sc iX11_kindOn 19 ls (vI (-1) :: st) h Q := tA_pure mB_X11_kindOn dX11_kindOn_18 rfl
theorem rX11_kindOn_19 : tA sc iX11_kindOn 19 ls st h Q = tA sc iX11_kindOn 24 ls st h Q := tA_jump mB_X11_kindOn dX11_kindOn_19 (fun _ _ _ _ => rfl) rfl
theorem rX11_kindOn_22 : tA sc iX11_kindOn 22 ls st h Q = tA sc iX11_kindOn 24 ls (vI (9) :: st) h Q := tA_pure mB_X11_kindOn dX11_kindOn_22 rfl
theorem rX11_kindOn_24 : tA sc iX11_kindOn 24 ls [vI x] h Q = Q (some (vI x)) h := tA_ret mB_X11_kindOn dX11_kindOn_24 (fun _ _ _ _ => rfl) (fun _ _ _ => rfl) (fun _ _ _ _ _ => rfl) rfl rfl
theorem rX11_kindOn_25 : tA sc iX11_kindOn 25 [vR r, l1] st h Q = tA sc iX11_kindOn 26 [vR r, l1] (vR r :: st) h Q := tA_pure mB_X11_kindOn dX11_kindOn_25 rfl
theorem rX11_kindOn_26 : tA sc iX11_kindOn 26 [vR r, l1] st h Q = tA sc iX11_kindOn 27 [vR r, l1] (vR r :: st) h Q := tA_pure mB_X11_kindOn dX11_kindOn_26 rfl
theorem rX11_kindOn_27 : tA sc iX11_kindOn 27 ls (vR (some o) :: st) h Q = oz (tget h o [11] 41) (fun v => tA sc iX11_kindOn 30 ls (v :: st) h Q) := tA_get mB_X11_kindOn mO_X11_kindOn dX11_kindOn_27 fT_11_68
theorem rX11_kindOn_30 : tA sc iX11_kindOn 30 [l0, vI x] st h Q = tA sc iX11_kindOn 31 [l0, vI x] (vI x :: st) h Q := tA_pure mB_X11_kindOn dX11_kindOn_30 rfl
theorem rX11_kindOn_31 : tA sc iX11_kindOn 31 ls (vI j :: vR (some a) :: st) h Q = oz (tald sc h 0 a j) (fun v => tA sc iX11_kindOn 32 ls (vI v :: st) h Q) := tA_iald mB_X11_kindOn dX11_kindOn_31
theorem rX11_kindOn_32 (hci : tcl h o = some 11) : tA sc iX11_kindOn 32 ls [vI p0, vR (some o)] h Q = tA sc iX11_isSayer 0 [vR (some o), vI p0] [] h (fun v h1 => tA sc iX11_kindOn 35 ls (tpu v []) h1 Q) := tA_cV mB_X11_kindOn mO_X11_kindOn dX11_kindOn_32 cT_11_247 rfl (Nat.le_of_ble_eq_true rfl) rfl rfl rfl hci
theorem rX11_kindOn_35 : tA sc iX11_kindOn 35 ls (vI x :: st) h Q = (if x = 0 then tA sc iX11_kindOn 51 ls st h Q else tA sc iX11_kindOn 38 ls st h Q) := tA_if mB_X11_kindOn dX11_kindOn_35 (fun _ _ _ _ => rfl) rfl
theorem rX11_kindOn_38 : tA sc iX11_kindOn 38 [vR r, l1] st h Q = tA sc iX11_kindOn 39 [vR r, l1] (vR r :: st) h Q := tA_pure mB_X11_kindOn dX11_kindOn_38 rfl
theorem rX11_kindOn_39 : tA sc iX11_kindOn 39 [vR r, l1] st h Q = tA sc iX11_kindOn 40 [vR r, l1] (vR r :: st) h Q := tA_pure mB_X11_kindOn dX11_kindOn_39 rfl
theorem rX11_kindOn_40 : tA sc iX11_kindOn 40 ls (vR (some o) :: st) h Q = oz (tget h o [11] 41) (fun v => tA sc iX11_kindOn 43 ls (v :: st) h Q) := tA_get mB_X11_kindOn mO_X11_kindOn dX11_kindOn_40 fT_11_68
theorem rX11_kindOn_43 : tA sc iX11_kindOn 43 [l0, vI x] st h Q = tA sc iX11_kindOn 44 [l0, vI x] (vI x :: st) h Q := tA_pure mB_X11_kindOn dX11_kindOn_43 rfl
theorem rX11_kindOn_44 : tA sc iX11_kindOn 44 ls (vI j :: vR (some a) :: st) h Q = oz (tald sc h 0 a j) (fun v => tA sc iX11_kindOn 45 ls (vI v :: st) h Q) := tA_iald mB_X11_kindOn dX11_kindOn_44
theorem rX11_kindOn_45 (hci : tcl h o = some 11) : tA sc iX11_kindOn 45 ls [vI p0, vR (some o)] h Q = tA sc iX11_kindOf 0 [vR (some o), vI p0] [] h (fun v h1 => tA sc iX11_kindOn 48 ls (tpu v []) h1 Q) := tA_cV mB_X11_kindOn mO_X11_kindOn dX11_kindOn_45 cT_11_250 rfl (Nat.le_of_ble_eq_true rfl) rfl rfl rfl hci
theorem rX11_kindOn_48 : tA sc iX11_kindOn 48 ls st h Q = tA sc iX11_kindOn 52 ls st h Q := tA_jump mB_X11_kindOn dX11_kindOn_48 (fun _ _ _ _ => rfl) rfl
theorem rX11_kindOn_51 : tA sc iX11_kindOn 51 ls st h Q = tA sc iX11_kindOn 52 ls (vI (-1) :: st) h Q := tA_pure mB_X11_kindOn dX11_kindOn_51 rfl
theorem rX11_kindOn_52 : tA sc iX11_kindOn 52 ls [vI x] h Q = Q (some (vI x)) h := tA_ret mB_X11_kindOn dX11_kindOn_52 (fun _ _ _ _ => rfl) (fun _ _ _ => rfl) (fun _ _ _ _ _ => rfl) rfl rfl
theorem mB_X11_isUnder : mB iX11_isUnder = cX11_isUnder := rfl
theorem mO_X11_isUnder : mO iX11_isUnder = 11 := rfl
theorem rX11_isUnder_0 : tA sc iX11_isUnder 0 [l0, vI x] st h Q = tA sc iX11_isUnder 1 [l0, vI x] (vI x :: st) h Q := tA_pure mB_X11_isUnder dX11_isUnder_0 rfl
theorem rX11_isUnder_1 : tA sc iX11_isUnder 1 ls (vI x :: st) h Q = (if x = 0 then tA sc iX11_isUnder 29 ls st h Q else tA sc iX11_isUnder 4 ls st h Q) := tA_if mB_X11_isUnder dX11_isUnder_1 (fun _ _ _ _ => rfl) rfl
theorem rX11_isUnder_4 : tA sc iX11_isUnder 4 [l0, vI x] st h Q = tA sc iX11_isUnder 5 [l0, vI x] (vI x :: st) h Q := tA_pure mB_X11_isUnder dX11_isUnder_4 rfl
theorem rX11_isUnder_5 : tA sc iX11_isUnder 5 [vI x, l1] st h Q = tA sc iX11_isUnder 6 [vI x, l1] (vI x :: st) h Q := tA_pure mB_X11_isUnder dX11_isUnder_5 rfl
theorem rX11_isUnder_6 : tA sc iX11_isUnder 6 ls (vI y :: vI x :: st) h Q = (if x = y then tA sc iX11_isUnder 29 ls st h Q else tA sc iX11_isUnder 9 ls st h Q) := tA_if mB_X11_isUnder dX11_isUnder_6 (fun _ _ _ _ => rfl) rfl
theorem rX11_isUnder_9 : tA sc iX11_isUnder 9 [l0, vI x] st h Q = tA sc iX11_isUnder 10 [l0, vI x] (vI x :: st) h Q := tA_pure mB_X11_isUnder dX11_isUnder_9 rfl
theorem rX11_isUnder_10 : tA sc iX11_isUnder 10 ls st h Q = tA sc iX11_isUnder 11 ls (vI (1) :: st) h Q := tA_pure mB_X11_isUnder dX11_isUnder_10 rfl
theorem rX11_isUnder_11 : tA sc iX11_isUnder 11 ls (vI y :: vI x :: st) h Q = (if ¬ x = y then tA sc iX11_isUnder 19 ls st h Q else tA sc iX11_isUnder 14 ls st h Q) := tA_if mB_X11_isUnder dX11_isUnder_11 (fun _ _ _ _ => rfl) rfl
theorem rX11_isUnder_14 : tA sc iX11_isUnder 14 [vI x, l1] st h Q = tA sc iX11_isUnder 15 [vI x, l1] (vI x :: st) h Q := tA_pure mB_X11_isUnder dX11_isUnder_14 rfl
theorem rX11_isUnder_15 : tA sc iX11_isUnder 15 ls st h Q = tA sc iX11_isUnder 16 ls (vI (4) :: st) h Q := tA_pure mB_X11_isUnder dX11_isUnder_15 rfl
theorem rX11_isUnder_16 : tA sc iX11_isUnder 16 ls (vI y :: vI x :: st) h Q = (if x = y then tA sc iX11_isUnder 29 ls st h Q else tA sc iX11_isUnder 19 ls st h Q) := tA_if mB_X11_isUnder dX11_isUnder_16 (fun _ _ _ _ => rfl) rfl
theorem rX11_isUnder_19 : tA sc iX11_isUnder 19 [l0, vI x] st h Q = tA sc iX11_isUnder 20 [l0, vI x] (vI x :: st) h Q := tA_pure mB_X11_isUnder dX11_isUnder_19 rfl
theorem rX11_isUnder_20 : tA sc iX11_isUnder 20 ls st h Q = tA sc iX11_isUnder 21 ls (vI (2) :: st) h Q := tA_pure mB_X11_isUnder dX11_isUnder_20 rfl
theorem rX11_isUnder_21 : tA sc iX11_isUnder 21 ls (vI y :: vI x :: st) h Q = (if ¬ x = y then tA sc iX11_isUnder 33 ls st h Q else tA sc iX11_isUnder 24 ls st h Q) := tA_if mB_X11_isUnder dX11_isUnder_21 (fun _ _ _ _ => rfl) rfl
theorem rX11_isUnder_24 : tA sc iX11_isUnder 24 [vI x, l1] st h Q = tA sc iX11_isUnder 25 [vI x, l1] (vI x :: st) h Q := tA_pure mB_X11_isUnder dX11_isUnder_24 rfl
theorem rX11_isUnder_25 : tA sc iX11_isUnder 25 ls st h Q = tA sc iX11_isUnder 26 ls (vI (3) :: st) h Q := tA_pure mB_X11_isUnder dX11_isUnder_25 rfl
theorem rX11_isUnder_26 : tA sc iX11_isUnder 26 ls (vI y :: vI x :: st) h Q = (if ¬ x = y then tA sc iX11_isUnder 33 ls st h Q else tA sc iX11_isUnder 29 ls st h Q) := tA_if mB_X11_isUnder dX11_isUnder_26 (fun _ _ _ _ => rfl) rfl
theorem rX11_isUnder_29 : tA sc iX11_isUnder 29 ls st h Q = tA sc iX11_isUnder 30 ls (vI (1) :: st) h Q := tA_pure mB_X11_isUnder dX11_isUnder_29 rfl
theorem rX11_isUnder_30 : tA sc iX11_isUnder 30 ls st h Q = tA sc iX11_isUnder 34 ls st h Q := tA_jump mB_X11_isUnder dX11_isUnder_30 (fun _ _ _ _ => rfl) rfl
theorem rX11_isUnder_33 : tA sc iX11_isUnder 33 ls st h Q = tA sc iX11_isUnder 34 ls (vI (0) :: st) h Q := tA_pure mB_X11_isUnder dX11_isUnder_33 rfl
theorem rX11_isUnder_34 : tA sc iX11_isUnder 34 ls [vI x] h Q = ((x = 0 ∨ x = 1) ∧ Q (some (vI x)) h) := tA_retz mB_X11_isUnder dX11_isUnder_34 rfl
theorem mB_X11_taken : mB iX11_taken = cX11_taken := rfl
theorem mO_X11_taken : mO iX11_taken = 11 := rfl
theorem rX11_taken_0 : tA sc iX11_taken 0 [l0, vI x, l2, l3] st h Q = tA sc iX11_taken 1 [l0, vI x, l2, l3] (vI x :: st) h Q := tA_pure mB_X11_taken dX11_taken_0 rfl
theorem rX11_taken_1 : tA sc iX11_taken 1 ls [vI p0] h Q = tA sc iX11_isShelf 0 [vI p0] [] h (fun v h1 => tA sc iX11_taken 4 ls (tpu v []) h1 Q) := tA_cS mB_X11_taken mO_X11_taken dX11_taken_1 cT_11_345 ⟨Nat.le_of_ble_eq_true rfl, Nat.le_of_ble_eq_true rfl⟩ rfl rfl rfl rfl
theorem rX11_taken_4 : tA sc iX11_taken 4 ls (vI x :: st) h Q = (if x = 0 then tA sc iX11_taken 27 ls st h Q else tA sc iX11_taken 7 ls st h Q) := tA_if mB_X11_taken dX11_taken_4 (fun _ _ _ _ => rfl) rfl
theorem rX11_taken_7 : tA sc iX11_taken 7 [l0, l1, vI x, l3] st h Q = tA sc iX11_taken 8 [l0, l1, vI x, l3] (vI x :: st) h Q := tA_pure mB_X11_taken dX11_taken_7 rfl
theorem rX11_taken_8 : tA sc iX11_taken 8 ls st h Q = tA sc iX11_taken 9 ls (vI (0) :: st) h Q := tA_pure mB_X11_taken dX11_taken_8 rfl
theorem rX11_taken_9 : tA sc iX11_taken 9 ls st h Q = tA sc iX11_taken 10 ls (vI (5) :: st) h Q := tA_pure mB_X11_taken dX11_taken_9 rfl
theorem rX11_taken_10 : tA sc iX11_taken 10 ls [vI p2, vI p1, vI p0] h Q = tA sc iX11_in 0 [vI p0, vI p1, vI p2] [] h (fun v h1 => tA sc iX11_taken 13 ls (tpu v []) h1 Q) := tA_cS mB_X11_taken mO_X11_taken dX11_taken_10 cT_11_83 ⟨Nat.le_of_ble_eq_true rfl, Nat.le_of_ble_eq_true rfl⟩ rfl rfl rfl rfl
theorem rX11_taken_13 : tA sc iX11_taken 13 ls (vI x :: st) h Q = (if ¬ x = 0 then tA sc iX11_taken 29 ls st h Q else tA sc iX11_taken 16 ls st h Q) := tA_if mB_X11_taken dX11_taken_13 (fun _ _ _ _ => rfl) rfl
theorem rX11_taken_16 : tA sc iX11_taken 16 [l0, l1, vI x, l3] st h Q = tA sc iX11_taken 17 [l0, l1, vI x, l3] (vI x :: st) h Q := tA_pure mB_X11_taken dX11_taken_16 rfl
theorem rX11_taken_17 : tA sc iX11_taken 17 ls st h Q = tA sc iX11_taken 19 ls (vI (10) :: st) h Q := tA_pure mB_X11_taken dX11_taken_17 rfl
theorem rX11_taken_19 : tA sc iX11_taken 19 ls st h Q = tA sc iX11_taken 21 ls (vI (13) :: st) h Q := tA_pure mB_X11_taken dX11_taken_19 rfl
theorem rX11_taken_21 : tA sc iX11_taken 21 ls [vI p2, vI p1, vI p0] h Q = tA sc iX11_in 0 [vI p0, vI p1, vI p2] [] h (fun v h1 => tA sc iX11_taken 24 ls (tpu v []) h1 Q) := tA_cS mB_X11_taken mO_X11_taken dX11_taken_21 cT_11_83 ⟨Nat.le_of_ble_eq_true rfl, Nat.le_of_ble_eq_true rfl⟩ rfl rfl rfl rfl
theorem rX11_taken_24 : tA sc iX11_taken 24 ls (vI x :: st) h Q = (if ¬ x = 0 then tA sc iX11_taken 29 ls st h Q else tA sc iX11_taken 27 ls st h Q) := tA_if mB_X11_taken dX11_taken_24 (fun _ _ _ _ => rfl) rfl
theorem rX11_taken_27 : tA sc iX11_taken 27 ls st h Q = tA sc iX11_taken 28 ls (vI (-1) :: st) h Q := tA_pure mB_X11_taken dX11_taken_27 rfl
theorem rX11_taken_28 : tA sc iX11_taken 28 ls [vI x] h Q = Q (some (vI x)) h := tA_ret mB_X11_taken dX11_taken_28 (fun _ _ _ _ => rfl) (fun _ _ _ => rfl) (fun _ _ _ _ _ => rfl) rfl rfl
theorem rX11_taken_29 : tA sc iX11_taken 29 [vR r, l1, l2, l3] st h Q = tA sc iX11_taken 30 [vR r, l1, l2, l3] (vR r :: st) h Q := tA_pure mB_X11_taken dX11_taken_29 rfl
theorem rX11_taken_30 : tA sc iX11_taken 30 [l0, vI x, l2, l3] st h Q = tA sc iX11_taken 31 [l0, vI x, l2, l3] (vI x :: st) h Q := tA_pure mB_X11_taken dX11_taken_30 rfl
theorem rX11_taken_31 (hci : tcl h o = some 11) : tA sc iX11_taken 31 ls [vI p0, vR (some o)] h Q = tA sc iX11_kindOn 0 [vR (some o), vI p0] [] h (fun v h1 => tA sc iX11_taken 34 ls (tpu v []) h1 Q) := tA_cV mB_X11_taken mO_X11_taken dX11_taken_31 cT_11_356 rfl (Nat.le_of_ble_eq_true rfl) rfl rfl rfl hci
theorem rX11_taken_34 : tA sc iX11_taken 34 [l0, l1, l2, l3] (vI x :: st) h Q = tA sc iX11_taken 35 [l0, l1, tclr l2, vI x] st h Q := tA_pure mB_X11_taken dX11_taken_34 rfl
theorem rX11_taken_35 : tA sc iX11_taken 35 [l0, l1, l2, vI x] st h Q = tA sc iX11_taken 36 [l0, l1, l2, vI x] (vI x :: st) h Q := tA_pure mB_X11_taken dX11_taken_35 rfl
theorem rX11_taken_36 : tA sc iX11_taken 36 ls (vI x :: st) h Q = (if 0 ≤ x then tA sc iX11_taken 42 ls st h Q else tA sc iX11_taken 39 ls st h Q) := tA_if mB_X11_taken dX11_taken_36 (fun _ _ _ _ => rfl) rfl
theorem rX11_taken_39 : tA sc iX11_taken 39 ls st h Q = tA sc iX11_taken 41 ls (vI (-11) :: st) h Q := tA_pure mB_X11_taken dX11_taken_39 rfl
theorem rX11_taken_41 : tA sc iX11_taken 41 ls [vI x] h Q = Q (some (vI x)) h := tA_ret mB_X11_taken dX11_taken_41 (fun _ _ _ _ => rfl) (fun _ _ _ => rfl) (fun _ _ _ _ _ => rfl) rfl rfl
theorem rX11_taken_42 : tA sc iX11_taken 42 [l0, l1, l2, vI x] st h Q = tA sc iX11_taken 43 [l0, l1, l2, vI x] (vI x :: st) h Q := tA_pure mB_X11_taken dX11_taken_42 rfl
theorem rX11_taken_43 : tA sc iX11_taken 43 ls st h Q = tA sc iX11_taken 45 ls (vI (9) :: st) h Q := tA_pure mB_X11_taken dX11_taken_43 rfl
theorem rX11_taken_45 : tA sc iX11_taken 45 ls (vI y :: vI x :: st) h Q = (if ¬ x = y then tA sc iX11_taken 73 ls st h Q else tA sc iX11_taken 48 ls st h Q) := tA_if mB_X11_taken dX11_taken_45 (fun _ _ _ _ => rfl) rfl
theorem rX11_taken_48 : tA sc iX11_taken 48 [l0, l1, vI x, l3] st h Q = tA sc iX11_taken 49 [l0, l1, vI x, l3] (vI x :: st) h Q := tA_pure mB_X11_taken dX11_taken_48 rfl
theorem rX11_taken_49 : tA sc iX11_taken 49 ls st h Q = tA sc iX11_taken 51 ls (vI (10) :: st) h Q := tA_pure mB_X11_taken dX11_taken_49 rfl
theorem rX11_taken_51 : tA sc iX11_taken 51 [vR r, l1, l2, l3] st h Q = tA sc iX11_taken 52 [vR r, l1, l2, l3] (vR r :: st) h Q := tA_pure mB_X11_taken dX11_taken_51 rfl
theorem rX11_taken_52 : tA sc iX11_taken 52 ls (vR (some o) :: st) h Q = oz (tget h o [11] 41) (fun v => tA sc iX11_taken 55 ls (v :: st) h Q) := tA_get mB_X11_taken mO_X11_taken dX11_taken_52 fT_11_68
theorem rX11_taken_55 : tA sc iX11_taken 55 [l0, vI x, l2, l3] st h Q = tA sc iX11_taken 56 [l0, vI x, l2, l3] (vI x :: st) h Q := tA_pure mB_X11_taken dX11_taken_55 rfl
theorem rX11_taken_56 : tA sc iX11_taken 56 ls (vI j :: vR (some a) :: st) h Q = oz (tald sc h 0 a j) (fun v => tA sc iX11_taken 57 ls (vI v :: st) h Q) := tA_iald mB_X11_taken dX11_taken_56
theorem rX11_taken_57 : tA sc iX11_taken 57 ls (vI y :: vI x :: st) h Q = tA sc iX11_taken 58 ls (vI (x + y) :: st) h Q := tA_pure mB_X11_taken dX11_taken_57 rfl
theorem rX11_taken_58 : tA sc iX11_taken 58 ls (vI y :: vI x :: st) h Q = (if ¬ x = y then tA sc iX11_taken 70 ls st h Q else tA sc iX11_taken 61 ls st h Q) := tA_if mB_X11_taken dX11_taken_58 (fun _ _ _ _ => rfl) rfl
theorem rX11_taken_61 : tA sc iX11_taken 61 [vR r, l1, l2, l3] st h Q = tA sc iX11_taken 62 [vR r, l1, l2, l3] (vR r :: st) h Q := tA_pure mB_X11_taken dX11_taken_61 rfl
theorem rX11_taken_62 : tA sc iX11_taken 62 ls (vR (some o) :: st) h Q = oz (tget h o [11] 42) (fun v => tA sc iX11_taken 65 ls (v :: st) h Q) := tA_get mB_X11_taken mO_X11_taken dX11_taken_62 fT_11_71
theorem rX11_taken_65 : tA sc iX11_taken 65 [l0, vI x, l2, l3] st h Q = tA sc iX11_taken 66 [l0, vI x, l2, l3] (vI x :: st) h Q := tA_pure mB_X11_taken dX11_taken_65 rfl
theorem rX11_taken_66 : tA sc iX11_taken 66 ls (vI j :: vR (some a) :: st) h Q = oz (tald sc h 0 a j) (fun v => tA sc iX11_taken 67 ls (vI v :: st) h Q) := tA_iald mB_X11_taken dX11_taken_66
theorem rX11_taken_67 : tA sc iX11_taken 67 ls st h Q = tA sc iX11_taken 72 ls st h Q := tA_jump mB_X11_taken dX11_taken_67 (fun _ _ _ _ => rfl) rfl
theorem rX11_taken_70 : tA sc iX11_taken 70 ls st h Q = tA sc iX11_taken 72 ls (vI (-13) :: st) h Q := tA_pure mB_X11_taken dX11_taken_70 rfl
theorem rX11_taken_72 : tA sc iX11_taken 72 ls [vI x] h Q = Q (some (vI x)) h := tA_ret mB_X11_taken dX11_taken_72 (fun _ _ _ _ => rfl) (fun _ _ _ => rfl) (fun _ _ _ _ _ => rfl) rfl rfl
theorem rX11_taken_73 : tA sc iX11_taken 73 [l0, l1, vI x, l3] st h Q = tA sc iX11_taken 74 [l0, l1, vI x, l3] (vI x :: st) h Q := tA_pure mB_X11_taken dX11_taken_73 rfl
theorem rX11_taken_74 : tA sc iX11_taken 74 ls st h Q = tA sc iX11_taken 76 ls (vI (10) :: st) h Q := tA_pure mB_X11_taken dX11_taken_74 rfl
theorem rX11_taken_76 : tA sc iX11_taken 76 ls (vI y :: vI x :: st) h Q = (if y ≤ x then tA sc iX11_taken 96 ls st h Q else tA sc iX11_taken 79 ls st h Q) := tA_if mB_X11_taken dX11_taken_76 (fun _ _ _ _ => rfl) rfl
theorem rX11_taken_79 : tA sc iX11_taken 79 [l0, l1, l2, vI x] st h Q = tA sc iX11_taken 80 [l0, l1, l2, vI x] (vI x :: st) h Q := tA_pure mB_X11_taken dX11_taken_79 rfl
theorem rX11_taken_80 : tA sc iX11_taken 80 [l0, l1, vI x, l3] st h Q = tA sc iX11_taken 81 [l0, l1, vI x, l3] (vI x :: st) h Q := tA_pure mB_X11_taken dX11_taken_80 rfl
theorem rX11_taken_81 : tA sc iX11_taken 81 ls [vI p1, vI p0] h Q = tA sc iX11_isUnder 0 [vI p0, vI p1] [] h (fun v h1 => tA sc iX11_taken 84 ls (tpu v []) h1 Q) := tA_cS mB_X11_taken mO_X11_taken dX11_taken_81 cT_11_359 ⟨Nat.le_of_ble_eq_true rfl, Nat.le_of_ble_eq_true rfl⟩ rfl rfl rfl rfl
theorem rX11_taken_84 : tA sc iX11_taken 84 ls (vI x :: st) h Q = (if x = 0 then tA sc iX11_taken 96 ls st h Q else tA sc iX11_taken 87 ls st h Q) := tA_if mB_X11_taken dX11_taken_84 (fun _ _ _ _ => rfl) rfl
theorem rX11_taken_87 : tA sc iX11_taken 87 [vR r, l1, l2, l3] st h Q = tA sc iX11_taken 88 [vR r, l1, l2, l3] (vR r :: st) h Q := tA_pure mB_X11_taken dX11_taken_87 rfl
theorem rX11_taken_88 : tA sc iX11_taken 88 ls (vR (some o) :: st) h Q = oz (tget h o [11] 41) (fun v => tA sc iX11_taken 91 ls (v :: st) h Q) := tA_get mB_X11_taken mO_X11_taken dX11_taken_88 fT_11_68
theorem rX11_taken_91 : tA sc iX11_taken 91 [l0, vI x, l2, l3] st h Q = tA sc iX11_taken 92 [l0, vI x, l2, l3] (vI x :: st) h Q := tA_pure mB_X11_taken dX11_taken_91 rfl
theorem rX11_taken_92 : tA sc iX11_taken 92 ls (vI j :: vR (some a) :: st) h Q = oz (tald sc h 0 a j) (fun v => tA sc iX11_taken 93 ls (vI v :: st) h Q) := tA_iald mB_X11_taken dX11_taken_92
theorem rX11_taken_93 : tA sc iX11_taken 93 ls st h Q = tA sc iX11_taken 98 ls st h Q := tA_jump mB_X11_taken dX11_taken_93 (fun _ _ _ _ => rfl) rfl
theorem rX11_taken_96 : tA sc iX11_taken 96 ls st h Q = tA sc iX11_taken 98 ls (vI (-13) :: st) h Q := tA_pure mB_X11_taken dX11_taken_96 rfl
theorem rX11_taken_98 : tA sc iX11_taken 98 ls [vI x] h Q = Q (some (vI x)) h := tA_ret mB_X11_taken dX11_taken_98 (fun _ _ _ _ => rfl) (fun _ _ _ => rfl) (fun _ _ _ _ _ => rfl) rfl rfl
theorem mB_X11_ran : mB iX11_ran = cX11_ran := rfl
theorem mO_X11_ran : mO iX11_ran = 11 := rfl
theorem rX11_ran_0 : tA sc iX11_ran 0 [vR r, l1] st h Q = tA sc iX11_ran 1 [vR r, l1] (vR r :: st) h Q := tA_pure mB_X11_ran dX11_ran_0 rfl
theorem rX11_ran_1 : tA sc iX11_ran 1 ls (vR (some o) :: st) h Q = oz (tget h o [11] 47) (fun v => tA sc iX11_ran 4 ls (v :: st) h Q) := tA_get mB_X11_ran mO_X11_ran dX11_ran_1 fT_11_362
theorem rX11_ran_4 : tA sc iX11_ran 4 ls st h Q = tA sc iX11_ran 6 ls (vI (30) :: st) h Q := tA_pure mB_X11_ran dX11_ran_4 rfl
theorem rX11_ran_6 : tA sc iX11_ran 6 ls (vI y :: vI x :: st) h Q = (if y ≤ x then tA sc iX11_ran 29 ls st h Q else tA sc iX11_ran 9 ls st h Q) := tA_if mB_X11_ran dX11_ran_6 (fun _ _ _ _ => rfl) rfl
theorem rX11_ran_9 : tA sc iX11_ran 9 [vR r, l1] st h Q = tA sc iX11_ran 10 [vR r, l1] (vR r :: st) h Q := tA_pure mB_X11_ran dX11_ran_9 rfl
theorem rX11_ran_10 : tA sc iX11_ran 10 ls (vR (some o) :: st) h Q = oz (tget h o [11] 46) (fun v => tA sc iX11_ran 13 ls (v :: st) h Q) := tA_get mB_X11_ran mO_X11_ran dX11_ran_10 fT_11_74
theorem rX11_ran_13 : tA sc iX11_ran 13 [vR r, l1] st h Q = tA sc iX11_ran 14 [vR r, l1] (vR r :: st) h Q := tA_pure mB_X11_ran dX11_ran_13 rfl
theorem rX11_ran_14 : tA sc iX11_ran 14 ls (vR (some o) :: st) h Q = oz (tget h o [11] 47) (fun v => tA sc iX11_ran 17 ls (v :: st) h Q) := tA_get mB_X11_ran mO_X11_ran dX11_ran_14 fT_11_362
theorem rX11_ran_17 : tA sc iX11_ran 17 [l0, vI x] st h Q = tA sc iX11_ran 18 [l0, vI x] (vI x :: st) h Q := tA_pure mB_X11_ran dX11_ran_17 rfl
theorem rX11_ran_18 : tA sc iX11_ran 18 ls (vI x :: vI j :: vR (some a) :: st) h Q = oz (tasi h a j x) (fun h' => tA sc iX11_ran 19 ls st h' Q) := tA_iast mB_X11_ran dX11_ran_18
theorem rX11_ran_19 : tA sc iX11_ran 19 [vR r, l1] st h Q = tA sc iX11_ran 20 [vR r, l1] (vR r :: st) h Q := tA_pure mB_X11_ran dX11_ran_19 rfl
theorem rX11_ran_20 : tA sc iX11_ran 20 ls (vR r :: st) h Q = tA sc iX11_ran 21 ls (vR r :: vR r :: st) h Q := tA_pure mB_X11_ran dX11_ran_20 rfl
theorem rX11_ran_21 : tA sc iX11_ran 21 ls (vR (some o) :: st) h Q = oz (tget h o [11] 47) (fun v => tA sc iX11_ran 24 ls (v :: st) h Q) := tA_get mB_X11_ran mO_X11_ran dX11_ran_21 fT_11_362
theorem rX11_ran_24 : tA sc iX11_ran 24 ls st h Q = tA sc iX11_ran 25 ls (vI (1) :: st) h Q := tA_pure mB_X11_ran dX11_ran_24 rfl
theorem rX11_ran_25 : tA sc iX11_ran 25 ls (vI y :: vI x :: st) h Q = tA sc iX11_ran 26 ls (vI (x + y) :: st) h Q := tA_pure mB_X11_ran dX11_ran_25 rfl
theorem rX11_ran_26 : tA sc iX11_ran 26 ls (v :: vR (some o) :: st) h Q = oz (tput h o [11] 47 0 v) (fun h' => tA sc iX11_ran 29 ls st h' Q) := tA_put mB_X11_ran mO_X11_ran dX11_ran_26 fT_11_362 (Or.inl (by decide))
theorem rX11_ran_29 : tA sc iX11_ran 29 ls [] h Q = Q (none) h := tA_ret mB_X11_ran dX11_ran_29 (fun _ _ _ _ => rfl) (fun _ _ _ => rfl) (fun _ _ _ _ _ => rfl) rfl rfl
theorem mB_X11_plainSays : mB iX11_plainSays = cX11_plainSays := rfl
theorem mO_X11_plainSays : mO iX11_plainSays = 11 := rfl
theorem rX11_plainSays_0 : tA sc iX11_plainSays 0 [vR r, l1] st h Q = tA sc iX11_plainSays 1 [vR r, l1] (vR r :: st) h Q := tA_pure mB_X11_plainSays dX11_plainSays_0 rfl
theorem rX11_plainSays_1 : tA sc iX11_plainSays 1 ls st h Q = tA sc iX11_plainSays 3 ls (vI (10) :: st) h Q := tA_pure mB_X11_plainSays dX11_plainSays_1 rfl
theorem rX11_plainSays_3 (hci : tcl h o = some 11) : tA sc iX11_plainSays 3 ls [vI p0, vR (some o)] h Q = tA sc iX11_ran 0 [vR (some o), vI p0] [] h (fun v h1 => tA sc iX11_plainSays 6 ls (tpu v []) h1 Q) := tA_cV mB_X11_plainSays mO_X11_plainSays dX11_plainSays_3 cT_11_365 rfl (Nat.le_of_ble_eq_true rfl) rfl rfl rfl hci
theorem rX11_plainSays_6 : tA sc iX11_plainSays 6 [l0, vI x] st h Q = tA sc iX11_plainSays 7 [l0, vI x] (vI x :: st) h Q := tA_pure mB_X11_plainSays dX11_plainSays_6 rfl
theorem rX11_plainSays_7 : tA sc iX11_plainSays 7 [vR r, l1] st h Q = tA sc iX11_plainSays 8 [vR r, l1] (vR r :: st) h Q := tA_pure mB_X11_plainSays dX11_plainSays_7 rfl
theorem rX11_plainSays_8 : tA sc iX11_plainSays 8 ls (vR (some o) :: st) h Q = oz (tget h o [11] 44) (fun v => tA sc iX11_plainSays 11 ls (v :: st) h Q) := tA_get mB_X11_plainSays mO_X11_plainSays dX11_plainSays_8 fT_11_368
theorem rX11_plainSays_11 : tA sc iX11_plainSays 11 ls (vI y :: vI x :: st) h Q = tA sc iX11_plainSays 12 ls (vI (x + y) :: st) h Q := tA_pure mB_X11_plainSays dX11_plainSays_11 rfl
theorem rX11_plainSays_12 : tA sc iX11_plainSays 12 ls [vI x] h Q = Q (some (vI x)) h := tA_ret mB_X11_plainSays dX11_plainSays_12 (fun _ _ _ _ => rfl) (fun _ _ _ => rfl) (fun _ _ _ _ _ => rfl) rfl rfl
theorem mB_X11_lateSays : mB iX11_lateSays = cX11_lateSays := rfl
theorem mO_X11_lateSays : mO iX11_lateSays = 11 := rfl
theorem rX11_lateSays_0 : tA sc iX11_lateSays 0 [vR r, l1] st h Q = tA sc iX11_lateSays 1 [vR r, l1] (vR r :: st) h Q := tA_pure mB_X11_lateSays dX11_lateSays_0 rfl
theorem rX11_lateSays_1 : tA sc iX11_lateSays 1 ls st h Q = tA sc iX11_lateSays 3 ls (vI (30) :: st) h Q := tA_pure mB_X11_lateSays dX11_lateSays_1 rfl
theorem rX11_lateSays_3 (hci : tcl h o = some 11) : tA sc iX11_lateSays 3 ls [vI p0, vR (some o)] h Q = tA sc iX11_ran 0 [vR (some o), vI p0] [] h (fun v h1 => tA sc iX11_lateSays 6 ls (tpu v []) h1 Q) := tA_cV mB_X11_lateSays mO_X11_lateSays dX11_lateSays_3 cT_11_365 rfl (Nat.le_of_ble_eq_true rfl) rfl rfl rfl hci
theorem rX11_lateSays_6 : tA sc iX11_lateSays 6 [vR r, l1] st h Q = tA sc iX11_lateSays 7 [vR r, l1] (vR r :: st) h Q := tA_pure mB_X11_lateSays dX11_lateSays_6 rfl
theorem rX11_lateSays_7 : tA sc iX11_lateSays 7 [l0, vI x] st h Q = tA sc iX11_lateSays 8 [l0, vI x] (vI x :: st) h Q := tA_pure mB_X11_lateSays dX11_lateSays_7 rfl
theorem rX11_lateSays_8 (hci : tcl h o = some 11) : tA sc iX11_lateSays 8 ls [vI p0, vR (some o)] h Q = tA sc iX11_plainSays 0 [vR (some o), vI p0] [] h (fun v h1 => tA sc iX11_lateSays 11 ls (tpu v []) h1 Q) := tA_cV mB_X11_lateSays mO_X11_lateSays dX11_lateSays_8 cT_11_371 rfl (Nat.le_of_ble_eq_true rfl) rfl rfl rfl hci
theorem rX11_lateSays_11 : tA sc iX11_lateSays 11 ls st h Q = tA sc iX11_lateSays 12 ls (vI (3) :: st) h Q := tA_pure mB_X11_lateSays dX11_lateSays_11 rfl
theorem rX11_lateSays_12 : tA sc iX11_lateSays 12 ls (vI y :: vI x :: st) h Q = tA sc iX11_lateSays 13 ls (vI (x * y) :: st) h Q := tA_pure mB_X11_lateSays dX11_lateSays_12 rfl
theorem rX11_lateSays_13 : tA sc iX11_lateSays 13 ls [vI x] h Q = Q (some (vI x)) h := tA_ret mB_X11_lateSays dX11_lateSays_13 (fun _ _ _ _ => rfl) (fun _ _ _ => rfl) (fun _ _ _ _ _ => rfl) rfl rfl
theorem mB_X11_saysIt : mB iX11_saysIt = cX11_saysIt := rfl
theorem mO_X11_saysIt : mO iX11_saysIt = 11 := rfl
theorem rX11_saysIt_0 : tA sc iX11_saysIt 0 [vR r, l1] st h Q = tA sc iX11_saysIt 1 [vR r, l1] (vR r :: st) h Q := tA_pure mB_X11_saysIt dX11_saysIt_0 rfl
theorem rX11_saysIt_1 : tA sc iX11_saysIt 1 ls (vR (some o) :: st) h Q = oz (tget h o [11] 43) (fun v => tA sc iX11_saysIt 4 ls (v :: st) h Q) := tA_get mB_X11_saysIt mO_X11_saysIt dX11_saysIt_1 fT_11_374
theorem rX11_saysIt_4 : tA sc iX11_saysIt 4 ls (vI x :: st) h Q = tA sc iX11_saysIt (tswp x 2 [32, 38, 52] 69) ls st h Q := tA_sw mB_X11_saysIt dX11_saysIt_4 rfl rfl rfl
theorem rX11_saysIt_32 : tA sc iX11_saysIt 32 [vR r, l1] st h Q = tA sc iX11_saysIt 33 [vR r, l1] (vR r :: st) h Q := tA_pure mB_X11_saysIt dX11_saysIt_32 rfl
theorem rX11_saysIt_33 : tA sc iX11_saysIt 33 [l0, vI x] st h Q = tA sc iX11_saysIt 34 [l0, vI x] (vI x :: st) h Q := tA_pure mB_X11_saysIt dX11_saysIt_33 rfl
theorem rX11_saysIt_34 (hci : tcl h o = some 11) : tA sc iX11_saysIt 34 ls [vI p0, vR (some o)] h Q = tA sc iX11_lateSays 0 [vR (some o), vI p0] [] h (fun v h1 => tA sc iX11_saysIt 37 ls (tpu v []) h1 Q) := tA_cV mB_X11_saysIt mO_X11_saysIt dX11_saysIt_34 cT_11_377 rfl (Nat.le_of_ble_eq_true rfl) rfl rfl rfl hci
theorem rX11_saysIt_37 : tA sc iX11_saysIt 37 ls [vI x] h Q = Q (some (vI x)) h := tA_ret mB_X11_saysIt dX11_saysIt_37 (fun _ _ _ _ => rfl) (fun _ _ _ => rfl) (fun _ _ _ _ _ => rfl) rfl rfl
theorem rX11_saysIt_38 : tA sc iX11_saysIt 38 [vR r, l1] st h Q = tA sc iX11_saysIt 39 [vR r, l1] (vR r :: st) h Q := tA_pure mB_X11_saysIt dX11_saysIt_38 rfl
theorem rX11_saysIt_39 : tA sc iX11_saysIt 39 ls st h Q = tA sc iX11_saysIt 41 ls (vI (40) :: st) h Q := tA_pure mB_X11_saysIt dX11_saysIt_39 rfl
theorem rX11_saysIt_41 (hci : tcl h o = some 11) : tA sc iX11_saysIt 41 ls [vI p0, vR (some o)] h Q = tA sc iX11_ran 0 [vR (some o), vI p0] [] h (fun v h1 => tA sc iX11_saysIt 44 ls (tpu v []) h1 Q) := tA_cV mB_X11_saysIt mO_X11_saysIt dX11_saysIt_41 cT_11_365 rfl (Nat.le_of_ble_eq_true rfl) rfl rfl rfl hci
theorem rX11_saysIt_44 : tA sc iX11_saysIt 44 ls st h Q = tA sc iX11_saysIt 45 ls (vI (0) :: st) h Q := tA_pure mB_X11_saysIt dX11_saysIt_44 rfl
theorem rX11_saysIt_45 : tA sc iX11_saysIt 45 [vR r, l1] st h Q = tA sc iX11_saysIt 46 [vR r, l1] (vR r :: st) h Q := tA_pure mB_X11_saysIt dX11_saysIt_45 rfl
theorem rX11_saysIt_46 : tA sc iX11_saysIt 46 [l0, vI x] st h Q = tA sc iX11_saysIt 47 [l0, vI x] (vI x :: st) h Q := tA_pure mB_X11_saysIt dX11_saysIt_46 rfl
theorem rX11_saysIt_47 (hci : tcl h o = some 11) : tA sc iX11_saysIt 47 ls [vI p0, vR (some o), s0] h Q = tA sc iX11_lateSays 0 [vR (some o), vI p0] [] h (fun v h1 => tA sc iX11_saysIt 50 ls (tpu v [s0]) h1 Q) := tA_cV mB_X11_saysIt mO_X11_saysIt dX11_saysIt_47 cT_11_377 rfl (Nat.le_of_ble_eq_true rfl) rfl rfl rfl hci
theorem rX11_saysIt_50 : tA sc iX11_saysIt 50 ls (vI y :: vI x :: st) h Q = tA sc iX11_saysIt 51 ls (vI (x - y) :: st) h Q := tA_pure mB_X11_saysIt dX11_saysIt_50 rfl
theorem rX11_saysIt_51 : tA sc iX11_saysIt 51 ls [vI x] h Q = Q (some (vI x)) h := tA_ret mB_X11_saysIt dX11_saysIt_51 (fun _ _ _ _ => rfl) (fun _ _ _ => rfl) (fun _ _ _ _ _ => rfl) rfl rfl
theorem rX11_saysIt_52 : tA sc iX11_saysIt 52 [vR r, l1] st h Q = tA sc iX11_saysIt 53 [vR r, l1] (vR r :: st) h Q := tA_pure mB_X11_saysIt dX11_saysIt_52 rfl
theorem rX11_saysIt_53 : tA sc iX11_saysIt 53 ls st h Q = tA sc iX11_saysIt 55 ls (vI (51) :: st) h Q := tA_pure mB_X11_saysIt dX11_saysIt_53 rfl
theorem rX11_saysIt_55 (hci : tcl h o = some 11) : tA sc iX11_saysIt 55 ls [vI p0, vR (some o)] h Q = tA sc iX11_ran 0 [vR (some o), vI p0] [] h (fun v h1 => tA sc iX11_saysIt 58 ls (tpu v []) h1 Q) := tA_cV mB_X11_saysIt mO_X11_saysIt dX11_saysIt_55 cT_11_365 rfl (Nat.le_of_ble_eq_true rfl) rfl rfl rfl hci
theorem rX11_saysIt_58 : tA sc iX11_saysIt 58 [vR r, l1] st h Q = tA sc iX11_saysIt 59 [vR r, l1] (vR r :: st) h Q := tA_pure mB_X11_saysIt dX11_saysIt_58 rfl
theorem rX11_saysIt_59 : tA sc iX11_saysIt 59 [l0, vI x] st h Q = tA sc iX11_saysIt 60 [l0, vI x] (vI x :: st) h Q := tA_pure mB_X11_saysIt dX11_saysIt_59 rfl
theorem rX11_saysIt_60 (hci : tcl h o = some 11) : tA sc iX11_saysIt 60 ls [vI p0, vR (some o)] h Q = tA sc iX11_plainSays 0 [vR (some o), vI p0] [] h (fun v h1 => tA sc iX11_saysIt 63 ls (tpu v []) h1 Q) := tA_cV mB_X11_saysIt mO_X11_saysIt dX11_saysIt_60 cT_11_371 rfl (Nat.le_of_ble_eq_true rfl) rfl rfl rfl hci
theorem rX11_saysIt_63 : tA sc iX11_saysIt 63 [vR r, l1] st h Q = tA sc iX11_saysIt 64 [vR r, l1] (vR r :: st) h Q := tA_pure mB_X11_saysIt dX11_saysIt_63 rfl
theorem rX11_saysIt_64 : tA sc iX11_saysIt 64 ls (vR (some o) :: st) h Q = oz (tget h o [11] 44) (fun v => tA sc iX11_saysIt 67 ls (v :: st) h Q) := tA_get mB_X11_saysIt mO_X11_saysIt dX11_saysIt_64 fT_11_368
theorem rX11_saysIt_67 : tA sc iX11_saysIt 67 ls (vI y :: vI x :: st) h Q = tA sc iX11_saysIt 68 ls (vI (x - y) :: st) h Q := tA_pure mB_X11_saysIt dX11_saysIt_67 rfl
theorem rX11_saysIt_68 : tA sc iX11_saysIt 68 ls [vI x] h Q = Q (some (vI x)) h := tA_ret mB_X11_saysIt dX11_saysIt_68 (fun _ _ _ _ => rfl) (fun _ _ _ => rfl) (fun _ _ _ _ _ => rfl) rfl rfl
theorem rX11_saysIt_69 : tA sc iX11_saysIt 69 [vR r, l1] st h Q = tA sc iX11_saysIt 70 [vR r, l1] (vR r :: st) h Q := tA_pure mB_X11_saysIt dX11_saysIt_69 rfl
theorem rX11_saysIt_70 : tA sc iX11_saysIt 70 [l0, vI x] st h Q = tA sc iX11_saysIt 71 [l0, vI x] (vI x :: st) h Q := tA_pure mB_X11_saysIt dX11_saysIt_70 rfl
theorem rX11_saysIt_71 (hci : tcl h o = some 11) : tA sc iX11_saysIt 71 ls [vI p0, vR (some o)] h Q = tA sc iX11_plainSays 0 [vR (some o), vI p0] [] h (fun v h1 => tA sc iX11_saysIt 74 ls (tpu v []) h1 Q) := tA_cV mB_X11_saysIt mO_X11_saysIt dX11_saysIt_71 cT_11_371 rfl (Nat.le_of_ble_eq_true rfl) rfl rfl rfl hci
theorem rX11_saysIt_74 : tA sc iX11_saysIt 74 ls [vI x] h Q = Q (some (vI x)) h := tA_ret mB_X11_saysIt dX11_saysIt_74 (fun _ _ _ _ => rfl) (fun _ _ _ => rfl) (fun _ _ _ _ _ => rfl) rfl rfl
theorem mB_X11_plainWaits : mB iX11_plainWaits = cX11_plainWaits := rfl
theorem mO_X11_plainWaits : mO iX11_plainWaits = 11 := rfl
theorem rX11_plainWaits_0 : tA sc iX11_plainWaits 0 [vR r, l1] st h Q = tA sc iX11_plainWaits 1 [vR r, l1] (vR r :: st) h Q := tA_pure mB_X11_plainWaits dX11_plainWaits_0 rfl
theorem rX11_plainWaits_1 : tA sc iX11_plainWaits 1 ls st h Q = tA sc iX11_plainWaits 3 ls (vI (11) :: st) h Q := tA_pure mB_X11_plainWaits dX11_plainWaits_1 rfl
theorem rX11_plainWaits_3 (hci : tcl h o = some 11) : tA sc iX11_plainWaits 3 ls [vI p0, vR (some o)] h Q = tA sc iX11_ran 0 [vR (some o), vI p0] [] h (fun v h1 => tA sc iX11_plainWaits 6 ls (tpu v []) h1 Q) := tA_cV mB_X11_plainWaits mO_X11_plainWaits dX11_plainWaits_3 cT_11_365 rfl (Nat.le_of_ble_eq_true rfl) rfl rfl rfl hci
theorem rX11_plainWaits_6 : tA sc iX11_plainWaits 6 [vR r, l1] st h Q = tA sc iX11_plainWaits 7 [vR r, l1] (vR r :: st) h Q := tA_pure mB_X11_plainWaits dX11_plainWaits_6 rfl
theorem rX11_plainWaits_7 : tA sc iX11_plainWaits 7 [l0, vI x] st h Q = tA sc iX11_plainWaits 8 [l0, vI x] (vI x :: st) h Q := tA_pure mB_X11_plainWaits dX11_plainWaits_7 rfl
theorem rX11_plainWaits_8 (hci : tcl h o = some 11) : tA sc iX11_plainWaits 8 ls [vI p0, vR (some o)] h Q = tA sc iX11_saysIt 0 [vR (some o), vI p0] [] h (fun v h1 => tA sc iX11_plainWaits 11 ls (tpu v []) h1 Q) := tA_cV mB_X11_plainWaits mO_X11_plainWaits dX11_plainWaits_8 cT_11_380 rfl (Nat.le_of_ble_eq_true rfl) rfl rfl rfl hci
theorem rX11_plainWaits_11 : tA sc iX11_plainWaits 11 ls st h Q = tA sc iX11_plainWaits 12 ls (vI (2) :: st) h Q := tA_pure mB_X11_plainWaits dX11_plainWaits_11 rfl
theorem rX11_plainWaits_12 : tA sc iX11_plainWaits 12 ls (vI y :: vI x :: st) h Q = tA sc iX11_plainWaits 13 ls (vI (x * y) :: st) h Q := tA_pure mB_X11_plainWaits dX11_plainWaits_12 rfl
theorem rX11_plainWaits_13 : tA sc iX11_plainWaits 13 ls [vI x] h Q = Q (some (vI x)) h := tA_ret mB_X11_plainWaits dX11_plainWaits_13 (fun _ _ _ _ => rfl) (fun _ _ _ => rfl) (fun _ _ _ _ _ => rfl) rfl rfl
theorem mB_X11_waitsIt : mB iX11_waitsIt = cX11_waitsIt := rfl
theorem mO_X11_waitsIt : mO iX11_waitsIt = 11 := rfl
theorem rX11_waitsIt_0 : tA sc iX11_waitsIt 0 [vR r, l1, l2] st h Q = tA sc iX11_waitsIt 1 [vR r, l1, l2] (vR r :: st) h Q := tA_pure mB_X11_waitsIt dX11_waitsIt_0 rfl
theorem rX11_waitsIt_1 : tA sc iX11_waitsIt 1 ls (vR (some o) :: st) h Q = oz (tget h o [11] 43) (fun v => tA sc iX11_waitsIt 4 ls (v :: st) h Q) := tA_get mB_X11_waitsIt mO_X11_waitsIt dX11_waitsIt_1 fT_11_374
theorem rX11_waitsIt_4 : tA sc iX11_waitsIt 4 ls st h Q = tA sc iX11_waitsIt 5 ls (vI (1) :: st) h Q := tA_pure mB_X11_waitsIt dX11_waitsIt_4 rfl
theorem rX11_waitsIt_5 : tA sc iX11_waitsIt 5 ls (vI y :: vI x :: st) h Q = (if x = y then tA sc iX11_waitsIt 16 ls st h Q else tA sc iX11_waitsIt 8 ls st h Q) := tA_if mB_X11_waitsIt dX11_waitsIt_5 (fun _ _ _ _ => rfl) rfl
theorem rX11_waitsIt_8 : tA sc iX11_waitsIt 8 [vR r, l1, l2] st h Q = tA sc iX11_waitsIt 9 [vR r, l1, l2] (vR r :: st) h Q := tA_pure mB_X11_waitsIt dX11_waitsIt_8 rfl
theorem rX11_waitsIt_9 : tA sc iX11_waitsIt 9 ls (vR (some o) :: st) h Q = oz (tget h o [11] 43) (fun v => tA sc iX11_waitsIt 12 ls (v :: st) h Q) := tA_get mB_X11_waitsIt mO_X11_waitsIt dX11_waitsIt_9 fT_11_374
theorem rX11_waitsIt_12 : tA sc iX11_waitsIt 12 ls st h Q = tA sc iX11_waitsIt 13 ls (vI (4) :: st) h Q := tA_pure mB_X11_waitsIt dX11_waitsIt_12 rfl
theorem rX11_waitsIt_13 : tA sc iX11_waitsIt 13 ls (vI y :: vI x :: st) h Q = (if ¬ x = y then tA sc iX11_waitsIt 33 ls st h Q else tA sc iX11_waitsIt 16 ls st h Q) := tA_if mB_X11_waitsIt dX11_waitsIt_13 (fun _ _ _ _ => rfl) rfl
theorem rX11_waitsIt_16 : tA sc iX11_waitsIt 16 [vR r, l1, l2] st h Q = tA sc iX11_waitsIt 17 [vR r, l1, l2] (vR r :: st) h Q := tA_pure mB_X11_waitsIt dX11_waitsIt_16 rfl
theorem rX11_waitsIt_17 : tA sc iX11_waitsIt 17 ls st h Q = tA sc iX11_waitsIt 19 ls (vI (20) :: st) h Q := tA_pure mB_X11_waitsIt dX11_waitsIt_17 rfl
theorem rX11_waitsIt_19 (hci : tcl h o = some 11) : tA sc iX11_waitsIt 19 ls [vI p0, vR (some o)] h Q = tA sc iX11_ran 0 [vR (some o), vI p0] [] h (fun v h1 => tA sc iX11_waitsIt 22 ls (tpu v []) h1 Q) := tA_cV mB_X11_waitsIt mO_X11_waitsIt dX11_waitsIt_19 cT_11_365 rfl (Nat.le_of_ble_eq_true rfl) rfl rfl rfl hci
theorem rX11_waitsIt_22 : tA sc iX11_waitsIt 22 [vR r, l1, l2] st h Q = tA sc iX11_waitsIt 23 [vR r, l1, l2] (vR r :: st) h Q := tA_pure mB_X11_waitsIt dX11_waitsIt_22 rfl
theorem rX11_waitsIt_23 : tA sc iX11_waitsIt 23 [l0, vI x, l2] st h Q = tA sc iX11_waitsIt 24 [l0, vI x, l2] (vI x :: st) h Q := tA_pure mB_X11_waitsIt dX11_waitsIt_23 rfl
theorem rX11_waitsIt_24 (hci : tcl h o = some 11) : tA sc iX11_waitsIt 24 ls [vI p0, vR (some o)] h Q = tA sc iX11_plainWaits 0 [vR (some o), vI p0] [] h (fun v h1 => tA sc iX11_waitsIt 27 ls (tpu v []) h1 Q) := tA_cV mB_X11_waitsIt mO_X11_waitsIt dX11_waitsIt_24 cT_11_383 rfl (Nat.le_of_ble_eq_true rfl) rfl rfl rfl hci
theorem rX11_waitsIt_27 : tA sc iX11_waitsIt 27 [vR r, l1, l2] st h Q = tA sc iX11_waitsIt 28 [vR r, l1, l2] (vR r :: st) h Q := tA_pure mB_X11_waitsIt dX11_waitsIt_27 rfl
theorem rX11_waitsIt_28 : tA sc iX11_waitsIt 28 ls (vR (some o) :: st) h Q = oz (tget h o [11] 45) (fun v => tA sc iX11_waitsIt 31 ls (v :: st) h Q) := tA_get mB_X11_waitsIt mO_X11_waitsIt dX11_waitsIt_28 fT_11_386
theorem rX11_waitsIt_31 : tA sc iX11_waitsIt 31 ls (vI y :: vI x :: st) h Q = tA sc iX11_waitsIt 32 ls (vI (x - y) :: st) h Q := tA_pure mB_X11_waitsIt dX11_waitsIt_31 rfl
theorem rX11_waitsIt_32 : tA sc iX11_waitsIt 32 ls [vI x] h Q = Q (some (vI x)) h := tA_ret mB_X11_waitsIt dX11_waitsIt_32 (fun _ _ _ _ => rfl) (fun _ _ _ => rfl) (fun _ _ _ _ _ => rfl) rfl rfl
theorem rX11_waitsIt_33 : tA sc iX11_waitsIt 33 [vR r, l1, l2] st h Q = tA sc iX11_waitsIt 34 [vR r, l1, l2] (vR r :: st) h Q := tA_pure mB_X11_waitsIt dX11_waitsIt_33 rfl
theorem rX11_waitsIt_34 : tA sc iX11_waitsIt 34 ls (vR (some o) :: st) h Q = oz (tget h o [11] 43) (fun v => tA sc iX11_waitsIt 37 ls (v :: st) h Q) := tA_get mB_X11_waitsIt mO_X11_waitsIt dX11_waitsIt_34 fT_11_374
theorem rX11_waitsIt_37 : tA sc iX11_waitsIt 37 ls st h Q = tA sc iX11_waitsIt 38 ls (vI (3) :: st) h Q := tA_pure mB_X11_waitsIt dX11_waitsIt_37 rfl
theorem rX11_waitsIt_38 : tA sc iX11_waitsIt 38 ls (vI y :: vI x :: st) h Q = (if ¬ x = y then tA sc iX11_waitsIt 64 ls st h Q else tA sc iX11_waitsIt 41 ls st h Q) := tA_if mB_X11_waitsIt dX11_waitsIt_38 (fun _ _ _ _ => rfl) rfl
theorem rX11_waitsIt_41 : tA sc iX11_waitsIt 41 [vR r, l1, l2] st h Q = tA sc iX11_waitsIt 42 [vR r, l1, l2] (vR r :: st) h Q := tA_pure mB_X11_waitsIt dX11_waitsIt_41 rfl
theorem rX11_waitsIt_42 : tA sc iX11_waitsIt 42 ls st h Q = tA sc iX11_waitsIt 44 ls (vI (41) :: st) h Q := tA_pure mB_X11_waitsIt dX11_waitsIt_42 rfl
theorem rX11_waitsIt_44 (hci : tcl h o = some 11) : tA sc iX11_waitsIt 44 ls [vI p0, vR (some o)] h Q = tA sc iX11_ran 0 [vR (some o), vI p0] [] h (fun v h1 => tA sc iX11_waitsIt 47 ls (tpu v []) h1 Q) := tA_cV mB_X11_waitsIt mO_X11_waitsIt dX11_waitsIt_44 cT_11_365 rfl (Nat.le_of_ble_eq_true rfl) rfl rfl rfl hci
theorem rX11_waitsIt_47 : tA sc iX11_waitsIt 47 [vR r, l1, l2] st h Q = tA sc iX11_waitsIt 48 [vR r, l1, l2] (vR r :: st) h Q := tA_pure mB_X11_waitsIt dX11_waitsIt_47 rfl
theorem rX11_waitsIt_48 : tA sc iX11_waitsIt 48 [l0, vI x, l2] st h Q = tA sc iX11_waitsIt 49 [l0, vI x, l2] (vI x :: st) h Q := tA_pure mB_X11_waitsIt dX11_waitsIt_48 rfl
theorem rX11_waitsIt_49 (hci : tcl h o = some 11) : tA sc iX11_waitsIt 49 ls [vI p0, vR (some o)] h Q = tA sc iX11_plainWaits 0 [vR (some o), vI p0] [] h (fun v h1 => tA sc iX11_waitsIt 52 ls (tpu v []) h1 Q) := tA_cV mB_X11_waitsIt mO_X11_waitsIt dX11_waitsIt_49 cT_11_383 rfl (Nat.le_of_ble_eq_true rfl) rfl rfl rfl hci
theorem rX11_waitsIt_52 : tA sc iX11_waitsIt 52 [l0, l1, l2] (vI x :: st) h Q = tA sc iX11_waitsIt 53 [l0, tclr l1, vI x] st h Q := tA_pure mB_X11_waitsIt dX11_waitsIt_52 rfl
theorem rX11_waitsIt_53 : tA sc iX11_waitsIt 53 [l0, l1, vI x] st h Q = tA sc iX11_waitsIt 54 [l0, l1, vI x] (vI x :: st) h Q := tA_pure mB_X11_waitsIt dX11_waitsIt_53 rfl
theorem rX11_waitsIt_54 : tA sc iX11_waitsIt 54 [vR r, l1, l2] st h Q = tA sc iX11_waitsIt 55 [vR r, l1, l2] (vR r :: st) h Q := tA_pure mB_X11_waitsIt dX11_waitsIt_54 rfl
theorem rX11_waitsIt_55 : tA sc iX11_waitsIt 55 [vR r, l1, l2] st h Q = tA sc iX11_waitsIt 56 [vR r, l1, l2] (vR r :: st) h Q := tA_pure mB_X11_waitsIt dX11_waitsIt_55 rfl
theorem rX11_waitsIt_56 : tA sc iX11_waitsIt 56 ls (vR (some o) :: st) h Q = oz (tget h o [11] 44) (fun v => tA sc iX11_waitsIt 59 ls (v :: st) h Q) := tA_get mB_X11_waitsIt mO_X11_waitsIt dX11_waitsIt_56 fT_11_368
theorem rX11_waitsIt_59 (hci : tcl h o = some 11) : tA sc iX11_waitsIt 59 ls [vI p0, vR (some o), s0] h Q = tA sc iX11_saysIt 0 [vR (some o), vI p0] [] h (fun v h1 => tA sc iX11_waitsIt 62 ls (tpu v [s0]) h1 Q) := tA_cV mB_X11_waitsIt mO_X11_waitsIt dX11_waitsIt_59 cT_11_380 rfl (Nat.le_of_ble_eq_true rfl) rfl rfl rfl hci
theorem rX11_waitsIt_62 : tA sc iX11_waitsIt 62 ls (vI y :: vI x :: st) h Q = tA sc iX11_waitsIt 63 ls (vI (x + y) :: st) h Q := tA_pure mB_X11_waitsIt dX11_waitsIt_62 rfl
theorem rX11_waitsIt_63 : tA sc iX11_waitsIt 63 ls [vI x] h Q = Q (some (vI x)) h := tA_ret mB_X11_waitsIt dX11_waitsIt_63 (fun _ _ _ _ => rfl) (fun _ _ _ => rfl) (fun _ _ _ _ _ => rfl) rfl rfl
theorem rX11_waitsIt_64 : tA sc iX11_waitsIt 64 [vR r, l1, l2] st h Q = tA sc iX11_waitsIt 65 [vR r, l1, l2] (vR r :: st) h Q := tA_pure mB_X11_waitsIt dX11_waitsIt_64 rfl
theorem rX11_waitsIt_65 : tA sc iX11_waitsIt 65 [l0, vI x, l2] st h Q = tA sc iX11_waitsIt 66 [l0, vI x, l2] (vI x :: st) h Q := tA_pure mB_X11_waitsIt dX11_waitsIt_65 rfl
theorem rX11_waitsIt_66 (hci : tcl h o = some 11) : tA sc iX11_waitsIt 66 ls [vI p0, vR (some o)] h Q = tA sc iX11_plainWaits 0 [vR (some o), vI p0] [] h (fun v h1 => tA sc iX11_waitsIt 69 ls (tpu v []) h1 Q) := tA_cV mB_X11_waitsIt mO_X11_waitsIt dX11_waitsIt_66 cT_11_383 rfl (Nat.le_of_ble_eq_true rfl) rfl rfl rfl hci
theorem rX11_waitsIt_69 : tA sc iX11_waitsIt 69 ls [vI x] h Q = Q (some (vI x)) h := tA_ret mB_X11_waitsIt dX11_waitsIt_69 (fun _ _ _ _ => rfl) (fun _ _ _ => rfl) (fun _ _ _ _ _ => rfl) rfl rfl
theorem mB_X11_plainShares : mB iX11_plainShares = cX11_plainShares := rfl
theorem mO_X11_plainShares : mO iX11_plainShares = 11 := rfl
theorem rX11_plainShares_0 : tA sc iX11_plainShares 0 [vR r, l1] st h Q = tA sc iX11_plainShares 1 [vR r, l1] (vR r :: st) h Q := tA_pure mB_X11_plainShares dX11_plainShares_0 rfl
theorem rX11_plainShares_1 : tA sc iX11_plainShares 1 ls st h Q = tA sc iX11_plainShares 3 ls (vI (12) :: st) h Q := tA_pure mB_X11_plainShares dX11_plainShares_1 rfl
theorem rX11_plainShares_3 (hci : tcl h o = some 11) : tA sc iX11_plainShares 3 ls [vI p0, vR (some o)] h Q = tA sc iX11_ran 0 [vR (some o), vI p0] [] h (fun v h1 => tA sc iX11_plainShares 6 ls (tpu v []) h1 Q) := tA_cV mB_X11_plainShares mO_X11_plainShares dX11_plainShares_3 cT_11_365 rfl (Nat.le_of_ble_eq_true rfl) rfl rfl rfl hci
theorem rX11_plainShares_6 : tA sc iX11_plainShares 6 [vR r, l1] st h Q = tA sc iX11_plainShares 7 [vR r, l1] (vR r :: st) h Q := tA_pure mB_X11_plainShares dX11_plainShares_6 rfl
theorem rX11_plainShares_7 : tA sc iX11_plainShares 7 ls (vR (some o) :: st) h Q = oz (tget h o [11] 45) (fun v => tA sc iX11_plainShares 10 ls (v :: st) h Q) := tA_get mB_X11_plainShares mO_X11_plainShares dX11_plainShares_7 fT_11_386
theorem rX11_plainShares_10 : tA sc iX11_plainShares 10 [vR r, l1] st h Q = tA sc iX11_plainShares 11 [vR r, l1] (vR r :: st) h Q := tA_pure mB_X11_plainShares dX11_plainShares_10 rfl
theorem rX11_plainShares_11 : tA sc iX11_plainShares 11 ls (vR (some o) :: st) h Q = oz (tget h o [11] 44) (fun v => tA sc iX11_plainShares 14 ls (v :: st) h Q) := tA_get mB_X11_plainShares mO_X11_plainShares dX11_plainShares_11 fT_11_368
theorem rX11_plainShares_14 : tA sc iX11_plainShares 14 ls (vI y :: vI x :: st) h Q = (if ¬ x = y then tA sc iX11_plainShares 24 ls st h Q else tA sc iX11_plainShares 17 ls st h Q) := tA_if mB_X11_plainShares dX11_plainShares_14 (fun _ _ _ _ => rfl) rfl
theorem rX11_plainShares_17 : tA sc iX11_plainShares 17 [vR r, l1] st h Q = tA sc iX11_plainShares 18 [vR r, l1] (vR r :: st) h Q := tA_pure mB_X11_plainShares dX11_plainShares_17 rfl
theorem rX11_plainShares_18 : tA sc iX11_plainShares 18 ls st h Q = tA sc iX11_plainShares 19 ls (vI (1) :: st) h Q := tA_pure mB_X11_plainShares dX11_plainShares_18 rfl
theorem rX11_plainShares_19 : tA sc iX11_plainShares 19 ls (v :: vR (some o) :: st) h Q = oz (tput h o [11] 48 1 v) (fun h' => tA sc iX11_plainShares 22 ls st h' Q) := tA_put mB_X11_plainShares mO_X11_plainShares dX11_plainShares_19 fT_11_389 (Or.inl (by decide))
theorem rX11_plainShares_22 : tA sc iX11_plainShares 22 ls st h Q = tA sc iX11_plainShares 23 ls (vI (0) :: st) h Q := tA_pure mB_X11_plainShares dX11_plainShares_22 rfl
theorem rX11_plainShares_23 : tA sc iX11_plainShares 23 ls [vI x] h Q = Q (some (vI x)) h := tA_ret mB_X11_plainShares dX11_plainShares_23 (fun _ _ _ _ => rfl) (fun _ _ _ => rfl) (fun _ _ _ _ _ => rfl) rfl rfl
theorem rX11_plainShares_24 : tA sc iX11_plainShares 24 [l0, vI x] st h Q = tA sc iX11_plainShares 25 [l0, vI x] (vI x :: st) h Q := tA_pure mB_X11_plainShares dX11_plainShares_24 rfl
theorem rX11_plainShares_25 : tA sc iX11_plainShares 25 [vR r, l1] st h Q = tA sc iX11_plainShares 26 [vR r, l1] (vR r :: st) h Q := tA_pure mB_X11_plainShares dX11_plainShares_25 rfl
theorem rX11_plainShares_26 : tA sc iX11_plainShares 26 ls (vR (some o) :: st) h Q = oz (tget h o [11] 45) (fun v => tA sc iX11_plainShares 29 ls (v :: st) h Q) := tA_get mB_X11_plainShares mO_X11_plainShares dX11_plainShares_26 fT_11_386
theorem rX11_plainShares_29 : tA sc iX11_plainShares 29 [vR r, l1] st h Q = tA sc iX11_plainShares 30 [vR r, l1] (vR r :: st) h Q := tA_pure mB_X11_plainShares dX11_plainShares_29 rfl
theorem rX11_plainShares_30 : tA sc iX11_plainShares 30 ls (vR (some o) :: st) h Q = oz (tget h o [11] 44) (fun v => tA sc iX11_plainShares 33 ls (v :: st) h Q) := tA_get mB_X11_plainShares mO_X11_plainShares dX11_plainShares_30 fT_11_368
theorem rX11_plainShares_33 : tA sc iX11_plainShares 33 ls (vI y :: vI x :: st) h Q = tA sc iX11_plainShares 34 ls (vI (x - y) :: st) h Q := tA_pure mB_X11_plainShares dX11_plainShares_33 rfl
theorem rX11_plainShares_34 : tA sc iX11_plainShares 34 ls (vI y :: vI x :: st) h Q = (¬ y = 0 ∧ tA sc iX11_plainShares 35 ls (vI (x / y) :: st) h Q) := tA_div mB_X11_plainShares dX11_plainShares_34 (fun _ _ _ => rfl) (fun _ _ _ _ _ => rfl) rfl (fun _ _ => rfl) rfl
theorem rX11_plainShares_35 : tA sc iX11_plainShares 35 ls [vI x] h Q = Q (some (vI x)) h := tA_ret mB_X11_plainShares dX11_plainShares_35 (fun _ _ _ _ => rfl) (fun _ _ _ => rfl) (fun _ _ _ _ _ => rfl) rfl rfl
theorem mB_X11_sharesIt : mB iX11_sharesIt = cX11_sharesIt := rfl
theorem mO_X11_sharesIt : mO iX11_sharesIt = 11 := rfl
theorem rX11_sharesIt_0 : tA sc iX11_sharesIt 0 [vR r, l1, l2] st h Q = tA sc iX11_sharesIt 1 [vR r, l1, l2] (vR r :: st) h Q := tA_pure mB_X11_sharesIt dX11_sharesIt_0 rfl
theorem rX11_sharesIt_1 : tA sc iX11_sharesIt 1 ls (vR (some o) :: st) h Q = oz (tget h o [11] 43) (fun v => tA sc iX11_sharesIt 4 ls (v :: st) h Q) := tA_get mB_X11_sharesIt mO_X11_sharesIt dX11_sharesIt_1 fT_11_374
theorem rX11_sharesIt_4 : tA sc iX11_sharesIt 4 ls st h Q = tA sc iX11_sharesIt 5 ls (vI (4) :: st) h Q := tA_pure mB_X11_sharesIt dX11_sharesIt_4 rfl
theorem rX11_sharesIt_5 : tA sc iX11_sharesIt 5 ls (vI y :: vI x :: st) h Q = (if ¬ x = y then tA sc iX11_sharesIt 24 ls st h Q else tA sc iX11_sharesIt 8 ls st h Q) := tA_if mB_X11_sharesIt dX11_sharesIt_5 (fun _ _ _ _ => rfl) rfl
theorem rX11_sharesIt_8 : tA sc iX11_sharesIt 8 [vR r, l1, l2] st h Q = tA sc iX11_sharesIt 9 [vR r, l1, l2] (vR r :: st) h Q := tA_pure mB_X11_sharesIt dX11_sharesIt_8 rfl
theorem rX11_sharesIt_9 : tA sc iX11_sharesIt 9 ls st h Q = tA sc iX11_sharesIt 11 ls (vI (50) :: st) h Q := tA_pure mB_X11_sharesIt dX11_sharesIt_9 rfl
theorem rX11_sharesIt_11 (hci : tcl h o = some 11) : tA sc iX11_sharesIt 11 ls [vI p0, vR (some o)] h Q = tA sc iX11_ran 0 [vR (some o), vI p0] [] h (fun v h1 => tA sc iX11_sharesIt 14 ls (tpu v []) h1 Q) := tA_cV mB_X11_sharesIt mO_X11_sharesIt dX11_sharesIt_11 cT_11_365 rfl (Nat.le_of_ble_eq_true rfl) rfl rfl rfl hci
theorem rX11_sharesIt_14 : tA sc iX11_sharesIt 14 [vR r, l1, l2] st h Q = tA sc iX11_sharesIt 15 [vR r, l1, l2] (vR r :: st) h Q := tA_pure mB_X11_sharesIt dX11_sharesIt_14 rfl
theorem rX11_sharesIt_15 : tA sc iX11_sharesIt 15 [l0, vI x, l2] st h Q = tA sc iX11_sharesIt 16 [l0, vI x, l2] (vI x :: st) h Q := tA_pure mB_X11_sharesIt dX11_sharesIt_15 rfl
theorem rX11_sharesIt_16 : tA sc iX11_sharesIt 16 ls st h Q = tA sc iX11_sharesIt 17 ls (vI (2) :: st) h Q := tA_pure mB_X11_sharesIt dX11_sharesIt_16 rfl
theorem rX11_sharesIt_17 : tA sc iX11_sharesIt 17 ls (vI y :: vI x :: st) h Q = tA sc iX11_sharesIt 18 ls (vI (x + y) :: st) h Q := tA_pure mB_X11_sharesIt dX11_sharesIt_17 rfl
theorem rX11_sharesIt_18 (hci : tcl h o = some 11) : tA sc iX11_sharesIt 18 ls [vI p0, vR (some o)] h Q = tA sc iX11_plainShares 0 [vR (some o), vI p0] [] h (fun v h1 => tA sc iX11_sharesIt 21 ls (tpu v []) h1 Q) := tA_cV mB_X11_sharesIt mO_X11_sharesIt dX11_sharesIt_18 cT_11_392 rfl (Nat.le_of_ble_eq_true rfl) rfl rfl rfl hci
theorem rX11_sharesIt_21 : tA sc iX11_sharesIt 21 ls st h Q = tA sc iX11_sharesIt 22 ls (vI (1) :: st) h Q := tA_pure mB_X11_sharesIt dX11_sharesIt_21 rfl
theorem rX11_sharesIt_22 : tA sc iX11_sharesIt 22 ls (vI y :: vI x :: st) h Q = tA sc iX11_sharesIt 23 ls (vI (x ^^^ y) :: st) h Q := tA_pure mB_X11_sharesIt dX11_sharesIt_22 rfl
theorem rX11_sharesIt_23 : tA sc iX11_sharesIt 23 ls [vI x] h Q = Q (some (vI x)) h := tA_ret mB_X11_sharesIt dX11_sharesIt_23 (fun _ _ _ _ => rfl) (fun _ _ _ => rfl) (fun _ _ _ _ _ => rfl) rfl rfl
theorem rX11_sharesIt_24 : tA sc iX11_sharesIt 24 [vR r, l1, l2] st h Q = tA sc iX11_sharesIt 25 [vR r, l1, l2] (vR r :: st) h Q := tA_pure mB_X11_sharesIt dX11_sharesIt_24 rfl
theorem rX11_sharesIt_25 : tA sc iX11_sharesIt 25 ls (vR (some o) :: st) h Q = oz (tget h o [11] 43) (fun v => tA sc iX11_sharesIt 28 ls (v :: st) h Q) := tA_get mB_X11_sharesIt mO_X11_sharesIt dX11_sharesIt_25 fT_11_374
theorem rX11_sharesIt_28 : tA sc iX11_sharesIt 28 ls st h Q = tA sc iX11_sharesIt 29 ls (vI (5) :: st) h Q := tA_pure mB_X11_sharesIt dX11_sharesIt_28 rfl
theorem rX11_sharesIt_29 : tA sc iX11_sharesIt 29 ls (vI y :: vI x :: st) h Q = (if ¬ x = y then tA sc iX11_sharesIt 66 ls st h Q else tA sc iX11_sharesIt 32 ls st h Q) := tA_if mB_X11_sharesIt dX11_sharesIt_29 (fun _ _ _ _ => rfl) rfl
theorem rX11_sharesIt_32 : tA sc iX11_sharesIt 32 [vR r, l1, l2] st h Q = tA sc iX11_sharesIt 33 [vR r, l1, l2] (vR r :: st) h Q := tA_pure mB_X11_sharesIt dX11_sharesIt_32 rfl
theorem rX11_sharesIt_33 : tA sc iX11_sharesIt 33 ls st h Q = tA sc iX11_sharesIt 35 ls (vI (61) :: st) h Q := tA_pure mB_X11_sharesIt dX11_sharesIt_33 rfl
theorem rX11_sharesIt_35 (hci : tcl h o = some 11) : tA sc iX11_sharesIt 35 ls [vI p0, vR (some o)] h Q = tA sc iX11_ran 0 [vR (some o), vI p0] [] h (fun v h1 => tA sc iX11_sharesIt 38 ls (tpu v []) h1 Q) := tA_cV mB_X11_sharesIt mO_X11_sharesIt dX11_sharesIt_35 cT_11_365 rfl (Nat.le_of_ble_eq_true rfl) rfl rfl rfl hci
theorem rX11_sharesIt_38 : tA sc iX11_sharesIt 38 [vR r, l1, l2] st h Q = tA sc iX11_sharesIt 39 [vR r, l1, l2] (vR r :: st) h Q := tA_pure mB_X11_sharesIt dX11_sharesIt_38 rfl
theorem rX11_sharesIt_39 : tA sc iX11_sharesIt 39 [l0, vI x, l2] st h Q = tA sc iX11_sharesIt 40 [l0, vI x, l2] (vI x :: st) h Q := tA_pure mB_X11_sharesIt dX11_sharesIt_39 rfl
theorem rX11_sharesIt_40 (hci : tcl h o = some 11) : tA sc iX11_sharesIt 40 ls [vI p0, vR (some o)] h Q = tA sc iX11_plainShares 0 [vR (some o), vI p0] [] h (fun v h1 => tA sc iX11_sharesIt 43 ls (tpu v []) h1 Q) := tA_cV mB_X11_sharesIt mO_X11_sharesIt dX11_sharesIt_40 cT_11_392 rfl (Nat.le_of_ble_eq_true rfl) rfl rfl rfl hci
theorem rX11_sharesIt_43 : tA sc iX11_sharesIt 43 [l0, l1, l2] (vI x :: st) h Q = tA sc iX11_sharesIt 44 [l0, tclr l1, vI x] st h Q := tA_pure mB_X11_sharesIt dX11_sharesIt_43 rfl
theorem rX11_sharesIt_44 : tA sc iX11_sharesIt 44 [vR r, l1, l2] st h Q = tA sc iX11_sharesIt 45 [vR r, l1, l2] (vR r :: st) h Q := tA_pure mB_X11_sharesIt dX11_sharesIt_44 rfl
theorem rX11_sharesIt_45 : tA sc iX11_sharesIt 45 ls (vR (some o) :: st) h Q = oz (tget h o [11] 48) (fun v => tA sc iX11_sharesIt 48 ls (v :: st) h Q) := tA_get mB_X11_sharesIt mO_X11_sharesIt dX11_sharesIt_45 fT_11_389
theorem rX11_sharesIt_48 : tA sc iX11_sharesIt 48 ls (vI x :: st) h Q = (if x = 0 then tA sc iX11_sharesIt 55 ls st h Q else tA sc iX11_sharesIt 51 ls st h Q) := tA_if mB_X11_sharesIt dX11_sharesIt_48 (fun _ _ _ _ => rfl) rfl
theorem rX11_sharesIt_51 : tA sc iX11_sharesIt 51 ls st h Q = tA sc iX11_sharesIt 52 ls (vI (0) :: st) h Q := tA_pure mB_X11_sharesIt dX11_sharesIt_51 rfl
theorem rX11_sharesIt_52 : tA sc iX11_sharesIt 52 ls st h Q = tA sc iX11_sharesIt 65 ls st h Q := tA_jump mB_X11_sharesIt dX11_sharesIt_52 (fun _ _ _ _ => rfl) rfl
theorem rX11_sharesIt_55 : tA sc iX11_sharesIt 55 [l0, l1, vI x] st h Q = tA sc iX11_sharesIt 56 [l0, l1, vI x] (vI x :: st) h Q := tA_pure mB_X11_sharesIt dX11_sharesIt_55 rfl
theorem rX11_sharesIt_56 : tA sc iX11_sharesIt 56 [vR r, l1, l2] st h Q = tA sc iX11_sharesIt 57 [vR r, l1, l2] (vR r :: st) h Q := tA_pure mB_X11_sharesIt dX11_sharesIt_56 rfl
theorem rX11_sharesIt_57 : tA sc iX11_sharesIt 57 [vR r, l1, l2] st h Q = tA sc iX11_sharesIt 58 [vR r, l1, l2] (vR r :: st) h Q := tA_pure mB_X11_sharesIt dX11_sharesIt_57 rfl
theorem rX11_sharesIt_58 : tA sc iX11_sharesIt 58 ls (vR (some o) :: st) h Q = oz (tget h o [11] 45) (fun v => tA sc iX11_sharesIt 61 ls (v :: st) h Q) := tA_get mB_X11_sharesIt mO_X11_sharesIt dX11_sharesIt_58 fT_11_386
theorem rX11_sharesIt_61 (hci : tcl h o = some 11) : tA sc iX11_sharesIt 61 ls [vI p0, vR (some o), s0] h Q = tA sc iX11_saysIt 0 [vR (some o), vI p0] [] h (fun v h1 => tA sc iX11_sharesIt 64 ls (tpu v [s0]) h1 Q) := tA_cV mB_X11_sharesIt mO_X11_sharesIt dX11_sharesIt_61 cT_11_380 rfl (Nat.le_of_ble_eq_true rfl) rfl rfl rfl hci
theorem rX11_sharesIt_64 : tA sc iX11_sharesIt 64 ls (vI y :: vI x :: st) h Q = tA sc iX11_sharesIt 65 ls (vI (x + y) :: st) h Q := tA_pure mB_X11_sharesIt dX11_sharesIt_64 rfl
theorem rX11_sharesIt_65 : tA sc iX11_sharesIt 65 ls [vI x] h Q = Q (some (vI x)) h := tA_ret mB_X11_sharesIt dX11_sharesIt_65 (fun _ _ _ _ => rfl) (fun _ _ _ => rfl) (fun _ _ _ _ _ => rfl) rfl rfl
theorem rX11_sharesIt_66 : tA sc iX11_sharesIt 66 [vR r, l1, l2] st h Q = tA sc iX11_sharesIt 67 [vR r, l1, l2] (vR r :: st) h Q := tA_pure mB_X11_sharesIt dX11_sharesIt_66 rfl
theorem rX11_sharesIt_67 : tA sc iX11_sharesIt 67 [l0, vI x, l2] st h Q = tA sc iX11_sharesIt 68 [l0, vI x, l2] (vI x :: st) h Q := tA_pure mB_X11_sharesIt dX11_sharesIt_67 rfl
theorem rX11_sharesIt_68 (hci : tcl h o = some 11) : tA sc iX11_sharesIt 68 ls [vI p0, vR (some o)] h Q = tA sc iX11_plainShares 0 [vR (some o), vI p0] [] h (fun v h1 => tA sc iX11_sharesIt 71 ls (tpu v []) h1 Q) := tA_cV mB_X11_sharesIt mO_X11_sharesIt dX11_sharesIt_68 cT_11_392 rfl (Nat.le_of_ble_eq_true rfl) rfl rfl rfl hci
theorem rX11_sharesIt_71 : tA sc iX11_sharesIt 71 ls [vI x] h Q = Q (some (vI x)) h := tA_ret mB_X11_sharesIt dX11_sharesIt_71 (fun _ _ _ _ => rfl) (fun _ _ _ => rfl) (fun _ _ _ _ _ => rfl) rfl rfl
theorem mB_X11_plainTells : mB iX11_plainTells = cX11_plainTells := rfl
theorem mO_X11_plainTells : mO iX11_plainTells = 11 := rfl
theorem rX11_plainTells_0 : tA sc iX11_plainTells 0 [vR r, l1] st h Q = tA sc iX11_plainTells 1 [vR r, l1] (vR r :: st) h Q := tA_pure mB_X11_plainTells dX11_plainTells_0 rfl
theorem rX11_plainTells_1 : tA sc iX11_plainTells 1 ls st h Q = tA sc iX11_plainTells 3 ls (vI (13) :: st) h Q := tA_pure mB_X11_plainTells dX11_plainTells_1 rfl
theorem rX11_plainTells_3 (hci : tcl h o = some 11) : tA sc iX11_plainTells 3 ls [vI p0, vR (some o)] h Q = tA sc iX11_ran 0 [vR (some o), vI p0] [] h (fun v h1 => tA sc iX11_plainTells 6 ls (tpu v []) h1 Q) := tA_cV mB_X11_plainTells mO_X11_plainTells dX11_plainTells_3 cT_11_365 rfl (Nat.le_of_ble_eq_true rfl) rfl rfl rfl hci
theorem rX11_plainTells_6 : tA sc iX11_plainTells 6 [vR r, l1] st h Q = tA sc iX11_plainTells 7 [vR r, l1] (vR r :: st) h Q := tA_pure mB_X11_plainTells dX11_plainTells_6 rfl
theorem rX11_plainTells_7 : tA sc iX11_plainTells 7 [l0, vI x] st h Q = tA sc iX11_plainTells 8 [l0, vI x] (vI x :: st) h Q := tA_pure mB_X11_plainTells dX11_plainTells_7 rfl
theorem rX11_plainTells_8 (hci : tcl h o = some 11) : tA sc iX11_plainTells 8 ls [vI p0, vR (some o)] h Q = tA sc iX11_waitsIt 0 [vR (some o), vI p0, vU] [] h (fun v h1 => tA sc iX11_plainTells 11 ls (tpu v []) h1 Q) := tA_cV mB_X11_plainTells mO_X11_plainTells dX11_plainTells_8 cT_11_395 rfl (Nat.le_of_ble_eq_true rfl) rfl rfl rfl hci
theorem rX11_plainTells_11 : tA sc iX11_plainTells 11 [vR r, l1] st h Q = tA sc iX11_plainTells 12 [vR r, l1] (vR r :: st) h Q := tA_pure mB_X11_plainTells dX11_plainTells_11 rfl
theorem rX11_plainTells_12 : tA sc iX11_plainTells 12 ls (vR (some o) :: st) h Q = oz (tget h o [11] 45) (fun v => tA sc iX11_plainTells 15 ls (v :: st) h Q) := tA_get mB_X11_plainTells mO_X11_plainTells dX11_plainTells_12 fT_11_386
theorem rX11_plainTells_15 : tA sc iX11_plainTells 15 ls (vI y :: vI x :: st) h Q = tA sc iX11_plainTells 16 ls (vI (x ^^^ y) :: st) h Q := tA_pure mB_X11_plainTells dX11_plainTells_15 rfl
theorem rX11_plainTells_16 : tA sc iX11_plainTells 16 ls [vI x] h Q = Q (some (vI x)) h := tA_ret mB_X11_plainTells dX11_plainTells_16 (fun _ _ _ _ => rfl) (fun _ _ _ => rfl) (fun _ _ _ _ _ => rfl) rfl rfl
theorem mB_X11_tellsIt : mB iX11_tellsIt = cX11_tellsIt := rfl
theorem mO_X11_tellsIt : mO iX11_tellsIt = 11 := rfl
theorem rX11_tellsIt_0 : tA sc iX11_tellsIt 0 [vR r, l1, l2] st h Q = tA sc iX11_tellsIt 1 [vR r, l1, l2] (vR r :: st) h Q := tA_pure mB_X11_tellsIt dX11_tellsIt_0 rfl
theorem rX11_tellsIt_1 : tA sc iX11_tellsIt 1 ls (vR (some o) :: st) h Q = oz (tget h o [11] 43) (fun v => tA sc iX11_tellsIt 4 ls (v :: st) h Q) := tA_get mB_X11_tellsIt mO_X11_tellsIt dX11_tellsIt_1 fT_11_374
theorem rX11_tellsIt_4 : tA sc iX11_tellsIt 4 ls st h Q = tA sc iX11_tellsIt 5 ls (vI (2) :: st) h Q := tA_pure mB_X11_tellsIt dX11_tellsIt_4 rfl
theorem rX11_tellsIt_5 : tA sc iX11_tellsIt 5 ls (vI y :: vI x :: st) h Q = (if x = y then tA sc iX11_tellsIt 16 ls st h Q else tA sc iX11_tellsIt 8 ls st h Q) := tA_if mB_X11_tellsIt dX11_tellsIt_5 (fun _ _ _ _ => rfl) rfl
theorem rX11_tellsIt_8 : tA sc iX11_tellsIt 8 [vR r, l1, l2] st h Q = tA sc iX11_tellsIt 9 [vR r, l1, l2] (vR r :: st) h Q := tA_pure mB_X11_tellsIt dX11_tellsIt_8 rfl
theorem rX11_tellsIt_9 : tA sc iX11_tellsIt 9 ls (vR (some o) :: st) h Q = oz (tget h o [11] 43) (fun v => tA sc iX11_tellsIt 12 ls (v :: st) h Q) := tA_get mB_X11_tellsIt mO_X11_tellsIt dX11_tellsIt_9 fT_11_374
theorem rX11_tellsIt_12 : tA sc iX11_tellsIt 12 ls st h Q = tA sc iX11_tellsIt 13 ls (vI (3) :: st) h Q := tA_pure mB_X11_tellsIt dX11_tellsIt_12 rfl
theorem rX11_tellsIt_13 : tA sc iX11_tellsIt 13 ls (vI y :: vI x :: st) h Q = (if ¬ x = y then tA sc iX11_tellsIt 39 ls st h Q else tA sc iX11_tellsIt 16 ls st h Q) := tA_if mB_X11_tellsIt dX11_tellsIt_13 (fun _ _ _ _ => rfl) rfl
theorem rX11_tellsIt_16 : tA sc iX11_tellsIt 16 [vR r, l1, l2] st h Q = tA sc iX11_tellsIt 17 [vR r, l1, l2] (vR r :: st) h Q := tA_pure mB_X11_tellsIt dX11_tellsIt_16 rfl
theorem rX11_tellsIt_17 : tA sc iX11_tellsIt 17 ls st h Q = tA sc iX11_tellsIt 19 ls (vI (31) :: st) h Q := tA_pure mB_X11_tellsIt dX11_tellsIt_17 rfl
theorem rX11_tellsIt_19 (hci : tcl h o = some 11) : tA sc iX11_tellsIt 19 ls [vI p0, vR (some o)] h Q = tA sc iX11_ran 0 [vR (some o), vI p0] [] h (fun v h1 => tA sc iX11_tellsIt 22 ls (tpu v []) h1 Q) := tA_cV mB_X11_tellsIt mO_X11_tellsIt dX11_tellsIt_19 cT_11_365 rfl (Nat.le_of_ble_eq_true rfl) rfl rfl rfl hci
theorem rX11_tellsIt_22 : tA sc iX11_tellsIt 22 [vR r, l1, l2] st h Q = tA sc iX11_tellsIt 23 [vR r, l1, l2] (vR r :: st) h Q := tA_pure mB_X11_tellsIt dX11_tellsIt_22 rfl
theorem rX11_tellsIt_23 : tA sc iX11_tellsIt 23 [l0, vI x, l2] st h Q = tA sc iX11_tellsIt 24 [l0, vI x, l2] (vI x :: st) h Q := tA_pure mB_X11_tellsIt dX11_tellsIt_23 rfl
theorem rX11_tellsIt_24 (hci : tcl h o = some 11) : tA sc iX11_tellsIt 24 ls [vI p0, vR (some o)] h Q = tA sc iX11_plainTells 0 [vR (some o), vI p0] [] h (fun v h1 => tA sc iX11_tellsIt 27 ls (tpu v []) h1 Q) := tA_cV mB_X11_tellsIt mO_X11_tellsIt dX11_tellsIt_24 cT_11_398 rfl (Nat.le_of_ble_eq_true rfl) rfl rfl rfl hci
theorem rX11_tellsIt_27 : tA sc iX11_tellsIt 27 [l0, l1, l2] (vI x :: st) h Q = tA sc iX11_tellsIt 28 [l0, tclr l1, vI x] st h Q := tA_pure mB_X11_tellsIt dX11_tellsIt_27 rfl
theorem rX11_tellsIt_28 : tA sc iX11_tellsIt 28 [l0, l1, vI x] st h Q = tA sc iX11_tellsIt 29 [l0, l1, vI x] (vI x :: st) h Q := tA_pure mB_X11_tellsIt dX11_tellsIt_28 rfl
theorem rX11_tellsIt_29 : tA sc iX11_tellsIt 29 [vR r, l1, l2] st h Q = tA sc iX11_tellsIt 30 [vR r, l1, l2] (vR r :: st) h Q := tA_pure mB_X11_tellsIt dX11_tellsIt_29 rfl
theorem rX11_tellsIt_30 : tA sc iX11_tellsIt 30 [vR r, l1, l2] st h Q = tA sc iX11_tellsIt 31 [vR r, l1, l2] (vR r :: st) h Q := tA_pure mB_X11_tellsIt dX11_tellsIt_30 rfl
theorem rX11_tellsIt_31 : tA sc iX11_tellsIt 31 ls (vR (some o) :: st) h Q = oz (tget h o [11] 44) (fun v => tA sc iX11_tellsIt 34 ls (v :: st) h Q) := tA_get mB_X11_tellsIt mO_X11_tellsIt dX11_tellsIt_31 fT_11_368
theorem rX11_tellsIt_34 (hci : tcl h o = some 11) : tA sc iX11_tellsIt 34 ls [vI p0, vR (some o), s0] h Q = tA sc iX11_sharesIt 0 [vR (some o), vI p0, vU] [] h (fun v h1 => tA sc iX11_tellsIt 37 ls (tpu v [s0]) h1 Q) := tA_cV mB_X11_tellsIt mO_X11_tellsIt dX11_tellsIt_34 cT_11_401 rfl (Nat.le_of_ble_eq_true rfl) rfl rfl rfl hci
theorem rX11_tellsIt_37 : tA sc iX11_tellsIt 37 ls (vI y :: vI x :: st) h Q = tA sc iX11_tellsIt 38 ls (vI (x + y) :: st) h Q := tA_pure mB_X11_tellsIt dX11_tellsIt_37 rfl
theorem rX11_tellsIt_38 : tA sc iX11_tellsIt 38 ls [vI x] h Q = Q (some (vI x)) h := tA_ret mB_X11_tellsIt dX11_tellsIt_38 (fun _ _ _ _ => rfl) (fun _ _ _ => rfl) (fun _ _ _ _ _ => rfl) rfl rfl
theorem rX11_tellsIt_39 : tA sc iX11_tellsIt 39 [vR r, l1, l2] st h Q = tA sc iX11_tellsIt 40 [vR r, l1, l2] (vR r :: st) h Q := tA_pure mB_X11_tellsIt dX11_tellsIt_39 rfl
theorem rX11_tellsIt_40 : tA sc iX11_tellsIt 40 ls (vR (some o) :: st) h Q = oz (tget h o [11] 43) (fun v => tA sc iX11_tellsIt 43 ls (v :: st) h Q) := tA_get mB_X11_tellsIt mO_X11_tellsIt dX11_tellsIt_40 fT_11_374
theorem rX11_tellsIt_43 : tA sc iX11_tellsIt 43 ls st h Q = tA sc iX11_tellsIt 44 ls (vI (5) :: st) h Q := tA_pure mB_X11_tellsIt dX11_tellsIt_43 rfl
theorem rX11_tellsIt_44 : tA sc iX11_tellsIt 44 ls (vI y :: vI x :: st) h Q = (if ¬ x = y then tA sc iX11_tellsIt 61 ls st h Q else tA sc iX11_tellsIt 47 ls st h Q) := tA_if mB_X11_tellsIt dX11_tellsIt_44 (fun _ _ _ _ => rfl) rfl
theorem rX11_tellsIt_47 : tA sc iX11_tellsIt 47 [vR r, l1, l2] st h Q = tA sc iX11_tellsIt 48 [vR r, l1, l2] (vR r :: st) h Q := tA_pure mB_X11_tellsIt dX11_tellsIt_47 rfl
theorem rX11_tellsIt_48 : tA sc iX11_tellsIt 48 ls st h Q = tA sc iX11_tellsIt 50 ls (vI (60) :: st) h Q := tA_pure mB_X11_tellsIt dX11_tellsIt_48 rfl
theorem rX11_tellsIt_50 (hci : tcl h o = some 11) : tA sc iX11_tellsIt 50 ls [vI p0, vR (some o)] h Q = tA sc iX11_ran 0 [vR (some o), vI p0] [] h (fun v h1 => tA sc iX11_tellsIt 53 ls (tpu v []) h1 Q) := tA_cV mB_X11_tellsIt mO_X11_tellsIt dX11_tellsIt_50 cT_11_365 rfl (Nat.le_of_ble_eq_true rfl) rfl rfl rfl hci
theorem rX11_tellsIt_53 : tA sc iX11_tellsIt 53 [vR r, l1, l2] st h Q = tA sc iX11_tellsIt 54 [vR r, l1, l2] (vR r :: st) h Q := tA_pure mB_X11_tellsIt dX11_tellsIt_53 rfl
theorem rX11_tellsIt_54 : tA sc iX11_tellsIt 54 [l0, vI x, l2] st h Q = tA sc iX11_tellsIt 55 [l0, vI x, l2] (vI x :: st) h Q := tA_pure mB_X11_tellsIt dX11_tellsIt_54 rfl
theorem rX11_tellsIt_55 (hci : tcl h o = some 11) : tA sc iX11_tellsIt 55 ls [vI p0, vR (some o)] h Q = tA sc iX11_plainTells 0 [vR (some o), vI p0] [] h (fun v h1 => tA sc iX11_tellsIt 58 ls (tpu v []) h1 Q) := tA_cV mB_X11_tellsIt mO_X11_tellsIt dX11_tellsIt_55 cT_11_398 rfl (Nat.le_of_ble_eq_true rfl) rfl rfl rfl hci
theorem rX11_tellsIt_58 : tA sc iX11_tellsIt 58 ls st h Q = tA sc iX11_tellsIt 59 ls (vI (2) :: st) h Q := tA_pure mB_X11_tellsIt dX11_tellsIt_58 rfl
theorem rX11_tellsIt_59 : tA sc iX11_tellsIt 59 ls (vI y :: vI x :: st) h Q = tA sc iX11_tellsIt 60 ls (vI (x * y) :: st) h Q := tA_pure mB_X11_tellsIt dX11_tellsIt_59 rfl
theorem rX11_tellsIt_60 : tA sc iX11_tellsIt 60 ls [vI x] h Q = Q (some (vI x)) h := tA_ret mB_X11_tellsIt dX11_tellsIt_60 (fun _ _ _ _ => rfl) (fun _ _ _ => rfl) (fun _ _ _ _ _ => rfl) rfl rfl
theorem rX11_tellsIt_61 : tA sc iX11_tellsIt 61 [vR r, l1, l2] st h Q = tA sc iX11_tellsIt 62 [vR r, l1, l2] (vR r :: st) h Q := tA_pure mB_X11_tellsIt dX11_tellsIt_61 rfl
theorem rX11_tellsIt_62 : tA sc iX11_tellsIt 62 [l0, vI x, l2] st h Q = tA sc iX11_tellsIt 63 [l0, vI x, l2] (vI x :: st) h Q := tA_pure mB_X11_tellsIt dX11_tellsIt_62 rfl
theorem rX11_tellsIt_63 (hci : tcl h o = some 11) : tA sc iX11_tellsIt 63 ls [vI p0, vR (some o)] h Q = tA sc iX11_plainTells 0 [vR (some o), vI p0] [] h (fun v h1 => tA sc iX11_tellsIt 66 ls (tpu v []) h1 Q) := tA_cV mB_X11_tellsIt mO_X11_tellsIt dX11_tellsIt_63 cT_11_398 rfl (Nat.le_of_ble_eq_true rfl) rfl rfl rfl hci
theorem rX11_tellsIt_66 : tA sc iX11_tellsIt 66 ls [vI x] h Q = Q (some (vI x)) h := tA_ret mB_X11_tellsIt dX11_tellsIt_66 (fun _ _ _ _ => rfl) (fun _ _ _ => rfl) (fun _ _ _ _ _ => rfl) rfl rfl
theorem mB_X11_act : mB iX11_act = cX11_act := rfl
theorem mO_X11_act : mO iX11_act = 11 := rfl
theorem rX11_act_0 : tA sc iX11_act 0 [vR r, l1, l2, l3, l4, l5] st h Q = tA sc iX11_act 1 [vR r, l1, l2, l3, l4, l5] (vR r :: st) h Q := tA_pure mB_X11_act dX11_act_0 rfl
theorem rX11_act_1 : tA sc iX11_act 1 ls st h Q = tA sc iX11_act 2 ls (vI (0) :: st) h Q := tA_pure mB_X11_act dX11_act_1 rfl
theorem rX11_act_2 : tA sc iX11_act 2 ls (v :: vR (some o) :: st) h Q = oz (tput h o [11] 47 0 v) (fun h' => tA sc iX11_act 5 ls st h' Q) := tA_put mB_X11_act mO_X11_act dX11_act_2 fT_11_362 (Or.inl (by decide))
theorem rX11_act_5 : tA sc iX11_act 5 [l0, vI x, l2, l3, l4, l5] st h Q = tA sc iX11_act 6 [l0, vI x, l2, l3, l4, l5] (vI x :: st) h Q := tA_pure mB_X11_act dX11_act_5 rfl
theorem rX11_act_6 : tA sc iX11_act 6 ls [vI p0] h Q = tA sc iX11_isShelf 0 [vI p0] [] h (fun v h1 => tA sc iX11_act 9 ls (tpu v []) h1 Q) := tA_cS mB_X11_act mO_X11_act dX11_act_6 cT_11_345 ⟨Nat.le_of_ble_eq_true rfl, Nat.le_of_ble_eq_true rfl⟩ rfl rfl rfl rfl
theorem rX11_act_9 : tA sc iX11_act 9 ls (vI x :: st) h Q = (if x = 0 then tA sc iX11_act 20 ls st h Q else tA sc iX11_act 12 ls st h Q) := tA_if mB_X11_act dX11_act_9 (fun _ _ _ _ => rfl) rfl
theorem rX11_act_12 : tA sc iX11_act 12 [vR r, l1, l2, l3, l4, l5] st h Q = tA sc iX11_act 13 [vR r, l1, l2, l3, l4, l5] (vR r :: st) h Q := tA_pure mB_X11_act dX11_act_12 rfl
theorem rX11_act_13 : tA sc iX11_act 13 [l0, vI x, l2, l3, l4, l5] st h Q = tA sc iX11_act 14 [l0, vI x, l2, l3, l4, l5] (vI x :: st) h Q := tA_pure mB_X11_act dX11_act_13 rfl
theorem rX11_act_14 (hci : tcl h o = some 11) : tA sc iX11_act 14 ls [vI p0, vR (some o)] h Q = tA sc iX11_kindOn 0 [vR (some o), vI p0] [] h (fun v h1 => tA sc iX11_act 17 ls (tpu v []) h1 Q) := tA_cV mB_X11_act mO_X11_act dX11_act_14 cT_11_356 rfl (Nat.le_of_ble_eq_true rfl) rfl rfl rfl hci
theorem rX11_act_17 : tA sc iX11_act 17 ls st h Q = tA sc iX11_act 21 ls st h Q := tA_jump mB_X11_act dX11_act_17 (fun _ _ _ _ => rfl) rfl
theorem rX11_act_20 : tA sc iX11_act 20 ls st h Q = tA sc iX11_act 21 ls (vI (-1) :: st) h Q := tA_pure mB_X11_act dX11_act_20 rfl
theorem rX11_act_21 : tA sc iX11_act 21 [l0, l1, l2, l3, l4, l5] (vI x :: st) h Q = tA sc iX11_act 23 [l0, l1, l2, tclr l3, vI x, l5] st h Q := tA_pure mB_X11_act dX11_act_21 rfl
theorem rX11_act_23 : tA sc iX11_act 23 [l0, l1, vI x, l3, l4, l5] st h Q = tA sc iX11_act 24 [l0, l1, vI x, l3, l4, l5] (vI x :: st) h Q := tA_pure mB_X11_act dX11_act_23 rfl
theorem rX11_act_24 : tA sc iX11_act 24 ls st h Q = tA sc iX11_act 25 ls (vI (0) :: st) h Q := tA_pure mB_X11_act dX11_act_24 rfl
theorem rX11_act_25 : tA sc iX11_act 25 ls st h Q = tA sc iX11_act 26 ls (vI (3) :: st) h Q := tA_pure mB_X11_act dX11_act_25 rfl
theorem rX11_act_26 : tA sc iX11_act 26 ls [vI p2, vI p1, vI p0] h Q = tA sc iX11_in 0 [vI p0, vI p1, vI p2] [] h (fun v h1 => tA sc iX11_act 29 ls (tpu v []) h1 Q) := tA_cS mB_X11_act mO_X11_act dX11_act_26 cT_11_83 ⟨Nat.le_of_ble_eq_true rfl, Nat.le_of_ble_eq_true rfl⟩ rfl rfl rfl rfl
theorem rX11_act_29 : tA sc iX11_act 29 ls (vI x :: st) h Q = (if x = 0 then tA sc iX11_act 42 ls st h Q else tA sc iX11_act 32 ls st h Q) := tA_if mB_X11_act dX11_act_29 (fun _ _ _ _ => rfl) rfl
theorem rX11_act_32 : tA sc iX11_act 32 [l0, l1, l2, l3, vI x, l5] st h Q = tA sc iX11_act 34 [l0, l1, l2, l3, vI x, l5] (vI x :: st) h Q := tA_pure mB_X11_act dX11_act_32 rfl
theorem rX11_act_34 : tA sc iX11_act 34 ls st h Q = tA sc iX11_act 35 ls (vI (0) :: st) h Q := tA_pure mB_X11_act dX11_act_34 rfl
theorem rX11_act_35 : tA sc iX11_act 35 ls st h Q = tA sc iX11_act 36 ls (vI (5) :: st) h Q := tA_pure mB_X11_act dX11_act_35 rfl
theorem rX11_act_36 : tA sc iX11_act 36 ls [vI p2, vI p1, vI p0] h Q = tA sc iX11_in 0 [vI p0, vI p1, vI p2] [] h (fun v h1 => tA sc iX11_act 39 ls (tpu v []) h1 Q) := tA_cS mB_X11_act mO_X11_act dX11_act_36 cT_11_83 ⟨Nat.le_of_ble_eq_true rfl, Nat.le_of_ble_eq_true rfl⟩ rfl rfl rfl rfl
theorem rX11_act_39 : tA sc iX11_act 39 ls (vI x :: st) h Q = (if ¬ x = 0 then tA sc iX11_act 44 ls st h Q else tA sc iX11_act 42 ls st h Q) := tA_if mB_X11_act dX11_act_39 (fun _ _ _ _ => rfl) rfl
theorem rX11_act_42 : tA sc iX11_act 42 ls st h Q = tA sc iX11_act 43 ls (vI (0) :: st) h Q := tA_pure mB_X11_act dX11_act_42 rfl
theorem rX11_act_43 : tA sc iX11_act 43 ls [vI x] h Q = Q (some (vI x)) h := tA_ret mB_X11_act dX11_act_43 (fun _ _ _ _ => rfl) (fun _ _ _ => rfl) (fun _ _ _ _ _ => rfl) rfl rfl
theorem rX11_act_44 : tA sc iX11_act 44 [vR r, l1, l2, l3, l4, l5] st h Q = tA sc iX11_act 45 [vR r, l1, l2, l3, l4, l5] (vR r :: st) h Q := tA_pure mB_X11_act dX11_act_44 rfl
theorem rX11_act_45 : tA sc iX11_act 45 [l0, l1, l2, l3, vI x, l5] st h Q = tA sc iX11_act 47 [l0, l1, l2, l3, vI x, l5] (vI x :: st) h Q := tA_pure mB_X11_act dX11_act_45 rfl
theorem rX11_act_47 : tA sc iX11_act 47 ls (v :: vR (some o) :: st) h Q = oz (tput h o [11] 43 0 v) (fun h' => tA sc iX11_act 50 ls st h' Q) := tA_put mB_X11_act mO_X11_act dX11_act_47 fT_11_374 (Or.inl (by decide))
theorem rX11_act_50 : tA sc iX11_act 50 [vR r, l1, l2, l3, l4, l5] st h Q = tA sc iX11_act 51 [vR r, l1, l2, l3, l4, l5] (vR r :: st) h Q := tA_pure mB_X11_act dX11_act_50 rfl
theorem rX11_act_51 : tA sc iX11_act 51 [vR r, l1, l2, l3, l4, l5] st h Q = tA sc iX11_act 52 [vR r, l1, l2, l3, l4, l5] (vR r :: st) h Q := tA_pure mB_X11_act dX11_act_51 rfl
theorem rX11_act_52 : tA sc iX11_act 52 ls (vR (some o) :: st) h Q = oz (tget h o [11] 41) (fun v => tA sc iX11_act 55 ls (v :: st) h Q) := tA_get mB_X11_act mO_X11_act dX11_act_52 fT_11_68
theorem rX11_act_55 : tA sc iX11_act 55 [l0, vI x, l2, l3, l4, l5] st h Q = tA sc iX11_act 56 [l0, vI x, l2, l3, l4, l5] (vI x :: st) h Q := tA_pure mB_X11_act dX11_act_55 rfl
theorem rX11_act_56 : tA sc iX11_act 56 ls (vI j :: vR (some a) :: st) h Q = oz (tald sc h 0 a j) (fun v => tA sc iX11_act 57 ls (vI v :: st) h Q) := tA_iald mB_X11_act dX11_act_56
theorem rX11_act_57 : tA sc iX11_act 57 ls (v :: vR (some o) :: st) h Q = oz (tput h o [11] 44 0 v) (fun h' => tA sc iX11_act 60 ls st h' Q) := tA_put mB_X11_act mO_X11_act dX11_act_57 fT_11_368 (Or.inl (by decide))
theorem rX11_act_60 : tA sc iX11_act 60 [vR r, l1, l2, l3, l4, l5] st h Q = tA sc iX11_act 61 [vR r, l1, l2, l3, l4, l5] (vR r :: st) h Q := tA_pure mB_X11_act dX11_act_60 rfl
theorem rX11_act_61 : tA sc iX11_act 61 [vR r, l1, l2, l3, l4, l5] st h Q = tA sc iX11_act 62 [vR r, l1, l2, l3, l4, l5] (vR r :: st) h Q := tA_pure mB_X11_act dX11_act_61 rfl
theorem rX11_act_62 : tA sc iX11_act 62 [vR r, l1, l2, l3, l4, l5] st h Q = tA sc iX11_act 63 [vR r, l1, l2, l3, l4, l5] (vR r :: st) h Q := tA_pure mB_X11_act dX11_act_62 rfl
theorem rX11_act_63 : tA sc iX11_act 63 ls (vR (some o) :: st) h Q = oz (tget h o [11] 44) (fun v => tA sc iX11_act 66 ls (v :: st) h Q) := tA_get mB_X11_act mO_X11_act dX11_act_63 fT_11_368
theorem rX11_act_66 (hci : tcl h o = some 11) : tA sc iX11_act 66 ls [vI p0, vR (some o), s0] h Q = tA sc iX11_aOf 0 [vR (some o), vI p0] [] h (fun v h1 => tA sc iX11_act 69 ls (tpu v [s0]) h1 Q) := tA_cV mB_X11_act mO_X11_act dX11_act_66 cT_11_253 rfl (Nat.le_of_ble_eq_true rfl) rfl rfl rfl hci
theorem rX11_act_69 : tA sc iX11_act 69 ls (v :: vR (some o) :: st) h Q = oz (tput h o [11] 45 0 v) (fun h' => tA sc iX11_act 72 ls st h' Q) := tA_put mB_X11_act mO_X11_act dX11_act_69 fT_11_386 (Or.inl (by decide))
theorem rX11_act_72 : tA sc iX11_act 72 [vR r, l1, l2, l3, l4, l5] st h Q = tA sc iX11_act 73 [vR r, l1, l2, l3, l4, l5] (vR r :: st) h Q := tA_pure mB_X11_act dX11_act_72 rfl
theorem rX11_act_73 : tA sc iX11_act 73 ls st h Q = tA sc iX11_act 74 ls (vI (0) :: st) h Q := tA_pure mB_X11_act dX11_act_73 rfl
theorem rX11_act_74 : tA sc iX11_act 74 ls (v :: vR (some o) :: st) h Q = oz (tput h o [11] 48 1 v) (fun h' => tA sc iX11_act 77 ls st h' Q) := tA_put mB_X11_act mO_X11_act dX11_act_74 fT_11_389 (Or.inl (by decide))
theorem rX11_act_77 : tA sc iX11_act 77 [l0, l1, vI x, l3, l4, l5] st h Q = tA sc iX11_act 78 [l0, l1, vI x, l3, l4, l5] (vI x :: st) h Q := tA_pure mB_X11_act dX11_act_77 rfl
theorem rX11_act_78 : tA sc iX11_act 78 ls (vI x :: st) h Q = (if ¬ x = 0 then tA sc iX11_act 89 ls st h Q else tA sc iX11_act 81 ls st h Q) := tA_if mB_X11_act dX11_act_78 (fun _ _ _ _ => rfl) rfl
theorem rX11_act_81 : tA sc iX11_act 81 [vR r, l1, l2, l3, l4, l5] st h Q = tA sc iX11_act 82 [vR r, l1, l2, l3, l4, l5] (vR r :: st) h Q := tA_pure mB_X11_act dX11_act_81 rfl
theorem rX11_act_82 : tA sc iX11_act 82 [l0, l1, l2, vI x, l4, l5] st h Q = tA sc iX11_act 83 [l0, l1, l2, vI x, l4, l5] (vI x :: st) h Q := tA_pure mB_X11_act dX11_act_82 rfl
theorem rX11_act_83 (hci : tcl h o = some 11) : tA sc iX11_act 83 ls [vI p0, vR (some o)] h Q = tA sc iX11_saysIt 0 [vR (some o), vI p0] [] h (fun v h1 => tA sc iX11_act 86 ls (tpu v []) h1 Q) := tA_cV mB_X11_act mO_X11_act dX11_act_83 cT_11_380 rfl (Nat.le_of_ble_eq_true rfl) rfl rfl rfl hci
theorem rX11_act_86 : tA sc iX11_act 86 ls st h Q = tA sc iX11_act 120 ls st h Q := tA_jump mB_X11_act dX11_act_86 (fun _ _ _ _ => rfl) rfl
theorem rX11_act_89 : tA sc iX11_act 89 [l0, l1, vI x, l3, l4, l5] st h Q = tA sc iX11_act 90 [l0, l1, vI x, l3, l4, l5] (vI x :: st) h Q := tA_pure mB_X11_act dX11_act_89 rfl
theorem rX11_act_90 : tA sc iX11_act 90 ls st h Q = tA sc iX11_act 91 ls (vI (1) :: st) h Q := tA_pure mB_X11_act dX11_act_90 rfl
theorem rX11_act_91 : tA sc iX11_act 91 ls (vI y :: vI x :: st) h Q = (if ¬ x = y then tA sc iX11_act 102 ls st h Q else tA sc iX11_act 94 ls st h Q) := tA_if mB_X11_act dX11_act_91 (fun _ _ _ _ => rfl) rfl
theorem rX11_act_94 : tA sc iX11_act 94 [vR r, l1, l2, l3, l4, l5] st h Q = tA sc iX11_act 95 [vR r, l1, l2, l3, l4, l5] (vR r :: st) h Q := tA_pure mB_X11_act dX11_act_94 rfl
theorem rX11_act_95 : tA sc iX11_act 95 [l0, l1, l2, vI x, l4, l5] st h Q = tA sc iX11_act 96 [l0, l1, l2, vI x, l4, l5] (vI x :: st) h Q := tA_pure mB_X11_act dX11_act_95 rfl
theorem rX11_act_96 (hci : tcl h o = some 11) : tA sc iX11_act 96 ls [vI p0, vR (some o)] h Q = tA sc iX11_waitsIt 0 [vR (some o), vI p0, vU] [] h (fun v h1 => tA sc iX11_act 99 ls (tpu v []) h1 Q) := tA_cV mB_X11_act mO_X11_act dX11_act_96 cT_11_395 rfl (Nat.le_of_ble_eq_true rfl) rfl rfl rfl hci
theorem rX11_act_99 : tA sc iX11_act 99 ls st h Q = tA sc iX11_act 120 ls st h Q := tA_jump mB_X11_act dX11_act_99 (fun _ _ _ _ => rfl) rfl
theorem rX11_act_102 : tA sc iX11_act 102 [l0, l1, vI x, l3, l4, l5] st h Q = tA sc iX11_act 103 [l0, l1, vI x, l3, l4, l5] (vI x :: st) h Q := tA_pure mB_X11_act dX11_act_102 rfl
theorem rX11_act_103 : tA sc iX11_act 103 ls st h Q = tA sc iX11_act 104 ls (vI (2) :: st) h Q := tA_pure mB_X11_act dX11_act_103 rfl
theorem rX11_act_104 : tA sc iX11_act 104 ls (vI y :: vI x :: st) h Q = (if ¬ x = y then tA sc iX11_act 115 ls st h Q else tA sc iX11_act 107 ls st h Q) := tA_if mB_X11_act dX11_act_104 (fun _ _ _ _ => rfl) rfl
theorem rX11_act_107 : tA sc iX11_act 107 [vR r, l1, l2, l3, l4, l5] st h Q = tA sc iX11_act 108 [vR r, l1, l2, l3, l4, l5] (vR r :: st) h Q := tA_pure mB_X11_act dX11_act_107 rfl
theorem rX11_act_108 : tA sc iX11_act 108 [l0, l1, l2, vI x, l4, l5] st h Q = tA sc iX11_act 109 [l0, l1, l2, vI x, l4, l5] (vI x :: st) h Q := tA_pure mB_X11_act dX11_act_108 rfl
theorem rX11_act_109 (hci : tcl h o = some 11) : tA sc iX11_act 109 ls [vI p0, vR (some o)] h Q = tA sc iX11_sharesIt 0 [vR (some o), vI p0, vU] [] h (fun v h1 => tA sc iX11_act 112 ls (tpu v []) h1 Q) := tA_cV mB_X11_act mO_X11_act dX11_act_109 cT_11_401 rfl (Nat.le_of_ble_eq_true rfl) rfl rfl rfl hci
theorem rX11_act_112 : tA sc iX11_act 112 ls st h Q = tA sc iX11_act 120 ls st h Q := tA_jump mB_X11_act dX11_act_112 (fun _ _ _ _ => rfl) rfl
theorem rX11_act_115 : tA sc iX11_act 115 [vR r, l1, l2, l3, l4, l5] st h Q = tA sc iX11_act 116 [vR r, l1, l2, l3, l4, l5] (vR r :: st) h Q := tA_pure mB_X11_act dX11_act_115 rfl
theorem rX11_act_116 : tA sc iX11_act 116 [l0, l1, l2, vI x, l4, l5] st h Q = tA sc iX11_act 117 [l0, l1, l2, vI x, l4, l5] (vI x :: st) h Q := tA_pure mB_X11_act dX11_act_116 rfl
theorem rX11_act_117 (hci : tcl h o = some 11) : tA sc iX11_act 117 ls [vI p0, vR (some o)] h Q = tA sc iX11_tellsIt 0 [vR (some o), vI p0, vU] [] h (fun v h1 => tA sc iX11_act 120 ls (tpu v []) h1 Q) := tA_cV mB_X11_act mO_X11_act dX11_act_117 cT_11_404 rfl (Nat.le_of_ble_eq_true rfl) rfl rfl rfl hci
theorem rX11_act_120 : tA sc iX11_act 120 [l0, l1, l2, l3, l4, l5] (vI x :: st) h Q = tA sc iX11_act 122 [l0, l1, l2, l3, tclr l4, vI x] st h Q := tA_pure mB_X11_act dX11_act_120 rfl
theorem rX11_act_122 : tA sc iX11_act 122 [vR r, l1, l2, l3, l4, l5] st h Q = tA sc iX11_act 123 [vR r, l1, l2, l3, l4, l5] (vR r :: st) h Q := tA_pure mB_X11_act dX11_act_122 rfl
theorem rX11_act_123 : tA sc iX11_act 123 ls (vR (some o) :: st) h Q = oz (tget h o [11] 48) (fun v => tA sc iX11_act 126 ls (v :: st) h Q) := tA_get mB_X11_act mO_X11_act dX11_act_123 fT_11_389
theorem rX11_act_126 : tA sc iX11_act 126 ls (vI x :: st) h Q = (if x = 0 then tA sc iX11_act 134 ls st h Q else tA sc iX11_act 129 ls st h Q) := tA_if mB_X11_act dX11_act_126 (fun _ _ _ _ => rfl) rfl
theorem rX11_act_129 : tA sc iX11_act 129 ls st h Q = tA sc iX11_act 131 ls (vI (-15) :: st) h Q := tA_pure mB_X11_act dX11_act_129 rfl
theorem rX11_act_131 : tA sc iX11_act 131 ls st h Q = tA sc iX11_act 136 ls st h Q := tA_jump mB_X11_act dX11_act_131 (fun _ _ _ _ => rfl) rfl
theorem rX11_act_134 : tA sc iX11_act 134 [l0, l1, l2, l3, l4, vI x] st h Q = tA sc iX11_act 136 [l0, l1, l2, l3, l4, vI x] (vI x :: st) h Q := tA_pure mB_X11_act dX11_act_134 rfl
theorem rX11_act_136 : tA sc iX11_act 136 ls [vI x] h Q = Q (some (vI x)) h := tA_ret mB_X11_act dX11_act_136 (fun _ _ _ _ => rfl) (fun _ _ _ => rfl) (fun _ _ _ _ _ => rfl) rfl rfl
theorem mB_X11_trace : mB iX11_trace = cX11_trace := rfl
theorem mO_X11_trace : mO iX11_trace = 11 := rfl
theorem rX11_trace_0 : tA sc iX11_trace 0 [l0, vI x] st h Q = tA sc iX11_trace 1 [l0, vI x] (vI x :: st) h Q := tA_pure mB_X11_trace dX11_trace_0 rfl
theorem rX11_trace_1 : tA sc iX11_trace 1 ls st h Q = tA sc iX11_trace 2 ls (vI (0) :: st) h Q := tA_pure mB_X11_trace dX11_trace_1 rfl
theorem rX11_trace_2 : tA sc iX11_trace 2 [vR r, l1] st h Q = tA sc iX11_trace 3 [vR r, l1] (vR r :: st) h Q := tA_pure mB_X11_trace dX11_trace_2 rfl
theorem rX11_trace_3 : tA sc iX11_trace 3 ls (vR (some o) :: st) h Q = oz (tget h o [11] 47) (fun v => tA sc iX11_trace 6 ls (v :: st) h Q) := tA_get mB_X11_trace mO_X11_trace dX11_trace_3 fT_11_362
theorem rX11_trace_6 : tA sc iX11_trace 6 ls st h Q = tA sc iX11_trace 7 ls (vI (1) :: st) h Q := tA_pure mB_X11_trace dX11_trace_6 rfl
theorem rX11_trace_7 : tA sc iX11_trace 7 ls (vI y :: vI x :: st) h Q = tA sc iX11_trace 8 ls (vI (x - y) :: st) h Q := tA_pure mB_X11_trace dX11_trace_7 rfl
theorem rX11_trace_8 : tA sc iX11_trace 8 ls [vI p2, vI p1, vI p0] h Q = tA sc iX11_in 0 [vI p0, vI p1, vI p2] [] h (fun v h1 => tA sc iX11_trace 11 ls (tpu v []) h1 Q) := tA_cS mB_X11_trace mO_X11_trace dX11_trace_8 cT_11_83 ⟨Nat.le_of_ble_eq_true rfl, Nat.le_of_ble_eq_true rfl⟩ rfl rfl rfl rfl
theorem rX11_trace_11 : tA sc iX11_trace 11 ls (vI x :: st) h Q = (if x = 0 then tA sc iX11_trace 23 ls st h Q else tA sc iX11_trace 14 ls st h Q) := tA_if mB_X11_trace dX11_trace_11 (fun _ _ _ _ => rfl) rfl
theorem rX11_trace_14 : tA sc iX11_trace 14 [vR r, l1] st h Q = tA sc iX11_trace 15 [vR r, l1] (vR r :: st) h Q := tA_pure mB_X11_trace dX11_trace_14 rfl
theorem rX11_trace_15 : tA sc iX11_trace 15 ls (vR (some o) :: st) h Q = oz (tget h o [11] 46) (fun v => tA sc iX11_trace 18 ls (v :: st) h Q) := tA_get mB_X11_trace mO_X11_trace dX11_trace_15 fT_11_74
theorem rX11_trace_18 : tA sc iX11_trace 18 [l0, vI x] st h Q = tA sc iX11_trace 19 [l0, vI x] (vI x :: st) h Q := tA_pure mB_X11_trace dX11_trace_18 rfl
theorem rX11_trace_19 : tA sc iX11_trace 19 ls (vI j :: vR (some a) :: st) h Q = oz (tald sc h 0 a j) (fun v => tA sc iX11_trace 20 ls (vI v :: st) h Q) := tA_iald mB_X11_trace dX11_trace_19
theorem rX11_trace_20 : tA sc iX11_trace 20 ls st h Q = tA sc iX11_trace 25 ls st h Q := tA_jump mB_X11_trace dX11_trace_20 (fun _ _ _ _ => rfl) rfl
theorem rX11_trace_23 : tA sc iX11_trace 23 ls st h Q = tA sc iX11_trace 25 ls (vI (-3) :: st) h Q := tA_pure mB_X11_trace dX11_trace_23 rfl
theorem rX11_trace_25 : tA sc iX11_trace 25 ls [vI x] h Q = Q (some (vI x)) h := tA_ret mB_X11_trace dX11_trace_25 (fun _ _ _ _ => rfl) (fun _ _ _ => rfl) (fun _ _ _ _ _ => rfl) rfl rfl
theorem mB_X11_many : mB iX11_many = cX11_many := rfl
theorem mO_X11_many : mO iX11_many = 11 := rfl
theorem rX11_many_0 : tA sc iX11_many 0 [l0, vI x] st h Q = tA sc iX11_many 1 [l0, vI x] (vI x :: st) h Q := tA_pure mB_X11_many dX11_many_0 rfl
theorem rX11_many_1 : tA sc iX11_many 1 ls (vI x :: st) h Q = tA sc iX11_many (tswp x 0 [40, 45, 52, 59, 64, 69] 74) ls st h Q := tA_sw mB_X11_many dX11_many_1 rfl rfl rfl
theorem rX11_many_40 : tA sc iX11_many 40 [vR r, l1] st h Q = tA sc iX11_many 41 [vR r, l1] (vR r :: st) h Q := tA_pure mB_X11_many dX11_many_40 rfl
theorem rX11_many_41 : tA sc iX11_many 41 ls (vR (some o) :: st) h Q = oz (tget h o [11] 4) (fun v => tA sc iX11_many 44 ls (v :: st) h Q) := tA_get mB_X11_many mO_X11_many dX11_many_41 fT_11_87
theorem rX11_many_44 : tA sc iX11_many 44 ls [vI x] h Q = Q (some (vI x)) h := tA_ret mB_X11_many dX11_many_44 (fun _ _ _ _ => rfl) (fun _ _ _ => rfl) (fun _ _ _ _ _ => rfl) rfl rfl
theorem rX11_many_45 : tA sc iX11_many 45 [vR r, l1] st h Q = tA sc iX11_many 46 [vR r, l1] (vR r :: st) h Q := tA_pure mB_X11_many dX11_many_45 rfl
theorem rX11_many_46 : tA sc iX11_many 46 ls (vR (some o) :: st) h Q = oz (tget h o [11] 0) (fun v => tA sc iX11_many 49 ls (v :: st) h Q) := tA_get mB_X11_many mO_X11_many dX11_many_46 fT_11_7
theorem rX11_many_49 : tA sc iX11_many 49 ls st h Q = tA sc iX11_many 50 ls (vI (2) :: st) h Q := tA_pure mB_X11_many dX11_many_49 rfl
theorem rX11_many_50 : tA sc iX11_many 50 ls (vI j :: vR (some a) :: st) h Q = oz (tald sc h 0 a j) (fun v => tA sc iX11_many 51 ls (vI v :: st) h Q) := tA_iald mB_X11_many dX11_many_50
theorem rX11_many_51 : tA sc iX11_many 51 ls [vI x] h Q = Q (some (vI x)) h := tA_ret mB_X11_many dX11_many_51 (fun _ _ _ _ => rfl) (fun _ _ _ => rfl) (fun _ _ _ _ _ => rfl) rfl rfl
theorem rX11_many_52 : tA sc iX11_many 52 [vR r, l1] st h Q = tA sc iX11_many 53 [vR r, l1] (vR r :: st) h Q := tA_pure mB_X11_many dX11_many_52 rfl
theorem rX11_many_53 : tA sc iX11_many 53 ls (vR (some o) :: st) h Q = oz (tget h o [11] 0) (fun v => tA sc iX11_many 56 ls (v :: st) h Q) := tA_get mB_X11_many mO_X11_many dX11_many_53 fT_11_7
theorem rX11_many_56 : tA sc iX11_many 56 ls st h Q = tA sc iX11_many 57 ls (vI (0) :: st) h Q := tA_pure mB_X11_many dX11_many_56 rfl
theorem rX11_many_57 : tA sc iX11_many 57 ls (vI j :: vR (some a) :: st) h Q = oz (tald sc h 0 a j) (fun v => tA sc iX11_many 58 ls (vI v :: st) h Q) := tA_iald mB_X11_many dX11_many_57
theorem rX11_many_58 : tA sc iX11_many 58 ls [vI x] h Q = Q (some (vI x)) h := tA_ret mB_X11_many dX11_many_58 (fun _ _ _ _ => rfl) (fun _ _ _ => rfl) (fun _ _ _ _ _ => rfl) rfl rfl
theorem rX11_many_59 : tA sc iX11_many 59 [vR r, l1] st h Q = tA sc iX11_many 60 [vR r, l1] (vR r :: st) h Q := tA_pure mB_X11_many dX11_many_59 rfl
theorem rX11_many_60 : tA sc iX11_many 60 ls (vR (some o) :: st) h Q = oz (tget h o [11] 35) (fun v => tA sc iX11_many 63 ls (v :: st) h Q) := tA_get mB_X11_many mO_X11_many dX11_many_60 fT_11_213
theorem rX11_many_63 : tA sc iX11_many 63 ls [vI x] h Q = Q (some (vI x)) h := tA_ret mB_X11_many dX11_many_63 (fun _ _ _ _ => rfl) (fun _ _ _ => rfl) (fun _ _ _ _ _ => rfl) rfl rfl
theorem rX11_many_64 : tA sc iX11_many 64 [vR r, l1] st h Q = tA sc iX11_many 65 [vR r, l1] (vR r :: st) h Q := tA_pure mB_X11_many dX11_many_64 rfl
theorem rX11_many_65 : tA sc iX11_many 65 ls (vR (some o) :: st) h Q = oz (tget h o [11] 9) (fun v => tA sc iX11_many 68 ls (v :: st) h Q) := tA_get mB_X11_many mO_X11_many dX11_many_65 fT_11_94
theorem rX11_many_68 : tA sc iX11_many 68 ls [vI x] h Q = Q (some (vI x)) h := tA_ret mB_X11_many dX11_many_68 (fun _ _ _ _ => rfl) (fun _ _ _ => rfl) (fun _ _ _ _ _ => rfl) rfl rfl
theorem rX11_many_69 : tA sc iX11_many 69 [vR r, l1] st h Q = tA sc iX11_many 70 [vR r, l1] (vR r :: st) h Q := tA_pure mB_X11_many dX11_many_69 rfl
theorem rX11_many_70 : tA sc iX11_many 70 ls (vR (some o) :: st) h Q = oz (tget h o [11] 47) (fun v => tA sc iX11_many 73 ls (v :: st) h Q) := tA_get mB_X11_many mO_X11_many dX11_many_70 fT_11_362
theorem rX11_many_73 : tA sc iX11_many 73 ls [vI x] h Q = Q (some (vI x)) h := tA_ret mB_X11_many dX11_many_73 (fun _ _ _ _ => rfl) (fun _ _ _ => rfl) (fun _ _ _ _ _ => rfl) rfl rfl
theorem rX11_many_74 : tA sc iX11_many 74 ls st h Q = tA sc iX11_many 75 ls (vI (-1) :: st) h Q := tA_pure mB_X11_many dX11_many_74 rfl
theorem rX11_many_75 : tA sc iX11_many 75 ls [vI x] h Q = Q (some (vI x)) h := tA_ret mB_X11_many dX11_many_75 (fun _ _ _ _ => rfl) (fun _ _ _ => rfl) (fun _ _ _ _ _ => rfl) rfl rfl
theorem mB_X11_moveRow : mB iX11_moveRow = cX11_moveRow := rfl
theorem mO_X11_moveRow : mO iX11_moveRow = 11 := rfl
theorem rX11_moveRow_0 : tA sc iX11_moveRow 0 ls st h Q = tA sc iX11_moveRow 1 ls (vI (0) :: st) h Q := tA_pure mB_X11_moveRow dX11_moveRow_0 rfl
theorem rX11_moveRow_1 : tA sc iX11_moveRow 1 [l0, l1, l2, l3, l4] (vI x :: st) h Q = tA sc iX11_moveRow 3 [l0, l1, l2, tclr l3, vI x] st h Q := tA_pure mB_X11_moveRow dX11_moveRow_1 rfl
theorem rX11_moveRow_3 : tA sc iX11_moveRow 3 [l0, l1, l2, l3, vI x] st h Q = tA sc iX11_moveRow 5 [l0, l1, l2, l3, vI x] (vI x :: st) h Q := tA_pure mB_X11_moveRow dX11_moveRow_3 rfl
theorem rX11_moveRow_5 : tA sc iX11_moveRow 5 [l0, l1, vI x, l3, l4] st h Q = tA sc iX11_moveRow 6 [l0, l1, vI x, l3, l4] (vI x :: st) h Q := tA_pure mB_X11_moveRow dX11_moveRow_5 rfl
theorem rX11_moveRow_6 : tA sc iX11_moveRow 6 ls (vI y :: vI x :: st) h Q = (if y ≤ x then tA sc iX11_moveRow 58 ls st h Q else tA sc iX11_moveRow 9 ls st h Q) := tA_if mB_X11_moveRow dX11_moveRow_6 (fun _ _ _ _ => rfl) rfl
theorem rX11_moveRow_9 : tA sc iX11_moveRow 9 [l0, l1, l2, vI x, l4] st h Q = tA sc iX11_moveRow 10 [l0, l1, l2, vI x, l4] (vI x :: st) h Q := tA_pure mB_X11_moveRow dX11_moveRow_9 rfl
theorem rX11_moveRow_10 : tA sc iX11_moveRow 10 ls (vI x :: st) h Q = (if x = 0 then tA sc iX11_moveRow 29 ls st h Q else tA sc iX11_moveRow 13 ls st h Q) := tA_if mB_X11_moveRow dX11_moveRow_10 (fun _ _ _ _ => rfl) rfl
theorem rX11_moveRow_13 : tA sc iX11_moveRow 13 [vR r, l1, l2, l3, l4] st h Q = tA sc iX11_moveRow 14 [vR r, l1, l2, l3, l4] (vR r :: st) h Q := tA_pure mB_X11_moveRow dX11_moveRow_13 rfl
theorem rX11_moveRow_14 : tA sc iX11_moveRow 14 ls (vR (some o) :: st) h Q = oz (tget h o [11] 50) (fun v => tA sc iX11_moveRow 17 ls (v :: st) h Q) := tA_get mB_X11_moveRow mO_X11_moveRow dX11_moveRow_14 fT_11_77
theorem rX11_moveRow_17 : tA sc iX11_moveRow 17 [vR r, l1, l2, l3, l4] st h Q = tA sc iX11_moveRow 18 [vR r, l1, l2, l3, l4] (vR r :: st) h Q := tA_pure mB_X11_moveRow dX11_moveRow_17 rfl
theorem rX11_moveRow_18 : tA sc iX11_moveRow 18 ls (vR (some o) :: st) h Q = oz (tget h o [11] 51) (fun v => tA sc iX11_moveRow 21 ls (v :: st) h Q) := tA_get mB_X11_moveRow mO_X11_moveRow dX11_moveRow_18 fT_11_407
theorem rX11_moveRow_21 : tA sc iX11_moveRow 21 [l0, vR r, l2, l3, l4] st h Q = tA sc iX11_moveRow 22 [l0, vR r, l2, l3, l4] (vR r :: st) h Q := tA_pure mB_X11_moveRow dX11_moveRow_21 rfl
theorem rX11_moveRow_22 : tA sc iX11_moveRow 22 [l0, l1, l2, l3, vI x] st h Q = tA sc iX11_moveRow 24 [l0, l1, l2, l3, vI x] (vI x :: st) h Q := tA_pure mB_X11_moveRow dX11_moveRow_22 rfl
theorem rX11_moveRow_24 : tA sc iX11_moveRow 24 ls (vI j :: vR (some a) :: st) h Q = oz (tald sc h 0 a j) (fun v => tA sc iX11_moveRow 25 ls (vI v :: st) h Q) := tA_iald mB_X11_moveRow dX11_moveRow_24
theorem rX11_moveRow_25 : tA sc iX11_moveRow 25 ls (vI x :: vI j :: vR (some a) :: st) h Q = oz (tasi h a j x) (fun h' => tA sc iX11_moveRow 26 ls st h' Q) := tA_iast mB_X11_moveRow dX11_moveRow_25
theorem rX11_moveRow_26 : tA sc iX11_moveRow 26 ls st h Q = tA sc iX11_moveRow 42 ls st h Q := tA_jump mB_X11_moveRow dX11_moveRow_26 (fun _ _ _ _ => rfl) rfl
theorem rX11_moveRow_29 : tA sc iX11_moveRow 29 [l0, vR r, l2, l3, l4] st h Q = tA sc iX11_moveRow 30 [l0, vR r, l2, l3, l4] (vR r :: st) h Q := tA_pure mB_X11_moveRow dX11_moveRow_29 rfl
theorem rX11_moveRow_30 : tA sc iX11_moveRow 30 [l0, l1, l2, l3, vI x] st h Q = tA sc iX11_moveRow 32 [l0, l1, l2, l3, vI x] (vI x :: st) h Q := tA_pure mB_X11_moveRow dX11_moveRow_30 rfl
theorem rX11_moveRow_32 : tA sc iX11_moveRow 32 [vR r, l1, l2, l3, l4] st h Q = tA sc iX11_moveRow 33 [vR r, l1, l2, l3, l4] (vR r :: st) h Q := tA_pure mB_X11_moveRow dX11_moveRow_32 rfl
theorem rX11_moveRow_33 : tA sc iX11_moveRow 33 ls (vR (some o) :: st) h Q = oz (tget h o [11] 50) (fun v => tA sc iX11_moveRow 36 ls (v :: st) h Q) := tA_get mB_X11_moveRow mO_X11_moveRow dX11_moveRow_33 fT_11_77
theorem rX11_moveRow_36 : tA sc iX11_moveRow 36 [vR r, l1, l2, l3, l4] st h Q = tA sc iX11_moveRow 37 [vR r, l1, l2, l3, l4] (vR r :: st) h Q := tA_pure mB_X11_moveRow dX11_moveRow_36 rfl
theorem rX11_moveRow_37 : tA sc iX11_moveRow 37 ls (vR (some o) :: st) h Q = oz (tget h o [11] 51) (fun v => tA sc iX11_moveRow 40 ls (v :: st) h Q) := tA_get mB_X11_moveRow mO_X11_moveRow dX11_moveRow_37 fT_11_407
theorem rX11_moveRow_40 : tA sc iX11_moveRow 40 ls (vI j :: vR (some a) :: st) h Q = oz (tald sc h 0 a j) (fun v => tA sc iX11_moveRow 41 ls (vI v :: st) h Q) := tA_iald mB_X11_moveRow dX11_moveRow_40
theorem rX11_moveRow_41 : tA sc iX11_moveRow 41 ls (vI x :: vI j :: vR (some a) :: st) h Q = oz (tasi h a j x) (fun h' => tA sc iX11_moveRow 42 ls st h' Q) := tA_iast mB_X11_moveRow dX11_moveRow_41
theorem rX11_moveRow_42 : tA sc iX11_moveRow 42 [vR r, l1, l2, l3, l4] st h Q = tA sc iX11_moveRow 43 [vR r, l1, l2, l3, l4] (vR r :: st) h Q := tA_pure mB_X11_moveRow dX11_moveRow_42 rfl
theorem rX11_moveRow_43 : tA sc iX11_moveRow 43 ls (vR r :: st) h Q = tA sc iX11_moveRow 44 ls (vR r :: vR r :: st) h Q := tA_pure mB_X11_moveRow dX11_moveRow_43 rfl
theorem rX11_moveRow_44 : tA sc iX11_moveRow 44 ls (vR (some o) :: st) h Q = oz (tget h o [11] 51) (fun v => tA sc iX11_moveRow 47 ls (v :: st) h Q) := tA_get mB_X11_moveRow mO_X11_moveRow dX11_moveRow_44 fT_11_407
theorem rX11_moveRow_47 : tA sc iX11_moveRow 47 ls st h Q = tA sc iX11_moveRow 48 ls (vI (1) :: st) h Q := tA_pure mB_X11_moveRow dX11_moveRow_47 rfl
theorem rX11_moveRow_48 : tA sc iX11_moveRow 48 ls (vI y :: vI x :: st) h Q = tA sc iX11_moveRow 49 ls (vI (x + y) :: st) h Q := tA_pure mB_X11_moveRow dX11_moveRow_48 rfl
theorem rX11_moveRow_49 : tA sc iX11_moveRow 49 ls (v :: vR (some o) :: st) h Q = oz (tput h o [11] 51 0 v) (fun h' => tA sc iX11_moveRow 52 ls st h' Q) := tA_put mB_X11_moveRow mO_X11_moveRow dX11_moveRow_49 fT_11_407 (Or.inl (by decide))
theorem rX11_moveRow_52 : tA sc iX11_moveRow 52 [l0, l1, l2, l3, vI x] st h Q = tA sc iX11_moveRow 55 [l0, l1, l2, tclr l3, vI (x + 1)] st h Q := tA_pure mB_X11_moveRow dX11_moveRow_52 rfl
theorem rX11_moveRow_55 : tA sc iX11_moveRow 55 ls st h Q = tA sc iX11_moveRow 3 ls st h Q := tA_jump mB_X11_moveRow dX11_moveRow_55 (fun _ _ _ _ => rfl) rfl
theorem rX11_moveRow_58 : tA sc iX11_moveRow 58 ls [] h Q = Q (none) h := tA_ret mB_X11_moveRow dX11_moveRow_58 (fun _ _ _ _ => rfl) (fun _ _ _ => rfl) (fun _ _ _ _ _ => rfl) rfl rfl
theorem mB_X11_moveAll : mB iX11_moveAll = cX11_moveAll := rfl
theorem mO_X11_moveAll : mO iX11_moveAll = 11 := rfl
theorem rX11_moveAll_0 : tA sc iX11_moveAll 0 [vR r, l1] st h Q = tA sc iX11_moveAll 1 [vR r, l1] (vR r :: st) h Q := tA_pure mB_X11_moveAll dX11_moveAll_0 rfl
theorem rX11_moveAll_1 : tA sc iX11_moveAll 1 ls st h Q = tA sc iX11_moveAll 2 ls (vI (0) :: st) h Q := tA_pure mB_X11_moveAll dX11_moveAll_1 rfl
theorem rX11_moveAll_2 : tA sc iX11_moveAll 2 ls (v :: vR (some o) :: st) h Q = oz (tput h o [11] 51 0 v) (fun h' => tA sc iX11_moveAll 5 ls st h' Q) := tA_put mB_X11_moveAll mO_X11_moveAll dX11_moveAll_2 fT_11_407 (Or.inl (by decide))
theorem rX11_moveAll_5 : tA sc iX11_moveAll 5 [vR r, l1] st h Q = tA sc iX11_moveAll 6 [vR r, l1] (vR r :: st) h Q := tA_pure mB_X11_moveAll dX11_moveAll_5 rfl
theorem rX11_moveAll_6 : tA sc iX11_moveAll 6 ls (vR (some o) :: st) h Q = oz (tget h o [11] 52) (fun v => tA sc iX11_moveAll 9 ls (v :: st) h Q) := tA_get mB_X11_moveAll mO_X11_moveAll dX11_moveAll_6 fT_11_80
theorem rX11_moveAll_9 : tA sc iX11_moveAll 9 ls st h Q = tA sc iX11_moveAll 10 ls (vI (0) :: st) h Q := tA_pure mB_X11_moveAll dX11_moveAll_9 rfl
theorem rX11_moveAll_10 : tA sc iX11_moveAll 10 [vR r, l1] st h Q = tA sc iX11_moveAll 11 [vR r, l1] (vR r :: st) h Q := tA_pure mB_X11_moveAll dX11_moveAll_10 rfl
theorem rX11_moveAll_11 : tA sc iX11_moveAll 11 ls (vR (some o) :: st) h Q = oz (tget h o [11] 4) (fun v => tA sc iX11_moveAll 14 ls (v :: st) h Q) := tA_get mB_X11_moveAll mO_X11_moveAll dX11_moveAll_11 fT_11_87
theorem rX11_moveAll_14 : tA sc iX11_moveAll 14 ls (vI x :: vI j :: vR (some a) :: st) h Q = oz (tasi h a j x) (fun h' => tA sc iX11_moveAll 15 ls st h' Q) := tA_iast mB_X11_moveAll dX11_moveAll_14
theorem rX11_moveAll_15 : tA sc iX11_moveAll 15 [vR r, l1] st h Q = tA sc iX11_moveAll 16 [vR r, l1] (vR r :: st) h Q := tA_pure mB_X11_moveAll dX11_moveAll_15 rfl
theorem rX11_moveAll_16 : tA sc iX11_moveAll 16 [vR r, l1] st h Q = tA sc iX11_moveAll 17 [vR r, l1] (vR r :: st) h Q := tA_pure mB_X11_moveAll dX11_moveAll_16 rfl
theorem rX11_moveAll_17 : tA sc iX11_moveAll 17 ls (vR (some o) :: st) h Q = oz (tget h o [11] 52) (fun v => tA sc iX11_moveAll 20 ls (v :: st) h Q) := tA_get mB_X11_moveAll mO_X11_moveAll dX11_moveAll_17 fT_11_80
theorem rX11_moveAll_20 : tA sc iX11_moveAll 20 ls st h Q = tA sc iX11_moveAll 21 ls (vI (1) :: st) h Q := tA_pure mB_X11_moveAll dX11_moveAll_20 rfl
theorem rX11_moveAll_21 : tA sc iX11_moveAll 21 [l0, vI x] st h Q = tA sc iX11_moveAll 22 [l0, vI x] (vI x :: st) h Q := tA_pure mB_X11_moveAll dX11_moveAll_21 rfl
theorem rX11_moveAll_22 (hci : tcl h o = some 11) : tA sc iX11_moveAll 22 ls [vI p2, vI p1, vR n0, vR (some o)] h Q = tA sc iX11_moveRow 0 [vR (some o), vR n0, vI p1, vI p2, vU] [] h (fun v h1 => tA sc iX11_moveAll 25 ls (tpu v []) h1 Q) := tA_cV mB_X11_moveAll mO_X11_moveAll dX11_moveAll_22 cT_11_410 rfl (Nat.le_of_ble_eq_true rfl) rfl rfl rfl hci
theorem rX11_moveAll_25 : tA sc iX11_moveAll 25 [vR r, l1] st h Q = tA sc iX11_moveAll 26 [vR r, l1] (vR r :: st) h Q := tA_pure mB_X11_moveAll dX11_moveAll_25 rfl
theorem rX11_moveAll_26 : tA sc iX11_moveAll 26 [vR r, l1] st h Q = tA sc iX11_moveAll 27 [vR r, l1] (vR r :: st) h Q := tA_pure mB_X11_moveAll dX11_moveAll_26 rfl
theorem rX11_moveAll_27 : tA sc iX11_moveAll 27 ls (vR (some o) :: st) h Q = oz (tget h o [11] 0) (fun v => tA sc iX11_moveAll 30 ls (v :: st) h Q) := tA_get mB_X11_moveAll mO_X11_moveAll dX11_moveAll_27 fT_11_7
theorem rX11_moveAll_30 : tA sc iX11_moveAll 30 ls st h Q = tA sc iX11_moveAll 33 ls (vI (168) :: st) h Q := tA_pure mB_X11_moveAll dX11_moveAll_30 rfl
theorem rX11_moveAll_33 : tA sc iX11_moveAll 33 [l0, vI x] st h Q = tA sc iX11_moveAll 34 [l0, vI x] (vI x :: st) h Q := tA_pure mB_X11_moveAll dX11_moveAll_33 rfl
theorem rX11_moveAll_34 (hci : tcl h o = some 11) : tA sc iX11_moveAll 34 ls [vI p2, vI p1, vR n0, vR (some o)] h Q = tA sc iX11_moveRow 0 [vR (some o), vR n0, vI p1, vI p2, vU] [] h (fun v h1 => tA sc iX11_moveAll 37 ls (tpu v []) h1 Q) := tA_cV mB_X11_moveAll mO_X11_moveAll dX11_moveAll_34 cT_11_410 rfl (Nat.le_of_ble_eq_true rfl) rfl rfl rfl hci
theorem rX11_moveAll_37 : tA sc iX11_moveAll 37 [vR r, l1] st h Q = tA sc iX11_moveAll 38 [vR r, l1] (vR r :: st) h Q := tA_pure mB_X11_moveAll dX11_moveAll_37 rfl
theorem rX11_moveAll_38 : tA sc iX11_moveAll 38 [vR r, l1] st h Q = tA sc iX11_moveAll 39 [vR r, l1] (vR r :: st) h Q := tA_pure mB_X11_moveAll dX11_moveAll_38 rfl
theorem rX11_moveAll_39 : tA sc iX11_moveAll 39 ls (vR (some o) :: st) h Q = oz (tget h o [11] 2) (fun v => tA sc iX11_moveAll 42 ls (v :: st) h Q) := tA_get mB_X11_moveAll mO_X11_moveAll dX11_moveAll_39 fT_11_13
theorem rX11_moveAll_42 : tA sc iX11_moveAll 42 ls st h Q = tA sc iX11_moveAll 44 ls (vI (20) :: st) h Q := tA_pure mB_X11_moveAll dX11_moveAll_42 rfl
theorem rX11_moveAll_44 : tA sc iX11_moveAll 44 [l0, vI x] st h Q = tA sc iX11_moveAll 45 [l0, vI x] (vI x :: st) h Q := tA_pure mB_X11_moveAll dX11_moveAll_44 rfl
theorem rX11_moveAll_45 (hci : tcl h o = some 11) : tA sc iX11_moveAll 45 ls [vI p2, vI p1, vR n0, vR (some o)] h Q = tA sc iX11_moveRow 0 [vR (some o), vR n0, vI p1, vI p2, vU] [] h (fun v h1 => tA sc iX11_moveAll 48 ls (tpu v []) h1 Q) := tA_cV mB_X11_moveAll mO_X11_moveAll dX11_moveAll_45 cT_11_410 rfl (Nat.le_of_ble_eq_true rfl) rfl rfl rfl hci
theorem rX11_moveAll_48 : tA sc iX11_moveAll 48 [vR r, l1] st h Q = tA sc iX11_moveAll 49 [vR r, l1] (vR r :: st) h Q := tA_pure mB_X11_moveAll dX11_moveAll_48 rfl
theorem rX11_moveAll_49 : tA sc iX11_moveAll 49 [vR r, l1] st h Q = tA sc iX11_moveAll 50 [vR r, l1] (vR r :: st) h Q := tA_pure mB_X11_moveAll dX11_moveAll_49 rfl
theorem rX11_moveAll_50 : tA sc iX11_moveAll 50 ls (vR (some o) :: st) h Q = oz (tget h o [11] 3) (fun v => tA sc iX11_moveAll 53 ls (v :: st) h Q) := tA_get mB_X11_moveAll mO_X11_moveAll dX11_moveAll_50 fT_11_16
theorem rX11_moveAll_53 : tA sc iX11_moveAll 53 ls st h Q = tA sc iX11_moveAll 55 ls (vI (80) :: st) h Q := tA_pure mB_X11_moveAll dX11_moveAll_53 rfl
theorem rX11_moveAll_55 : tA sc iX11_moveAll 55 [l0, vI x] st h Q = tA sc iX11_moveAll 56 [l0, vI x] (vI x :: st) h Q := tA_pure mB_X11_moveAll dX11_moveAll_55 rfl
theorem rX11_moveAll_56 (hci : tcl h o = some 11) : tA sc iX11_moveAll 56 ls [vI p2, vI p1, vR n0, vR (some o)] h Q = tA sc iX11_moveRow 0 [vR (some o), vR n0, vI p1, vI p2, vU] [] h (fun v h1 => tA sc iX11_moveAll 59 ls (tpu v []) h1 Q) := tA_cV mB_X11_moveAll mO_X11_moveAll dX11_moveAll_56 cT_11_410 rfl (Nat.le_of_ble_eq_true rfl) rfl rfl rfl hci
theorem rX11_moveAll_59 : tA sc iX11_moveAll 59 [vR r, l1] st h Q = tA sc iX11_moveAll 60 [vR r, l1] (vR r :: st) h Q := tA_pure mB_X11_moveAll dX11_moveAll_59 rfl
theorem rX11_moveAll_60 : tA sc iX11_moveAll 60 [vR r, l1] st h Q = tA sc iX11_moveAll 61 [vR r, l1] (vR r :: st) h Q := tA_pure mB_X11_moveAll dX11_moveAll_60 rfl
theorem rX11_moveAll_61 : tA sc iX11_moveAll 61 ls (vR (some o) :: st) h Q = oz (tget h o [11] 5) (fun v => tA sc iX11_moveAll 64 ls (v :: st) h Q) := tA_get mB_X11_moveAll mO_X11_moveAll dX11_moveAll_61 fT_11_19
theorem rX11_moveAll_64 : tA sc iX11_moveAll 64 ls st h Q = tA sc iX11_moveAll 66 ls (vI (10) :: st) h Q := tA_pure mB_X11_moveAll dX11_moveAll_64 rfl
theorem rX11_moveAll_66 : tA sc iX11_moveAll 66 [l0, vI x] st h Q = tA sc iX11_moveAll 67 [l0, vI x] (vI x :: st) h Q := tA_pure mB_X11_moveAll dX11_moveAll_66 rfl
theorem rX11_moveAll_67 (hci : tcl h o = some 11) : tA sc iX11_moveAll 67 ls [vI p2, vI p1, vR n0, vR (some o)] h Q = tA sc iX11_moveRow 0 [vR (some o), vR n0, vI p1, vI p2, vU] [] h (fun v h1 => tA sc iX11_moveAll 70 ls (tpu v []) h1 Q) := tA_cV mB_X11_moveAll mO_X11_moveAll dX11_moveAll_67 cT_11_410 rfl (Nat.le_of_ble_eq_true rfl) rfl rfl rfl hci
theorem rX11_moveAll_70 : tA sc iX11_moveAll 70 [vR r, l1] st h Q = tA sc iX11_moveAll 71 [vR r, l1] (vR r :: st) h Q := tA_pure mB_X11_moveAll dX11_moveAll_70 rfl
theorem rX11_moveAll_71 : tA sc iX11_moveAll 71 [vR r, l1] st h Q = tA sc iX11_moveAll 72 [vR r, l1] (vR r :: st) h Q := tA_pure mB_X11_moveAll dX11_moveAll_71 rfl
theorem rX11_moveAll_72 : tA sc iX11_moveAll 72 ls (vR (some o) :: st) h Q = oz (tget h o [11] 6) (fun v => tA sc iX11_moveAll 75 ls (v :: st) h Q) := tA_get mB_X11_moveAll mO_X11_moveAll dX11_moveAll_72 fT_11_22
theorem rX11_moveAll_75 : tA sc iX11_moveAll 75 ls st h Q = tA sc iX11_moveAll 76 ls (vI (4) :: st) h Q := tA_pure mB_X11_moveAll dX11_moveAll_75 rfl
theorem rX11_moveAll_76 : tA sc iX11_moveAll 76 [l0, vI x] st h Q = tA sc iX11_moveAll 77 [l0, vI x] (vI x :: st) h Q := tA_pure mB_X11_moveAll dX11_moveAll_76 rfl
theorem rX11_moveAll_77 (hci : tcl h o = some 11) : tA sc iX11_moveAll 77 ls [vI p2, vI p1, vR n0, vR (some o)] h Q = tA sc iX11_moveRow 0 [vR (some o), vR n0, vI p1, vI p2, vU] [] h (fun v h1 => tA sc iX11_moveAll 80 ls (tpu v []) h1 Q) := tA_cV mB_X11_moveAll mO_X11_moveAll dX11_moveAll_77 cT_11_410 rfl (Nat.le_of_ble_eq_true rfl) rfl rfl rfl hci
theorem rX11_moveAll_80 : tA sc iX11_moveAll 80 ls [] h Q = Q (none) h := tA_ret mB_X11_moveAll dX11_moveAll_80 (fun _ _ _ _ => rfl) (fun _ _ _ => rfl) (fun _ _ _ _ _ => rfl) rfl rfl
theorem mB_X11_keep : mB iX11_keep = cX11_keep := rfl
theorem mO_X11_keep : mO iX11_keep = 11 := rfl
theorem rX11_keep_0 : tA sc iX11_keep 0 [vR r] st h Q = tA sc iX11_keep 1 [vR r] (vR r :: st) h Q := tA_pure mB_X11_keep dX11_keep_0 rfl
theorem rX11_keep_1 : tA sc iX11_keep 1 ls st h Q = tA sc iX11_keep 2 ls (vI (1) :: st) h Q := tA_pure mB_X11_keep dX11_keep_1 rfl
theorem rX11_keep_2 (hci : tcl h o = some 11) : tA sc iX11_keep 2 ls [vI p0, vR (some o)] h Q = tA sc iX11_moveAll 0 [vR (some o), vI p0] [] h (fun v h1 => tA sc iX11_keep 5 ls (tpu v []) h1 Q) := tA_cV mB_X11_keep mO_X11_keep dX11_keep_2 cT_11_414 rfl (Nat.le_of_ble_eq_true rfl) rfl rfl rfl hci
theorem rX11_keep_5 : tA sc iX11_keep 5 [vR r] st h Q = tA sc iX11_keep 6 [vR r] (vR r :: st) h Q := tA_pure mB_X11_keep dX11_keep_5 rfl
theorem rX11_keep_6 : tA sc iX11_keep 6 ls st h Q = tA sc iX11_keep 7 ls (vI (1) :: st) h Q := tA_pure mB_X11_keep dX11_keep_6 rfl
theorem rX11_keep_7 : tA sc iX11_keep 7 ls (v :: vR (some o) :: st) h Q = oz (tput h o [11] 49 1 v) (fun h' => tA sc iX11_keep 10 ls st h' Q) := tA_put mB_X11_keep mO_X11_keep dX11_keep_7 fT_11_418 (Or.inl (by decide))
theorem rX11_keep_10 : tA sc iX11_keep 10 ls st h Q = tA sc iX11_keep 11 ls (vI (1) :: st) h Q := tA_pure mB_X11_keep dX11_keep_10 rfl
theorem rX11_keep_11 : tA sc iX11_keep 11 ls [vI x] h Q = Q (some (vI x)) h := tA_ret mB_X11_keep dX11_keep_11 (fun _ _ _ _ => rfl) (fun _ _ _ => rfl) (fun _ _ _ _ _ => rfl) rfl rfl
theorem mB_X11_again : mB iX11_again = cX11_again := rfl
theorem mO_X11_again : mO iX11_again = 11 := rfl
theorem rX11_again_0 : tA sc iX11_again 0 [vR r] st h Q = tA sc iX11_again 1 [vR r] (vR r :: st) h Q := tA_pure mB_X11_again dX11_again_0 rfl
theorem rX11_again_1 : tA sc iX11_again 1 ls (vR (some o) :: st) h Q = oz (tget h o [11] 49) (fun v => tA sc iX11_again 4 ls (v :: st) h Q) := tA_get mB_X11_again mO_X11_again dX11_again_1 fT_11_418
theorem rX11_again_4 : tA sc iX11_again 4 ls (vI x :: st) h Q = (if ¬ x = 0 then tA sc iX11_again 10 ls st h Q else tA sc iX11_again 7 ls st h Q) := tA_if mB_X11_again dX11_again_4 (fun _ _ _ _ => rfl) rfl
theorem rX11_again_7 : tA sc iX11_again 7 ls st h Q = tA sc iX11_again 9 ls (vI (-3) :: st) h Q := tA_pure mB_X11_again dX11_again_7 rfl
theorem rX11_again_9 : tA sc iX11_again 9 ls [vI x] h Q = Q (some (vI x)) h := tA_ret mB_X11_again dX11_again_9 (fun _ _ _ _ => rfl) (fun _ _ _ => rfl) (fun _ _ _ _ _ => rfl) rfl rfl
theorem rX11_again_10 : tA sc iX11_again 10 [vR r] st h Q = tA sc iX11_again 11 [vR r] (vR r :: st) h Q := tA_pure mB_X11_again dX11_again_10 rfl
theorem rX11_again_11 : tA sc iX11_again 11 ls st h Q = tA sc iX11_again 12 ls (vI (0) :: st) h Q := tA_pure mB_X11_again dX11_again_11 rfl
theorem rX11_again_12 (hci : tcl h o = some 11) : tA sc iX11_again 12 ls [vI p0, vR (some o)] h Q = tA sc iX11_moveAll 0 [vR (some o), vI p0] [] h (fun v h1 => tA sc iX11_again 15 ls (tpu v []) h1 Q) := tA_cV mB_X11_again mO_X11_again dX11_again_12 cT_11_414 rfl (Nat.le_of_ble_eq_true rfl) rfl rfl rfl hci
theorem rX11_again_15 : tA sc iX11_again 15 [vR r] st h Q = tA sc iX11_again 16 [vR r] (vR r :: st) h Q := tA_pure mB_X11_again dX11_again_15 rfl
theorem rX11_again_16 : tA sc iX11_again 16 [vR r] st h Q = tA sc iX11_again 17 [vR r] (vR r :: st) h Q := tA_pure mB_X11_again dX11_again_16 rfl
theorem rX11_again_17 : tA sc iX11_again 17 ls (vR (some o) :: st) h Q = oz (tget h o [11] 52) (fun v => tA sc iX11_again 20 ls (v :: st) h Q) := tA_get mB_X11_again mO_X11_again dX11_again_17 fT_11_80
theorem rX11_again_20 : tA sc iX11_again 20 ls st h Q = tA sc iX11_again 21 ls (vI (0) :: st) h Q := tA_pure mB_X11_again dX11_again_20 rfl
theorem rX11_again_21 : tA sc iX11_again 21 ls (vI j :: vR (some a) :: st) h Q = oz (tald sc h 0 a j) (fun v => tA sc iX11_again 22 ls (vI v :: st) h Q) := tA_iald mB_X11_again dX11_again_21
theorem rX11_again_22 : tA sc iX11_again 22 ls (v :: vR (some o) :: st) h Q = oz (tput h o [11] 4 0 v) (fun h' => tA sc iX11_again 25 ls st h' Q) := tA_put mB_X11_again mO_X11_again dX11_again_22 fT_11_87 (Or.inl (by decide))
theorem rX11_again_25 : tA sc iX11_again 25 [vR r] st h Q = tA sc iX11_again 26 [vR r] (vR r :: st) h Q := tA_pure mB_X11_again dX11_again_25 rfl
theorem rX11_again_26 : tA sc iX11_again 26 ls (vR (some o) :: st) h Q = oz (tget h o [11] 0) (fun v => tA sc iX11_again 29 ls (v :: st) h Q) := tA_get mB_X11_again mO_X11_again dX11_again_26 fT_11_7
theorem rX11_again_29 : tA sc iX11_again 29 ls st h Q = tA sc iX11_again 30 ls (vI (0) :: st) h Q := tA_pure mB_X11_again dX11_again_29 rfl
theorem rX11_again_30 : tA sc iX11_again 30 ls (vI j :: vR (some a) :: st) h Q = oz (tald sc h 0 a j) (fun v => tA sc iX11_again 31 ls (vI v :: st) h Q) := tA_iald mB_X11_again dX11_again_30
theorem rX11_again_31 : tA sc iX11_again 31 ls [vI x] h Q = Q (some (vI x)) h := tA_ret mB_X11_again dX11_again_31 (fun _ _ _ _ => rfl) (fun _ _ _ => rfl) (fun _ _ _ _ _ => rfl) rfl rfl
end S17
