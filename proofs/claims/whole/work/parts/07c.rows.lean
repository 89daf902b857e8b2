/-! instructions, by program (wip/whole/gen_rows.py) -/
section S17
variable {sc : Nat × (Nat → Int32)} {h : TH} {Q : Option TV → TH → Prop} {st ls : List TV} {l0 l1 l2 l3 l4 l5 l6 l7 l8 l9 l10 l11 l12 l13 l14 : TV} {x y j : Int32} {u w : Int64} {o a : Nat} {r : Option Nat} {v s0 s1 s2 s3 : TV} {p0 p1 p2 p3 p4 : Int32} {q0 q1 q2 q3 : Int64} {n0 n1 n2 n3 : Option Nat}

theorem mB_X1_init : mB iX1_init = cX1_init := rfl
theorem mO_X1_init : mO iX1_init = 1 := rfl
theorem rX1_init_0 : tA sc iX1_init 0 [vR r] st h Q = tA sc iX1_init 1 [vR r] (vR r :: st) h Q := tA_pure mB_X1_init dX1_init_0 rfl
theorem rX1_init_1 : tA sc iX1_init 1 ls [vR (some o)] h Q = tA sc iX1_init 4 ls [] h Q := tA_cN mB_X1_init mO_X1_init dX1_init_1 (fun _ _ _ _ => rfl) (fun _ _ _ => rfl) (fun _ _ _ _ _ => rfl) rfl cT_1_3 rfl rfl
theorem rX1_init_4 : tA sc iX1_init 4 [vR r] st h Q = tA sc iX1_init 5 [vR r] (vR r :: st) h Q := tA_pure mB_X1_init dX1_init_4 rfl
theorem rX1_init_5 : tA sc iX1_init 5 ls st h Q = tA sc iX1_init 8 ls (vI (240) :: st) h Q := tA_pure mB_X1_init dX1_init_5 rfl
theorem rX1_init_8 : tA sc iX1_init 8 ls (vI x :: st) h Q = oz (tna h 1 x) (fun h' => tA sc iX1_init 10 ls (vR (some h.2.1) :: st) h' Q) := (tA_hp mB_X1_init dX1_init_8 (fun _ _ _ _ => rfl) (fun _ _ _ => rfl) rfl (fun _ _ => rfl) rfl).trans (oz_map _ _ _)
theorem rX1_init_10 : tA sc iX1_init 10 ls (v :: vR (some o) :: st) h Q = oz (tput h o [1] 0 3 v) (fun h' => tA sc iX1_init 13 ls st h' Q) := tA_put mB_X1_init mO_X1_init dX1_init_10 fT_1_9 (Or.inr ⟨by decide, rfl⟩)
theorem rX1_init_13 : tA sc iX1_init 13 ls [] h Q = Q (none) h := tA_ret mB_X1_init dX1_init_13 (fun _ _ _ _ => rfl) (fun _ _ _ => rfl) (fun _ _ _ _ _ => rfl) rfl rfl
theorem mB_X1_addByte : mB iX1_addByte = cX1_addByte := rfl
theorem mO_X1_addByte : mO iX1_addByte = 1 := rfl
theorem rX1_addByte_0 : tA sc iX1_addByte 0 [vR r, l1] st h Q = tA sc iX1_addByte 1 [vR r, l1] (vR r :: st) h Q := tA_pure mB_X1_addByte dX1_addByte_0 rfl
theorem rX1_addByte_1 : tA sc iX1_addByte 1 ls (vR (some o) :: st) h Q = oz (tget h o [1] 1) (fun v => tA sc iX1_addByte 4 ls (v :: st) h Q) := tA_get mB_X1_addByte mO_X1_addByte dX1_addByte_1 fT_1_15
theorem rX1_addByte_4 : tA sc iX1_addByte 4 ls st h Q = tA sc iX1_addByte 7 ls (vI (240) :: st) h Q := tA_pure mB_X1_addByte dX1_addByte_4 rfl
theorem rX1_addByte_7 : tA sc iX1_addByte 7 ls (vI y :: vI x :: st) h Q = (if y ≤ x then tA sc iX1_addByte 30 ls st h Q else tA sc iX1_addByte 10 ls st h Q) := tA_if mB_X1_addByte dX1_addByte_7 (fun _ _ _ _ => rfl) rfl
theorem rX1_addByte_10 : tA sc iX1_addByte 10 [vR r, l1] st h Q = tA sc iX1_addByte 11 [vR r, l1] (vR r :: st) h Q := tA_pure mB_X1_addByte dX1_addByte_10 rfl
theorem rX1_addByte_11 : tA sc iX1_addByte 11 ls (vR (some o) :: st) h Q = oz (tget h o [1] 0) (fun v => tA sc iX1_addByte 14 ls (v :: st) h Q) := tA_get mB_X1_addByte mO_X1_addByte dX1_addByte_11 fT_1_9
theorem rX1_addByte_14 : tA sc iX1_addByte 14 [vR r, l1] st h Q = tA sc iX1_addByte 15 [vR r, l1] (vR r :: st) h Q := tA_pure mB_X1_addByte dX1_addByte_14 rfl
theorem rX1_addByte_15 : tA sc iX1_addByte 15 ls (vR (some o) :: st) h Q = oz (tget h o [1] 1) (fun v => tA sc iX1_addByte 18 ls (v :: st) h Q) := tA_get mB_X1_addByte mO_X1_addByte dX1_addByte_15 fT_1_15
theorem rX1_addByte_18 : tA sc iX1_addByte 18 [l0, vI x] st h Q = tA sc iX1_addByte 19 [l0, vI x] (vI x :: st) h Q := tA_pure mB_X1_addByte dX1_addByte_18 rfl
theorem rX1_addByte_19 : tA sc iX1_addByte 19 ls (vI x :: vI j :: vR (some a) :: st) h Q = oz (tasb h a j x) (fun h' => tA sc iX1_addByte 20 ls st h' Q) := tA_bast mB_X1_addByte dX1_addByte_19
theorem rX1_addByte_20 : tA sc iX1_addByte 20 [vR r, l1] st h Q = tA sc iX1_addByte 21 [vR r, l1] (vR r :: st) h Q := tA_pure mB_X1_addByte dX1_addByte_20 rfl
theorem rX1_addByte_21 : tA sc iX1_addByte 21 ls (vR r :: st) h Q = tA sc iX1_addByte 22 ls (vR r :: vR r :: st) h Q := tA_pure mB_X1_addByte dX1_addByte_21 rfl
theorem rX1_addByte_22 : tA sc iX1_addByte 22 ls (vR (some o) :: st) h Q = oz (tget h o [1] 1) (fun v => tA sc iX1_addByte 25 ls (v :: st) h Q) := tA_get mB_X1_addByte mO_X1_addByte dX1_addByte_22 fT_1_15
theorem rX1_addByte_25 : tA sc iX1_addByte 25 ls st h Q = tA sc iX1_addByte 26 ls (vI (1) :: st) h Q := tA_pure mB_X1_addByte dX1_addByte_25 rfl
theorem rX1_addByte_26 : tA sc iX1_addByte 26 ls (vI y :: vI x :: st) h Q = tA sc iX1_addByte 27 ls (vI (x + y) :: st) h Q := tA_pure mB_X1_addByte dX1_addByte_26 rfl
theorem rX1_addByte_27 : tA sc iX1_addByte 27 ls (v :: vR (some o) :: st) h Q = oz (tput h o [1] 1 0 v) (fun h' => tA sc iX1_addByte 30 ls st h' Q) := tA_put mB_X1_addByte mO_X1_addByte dX1_addByte_27 fT_1_15 (Or.inl (by decide))
theorem rX1_addByte_30 : tA sc iX1_addByte 30 ls [] h Q = Q (none) h := tA_ret mB_X1_addByte dX1_addByte_30 (fun _ _ _ _ => rfl) (fun _ _ _ => rfl) (fun _ _ _ _ _ => rfl) rfl rfl
theorem mB_X1_readInto : mB iX1_readInto = cX1_readInto := rfl
theorem mO_X1_readInto : mO iX1_readInto = 1 := rfl
theorem rX1_readInto_0 : tA sc iX1_readInto 0 [vR r, l1, l2] st h Q = tA sc iX1_readInto 1 [vR r, l1, l2] (vR r :: st) h Q := tA_pure mB_X1_readInto dX1_readInto_0 rfl
theorem rX1_readInto_1 : tA sc iX1_readInto 1 ls st h Q = tA sc iX1_readInto 2 ls (vI (-1) :: st) h Q := tA_pure mB_X1_readInto dX1_readInto_1 rfl
theorem rX1_readInto_2 : tA sc iX1_readInto 2 ls (v :: vR (some o) :: st) h Q = oz (tput h o [1] 5 0 v) (fun h' => tA sc iX1_readInto 5 ls st h' Q) := tA_put mB_X1_readInto mO_X1_readInto dX1_readInto_2 fT_1_19 (Or.inl (by decide))
theorem rX1_readInto_5 : tA sc iX1_readInto 5 [vR r, l1, l2] st h Q = tA sc iX1_readInto 6 [vR r, l1, l2] (vR r :: st) h Q := tA_pure mB_X1_readInto dX1_readInto_5 rfl
theorem rX1_readInto_6 : tA sc iX1_readInto 6 ls st h Q = tA sc iX1_readInto 7 ls (vI (0) :: st) h Q := tA_pure mB_X1_readInto dX1_readInto_6 rfl
theorem rX1_readInto_7 : tA sc iX1_readInto 7 ls (v :: vR (some o) :: st) h Q = oz (tput h o [1] 4 0 v) (fun h' => tA sc iX1_readInto 10 ls st h' Q) := tA_put mB_X1_readInto mO_X1_readInto dX1_readInto_7 fT_1_22 (Or.inl (by decide))
theorem rX1_readInto_10 : tA sc iX1_readInto 10 [vR r, l1, l2] st h Q = tA sc iX1_readInto 11 [vR r, l1, l2] (vR r :: st) h Q := tA_pure mB_X1_readInto dX1_readInto_10 rfl
theorem rX1_readInto_11 (hci : tcl h o = some 1) : tA sc iX1_readInto 11 ls [vR (some o)] h Q = tA sc iX1_step 0 [vR (some o)] [] h (fun v h1 => tA sc iX1_readInto 14 ls (tpu v []) h1 Q) := tA_cV mB_X1_readInto mO_X1_readInto dX1_readInto_11 cT_1_25 rfl (Nat.le_of_ble_eq_true rfl) rfl rfl rfl hci
theorem rX1_readInto_14 : tA sc iX1_readInto 14 ls st h Q = tA sc iX1_readInto 15 ls (vI (0) :: st) h Q := tA_pure mB_X1_readInto dX1_readInto_14 rfl
theorem rX1_readInto_15 : tA sc iX1_readInto 15 [l0, l1, l2] (vI x :: st) h Q = tA sc iX1_readInto 16 [l0, tclr l1, vI x] st h Q := tA_pure mB_X1_readInto dX1_readInto_15 rfl
theorem rX1_readInto_16 : tA sc iX1_readInto 16 [l0, l1, vI x] st h Q = tA sc iX1_readInto 17 [l0, l1, vI x] (vI x :: st) h Q := tA_pure mB_X1_readInto dX1_readInto_16 rfl
theorem rX1_readInto_17 : tA sc iX1_readInto 17 ls st h Q = tA sc iX1_readInto 20 ls (vI (240) :: st) h Q := tA_pure mB_X1_readInto dX1_readInto_17 rfl
theorem rX1_readInto_20 : tA sc iX1_readInto 20 ls (vI y :: vI x :: st) h Q = (if y ≤ x then tA sc iX1_readInto 48 ls st h Q else tA sc iX1_readInto 23 ls st h Q) := tA_if mB_X1_readInto dX1_readInto_20 (fun _ _ _ _ => rfl) rfl
theorem rX1_readInto_23 : tA sc iX1_readInto 23 [vR r, l1, l2] st h Q = tA sc iX1_readInto 24 [vR r, l1, l2] (vR r :: st) h Q := tA_pure mB_X1_readInto dX1_readInto_23 rfl
theorem rX1_readInto_24 : tA sc iX1_readInto 24 ls (vR (some o) :: st) h Q = oz (tget h o [1] 2) (fun v => tA sc iX1_readInto 27 ls (v :: st) h Q) := tA_get mB_X1_readInto mO_X1_readInto dX1_readInto_24 fT_1_28
theorem rX1_readInto_27 : tA sc iX1_readInto 27 ls (vI x :: st) h Q = (if x = 0 then tA sc iX1_readInto 48 ls st h Q else tA sc iX1_readInto 30 ls st h Q) := tA_if mB_X1_readInto dX1_readInto_27 (fun _ _ _ _ => rfl) rfl
theorem rX1_readInto_30 : tA sc iX1_readInto 30 [vR r, l1, l2] st h Q = tA sc iX1_readInto 31 [vR r, l1, l2] (vR r :: st) h Q := tA_pure mB_X1_readInto dX1_readInto_30 rfl
theorem rX1_readInto_31 : tA sc iX1_readInto 31 ls (vR (some o) :: st) h Q = oz (tget h o [1] 5) (fun v => tA sc iX1_readInto 34 ls (v :: st) h Q) := tA_get mB_X1_readInto mO_X1_readInto dX1_readInto_31 fT_1_19
theorem rX1_readInto_34 : tA sc iX1_readInto 34 ls (vI x :: st) h Q = (if 0 ≤ x then tA sc iX1_readInto 48 ls st h Q else tA sc iX1_readInto 37 ls st h Q) := tA_if mB_X1_readInto dX1_readInto_34 (fun _ _ _ _ => rfl) rfl
theorem rX1_readInto_37 : tA sc iX1_readInto 37 [vR r, l1, l2] st h Q = tA sc iX1_readInto 38 [vR r, l1, l2] (vR r :: st) h Q := tA_pure mB_X1_readInto dX1_readInto_37 rfl
theorem rX1_readInto_38 : tA sc iX1_readInto 38 [l0, vR r, l2] st h Q = tA sc iX1_readInto 39 [l0, vR r, l2] (vR r :: st) h Q := tA_pure mB_X1_readInto dX1_readInto_38 rfl
theorem rX1_readInto_39 (hci : tcl h o = some 1) : tA sc iX1_readInto 39 ls [vR n0, vR (some o)] h Q = tA sc iX1_readThing 0 [vR (some o), vR n0, vU] [] h (fun v h1 => tA sc iX1_readInto 42 ls (tpu v []) h1 Q) := tA_cV mB_X1_readInto mO_X1_readInto dX1_readInto_39 cT_1_31 rfl (Nat.le_of_ble_eq_true rfl) rfl rfl rfl hci
theorem rX1_readInto_42 : tA sc iX1_readInto 42 [l0, l1, vI x] st h Q = tA sc iX1_readInto 45 [l0, tclr l1, vI (x + 1)] st h Q := tA_pure mB_X1_readInto dX1_readInto_42 rfl
theorem rX1_readInto_45 : tA sc iX1_readInto 45 ls st h Q = tA sc iX1_readInto 16 ls st h Q := tA_jump mB_X1_readInto dX1_readInto_45 (fun _ _ _ _ => rfl) rfl
theorem rX1_readInto_48 : tA sc iX1_readInto 48 [vR r, l1, l2] st h Q = tA sc iX1_readInto 49 [vR r, l1, l2] (vR r :: st) h Q := tA_pure mB_X1_readInto dX1_readInto_48 rfl
theorem rX1_readInto_49 : tA sc iX1_readInto 49 ls (vR (some o) :: st) h Q = oz (tget h o [1] 5) (fun v => tA sc iX1_readInto 52 ls (v :: st) h Q) := tA_get mB_X1_readInto mO_X1_readInto dX1_readInto_49 fT_1_19
theorem rX1_readInto_52 : tA sc iX1_readInto 52 ls [vI x] h Q = Q (some (vI x)) h := tA_ret mB_X1_readInto dX1_readInto_52 (fun _ _ _ _ => rfl) (fun _ _ _ => rfl) (fun _ _ _ _ _ => rfl) rfl rfl
theorem mB_X1_readThing : mB iX1_readThing = cX1_readThing := rfl
theorem mO_X1_readThing : mO iX1_readThing = 1 := rfl
theorem rX1_readThing_0 : tA sc iX1_readThing 0 [vR r, l1, l2] st h Q = tA sc iX1_readThing 1 [vR r, l1, l2] (vR r :: st) h Q := tA_pure mB_X1_readThing dX1_readThing_0 rfl
theorem rX1_readThing_1 (hci : tcl h o = some 1) : tA sc iX1_readThing 1 ls [vR (some o)] h Q = tA sc iX1_kindNamed 0 [vR (some o)] [] h (fun v h1 => tA sc iX1_readThing 4 ls (tpu v []) h1 Q) := tA_cV mB_X1_readThing mO_X1_readThing dX1_readThing_1 cT_1_35 rfl (Nat.le_of_ble_eq_true rfl) rfl rfl rfl hci
theorem rX1_readThing_4 : tA sc iX1_readThing 4 [l0, l1, l2] (vI x :: st) h Q = tA sc iX1_readThing 5 [l0, tclr l1, vI x] st h Q := tA_pure mB_X1_readThing dX1_readThing_4 rfl
theorem rX1_readThing_5 : tA sc iX1_readThing 5 [l0, l1, vI x] st h Q = tA sc iX1_readThing 6 [l0, l1, vI x] (vI x :: st) h Q := tA_pure mB_X1_readThing dX1_readThing_5 rfl
theorem rX1_readThing_6 : tA sc iX1_readThing 6 ls (vI x :: st) h Q = (if x < 0 then tA sc iX1_readThing 18 ls st h Q else tA sc iX1_readThing 9 ls st h Q) := tA_if mB_X1_readThing dX1_readThing_6 (fun _ _ _ _ => rfl) rfl
theorem rX1_readThing_9 : tA sc iX1_readThing 9 [vR r, l1, l2] st h Q = tA sc iX1_readThing 10 [vR r, l1, l2] (vR r :: st) h Q := tA_pure mB_X1_readThing dX1_readThing_9 rfl
theorem rX1_readThing_10 : tA sc iX1_readThing 10 [l0, vR r, l2] st h Q = tA sc iX1_readThing 11 [l0, vR r, l2] (vR r :: st) h Q := tA_pure mB_X1_readThing dX1_readThing_10 rfl
theorem rX1_readThing_11 : tA sc iX1_readThing 11 [l0, l1, vI x] st h Q = tA sc iX1_readThing 12 [l0, l1, vI x] (vI x :: st) h Q := tA_pure mB_X1_readThing dX1_readThing_11 rfl
theorem rX1_readThing_12 (hci : tcl h o = some 1) : tA sc iX1_readThing 12 ls [vI p1, vR n0, vR (some o)] h Q = tA sc iX1_readSayer 0 [vR (some o), vR n0, vI p1, vU] [] h (fun v h1 => tA sc iX1_readThing 15 ls (tpu v []) h1 Q) := tA_cV mB_X1_readThing mO_X1_readThing dX1_readThing_12 cT_1_39 rfl (Nat.le_of_ble_eq_true rfl) rfl rfl rfl hci
theorem rX1_readThing_15 : tA sc iX1_readThing 15 ls st h Q = tA sc iX1_readThing 86 ls st h Q := tA_jump mB_X1_readThing dX1_readThing_15 (fun _ _ _ _ => rfl) rfl
theorem rX1_readThing_18 : tA sc iX1_readThing 18 [vR r, l1, l2] st h Q = tA sc iX1_readThing 19 [vR r, l1, l2] (vR r :: st) h Q := tA_pure mB_X1_readThing dX1_readThing_18 rfl
theorem rX1_readThing_19 : tA sc iX1_readThing 19 ls st h Q = tA sc iX1_readThing 21 ls (vR (some 1000000009) :: st) h Q := tA_pure mB_X1_readThing dX1_readThing_19 rfl
theorem rX1_readThing_21 (hci : tcl h o = some 1) : tA sc iX1_readThing 21 ls [vR n0, vR (some o)] h Q = tA sc iX1_isName 0 [vR (some o), vR n0, vU] [] h (fun v h1 => tA sc iX1_readThing 24 ls (tpu v []) h1 Q) := tA_cV mB_X1_readThing mO_X1_readThing dX1_readThing_21 cT_1_45 rfl (Nat.le_of_ble_eq_true rfl) rfl rfl rfl hci
theorem rX1_readThing_24 : tA sc iX1_readThing 24 ls (vI x :: st) h Q = (if x = 0 then tA sc iX1_readThing 35 ls st h Q else tA sc iX1_readThing 27 ls st h Q) := tA_if mB_X1_readThing dX1_readThing_24 (fun _ _ _ _ => rfl) rfl
theorem rX1_readThing_27 : tA sc iX1_readThing 27 [vR r, l1, l2] st h Q = tA sc iX1_readThing 28 [vR r, l1, l2] (vR r :: st) h Q := tA_pure mB_X1_readThing dX1_readThing_27 rfl
theorem rX1_readThing_28 : tA sc iX1_readThing 28 [l0, vR r, l2] st h Q = tA sc iX1_readThing 29 [l0, vR r, l2] (vR r :: st) h Q := tA_pure mB_X1_readThing dX1_readThing_28 rfl
theorem rX1_readThing_29 (hci : tcl h o = some 1) : tA sc iX1_readThing 29 ls [vR n0, vR (some o)] h Q = tA sc iX1_readDay 0 [vR (some o), vR n0, vU, vU] [] h (fun v h1 => tA sc iX1_readThing 32 ls (tpu v []) h1 Q) := tA_cV mB_X1_readThing mO_X1_readThing dX1_readThing_29 cT_1_49 rfl (Nat.le_of_ble_eq_true rfl) rfl rfl rfl hci
theorem rX1_readThing_32 : tA sc iX1_readThing 32 ls st h Q = tA sc iX1_readThing 86 ls st h Q := tA_jump mB_X1_readThing dX1_readThing_32 (fun _ _ _ _ => rfl) rfl
theorem rX1_readThing_35 : tA sc iX1_readThing 35 [vR r, l1, l2] st h Q = tA sc iX1_readThing 36 [vR r, l1, l2] (vR r :: st) h Q := tA_pure mB_X1_readThing dX1_readThing_35 rfl
theorem rX1_readThing_36 : tA sc iX1_readThing 36 ls st h Q = tA sc iX1_readThing 38 ls (vR (some 1000000013) :: st) h Q := tA_pure mB_X1_readThing dX1_readThing_36 rfl
theorem rX1_readThing_38 (hci : tcl h o = some 1) : tA sc iX1_readThing 38 ls [vR n0, vR (some o)] h Q = tA sc iX1_isName 0 [vR (some o), vR n0, vU] [] h (fun v h1 => tA sc iX1_readThing 41 ls (tpu v []) h1 Q) := tA_cV mB_X1_readThing mO_X1_readThing dX1_readThing_38 cT_1_45 rfl (Nat.le_of_ble_eq_true rfl) rfl rfl rfl hci
theorem rX1_readThing_41 : tA sc iX1_readThing 41 ls (vI x :: st) h Q = (if x = 0 then tA sc iX1_readThing 52 ls st h Q else tA sc iX1_readThing 44 ls st h Q) := tA_if mB_X1_readThing dX1_readThing_41 (fun _ _ _ _ => rfl) rfl
theorem rX1_readThing_44 : tA sc iX1_readThing 44 [vR r, l1, l2] st h Q = tA sc iX1_readThing 45 [vR r, l1, l2] (vR r :: st) h Q := tA_pure mB_X1_readThing dX1_readThing_44 rfl
theorem rX1_readThing_45 : tA sc iX1_readThing 45 [l0, vR r, l2] st h Q = tA sc iX1_readThing 46 [l0, vR r, l2] (vR r :: st) h Q := tA_pure mB_X1_readThing dX1_readThing_45 rfl
theorem rX1_readThing_46 (hci : tcl h o = some 1) : tA sc iX1_readThing 46 ls [vR n0, vR (some o)] h Q = tA sc iX1_readSaying 0 [vR (some o), vR n0, vU, vU, vU, vU] [] h (fun v h1 => tA sc iX1_readThing 49 ls (tpu v []) h1 Q) := tA_cV mB_X1_readThing mO_X1_readThing dX1_readThing_46 cT_1_54 rfl (Nat.le_of_ble_eq_true rfl) rfl rfl rfl hci
theorem rX1_readThing_49 : tA sc iX1_readThing 49 ls st h Q = tA sc iX1_readThing 86 ls st h Q := tA_jump mB_X1_readThing dX1_readThing_49 (fun _ _ _ _ => rfl) rfl
theorem rX1_readThing_52 : tA sc iX1_readThing 52 [vR r, l1, l2] st h Q = tA sc iX1_readThing 53 [vR r, l1, l2] (vR r :: st) h Q := tA_pure mB_X1_readThing dX1_readThing_52 rfl
theorem rX1_readThing_53 : tA sc iX1_readThing 53 ls st h Q = tA sc iX1_readThing 55 ls (vR (some 1000000014) :: st) h Q := tA_pure mB_X1_readThing dX1_readThing_53 rfl
theorem rX1_readThing_55 (hci : tcl h o = some 1) : tA sc iX1_readThing 55 ls [vR n0, vR (some o)] h Q = tA sc iX1_isName 0 [vR (some o), vR n0, vU] [] h (fun v h1 => tA sc iX1_readThing 58 ls (tpu v []) h1 Q) := tA_cV mB_X1_readThing mO_X1_readThing dX1_readThing_55 cT_1_45 rfl (Nat.le_of_ble_eq_true rfl) rfl rfl rfl hci
theorem rX1_readThing_58 : tA sc iX1_readThing 58 ls (vI x :: st) h Q = (if x = 0 then tA sc iX1_readThing 78 ls st h Q else tA sc iX1_readThing 61 ls st h Q) := tA_if mB_X1_readThing dX1_readThing_58 (fun _ _ _ _ => rfl) rfl
theorem rX1_readThing_61 : tA sc iX1_readThing 61 [vR r, l1, l2] st h Q = tA sc iX1_readThing 62 [vR r, l1, l2] (vR r :: st) h Q := tA_pure mB_X1_readThing dX1_readThing_61 rfl
theorem rX1_readThing_62 (hci : tcl h o = some 1) : tA sc iX1_readThing 62 ls [vR (some o)] h Q = tA sc iX1_step 0 [vR (some o)] [] h (fun v h1 => tA sc iX1_readThing 65 ls (tpu v []) h1 Q) := tA_cV mB_X1_readThing mO_X1_readThing dX1_readThing_62 cT_1_25 rfl (Nat.le_of_ble_eq_true rfl) rfl rfl rfl hci
theorem rX1_readThing_65 : tA sc iX1_readThing 65 [l0, vR r, l2] st h Q = tA sc iX1_readThing 66 [l0, vR r, l2] (vR r :: st) h Q := tA_pure mB_X1_readThing dX1_readThing_65 rfl
theorem rX1_readThing_66 : tA sc iX1_readThing 66 [vR r, l1, l2] st h Q = tA sc iX1_readThing 67 [vR r, l1, l2] (vR r :: st) h Q := tA_pure mB_X1_readThing dX1_readThing_66 rfl
theorem rX1_readThing_67 : tA sc iX1_readThing 67 ls st h Q = tA sc iX1_readThing 69 ls (vI (20) :: st) h Q := tA_pure mB_X1_readThing dX1_readThing_67 rfl
theorem rX1_readThing_69 (hci : tcl h o = some 1) : tA sc iX1_readThing 69 ls [vI p0, vR (some o), s0] h Q = tA sc iX1_takeNumber 0 [vR (some o), vI p0, vU] [] h (fun v h1 => tA sc iX1_readThing 72 ls (tpu v [s0]) h1 Q) := tA_cV mB_X1_readThing mO_X1_readThing dX1_readThing_69 cT_1_59 rfl (Nat.le_of_ble_eq_true rfl) rfl rfl rfl hci
theorem rX1_readThing_72 : tA sc iX1_readThing 72 ls (v :: vR (some o) :: st) h Q = oz (tput h o [9] 6 0 v) (fun h' => tA sc iX1_readThing 75 ls st h' Q) := tA_put mB_X1_readThing mO_X1_readThing dX1_readThing_72 fT_1_63 (Or.inl (by decide))
theorem rX1_readThing_75 : tA sc iX1_readThing 75 ls st h Q = tA sc iX1_readThing 86 ls st h Q := tA_jump mB_X1_readThing dX1_readThing_75 (fun _ _ _ _ => rfl) rfl
theorem rX1_readThing_78 : tA sc iX1_readThing 78 [vR r, l1, l2] st h Q = tA sc iX1_readThing 79 [vR r, l1, l2] (vR r :: st) h Q := tA_pure mB_X1_readThing dX1_readThing_78 rfl
theorem rX1_readThing_79 : tA sc iX1_readThing 79 [vR r, l1, l2] st h Q = tA sc iX1_readThing 80 [vR r, l1, l2] (vR r :: st) h Q := tA_pure mB_X1_readThing dX1_readThing_79 rfl
theorem rX1_readThing_80 : tA sc iX1_readThing 80 ls (vR (some o) :: st) h Q = oz (tget h o [1] 3) (fun v => tA sc iX1_readThing 83 ls (v :: st) h Q) := tA_get mB_X1_readThing mO_X1_readThing dX1_readThing_80 fT_1_68
theorem rX1_readThing_83 : tA sc iX1_readThing 83 ls (v :: vR (some o) :: st) h Q = oz (tput h o [1] 5 0 v) (fun h' => tA sc iX1_readThing 86 ls st h' Q) := tA_put mB_X1_readThing mO_X1_readThing dX1_readThing_83 fT_1_19 (Or.inl (by decide))
theorem rX1_readThing_86 : tA sc iX1_readThing 86 [vR r, l1, l2] st h Q = tA sc iX1_readThing 87 [vR r, l1, l2] (vR r :: st) h Q := tA_pure mB_X1_readThing dX1_readThing_86 rfl
theorem rX1_readThing_87 (hci : tcl h o = some 1) : tA sc iX1_readThing 87 ls [vR (some o)] h Q = tA sc iX1_takeSemicolon 0 [vR (some o)] [] h (fun v h1 => tA sc iX1_readThing 90 ls (tpu v []) h1 Q) := tA_cV mB_X1_readThing mO_X1_readThing dX1_readThing_87 cT_1_71 rfl (Nat.le_of_ble_eq_true rfl) rfl rfl rfl hci
theorem rX1_readThing_90 : tA sc iX1_readThing 90 ls [] h Q = Q (none) h := tA_ret mB_X1_readThing dX1_readThing_90 (fun _ _ _ _ => rfl) (fun _ _ _ => rfl) (fun _ _ _ _ _ => rfl) rfl rfl
theorem mB_X1_kindNamed : mB iX1_kindNamed = cX1_kindNamed := rfl
theorem mO_X1_kindNamed : mO iX1_kindNamed = 1 := rfl
theorem rX1_kindNamed_0 : tA sc iX1_kindNamed 0 [vR r] st h Q = tA sc iX1_kindNamed 1 [vR r] (vR r :: st) h Q := tA_pure mB_X1_kindNamed dX1_kindNamed_0 rfl
theorem rX1_kindNamed_1 : tA sc iX1_kindNamed 1 ls st h Q = tA sc iX1_kindNamed 3 ls (vR (some 1000000003) :: st) h Q := tA_pure mB_X1_kindNamed dX1_kindNamed_1 rfl
theorem rX1_kindNamed_3 (hci : tcl h o = some 1) : tA sc iX1_kindNamed 3 ls [vR n0, vR (some o)] h Q = tA sc iX1_isName 0 [vR (some o), vR n0, vU] [] h (fun v h1 => tA sc iX1_kindNamed 6 ls (tpu v []) h1 Q) := tA_cV mB_X1_kindNamed mO_X1_kindNamed dX1_kindNamed_3 cT_1_45 rfl (Nat.le_of_ble_eq_true rfl) rfl rfl rfl hci
theorem rX1_kindNamed_6 : tA sc iX1_kindNamed 6 ls (vI x :: st) h Q = (if x = 0 then tA sc iX1_kindNamed 11 ls st h Q else tA sc iX1_kindNamed 9 ls st h Q) := tA_if mB_X1_kindNamed dX1_kindNamed_6 (fun _ _ _ _ => rfl) rfl
theorem rX1_kindNamed_9 : tA sc iX1_kindNamed 9 ls st h Q = tA sc iX1_kindNamed 10 ls (vI (0) :: st) h Q := tA_pure mB_X1_kindNamed dX1_kindNamed_9 rfl
theorem rX1_kindNamed_10 : tA sc iX1_kindNamed 10 ls [vI x] h Q = Q (some (vI x)) h := tA_ret mB_X1_kindNamed dX1_kindNamed_10 (fun _ _ _ _ => rfl) (fun _ _ _ => rfl) (fun _ _ _ _ _ => rfl) rfl rfl
theorem rX1_kindNamed_11 : tA sc iX1_kindNamed 11 [vR r] st h Q = tA sc iX1_kindNamed 12 [vR r] (vR r :: st) h Q := tA_pure mB_X1_kindNamed dX1_kindNamed_11 rfl
theorem rX1_kindNamed_12 : tA sc iX1_kindNamed 12 ls st h Q = tA sc iX1_kindNamed 14 ls (vR (some 1000000004) :: st) h Q := tA_pure mB_X1_kindNamed dX1_kindNamed_12 rfl
theorem rX1_kindNamed_14 (hci : tcl h o = some 1) : tA sc iX1_kindNamed 14 ls [vR n0, vR (some o)] h Q = tA sc iX1_isName 0 [vR (some o), vR n0, vU] [] h (fun v h1 => tA sc iX1_kindNamed 17 ls (tpu v []) h1 Q) := tA_cV mB_X1_kindNamed mO_X1_kindNamed dX1_kindNamed_14 cT_1_45 rfl (Nat.le_of_ble_eq_true rfl) rfl rfl rfl hci
theorem rX1_kindNamed_17 : tA sc iX1_kindNamed 17 ls (vI x :: st) h Q = (if x = 0 then tA sc iX1_kindNamed 22 ls st h Q else tA sc iX1_kindNamed 20 ls st h Q) := tA_if mB_X1_kindNamed dX1_kindNamed_17 (fun _ _ _ _ => rfl) rfl
theorem rX1_kindNamed_20 : tA sc iX1_kindNamed 20 ls st h Q = tA sc iX1_kindNamed 21 ls (vI (1) :: st) h Q := tA_pure mB_X1_kindNamed dX1_kindNamed_20 rfl
theorem rX1_kindNamed_21 : tA sc iX1_kindNamed 21 ls [vI x] h Q = Q (some (vI x)) h := tA_ret mB_X1_kindNamed dX1_kindNamed_21 (fun _ _ _ _ => rfl) (fun _ _ _ => rfl) (fun _ _ _ _ _ => rfl) rfl rfl
theorem rX1_kindNamed_22 : tA sc iX1_kindNamed 22 [vR r] st h Q = tA sc iX1_kindNamed 23 [vR r] (vR r :: st) h Q := tA_pure mB_X1_kindNamed dX1_kindNamed_22 rfl
theorem rX1_kindNamed_23 : tA sc iX1_kindNamed 23 ls st h Q = tA sc iX1_kindNamed 25 ls (vR (some 1000000005) :: st) h Q := tA_pure mB_X1_kindNamed dX1_kindNamed_23 rfl
theorem rX1_kindNamed_25 (hci : tcl h o = some 1) : tA sc iX1_kindNamed 25 ls [vR n0, vR (some o)] h Q = tA sc iX1_isName 0 [vR (some o), vR n0, vU] [] h (fun v h1 => tA sc iX1_kindNamed 28 ls (tpu v []) h1 Q) := tA_cV mB_X1_kindNamed mO_X1_kindNamed dX1_kindNamed_25 cT_1_45 rfl (Nat.le_of_ble_eq_true rfl) rfl rfl rfl hci
theorem rX1_kindNamed_28 : tA sc iX1_kindNamed 28 ls (vI x :: st) h Q = (if x = 0 then tA sc iX1_kindNamed 33 ls st h Q else tA sc iX1_kindNamed 31 ls st h Q) := tA_if mB_X1_kindNamed dX1_kindNamed_28 (fun _ _ _ _ => rfl) rfl
theorem rX1_kindNamed_31 : tA sc iX1_kindNamed 31 ls st h Q = tA sc iX1_kindNamed 32 ls (vI (2) :: st) h Q := tA_pure mB_X1_kindNamed dX1_kindNamed_31 rfl
theorem rX1_kindNamed_32 : tA sc iX1_kindNamed 32 ls [vI x] h Q = Q (some (vI x)) h := tA_ret mB_X1_kindNamed dX1_kindNamed_32 (fun _ _ _ _ => rfl) (fun _ _ _ => rfl) (fun _ _ _ _ _ => rfl) rfl rfl
theorem rX1_kindNamed_33 : tA sc iX1_kindNamed 33 [vR r] st h Q = tA sc iX1_kindNamed 34 [vR r] (vR r :: st) h Q := tA_pure mB_X1_kindNamed dX1_kindNamed_33 rfl
theorem rX1_kindNamed_34 : tA sc iX1_kindNamed 34 ls st h Q = tA sc iX1_kindNamed 36 ls (vR (some 1000000006) :: st) h Q := tA_pure mB_X1_kindNamed dX1_kindNamed_34 rfl
theorem rX1_kindNamed_36 (hci : tcl h o = some 1) : tA sc iX1_kindNamed 36 ls [vR n0, vR (some o)] h Q = tA sc iX1_isName 0 [vR (some o), vR n0, vU] [] h (fun v h1 => tA sc iX1_kindNamed 39 ls (tpu v []) h1 Q) := tA_cV mB_X1_kindNamed mO_X1_kindNamed dX1_kindNamed_36 cT_1_45 rfl (Nat.le_of_ble_eq_true rfl) rfl rfl rfl hci
theorem rX1_kindNamed_39 : tA sc iX1_kindNamed 39 ls (vI x :: st) h Q = (if x = 0 then tA sc iX1_kindNamed 44 ls st h Q else tA sc iX1_kindNamed 42 ls st h Q) := tA_if mB_X1_kindNamed dX1_kindNamed_39 (fun _ _ _ _ => rfl) rfl
theorem rX1_kindNamed_42 : tA sc iX1_kindNamed 42 ls st h Q = tA sc iX1_kindNamed 43 ls (vI (3) :: st) h Q := tA_pure mB_X1_kindNamed dX1_kindNamed_42 rfl
theorem rX1_kindNamed_43 : tA sc iX1_kindNamed 43 ls [vI x] h Q = Q (some (vI x)) h := tA_ret mB_X1_kindNamed dX1_kindNamed_43 (fun _ _ _ _ => rfl) (fun _ _ _ => rfl) (fun _ _ _ _ _ => rfl) rfl rfl
theorem rX1_kindNamed_44 : tA sc iX1_kindNamed 44 [vR r] st h Q = tA sc iX1_kindNamed 45 [vR r] (vR r :: st) h Q := tA_pure mB_X1_kindNamed dX1_kindNamed_44 rfl
theorem rX1_kindNamed_45 : tA sc iX1_kindNamed 45 ls st h Q = tA sc iX1_kindNamed 47 ls (vR (some 1000000007) :: st) h Q := tA_pure mB_X1_kindNamed dX1_kindNamed_45 rfl
theorem rX1_kindNamed_47 (hci : tcl h o = some 1) : tA sc iX1_kindNamed 47 ls [vR n0, vR (some o)] h Q = tA sc iX1_isName 0 [vR (some o), vR n0, vU] [] h (fun v h1 => tA sc iX1_kindNamed 50 ls (tpu v []) h1 Q) := tA_cV mB_X1_kindNamed mO_X1_kindNamed dX1_kindNamed_47 cT_1_45 rfl (Nat.le_of_ble_eq_true rfl) rfl rfl rfl hci
theorem rX1_kindNamed_50 : tA sc iX1_kindNamed 50 ls (vI x :: st) h Q = (if x = 0 then tA sc iX1_kindNamed 55 ls st h Q else tA sc iX1_kindNamed 53 ls st h Q) := tA_if mB_X1_kindNamed dX1_kindNamed_50 (fun _ _ _ _ => rfl) rfl
theorem rX1_kindNamed_53 : tA sc iX1_kindNamed 53 ls st h Q = tA sc iX1_kindNamed 54 ls (vI (4) :: st) h Q := tA_pure mB_X1_kindNamed dX1_kindNamed_53 rfl
theorem rX1_kindNamed_54 : tA sc iX1_kindNamed 54 ls [vI x] h Q = Q (some (vI x)) h := tA_ret mB_X1_kindNamed dX1_kindNamed_54 (fun _ _ _ _ => rfl) (fun _ _ _ => rfl) (fun _ _ _ _ _ => rfl) rfl rfl
theorem rX1_kindNamed_55 : tA sc iX1_kindNamed 55 [vR r] st h Q = tA sc iX1_kindNamed 56 [vR r] (vR r :: st) h Q := tA_pure mB_X1_kindNamed dX1_kindNamed_55 rfl
theorem rX1_kindNamed_56 : tA sc iX1_kindNamed 56 ls st h Q = tA sc iX1_kindNamed 58 ls (vR (some 1000000008) :: st) h Q := tA_pure mB_X1_kindNamed dX1_kindNamed_56 rfl
theorem rX1_kindNamed_58 (hci : tcl h o = some 1) : tA sc iX1_kindNamed 58 ls [vR n0, vR (some o)] h Q = tA sc iX1_isName 0 [vR (some o), vR n0, vU] [] h (fun v h1 => tA sc iX1_kindNamed 61 ls (tpu v []) h1 Q) := tA_cV mB_X1_kindNamed mO_X1_kindNamed dX1_kindNamed_58 cT_1_45 rfl (Nat.le_of_ble_eq_true rfl) rfl rfl rfl hci
theorem rX1_kindNamed_61 : tA sc iX1_kindNamed 61 ls (vI x :: st) h Q = (if x = 0 then tA sc iX1_kindNamed 68 ls st h Q else tA sc iX1_kindNamed 64 ls st h Q) := tA_if mB_X1_kindNamed dX1_kindNamed_61 (fun _ _ _ _ => rfl) rfl
theorem rX1_kindNamed_64 : tA sc iX1_kindNamed 64 ls st h Q = tA sc iX1_kindNamed 65 ls (vI (5) :: st) h Q := tA_pure mB_X1_kindNamed dX1_kindNamed_64 rfl
theorem rX1_kindNamed_65 : tA sc iX1_kindNamed 65 ls st h Q = tA sc iX1_kindNamed 69 ls st h Q := tA_jump mB_X1_kindNamed dX1_kindNamed_65 (fun _ _ _ _ => rfl) rfl
theorem rX1_kindNamed_68 : tA sc iX1_kindNamed 68 ls st h Q = tA sc iX1_kindNamed 69 ls (vI (-1) :: st) h Q := tA_pure mB_X1_kindNamed dX1_kindNamed_68 rfl
theorem rX1_kindNamed_69 : tA sc iX1_kindNamed 69 ls [vI x] h Q = Q (some (vI x)) h := tA_ret mB_X1_kindNamed dX1_kindNamed_69 (fun _ _ _ _ => rfl) (fun _ _ _ => rfl) (fun _ _ _ _ _ => rfl) rfl rfl
theorem mB_X1_readSayer : mB iX1_readSayer = cX1_readSayer := rfl
theorem mO_X1_readSayer : mO iX1_readSayer = 1 := rfl
theorem rX1_readSayer_0 : tA sc iX1_readSayer 0 [l0, vR r, l2, l3] st h Q = tA sc iX1_readSayer 1 [l0, vR r, l2, l3] (vR r :: st) h Q := tA_pure mB_X1_readSayer dX1_readSayer_0 rfl
theorem rX1_readSayer_1 : tA sc iX1_readSayer 1 ls (vR (some o) :: st) h Q = oz (tget h o [9] 10) (fun v => tA sc iX1_readSayer 4 ls (v :: st) h Q) := tA_get mB_X1_readSayer mO_X1_readSayer dX1_readSayer_1 fT_1_86
theorem rX1_readSayer_4 : tA sc iX1_readSayer 4 ls st h Q = tA sc iX1_readSayer 5 ls (vI (5) :: st) h Q := tA_pure mB_X1_readSayer dX1_readSayer_4 rfl
theorem rX1_readSayer_5 : tA sc iX1_readSayer 5 ls (vI y :: vI x :: st) h Q = (if x < y then tA sc iX1_readSayer 17 ls st h Q else tA sc iX1_readSayer 8 ls st h Q) := tA_if mB_X1_readSayer dX1_readSayer_5 (fun _ _ _ _ => rfl) rfl
theorem rX1_readSayer_8 : tA sc iX1_readSayer 8 [vR r, l1, l2, l3] st h Q = tA sc iX1_readSayer 9 [vR r, l1, l2, l3] (vR r :: st) h Q := tA_pure mB_X1_readSayer dX1_readSayer_8 rfl
theorem rX1_readSayer_9 : tA sc iX1_readSayer 9 [vR r, l1, l2, l3] st h Q = tA sc iX1_readSayer 10 [vR r, l1, l2, l3] (vR r :: st) h Q := tA_pure mB_X1_readSayer dX1_readSayer_9 rfl
theorem rX1_readSayer_10 : tA sc iX1_readSayer 10 ls (vR (some o) :: st) h Q = oz (tget h o [1] 3) (fun v => tA sc iX1_readSayer 13 ls (v :: st) h Q) := tA_get mB_X1_readSayer mO_X1_readSayer dX1_readSayer_10 fT_1_68
theorem rX1_readSayer_13 : tA sc iX1_readSayer 13 ls (v :: vR (some o) :: st) h Q = oz (tput h o [1] 5 0 v) (fun h' => tA sc iX1_readSayer 16 ls st h' Q) := tA_put mB_X1_readSayer mO_X1_readSayer dX1_readSayer_13 fT_1_19 (Or.inl (by decide))
theorem rX1_readSayer_16 : tA sc iX1_readSayer 16 ls [] h Q = Q (none) h := tA_ret mB_X1_readSayer dX1_readSayer_16 (fun _ _ _ _ => rfl) (fun _ _ _ => rfl) (fun _ _ _ _ _ => rfl) rfl rfl
theorem rX1_readSayer_17 : tA sc iX1_readSayer 17 [vR r, l1, l2, l3] st h Q = tA sc iX1_readSayer 18 [vR r, l1, l2, l3] (vR r :: st) h Q := tA_pure mB_X1_readSayer dX1_readSayer_17 rfl
theorem rX1_readSayer_18 (hci : tcl h o = some 1) : tA sc iX1_readSayer 18 ls [vR (some o)] h Q = tA sc iX1_step 0 [vR (some o)] [] h (fun v h1 => tA sc iX1_readSayer 21 ls (tpu v []) h1 Q) := tA_cV mB_X1_readSayer mO_X1_readSayer dX1_readSayer_18 cT_1_25 rfl (Nat.le_of_ble_eq_true rfl) rfl rfl rfl hci
theorem rX1_readSayer_21 : tA sc iX1_readSayer 21 [vR r, l1, l2, l3] st h Q = tA sc iX1_readSayer 22 [vR r, l1, l2, l3] (vR r :: st) h Q := tA_pure mB_X1_readSayer dX1_readSayer_21 rfl
theorem rX1_readSayer_22 : tA sc iX1_readSayer 22 ls st h Q = tA sc iX1_readSayer 24 ls (vI (9) :: st) h Q := tA_pure mB_X1_readSayer dX1_readSayer_22 rfl
theorem rX1_readSayer_24 (hci : tcl h o = some 1) : tA sc iX1_readSayer 24 ls [vI p0, vR (some o)] h Q = tA sc iX1_takeNumber 0 [vR (some o), vI p0, vU] [] h (fun v h1 => tA sc iX1_readSayer 27 ls (tpu v []) h1 Q) := tA_cV mB_X1_readSayer mO_X1_readSayer dX1_readSayer_24 cT_1_59 rfl (Nat.le_of_ble_eq_true rfl) rfl rfl rfl hci
theorem rX1_readSayer_27 : tA sc iX1_readSayer 27 [l0, l1, l2, l3] (vI x :: st) h Q = tA sc iX1_readSayer 28 [l0, l1, tclr l2, vI x] st h Q := tA_pure mB_X1_readSayer dX1_readSayer_27 rfl
theorem rX1_readSayer_28 : tA sc iX1_readSayer 28 [vR r, l1, l2, l3] st h Q = tA sc iX1_readSayer 29 [vR r, l1, l2, l3] (vR r :: st) h Q := tA_pure mB_X1_readSayer dX1_readSayer_28 rfl
theorem rX1_readSayer_29 : tA sc iX1_readSayer 29 ls (vR (some o) :: st) h Q = oz (tget h o [1] 5) (fun v => tA sc iX1_readSayer 32 ls (v :: st) h Q) := tA_get mB_X1_readSayer mO_X1_readSayer dX1_readSayer_29 fT_1_19
theorem rX1_readSayer_32 : tA sc iX1_readSayer 32 ls (vI x :: st) h Q = (if 0 ≤ x then tA sc iX1_readSayer 49 ls st h Q else tA sc iX1_readSayer 35 ls st h Q) := tA_if mB_X1_readSayer dX1_readSayer_32 (fun _ _ _ _ => rfl) rfl
theorem rX1_readSayer_35 : tA sc iX1_readSayer 35 [l0, vR r, l2, l3] st h Q = tA sc iX1_readSayer 36 [l0, vR r, l2, l3] (vR r :: st) h Q := tA_pure mB_X1_readSayer dX1_readSayer_35 rfl
theorem rX1_readSayer_36 : tA sc iX1_readSayer 36 [l0, l1, vI x, l3] st h Q = tA sc iX1_readSayer 37 [l0, l1, vI x, l3] (vI x :: st) h Q := tA_pure mB_X1_readSayer dX1_readSayer_36 rfl
theorem rX1_readSayer_37 : tA sc iX1_readSayer 37 [l0, vR r, l2, l3] st h Q = tA sc iX1_readSayer 38 [l0, vR r, l2, l3] (vR r :: st) h Q := tA_pure mB_X1_readSayer dX1_readSayer_37 rfl
theorem rX1_readSayer_38 : tA sc iX1_readSayer 38 ls (vR (some o) :: st) h Q = oz (tget h o [9] 10) (fun v => tA sc iX1_readSayer 41 ls (v :: st) h Q) := tA_get mB_X1_readSayer mO_X1_readSayer dX1_readSayer_38 fT_1_86
theorem rX1_readSayer_41 : tA sc iX1_readSayer 41 [l0, l1, l2, vI x] st h Q = tA sc iX1_readSayer 42 [l0, l1, l2, vI x] (vI x :: st) h Q := tA_pure mB_X1_readSayer dX1_readSayer_41 rfl
theorem rX1_readSayer_42 : tA sc iX1_readSayer 42 ls [vI p2, vI p1, vI p0, s0] h Q = tA sc iX10_thingOf 0 [vI p0, vI p1, vI p2] [] h (fun v h1 => tA sc iX1_readSayer 45 ls (tpu v [s0]) h1 Q) := tA_cS mB_X1_readSayer mO_X1_readSayer dX1_readSayer_42 cT_1_89 ⟨Nat.le_of_ble_eq_true rfl, Nat.le_of_ble_eq_true rfl⟩ rfl rfl rfl rfl
theorem rX1_readSayer_45 (hci : tcl h o = some 9) : tA sc iX1_readSayer 45 ls [vR n0, vR (some o)] h Q = tA sc iX9_addSayer 0 [vR (some o), vR n0, vU] [] h (fun v h1 => tA sc iX1_readSayer 48 ls (tpu v []) h1 Q) := tA_cV mB_X1_readSayer mO_X1_readSayer dX1_readSayer_45 cT_1_93 rfl (Nat.le_of_ble_eq_true rfl) rfl rfl rfl hci
theorem rX1_readSayer_48 : tA sc iX1_readSayer 48 ls (vI x :: st) h Q = tA sc iX1_readSayer 49 ls st h Q := tA_pure mB_X1_readSayer dX1_readSayer_48 rfl
theorem rX1_readSayer_49 : tA sc iX1_readSayer 49 ls [] h Q = Q (none) h := tA_ret mB_X1_readSayer dX1_readSayer_49 (fun _ _ _ _ => rfl) (fun _ _ _ => rfl) (fun _ _ _ _ _ => rfl) rfl rfl
theorem mB_X1_readSaying : mB iX1_readSaying = cX1_readSaying := rfl
theorem mO_X1_readSaying : mO iX1_readSaying = 1 := rfl
theorem rX1_readSaying_0 : tA sc iX1_readSaying 0 [l0, vR r, l2, l3, l4, l5] st h Q = tA sc iX1_readSaying 1 [l0, vR r, l2, l3, l4, l5] (vR r :: st) h Q := tA_pure mB_X1_readSaying dX1_readSaying_0 rfl
theorem rX1_readSaying_1 (hci : tcl h o = some 9) : tA sc iX1_readSaying 1 ls [vR (some o)] h Q = tA sc iX9_room 0 [vR (some o)] [] h (fun v h1 => tA sc iX1_readSaying 4 ls (tpu v []) h1 Q) := tA_cV mB_X1_readSaying mO_X1_readSaying dX1_readSaying_1 cT_1_97 rfl (Nat.le_of_ble_eq_true rfl) rfl rfl rfl hci
theorem rX1_readSaying_4 : tA sc iX1_readSaying 4 ls (vI x :: st) h Q = (if ¬ x = 0 then tA sc iX1_readSaying 16 ls st h Q else tA sc iX1_readSaying 7 ls st h Q) := tA_if mB_X1_readSaying dX1_readSaying_4 (fun _ _ _ _ => rfl) rfl
theorem rX1_readSaying_7 : tA sc iX1_readSaying 7 [vR r, l1, l2, l3, l4, l5] st h Q = tA sc iX1_readSaying 8 [vR r, l1, l2, l3, l4, l5] (vR r :: st) h Q := tA_pure mB_X1_readSaying dX1_readSaying_7 rfl
theorem rX1_readSaying_8 : tA sc iX1_readSaying 8 [vR r, l1, l2, l3, l4, l5] st h Q = tA sc iX1_readSaying 9 [vR r, l1, l2, l3, l4, l5] (vR r :: st) h Q := tA_pure mB_X1_readSaying dX1_readSaying_8 rfl
theorem rX1_readSaying_9 : tA sc iX1_readSaying 9 ls (vR (some o) :: st) h Q = oz (tget h o [1] 3) (fun v => tA sc iX1_readSaying 12 ls (v :: st) h Q) := tA_get mB_X1_readSaying mO_X1_readSaying dX1_readSaying_9 fT_1_68
theorem rX1_readSaying_12 : tA sc iX1_readSaying 12 ls (v :: vR (some o) :: st) h Q = oz (tput h o [1] 5 0 v) (fun h' => tA sc iX1_readSaying 15 ls st h' Q) := tA_put mB_X1_readSaying mO_X1_readSaying dX1_readSaying_12 fT_1_19 (Or.inl (by decide))
theorem rX1_readSaying_15 : tA sc iX1_readSaying 15 ls [] h Q = Q (none) h := tA_ret mB_X1_readSaying dX1_readSaying_15 (fun _ _ _ _ => rfl) (fun _ _ _ => rfl) (fun _ _ _ _ _ => rfl) rfl rfl
theorem rX1_readSaying_16 : tA sc iX1_readSaying 16 [vR r, l1, l2, l3, l4, l5] st h Q = tA sc iX1_readSaying 17 [vR r, l1, l2, l3, l4, l5] (vR r :: st) h Q := tA_pure mB_X1_readSaying dX1_readSaying_16 rfl
theorem rX1_readSaying_17 (hci : tcl h o = some 1) : tA sc iX1_readSaying 17 ls [vR (some o)] h Q = tA sc iX1_step 0 [vR (some o)] [] h (fun v h1 => tA sc iX1_readSaying 20 ls (tpu v []) h1 Q) := tA_cV mB_X1_readSaying mO_X1_readSaying dX1_readSaying_17 cT_1_25 rfl (Nat.le_of_ble_eq_true rfl) rfl rfl rfl hci
theorem rX1_readSaying_20 : tA sc iX1_readSaying 20 [vR r, l1, l2, l3, l4, l5] st h Q = tA sc iX1_readSaying 21 [vR r, l1, l2, l3, l4, l5] (vR r :: st) h Q := tA_pure mB_X1_readSaying dX1_readSaying_20 rfl
theorem rX1_readSaying_21 : tA sc iX1_readSaying 21 [l0, vR r, l2, l3, l4, l5] st h Q = tA sc iX1_readSaying 22 [l0, vR r, l2, l3, l4, l5] (vR r :: st) h Q := tA_pure mB_X1_readSaying dX1_readSaying_21 rfl
theorem rX1_readSaying_22 : tA sc iX1_readSaying 22 ls (vR (some o) :: st) h Q = oz (tget h o [9] 10) (fun v => tA sc iX1_readSaying 25 ls (v :: st) h Q) := tA_get mB_X1_readSaying mO_X1_readSaying dX1_readSaying_22 fT_1_86
theorem rX1_readSaying_25 : tA sc iX1_readSaying 25 ls st h Q = tA sc iX1_readSaying 26 ls (vI (1) :: st) h Q := tA_pure mB_X1_readSaying dX1_readSaying_25 rfl
theorem rX1_readSaying_26 : tA sc iX1_readSaying 26 ls (vI y :: vI x :: st) h Q = tA sc iX1_readSaying 27 ls (vI (x - y) :: st) h Q := tA_pure mB_X1_readSaying dX1_readSaying_26 rfl
theorem rX1_readSaying_27 (hci : tcl h o = some 1) : tA sc iX1_readSaying 27 ls [vI p0, vR (some o)] h Q = tA sc iX1_takeNumber 0 [vR (some o), vI p0, vU] [] h (fun v h1 => tA sc iX1_readSaying 30 ls (tpu v []) h1 Q) := tA_cV mB_X1_readSaying mO_X1_readSaying dX1_readSaying_27 cT_1_59 rfl (Nat.le_of_ble_eq_true rfl) rfl rfl rfl hci
theorem rX1_readSaying_30 : tA sc iX1_readSaying 30 [l0, l1, l2, l3, l4, l5] (vI x :: st) h Q = tA sc iX1_readSaying 31 [l0, tclr l1, vI x, l3, l4, l5] st h Q := tA_pure mB_X1_readSaying dX1_readSaying_30 rfl
theorem rX1_readSaying_31 : tA sc iX1_readSaying 31 [vR r, l1, l2, l3, l4, l5] st h Q = tA sc iX1_readSaying 32 [vR r, l1, l2, l3, l4, l5] (vR r :: st) h Q := tA_pure mB_X1_readSaying dX1_readSaying_31 rfl
theorem rX1_readSaying_32 : tA sc iX1_readSaying 32 ls st h Q = tA sc iX1_readSaying 34 ls (vI (19) :: st) h Q := tA_pure mB_X1_readSaying dX1_readSaying_32 rfl
theorem rX1_readSaying_34 (hci : tcl h o = some 1) : tA sc iX1_readSaying 34 ls [vI p0, vR (some o)] h Q = tA sc iX1_takeNumber 0 [vR (some o), vI p0, vU] [] h (fun v h1 => tA sc iX1_readSaying 37 ls (tpu v []) h1 Q) := tA_cV mB_X1_readSaying mO_X1_readSaying dX1_readSaying_34 cT_1_59 rfl (Nat.le_of_ble_eq_true rfl) rfl rfl rfl hci
theorem rX1_readSaying_37 : tA sc iX1_readSaying 37 [l0, l1, l2, l3, l4, l5] (vI x :: st) h Q = tA sc iX1_readSaying 38 [l0, l1, tclr l2, vI x, l4, l5] st h Q := tA_pure mB_X1_readSaying dX1_readSaying_37 rfl
theorem rX1_readSaying_38 : tA sc iX1_readSaying 38 [vR r, l1, l2, l3, l4, l5] st h Q = tA sc iX1_readSaying 39 [vR r, l1, l2, l3, l4, l5] (vR r :: st) h Q := tA_pure mB_X1_readSaying dX1_readSaying_38 rfl
theorem rX1_readSaying_39 : tA sc iX1_readSaying 39 ls (vR (some o) :: st) h Q = oz (tget h o [1] 3) (fun v => tA sc iX1_readSaying 42 ls (v :: st) h Q) := tA_get mB_X1_readSaying mO_X1_readSaying dX1_readSaying_39 fT_1_68
theorem rX1_readSaying_42 : tA sc iX1_readSaying 42 [l0, l1, l2, l3, l4, l5] (vI x :: st) h Q = tA sc iX1_readSaying 44 [l0, l1, l2, tclr l3, vI x, l5] st h Q := tA_pure mB_X1_readSaying dX1_readSaying_42 rfl
theorem rX1_readSaying_44 : tA sc iX1_readSaying 44 [vR r, l1, l2, l3, l4, l5] st h Q = tA sc iX1_readSaying 45 [vR r, l1, l2, l3, l4, l5] (vR r :: st) h Q := tA_pure mB_X1_readSaying dX1_readSaying_44 rfl
theorem rX1_readSaying_45 : tA sc iX1_readSaying 45 ls st h Q = tA sc iX1_readSaying 46 ls (vI (3) :: st) h Q := tA_pure mB_X1_readSaying dX1_readSaying_45 rfl
theorem rX1_readSaying_46 (hci : tcl h o = some 1) : tA sc iX1_readSaying 46 ls [vI p0, vR (some o)] h Q = tA sc iX1_takeNumber 0 [vR (some o), vI p0, vU] [] h (fun v h1 => tA sc iX1_readSaying 49 ls (tpu v []) h1 Q) := tA_cV mB_X1_readSaying mO_X1_readSaying dX1_readSaying_46 cT_1_59 rfl (Nat.le_of_ble_eq_true rfl) rfl rfl rfl hci
theorem rX1_readSaying_49 : tA sc iX1_readSaying 49 [l0, l1, l2, l3, l4, l5] (vI x :: st) h Q = tA sc iX1_readSaying 51 [l0, l1, l2, l3, tclr l4, vI x] st h Q := tA_pure mB_X1_readSaying dX1_readSaying_49 rfl
theorem rX1_readSaying_51 : tA sc iX1_readSaying 51 [vR r, l1, l2, l3, l4, l5] st h Q = tA sc iX1_readSaying 52 [vR r, l1, l2, l3, l4, l5] (vR r :: st) h Q := tA_pure mB_X1_readSaying dX1_readSaying_51 rfl
theorem rX1_readSaying_52 : tA sc iX1_readSaying 52 ls (vR (some o) :: st) h Q = oz (tget h o [1] 5) (fun v => tA sc iX1_readSaying 55 ls (v :: st) h Q) := tA_get mB_X1_readSaying mO_X1_readSaying dX1_readSaying_52 fT_1_19
theorem rX1_readSaying_55 : tA sc iX1_readSaying 55 ls (vI x :: st) h Q = (if x < 0 then tA sc iX1_readSaying 59 ls st h Q else tA sc iX1_readSaying 58 ls st h Q) := tA_if mB_X1_readSaying dX1_readSaying_55 (fun _ _ _ _ => rfl) rfl
theorem rX1_readSaying_58 : tA sc iX1_readSaying 58 ls [] h Q = Q (none) h := tA_ret mB_X1_readSaying dX1_readSaying_58 (fun _ _ _ _ => rfl) (fun _ _ _ => rfl) (fun _ _ _ _ _ => rfl) rfl rfl
theorem rX1_readSaying_59 : tA sc iX1_readSaying 59 [l0, vR r, l2, l3, l4, l5] st h Q = tA sc iX1_readSaying 60 [l0, vR r, l2, l3, l4, l5] (vR r :: st) h Q := tA_pure mB_X1_readSaying dX1_readSaying_59 rfl
theorem rX1_readSaying_60 : tA sc iX1_readSaying 60 [l0, l1, l2, vI x, l4, l5] st h Q = tA sc iX1_readSaying 61 [l0, l1, l2, vI x, l4, l5] (vI x :: st) h Q := tA_pure mB_X1_readSaying dX1_readSaying_60 rfl
theorem rX1_readSaying_61 : tA sc iX1_readSaying 61 [l0, l1, l2, l3, l4, vI x] st h Q = tA sc iX1_readSaying 63 [l0, l1, l2, l3, l4, vI x] (vI x :: st) h Q := tA_pure mB_X1_readSaying dX1_readSaying_61 rfl
theorem rX1_readSaying_63 (hci : tcl h o = some 9) : tA sc iX1_readSaying 63 ls [vI p1, vI p0, vR (some o)] h Q = tA sc iX9_isSaid 0 [vR (some o), vI p0, vI p1] [] h (fun v h1 => tA sc iX1_readSaying 66 ls (tpu v []) h1 Q) := tA_cV mB_X1_readSaying mO_X1_readSaying dX1_readSaying_63 cT_1_100 rfl (Nat.le_of_ble_eq_true rfl) rfl rfl rfl hci
theorem rX1_readSaying_66 : tA sc iX1_readSaying 66 ls (vI x :: st) h Q = (if x = 0 then tA sc iX1_readSaying 76 ls st h Q else tA sc iX1_readSaying 69 ls st h Q) := tA_if mB_X1_readSaying dX1_readSaying_66 (fun _ _ _ _ => rfl) rfl
theorem rX1_readSaying_69 : tA sc iX1_readSaying 69 [vR r, l1, l2, l3, l4, l5] st h Q = tA sc iX1_readSaying 70 [vR r, l1, l2, l3, l4, l5] (vR r :: st) h Q := tA_pure mB_X1_readSaying dX1_readSaying_69 rfl
theorem rX1_readSaying_70 : tA sc iX1_readSaying 70 [l0, l1, l2, l3, vI x, l5] st h Q = tA sc iX1_readSaying 72 [l0, l1, l2, l3, vI x, l5] (vI x :: st) h Q := tA_pure mB_X1_readSaying dX1_readSaying_70 rfl
theorem rX1_readSaying_72 : tA sc iX1_readSaying 72 ls (v :: vR (some o) :: st) h Q = oz (tput h o [1] 5 0 v) (fun h' => tA sc iX1_readSaying 75 ls st h' Q) := tA_put mB_X1_readSaying mO_X1_readSaying dX1_readSaying_72 fT_1_19 (Or.inl (by decide))
theorem rX1_readSaying_75 : tA sc iX1_readSaying 75 ls [] h Q = Q (none) h := tA_ret mB_X1_readSaying dX1_readSaying_75 (fun _ _ _ _ => rfl) (fun _ _ _ => rfl) (fun _ _ _ _ _ => rfl) rfl rfl
theorem rX1_readSaying_76 : tA sc iX1_readSaying 76 [l0, vR r, l2, l3, l4, l5] st h Q = tA sc iX1_readSaying 77 [l0, vR r, l2, l3, l4, l5] (vR r :: st) h Q := tA_pure mB_X1_readSaying dX1_readSaying_76 rfl
theorem rX1_readSaying_77 : tA sc iX1_readSaying 77 [l0, l1, vI x, l3, l4, l5] st h Q = tA sc iX1_readSaying 78 [l0, l1, vI x, l3, l4, l5] (vI x :: st) h Q := tA_pure mB_X1_readSaying dX1_readSaying_77 rfl
theorem rX1_readSaying_78 : tA sc iX1_readSaying 78 [l0, l1, l2, vI x, l4, l5] st h Q = tA sc iX1_readSaying 79 [l0, l1, l2, vI x, l4, l5] (vI x :: st) h Q := tA_pure mB_X1_readSaying dX1_readSaying_78 rfl
theorem rX1_readSaying_79 : tA sc iX1_readSaying 79 [l0, l1, l2, l3, l4, vI x] st h Q = tA sc iX1_readSaying 81 [l0, l1, l2, l3, l4, vI x] (vI x :: st) h Q := tA_pure mB_X1_readSaying dX1_readSaying_79 rfl
theorem rX1_readSaying_81 (hci : tcl h o = some 9) : tA sc iX1_readSaying 81 ls [vI p2, vI p1, vI p0, vR (some o)] h Q = tA sc iX9_addSaying 0 [vR (some o), vI p0, vI p1, vI p2, vU] [] h (fun v h1 => tA sc iX1_readSaying 84 ls (tpu v []) h1 Q) := tA_cV mB_X1_readSaying mO_X1_readSaying dX1_readSaying_81 cT_1_104 rfl (Nat.le_of_ble_eq_true rfl) rfl rfl rfl hci
theorem rX1_readSaying_84 : tA sc iX1_readSaying 84 ls (vI x :: st) h Q = tA sc iX1_readSaying 85 ls st h Q := tA_pure mB_X1_readSaying dX1_readSaying_84 rfl
theorem rX1_readSaying_85 : tA sc iX1_readSaying 85 ls [] h Q = Q (none) h := tA_ret mB_X1_readSaying dX1_readSaying_85 (fun _ _ _ _ => rfl) (fun _ _ _ => rfl) (fun _ _ _ _ _ => rfl) rfl rfl
theorem mB_X1_readDay : mB iX1_readDay = cX1_readDay := rfl
theorem mO_X1_readDay : mO iX1_readDay = 1 := rfl
theorem rX1_readDay_0 : tA sc iX1_readDay 0 [vR r, l1, l2, l3] st h Q = tA sc iX1_readDay 1 [vR r, l1, l2, l3] (vR r :: st) h Q := tA_pure mB_X1_readDay dX1_readDay_0 rfl
theorem rX1_readDay_1 (hci : tcl h o = some 1) : tA sc iX1_readDay 1 ls [vR (some o)] h Q = tA sc iX1_step 0 [vR (some o)] [] h (fun v h1 => tA sc iX1_readDay 4 ls (tpu v []) h1 Q) := tA_cV mB_X1_readDay mO_X1_readDay dX1_readDay_1 cT_1_25 rfl (Nat.le_of_ble_eq_true rfl) rfl rfl rfl hci
theorem rX1_readDay_4 : tA sc iX1_readDay 4 [vR r, l1, l2, l3] st h Q = tA sc iX1_readDay 5 [vR r, l1, l2, l3] (vR r :: st) h Q := tA_pure mB_X1_readDay dX1_readDay_4 rfl
theorem rX1_readDay_5 : tA sc iX1_readDay 5 ls st h Q = tA sc iX1_readDay 7 ls (vI (19) :: st) h Q := tA_pure mB_X1_readDay dX1_readDay_5 rfl
theorem rX1_readDay_7 (hci : tcl h o = some 1) : tA sc iX1_readDay 7 ls [vI p0, vR (some o)] h Q = tA sc iX1_takeNumber 0 [vR (some o), vI p0, vU] [] h (fun v h1 => tA sc iX1_readDay 10 ls (tpu v []) h1 Q) := tA_cV mB_X1_readDay mO_X1_readDay dX1_readDay_7 cT_1_59 rfl (Nat.le_of_ble_eq_true rfl) rfl rfl rfl hci
theorem rX1_readDay_10 : tA sc iX1_readDay 10 [l0, l1, l2, l3] (vI x :: st) h Q = tA sc iX1_readDay 11 [l0, tclr l1, vI x, l3] st h Q := tA_pure mB_X1_readDay dX1_readDay_10 rfl
theorem rX1_readDay_11 : tA sc iX1_readDay 11 [vR r, l1, l2, l3] st h Q = tA sc iX1_readDay 12 [vR r, l1, l2, l3] (vR r :: st) h Q := tA_pure mB_X1_readDay dX1_readDay_11 rfl
theorem rX1_readDay_12 (hci : tcl h o = some 1) : tA sc iX1_readDay 12 ls [vR (some o)] h Q = tA sc iX1_takeWorthName 0 [vR (some o)] [] h (fun v h1 => tA sc iX1_readDay 15 ls (tpu v []) h1 Q) := tA_cV mB_X1_readDay mO_X1_readDay dX1_readDay_12 cT_1_108 rfl (Nat.le_of_ble_eq_true rfl) rfl rfl rfl hci
theorem rX1_readDay_15 : tA sc iX1_readDay 15 [vR r, l1, l2, l3] st h Q = tA sc iX1_readDay 16 [vR r, l1, l2, l3] (vR r :: st) h Q := tA_pure mB_X1_readDay dX1_readDay_15 rfl
theorem rX1_readDay_16 : tA sc iX1_readDay 16 ls st h Q = tA sc iX1_readDay 18 ls (vI (99) :: st) h Q := tA_pure mB_X1_readDay dX1_readDay_16 rfl
theorem rX1_readDay_18 (hci : tcl h o = some 1) : tA sc iX1_readDay 18 ls [vI p0, vR (some o)] h Q = tA sc iX1_takeNumber 0 [vR (some o), vI p0, vU] [] h (fun v h1 => tA sc iX1_readDay 21 ls (tpu v []) h1 Q) := tA_cV mB_X1_readDay mO_X1_readDay dX1_readDay_18 cT_1_59 rfl (Nat.le_of_ble_eq_true rfl) rfl rfl rfl hci
theorem rX1_readDay_21 : tA sc iX1_readDay 21 [l0, l1, l2, l3] (vI x :: st) h Q = tA sc iX1_readDay 22 [l0, l1, tclr l2, vI x] st h Q := tA_pure mB_X1_readDay dX1_readDay_21 rfl
theorem rX1_readDay_22 : tA sc iX1_readDay 22 [vR r, l1, l2, l3] st h Q = tA sc iX1_readDay 23 [vR r, l1, l2, l3] (vR r :: st) h Q := tA_pure mB_X1_readDay dX1_readDay_22 rfl
theorem rX1_readDay_23 : tA sc iX1_readDay 23 ls (vR (some o) :: st) h Q = oz (tget h o [1] 5) (fun v => tA sc iX1_readDay 26 ls (v :: st) h Q) := tA_get mB_X1_readDay mO_X1_readDay dX1_readDay_23 fT_1_19
theorem rX1_readDay_26 : tA sc iX1_readDay 26 ls (vI x :: st) h Q = (if x < 0 then tA sc iX1_readDay 30 ls st h Q else tA sc iX1_readDay 29 ls st h Q) := tA_if mB_X1_readDay dX1_readDay_26 (fun _ _ _ _ => rfl) rfl
theorem rX1_readDay_29 : tA sc iX1_readDay 29 ls [] h Q = Q (none) h := tA_ret mB_X1_readDay dX1_readDay_29 (fun _ _ _ _ => rfl) (fun _ _ _ => rfl) (fun _ _ _ _ _ => rfl) rfl rfl
theorem rX1_readDay_30 : tA sc iX1_readDay 30 [l0, vR r, l2, l3] st h Q = tA sc iX1_readDay 31 [l0, vR r, l2, l3] (vR r :: st) h Q := tA_pure mB_X1_readDay dX1_readDay_30 rfl
theorem rX1_readDay_31 : tA sc iX1_readDay 31 [l0, l1, vI x, l3] st h Q = tA sc iX1_readDay 32 [l0, l1, vI x, l3] (vI x :: st) h Q := tA_pure mB_X1_readDay dX1_readDay_31 rfl
theorem rX1_readDay_32 (hci : tcl h o = some 9) : tA sc iX1_readDay 32 ls [vI p0, vR (some o)] h Q = tA sc iX9_forgetDay 0 [vR (some o), vI p0, vU] [] h (fun v h1 => tA sc iX1_readDay 35 ls (tpu v []) h1 Q) := tA_cV mB_X1_readDay mO_X1_readDay dX1_readDay_32 cT_1_111 rfl (Nat.le_of_ble_eq_true rfl) rfl rfl rfl hci
theorem rX1_readDay_35 : tA sc iX1_readDay 35 [l0, vR r, l2, l3] st h Q = tA sc iX1_readDay 36 [l0, vR r, l2, l3] (vR r :: st) h Q := tA_pure mB_X1_readDay dX1_readDay_35 rfl
theorem rX1_readDay_36 : tA sc iX1_readDay 36 ls (vR (some o) :: st) h Q = oz (tget h o [9] 0) (fun v => tA sc iX1_readDay 39 ls (v :: st) h Q) := tA_get mB_X1_readDay mO_X1_readDay dX1_readDay_36 fT_1_115
theorem rX1_readDay_39 : tA sc iX1_readDay 39 [l0, l1, vI x, l3] st h Q = tA sc iX1_readDay 40 [l0, l1, vI x, l3] (vI x :: st) h Q := tA_pure mB_X1_readDay dX1_readDay_39 rfl
theorem rX1_readDay_40 : tA sc iX1_readDay 40 [l0, l1, l2, vI x] st h Q = tA sc iX1_readDay 41 [l0, l1, l2, vI x] (vI x :: st) h Q := tA_pure mB_X1_readDay dX1_readDay_40 rfl
theorem rX1_readDay_41 : tA sc iX1_readDay 41 ls (vI x :: vI j :: vR (some a) :: st) h Q = oz (tasi h a j x) (fun h' => tA sc iX1_readDay 42 ls st h' Q) := tA_iast mB_X1_readDay dX1_readDay_41
theorem rX1_readDay_42 : tA sc iX1_readDay 42 [vR r, l1, l2, l3] st h Q = tA sc iX1_readDay 43 [vR r, l1, l2, l3] (vR r :: st) h Q := tA_pure mB_X1_readDay dX1_readDay_42 rfl
theorem rX1_readDay_43 : tA sc iX1_readDay 43 ls st h Q = tA sc iX1_readDay 45 ls (vR (some 1000000011) :: st) h Q := tA_pure mB_X1_readDay dX1_readDay_43 rfl
theorem rX1_readDay_45 (hci : tcl h o = some 1) : tA sc iX1_readDay 45 ls [vR n0, vR (some o)] h Q = tA sc iX1_isName 0 [vR (some o), vR n0, vU] [] h (fun v h1 => tA sc iX1_readDay 48 ls (tpu v []) h1 Q) := tA_cV mB_X1_readDay mO_X1_readDay dX1_readDay_45 cT_1_45 rfl (Nat.le_of_ble_eq_true rfl) rfl rfl rfl hci
theorem rX1_readDay_48 : tA sc iX1_readDay 48 ls (vI x :: st) h Q = (if x = 0 then tA sc iX1_readDay 61 ls st h Q else tA sc iX1_readDay 51 ls st h Q) := tA_if mB_X1_readDay dX1_readDay_48 (fun _ _ _ _ => rfl) rfl
theorem rX1_readDay_51 : tA sc iX1_readDay 51 [vR r, l1, l2, l3] st h Q = tA sc iX1_readDay 52 [vR r, l1, l2, l3] (vR r :: st) h Q := tA_pure mB_X1_readDay dX1_readDay_51 rfl
theorem rX1_readDay_52 (hci : tcl h o = some 1) : tA sc iX1_readDay 52 ls [vR (some o)] h Q = tA sc iX1_step 0 [vR (some o)] [] h (fun v h1 => tA sc iX1_readDay 55 ls (tpu v []) h1 Q) := tA_cV mB_X1_readDay mO_X1_readDay dX1_readDay_52 cT_1_25 rfl (Nat.le_of_ble_eq_true rfl) rfl rfl rfl hci
theorem rX1_readDay_55 : tA sc iX1_readDay 55 [vR r, l1, l2, l3] st h Q = tA sc iX1_readDay 56 [vR r, l1, l2, l3] (vR r :: st) h Q := tA_pure mB_X1_readDay dX1_readDay_55 rfl
theorem rX1_readDay_56 : tA sc iX1_readDay 56 [l0, vR r, l2, l3] st h Q = tA sc iX1_readDay 57 [l0, vR r, l2, l3] (vR r :: st) h Q := tA_pure mB_X1_readDay dX1_readDay_56 rfl
theorem rX1_readDay_57 : tA sc iX1_readDay 57 [l0, l1, vI x, l3] st h Q = tA sc iX1_readDay 58 [l0, l1, vI x, l3] (vI x :: st) h Q := tA_pure mB_X1_readDay dX1_readDay_57 rfl
theorem rX1_readDay_58 (hci : tcl h o = some 1) : tA sc iX1_readDay 58 ls [vI p1, vR n0, vR (some o)] h Q = tA sc iX1_readWeights 0 [vR (some o), vR n0, vI p1, vU, vU] [] h (fun v h1 => tA sc iX1_readDay 61 ls (tpu v []) h1 Q) := tA_cV mB_X1_readDay mO_X1_readDay dX1_readDay_58 cT_1_121 rfl (Nat.le_of_ble_eq_true rfl) rfl rfl rfl hci
theorem rX1_readDay_61 : tA sc iX1_readDay 61 [vR r, l1, l2, l3] st h Q = tA sc iX1_readDay 62 [vR r, l1, l2, l3] (vR r :: st) h Q := tA_pure mB_X1_readDay dX1_readDay_61 rfl
theorem rX1_readDay_62 : tA sc iX1_readDay 62 ls (vR (some o) :: st) h Q = oz (tget h o [1] 5) (fun v => tA sc iX1_readDay 65 ls (v :: st) h Q) := tA_get mB_X1_readDay mO_X1_readDay dX1_readDay_62 fT_1_19
theorem rX1_readDay_65 : tA sc iX1_readDay 65 ls (vI x :: st) h Q = (if 0 ≤ x then tA sc iX1_readDay 92 ls st h Q else tA sc iX1_readDay 68 ls st h Q) := tA_if mB_X1_readDay dX1_readDay_65 (fun _ _ _ _ => rfl) rfl
theorem rX1_readDay_68 : tA sc iX1_readDay 68 [vR r, l1, l2, l3] st h Q = tA sc iX1_readDay 69 [vR r, l1, l2, l3] (vR r :: st) h Q := tA_pure mB_X1_readDay dX1_readDay_68 rfl
theorem rX1_readDay_69 : tA sc iX1_readDay 69 ls st h Q = tA sc iX1_readDay 71 ls (vR (some 1000000012) :: st) h Q := tA_pure mB_X1_readDay dX1_readDay_69 rfl
theorem rX1_readDay_71 (hci : tcl h o = some 1) : tA sc iX1_readDay 71 ls [vR n0, vR (some o)] h Q = tA sc iX1_isName 0 [vR (some o), vR n0, vU] [] h (fun v h1 => tA sc iX1_readDay 74 ls (tpu v []) h1 Q) := tA_cV mB_X1_readDay mO_X1_readDay dX1_readDay_71 cT_1_45 rfl (Nat.le_of_ble_eq_true rfl) rfl rfl rfl hci
theorem rX1_readDay_74 : tA sc iX1_readDay 74 ls (vI x :: st) h Q = (if x = 0 then tA sc iX1_readDay 92 ls st h Q else tA sc iX1_readDay 77 ls st h Q) := tA_if mB_X1_readDay dX1_readDay_74 (fun _ _ _ _ => rfl) rfl
theorem rX1_readDay_77 : tA sc iX1_readDay 77 [vR r, l1, l2, l3] st h Q = tA sc iX1_readDay 78 [vR r, l1, l2, l3] (vR r :: st) h Q := tA_pure mB_X1_readDay dX1_readDay_77 rfl
theorem rX1_readDay_78 (hci : tcl h o = some 1) : tA sc iX1_readDay 78 ls [vR (some o)] h Q = tA sc iX1_step 0 [vR (some o)] [] h (fun v h1 => tA sc iX1_readDay 81 ls (tpu v []) h1 Q) := tA_cV mB_X1_readDay mO_X1_readDay dX1_readDay_78 cT_1_25 rfl (Nat.le_of_ble_eq_true rfl) rfl rfl rfl hci
theorem rX1_readDay_81 : tA sc iX1_readDay 81 [l0, vR r, l2, l3] st h Q = tA sc iX1_readDay 82 [l0, vR r, l2, l3] (vR r :: st) h Q := tA_pure mB_X1_readDay dX1_readDay_81 rfl
theorem rX1_readDay_82 : tA sc iX1_readDay 82 ls (vR (some o) :: st) h Q = oz (tget h o [9] 2) (fun v => tA sc iX1_readDay 85 ls (v :: st) h Q) := tA_get mB_X1_readDay mO_X1_readDay dX1_readDay_82 fT_1_126
theorem rX1_readDay_85 : tA sc iX1_readDay 85 [l0, l1, vI x, l3] st h Q = tA sc iX1_readDay 86 [l0, l1, vI x, l3] (vI x :: st) h Q := tA_pure mB_X1_readDay dX1_readDay_85 rfl
theorem rX1_readDay_86 : tA sc iX1_readDay 86 [vR r, l1, l2, l3] st h Q = tA sc iX1_readDay 87 [vR r, l1, l2, l3] (vR r :: st) h Q := tA_pure mB_X1_readDay dX1_readDay_86 rfl
theorem rX1_readDay_87 : tA sc iX1_readDay 87 ls st h Q = tA sc iX1_readDay 88 ls (vI (3) :: st) h Q := tA_pure mB_X1_readDay dX1_readDay_87 rfl
theorem rX1_readDay_88 (hci : tcl h o = some 1) : tA sc iX1_readDay 88 ls [vI p0, vR (some o), s0, s1] h Q = tA sc iX1_takeNumber 0 [vR (some o), vI p0, vU] [] h (fun v h1 => tA sc iX1_readDay 91 ls (tpu v [s0, s1]) h1 Q) := tA_cV mB_X1_readDay mO_X1_readDay dX1_readDay_88 cT_1_59 rfl (Nat.le_of_ble_eq_true rfl) rfl rfl rfl hci
theorem rX1_readDay_91 : tA sc iX1_readDay 91 ls (vI x :: vI j :: vR (some a) :: st) h Q = oz (tasi h a j x) (fun h' => tA sc iX1_readDay 92 ls st h' Q) := tA_iast mB_X1_readDay dX1_readDay_91
theorem rX1_readDay_92 : tA sc iX1_readDay 92 ls [] h Q = Q (none) h := tA_ret mB_X1_readDay dX1_readDay_92 (fun _ _ _ _ => rfl) (fun _ _ _ => rfl) (fun _ _ _ _ _ => rfl) rfl rfl
theorem mB_X1_readWeights : mB iX1_readWeights = cX1_readWeights := rfl
theorem mO_X1_readWeights : mO iX1_readWeights = 1 := rfl
theorem rX1_readWeights_0 : tA sc iX1_readWeights 0 [vR r, l1, l2, l3, l4] st h Q = tA sc iX1_readWeights 1 [vR r, l1, l2, l3, l4] (vR r :: st) h Q := tA_pure mB_X1_readWeights dX1_readWeights_0 rfl
theorem rX1_readWeights_1 : tA sc iX1_readWeights 1 ls (vR (some o) :: st) h Q = oz (tget h o [1] 3) (fun v => tA sc iX1_readWeights 4 ls (v :: st) h Q) := tA_get mB_X1_readWeights mO_X1_readWeights dX1_readWeights_1 fT_1_68
theorem rX1_readWeights_4 : tA sc iX1_readWeights 4 [l0, l1, l2, l3, l4] (vI x :: st) h Q = tA sc iX1_readWeights 5 [l0, l1, tclr l2, vI x, l4] st h Q := tA_pure mB_X1_readWeights dX1_readWeights_4 rfl
theorem rX1_readWeights_5 : tA sc iX1_readWeights 5 ls st h Q = tA sc iX1_readWeights 6 ls (vI (0) :: st) h Q := tA_pure mB_X1_readWeights dX1_readWeights_5 rfl
theorem rX1_readWeights_6 : tA sc iX1_readWeights 6 [l0, l1, l2, l3, l4] (vI x :: st) h Q = tA sc iX1_readWeights 8 [l0, l1, l2, tclr l3, vI x] st h Q := tA_pure mB_X1_readWeights dX1_readWeights_6 rfl
theorem rX1_readWeights_8 : tA sc iX1_readWeights 8 [l0, l1, l2, l3, vI x] st h Q = tA sc iX1_readWeights 10 [l0, l1, l2, l3, vI x] (vI x :: st) h Q := tA_pure mB_X1_readWeights dX1_readWeights_8 rfl
theorem rX1_readWeights_10 : tA sc iX1_readWeights 10 ls st h Q = tA sc iX1_readWeights 11 ls (vI (4) :: st) h Q := tA_pure mB_X1_readWeights dX1_readWeights_10 rfl
theorem rX1_readWeights_11 : tA sc iX1_readWeights 11 ls (vI y :: vI x :: st) h Q = (if y ≤ x then tA sc iX1_readWeights 42 ls st h Q else tA sc iX1_readWeights 14 ls st h Q) := tA_if mB_X1_readWeights dX1_readWeights_11 (fun _ _ _ _ => rfl) rfl
theorem rX1_readWeights_14 : tA sc iX1_readWeights 14 [vR r, l1, l2, l3, l4] st h Q = tA sc iX1_readWeights 15 [vR r, l1, l2, l3, l4] (vR r :: st) h Q := tA_pure mB_X1_readWeights dX1_readWeights_14 rfl
theorem rX1_readWeights_15 : tA sc iX1_readWeights 15 ls (vR (some o) :: st) h Q = oz (tget h o [1] 3) (fun v => tA sc iX1_readWeights 18 ls (v :: st) h Q) := tA_get mB_X1_readWeights mO_X1_readWeights dX1_readWeights_15 fT_1_68
theorem rX1_readWeights_18 : tA sc iX1_readWeights 18 [l0, l1, l2, l3, l4] (vI x :: st) h Q = tA sc iX1_readWeights 19 [l0, l1, tclr l2, vI x, l4] st h Q := tA_pure mB_X1_readWeights dX1_readWeights_18 rfl
theorem rX1_readWeights_19 : tA sc iX1_readWeights 19 [l0, vR r, l2, l3, l4] st h Q = tA sc iX1_readWeights 20 [l0, vR r, l2, l3, l4] (vR r :: st) h Q := tA_pure mB_X1_readWeights dX1_readWeights_19 rfl
theorem rX1_readWeights_20 : tA sc iX1_readWeights 20 ls (vR (some o) :: st) h Q = oz (tget h o [9] 1) (fun v => tA sc iX1_readWeights 23 ls (v :: st) h Q) := tA_get mB_X1_readWeights mO_X1_readWeights dX1_readWeights_20 fT_1_129
theorem rX1_readWeights_23 : tA sc iX1_readWeights 23 [l0, l1, vI x, l3, l4] st h Q = tA sc iX1_readWeights 24 [l0, l1, vI x, l3, l4] (vI x :: st) h Q := tA_pure mB_X1_readWeights dX1_readWeights_23 rfl
theorem rX1_readWeights_24 : tA sc iX1_readWeights 24 ls st h Q = tA sc iX1_readWeights 25 ls (vI (4) :: st) h Q := tA_pure mB_X1_readWeights dX1_readWeights_24 rfl
theorem rX1_readWeights_25 : tA sc iX1_readWeights 25 ls (vI y :: vI x :: st) h Q = tA sc iX1_readWeights 26 ls (vI (x * y) :: st) h Q := tA_pure mB_X1_readWeights dX1_readWeights_25 rfl
theorem rX1_readWeights_26 : tA sc iX1_readWeights 26 [l0, l1, l2, l3, vI x] st h Q = tA sc iX1_readWeights 28 [l0, l1, l2, l3, vI x] (vI x :: st) h Q := tA_pure mB_X1_readWeights dX1_readWeights_26 rfl
theorem rX1_readWeights_28 : tA sc iX1_readWeights 28 ls (vI y :: vI x :: st) h Q = tA sc iX1_readWeights 29 ls (vI (x + y) :: st) h Q := tA_pure mB_X1_readWeights dX1_readWeights_28 rfl
theorem rX1_readWeights_29 : tA sc iX1_readWeights 29 [vR r, l1, l2, l3, l4] st h Q = tA sc iX1_readWeights 30 [vR r, l1, l2, l3, l4] (vR r :: st) h Q := tA_pure mB_X1_readWeights dX1_readWeights_29 rfl
theorem rX1_readWeights_30 : tA sc iX1_readWeights 30 ls st h Q = tA sc iX1_readWeights 32 ls (vI (9) :: st) h Q := tA_pure mB_X1_readWeights dX1_readWeights_30 rfl
theorem rX1_readWeights_32 (hci : tcl h o = some 1) : tA sc iX1_readWeights 32 ls [vI p0, vR (some o), s0, s1] h Q = tA sc iX1_takeNumber 0 [vR (some o), vI p0, vU] [] h (fun v h1 => tA sc iX1_readWeights 35 ls (tpu v [s0, s1]) h1 Q) := tA_cV mB_X1_readWeights mO_X1_readWeights dX1_readWeights_32 cT_1_59 rfl (Nat.le_of_ble_eq_true rfl) rfl rfl rfl hci
theorem rX1_readWeights_35 : tA sc iX1_readWeights 35 ls (vI x :: vI j :: vR (some a) :: st) h Q = oz (tasi h a j x) (fun h' => tA sc iX1_readWeights 36 ls st h' Q) := tA_iast mB_X1_readWeights dX1_readWeights_35
theorem rX1_readWeights_36 : tA sc iX1_readWeights 36 [l0, l1, l2, l3, vI x] st h Q = tA sc iX1_readWeights 39 [l0, l1, l2, tclr l3, vI (x + 1)] st h Q := tA_pure mB_X1_readWeights dX1_readWeights_36 rfl
theorem rX1_readWeights_39 : tA sc iX1_readWeights 39 ls st h Q = tA sc iX1_readWeights 8 ls st h Q := tA_jump mB_X1_readWeights dX1_readWeights_39 (fun _ _ _ _ => rfl) rfl
theorem rX1_readWeights_42 : tA sc iX1_readWeights 42 [vR r, l1, l2, l3, l4] st h Q = tA sc iX1_readWeights 43 [vR r, l1, l2, l3, l4] (vR r :: st) h Q := tA_pure mB_X1_readWeights dX1_readWeights_42 rfl
theorem rX1_readWeights_43 : tA sc iX1_readWeights 43 ls (vR (some o) :: st) h Q = oz (tget h o [1] 5) (fun v => tA sc iX1_readWeights 46 ls (v :: st) h Q) := tA_get mB_X1_readWeights mO_X1_readWeights dX1_readWeights_43 fT_1_19
theorem rX1_readWeights_46 : tA sc iX1_readWeights 46 ls (vI x :: st) h Q = (if 0 ≤ x then tA sc iX1_readWeights 63 ls st h Q else tA sc iX1_readWeights 49 ls st h Q) := tA_if mB_X1_readWeights dX1_readWeights_46 (fun _ _ _ _ => rfl) rfl
theorem rX1_readWeights_49 : tA sc iX1_readWeights 49 [l0, vR r, l2, l3, l4] st h Q = tA sc iX1_readWeights 50 [l0, vR r, l2, l3, l4] (vR r :: st) h Q := tA_pure mB_X1_readWeights dX1_readWeights_49 rfl
theorem rX1_readWeights_50 : tA sc iX1_readWeights 50 [l0, l1, vI x, l3, l4] st h Q = tA sc iX1_readWeights 51 [l0, l1, vI x, l3, l4] (vI x :: st) h Q := tA_pure mB_X1_readWeights dX1_readWeights_50 rfl
theorem rX1_readWeights_51 : tA sc iX1_readWeights 51 ls st h Q = tA sc iX1_readWeights 52 ls (vI (-1) :: st) h Q := tA_pure mB_X1_readWeights dX1_readWeights_51 rfl
theorem rX1_readWeights_52 (hci : tcl h o = some 9) : tA sc iX1_readWeights 52 ls [vI p1, vI p0, vR (some o)] h Q = tA sc iX9_allWith 0 [vR (some o), vI p0, vI p1, vU, vU] [] h (fun v h1 => tA sc iX1_readWeights 55 ls (tpu v []) h1 Q) := tA_cV mB_X1_readWeights mO_X1_readWeights dX1_readWeights_52 cT_1_132 rfl (Nat.le_of_ble_eq_true rfl) rfl rfl rfl hci
theorem rX1_readWeights_55 : tA sc iX1_readWeights 55 ls (vI x :: st) h Q = (if ¬ x = 0 then tA sc iX1_readWeights 63 ls st h Q else tA sc iX1_readWeights 58 ls st h Q) := tA_if mB_X1_readWeights dX1_readWeights_55 (fun _ _ _ _ => rfl) rfl
theorem rX1_readWeights_58 : tA sc iX1_readWeights 58 [vR r, l1, l2, l3, l4] st h Q = tA sc iX1_readWeights 59 [vR r, l1, l2, l3, l4] (vR r :: st) h Q := tA_pure mB_X1_readWeights dX1_readWeights_58 rfl
theorem rX1_readWeights_59 : tA sc iX1_readWeights 59 [l0, l1, l2, vI x, l4] st h Q = tA sc iX1_readWeights 60 [l0, l1, l2, vI x, l4] (vI x :: st) h Q := tA_pure mB_X1_readWeights dX1_readWeights_59 rfl
theorem rX1_readWeights_60 : tA sc iX1_readWeights 60 ls (v :: vR (some o) :: st) h Q = oz (tput h o [1] 5 0 v) (fun h' => tA sc iX1_readWeights 63 ls st h' Q) := tA_put mB_X1_readWeights mO_X1_readWeights dX1_readWeights_60 fT_1_19 (Or.inl (by decide))
theorem rX1_readWeights_63 : tA sc iX1_readWeights 63 ls [] h Q = Q (none) h := tA_ret mB_X1_readWeights dX1_readWeights_63 (fun _ _ _ _ => rfl) (fun _ _ _ => rfl) (fun _ _ _ _ _ => rfl) rfl rfl
theorem mB_X1_takeWorthName : mB iX1_takeWorthName = cX1_takeWorthName := rfl
theorem mO_X1_takeWorthName : mO iX1_takeWorthName = 1 := rfl
theorem rX1_takeWorthName_0 : tA sc iX1_takeWorthName 0 [vR r] st h Q = tA sc iX1_takeWorthName 1 [vR r] (vR r :: st) h Q := tA_pure mB_X1_takeWorthName dX1_takeWorthName_0 rfl
theorem rX1_takeWorthName_1 : tA sc iX1_takeWorthName 1 ls (vR (some o) :: st) h Q = oz (tget h o [1] 5) (fun v => tA sc iX1_takeWorthName 4 ls (v :: st) h Q) := tA_get mB_X1_takeWorthName mO_X1_takeWorthName dX1_takeWorthName_1 fT_1_19
theorem rX1_takeWorthName_4 : tA sc iX1_takeWorthName 4 ls (vI x :: st) h Q = (if x < 0 then tA sc iX1_takeWorthName 8 ls st h Q else tA sc iX1_takeWorthName 7 ls st h Q) := tA_if mB_X1_takeWorthName dX1_takeWorthName_4 (fun _ _ _ _ => rfl) rfl
theorem rX1_takeWorthName_7 : tA sc iX1_takeWorthName 7 ls [] h Q = Q (none) h := tA_ret mB_X1_takeWorthName dX1_takeWorthName_7 (fun _ _ _ _ => rfl) (fun _ _ _ => rfl) (fun _ _ _ _ _ => rfl) rfl rfl
theorem rX1_takeWorthName_8 : tA sc iX1_takeWorthName 8 [vR r] st h Q = tA sc iX1_takeWorthName 9 [vR r] (vR r :: st) h Q := tA_pure mB_X1_takeWorthName dX1_takeWorthName_8 rfl
theorem rX1_takeWorthName_9 : tA sc iX1_takeWorthName 9 ls st h Q = tA sc iX1_takeWorthName 11 ls (vR (some 1000000010) :: st) h Q := tA_pure mB_X1_takeWorthName dX1_takeWorthName_9 rfl
theorem rX1_takeWorthName_11 (hci : tcl h o = some 1) : tA sc iX1_takeWorthName 11 ls [vR n0, vR (some o)] h Q = tA sc iX1_isName 0 [vR (some o), vR n0, vU] [] h (fun v h1 => tA sc iX1_takeWorthName 14 ls (tpu v []) h1 Q) := tA_cV mB_X1_takeWorthName mO_X1_takeWorthName dX1_takeWorthName_11 cT_1_45 rfl (Nat.le_of_ble_eq_true rfl) rfl rfl rfl hci
theorem rX1_takeWorthName_14 : tA sc iX1_takeWorthName 14 ls (vI x :: st) h Q = (if ¬ x = 0 then tA sc iX1_takeWorthName 26 ls st h Q else tA sc iX1_takeWorthName 17 ls st h Q) := tA_if mB_X1_takeWorthName dX1_takeWorthName_14 (fun _ _ _ _ => rfl) rfl
theorem rX1_takeWorthName_17 : tA sc iX1_takeWorthName 17 [vR r] st h Q = tA sc iX1_takeWorthName 18 [vR r] (vR r :: st) h Q := tA_pure mB_X1_takeWorthName dX1_takeWorthName_17 rfl
theorem rX1_takeWorthName_18 : tA sc iX1_takeWorthName 18 [vR r] st h Q = tA sc iX1_takeWorthName 19 [vR r] (vR r :: st) h Q := tA_pure mB_X1_takeWorthName dX1_takeWorthName_18 rfl
theorem rX1_takeWorthName_19 : tA sc iX1_takeWorthName 19 ls (vR (some o) :: st) h Q = oz (tget h o [1] 3) (fun v => tA sc iX1_takeWorthName 22 ls (v :: st) h Q) := tA_get mB_X1_takeWorthName mO_X1_takeWorthName dX1_takeWorthName_19 fT_1_68
theorem rX1_takeWorthName_22 : tA sc iX1_takeWorthName 22 ls (v :: vR (some o) :: st) h Q = oz (tput h o [1] 5 0 v) (fun h' => tA sc iX1_takeWorthName 25 ls st h' Q) := tA_put mB_X1_takeWorthName mO_X1_takeWorthName dX1_takeWorthName_22 fT_1_19 (Or.inl (by decide))
theorem rX1_takeWorthName_25 : tA sc iX1_takeWorthName 25 ls [] h Q = Q (none) h := tA_ret mB_X1_takeWorthName dX1_takeWorthName_25 (fun _ _ _ _ => rfl) (fun _ _ _ => rfl) (fun _ _ _ _ _ => rfl) rfl rfl
theorem rX1_takeWorthName_26 : tA sc iX1_takeWorthName 26 [vR r] st h Q = tA sc iX1_takeWorthName 27 [vR r] (vR r :: st) h Q := tA_pure mB_X1_takeWorthName dX1_takeWorthName_26 rfl
theorem rX1_takeWorthName_27 (hci : tcl h o = some 1) : tA sc iX1_takeWorthName 27 ls [vR (some o)] h Q = tA sc iX1_step 0 [vR (some o)] [] h (fun v h1 => tA sc iX1_takeWorthName 30 ls (tpu v []) h1 Q) := tA_cV mB_X1_takeWorthName mO_X1_takeWorthName dX1_takeWorthName_27 cT_1_25 rfl (Nat.le_of_ble_eq_true rfl) rfl rfl rfl hci
theorem rX1_takeWorthName_30 : tA sc iX1_takeWorthName 30 ls [] h Q = Q (none) h := tA_ret mB_X1_takeWorthName dX1_takeWorthName_30 (fun _ _ _ _ => rfl) (fun _ _ _ => rfl) (fun _ _ _ _ _ => rfl) rfl rfl
theorem mB_X1_takeSemicolon : mB iX1_takeSemicolon = cX1_takeSemicolon := rfl
theorem mO_X1_takeSemicolon : mO iX1_takeSemicolon = 1 := rfl
theorem rX1_takeSemicolon_0 : tA sc iX1_takeSemicolon 0 [vR r] st h Q = tA sc iX1_takeSemicolon 1 [vR r] (vR r :: st) h Q := tA_pure mB_X1_takeSemicolon dX1_takeSemicolon_0 rfl
theorem rX1_takeSemicolon_1 : tA sc iX1_takeSemicolon 1 ls (vR (some o) :: st) h Q = oz (tget h o [1] 5) (fun v => tA sc iX1_takeSemicolon 4 ls (v :: st) h Q) := tA_get mB_X1_takeSemicolon mO_X1_takeSemicolon dX1_takeSemicolon_1 fT_1_19
theorem rX1_takeSemicolon_4 : tA sc iX1_takeSemicolon 4 ls (vI x :: st) h Q = (if x < 0 then tA sc iX1_takeSemicolon 8 ls st h Q else tA sc iX1_takeSemicolon 7 ls st h Q) := tA_if mB_X1_takeSemicolon dX1_takeSemicolon_4 (fun _ _ _ _ => rfl) rfl
theorem rX1_takeSemicolon_7 : tA sc iX1_takeSemicolon 7 ls [] h Q = Q (none) h := tA_ret mB_X1_takeSemicolon dX1_takeSemicolon_7 (fun _ _ _ _ => rfl) (fun _ _ _ => rfl) (fun _ _ _ _ _ => rfl) rfl rfl
theorem rX1_takeSemicolon_8 : tA sc iX1_takeSemicolon 8 [vR r] st h Q = tA sc iX1_takeSemicolon 9 [vR r] (vR r :: st) h Q := tA_pure mB_X1_takeSemicolon dX1_takeSemicolon_8 rfl
theorem rX1_takeSemicolon_9 : tA sc iX1_takeSemicolon 9 ls (vR (some o) :: st) h Q = oz (tget h o [1] 2) (fun v => tA sc iX1_takeSemicolon 12 ls (v :: st) h Q) := tA_get mB_X1_takeSemicolon mO_X1_takeSemicolon dX1_takeSemicolon_9 fT_1_28
theorem rX1_takeSemicolon_12 : tA sc iX1_takeSemicolon 12 ls st h Q = tA sc iX1_takeSemicolon 13 ls (vI (3) :: st) h Q := tA_pure mB_X1_takeSemicolon dX1_takeSemicolon_12 rfl
theorem rX1_takeSemicolon_13 : tA sc iX1_takeSemicolon 13 ls (vI y :: vI x :: st) h Q = (if ¬ x = y then tA sc iX1_takeSemicolon 30 ls st h Q else tA sc iX1_takeSemicolon 16 ls st h Q) := tA_if mB_X1_takeSemicolon dX1_takeSemicolon_13 (fun _ _ _ _ => rfl) rfl
theorem rX1_takeSemicolon_16 : tA sc iX1_takeSemicolon 16 [vR r] st h Q = tA sc iX1_takeSemicolon 17 [vR r] (vR r :: st) h Q := tA_pure mB_X1_takeSemicolon dX1_takeSemicolon_16 rfl
theorem rX1_takeSemicolon_17 : tA sc iX1_takeSemicolon 17 ls (vR (some o) :: st) h Q = oz (tget h o [1] 0) (fun v => tA sc iX1_takeSemicolon 20 ls (v :: st) h Q) := tA_get mB_X1_takeSemicolon mO_X1_takeSemicolon dX1_takeSemicolon_17 fT_1_9
theorem rX1_takeSemicolon_20 : tA sc iX1_takeSemicolon 20 [vR r] st h Q = tA sc iX1_takeSemicolon 21 [vR r] (vR r :: st) h Q := tA_pure mB_X1_takeSemicolon dX1_takeSemicolon_20 rfl
theorem rX1_takeSemicolon_21 : tA sc iX1_takeSemicolon 21 ls (vR (some o) :: st) h Q = oz (tget h o [1] 3) (fun v => tA sc iX1_takeSemicolon 24 ls (v :: st) h Q) := tA_get mB_X1_takeSemicolon mO_X1_takeSemicolon dX1_takeSemicolon_21 fT_1_68
theorem rX1_takeSemicolon_24 : tA sc iX1_takeSemicolon 24 ls (vI j :: vR (some a) :: st) h Q = oz (tald sc h 1 a j) (fun v => tA sc iX1_takeSemicolon 25 ls (vI v :: st) h Q) := tA_bald mB_X1_takeSemicolon dX1_takeSemicolon_24
theorem rX1_takeSemicolon_25 : tA sc iX1_takeSemicolon 25 ls st h Q = tA sc iX1_takeSemicolon 27 ls (vI (59) :: st) h Q := tA_pure mB_X1_takeSemicolon dX1_takeSemicolon_25 rfl
theorem rX1_takeSemicolon_27 : tA sc iX1_takeSemicolon 27 ls (vI y :: vI x :: st) h Q = (if x = y then tA sc iX1_takeSemicolon 39 ls st h Q else tA sc iX1_takeSemicolon 30 ls st h Q) := tA_if mB_X1_takeSemicolon dX1_takeSemicolon_27 (fun _ _ _ _ => rfl) rfl
theorem rX1_takeSemicolon_30 : tA sc iX1_takeSemicolon 30 [vR r] st h Q = tA sc iX1_takeSemicolon 31 [vR r] (vR r :: st) h Q := tA_pure mB_X1_takeSemicolon dX1_takeSemicolon_30 rfl
theorem rX1_takeSemicolon_31 : tA sc iX1_takeSemicolon 31 [vR r] st h Q = tA sc iX1_takeSemicolon 32 [vR r] (vR r :: st) h Q := tA_pure mB_X1_takeSemicolon dX1_takeSemicolon_31 rfl
theorem rX1_takeSemicolon_32 : tA sc iX1_takeSemicolon 32 ls (vR (some o) :: st) h Q = oz (tget h o [1] 3) (fun v => tA sc iX1_takeSemicolon 35 ls (v :: st) h Q) := tA_get mB_X1_takeSemicolon mO_X1_takeSemicolon dX1_takeSemicolon_32 fT_1_68
theorem rX1_takeSemicolon_35 : tA sc iX1_takeSemicolon 35 ls (v :: vR (some o) :: st) h Q = oz (tput h o [1] 5 0 v) (fun h' => tA sc iX1_takeSemicolon 38 ls st h' Q) := tA_put mB_X1_takeSemicolon mO_X1_takeSemicolon dX1_takeSemicolon_35 fT_1_19 (Or.inl (by decide))
theorem rX1_takeSemicolon_38 : tA sc iX1_takeSemicolon 38 ls [] h Q = Q (none) h := tA_ret mB_X1_takeSemicolon dX1_takeSemicolon_38 (fun _ _ _ _ => rfl) (fun _ _ _ => rfl) (fun _ _ _ _ _ => rfl) rfl rfl
theorem rX1_takeSemicolon_39 : tA sc iX1_takeSemicolon 39 [vR r] st h Q = tA sc iX1_takeSemicolon 40 [vR r] (vR r :: st) h Q := tA_pure mB_X1_takeSemicolon dX1_takeSemicolon_39 rfl
theorem rX1_takeSemicolon_40 (hci : tcl h o = some 1) : tA sc iX1_takeSemicolon 40 ls [vR (some o)] h Q = tA sc iX1_step 0 [vR (some o)] [] h (fun v h1 => tA sc iX1_takeSemicolon 43 ls (tpu v []) h1 Q) := tA_cV mB_X1_takeSemicolon mO_X1_takeSemicolon dX1_takeSemicolon_40 cT_1_25 rfl (Nat.le_of_ble_eq_true rfl) rfl rfl rfl hci
theorem rX1_takeSemicolon_43 : tA sc iX1_takeSemicolon 43 ls [] h Q = Q (none) h := tA_ret mB_X1_takeSemicolon dX1_takeSemicolon_43 (fun _ _ _ _ => rfl) (fun _ _ _ => rfl) (fun _ _ _ _ _ => rfl) rfl rfl
theorem mB_X1_takeNumber : mB iX1_takeNumber = cX1_takeNumber := rfl
theorem mO_X1_takeNumber : mO iX1_takeNumber = 1 := rfl
theorem rX1_takeNumber_0 : tA sc iX1_takeNumber 0 [vR r, l1, l2] st h Q = tA sc iX1_takeNumber 1 [vR r, l1, l2] (vR r :: st) h Q := tA_pure mB_X1_takeNumber dX1_takeNumber_0 rfl
theorem rX1_takeNumber_1 : tA sc iX1_takeNumber 1 ls (vR (some o) :: st) h Q = oz (tget h o [1] 5) (fun v => tA sc iX1_takeNumber 4 ls (v :: st) h Q) := tA_get mB_X1_takeNumber mO_X1_takeNumber dX1_takeNumber_1 fT_1_19
theorem rX1_takeNumber_4 : tA sc iX1_takeNumber 4 ls (vI x :: st) h Q = (if x < 0 then tA sc iX1_takeNumber 9 ls st h Q else tA sc iX1_takeNumber 7 ls st h Q) := tA_if mB_X1_takeNumber dX1_takeNumber_4 (fun _ _ _ _ => rfl) rfl
theorem rX1_takeNumber_7 : tA sc iX1_takeNumber 7 ls st h Q = tA sc iX1_takeNumber 8 ls (vI (0) :: st) h Q := tA_pure mB_X1_takeNumber dX1_takeNumber_7 rfl
theorem rX1_takeNumber_8 : tA sc iX1_takeNumber 8 ls [vI x] h Q = Q (some (vI x)) h := tA_ret mB_X1_takeNumber dX1_takeNumber_8 (fun _ _ _ _ => rfl) (fun _ _ _ => rfl) (fun _ _ _ _ _ => rfl) rfl rfl
theorem rX1_takeNumber_9 : tA sc iX1_takeNumber 9 [vR r, l1, l2] st h Q = tA sc iX1_takeNumber 10 [vR r, l1, l2] (vR r :: st) h Q := tA_pure mB_X1_takeNumber dX1_takeNumber_9 rfl
theorem rX1_takeNumber_10 : tA sc iX1_takeNumber 10 ls (vR (some o) :: st) h Q = oz (tget h o [1] 2) (fun v => tA sc iX1_takeNumber 13 ls (v :: st) h Q) := tA_get mB_X1_takeNumber mO_X1_takeNumber dX1_takeNumber_10 fT_1_28
theorem rX1_takeNumber_13 : tA sc iX1_takeNumber 13 ls st h Q = tA sc iX1_takeNumber 14 ls (vI (2) :: st) h Q := tA_pure mB_X1_takeNumber dX1_takeNumber_13 rfl
theorem rX1_takeNumber_14 : tA sc iX1_takeNumber 14 ls (vI y :: vI x :: st) h Q = (if ¬ x = y then tA sc iX1_takeNumber 24 ls st h Q else tA sc iX1_takeNumber 17 ls st h Q) := tA_if mB_X1_takeNumber dX1_takeNumber_14 (fun _ _ _ _ => rfl) rfl
theorem rX1_takeNumber_17 : tA sc iX1_takeNumber 17 [vR r, l1, l2] st h Q = tA sc iX1_takeNumber 18 [vR r, l1, l2] (vR r :: st) h Q := tA_pure mB_X1_takeNumber dX1_takeNumber_17 rfl
theorem rX1_takeNumber_18 (hci : tcl h o = some 1) : tA sc iX1_takeNumber 18 ls [vR (some o)] h Q = tA sc iX1_valueOfNext 0 [vR (some o), vU, vU] [] h (fun v h1 => tA sc iX1_takeNumber 21 ls (tpu v []) h1 Q) := tA_cV mB_X1_takeNumber mO_X1_takeNumber dX1_takeNumber_18 cT_1_138 rfl (Nat.le_of_ble_eq_true rfl) rfl rfl rfl hci
theorem rX1_takeNumber_21 : tA sc iX1_takeNumber 21 ls st h Q = tA sc iX1_takeNumber 25 ls st h Q := tA_jump mB_X1_takeNumber dX1_takeNumber_21 (fun _ _ _ _ => rfl) rfl
theorem rX1_takeNumber_24 : tA sc iX1_takeNumber 24 ls st h Q = tA sc iX1_takeNumber 25 ls (vI (-1) :: st) h Q := tA_pure mB_X1_takeNumber dX1_takeNumber_24 rfl
theorem rX1_takeNumber_25 : tA sc iX1_takeNumber 25 [l0, l1, l2] (vI x :: st) h Q = tA sc iX1_takeNumber 26 [l0, tclr l1, vI x] st h Q := tA_pure mB_X1_takeNumber dX1_takeNumber_25 rfl
theorem rX1_takeNumber_26 : tA sc iX1_takeNumber 26 [l0, l1, vI x] st h Q = tA sc iX1_takeNumber 27 [l0, l1, vI x] (vI x :: st) h Q := tA_pure mB_X1_takeNumber dX1_takeNumber_26 rfl
theorem rX1_takeNumber_27 : tA sc iX1_takeNumber 27 ls (vI x :: st) h Q = (if x < 0 then tA sc iX1_takeNumber 35 ls st h Q else tA sc iX1_takeNumber 30 ls st h Q) := tA_if mB_X1_takeNumber dX1_takeNumber_27 (fun _ _ _ _ => rfl) rfl
theorem rX1_takeNumber_30 : tA sc iX1_takeNumber 30 [l0, l1, vI x] st h Q = tA sc iX1_takeNumber 31 [l0, l1, vI x] (vI x :: st) h Q := tA_pure mB_X1_takeNumber dX1_takeNumber_30 rfl
theorem rX1_takeNumber_31 : tA sc iX1_takeNumber 31 [l0, vI x, l2] st h Q = tA sc iX1_takeNumber 32 [l0, vI x, l2] (vI x :: st) h Q := tA_pure mB_X1_takeNumber dX1_takeNumber_31 rfl
theorem rX1_takeNumber_32 : tA sc iX1_takeNumber 32 ls (vI y :: vI x :: st) h Q = (if x ≤ y then tA sc iX1_takeNumber 45 ls st h Q else tA sc iX1_takeNumber 35 ls st h Q) := tA_if mB_X1_takeNumber dX1_takeNumber_32 (fun _ _ _ _ => rfl) rfl
theorem rX1_takeNumber_35 : tA sc iX1_takeNumber 35 [vR r, l1, l2] st h Q = tA sc iX1_takeNumber 36 [vR r, l1, l2] (vR r :: st) h Q := tA_pure mB_X1_takeNumber dX1_takeNumber_35 rfl
theorem rX1_takeNumber_36 : tA sc iX1_takeNumber 36 [vR r, l1, l2] st h Q = tA sc iX1_takeNumber 37 [vR r, l1, l2] (vR r :: st) h Q := tA_pure mB_X1_takeNumber dX1_takeNumber_36 rfl
theorem rX1_takeNumber_37 : tA sc iX1_takeNumber 37 ls (vR (some o) :: st) h Q = oz (tget h o [1] 3) (fun v => tA sc iX1_takeNumber 40 ls (v :: st) h Q) := tA_get mB_X1_takeNumber mO_X1_takeNumber dX1_takeNumber_37 fT_1_68
theorem rX1_takeNumber_40 : tA sc iX1_takeNumber 40 ls (v :: vR (some o) :: st) h Q = oz (tput h o [1] 5 0 v) (fun h' => tA sc iX1_takeNumber 43 ls st h' Q) := tA_put mB_X1_takeNumber mO_X1_takeNumber dX1_takeNumber_40 fT_1_19 (Or.inl (by decide))
theorem rX1_takeNumber_43 : tA sc iX1_takeNumber 43 ls st h Q = tA sc iX1_takeNumber 44 ls (vI (0) :: st) h Q := tA_pure mB_X1_takeNumber dX1_takeNumber_43 rfl
theorem rX1_takeNumber_44 : tA sc iX1_takeNumber 44 ls [vI x] h Q = Q (some (vI x)) h := tA_ret mB_X1_takeNumber dX1_takeNumber_44 (fun _ _ _ _ => rfl) (fun _ _ _ => rfl) (fun _ _ _ _ _ => rfl) rfl rfl
theorem rX1_takeNumber_45 : tA sc iX1_takeNumber 45 [vR r, l1, l2] st h Q = tA sc iX1_takeNumber 46 [vR r, l1, l2] (vR r :: st) h Q := tA_pure mB_X1_takeNumber dX1_takeNumber_45 rfl
theorem rX1_takeNumber_46 (hci : tcl h o = some 1) : tA sc iX1_takeNumber 46 ls [vR (some o)] h Q = tA sc iX1_step 0 [vR (some o)] [] h (fun v h1 => tA sc iX1_takeNumber 49 ls (tpu v []) h1 Q) := tA_cV mB_X1_takeNumber mO_X1_takeNumber dX1_takeNumber_46 cT_1_25 rfl (Nat.le_of_ble_eq_true rfl) rfl rfl rfl hci
theorem rX1_takeNumber_49 : tA sc iX1_takeNumber 49 [l0, l1, vI x] st h Q = tA sc iX1_takeNumber 50 [l0, l1, vI x] (vI x :: st) h Q := tA_pure mB_X1_takeNumber dX1_takeNumber_49 rfl
theorem rX1_takeNumber_50 : tA sc iX1_takeNumber 50 ls [vI x] h Q = Q (some (vI x)) h := tA_ret mB_X1_takeNumber dX1_takeNumber_50 (fun _ _ _ _ => rfl) (fun _ _ _ => rfl) (fun _ _ _ _ _ => rfl) rfl rfl
theorem mB_X1_valueOfNext : mB iX1_valueOfNext = cX1_valueOfNext := rfl
theorem mO_X1_valueOfNext : mO iX1_valueOfNext = 1 := rfl
theorem rX1_valueOfNext_0 : tA sc iX1_valueOfNext 0 [vR r, l1, l2] st h Q = tA sc iX1_valueOfNext 1 [vR r, l1, l2] (vR r :: st) h Q := tA_pure mB_X1_valueOfNext dX1_valueOfNext_0 rfl
theorem rX1_valueOfNext_1 : tA sc iX1_valueOfNext 1 ls (vR (some o) :: st) h Q = oz (tget h o [1] 4) (fun v => tA sc iX1_valueOfNext 4 ls (v :: st) h Q) := tA_get mB_X1_valueOfNext mO_X1_valueOfNext dX1_valueOfNext_1 fT_1_22
theorem rX1_valueOfNext_4 : tA sc iX1_valueOfNext 4 [vR r, l1, l2] st h Q = tA sc iX1_valueOfNext 5 [vR r, l1, l2] (vR r :: st) h Q := tA_pure mB_X1_valueOfNext dX1_valueOfNext_4 rfl
theorem rX1_valueOfNext_5 : tA sc iX1_valueOfNext 5 ls (vR (some o) :: st) h Q = oz (tget h o [1] 3) (fun v => tA sc iX1_valueOfNext 8 ls (v :: st) h Q) := tA_get mB_X1_valueOfNext mO_X1_valueOfNext dX1_valueOfNext_5 fT_1_68
theorem rX1_valueOfNext_8 : tA sc iX1_valueOfNext 8 ls (vI y :: vI x :: st) h Q = tA sc iX1_valueOfNext 9 ls (vI (x - y) :: st) h Q := tA_pure mB_X1_valueOfNext dX1_valueOfNext_8 rfl
theorem rX1_valueOfNext_9 : tA sc iX1_valueOfNext 9 ls st h Q = tA sc iX1_valueOfNext 10 ls (vI (2) :: st) h Q := tA_pure mB_X1_valueOfNext dX1_valueOfNext_9 rfl
theorem rX1_valueOfNext_10 : tA sc iX1_valueOfNext 10 ls (vI y :: vI x :: st) h Q = (if x ≤ y then tA sc iX1_valueOfNext 15 ls st h Q else tA sc iX1_valueOfNext 13 ls st h Q) := tA_if mB_X1_valueOfNext dX1_valueOfNext_10 (fun _ _ _ _ => rfl) rfl
theorem rX1_valueOfNext_13 : tA sc iX1_valueOfNext 13 ls st h Q = tA sc iX1_valueOfNext 14 ls (vI (-1) :: st) h Q := tA_pure mB_X1_valueOfNext dX1_valueOfNext_13 rfl
theorem rX1_valueOfNext_14 : tA sc iX1_valueOfNext 14 ls [vI x] h Q = Q (some (vI x)) h := tA_ret mB_X1_valueOfNext dX1_valueOfNext_14 (fun _ _ _ _ => rfl) (fun _ _ _ => rfl) (fun _ _ _ _ _ => rfl) rfl rfl
theorem rX1_valueOfNext_15 : tA sc iX1_valueOfNext 15 ls st h Q = tA sc iX1_valueOfNext 16 ls (vI (0) :: st) h Q := tA_pure mB_X1_valueOfNext dX1_valueOfNext_15 rfl
theorem rX1_valueOfNext_16 : tA sc iX1_valueOfNext 16 [l0, l1, l2] (vI x :: st) h Q = tA sc iX1_valueOfNext 17 [tclr l0, vI x, l2] st h Q := tA_pure mB_X1_valueOfNext dX1_valueOfNext_16 rfl
theorem rX1_valueOfNext_17 : tA sc iX1_valueOfNext 17 [vR r, l1, l2] st h Q = tA sc iX1_valueOfNext 18 [vR r, l1, l2] (vR r :: st) h Q := tA_pure mB_X1_valueOfNext dX1_valueOfNext_17 rfl
theorem rX1_valueOfNext_18 : tA sc iX1_valueOfNext 18 ls (vR (some o) :: st) h Q = oz (tget h o [1] 3) (fun v => tA sc iX1_valueOfNext 21 ls (v :: st) h Q) := tA_get mB_X1_valueOfNext mO_X1_valueOfNext dX1_valueOfNext_18 fT_1_68
theorem rX1_valueOfNext_21 : tA sc iX1_valueOfNext 21 [l0, l1, l2] (vI x :: st) h Q = tA sc iX1_valueOfNext 22 [l0, tclr l1, vI x] st h Q := tA_pure mB_X1_valueOfNext dX1_valueOfNext_21 rfl
theorem rX1_valueOfNext_22 : tA sc iX1_valueOfNext 22 [l0, l1, vI x] st h Q = tA sc iX1_valueOfNext 23 [l0, l1, vI x] (vI x :: st) h Q := tA_pure mB_X1_valueOfNext dX1_valueOfNext_22 rfl
theorem rX1_valueOfNext_23 : tA sc iX1_valueOfNext 23 [vR r, l1, l2] st h Q = tA sc iX1_valueOfNext 24 [vR r, l1, l2] (vR r :: st) h Q := tA_pure mB_X1_valueOfNext dX1_valueOfNext_23 rfl
theorem rX1_valueOfNext_24 : tA sc iX1_valueOfNext 24 ls (vR (some o) :: st) h Q = oz (tget h o [1] 4) (fun v => tA sc iX1_valueOfNext 27 ls (v :: st) h Q) := tA_get mB_X1_valueOfNext mO_X1_valueOfNext dX1_valueOfNext_24 fT_1_22
theorem rX1_valueOfNext_27 : tA sc iX1_valueOfNext 27 ls (vI y :: vI x :: st) h Q = (if y ≤ x then tA sc iX1_valueOfNext 51 ls st h Q else tA sc iX1_valueOfNext 30 ls st h Q) := tA_if mB_X1_valueOfNext dX1_valueOfNext_27 (fun _ _ _ _ => rfl) rfl
theorem rX1_valueOfNext_30 : tA sc iX1_valueOfNext 30 [l0, vI x, l2] st h Q = tA sc iX1_valueOfNext 31 [l0, vI x, l2] (vI x :: st) h Q := tA_pure mB_X1_valueOfNext dX1_valueOfNext_30 rfl
theorem rX1_valueOfNext_31 : tA sc iX1_valueOfNext 31 ls st h Q = tA sc iX1_valueOfNext 33 ls (vI (10) :: st) h Q := tA_pure mB_X1_valueOfNext dX1_valueOfNext_31 rfl
theorem rX1_valueOfNext_33 : tA sc iX1_valueOfNext 33 ls (vI y :: vI x :: st) h Q = tA sc iX1_valueOfNext 34 ls (vI (x * y) :: st) h Q := tA_pure mB_X1_valueOfNext dX1_valueOfNext_33 rfl
theorem rX1_valueOfNext_34 : tA sc iX1_valueOfNext 34 [vR r, l1, l2] st h Q = tA sc iX1_valueOfNext 35 [vR r, l1, l2] (vR r :: st) h Q := tA_pure mB_X1_valueOfNext dX1_valueOfNext_34 rfl
theorem rX1_valueOfNext_35 : tA sc iX1_valueOfNext 35 ls (vR (some o) :: st) h Q = oz (tget h o [1] 0) (fun v => tA sc iX1_valueOfNext 38 ls (v :: st) h Q) := tA_get mB_X1_valueOfNext mO_X1_valueOfNext dX1_valueOfNext_35 fT_1_9
theorem rX1_valueOfNext_38 : tA sc iX1_valueOfNext 38 [l0, l1, vI x] st h Q = tA sc iX1_valueOfNext 39 [l0, l1, vI x] (vI x :: st) h Q := tA_pure mB_X1_valueOfNext dX1_valueOfNext_38 rfl
theorem rX1_valueOfNext_39 : tA sc iX1_valueOfNext 39 ls (vI j :: vR (some a) :: st) h Q = oz (tald sc h 1 a j) (fun v => tA sc iX1_valueOfNext 40 ls (vI v :: st) h Q) := tA_bald mB_X1_valueOfNext dX1_valueOfNext_39
theorem rX1_valueOfNext_40 : tA sc iX1_valueOfNext 40 ls (vI y :: vI x :: st) h Q = tA sc iX1_valueOfNext 41 ls (vI (x + y) :: st) h Q := tA_pure mB_X1_valueOfNext dX1_valueOfNext_40 rfl
theorem rX1_valueOfNext_41 : tA sc iX1_valueOfNext 41 ls st h Q = tA sc iX1_valueOfNext 43 ls (vI (48) :: st) h Q := tA_pure mB_X1_valueOfNext dX1_valueOfNext_41 rfl
theorem rX1_valueOfNext_43 : tA sc iX1_valueOfNext 43 ls (vI y :: vI x :: st) h Q = tA sc iX1_valueOfNext 44 ls (vI (x - y) :: st) h Q := tA_pure mB_X1_valueOfNext dX1_valueOfNext_43 rfl
theorem rX1_valueOfNext_44 : tA sc iX1_valueOfNext 44 [l0, l1, l2] (vI x :: st) h Q = tA sc iX1_valueOfNext 45 [tclr l0, vI x, l2] st h Q := tA_pure mB_X1_valueOfNext dX1_valueOfNext_44 rfl
theorem rX1_valueOfNext_45 : tA sc iX1_valueOfNext 45 [l0, l1, vI x] st h Q = tA sc iX1_valueOfNext 48 [l0, tclr l1, vI (x + 1)] st h Q := tA_pure mB_X1_valueOfNext dX1_valueOfNext_45 rfl
theorem rX1_valueOfNext_48 : tA sc iX1_valueOfNext 48 ls st h Q = tA sc iX1_valueOfNext 22 ls st h Q := tA_jump mB_X1_valueOfNext dX1_valueOfNext_48 (fun _ _ _ _ => rfl) rfl
theorem rX1_valueOfNext_51 : tA sc iX1_valueOfNext 51 [l0, vI x, l2] st h Q = tA sc iX1_valueOfNext 52 [l0, vI x, l2] (vI x :: st) h Q := tA_pure mB_X1_valueOfNext dX1_valueOfNext_51 rfl
theorem rX1_valueOfNext_52 : tA sc iX1_valueOfNext 52 ls [vI x] h Q = Q (some (vI x)) h := tA_ret mB_X1_valueOfNext dX1_valueOfNext_52 (fun _ _ _ _ => rfl) (fun _ _ _ => rfl) (fun _ _ _ _ _ => rfl) rfl rfl
theorem mB_X1_isName : mB iX1_isName = cX1_isName := rfl
theorem mO_X1_isName : mO iX1_isName = 1 := rfl
theorem rX1_isName_0 : tA sc iX1_isName 0 [vR r, l1, l2] st h Q = tA sc iX1_isName 1 [vR r, l1, l2] (vR r :: st) h Q := tA_pure mB_X1_isName dX1_isName_0 rfl
theorem rX1_isName_1 : tA sc iX1_isName 1 ls (vR (some o) :: st) h Q = oz (tget h o [1] 2) (fun v => tA sc iX1_isName 4 ls (v :: st) h Q) := tA_get mB_X1_isName mO_X1_isName dX1_isName_1 fT_1_28
theorem rX1_isName_4 : tA sc iX1_isName 4 ls st h Q = tA sc iX1_isName 5 ls (vI (1) :: st) h Q := tA_pure mB_X1_isName dX1_isName_4 rfl
theorem rX1_isName_5 : tA sc iX1_isName 5 ls (vI y :: vI x :: st) h Q = (if ¬ x = y then tA sc iX1_isName 24 ls st h Q else tA sc iX1_isName 8 ls st h Q) := tA_if mB_X1_isName dX1_isName_5 (fun _ _ _ _ => rfl) rfl
theorem rX1_isName_8 : tA sc iX1_isName 8 [vR r, l1, l2] st h Q = tA sc iX1_isName 9 [vR r, l1, l2] (vR r :: st) h Q := tA_pure mB_X1_isName dX1_isName_8 rfl
theorem rX1_isName_9 : tA sc iX1_isName 9 ls (vR (some o) :: st) h Q = oz (tget h o [1] 4) (fun v => tA sc iX1_isName 12 ls (v :: st) h Q) := tA_get mB_X1_isName mO_X1_isName dX1_isName_9 fT_1_22
theorem rX1_isName_12 : tA sc iX1_isName 12 [vR r, l1, l2] st h Q = tA sc iX1_isName 13 [vR r, l1, l2] (vR r :: st) h Q := tA_pure mB_X1_isName dX1_isName_12 rfl
theorem rX1_isName_13 : tA sc iX1_isName 13 ls (vR (some o) :: st) h Q = oz (tget h o [1] 3) (fun v => tA sc iX1_isName 16 ls (v :: st) h Q) := tA_get mB_X1_isName mO_X1_isName dX1_isName_13 fT_1_68
theorem rX1_isName_16 : tA sc iX1_isName 16 ls (vI y :: vI x :: st) h Q = tA sc iX1_isName 17 ls (vI (x - y) :: st) h Q := tA_pure mB_X1_isName dX1_isName_16 rfl
theorem rX1_isName_17 : tA sc iX1_isName 17 [l0, vR r, l2] st h Q = tA sc iX1_isName 18 [l0, vR r, l2] (vR r :: st) h Q := tA_pure mB_X1_isName dX1_isName_17 rfl
theorem rX1_isName_18 (ho : 1000000003 ≤ o ∧ o < 1000000015) : tA sc iX1_isName 18 ls [vR (some o), s0] h Q = tA sc iX1_isName 21 ls (vI (Int32.ofNat (tstr (o - 1000000003)).length) :: [s0]) h Q := tA_cL mB_X1_isName mO_X1_isName dX1_isName_18 cT_1_141 ⟨Nat.le_of_ble_eq_true rfl, Nat.le_of_ble_eq_true rfl, Nat.le_of_ble_eq_true rfl⟩ ho
theorem rX1_isName_21 : tA sc iX1_isName 21 ls (vI y :: vI x :: st) h Q = (if x = y then tA sc iX1_isName 26 ls st h Q else tA sc iX1_isName 24 ls st h Q) := tA_if mB_X1_isName dX1_isName_21 (fun _ _ _ _ => rfl) rfl
theorem rX1_isName_24 : tA sc iX1_isName 24 ls st h Q = tA sc iX1_isName 25 ls (vI (0) :: st) h Q := tA_pure mB_X1_isName dX1_isName_24 rfl
theorem rX1_isName_25 : tA sc iX1_isName 25 ls [vI x] h Q = ((x = 0 ∨ x = 1) ∧ Q (some (vI x)) h) := tA_retz mB_X1_isName dX1_isName_25 rfl
theorem rX1_isName_26 : tA sc iX1_isName 26 [vR r, l1, l2] st h Q = tA sc iX1_isName 27 [vR r, l1, l2] (vR r :: st) h Q := tA_pure mB_X1_isName dX1_isName_26 rfl
theorem rX1_isName_27 : tA sc iX1_isName 27 ls (vR (some o) :: st) h Q = oz (tget h o [1] 3) (fun v => tA sc iX1_isName 30 ls (v :: st) h Q) := tA_get mB_X1_isName mO_X1_isName dX1_isName_27 fT_1_68
theorem rX1_isName_30 : tA sc iX1_isName 30 [l0, l1, l2] (vI x :: st) h Q = tA sc iX1_isName 31 [l0, tclr l1, vI x] st h Q := tA_pure mB_X1_isName dX1_isName_30 rfl
theorem rX1_isName_31 : tA sc iX1_isName 31 [l0, l1, vI x] st h Q = tA sc iX1_isName 32 [l0, l1, vI x] (vI x :: st) h Q := tA_pure mB_X1_isName dX1_isName_31 rfl
theorem rX1_isName_32 : tA sc iX1_isName 32 [vR r, l1, l2] st h Q = tA sc iX1_isName 33 [vR r, l1, l2] (vR r :: st) h Q := tA_pure mB_X1_isName dX1_isName_32 rfl
theorem rX1_isName_33 : tA sc iX1_isName 33 ls (vR (some o) :: st) h Q = oz (tget h o [1] 4) (fun v => tA sc iX1_isName 36 ls (v :: st) h Q) := tA_get mB_X1_isName mO_X1_isName dX1_isName_33 fT_1_22
theorem rX1_isName_36 : tA sc iX1_isName 36 ls (vI y :: vI x :: st) h Q = (if y ≤ x then tA sc iX1_isName 66 ls st h Q else tA sc iX1_isName 39 ls st h Q) := tA_if mB_X1_isName dX1_isName_36 (fun _ _ _ _ => rfl) rfl
theorem rX1_isName_39 : tA sc iX1_isName 39 [vR r, l1, l2] st h Q = tA sc iX1_isName 40 [vR r, l1, l2] (vR r :: st) h Q := tA_pure mB_X1_isName dX1_isName_39 rfl
theorem rX1_isName_40 : tA sc iX1_isName 40 ls (vR (some o) :: st) h Q = oz (tget h o [1] 0) (fun v => tA sc iX1_isName 43 ls (v :: st) h Q) := tA_get mB_X1_isName mO_X1_isName dX1_isName_40 fT_1_9
theorem rX1_isName_43 : tA sc iX1_isName 43 [l0, l1, vI x] st h Q = tA sc iX1_isName 44 [l0, l1, vI x] (vI x :: st) h Q := tA_pure mB_X1_isName dX1_isName_43 rfl
theorem rX1_isName_44 : tA sc iX1_isName 44 ls (vI j :: vR (some a) :: st) h Q = oz (tald sc h 1 a j) (fun v => tA sc iX1_isName 45 ls (vI v :: st) h Q) := tA_bald mB_X1_isName dX1_isName_44
theorem rX1_isName_45 : tA sc iX1_isName 45 [l0, vR r, l2] st h Q = tA sc iX1_isName 46 [l0, vR r, l2] (vR r :: st) h Q := tA_pure mB_X1_isName dX1_isName_45 rfl
theorem rX1_isName_46 : tA sc iX1_isName 46 [l0, l1, vI x] st h Q = tA sc iX1_isName 47 [l0, l1, vI x] (vI x :: st) h Q := tA_pure mB_X1_isName dX1_isName_46 rfl
theorem rX1_isName_47 : tA sc iX1_isName 47 [vR r, l1, l2] st h Q = tA sc iX1_isName 48 [vR r, l1, l2] (vR r :: st) h Q := tA_pure mB_X1_isName dX1_isName_47 rfl
theorem rX1_isName_48 : tA sc iX1_isName 48 ls (vR (some o) :: st) h Q = oz (tget h o [1] 3) (fun v => tA sc iX1_isName 51 ls (v :: st) h Q) := tA_get mB_X1_isName mO_X1_isName dX1_isName_48 fT_1_68
theorem rX1_isName_51 : tA sc iX1_isName 51 ls (vI y :: vI x :: st) h Q = tA sc iX1_isName 52 ls (vI (x - y) :: st) h Q := tA_pure mB_X1_isName dX1_isName_51 rfl
theorem rX1_isName_52 (ho : 1000000003 ≤ o ∧ o < 1000000015) (hj : ¬ (p0 < 0 ∨ (tstr (o - 1000000003)).length ≤ p0.toNatClampNeg)) : tA sc iX1_isName 52 ls [vI p0, vR (some o), s0] h Q = tA sc iX1_isName 55 ls (vI ((tstr (o - 1000000003)).getD p0.toNatClampNeg 0) :: [s0]) h Q := tA_cA mB_X1_isName mO_X1_isName dX1_isName_52 cT_1_145 ⟨Nat.le_of_ble_eq_true rfl, Nat.le_of_ble_eq_true rfl, Nat.le_of_ble_eq_true rfl⟩ ho hj
theorem rX1_isName_55 : tA sc iX1_isName 55 ls (vI y :: vI x :: st) h Q = (if x = y then tA sc iX1_isName 60 ls st h Q else tA sc iX1_isName 58 ls st h Q) := tA_if mB_X1_isName dX1_isName_55 (fun _ _ _ _ => rfl) rfl
theorem rX1_isName_58 : tA sc iX1_isName 58 ls st h Q = tA sc iX1_isName 59 ls (vI (0) :: st) h Q := tA_pure mB_X1_isName dX1_isName_58 rfl
theorem rX1_isName_59 : tA sc iX1_isName 59 ls [vI x] h Q = ((x = 0 ∨ x = 1) ∧ Q (some (vI x)) h) := tA_retz mB_X1_isName dX1_isName_59 rfl
theorem rX1_isName_60 : tA sc iX1_isName 60 [l0, l1, vI x] st h Q = tA sc iX1_isName 63 [l0, tclr l1, vI (x + 1)] st h Q := tA_pure mB_X1_isName dX1_isName_60 rfl
theorem rX1_isName_63 : tA sc iX1_isName 63 ls st h Q = tA sc iX1_isName 31 ls st h Q := tA_jump mB_X1_isName dX1_isName_63 (fun _ _ _ _ => rfl) rfl
theorem rX1_isName_66 : tA sc iX1_isName 66 ls st h Q = tA sc iX1_isName 67 ls (vI (1) :: st) h Q := tA_pure mB_X1_isName dX1_isName_66 rfl
theorem rX1_isName_67 : tA sc iX1_isName 67 ls [vI x] h Q = ((x = 0 ∨ x = 1) ∧ Q (some (vI x)) h) := tA_retz mB_X1_isName dX1_isName_67 rfl
theorem mB_X1_step : mB iX1_step = cX1_step := rfl
theorem mO_X1_step : mO iX1_step = 1 := rfl
theorem rX1_step_0 : tA sc iX1_step 0 [vR r] st h Q = tA sc iX1_step 1 [vR r] (vR r :: st) h Q := tA_pure mB_X1_step dX1_step_0 rfl
theorem rX1_step_1 : tA sc iX1_step 1 [vR r] st h Q = tA sc iX1_step 2 [vR r] (vR r :: st) h Q := tA_pure mB_X1_step dX1_step_1 rfl
theorem rX1_step_2 : tA sc iX1_step 2 ls (vR (some o) :: st) h Q = oz (tget h o [1] 4) (fun v => tA sc iX1_step 5 ls (v :: st) h Q) := tA_get mB_X1_step mO_X1_step dX1_step_2 fT_1_22
theorem rX1_step_5 : tA sc iX1_step 5 ls (v :: vR (some o) :: st) h Q = oz (tput h o [1] 3 0 v) (fun h' => tA sc iX1_step 8 ls st h' Q) := tA_put mB_X1_step mO_X1_step dX1_step_5 fT_1_68 (Or.inl (by decide))
theorem rX1_step_8 : tA sc iX1_step 8 [vR r] st h Q = tA sc iX1_step 9 [vR r] (vR r :: st) h Q := tA_pure mB_X1_step dX1_step_8 rfl
theorem rX1_step_9 : tA sc iX1_step 9 ls (vR (some o) :: st) h Q = oz (tget h o [1] 3) (fun v => tA sc iX1_step 12 ls (v :: st) h Q) := tA_get mB_X1_step mO_X1_step dX1_step_9 fT_1_68
theorem rX1_step_12 : tA sc iX1_step 12 [vR r] st h Q = tA sc iX1_step 13 [vR r] (vR r :: st) h Q := tA_pure mB_X1_step dX1_step_12 rfl
theorem rX1_step_13 : tA sc iX1_step 13 ls (vR (some o) :: st) h Q = oz (tget h o [1] 1) (fun v => tA sc iX1_step 16 ls (v :: st) h Q) := tA_get mB_X1_step mO_X1_step dX1_step_13 fT_1_15
theorem rX1_step_16 : tA sc iX1_step 16 ls (vI y :: vI x :: st) h Q = (if y ≤ x then tA sc iX1_step 46 ls st h Q else tA sc iX1_step 19 ls st h Q) := tA_if mB_X1_step dX1_step_16 (fun _ _ _ _ => rfl) rfl
theorem rX1_step_19 : tA sc iX1_step 19 [vR r] st h Q = tA sc iX1_step 20 [vR r] (vR r :: st) h Q := tA_pure mB_X1_step dX1_step_19 rfl
theorem rX1_step_20 : tA sc iX1_step 20 ls (vR (some o) :: st) h Q = oz (tget h o [1] 0) (fun v => tA sc iX1_step 23 ls (v :: st) h Q) := tA_get mB_X1_step mO_X1_step dX1_step_20 fT_1_9
theorem rX1_step_23 : tA sc iX1_step 23 [vR r] st h Q = tA sc iX1_step 24 [vR r] (vR r :: st) h Q := tA_pure mB_X1_step dX1_step_23 rfl
theorem rX1_step_24 : tA sc iX1_step 24 ls (vR (some o) :: st) h Q = oz (tget h o [1] 3) (fun v => tA sc iX1_step 27 ls (v :: st) h Q) := tA_get mB_X1_step mO_X1_step dX1_step_24 fT_1_68
theorem rX1_step_27 : tA sc iX1_step 27 ls (vI j :: vR (some a) :: st) h Q = oz (tald sc h 1 a j) (fun v => tA sc iX1_step 28 ls (vI v :: st) h Q) := tA_bald mB_X1_step dX1_step_27
theorem rX1_step_28 : tA sc iX1_step 28 ls st h Q = tA sc iX1_step 30 ls (vI (32) :: st) h Q := tA_pure mB_X1_step dX1_step_28 rfl
theorem rX1_step_30 : tA sc iX1_step 30 ls (vI y :: vI x :: st) h Q = (if ¬ x = y then tA sc iX1_step 46 ls st h Q else tA sc iX1_step 33 ls st h Q) := tA_if mB_X1_step dX1_step_30 (fun _ _ _ _ => rfl) rfl
theorem rX1_step_33 : tA sc iX1_step 33 [vR r] st h Q = tA sc iX1_step 34 [vR r] (vR r :: st) h Q := tA_pure mB_X1_step dX1_step_33 rfl
theorem rX1_step_34 : tA sc iX1_step 34 ls (vR r :: st) h Q = tA sc iX1_step 35 ls (vR r :: vR r :: st) h Q := tA_pure mB_X1_step dX1_step_34 rfl
theorem rX1_step_35 : tA sc iX1_step 35 ls (vR (some o) :: st) h Q = oz (tget h o [1] 3) (fun v => tA sc iX1_step 38 ls (v :: st) h Q) := tA_get mB_X1_step mO_X1_step dX1_step_35 fT_1_68
theorem rX1_step_38 : tA sc iX1_step 38 ls st h Q = tA sc iX1_step 39 ls (vI (1) :: st) h Q := tA_pure mB_X1_step dX1_step_38 rfl
theorem rX1_step_39 : tA sc iX1_step 39 ls (vI y :: vI x :: st) h Q = tA sc iX1_step 40 ls (vI (x + y) :: st) h Q := tA_pure mB_X1_step dX1_step_39 rfl
theorem rX1_step_40 : tA sc iX1_step 40 ls (v :: vR (some o) :: st) h Q = oz (tput h o [1] 3 0 v) (fun h' => tA sc iX1_step 43 ls st h' Q) := tA_put mB_X1_step mO_X1_step dX1_step_40 fT_1_68 (Or.inl (by decide))
theorem rX1_step_43 : tA sc iX1_step 43 ls st h Q = tA sc iX1_step 8 ls st h Q := tA_jump mB_X1_step dX1_step_43 (fun _ _ _ _ => rfl) rfl
theorem rX1_step_46 : tA sc iX1_step 46 [vR r] st h Q = tA sc iX1_step 47 [vR r] (vR r :: st) h Q := tA_pure mB_X1_step dX1_step_46 rfl
theorem rX1_step_47 : tA sc iX1_step 47 [vR r] st h Q = tA sc iX1_step 48 [vR r] (vR r :: st) h Q := tA_pure mB_X1_step dX1_step_47 rfl
theorem rX1_step_48 : tA sc iX1_step 48 ls (vR (some o) :: st) h Q = oz (tget h o [1] 3) (fun v => tA sc iX1_step 51 ls (v :: st) h Q) := tA_get mB_X1_step mO_X1_step dX1_step_48 fT_1_68
theorem rX1_step_51 : tA sc iX1_step 51 ls (v :: vR (some o) :: st) h Q = oz (tput h o [1] 4 0 v) (fun h' => tA sc iX1_step 54 ls st h' Q) := tA_put mB_X1_step mO_X1_step dX1_step_51 fT_1_22 (Or.inl (by decide))
theorem rX1_step_54 : tA sc iX1_step 54 [vR r] st h Q = tA sc iX1_step 55 [vR r] (vR r :: st) h Q := tA_pure mB_X1_step dX1_step_54 rfl
theorem rX1_step_55 : tA sc iX1_step 55 ls (vR (some o) :: st) h Q = oz (tget h o [1] 3) (fun v => tA sc iX1_step 58 ls (v :: st) h Q) := tA_get mB_X1_step mO_X1_step dX1_step_55 fT_1_68
theorem rX1_step_58 : tA sc iX1_step 58 [vR r] st h Q = tA sc iX1_step 59 [vR r] (vR r :: st) h Q := tA_pure mB_X1_step dX1_step_58 rfl
theorem rX1_step_59 : tA sc iX1_step 59 ls (vR (some o) :: st) h Q = oz (tget h o [1] 1) (fun v => tA sc iX1_step 62 ls (v :: st) h Q) := tA_get mB_X1_step mO_X1_step dX1_step_59 fT_1_15
theorem rX1_step_62 : tA sc iX1_step 62 ls (vI y :: vI x :: st) h Q = (if x < y then tA sc iX1_step 71 ls st h Q else tA sc iX1_step 65 ls st h Q) := tA_if mB_X1_step dX1_step_62 (fun _ _ _ _ => rfl) rfl
theorem rX1_step_65 : tA sc iX1_step 65 [vR r] st h Q = tA sc iX1_step 66 [vR r] (vR r :: st) h Q := tA_pure mB_X1_step dX1_step_65 rfl
theorem rX1_step_66 : tA sc iX1_step 66 ls st h Q = tA sc iX1_step 67 ls (vI (0) :: st) h Q := tA_pure mB_X1_step dX1_step_66 rfl
theorem rX1_step_67 : tA sc iX1_step 67 ls (v :: vR (some o) :: st) h Q = oz (tput h o [1] 2 0 v) (fun h' => tA sc iX1_step 70 ls st h' Q) := tA_put mB_X1_step mO_X1_step dX1_step_67 fT_1_28 (Or.inl (by decide))
theorem rX1_step_70 : tA sc iX1_step 70 ls [] h Q = Q (none) h := tA_ret mB_X1_step dX1_step_70 (fun _ _ _ _ => rfl) (fun _ _ _ => rfl) (fun _ _ _ _ _ => rfl) rfl rfl
theorem rX1_step_71 : tA sc iX1_step 71 [vR r] st h Q = tA sc iX1_step 72 [vR r] (vR r :: st) h Q := tA_pure mB_X1_step dX1_step_71 rfl
theorem rX1_step_72 : tA sc iX1_step 72 [vR r] st h Q = tA sc iX1_step 73 [vR r] (vR r :: st) h Q := tA_pure mB_X1_step dX1_step_72 rfl
theorem rX1_step_73 : tA sc iX1_step 73 ls (vR (some o) :: st) h Q = oz (tget h o [1] 0) (fun v => tA sc iX1_step 76 ls (v :: st) h Q) := tA_get mB_X1_step mO_X1_step dX1_step_73 fT_1_9
theorem rX1_step_76 : tA sc iX1_step 76 [vR r] st h Q = tA sc iX1_step 77 [vR r] (vR r :: st) h Q := tA_pure mB_X1_step dX1_step_76 rfl
theorem rX1_step_77 : tA sc iX1_step 77 ls (vR (some o) :: st) h Q = oz (tget h o [1] 3) (fun v => tA sc iX1_step 80 ls (v :: st) h Q) := tA_get mB_X1_step mO_X1_step dX1_step_77 fT_1_68
theorem rX1_step_80 : tA sc iX1_step 80 ls (vI j :: vR (some a) :: st) h Q = oz (tald sc h 1 a j) (fun v => tA sc iX1_step 81 ls (vI v :: st) h Q) := tA_bald mB_X1_step dX1_step_80
theorem rX1_step_81 : tA sc iX1_step 81 ls [vI p0, s0] h Q = tA sc iX1_sortOf 0 [vI p0] [] h (fun v h1 => tA sc iX1_step 84 ls (tpu v [s0]) h1 Q) := tA_cS mB_X1_step mO_X1_step dX1_step_81 cT_1_149 ⟨Nat.le_of_ble_eq_true rfl, Nat.le_of_ble_eq_true rfl⟩ rfl rfl rfl rfl
theorem rX1_step_84 : tA sc iX1_step 84 ls (v :: vR (some o) :: st) h Q = oz (tput h o [1] 2 0 v) (fun h' => tA sc iX1_step 87 ls st h' Q) := tA_put mB_X1_step mO_X1_step dX1_step_84 fT_1_28 (Or.inl (by decide))
theorem rX1_step_87 : tA sc iX1_step 87 [vR r] st h Q = tA sc iX1_step 88 [vR r] (vR r :: st) h Q := tA_pure mB_X1_step dX1_step_87 rfl
theorem rX1_step_88 : tA sc iX1_step 88 ls (vR r :: st) h Q = tA sc iX1_step 89 ls (vR r :: vR r :: st) h Q := tA_pure mB_X1_step dX1_step_88 rfl
theorem rX1_step_89 : tA sc iX1_step 89 ls (vR (some o) :: st) h Q = oz (tget h o [1] 4) (fun v => tA sc iX1_step 92 ls (v :: st) h Q) := tA_get mB_X1_step mO_X1_step dX1_step_89 fT_1_22
theorem rX1_step_92 : tA sc iX1_step 92 ls st h Q = tA sc iX1_step 93 ls (vI (1) :: st) h Q := tA_pure mB_X1_step dX1_step_92 rfl
theorem rX1_step_93 : tA sc iX1_step 93 ls (vI y :: vI x :: st) h Q = tA sc iX1_step 94 ls (vI (x + y) :: st) h Q := tA_pure mB_X1_step dX1_step_93 rfl
theorem rX1_step_94 : tA sc iX1_step 94 ls (v :: vR (some o) :: st) h Q = oz (tput h o [1] 4 0 v) (fun h' => tA sc iX1_step 97 ls st h' Q) := tA_put mB_X1_step mO_X1_step dX1_step_94 fT_1_22 (Or.inl (by decide))
theorem rX1_step_97 : tA sc iX1_step 97 [vR r] st h Q = tA sc iX1_step 98 [vR r] (vR r :: st) h Q := tA_pure mB_X1_step dX1_step_97 rfl
theorem rX1_step_98 : tA sc iX1_step 98 ls (vR (some o) :: st) h Q = oz (tget h o [1] 2) (fun v => tA sc iX1_step 101 ls (v :: st) h Q) := tA_get mB_X1_step mO_X1_step dX1_step_98 fT_1_28
theorem rX1_step_101 : tA sc iX1_step 101 ls st h Q = tA sc iX1_step 102 ls (vI (3) :: st) h Q := tA_pure mB_X1_step dX1_step_101 rfl
theorem rX1_step_102 : tA sc iX1_step 102 ls (vI y :: vI x :: st) h Q = (if x = y then tA sc iX1_step 148 ls st h Q else tA sc iX1_step 105 ls st h Q) := tA_if mB_X1_step dX1_step_102 (fun _ _ _ _ => rfl) rfl
theorem rX1_step_105 : tA sc iX1_step 105 [vR r] st h Q = tA sc iX1_step 106 [vR r] (vR r :: st) h Q := tA_pure mB_X1_step dX1_step_105 rfl
theorem rX1_step_106 : tA sc iX1_step 106 ls (vR (some o) :: st) h Q = oz (tget h o [1] 4) (fun v => tA sc iX1_step 109 ls (v :: st) h Q) := tA_get mB_X1_step mO_X1_step dX1_step_106 fT_1_22
theorem rX1_step_109 : tA sc iX1_step 109 [vR r] st h Q = tA sc iX1_step 110 [vR r] (vR r :: st) h Q := tA_pure mB_X1_step dX1_step_109 rfl
theorem rX1_step_110 : tA sc iX1_step 110 ls (vR (some o) :: st) h Q = oz (tget h o [1] 1) (fun v => tA sc iX1_step 113 ls (v :: st) h Q) := tA_get mB_X1_step mO_X1_step dX1_step_110 fT_1_15
theorem rX1_step_113 : tA sc iX1_step 113 ls (vI y :: vI x :: st) h Q = (if y ≤ x then tA sc iX1_step 148 ls st h Q else tA sc iX1_step 116 ls st h Q) := tA_if mB_X1_step dX1_step_113 (fun _ _ _ _ => rfl) rfl
theorem rX1_step_116 : tA sc iX1_step 116 [vR r] st h Q = tA sc iX1_step 117 [vR r] (vR r :: st) h Q := tA_pure mB_X1_step dX1_step_116 rfl
theorem rX1_step_117 : tA sc iX1_step 117 ls (vR (some o) :: st) h Q = oz (tget h o [1] 0) (fun v => tA sc iX1_step 120 ls (v :: st) h Q) := tA_get mB_X1_step mO_X1_step dX1_step_117 fT_1_9
theorem rX1_step_120 : tA sc iX1_step 120 [vR r] st h Q = tA sc iX1_step 121 [vR r] (vR r :: st) h Q := tA_pure mB_X1_step dX1_step_120 rfl
theorem rX1_step_121 : tA sc iX1_step 121 ls (vR (some o) :: st) h Q = oz (tget h o [1] 4) (fun v => tA sc iX1_step 124 ls (v :: st) h Q) := tA_get mB_X1_step mO_X1_step dX1_step_121 fT_1_22
theorem rX1_step_124 : tA sc iX1_step 124 ls (vI j :: vR (some a) :: st) h Q = oz (tald sc h 1 a j) (fun v => tA sc iX1_step 125 ls (vI v :: st) h Q) := tA_bald mB_X1_step dX1_step_124
theorem rX1_step_125 : tA sc iX1_step 125 ls [vI p0] h Q = tA sc iX1_sortOf 0 [vI p0] [] h (fun v h1 => tA sc iX1_step 128 ls (tpu v []) h1 Q) := tA_cS mB_X1_step mO_X1_step dX1_step_125 cT_1_149 ⟨Nat.le_of_ble_eq_true rfl, Nat.le_of_ble_eq_true rfl⟩ rfl rfl rfl rfl
theorem rX1_step_128 : tA sc iX1_step 128 [vR r] st h Q = tA sc iX1_step 129 [vR r] (vR r :: st) h Q := tA_pure mB_X1_step dX1_step_128 rfl
theorem rX1_step_129 : tA sc iX1_step 129 ls (vR (some o) :: st) h Q = oz (tget h o [1] 2) (fun v => tA sc iX1_step 132 ls (v :: st) h Q) := tA_get mB_X1_step mO_X1_step dX1_step_129 fT_1_28
theorem rX1_step_132 : tA sc iX1_step 132 ls (vI y :: vI x :: st) h Q = (if ¬ x = y then tA sc iX1_step 148 ls st h Q else tA sc iX1_step 135 ls st h Q) := tA_if mB_X1_step dX1_step_132 (fun _ _ _ _ => rfl) rfl
theorem rX1_step_135 : tA sc iX1_step 135 [vR r] st h Q = tA sc iX1_step 136 [vR r] (vR r :: st) h Q := tA_pure mB_X1_step dX1_step_135 rfl
theorem rX1_step_136 : tA sc iX1_step 136 ls (vR r :: st) h Q = tA sc iX1_step 137 ls (vR r :: vR r :: st) h Q := tA_pure mB_X1_step dX1_step_136 rfl
theorem rX1_step_137 : tA sc iX1_step 137 ls (vR (some o) :: st) h Q = oz (tget h o [1] 4) (fun v => tA sc iX1_step 140 ls (v :: st) h Q) := tA_get mB_X1_step mO_X1_step dX1_step_137 fT_1_22
theorem rX1_step_140 : tA sc iX1_step 140 ls st h Q = tA sc iX1_step 141 ls (vI (1) :: st) h Q := tA_pure mB_X1_step dX1_step_140 rfl
theorem rX1_step_141 : tA sc iX1_step 141 ls (vI y :: vI x :: st) h Q = tA sc iX1_step 142 ls (vI (x + y) :: st) h Q := tA_pure mB_X1_step dX1_step_141 rfl
theorem rX1_step_142 : tA sc iX1_step 142 ls (v :: vR (some o) :: st) h Q = oz (tput h o [1] 4 0 v) (fun h' => tA sc iX1_step 145 ls st h' Q) := tA_put mB_X1_step mO_X1_step dX1_step_142 fT_1_22 (Or.inl (by decide))
theorem rX1_step_145 : tA sc iX1_step 145 ls st h Q = tA sc iX1_step 97 ls st h Q := tA_jump mB_X1_step dX1_step_145 (fun _ _ _ _ => rfl) rfl
theorem rX1_step_148 : tA sc iX1_step 148 ls [] h Q = Q (none) h := tA_ret mB_X1_step dX1_step_148 (fun _ _ _ _ => rfl) (fun _ _ _ => rfl) (fun _ _ _ _ _ => rfl) rfl rfl
theorem mB_X1_sortOf : mB iX1_sortOf = cX1_sortOf := rfl
theorem mO_X1_sortOf : mO iX1_sortOf = 1 := rfl
theorem rX1_sortOf_0 : tA sc iX1_sortOf 0 [vI x] st h Q = tA sc iX1_sortOf 1 [vI x] (vI x :: st) h Q := tA_pure mB_X1_sortOf dX1_sortOf_0 rfl
theorem rX1_sortOf_1 : tA sc iX1_sortOf 1 ls st h Q = tA sc iX1_sortOf 3 ls (vI (97) :: st) h Q := tA_pure mB_X1_sortOf dX1_sortOf_1 rfl
theorem rX1_sortOf_3 : tA sc iX1_sortOf 3 ls (vI y :: vI x :: st) h Q = (if x < y then tA sc iX1_sortOf 14 ls st h Q else tA sc iX1_sortOf 6 ls st h Q) := tA_if mB_X1_sortOf dX1_sortOf_3 (fun _ _ _ _ => rfl) rfl
theorem rX1_sortOf_6 : tA sc iX1_sortOf 6 [vI x] st h Q = tA sc iX1_sortOf 7 [vI x] (vI x :: st) h Q := tA_pure mB_X1_sortOf dX1_sortOf_6 rfl
theorem rX1_sortOf_7 : tA sc iX1_sortOf 7 ls st h Q = tA sc iX1_sortOf 9 ls (vI (122) :: st) h Q := tA_pure mB_X1_sortOf dX1_sortOf_7 rfl
theorem rX1_sortOf_9 : tA sc iX1_sortOf 9 ls (vI y :: vI x :: st) h Q = (if y < x then tA sc iX1_sortOf 14 ls st h Q else tA sc iX1_sortOf 12 ls st h Q) := tA_if mB_X1_sortOf dX1_sortOf_9 (fun _ _ _ _ => rfl) rfl
theorem rX1_sortOf_12 : tA sc iX1_sortOf 12 ls st h Q = tA sc iX1_sortOf 13 ls (vI (1) :: st) h Q := tA_pure mB_X1_sortOf dX1_sortOf_12 rfl
theorem rX1_sortOf_13 : tA sc iX1_sortOf 13 ls [vI x] h Q = Q (some (vI x)) h := tA_ret mB_X1_sortOf dX1_sortOf_13 (fun _ _ _ _ => rfl) (fun _ _ _ => rfl) (fun _ _ _ _ _ => rfl) rfl rfl
theorem rX1_sortOf_14 : tA sc iX1_sortOf 14 [vI x] st h Q = tA sc iX1_sortOf 15 [vI x] (vI x :: st) h Q := tA_pure mB_X1_sortOf dX1_sortOf_14 rfl
theorem rX1_sortOf_15 : tA sc iX1_sortOf 15 ls st h Q = tA sc iX1_sortOf 17 ls (vI (48) :: st) h Q := tA_pure mB_X1_sortOf dX1_sortOf_15 rfl
theorem rX1_sortOf_17 : tA sc iX1_sortOf 17 ls (vI y :: vI x :: st) h Q = (if x < y then tA sc iX1_sortOf 30 ls st h Q else tA sc iX1_sortOf 20 ls st h Q) := tA_if mB_X1_sortOf dX1_sortOf_17 (fun _ _ _ _ => rfl) rfl
theorem rX1_sortOf_20 : tA sc iX1_sortOf 20 [vI x] st h Q = tA sc iX1_sortOf 21 [vI x] (vI x :: st) h Q := tA_pure mB_X1_sortOf dX1_sortOf_20 rfl
theorem rX1_sortOf_21 : tA sc iX1_sortOf 21 ls st h Q = tA sc iX1_sortOf 23 ls (vI (57) :: st) h Q := tA_pure mB_X1_sortOf dX1_sortOf_21 rfl
theorem rX1_sortOf_23 : tA sc iX1_sortOf 23 ls (vI y :: vI x :: st) h Q = (if y < x then tA sc iX1_sortOf 30 ls st h Q else tA sc iX1_sortOf 26 ls st h Q) := tA_if mB_X1_sortOf dX1_sortOf_23 (fun _ _ _ _ => rfl) rfl
theorem rX1_sortOf_26 : tA sc iX1_sortOf 26 ls st h Q = tA sc iX1_sortOf 27 ls (vI (2) :: st) h Q := tA_pure mB_X1_sortOf dX1_sortOf_26 rfl
theorem rX1_sortOf_27 : tA sc iX1_sortOf 27 ls st h Q = tA sc iX1_sortOf 31 ls st h Q := tA_jump mB_X1_sortOf dX1_sortOf_27 (fun _ _ _ _ => rfl) rfl
theorem rX1_sortOf_30 : tA sc iX1_sortOf 30 ls st h Q = tA sc iX1_sortOf 31 ls (vI (3) :: st) h Q := tA_pure mB_X1_sortOf dX1_sortOf_30 rfl
theorem rX1_sortOf_31 : tA sc iX1_sortOf 31 ls [vI x] h Q = Q (some (vI x)) h := tA_ret mB_X1_sortOf dX1_sortOf_31 (fun _ _ _ _ => rfl) (fun _ _ _ => rfl) (fun _ _ _ _ _ => rfl) rfl rfl
end S17
