/-! instructions, by program (wip/whole/gen_rows.py) -/
section S17
variable {sc : Nat × (Nat → Int32)} {h : TH} {Q : Option TV → TH → Prop} {st ls : List TV} {l0 l1 l2 l3 l4 l5 l6 l7 l8 l9 l10 l11 l12 l13 l14 : TV} {x y j : Int32} {u w : Int64} {o a : Nat} {r : Option Nat} {v s0 s1 s2 s3 : TV} {p0 p1 p2 p3 p4 : Int32} {q0 q1 q2 q3 : Int64} {n0 n1 n2 n3 : Option Nat}

theorem mB_X0_init : mB iX0_init = cX0_init := rfl
theorem mO_X0_init : mO iX0_init = 0 := rfl
theorem rX0_init_0 : tA sc iX0_init 0 [vR r, l1, l2] st h Q = tA sc iX0_init 1 [vR r, l1, l2] (vR r :: st) h Q := tA_pure mB_X0_init dX0_init_0 rfl
theorem rX0_init_1 : tA sc iX0_init 1 ls st h Q = tA sc iX0_init 2 ls (vI (4) :: st) h Q := tA_pure mB_X0_init dX0_init_1 rfl
theorem rX0_init_2 : tA sc iX0_init 2 [l0, vI x, l2] st h Q = tA sc iX0_init 3 [l0, vI x, l2] (vI x :: st) h Q := tA_pure mB_X0_init dX0_init_2 rfl
theorem rX0_init_3 : tA sc iX0_init 3 [l0, l1, vI x] st h Q = tA sc iX0_init 4 [l0, l1, vI x] (vI x :: st) h Q := tA_pure mB_X0_init dX0_init_3 rfl
theorem rX0_init_4 : tA sc iX0_init 4 ls [vI p2, vI p1, vI p0, vR (some o)] h Q = tA sc iX2_init 0 [vR (some o), vI p0, vI p1, vI p2] [] h (fun v h1 => tA sc iX0_init 7 ls (tpu v []) h1 Q) := tA_cI mB_X0_init mO_X0_init dX0_init_4 cT_0_3 rfl (Nat.le_of_ble_eq_true rfl) rfl rfl rfl
theorem rX0_init_7 : tA sc iX0_init 7 ls [] h Q = Q (none) h := tA_ret mB_X0_init dX0_init_7 (fun _ _ _ _ => rfl) (fun _ _ _ => rfl) (fun _ _ _ _ _ => rfl) rfl rfl
theorem mB_X0_firstWeather : mB iX0_firstWeather = cX0_firstWeather := rfl
theorem mO_X0_firstWeather : mO iX0_firstWeather = 0 := rfl
theorem rX0_firstWeather_0 : tA sc iX0_firstWeather 0 ls st h Q = tA sc iX0_firstWeather 1 ls (vI (0) :: st) h Q := tA_pure mB_X0_firstWeather dX0_firstWeather_0 rfl
theorem rX0_firstWeather_1 : tA sc iX0_firstWeather 1 ls [vI x] h Q = Q (some (vI x)) h := tA_ret mB_X0_firstWeather dX0_firstWeather_1 (fun _ _ _ _ => rfl) (fun _ _ _ => rfl) (fun _ _ _ _ _ => rfl) rfl rfl
theorem mB_X0_breadth : mB iX0_breadth = cX0_breadth := rfl
theorem mO_X0_breadth : mO iX0_breadth = 0 := rfl
theorem rX0_breadth_0 : tA sc iX0_breadth 0 ls st h Q = tA sc iX0_breadth 1 ls (vI (4) :: st) h Q := tA_pure mB_X0_breadth dX0_breadth_0 rfl
theorem rX0_breadth_1 : tA sc iX0_breadth 1 ls [vI x] h Q = Q (some (vI x)) h := tA_ret mB_X0_breadth dX0_breadth_1 (fun _ _ _ _ => rfl) (fun _ _ _ => rfl) (fun _ _ _ _ _ => rfl) rfl rfl
theorem mB_X0_shares : mB iX0_shares = cX0_shares := rfl
theorem mO_X0_shares : mO iX0_shares = 0 := rfl
theorem rX0_shares_0 : tA sc iX0_shares 0 [l0, l1, vR r] st h Q = tA sc iX0_shares 1 [l0, l1, vR r] (vR r :: st) h Q := tA_pure mB_X0_shares dX0_shares_0 rfl
theorem rX0_shares_1 : tA sc iX0_shares 1 ls st h Q = tA sc iX0_shares 3 ls (vI (50) :: st) h Q := tA_pure mB_X0_shares dX0_shares_1 rfl
theorem rX0_shares_3 (hci : tcl h o = some 8) : tA sc iX0_shares 3 ls [vI p0, vR (some o)] h Q = tA sc iX8_begin 0 [vR (some o), vI p0] [] h (fun v h1 => tA sc iX0_shares 6 ls (tpu v []) h1 Q) := tA_cV mB_X0_shares mO_X0_shares dX0_shares_3 cT_0_9 rfl (Nat.le_of_ble_eq_true rfl) rfl rfl rfl hci
theorem rX0_shares_6 : tA sc iX0_shares 6 [vR r, l1, l2] st h Q = tA sc iX0_shares 7 [vR r, l1, l2] (vR r :: st) h Q := tA_pure mB_X0_shares dX0_shares_6 rfl
theorem rX0_shares_7 : tA sc iX0_shares 7 [l0, vI x, l2] st h Q = tA sc iX0_shares 8 [l0, vI x, l2] (vI x :: st) h Q := tA_pure mB_X0_shares dX0_shares_7 rfl
theorem rX0_shares_8 : tA sc iX0_shares 8 ls st h Q = tA sc iX0_shares 9 ls (vI (2) :: st) h Q := tA_pure mB_X0_shares dX0_shares_8 rfl
theorem rX0_shares_9 : tA sc iX0_shares 9 ls (vI y :: vI x :: st) h Q = tA sc iX0_shares 10 ls (vI (x + y) :: st) h Q := tA_pure mB_X0_shares dX0_shares_9 rfl
theorem rX0_shares_10 : tA sc iX0_shares 10 [l0, l1, vR r] st h Q = tA sc iX0_shares 11 [l0, l1, vR r] (vR r :: st) h Q := tA_pure mB_X0_shares dX0_shares_10 rfl
theorem rX0_shares_11 {ci : Nat} (hci : tcl h o = some ci) : tA sc iX0_shares 11 ls [vR n1, vI p0, vR (some o)] h Q = tA sc iX4_shares 0 [vR (some o), vI p0, vR n1, vU] [] h (fun v h1 => tA sc iX0_shares 14 ls (tpu v []) h1 Q) := tA_cU mB_X0_shares mO_X0_shares dX0_shares_11 cT_0_15 rfl (Nat.le_of_ble_eq_true rfl) rfl rfl rfl hci
theorem rX0_shares_14 : tA sc iX0_shares 14 ls st h Q = tA sc iX0_shares 15 ls (vI (1) :: st) h Q := tA_pure mB_X0_shares dX0_shares_14 rfl
theorem rX0_shares_15 : tA sc iX0_shares 15 ls (vI y :: vI x :: st) h Q = tA sc iX0_shares 16 ls (vI (x ^^^ y) :: st) h Q := tA_pure mB_X0_shares dX0_shares_15 rfl
theorem rX0_shares_16 : tA sc iX0_shares 16 ls [vI x] h Q = Q (some (vI x)) h := tA_ret mB_X0_shares dX0_shares_16 (fun _ _ _ _ => rfl) (fun _ _ _ => rfl) (fun _ _ _ _ _ => rfl) rfl rfl
theorem mB_X0_says : mB iX0_says = cX0_says := rfl
theorem mO_X0_says : mO iX0_says = 0 := rfl
theorem rX0_says_0 : tA sc iX0_says 0 [l0, l1, vR r] st h Q = tA sc iX0_says 1 [l0, l1, vR r] (vR r :: st) h Q := tA_pure mB_X0_says dX0_says_0 rfl
theorem rX0_says_1 : tA sc iX0_says 1 ls st h Q = tA sc iX0_says 3 ls (vI (51) :: st) h Q := tA_pure mB_X0_says dX0_says_1 rfl
theorem rX0_says_3 (hci : tcl h o = some 8) : tA sc iX0_says 3 ls [vI p0, vR (some o)] h Q = tA sc iX8_begin 0 [vR (some o), vI p0] [] h (fun v h1 => tA sc iX0_says 6 ls (tpu v []) h1 Q) := tA_cV mB_X0_says mO_X0_says dX0_says_3 cT_0_9 rfl (Nat.le_of_ble_eq_true rfl) rfl rfl rfl hci
theorem rX0_says_6 : tA sc iX0_says 6 [vR r, l1, l2] st h Q = tA sc iX0_says 7 [vR r, l1, l2] (vR r :: st) h Q := tA_pure mB_X0_says dX0_says_6 rfl
theorem rX0_says_7 : tA sc iX0_says 7 [l0, vI x, l2] st h Q = tA sc iX0_says 8 [l0, vI x, l2] (vI x :: st) h Q := tA_pure mB_X0_says dX0_says_7 rfl
theorem rX0_says_8 : tA sc iX0_says 8 [l0, l1, vR r] st h Q = tA sc iX0_says 9 [l0, l1, vR r] (vR r :: st) h Q := tA_pure mB_X0_says dX0_says_8 rfl
theorem rX0_says_9 {ci : Nat} (hci : tcl h o = some ci) : tA sc iX0_says 9 ls [vR n1, vI p0, vR (some o)] h Q = tA sc iX4_says 0 [vR (some o), vI p0, vR n1] [] h (fun v h1 => tA sc iX0_says 12 ls (tpu v []) h1 Q) := tA_cU mB_X0_says mO_X0_says dX0_says_9 cT_0_19 rfl (Nat.le_of_ble_eq_true rfl) rfl rfl rfl hci
theorem rX0_says_12 : tA sc iX0_says 12 [vR r, l1, l2] st h Q = tA sc iX0_says 13 [vR r, l1, l2] (vR r :: st) h Q := tA_pure mB_X0_says dX0_says_12 rfl
theorem rX0_says_13 : tA sc iX0_says 13 ls (vR (some o) :: st) h Q = oz (tget h o [0, 2, 3, 4, 6, 7] 1) (fun v => tA sc iX0_says 16 ls (v :: st) h Q) := tA_get mB_X0_says mO_X0_says dX0_says_13 fT_0_22
theorem rX0_says_16 : tA sc iX0_says 16 ls (vI y :: vI x :: st) h Q = tA sc iX0_says 17 ls (vI (x - y) :: st) h Q := tA_pure mB_X0_says dX0_says_16 rfl
theorem rX0_says_17 : tA sc iX0_says 17 ls [vI x] h Q = Q (some (vI x)) h := tA_ret mB_X0_says dX0_says_17 (fun _ _ _ _ => rfl) (fun _ _ _ => rfl) (fun _ _ _ _ _ => rfl) rfl rfl
theorem mB_X2_init : mB iX2_init = cX2_init := rfl
theorem mO_X2_init : mO iX2_init = 2 := rfl
theorem rX2_init_0 : tA sc iX2_init 0 [vR r, l1, l2, l3] st h Q = tA sc iX2_init 1 [vR r, l1, l2, l3] (vR r :: st) h Q := tA_pure mB_X2_init dX2_init_0 rfl
theorem rX2_init_1 : tA sc iX2_init 1 [l0, vI x, l2, l3] st h Q = tA sc iX2_init 2 [l0, vI x, l2, l3] (vI x :: st) h Q := tA_pure mB_X2_init dX2_init_1 rfl
theorem rX2_init_2 : tA sc iX2_init 2 [l0, l1, vI x, l3] st h Q = tA sc iX2_init 3 [l0, l1, vI x, l3] (vI x :: st) h Q := tA_pure mB_X2_init dX2_init_2 rfl
theorem rX2_init_3 : tA sc iX2_init 3 [l0, l1, l2, vI x] st h Q = tA sc iX2_init 4 [l0, l1, l2, vI x] (vI x :: st) h Q := tA_pure mB_X2_init dX2_init_3 rfl
theorem rX2_init_4 : tA sc iX2_init 4 ls [vI p2, vI p1, vI p0, vR (some o)] h Q = tA sc iX4_init 0 [vR (some o), vI p0, vI p1, vI p2] [] h (fun v h1 => tA sc iX2_init 7 ls (tpu v []) h1 Q) := tA_cI mB_X2_init mO_X2_init dX2_init_4 cT_2_1 rfl (Nat.le_of_ble_eq_true rfl) rfl rfl rfl
theorem rX2_init_7 : tA sc iX2_init 7 ls [] h Q = Q (none) h := tA_ret mB_X2_init dX2_init_7 (fun _ _ _ _ => rfl) (fun _ _ _ => rfl) (fun _ _ _ _ _ => rfl) rfl rfl
theorem mB_X2_chosenDay : mB iX2_chosenDay = cX2_chosenDay := rfl
theorem mO_X2_chosenDay : mO iX2_chosenDay = 2 := rfl
theorem rX2_chosenDay_0 : tA sc iX2_chosenDay 0 [l0, vR r] st h Q = tA sc iX2_chosenDay 1 [l0, vR r] (vR r :: st) h Q := tA_pure mB_X2_chosenDay dX2_chosenDay_0 rfl
theorem rX2_chosenDay_1 : tA sc iX2_chosenDay 1 [vR r, l1] st h Q = tA sc iX2_chosenDay 2 [vR r, l1] (vR r :: st) h Q := tA_pure mB_X2_chosenDay dX2_chosenDay_1 rfl
theorem rX2_chosenDay_2 : tA sc iX2_chosenDay 2 ls (vR (some o) :: st) h Q = oz (tget h o [0, 2, 3, 4, 6, 7] 2) (fun v => tA sc iX2_chosenDay 5 ls (v :: st) h Q) := tA_get mB_X2_chosenDay mO_X2_chosenDay dX2_chosenDay_2 fT_2_7
theorem rX2_chosenDay_5 (hci : tcl h o = some 9) : tA sc iX2_chosenDay 5 ls [vI p0, vR (some o)] h Q = tA sc iX9_lastOpenDay 0 [vR (some o), vI p0, vU] [] h (fun v h1 => tA sc iX2_chosenDay 8 ls (tpu v []) h1 Q) := tA_cV mB_X2_chosenDay mO_X2_chosenDay dX2_chosenDay_5 cT_2_13 rfl (Nat.le_of_ble_eq_true rfl) rfl rfl rfl hci
theorem rX2_chosenDay_8 : tA sc iX2_chosenDay 8 ls [vI x] h Q = Q (some (vI x)) h := tA_ret mB_X2_chosenDay dX2_chosenDay_8 (fun _ _ _ _ => rfl) (fun _ _ _ => rfl) (fun _ _ _ _ _ => rfl) rfl rfl
theorem mB_X2_waits : mB iX2_waits = cX2_waits := rfl
theorem mO_X2_waits : mO iX2_waits = 2 := rfl
theorem rX2_waits_0 : tA sc iX2_waits 0 [l0, l1, vR r] st h Q = tA sc iX2_waits 1 [l0, l1, vR r] (vR r :: st) h Q := tA_pure mB_X2_waits dX2_waits_0 rfl
theorem rX2_waits_1 : tA sc iX2_waits 1 ls st h Q = tA sc iX2_waits 3 ls (vI (20) :: st) h Q := tA_pure mB_X2_waits dX2_waits_1 rfl
theorem rX2_waits_3 (hci : tcl h o = some 8) : tA sc iX2_waits 3 ls [vI p0, vR (some o)] h Q = tA sc iX8_begin 0 [vR (some o), vI p0] [] h (fun v h1 => tA sc iX2_waits 6 ls (tpu v []) h1 Q) := tA_cV mB_X2_waits mO_X2_waits dX2_waits_3 cT_2_19 rfl (Nat.le_of_ble_eq_true rfl) rfl rfl rfl hci
theorem rX2_waits_6 : tA sc iX2_waits 6 [vR r, l1, l2] st h Q = tA sc iX2_waits 7 [vR r, l1, l2] (vR r :: st) h Q := tA_pure mB_X2_waits dX2_waits_6 rfl
theorem rX2_waits_7 : tA sc iX2_waits 7 [l0, vI x, l2] st h Q = tA sc iX2_waits 8 [l0, vI x, l2] (vI x :: st) h Q := tA_pure mB_X2_waits dX2_waits_7 rfl
theorem rX2_waits_8 : tA sc iX2_waits 8 [l0, l1, vR r] st h Q = tA sc iX2_waits 9 [l0, l1, vR r] (vR r :: st) h Q := tA_pure mB_X2_waits dX2_waits_8 rfl
theorem rX2_waits_9 {ci : Nat} (hci : tcl h o = some ci) : tA sc iX2_waits 9 ls [vR n1, vI p0, vR (some o)] h Q = tA sc iX4_waits 0 [vR (some o), vI p0, vR n1] [] h (fun v h1 => tA sc iX2_waits 12 ls (tpu v []) h1 Q) := tA_cU mB_X2_waits mO_X2_waits dX2_waits_9 cT_2_25 rfl (Nat.le_of_ble_eq_true rfl) rfl rfl rfl hci
theorem rX2_waits_12 : tA sc iX2_waits 12 [vR r, l1, l2] st h Q = tA sc iX2_waits 13 [vR r, l1, l2] (vR r :: st) h Q := tA_pure mB_X2_waits dX2_waits_12 rfl
theorem rX2_waits_13 : tA sc iX2_waits 13 ls (vR (some o) :: st) h Q = oz (tget h o [0, 2, 3, 4, 6, 7] 2) (fun v => tA sc iX2_waits 16 ls (v :: st) h Q) := tA_get mB_X2_waits mO_X2_waits dX2_waits_13 fT_2_7
theorem rX2_waits_16 : tA sc iX2_waits 16 ls (vI y :: vI x :: st) h Q = tA sc iX2_waits 17 ls (vI (x - y) :: st) h Q := tA_pure mB_X2_waits dX2_waits_16 rfl
theorem rX2_waits_17 : tA sc iX2_waits 17 ls [vI x] h Q = Q (some (vI x)) h := tA_ret mB_X2_waits dX2_waits_17 (fun _ _ _ _ => rfl) (fun _ _ _ => rfl) (fun _ _ _ _ _ => rfl) rfl rfl
theorem mB_X3_init : mB iX3_init = cX3_init := rfl
theorem mO_X3_init : mO iX3_init = 3 := rfl
theorem rX3_init_0 : tA sc iX3_init 0 [vR r, l1, l2, l3] st h Q = tA sc iX3_init 1 [vR r, l1, l2, l3] (vR r :: st) h Q := tA_pure mB_X3_init dX3_init_0 rfl
theorem rX3_init_1 : tA sc iX3_init 1 [l0, vI x, l2, l3] st h Q = tA sc iX3_init 2 [l0, vI x, l2, l3] (vI x :: st) h Q := tA_pure mB_X3_init dX3_init_1 rfl
theorem rX3_init_2 : tA sc iX3_init 2 [l0, l1, vI x, l3] st h Q = tA sc iX3_init 3 [l0, l1, vI x, l3] (vI x :: st) h Q := tA_pure mB_X3_init dX3_init_2 rfl
theorem rX3_init_3 : tA sc iX3_init 3 [l0, l1, l2, vI x] st h Q = tA sc iX3_init 4 [l0, l1, l2, vI x] (vI x :: st) h Q := tA_pure mB_X3_init dX3_init_3 rfl
theorem rX3_init_4 : tA sc iX3_init 4 ls [vI p2, vI p1, vI p0, vR (some o)] h Q = tA sc iX4_init 0 [vR (some o), vI p0, vI p1, vI p2] [] h (fun v h1 => tA sc iX3_init 7 ls (tpu v []) h1 Q) := tA_cI mB_X3_init mO_X3_init dX3_init_4 cT_3_1 rfl (Nat.le_of_ble_eq_true rfl) rfl rfl rfl
theorem rX3_init_7 : tA sc iX3_init 7 ls [] h Q = Q (none) h := tA_ret mB_X3_init dX3_init_7 (fun _ _ _ _ => rfl) (fun _ _ _ => rfl) (fun _ _ _ _ _ => rfl) rfl rfl
theorem mB_X3_chosenDay : mB iX3_chosenDay = cX3_chosenDay := rfl
theorem mO_X3_chosenDay : mO iX3_chosenDay = 3 := rfl
theorem rX3_chosenDay_0 : tA sc iX3_chosenDay 0 [l0, vR r] st h Q = tA sc iX3_chosenDay 1 [l0, vR r] (vR r :: st) h Q := tA_pure mB_X3_chosenDay dX3_chosenDay_0 rfl
theorem rX3_chosenDay_1 : tA sc iX3_chosenDay 1 [l0, vR r] st h Q = tA sc iX3_chosenDay 2 [l0, vR r] (vR r :: st) h Q := tA_pure mB_X3_chosenDay dX3_chosenDay_1 rfl
theorem rX3_chosenDay_2 : tA sc iX3_chosenDay 2 ls (vR (some o) :: st) h Q = oz (tget h o [9] 6) (fun v => tA sc iX3_chosenDay 5 ls (v :: st) h Q) := tA_get mB_X3_chosenDay mO_X3_chosenDay dX3_chosenDay_2 fT_3_7
theorem rX3_chosenDay_5 : tA sc iX3_chosenDay 5 [l0, vR r] st h Q = tA sc iX3_chosenDay 6 [l0, vR r] (vR r :: st) h Q := tA_pure mB_X3_chosenDay dX3_chosenDay_5 rfl
theorem rX3_chosenDay_6 : tA sc iX3_chosenDay 6 [l0, vR r] st h Q = tA sc iX3_chosenDay 7 [l0, vR r] (vR r :: st) h Q := tA_pure mB_X3_chosenDay dX3_chosenDay_6 rfl
theorem rX3_chosenDay_7 : tA sc iX3_chosenDay 7 ls (vR (some o) :: st) h Q = oz (tget h o [9] 6) (fun v => tA sc iX3_chosenDay 10 ls (v :: st) h Q) := tA_get mB_X3_chosenDay mO_X3_chosenDay dX3_chosenDay_7 fT_3_7
theorem rX3_chosenDay_10 (hci : tcl h o = some 9) : tA sc iX3_chosenDay 10 ls [vI p0, vR (some o), s0, s1] h Q = tA sc iX9_likeliest 0 [vR (some o), vI p0, vU, vU, vU, vU] [] h (fun v h1 => tA sc iX3_chosenDay 13 ls (tpu v [s0, s1]) h1 Q) := tA_cV mB_X3_chosenDay mO_X3_chosenDay dX3_chosenDay_10 cT_3_13 rfl (Nat.le_of_ble_eq_true rfl) rfl rfl rfl hci
theorem rX3_chosenDay_13 (hci : tcl h o = some 9) : tA sc iX3_chosenDay 13 ls [vI p1, vI p0, vR (some o)] h Q = tA sc iX9_isSaid 0 [vR (some o), vI p0, vI p1] [] h (fun v h1 => tA sc iX3_chosenDay 16 ls (tpu v []) h1 Q) := tA_cV mB_X3_chosenDay mO_X3_chosenDay dX3_chosenDay_13 cT_3_17 rfl (Nat.le_of_ble_eq_true rfl) rfl rfl rfl hci
theorem rX3_chosenDay_16 : tA sc iX3_chosenDay 16 ls (vI x :: st) h Q = (if x = 0 then tA sc iX3_chosenDay 23 ls st h Q else tA sc iX3_chosenDay 19 ls st h Q) := tA_if mB_X3_chosenDay dX3_chosenDay_16 (fun _ _ _ _ => rfl) rfl
theorem rX3_chosenDay_19 : tA sc iX3_chosenDay 19 ls st h Q = tA sc iX3_chosenDay 20 ls (vI (-1) :: st) h Q := tA_pure mB_X3_chosenDay dX3_chosenDay_19 rfl
theorem rX3_chosenDay_20 : tA sc iX3_chosenDay 20 ls st h Q = tA sc iX3_chosenDay 27 ls st h Q := tA_jump mB_X3_chosenDay dX3_chosenDay_20 (fun _ _ _ _ => rfl) rfl
theorem rX3_chosenDay_23 : tA sc iX3_chosenDay 23 [l0, vR r] st h Q = tA sc iX3_chosenDay 24 [l0, vR r] (vR r :: st) h Q := tA_pure mB_X3_chosenDay dX3_chosenDay_23 rfl
theorem rX3_chosenDay_24 : tA sc iX3_chosenDay 24 ls (vR (some o) :: st) h Q = oz (tget h o [9] 6) (fun v => tA sc iX3_chosenDay 27 ls (v :: st) h Q) := tA_get mB_X3_chosenDay mO_X3_chosenDay dX3_chosenDay_24 fT_3_7
theorem rX3_chosenDay_27 : tA sc iX3_chosenDay 27 ls [vI x] h Q = Q (some (vI x)) h := tA_ret mB_X3_chosenDay dX3_chosenDay_27 (fun _ _ _ _ => rfl) (fun _ _ _ => rfl) (fun _ _ _ _ _ => rfl) rfl rfl
theorem mB_X3_says : mB iX3_says = cX3_says := rfl
theorem mO_X3_says : mO iX3_says = 3 := rfl
theorem rX3_says_0 : tA sc iX3_says 0 [l0, l1, vR r] st h Q = tA sc iX3_says 1 [l0, l1, vR r] (vR r :: st) h Q := tA_pure mB_X3_says dX3_says_0 rfl
theorem rX3_says_1 : tA sc iX3_says 1 ls st h Q = tA sc iX3_says 3 ls (vI (30) :: st) h Q := tA_pure mB_X3_says dX3_says_1 rfl
theorem rX3_says_3 (hci : tcl h o = some 8) : tA sc iX3_says 3 ls [vI p0, vR (some o)] h Q = tA sc iX8_begin 0 [vR (some o), vI p0] [] h (fun v h1 => tA sc iX3_says 6 ls (tpu v []) h1 Q) := tA_cV mB_X3_says mO_X3_says dX3_says_3 cT_3_21 rfl (Nat.le_of_ble_eq_true rfl) rfl rfl rfl hci
theorem rX3_says_6 : tA sc iX3_says 6 [vR r, l1, l2] st h Q = tA sc iX3_says 7 [vR r, l1, l2] (vR r :: st) h Q := tA_pure mB_X3_says dX3_says_6 rfl
theorem rX3_says_7 : tA sc iX3_says 7 [l0, vI x, l2] st h Q = tA sc iX3_says 8 [l0, vI x, l2] (vI x :: st) h Q := tA_pure mB_X3_says dX3_says_7 rfl
theorem rX3_says_8 : tA sc iX3_says 8 [l0, l1, vR r] st h Q = tA sc iX3_says 9 [l0, l1, vR r] (vR r :: st) h Q := tA_pure mB_X3_says dX3_says_8 rfl
theorem rX3_says_9 {ci : Nat} (hci : tcl h o = some ci) : tA sc iX3_says 9 ls [vR n1, vI p0, vR (some o)] h Q = tA sc iX4_says 0 [vR (some o), vI p0, vR n1] [] h (fun v h1 => tA sc iX3_says 12 ls (tpu v []) h1 Q) := tA_cU mB_X3_says mO_X3_says dX3_says_9 cT_3_27 rfl (Nat.le_of_ble_eq_true rfl) rfl rfl rfl hci
theorem rX3_says_12 : tA sc iX3_says 12 ls st h Q = tA sc iX3_says 13 ls (vI (3) :: st) h Q := tA_pure mB_X3_says dX3_says_12 rfl
theorem rX3_says_13 : tA sc iX3_says 13 ls (vI y :: vI x :: st) h Q = tA sc iX3_says 14 ls (vI (x * y) :: st) h Q := tA_pure mB_X3_says dX3_says_13 rfl
theorem rX3_says_14 : tA sc iX3_says 14 ls [vI x] h Q = Q (some (vI x)) h := tA_ret mB_X3_says dX3_says_14 (fun _ _ _ _ => rfl) (fun _ _ _ => rfl) (fun _ _ _ _ _ => rfl) rfl rfl
theorem mB_X3_tells : mB iX3_tells = cX3_tells := rfl
theorem mO_X3_tells : mO iX3_tells = 3 := rfl
theorem rX3_tells_0 : tA sc iX3_tells 0 [l0, l1, vR r] st h Q = tA sc iX3_tells 1 [l0, l1, vR r] (vR r :: st) h Q := tA_pure mB_X3_tells dX3_tells_0 rfl
theorem rX3_tells_1 : tA sc iX3_tells 1 ls st h Q = tA sc iX3_tells 3 ls (vI (31) :: st) h Q := tA_pure mB_X3_tells dX3_tells_1 rfl
theorem rX3_tells_3 (hci : tcl h o = some 8) : tA sc iX3_tells 3 ls [vI p0, vR (some o)] h Q = tA sc iX8_begin 0 [vR (some o), vI p0] [] h (fun v h1 => tA sc iX3_tells 6 ls (tpu v []) h1 Q) := tA_cV mB_X3_tells mO_X3_tells dX3_tells_3 cT_3_21 rfl (Nat.le_of_ble_eq_true rfl) rfl rfl rfl hci
theorem rX3_tells_6 : tA sc iX3_tells 6 [vR r, l1, l2] st h Q = tA sc iX3_tells 7 [vR r, l1, l2] (vR r :: st) h Q := tA_pure mB_X3_tells dX3_tells_6 rfl
theorem rX3_tells_7 : tA sc iX3_tells 7 [l0, vI x, l2] st h Q = tA sc iX3_tells 8 [l0, vI x, l2] (vI x :: st) h Q := tA_pure mB_X3_tells dX3_tells_7 rfl
theorem rX3_tells_8 : tA sc iX3_tells 8 [l0, l1, vR r] st h Q = tA sc iX3_tells 9 [l0, l1, vR r] (vR r :: st) h Q := tA_pure mB_X3_tells dX3_tells_8 rfl
theorem rX3_tells_9 {ci : Nat} (hci : tcl h o = some ci) : tA sc iX3_tells 9 ls [vR n1, vI p0, vR (some o)] h Q = tA sc iX4_tells 0 [vR (some o), vI p0, vR n1] [] h (fun v h1 => tA sc iX3_tells 12 ls (tpu v []) h1 Q) := tA_cU mB_X3_tells mO_X3_tells dX3_tells_9 cT_3_31 rfl (Nat.le_of_ble_eq_true rfl) rfl rfl rfl hci
theorem rX3_tells_12 : tA sc iX3_tells 12 [vR r, l1, l2] st h Q = tA sc iX3_tells 13 [vR r, l1, l2] (vR r :: st) h Q := tA_pure mB_X3_tells dX3_tells_12 rfl
theorem rX3_tells_13 : tA sc iX3_tells 13 [vR r, l1, l2] st h Q = tA sc iX3_tells 14 [vR r, l1, l2] (vR r :: st) h Q := tA_pure mB_X3_tells dX3_tells_13 rfl
theorem rX3_tells_14 : tA sc iX3_tells 14 ls (vR (some o) :: st) h Q = oz (tget h o [0, 2, 3, 4, 6, 7] 1) (fun v => tA sc iX3_tells 17 ls (v :: st) h Q) := tA_get mB_X3_tells mO_X3_tells dX3_tells_14 fT_3_34
theorem rX3_tells_17 : tA sc iX3_tells 17 [l0, l1, vR r] st h Q = tA sc iX3_tells 18 [l0, l1, vR r] (vR r :: st) h Q := tA_pure mB_X3_tells dX3_tells_17 rfl
theorem rX3_tells_18_3 (hci : tcl h o = some 3) : tA sc iX3_tells 18 ls [vR n1, vI p0, vR (some o), s0] h Q = tA sc iX4_shares 0 [vR (some o), vI p0, vR n1, vU] [] h (fun v h1 => tA sc iX3_tells 21 ls (tpu v [s0]) h1 Q) := tA_cV mB_X3_tells mO_X3_tells dX3_tells_18 cT_3_39 rfl (Nat.le_of_ble_eq_true rfl) rfl rfl rfl hci
theorem rX3_tells_18_6 (hci : tcl h o = some 6) : tA sc iX3_tells 18 ls [vR n1, vI p0, vR (some o), s0] h Q = tA sc iX4_shares 0 [vR (some o), vI p0, vR n1, vU] [] h (fun v h1 => tA sc iX3_tells 21 ls (tpu v [s0]) h1 Q) := tA_cV mB_X3_tells mO_X3_tells dX3_tells_18 cT_3_39 rfl (Nat.le_of_ble_eq_true rfl) rfl rfl rfl hci
theorem rX3_tells_21 : tA sc iX3_tells 21 ls (vI y :: vI x :: st) h Q = tA sc iX3_tells 22 ls (vI (x + y) :: st) h Q := tA_pure mB_X3_tells dX3_tells_21 rfl
theorem rX3_tells_22 : tA sc iX3_tells 22 ls [vI x] h Q = Q (some (vI x)) h := tA_ret mB_X3_tells dX3_tells_22 (fun _ _ _ _ => rfl) (fun _ _ _ => rfl) (fun _ _ _ _ _ => rfl) rfl rfl
theorem mB_X4_init : mB iX4_init = cX4_init := rfl
theorem mO_X4_init : mO iX4_init = 4 := rfl
theorem rX4_init_0 : tA sc iX4_init 0 [vR r, l1, l2, l3] st h Q = tA sc iX4_init 1 [vR r, l1, l2, l3] (vR r :: st) h Q := tA_pure mB_X4_init dX4_init_0 rfl
theorem rX4_init_1 : tA sc iX4_init 1 ls [vR (some o)] h Q = tA sc iX4_init 4 ls [] h Q := tA_cN mB_X4_init mO_X4_init dX4_init_1 (fun _ _ _ _ => rfl) (fun _ _ _ => rfl) (fun _ _ _ _ _ => rfl) rfl cT_4_3 rfl rfl
theorem rX4_init_4 : tA sc iX4_init 4 [vR r, l1, l2, l3] st h Q = tA sc iX4_init 5 [vR r, l1, l2, l3] (vR r :: st) h Q := tA_pure mB_X4_init dX4_init_4 rfl
theorem rX4_init_5 : tA sc iX4_init 5 [l0, vI x, l2, l3] st h Q = tA sc iX4_init 6 [l0, vI x, l2, l3] (vI x :: st) h Q := tA_pure mB_X4_init dX4_init_5 rfl
theorem rX4_init_6 : tA sc iX4_init 6 ls (v :: vR (some o) :: st) h Q = oz (tput h o [0, 2, 3, 4, 6, 7] 0 0 v) (fun h' => tA sc iX4_init 9 ls st h' Q) := tA_put mB_X4_init mO_X4_init dX4_init_6 fT_4_9 (Or.inr ⟨by decide, rfl⟩)
theorem rX4_init_9 : tA sc iX4_init 9 [vR r, l1, l2, l3] st h Q = tA sc iX4_init 10 [vR r, l1, l2, l3] (vR r :: st) h Q := tA_pure mB_X4_init dX4_init_9 rfl
theorem rX4_init_10 : tA sc iX4_init 10 [l0, l1, vI x, l3] st h Q = tA sc iX4_init 11 [l0, l1, vI x, l3] (vI x :: st) h Q := tA_pure mB_X4_init dX4_init_10 rfl
theorem rX4_init_11 : tA sc iX4_init 11 ls (v :: vR (some o) :: st) h Q = oz (tput h o [0, 2, 3, 4, 6, 7] 1 0 v) (fun h' => tA sc iX4_init 14 ls st h' Q) := tA_put mB_X4_init mO_X4_init dX4_init_11 fT_4_15 (Or.inr ⟨by decide, rfl⟩)
theorem rX4_init_14 : tA sc iX4_init 14 [vR r, l1, l2, l3] st h Q = tA sc iX4_init 15 [vR r, l1, l2, l3] (vR r :: st) h Q := tA_pure mB_X4_init dX4_init_14 rfl
theorem rX4_init_15 : tA sc iX4_init 15 [l0, l1, l2, vI x] st h Q = tA sc iX4_init 16 [l0, l1, l2, vI x] (vI x :: st) h Q := tA_pure mB_X4_init dX4_init_15 rfl
theorem rX4_init_16 : tA sc iX4_init 16 ls (v :: vR (some o) :: st) h Q = oz (tput h o [0, 2, 3, 4, 6, 7] 2 0 v) (fun h' => tA sc iX4_init 19 ls st h' Q) := tA_put mB_X4_init mO_X4_init dX4_init_16 fT_4_18 (Or.inr ⟨by decide, rfl⟩)
theorem rX4_init_19 : tA sc iX4_init 19 ls [] h Q = Q (none) h := tA_ret mB_X4_init dX4_init_19 (fun _ _ _ _ => rfl) (fun _ _ _ => rfl) (fun _ _ _ _ _ => rfl) rfl rfl
theorem mB_X4_chosenDay : mB iX4_chosenDay = cX4_chosenDay := rfl
theorem mO_X4_chosenDay : mO iX4_chosenDay = 4 := rfl
theorem rX4_chosenDay_0 : tA sc iX4_chosenDay 0 ls st h Q = tA sc iX4_chosenDay 1 ls (vI (-1) :: st) h Q := tA_pure mB_X4_chosenDay dX4_chosenDay_0 rfl
theorem rX4_chosenDay_1 : tA sc iX4_chosenDay 1 ls [vI x] h Q = Q (some (vI x)) h := tA_ret mB_X4_chosenDay dX4_chosenDay_1 (fun _ _ _ _ => rfl) (fun _ _ _ => rfl) (fun _ _ _ _ _ => rfl) rfl rfl
theorem mB_X4_firstWeather : mB iX4_firstWeather = cX4_firstWeather := rfl
theorem mO_X4_firstWeather : mO iX4_firstWeather = 4 := rfl
theorem rX4_firstWeather_0 : tA sc iX4_firstWeather 0 [l0, vR r, l2] st h Q = tA sc iX4_firstWeather 1 [l0, vR r, l2] (vR r :: st) h Q := tA_pure mB_X4_firstWeather dX4_firstWeather_0 rfl
theorem rX4_firstWeather_1 : tA sc iX4_firstWeather 1 [l0, l1, vI x] st h Q = tA sc iX4_firstWeather 2 [l0, l1, vI x] (vI x :: st) h Q := tA_pure mB_X4_firstWeather dX4_firstWeather_1 rfl
theorem rX4_firstWeather_2 (hci : tcl h o = some 9) : tA sc iX4_firstWeather 2 ls [vI p0, vR (some o)] h Q = tA sc iX9_likeliest 0 [vR (some o), vI p0, vU, vU, vU, vU] [] h (fun v h1 => tA sc iX4_firstWeather 5 ls (tpu v []) h1 Q) := tA_cV mB_X4_firstWeather mO_X4_firstWeather dX4_firstWeather_2 cT_4_21 rfl (Nat.le_of_ble_eq_true rfl) rfl rfl rfl hci
theorem rX4_firstWeather_5 : tA sc iX4_firstWeather 5 ls [vI x] h Q = Q (some (vI x)) h := tA_ret mB_X4_firstWeather dX4_firstWeather_5 (fun _ _ _ _ => rfl) (fun _ _ _ => rfl) (fun _ _ _ _ _ => rfl) rfl rfl
theorem mB_X4_breadth : mB iX4_breadth = cX4_breadth := rfl
theorem mO_X4_breadth : mO iX4_breadth = 4 := rfl
theorem rX4_breadth_0 : tA sc iX4_breadth 0 ls st h Q = tA sc iX4_breadth 1 ls (vI (1) :: st) h Q := tA_pure mB_X4_breadth dX4_breadth_0 rfl
theorem rX4_breadth_1 : tA sc iX4_breadth 1 ls [vI x] h Q = Q (some (vI x)) h := tA_ret mB_X4_breadth dX4_breadth_1 (fun _ _ _ _ => rfl) (fun _ _ _ => rfl) (fun _ _ _ _ _ => rfl) rfl rfl
theorem mB_X4_says : mB iX4_says = cX4_says := rfl
theorem mO_X4_says : mO iX4_says = 4 := rfl
theorem rX4_says_0 : tA sc iX4_says 0 [l0, l1, vR r] st h Q = tA sc iX4_says 1 [l0, l1, vR r] (vR r :: st) h Q := tA_pure mB_X4_says dX4_says_0 rfl
theorem rX4_says_1 : tA sc iX4_says 1 ls (vR (some o) :: st) h Q = oz (tget h o [8] 2) (fun v => tA sc iX4_says 4 ls (v :: st) h Q) := tA_get mB_X4_says mO_X4_says dX4_says_1 fT_4_27
theorem rX4_says_4 : tA sc iX4_says 4 ls (vI x :: st) h Q = (if ¬ x = 0 then tA sc iX4_says 37 ls st h Q else tA sc iX4_says 7 ls st h Q) := tA_if mB_X4_says dX4_says_4 (fun _ _ _ _ => rfl) rfl
theorem rX4_says_7 : tA sc iX4_says 7 [l0, l1, vR r] st h Q = tA sc iX4_says 8 [l0, l1, vR r] (vR r :: st) h Q := tA_pure mB_X4_says dX4_says_7 rfl
theorem rX4_says_8 : tA sc iX4_says 8 ls (vR (some o) :: st) h Q = oz (tget h o [8] 1) (fun v => tA sc iX4_says 11 ls (v :: st) h Q) := tA_get mB_X4_says mO_X4_says dX4_says_8 fT_4_33
theorem rX4_says_11 : tA sc iX4_says 11 ls st h Q = tA sc iX4_says 13 ls (vI (30) :: st) h Q := tA_pure mB_X4_says dX4_says_11 rfl
theorem rX4_says_13 : tA sc iX4_says 13 ls (vI y :: vI x :: st) h Q = (if y ≤ x then tA sc iX4_says 37 ls st h Q else tA sc iX4_says 16 ls st h Q) := tA_if mB_X4_says dX4_says_13 (fun _ _ _ _ => rfl) rfl
theorem rX4_says_16 : tA sc iX4_says 16 [l0, l1, vR r] st h Q = tA sc iX4_says 17 [l0, l1, vR r] (vR r :: st) h Q := tA_pure mB_X4_says dX4_says_16 rfl
theorem rX4_says_17 : tA sc iX4_says 17 ls (vR (some o) :: st) h Q = oz (tget h o [8] 0) (fun v => tA sc iX4_says 20 ls (v :: st) h Q) := tA_get mB_X4_says mO_X4_says dX4_says_17 fT_4_36
theorem rX4_says_20 : tA sc iX4_says 20 [l0, l1, vR r] st h Q = tA sc iX4_says 21 [l0, l1, vR r] (vR r :: st) h Q := tA_pure mB_X4_says dX4_says_20 rfl
theorem rX4_says_21 : tA sc iX4_says 21 ls (vR (some o) :: st) h Q = oz (tget h o [8] 1) (fun v => tA sc iX4_says 24 ls (v :: st) h Q) := tA_get mB_X4_says mO_X4_says dX4_says_21 fT_4_33
theorem rX4_says_24 : tA sc iX4_says 24 ls st h Q = tA sc iX4_says 26 ls (vI (10) :: st) h Q := tA_pure mB_X4_says dX4_says_24 rfl
theorem rX4_says_26 : tA sc iX4_says 26 ls (vI x :: vI j :: vR (some a) :: st) h Q = oz (tasi h a j x) (fun h' => tA sc iX4_says 27 ls st h' Q) := tA_iast mB_X4_says dX4_says_26
theorem rX4_says_27 : tA sc iX4_says 27 [l0, l1, vR r] st h Q = tA sc iX4_says 28 [l0, l1, vR r] (vR r :: st) h Q := tA_pure mB_X4_says dX4_says_27 rfl
theorem rX4_says_28 : tA sc iX4_says 28 ls (vR r :: st) h Q = tA sc iX4_says 29 ls (vR r :: vR r :: st) h Q := tA_pure mB_X4_says dX4_says_28 rfl
theorem rX4_says_29 : tA sc iX4_says 29 ls (vR (some o) :: st) h Q = oz (tget h o [8] 1) (fun v => tA sc iX4_says 32 ls (v :: st) h Q) := tA_get mB_X4_says mO_X4_says dX4_says_29 fT_4_33
theorem rX4_says_32 : tA sc iX4_says 32 ls st h Q = tA sc iX4_says 33 ls (vI (1) :: st) h Q := tA_pure mB_X4_says dX4_says_32 rfl
theorem rX4_says_33 : tA sc iX4_says 33 ls (vI y :: vI x :: st) h Q = tA sc iX4_says 34 ls (vI (x + y) :: st) h Q := tA_pure mB_X4_says dX4_says_33 rfl
theorem rX4_says_34 : tA sc iX4_says 34 ls (v :: vR (some o) :: st) h Q = oz (tput h o [8] 1 0 v) (fun h' => tA sc iX4_says 37 ls st h' Q) := tA_put mB_X4_says mO_X4_says dX4_says_34 fT_4_33 (Or.inl (by decide))
theorem rX4_says_37 : tA sc iX4_says 37 [l0, vI x, l2] st h Q = tA sc iX4_says 38 [l0, vI x, l2] (vI x :: st) h Q := tA_pure mB_X4_says dX4_says_37 rfl
theorem rX4_says_38 : tA sc iX4_says 38 [vR r, l1, l2] st h Q = tA sc iX4_says 39 [vR r, l1, l2] (vR r :: st) h Q := tA_pure mB_X4_says dX4_says_38 rfl
theorem rX4_says_39 : tA sc iX4_says 39 ls (vR (some o) :: st) h Q = oz (tget h o [0, 2, 3, 4, 6, 7] 1) (fun v => tA sc iX4_says 42 ls (v :: st) h Q) := tA_get mB_X4_says mO_X4_says dX4_says_39 fT_4_15
theorem rX4_says_42 : tA sc iX4_says 42 ls (vI y :: vI x :: st) h Q = tA sc iX4_says 43 ls (vI (x + y) :: st) h Q := tA_pure mB_X4_says dX4_says_42 rfl
theorem rX4_says_43 : tA sc iX4_says 43 ls [vI x] h Q = Q (some (vI x)) h := tA_ret mB_X4_says dX4_says_43 (fun _ _ _ _ => rfl) (fun _ _ _ => rfl) (fun _ _ _ _ _ => rfl) rfl rfl
theorem mB_X4_waits : mB iX4_waits = cX4_waits := rfl
theorem mO_X4_waits : mO iX4_waits = 4 := rfl
theorem rX4_waits_0 : tA sc iX4_waits 0 [l0, l1, vR r] st h Q = tA sc iX4_waits 1 [l0, l1, vR r] (vR r :: st) h Q := tA_pure mB_X4_waits dX4_waits_0 rfl
theorem rX4_waits_1 : tA sc iX4_waits 1 ls st h Q = tA sc iX4_waits 3 ls (vI (11) :: st) h Q := tA_pure mB_X4_waits dX4_waits_1 rfl
theorem rX4_waits_3 (hci : tcl h o = some 8) : tA sc iX4_waits 3 ls [vI p0, vR (some o)] h Q = tA sc iX8_begin 0 [vR (some o), vI p0] [] h (fun v h1 => tA sc iX4_waits 6 ls (tpu v []) h1 Q) := tA_cV mB_X4_waits mO_X4_waits dX4_waits_3 cT_4_40 rfl (Nat.le_of_ble_eq_true rfl) rfl rfl rfl hci
theorem rX4_waits_6 : tA sc iX4_waits 6 [vR r, l1, l2] st h Q = tA sc iX4_waits 7 [vR r, l1, l2] (vR r :: st) h Q := tA_pure mB_X4_waits dX4_waits_6 rfl
theorem rX4_waits_7 : tA sc iX4_waits 7 [l0, vI x, l2] st h Q = tA sc iX4_waits 8 [l0, vI x, l2] (vI x :: st) h Q := tA_pure mB_X4_waits dX4_waits_7 rfl
theorem rX4_waits_8 : tA sc iX4_waits 8 [l0, l1, vR r] st h Q = tA sc iX4_waits 9 [l0, l1, vR r] (vR r :: st) h Q := tA_pure mB_X4_waits dX4_waits_8 rfl
theorem rX4_waits_9_0 (hci : tcl h o = some 0) : tA sc iX4_waits 9 ls [vR n1, vI p0, vR (some o)] h Q = tA sc iX0_says 0 [vR (some o), vI p0, vR n1] [] h (fun v h1 => tA sc iX4_waits 12 ls (tpu v []) h1 Q) := tA_cV mB_X4_waits mO_X4_waits dX4_waits_9 cT_4_44 rfl (Nat.le_of_ble_eq_true rfl) rfl rfl rfl hci
theorem rX4_waits_9_2 (hci : tcl h o = some 2) : tA sc iX4_waits 9 ls [vR n1, vI p0, vR (some o)] h Q = tA sc iX4_says 0 [vR (some o), vI p0, vR n1] [] h (fun v h1 => tA sc iX4_waits 12 ls (tpu v []) h1 Q) := tA_cV mB_X4_waits mO_X4_waits dX4_waits_9 cT_4_44 rfl (Nat.le_of_ble_eq_true rfl) rfl rfl rfl hci
theorem rX4_waits_9_3 (hci : tcl h o = some 3) : tA sc iX4_waits 9 ls [vR n1, vI p0, vR (some o)] h Q = tA sc iX3_says 0 [vR (some o), vI p0, vR n1] [] h (fun v h1 => tA sc iX4_waits 12 ls (tpu v []) h1 Q) := tA_cV mB_X4_waits mO_X4_waits dX4_waits_9 cT_4_44 rfl (Nat.le_of_ble_eq_true rfl) rfl rfl rfl hci
theorem rX4_waits_9_4 (hci : tcl h o = some 4) : tA sc iX4_waits 9 ls [vR n1, vI p0, vR (some o)] h Q = tA sc iX4_says 0 [vR (some o), vI p0, vR n1] [] h (fun v h1 => tA sc iX4_waits 12 ls (tpu v []) h1 Q) := tA_cV mB_X4_waits mO_X4_waits dX4_waits_9 cT_4_44 rfl (Nat.le_of_ble_eq_true rfl) rfl rfl rfl hci
theorem rX4_waits_9_6 (hci : tcl h o = some 6) : tA sc iX4_waits 9 ls [vR n1, vI p0, vR (some o)] h Q = tA sc iX6_says 0 [vR (some o), vI p0, vR n1] [] h (fun v h1 => tA sc iX4_waits 12 ls (tpu v []) h1 Q) := tA_cV mB_X4_waits mO_X4_waits dX4_waits_9 cT_4_44 rfl (Nat.le_of_ble_eq_true rfl) rfl rfl rfl hci
theorem rX4_waits_9_7 (hci : tcl h o = some 7) : tA sc iX4_waits 9 ls [vR n1, vI p0, vR (some o)] h Q = tA sc iX4_says 0 [vR (some o), vI p0, vR n1] [] h (fun v h1 => tA sc iX4_waits 12 ls (tpu v []) h1 Q) := tA_cV mB_X4_waits mO_X4_waits dX4_waits_9 cT_4_44 rfl (Nat.le_of_ble_eq_true rfl) rfl rfl rfl hci
theorem rX4_waits_12 : tA sc iX4_waits 12 ls st h Q = tA sc iX4_waits 13 ls (vI (2) :: st) h Q := tA_pure mB_X4_waits dX4_waits_12 rfl
theorem rX4_waits_13 : tA sc iX4_waits 13 ls (vI y :: vI x :: st) h Q = tA sc iX4_waits 14 ls (vI (x * y) :: st) h Q := tA_pure mB_X4_waits dX4_waits_13 rfl
theorem rX4_waits_14 : tA sc iX4_waits 14 ls [vI x] h Q = Q (some (vI x)) h := tA_ret mB_X4_waits dX4_waits_14 (fun _ _ _ _ => rfl) (fun _ _ _ => rfl) (fun _ _ _ _ _ => rfl) rfl rfl
theorem mB_X4_shares : mB iX4_shares = cX4_shares := rfl
theorem mO_X4_shares : mO iX4_shares = 4 := rfl
theorem rX4_shares_0 : tA sc iX4_shares 0 [l0, l1, vR r, l3] st h Q = tA sc iX4_shares 1 [l0, l1, vR r, l3] (vR r :: st) h Q := tA_pure mB_X4_shares dX4_shares_0 rfl
theorem rX4_shares_1 : tA sc iX4_shares 1 ls st h Q = tA sc iX4_shares 3 ls (vI (12) :: st) h Q := tA_pure mB_X4_shares dX4_shares_1 rfl
theorem rX4_shares_3 (hci : tcl h o = some 8) : tA sc iX4_shares 3 ls [vI p0, vR (some o)] h Q = tA sc iX8_begin 0 [vR (some o), vI p0] [] h (fun v h1 => tA sc iX4_shares 6 ls (tpu v []) h1 Q) := tA_cV mB_X4_shares mO_X4_shares dX4_shares_3 cT_4_40 rfl (Nat.le_of_ble_eq_true rfl) rfl rfl rfl hci
theorem rX4_shares_6 : tA sc iX4_shares 6 [vR r, l1, l2, l3] st h Q = tA sc iX4_shares 7 [vR r, l1, l2, l3] (vR r :: st) h Q := tA_pure mB_X4_shares dX4_shares_6 rfl
theorem rX4_shares_7 : tA sc iX4_shares 7 ls (vR (some o) :: st) h Q = oz (tget h o [0, 2, 3, 4, 6, 7] 2) (fun v => tA sc iX4_shares 10 ls (v :: st) h Q) := tA_get mB_X4_shares mO_X4_shares dX4_shares_7 fT_4_18
theorem rX4_shares_10 : tA sc iX4_shares 10 [vR r, l1, l2, l3] st h Q = tA sc iX4_shares 11 [vR r, l1, l2, l3] (vR r :: st) h Q := tA_pure mB_X4_shares dX4_shares_10 rfl
theorem rX4_shares_11 : tA sc iX4_shares 11 ls (vR (some o) :: st) h Q = oz (tget h o [0, 2, 3, 4, 6, 7] 1) (fun v => tA sc iX4_shares 14 ls (v :: st) h Q) := tA_get mB_X4_shares mO_X4_shares dX4_shares_11 fT_4_15
theorem rX4_shares_14 : tA sc iX4_shares 14 ls (vI y :: vI x :: st) h Q = tA sc iX4_shares 15 ls (vI (x - y) :: st) h Q := tA_pure mB_X4_shares dX4_shares_14 rfl
theorem rX4_shares_15 : tA sc iX4_shares 15 [l0, l1, l2, l3] (vI x :: st) h Q = tA sc iX4_shares 16 [l0, l1, tclr l2, vI x] st h Q := tA_pure mB_X4_shares dX4_shares_15 rfl
theorem rX4_shares_16 : tA sc iX4_shares 16 [l0, l1, l2, vI x] st h Q = tA sc iX4_shares 17 [l0, l1, l2, vI x] (vI x :: st) h Q := tA_pure mB_X4_shares dX4_shares_16 rfl
theorem rX4_shares_17 : tA sc iX4_shares 17 ls (vI x :: st) h Q = (if ¬ x = 0 then tA sc iX4_shares 27 ls st h Q else tA sc iX4_shares 20 ls st h Q) := tA_if mB_X4_shares dX4_shares_17 (fun _ _ _ _ => rfl) rfl
theorem rX4_shares_20 : tA sc iX4_shares 20 [l0, l1, vR r, l3] st h Q = tA sc iX4_shares 21 [l0, l1, vR r, l3] (vR r :: st) h Q := tA_pure mB_X4_shares dX4_shares_20 rfl
theorem rX4_shares_21 : tA sc iX4_shares 21 ls st h Q = tA sc iX4_shares 22 ls (vI (1) :: st) h Q := tA_pure mB_X4_shares dX4_shares_21 rfl
theorem rX4_shares_22 : tA sc iX4_shares 22 ls (v :: vR (some o) :: st) h Q = oz (tput h o [8] 2 1 v) (fun h' => tA sc iX4_shares 25 ls st h' Q) := tA_put mB_X4_shares mO_X4_shares dX4_shares_22 fT_4_27 (Or.inl (by decide))
theorem rX4_shares_25 : tA sc iX4_shares 25 ls st h Q = tA sc iX4_shares 26 ls (vI (0) :: st) h Q := tA_pure mB_X4_shares dX4_shares_25 rfl
theorem rX4_shares_26 : tA sc iX4_shares 26 ls [vI x] h Q = Q (some (vI x)) h := tA_ret mB_X4_shares dX4_shares_26 (fun _ _ _ _ => rfl) (fun _ _ _ => rfl) (fun _ _ _ _ _ => rfl) rfl rfl
theorem rX4_shares_27 : tA sc iX4_shares 27 [l0, vI x, l2, l3] st h Q = tA sc iX4_shares 28 [l0, vI x, l2, l3] (vI x :: st) h Q := tA_pure mB_X4_shares dX4_shares_27 rfl
theorem rX4_shares_28 : tA sc iX4_shares 28 [l0, l1, l2, vI x] st h Q = tA sc iX4_shares 29 [l0, l1, l2, vI x] (vI x :: st) h Q := tA_pure mB_X4_shares dX4_shares_28 rfl
theorem rX4_shares_29 : tA sc iX4_shares 29 ls (vI y :: vI x :: st) h Q = (¬ y = 0 ∧ tA sc iX4_shares 30 ls (vI (x / y) :: st) h Q) := tA_div mB_X4_shares dX4_shares_29 (fun _ _ _ => rfl) (fun _ _ _ _ _ => rfl) rfl (fun _ _ => rfl) rfl
theorem rX4_shares_30 : tA sc iX4_shares 30 ls [vI x] h Q = Q (some (vI x)) h := tA_ret mB_X4_shares dX4_shares_30 (fun _ _ _ _ => rfl) (fun _ _ _ => rfl) (fun _ _ _ _ _ => rfl) rfl rfl
theorem mB_X4_tells : mB iX4_tells = cX4_tells := rfl
theorem mO_X4_tells : mO iX4_tells = 4 := rfl
theorem rX4_tells_0 : tA sc iX4_tells 0 [l0, l1, vR r] st h Q = tA sc iX4_tells 1 [l0, l1, vR r] (vR r :: st) h Q := tA_pure mB_X4_tells dX4_tells_0 rfl
theorem rX4_tells_1 : tA sc iX4_tells 1 ls st h Q = tA sc iX4_tells 3 ls (vI (13) :: st) h Q := tA_pure mB_X4_tells dX4_tells_1 rfl
theorem rX4_tells_3 (hci : tcl h o = some 8) : tA sc iX4_tells 3 ls [vI p0, vR (some o)] h Q = tA sc iX8_begin 0 [vR (some o), vI p0] [] h (fun v h1 => tA sc iX4_tells 6 ls (tpu v []) h1 Q) := tA_cV mB_X4_tells mO_X4_tells dX4_tells_3 cT_4_40 rfl (Nat.le_of_ble_eq_true rfl) rfl rfl rfl hci
theorem rX4_tells_6 : tA sc iX4_tells 6 [vR r, l1, l2] st h Q = tA sc iX4_tells 7 [vR r, l1, l2] (vR r :: st) h Q := tA_pure mB_X4_tells dX4_tells_6 rfl
theorem rX4_tells_7 : tA sc iX4_tells 7 [l0, vI x, l2] st h Q = tA sc iX4_tells 8 [l0, vI x, l2] (vI x :: st) h Q := tA_pure mB_X4_tells dX4_tells_7 rfl
theorem rX4_tells_8 : tA sc iX4_tells 8 [l0, l1, vR r] st h Q = tA sc iX4_tells 9 [l0, l1, vR r] (vR r :: st) h Q := tA_pure mB_X4_tells dX4_tells_8 rfl
theorem rX4_tells_9_0 (hci : tcl h o = some 0) : tA sc iX4_tells 9 ls [vR n1, vI p0, vR (some o)] h Q = tA sc iX2_waits 0 [vR (some o), vI p0, vR n1] [] h (fun v h1 => tA sc iX4_tells 12 ls (tpu v []) h1 Q) := tA_cV mB_X4_tells mO_X4_tells dX4_tells_9 cT_4_48 rfl (Nat.le_of_ble_eq_true rfl) rfl rfl rfl hci
theorem rX4_tells_9_2 (hci : tcl h o = some 2) : tA sc iX4_tells 9 ls [vR n1, vI p0, vR (some o)] h Q = tA sc iX2_waits 0 [vR (some o), vI p0, vR n1] [] h (fun v h1 => tA sc iX4_tells 12 ls (tpu v []) h1 Q) := tA_cV mB_X4_tells mO_X4_tells dX4_tells_9 cT_4_48 rfl (Nat.le_of_ble_eq_true rfl) rfl rfl rfl hci
theorem rX4_tells_9_3 (hci : tcl h o = some 3) : tA sc iX4_tells 9 ls [vR n1, vI p0, vR (some o)] h Q = tA sc iX4_waits 0 [vR (some o), vI p0, vR n1] [] h (fun v h1 => tA sc iX4_tells 12 ls (tpu v []) h1 Q) := tA_cV mB_X4_tells mO_X4_tells dX4_tells_9 cT_4_48 rfl (Nat.le_of_ble_eq_true rfl) rfl rfl rfl hci
theorem rX4_tells_9_4 (hci : tcl h o = some 4) : tA sc iX4_tells 9 ls [vR n1, vI p0, vR (some o)] h Q = tA sc iX4_waits 0 [vR (some o), vI p0, vR n1] [] h (fun v h1 => tA sc iX4_tells 12 ls (tpu v []) h1 Q) := tA_cV mB_X4_tells mO_X4_tells dX4_tells_9 cT_4_48 rfl (Nat.le_of_ble_eq_true rfl) rfl rfl rfl hci
theorem rX4_tells_9_6 (hci : tcl h o = some 6) : tA sc iX4_tells 9 ls [vR n1, vI p0, vR (some o)] h Q = tA sc iX6_waits 0 [vR (some o), vI p0, vR n1] [] h (fun v h1 => tA sc iX4_tells 12 ls (tpu v []) h1 Q) := tA_cV mB_X4_tells mO_X4_tells dX4_tells_9 cT_4_48 rfl (Nat.le_of_ble_eq_true rfl) rfl rfl rfl hci
theorem rX4_tells_9_7 (hci : tcl h o = some 7) : tA sc iX4_tells 9 ls [vR n1, vI p0, vR (some o)] h Q = tA sc iX4_waits 0 [vR (some o), vI p0, vR n1] [] h (fun v h1 => tA sc iX4_tells 12 ls (tpu v []) h1 Q) := tA_cV mB_X4_tells mO_X4_tells dX4_tells_9 cT_4_48 rfl (Nat.le_of_ble_eq_true rfl) rfl rfl rfl hci
theorem rX4_tells_12 : tA sc iX4_tells 12 [vR r, l1, l2] st h Q = tA sc iX4_tells 13 [vR r, l1, l2] (vR r :: st) h Q := tA_pure mB_X4_tells dX4_tells_12 rfl
theorem rX4_tells_13 : tA sc iX4_tells 13 ls (vR (some o) :: st) h Q = oz (tget h o [0, 2, 3, 4, 6, 7] 2) (fun v => tA sc iX4_tells 16 ls (v :: st) h Q) := tA_get mB_X4_tells mO_X4_tells dX4_tells_13 fT_4_18
theorem rX4_tells_16 : tA sc iX4_tells 16 ls (vI y :: vI x :: st) h Q = tA sc iX4_tells 17 ls (vI (x ^^^ y) :: st) h Q := tA_pure mB_X4_tells dX4_tells_16 rfl
theorem rX4_tells_17 : tA sc iX4_tells 17 ls [vI x] h Q = Q (some (vI x)) h := tA_ret mB_X4_tells dX4_tells_17 (fun _ _ _ _ => rfl) (fun _ _ _ => rfl) (fun _ _ _ _ _ => rfl) rfl rfl
theorem mB_X5_init : mB iX5_init = cX5_init := rfl
theorem mO_X5_init : mO iX5_init = 5 := rfl
theorem rX5_init_0 : tA sc iX5_init 0 [vR r, l1, l2] st h Q = tA sc iX5_init 1 [vR r, l1, l2] (vR r :: st) h Q := tA_pure mB_X5_init dX5_init_0 rfl
theorem rX5_init_1 : tA sc iX5_init 1 ls [vR (some o)] h Q = tA sc iX5_init 4 ls [] h Q := tA_cN mB_X5_init mO_X5_init dX5_init_1 (fun _ _ _ _ => rfl) (fun _ _ _ => rfl) (fun _ _ _ _ _ => rfl) rfl cT_5_1 rfl rfl
theorem rX5_init_4 : tA sc iX5_init 4 [vR r, l1, l2] st h Q = tA sc iX5_init 5 [vR r, l1, l2] (vR r :: st) h Q := tA_pure mB_X5_init dX5_init_4 rfl
theorem rX5_init_5 : tA sc iX5_init 5 [l0, vI x, l2] st h Q = tA sc iX5_init 6 [l0, vI x, l2] (vI x :: st) h Q := tA_pure mB_X5_init dX5_init_5 rfl
theorem rX5_init_6 : tA sc iX5_init 6 ls (v :: vR (some o) :: st) h Q = oz (tput h o [5] 0 0 v) (fun h' => tA sc iX5_init 9 ls st h' Q) := tA_put mB_X5_init mO_X5_init dX5_init_6 fT_5_7 (Or.inr ⟨by decide, rfl⟩)
theorem rX5_init_9 : tA sc iX5_init 9 [vR r, l1, l2] st h Q = tA sc iX5_init 10 [vR r, l1, l2] (vR r :: st) h Q := tA_pure mB_X5_init dX5_init_9 rfl
theorem rX5_init_10 : tA sc iX5_init 10 [l0, l1, vR r] st h Q = tA sc iX5_init 11 [l0, l1, vR r] (vR r :: st) h Q := tA_pure mB_X5_init dX5_init_10 rfl
theorem rX5_init_11 : tA sc iX5_init 11 ls (v :: vR (some o) :: st) h Q = oz (tput h o [5] 1 3 v) (fun h' => tA sc iX5_init 14 ls st h' Q) := tA_put mB_X5_init mO_X5_init dX5_init_11 fT_5_13 (Or.inr ⟨by decide, rfl⟩)
theorem rX5_init_14 : tA sc iX5_init 14 ls [] h Q = Q (none) h := tA_ret mB_X5_init dX5_init_14 (fun _ _ _ _ => rfl) (fun _ _ _ => rfl) (fun _ _ _ _ _ => rfl) rfl rfl
theorem mB_X5_narrowed : mB iX5_narrowed = cX5_narrowed := rfl
theorem mO_X5_narrowed : mO iX5_narrowed = 5 := rfl
theorem rX5_narrowed_0 : tA sc iX5_narrowed 0 [vR r, l1] st h Q = tA sc iX5_narrowed 1 [vR r, l1] (vR r :: st) h Q := tA_pure mB_X5_narrowed dX5_narrowed_0 rfl
theorem rX5_narrowed_1 : tA sc iX5_narrowed 1 ls (vR (some o) :: st) h Q = oz (tget h o [5] 0) (fun v => tA sc iX5_narrowed 4 ls (v :: st) h Q) := tA_get mB_X5_narrowed mO_X5_narrowed dX5_narrowed_1 fT_5_7
theorem rX5_narrowed_4 : tA sc iX5_narrowed 4 ls (vI x :: st) h Q = (if x = 0 then tA sc iX5_narrowed 32 ls st h Q else if x = 1 then tA sc iX5_narrowed 36 ls st h Q else tA sc iX5_narrowed 40 ls st h Q) := tA_lk2 mB_X5_narrowed dX5_narrowed_4 rfl rfl rfl
theorem rX5_narrowed_32 : tA sc iX5_narrowed 32 [l0, vI x] st h Q = tA sc iX5_narrowed 33 [l0, vI x] (vI x :: st) h Q := tA_pure mB_X5_narrowed dX5_narrowed_32 rfl
theorem rX5_narrowed_33 : tA sc iX5_narrowed 33 ls (vI x :: st) h Q = tA sc iX5_narrowed 34 ls (vI x.toInt8.toInt32 :: st) h Q := tA_pure mB_X5_narrowed dX5_narrowed_33 rfl
theorem rX5_narrowed_34 : tA sc iX5_narrowed 34 ls (vI x :: st) h Q = tA sc iX5_narrowed 35 ls (vL x.toInt64 :: st) h Q := tA_pure mB_X5_narrowed dX5_narrowed_34 rfl
theorem rX5_narrowed_35 : tA sc iX5_narrowed 35 ls [vL u] h Q = Q (some (vL u)) h := tA_ret mB_X5_narrowed dX5_narrowed_35 (fun _ _ _ _ => rfl) (fun _ _ _ => rfl) (fun _ _ _ _ _ => rfl) rfl rfl
theorem rX5_narrowed_36 : tA sc iX5_narrowed 36 [l0, vI x] st h Q = tA sc iX5_narrowed 37 [l0, vI x] (vI x :: st) h Q := tA_pure mB_X5_narrowed dX5_narrowed_36 rfl
theorem rX5_narrowed_37 : tA sc iX5_narrowed 37 ls (vI x :: st) h Q = tA sc iX5_narrowed 38 ls (vI x.toInt16.toInt32 :: st) h Q := tA_pure mB_X5_narrowed dX5_narrowed_37 rfl
theorem rX5_narrowed_38 : tA sc iX5_narrowed 38 ls (vI x :: st) h Q = tA sc iX5_narrowed 39 ls (vL x.toInt64 :: st) h Q := tA_pure mB_X5_narrowed dX5_narrowed_38 rfl
theorem rX5_narrowed_39 : tA sc iX5_narrowed 39 ls [vL u] h Q = Q (some (vL u)) h := tA_ret mB_X5_narrowed dX5_narrowed_39 (fun _ _ _ _ => rfl) (fun _ _ _ => rfl) (fun _ _ _ _ _ => rfl) rfl rfl
theorem rX5_narrowed_40 : tA sc iX5_narrowed 40 [l0, vI x] st h Q = tA sc iX5_narrowed 41 [l0, vI x] (vI x :: st) h Q := tA_pure mB_X5_narrowed dX5_narrowed_40 rfl
theorem rX5_narrowed_41 : tA sc iX5_narrowed 41 ls (vI x :: st) h Q = tA sc iX5_narrowed 42 ls (vL x.toInt64 :: st) h Q := tA_pure mB_X5_narrowed dX5_narrowed_41 rfl
theorem rX5_narrowed_42 : tA sc iX5_narrowed 42 ls [vL u] h Q = Q (some (vL u)) h := tA_ret mB_X5_narrowed dX5_narrowed_42 (fun _ _ _ _ => rfl) (fun _ _ _ => rfl) (fun _ _ _ _ _ => rfl) rfl rfl
theorem mB_X6_init : mB iX6_init = cX6_init := rfl
theorem mO_X6_init : mO iX6_init = 6 := rfl
theorem rX6_init_0 : tA sc iX6_init 0 [vR r, l1, l2] st h Q = tA sc iX6_init 1 [vR r, l1, l2] (vR r :: st) h Q := tA_pure mB_X6_init dX6_init_0 rfl
theorem rX6_init_1 : tA sc iX6_init 1 ls st h Q = tA sc iX6_init 2 ls (vI (3) :: st) h Q := tA_pure mB_X6_init dX6_init_1 rfl
theorem rX6_init_2 : tA sc iX6_init 2 [l0, vI x, l2] st h Q = tA sc iX6_init 3 [l0, vI x, l2] (vI x :: st) h Q := tA_pure mB_X6_init dX6_init_2 rfl
theorem rX6_init_3 : tA sc iX6_init 3 [l0, l1, vI x] st h Q = tA sc iX6_init 4 [l0, l1, vI x] (vI x :: st) h Q := tA_pure mB_X6_init dX6_init_3 rfl
theorem rX6_init_4 : tA sc iX6_init 4 ls [vI p2, vI p1, vI p0, vR (some o)] h Q = tA sc iX3_init 0 [vR (some o), vI p0, vI p1, vI p2] [] h (fun v h1 => tA sc iX6_init 7 ls (tpu v []) h1 Q) := tA_cI mB_X6_init mO_X6_init dX6_init_4 cT_6_3 rfl (Nat.le_of_ble_eq_true rfl) rfl rfl rfl
theorem rX6_init_7 : tA sc iX6_init 7 ls [] h Q = Q (none) h := tA_ret mB_X6_init dX6_init_7 (fun _ _ _ _ => rfl) (fun _ _ _ => rfl) (fun _ _ _ _ _ => rfl) rfl rfl
theorem mB_X6_chosenDay : mB iX6_chosenDay = cX6_chosenDay := rfl
theorem mO_X6_chosenDay : mO iX6_chosenDay = 6 := rfl
theorem rX6_chosenDay_0 : tA sc iX6_chosenDay 0 [l0, vR r, l2, l3] st h Q = tA sc iX6_chosenDay 1 [l0, vR r, l2, l3] (vR r :: st) h Q := tA_pure mB_X6_chosenDay dX6_chosenDay_0 rfl
theorem rX6_chosenDay_1 : tA sc iX6_chosenDay 1 ls (vR (some o) :: st) h Q = oz (tget h o [9] 6) (fun v => tA sc iX6_chosenDay 4 ls (v :: st) h Q) := tA_get mB_X6_chosenDay mO_X6_chosenDay dX6_chosenDay_1 fT_6_9
theorem rX6_chosenDay_4 : tA sc iX6_chosenDay 4 [l0, l1, l2, l3] (vI x :: st) h Q = tA sc iX6_chosenDay 5 [l0, tclr l1, vI x, l3] st h Q := tA_pure mB_X6_chosenDay dX6_chosenDay_4 rfl
theorem rX6_chosenDay_5 : tA sc iX6_chosenDay 5 [l0, vR r, l2, l3] st h Q = tA sc iX6_chosenDay 6 [l0, vR r, l2, l3] (vR r :: st) h Q := tA_pure mB_X6_chosenDay dX6_chosenDay_5 rfl
theorem rX6_chosenDay_6 : tA sc iX6_chosenDay 6 [l0, l1, vI x, l3] st h Q = tA sc iX6_chosenDay 7 [l0, l1, vI x, l3] (vI x :: st) h Q := tA_pure mB_X6_chosenDay dX6_chosenDay_6 rfl
theorem rX6_chosenDay_7 : tA sc iX6_chosenDay 7 [l0, vR r, l2, l3] st h Q = tA sc iX6_chosenDay 8 [l0, vR r, l2, l3] (vR r :: st) h Q := tA_pure mB_X6_chosenDay dX6_chosenDay_7 rfl
theorem rX6_chosenDay_8 : tA sc iX6_chosenDay 8 [l0, l1, vI x, l3] st h Q = tA sc iX6_chosenDay 9 [l0, l1, vI x, l3] (vI x :: st) h Q := tA_pure mB_X6_chosenDay dX6_chosenDay_8 rfl
theorem rX6_chosenDay_9 (hci : tcl h o = some 9) : tA sc iX6_chosenDay 9 ls [vI p0, vR (some o), s0, s1] h Q = tA sc iX9_likeliest 0 [vR (some o), vI p0, vU, vU, vU, vU] [] h (fun v h1 => tA sc iX6_chosenDay 12 ls (tpu v [s0, s1]) h1 Q) := tA_cV mB_X6_chosenDay mO_X6_chosenDay dX6_chosenDay_9 cT_6_15 rfl (Nat.le_of_ble_eq_true rfl) rfl rfl rfl hci
theorem rX6_chosenDay_12 (hci : tcl h o = some 9) : tA sc iX6_chosenDay 12 ls [vI p1, vI p0, vR (some o)] h Q = tA sc iX9_weightOf 0 [vR (some o), vI p0, vI p1] [] h (fun v h1 => tA sc iX6_chosenDay 15 ls (tpu v []) h1 Q) := tA_cV mB_X6_chosenDay mO_X6_chosenDay dX6_chosenDay_12 cT_6_19 rfl (Nat.le_of_ble_eq_true rfl) rfl rfl rfl hci
theorem rX6_chosenDay_15 : tA sc iX6_chosenDay 15 [l0, l1, l2, l3] (vI x :: st) h Q = tA sc iX6_chosenDay 16 [l0, l1, tclr l2, vI x] st h Q := tA_pure mB_X6_chosenDay dX6_chosenDay_15 rfl
theorem rX6_chosenDay_16 : tA sc iX6_chosenDay 16 ls st h Q = tA sc iX6_chosenDay 18 ls (vI (10) :: st) h Q := tA_pure mB_X6_chosenDay dX6_chosenDay_16 rfl
theorem rX6_chosenDay_18 : tA sc iX6_chosenDay 18 [l0, l1, l2, vI x] st h Q = tA sc iX6_chosenDay 19 [l0, l1, l2, vI x] (vI x :: st) h Q := tA_pure mB_X6_chosenDay dX6_chosenDay_18 rfl
theorem rX6_chosenDay_19 : tA sc iX6_chosenDay 19 ls (vI y :: vI x :: st) h Q = tA sc iX6_chosenDay 20 ls (vI (x * y) :: st) h Q := tA_pure mB_X6_chosenDay dX6_chosenDay_19 rfl
theorem rX6_chosenDay_20 : tA sc iX6_chosenDay 20 [vR r, l1, l2, l3] st h Q = tA sc iX6_chosenDay 21 [vR r, l1, l2, l3] (vR r :: st) h Q := tA_pure mB_X6_chosenDay dX6_chosenDay_20 rfl
theorem rX6_chosenDay_21 : tA sc iX6_chosenDay 21 ls (vR (some o) :: st) h Q = oz (tget h o [0, 2, 3, 4, 6, 7] 2) (fun v => tA sc iX6_chosenDay 24 ls (v :: st) h Q) := tA_get mB_X6_chosenDay mO_X6_chosenDay dX6_chosenDay_21 fT_6_23
theorem rX6_chosenDay_24 : tA sc iX6_chosenDay 24 [l0, vR r, l2, l3] st h Q = tA sc iX6_chosenDay 25 [l0, vR r, l2, l3] (vR r :: st) h Q := tA_pure mB_X6_chosenDay dX6_chosenDay_24 rfl
theorem rX6_chosenDay_25 : tA sc iX6_chosenDay 25 [l0, l1, vI x, l3] st h Q = tA sc iX6_chosenDay 26 [l0, l1, vI x, l3] (vI x :: st) h Q := tA_pure mB_X6_chosenDay dX6_chosenDay_25 rfl
theorem rX6_chosenDay_26 (hci : tcl h o = some 9) : tA sc iX6_chosenDay 26 ls [vI p0, vR (some o), s0, s1] h Q = tA sc iX9_allOf 0 [vR (some o), vI p0] [] h (fun v h1 => tA sc iX6_chosenDay 29 ls (tpu v [s0, s1]) h1 Q) := tA_cV mB_X6_chosenDay mO_X6_chosenDay dX6_chosenDay_26 cT_6_28 rfl (Nat.le_of_ble_eq_true rfl) rfl rfl rfl hci
theorem rX6_chosenDay_29 : tA sc iX6_chosenDay 29 ls (vI y :: vI x :: st) h Q = tA sc iX6_chosenDay 30 ls (vI (x * y) :: st) h Q := tA_pure mB_X6_chosenDay dX6_chosenDay_29 rfl
theorem rX6_chosenDay_30 : tA sc iX6_chosenDay 30 ls (vI y :: vI x :: st) h Q = (if x < y then tA sc iX6_chosenDay 41 ls st h Q else tA sc iX6_chosenDay 33 ls st h Q) := tA_if mB_X6_chosenDay dX6_chosenDay_30 (fun _ _ _ _ => rfl) rfl
theorem rX6_chosenDay_33 : tA sc iX6_chosenDay 33 [vR r, l1, l2, l3] st h Q = tA sc iX6_chosenDay 34 [vR r, l1, l2, l3] (vR r :: st) h Q := tA_pure mB_X6_chosenDay dX6_chosenDay_33 rfl
theorem rX6_chosenDay_34 : tA sc iX6_chosenDay 34 [l0, vR r, l2, l3] st h Q = tA sc iX6_chosenDay 35 [l0, vR r, l2, l3] (vR r :: st) h Q := tA_pure mB_X6_chosenDay dX6_chosenDay_34 rfl
theorem rX6_chosenDay_35 {ci : Nat} (hci : tcl h o = some ci) : tA sc iX6_chosenDay 35 ls [vR n0, vR (some o)] h Q = tA sc iX3_chosenDay 0 [vR (some o), vR n0] [] h (fun v h1 => tA sc iX6_chosenDay 38 ls (tpu v []) h1 Q) := tA_cU mB_X6_chosenDay mO_X6_chosenDay dX6_chosenDay_35 cT_6_31 rfl (Nat.le_of_ble_eq_true rfl) rfl rfl rfl hci
theorem rX6_chosenDay_38 : tA sc iX6_chosenDay 38 ls st h Q = tA sc iX6_chosenDay 42 ls st h Q := tA_jump mB_X6_chosenDay dX6_chosenDay_38 (fun _ _ _ _ => rfl) rfl
theorem rX6_chosenDay_41 : tA sc iX6_chosenDay 41 ls st h Q = tA sc iX6_chosenDay 42 ls (vI (-1) :: st) h Q := tA_pure mB_X6_chosenDay dX6_chosenDay_41 rfl
theorem rX6_chosenDay_42 : tA sc iX6_chosenDay 42 ls [vI x] h Q = Q (some (vI x)) h := tA_ret mB_X6_chosenDay dX6_chosenDay_42 (fun _ _ _ _ => rfl) (fun _ _ _ => rfl) (fun _ _ _ _ _ => rfl) rfl rfl
theorem mB_X6_says : mB iX6_says = cX6_says := rfl
theorem mO_X6_says : mO iX6_says = 6 := rfl
theorem rX6_says_0 : tA sc iX6_says 0 [l0, l1, vR r] st h Q = tA sc iX6_says 1 [l0, l1, vR r] (vR r :: st) h Q := tA_pure mB_X6_says dX6_says_0 rfl
theorem rX6_says_1 : tA sc iX6_says 1 ls st h Q = tA sc iX6_says 3 ls (vI (40) :: st) h Q := tA_pure mB_X6_says dX6_says_1 rfl
theorem rX6_says_3 (hci : tcl h o = some 8) : tA sc iX6_says 3 ls [vI p0, vR (some o)] h Q = tA sc iX8_begin 0 [vR (some o), vI p0] [] h (fun v h1 => tA sc iX6_says 6 ls (tpu v []) h1 Q) := tA_cV mB_X6_says mO_X6_says dX6_says_3 cT_6_35 rfl (Nat.le_of_ble_eq_true rfl) rfl rfl rfl hci
theorem rX6_says_6 : tA sc iX6_says 6 ls st h Q = tA sc iX6_says 7 ls (vI (0) :: st) h Q := tA_pure mB_X6_says dX6_says_6 rfl
theorem rX6_says_7 : tA sc iX6_says 7 [vR r, l1, l2] st h Q = tA sc iX6_says 8 [vR r, l1, l2] (vR r :: st) h Q := tA_pure mB_X6_says dX6_says_7 rfl
theorem rX6_says_8 : tA sc iX6_says 8 [l0, vI x, l2] st h Q = tA sc iX6_says 9 [l0, vI x, l2] (vI x :: st) h Q := tA_pure mB_X6_says dX6_says_8 rfl
theorem rX6_says_9 : tA sc iX6_says 9 [l0, l1, vR r] st h Q = tA sc iX6_says 10 [l0, l1, vR r] (vR r :: st) h Q := tA_pure mB_X6_says dX6_says_9 rfl
theorem rX6_says_10 {ci : Nat} (hci : tcl h o = some ci) : tA sc iX6_says 10 ls [vR n1, vI p0, vR (some o), s0] h Q = tA sc iX3_says 0 [vR (some o), vI p0, vR n1] [] h (fun v h1 => tA sc iX6_says 13 ls (tpu v [s0]) h1 Q) := tA_cU mB_X6_says mO_X6_says dX6_says_10 cT_6_41 rfl (Nat.le_of_ble_eq_true rfl) rfl rfl rfl hci
theorem rX6_says_13 : tA sc iX6_says 13 ls (vI y :: vI x :: st) h Q = tA sc iX6_says 14 ls (vI (x - y) :: st) h Q := tA_pure mB_X6_says dX6_says_13 rfl
theorem rX6_says_14 : tA sc iX6_says 14 ls [vI x] h Q = Q (some (vI x)) h := tA_ret mB_X6_says dX6_says_14 (fun _ _ _ _ => rfl) (fun _ _ _ => rfl) (fun _ _ _ _ _ => rfl) rfl rfl
theorem mB_X6_waits : mB iX6_waits = cX6_waits := rfl
theorem mO_X6_waits : mO iX6_waits = 6 := rfl
theorem rX6_waits_0 : tA sc iX6_waits 0 [l0, l1, vR r] st h Q = tA sc iX6_waits 1 [l0, l1, vR r] (vR r :: st) h Q := tA_pure mB_X6_waits dX6_waits_0 rfl
theorem rX6_waits_1 : tA sc iX6_waits 1 ls st h Q = tA sc iX6_waits 3 ls (vI (41) :: st) h Q := tA_pure mB_X6_waits dX6_waits_1 rfl
theorem rX6_waits_3 (hci : tcl h o = some 8) : tA sc iX6_waits 3 ls [vI p0, vR (some o)] h Q = tA sc iX8_begin 0 [vR (some o), vI p0] [] h (fun v h1 => tA sc iX6_waits 6 ls (tpu v []) h1 Q) := tA_cV mB_X6_waits mO_X6_waits dX6_waits_3 cT_6_35 rfl (Nat.le_of_ble_eq_true rfl) rfl rfl rfl hci
theorem rX6_waits_6 : tA sc iX6_waits 6 [vR r, l1, l2] st h Q = tA sc iX6_waits 7 [vR r, l1, l2] (vR r :: st) h Q := tA_pure mB_X6_waits dX6_waits_6 rfl
theorem rX6_waits_7 : tA sc iX6_waits 7 [l0, vI x, l2] st h Q = tA sc iX6_waits 8 [l0, vI x, l2] (vI x :: st) h Q := tA_pure mB_X6_waits dX6_waits_7 rfl
theorem rX6_waits_8 : tA sc iX6_waits 8 [l0, l1, vR r] st h Q = tA sc iX6_waits 9 [l0, l1, vR r] (vR r :: st) h Q := tA_pure mB_X6_waits dX6_waits_8 rfl
theorem rX6_waits_9 {ci : Nat} (hci : tcl h o = some ci) : tA sc iX6_waits 9 ls [vR n1, vI p0, vR (some o)] h Q = tA sc iX4_waits 0 [vR (some o), vI p0, vR n1] [] h (fun v h1 => tA sc iX6_waits 12 ls (tpu v []) h1 Q) := tA_cU mB_X6_waits mO_X6_waits dX6_waits_9 cT_6_45 rfl (Nat.le_of_ble_eq_true rfl) rfl rfl rfl hci
theorem rX6_waits_12 : tA sc iX6_waits 12 [vR r, l1, l2] st h Q = tA sc iX6_waits 13 [vR r, l1, l2] (vR r :: st) h Q := tA_pure mB_X6_waits dX6_waits_12 rfl
theorem rX6_waits_13 : tA sc iX6_waits 13 [vR r, l1, l2] st h Q = tA sc iX6_waits 14 [vR r, l1, l2] (vR r :: st) h Q := tA_pure mB_X6_waits dX6_waits_13 rfl
theorem rX6_waits_14 : tA sc iX6_waits 14 ls (vR (some o) :: st) h Q = oz (tget h o [0, 2, 3, 4, 6, 7] 1) (fun v => tA sc iX6_waits 17 ls (v :: st) h Q) := tA_get mB_X6_waits mO_X6_waits dX6_waits_14 fT_6_48
theorem rX6_waits_17 : tA sc iX6_waits 17 [l0, l1, vR r] st h Q = tA sc iX6_waits 18 [l0, l1, vR r] (vR r :: st) h Q := tA_pure mB_X6_waits dX6_waits_17 rfl
theorem rX6_waits_18 (hci : tcl h o = some 6) : tA sc iX6_waits 18 ls [vR n1, vI p0, vR (some o), s0] h Q = tA sc iX6_says 0 [vR (some o), vI p0, vR n1] [] h (fun v h1 => tA sc iX6_waits 21 ls (tpu v [s0]) h1 Q) := tA_cV mB_X6_waits mO_X6_waits dX6_waits_18 cT_6_51 rfl (Nat.le_of_ble_eq_true rfl) rfl rfl rfl hci
theorem rX6_waits_21 : tA sc iX6_waits 21 ls (vI y :: vI x :: st) h Q = tA sc iX6_waits 22 ls (vI (x + y) :: st) h Q := tA_pure mB_X6_waits dX6_waits_21 rfl
theorem rX6_waits_22 : tA sc iX6_waits 22 ls [vI x] h Q = Q (some (vI x)) h := tA_ret mB_X6_waits dX6_waits_22 (fun _ _ _ _ => rfl) (fun _ _ _ => rfl) (fun _ _ _ _ _ => rfl) rfl rfl
theorem mB_X7_init : mB iX7_init = cX7_init := rfl
theorem mO_X7_init : mO iX7_init = 7 := rfl
theorem rX7_init_0 : tA sc iX7_init 0 [vR r, l1, l2] st h Q = tA sc iX7_init 1 [vR r, l1, l2] (vR r :: st) h Q := tA_pure mB_X7_init dX7_init_0 rfl
theorem rX7_init_1 : tA sc iX7_init 1 ls st h Q = tA sc iX7_init 2 ls (vI (5) :: st) h Q := tA_pure mB_X7_init dX7_init_1 rfl
theorem rX7_init_2 : tA sc iX7_init 2 [l0, vI x, l2] st h Q = tA sc iX7_init 3 [l0, vI x, l2] (vI x :: st) h Q := tA_pure mB_X7_init dX7_init_2 rfl
theorem rX7_init_3 : tA sc iX7_init 3 [l0, l1, vI x] st h Q = tA sc iX7_init 4 [l0, l1, vI x] (vI x :: st) h Q := tA_pure mB_X7_init dX7_init_3 rfl
theorem rX7_init_4 : tA sc iX7_init 4 ls [vI p2, vI p1, vI p0, vR (some o)] h Q = tA sc iX4_init 0 [vR (some o), vI p0, vI p1, vI p2] [] h (fun v h1 => tA sc iX7_init 7 ls (tpu v []) h1 Q) := tA_cI mB_X7_init mO_X7_init dX7_init_4 cT_7_3 rfl (Nat.le_of_ble_eq_true rfl) rfl rfl rfl
theorem rX7_init_7 : tA sc iX7_init 7 ls [] h Q = Q (none) h := tA_ret mB_X7_init dX7_init_7 (fun _ _ _ _ => rfl) (fun _ _ _ => rfl) (fun _ _ _ _ _ => rfl) rfl rfl
theorem mB_X7_chosenDay : mB iX7_chosenDay = cX7_chosenDay := rfl
theorem mO_X7_chosenDay : mO iX7_chosenDay = 7 := rfl
theorem rX7_chosenDay_0 : tA sc iX7_chosenDay 0 [l0, vR r] st h Q = tA sc iX7_chosenDay 1 [l0, vR r] (vR r :: st) h Q := tA_pure mB_X7_chosenDay dX7_chosenDay_0 rfl
theorem rX7_chosenDay_1 : tA sc iX7_chosenDay 1 [l0, vR r] st h Q = tA sc iX7_chosenDay 2 [l0, vR r] (vR r :: st) h Q := tA_pure mB_X7_chosenDay dX7_chosenDay_1 rfl
theorem rX7_chosenDay_2 : tA sc iX7_chosenDay 2 ls (vR (some o) :: st) h Q = oz (tget h o [9] 6) (fun v => tA sc iX7_chosenDay 5 ls (v :: st) h Q) := tA_get mB_X7_chosenDay mO_X7_chosenDay dX7_chosenDay_2 fT_7_9
theorem rX7_chosenDay_5 : tA sc iX7_chosenDay 5 [vR r, l1] st h Q = tA sc iX7_chosenDay 6 [vR r, l1] (vR r :: st) h Q := tA_pure mB_X7_chosenDay dX7_chosenDay_5 rfl
theorem rX7_chosenDay_6 : tA sc iX7_chosenDay 6 ls (vR (some o) :: st) h Q = oz (tget h o [0, 2, 3, 4, 6, 7] 2) (fun v => tA sc iX7_chosenDay 9 ls (v :: st) h Q) := tA_get mB_X7_chosenDay mO_X7_chosenDay dX7_chosenDay_6 fT_7_15
theorem rX7_chosenDay_9 : tA sc iX7_chosenDay 9 ls st h Q = tA sc iX7_chosenDay 10 ls (vI (4) :: st) h Q := tA_pure mB_X7_chosenDay dX7_chosenDay_9 rfl
theorem rX7_chosenDay_10 : tA sc iX7_chosenDay 10 ls (vI y :: vI x :: st) h Q = (¬ y = 0 ∧ tA sc iX7_chosenDay 11 ls (vI (x - x / y * y) :: st) h Q) := tA_div mB_X7_chosenDay dX7_chosenDay_10 (fun _ _ _ => rfl) (fun _ _ _ _ _ => rfl) rfl (fun _ _ => rfl) rfl
theorem rX7_chosenDay_11 (hci : tcl h o = some 9) : tA sc iX7_chosenDay 11 ls [vI p1, vI p0, vR (some o)] h Q = tA sc iX9_isSaid 0 [vR (some o), vI p0, vI p1] [] h (fun v h1 => tA sc iX7_chosenDay 14 ls (tpu v []) h1 Q) := tA_cV mB_X7_chosenDay mO_X7_chosenDay dX7_chosenDay_11 cT_7_20 rfl (Nat.le_of_ble_eq_true rfl) rfl rfl rfl hci
theorem rX7_chosenDay_14 : tA sc iX7_chosenDay 14 ls (vI x :: st) h Q = (if x = 0 then tA sc iX7_chosenDay 21 ls st h Q else tA sc iX7_chosenDay 17 ls st h Q) := tA_if mB_X7_chosenDay dX7_chosenDay_14 (fun _ _ _ _ => rfl) rfl
theorem rX7_chosenDay_17 : tA sc iX7_chosenDay 17 ls st h Q = tA sc iX7_chosenDay 18 ls (vI (-1) :: st) h Q := tA_pure mB_X7_chosenDay dX7_chosenDay_17 rfl
theorem rX7_chosenDay_18 : tA sc iX7_chosenDay 18 ls st h Q = tA sc iX7_chosenDay 25 ls st h Q := tA_jump mB_X7_chosenDay dX7_chosenDay_18 (fun _ _ _ _ => rfl) rfl
theorem rX7_chosenDay_21 : tA sc iX7_chosenDay 21 [l0, vR r] st h Q = tA sc iX7_chosenDay 22 [l0, vR r] (vR r :: st) h Q := tA_pure mB_X7_chosenDay dX7_chosenDay_21 rfl
theorem rX7_chosenDay_22 : tA sc iX7_chosenDay 22 ls (vR (some o) :: st) h Q = oz (tget h o [9] 6) (fun v => tA sc iX7_chosenDay 25 ls (v :: st) h Q) := tA_get mB_X7_chosenDay mO_X7_chosenDay dX7_chosenDay_22 fT_7_9
theorem rX7_chosenDay_25 : tA sc iX7_chosenDay 25 ls [vI x] h Q = Q (some (vI x)) h := tA_ret mB_X7_chosenDay dX7_chosenDay_25 (fun _ _ _ _ => rfl) (fun _ _ _ => rfl) (fun _ _ _ _ _ => rfl) rfl rfl
theorem mB_X7_firstWeather : mB iX7_firstWeather = cX7_firstWeather := rfl
theorem mO_X7_firstWeather : mO iX7_firstWeather = 7 := rfl
theorem rX7_firstWeather_0 : tA sc iX7_firstWeather 0 [vR r, l1, l2] st h Q = tA sc iX7_firstWeather 1 [vR r, l1, l2] (vR r :: st) h Q := tA_pure mB_X7_firstWeather dX7_firstWeather_0 rfl
theorem rX7_firstWeather_1 : tA sc iX7_firstWeather 1 ls (vR (some o) :: st) h Q = oz (tget h o [0, 2, 3, 4, 6, 7] 2) (fun v => tA sc iX7_firstWeather 4 ls (v :: st) h Q) := tA_get mB_X7_firstWeather mO_X7_firstWeather dX7_firstWeather_1 fT_7_15
theorem rX7_firstWeather_4 : tA sc iX7_firstWeather 4 ls st h Q = tA sc iX7_firstWeather 5 ls (vI (4) :: st) h Q := tA_pure mB_X7_firstWeather dX7_firstWeather_4 rfl
theorem rX7_firstWeather_5 : tA sc iX7_firstWeather 5 ls (vI y :: vI x :: st) h Q = (¬ y = 0 ∧ tA sc iX7_firstWeather 6 ls (vI (x - x / y * y) :: st) h Q) := tA_div mB_X7_firstWeather dX7_firstWeather_5 (fun _ _ _ => rfl) (fun _ _ _ _ _ => rfl) rfl (fun _ _ => rfl) rfl
theorem rX7_firstWeather_6 : tA sc iX7_firstWeather 6 ls [vI x] h Q = Q (some (vI x)) h := tA_ret mB_X7_firstWeather dX7_firstWeather_6 (fun _ _ _ _ => rfl) (fun _ _ _ => rfl) (fun _ _ _ _ _ => rfl) rfl rfl
theorem mB_X7_tells : mB iX7_tells = cX7_tells := rfl
theorem mO_X7_tells : mO iX7_tells = 7 := rfl
theorem rX7_tells_0 : tA sc iX7_tells 0 [l0, l1, vR r] st h Q = tA sc iX7_tells 1 [l0, l1, vR r] (vR r :: st) h Q := tA_pure mB_X7_tells dX7_tells_0 rfl
theorem rX7_tells_1 : tA sc iX7_tells 1 ls st h Q = tA sc iX7_tells 3 ls (vI (60) :: st) h Q := tA_pure mB_X7_tells dX7_tells_1 rfl
theorem rX7_tells_3 (hci : tcl h o = some 8) : tA sc iX7_tells 3 ls [vI p0, vR (some o)] h Q = tA sc iX8_begin 0 [vR (some o), vI p0] [] h (fun v h1 => tA sc iX7_tells 6 ls (tpu v []) h1 Q) := tA_cV mB_X7_tells mO_X7_tells dX7_tells_3 cT_7_24 rfl (Nat.le_of_ble_eq_true rfl) rfl rfl rfl hci
theorem rX7_tells_6 : tA sc iX7_tells 6 [vR r, l1, l2] st h Q = tA sc iX7_tells 7 [vR r, l1, l2] (vR r :: st) h Q := tA_pure mB_X7_tells dX7_tells_6 rfl
theorem rX7_tells_7 : tA sc iX7_tells 7 [l0, vI x, l2] st h Q = tA sc iX7_tells 8 [l0, vI x, l2] (vI x :: st) h Q := tA_pure mB_X7_tells dX7_tells_7 rfl
theorem rX7_tells_8 : tA sc iX7_tells 8 [l0, l1, vR r] st h Q = tA sc iX7_tells 9 [l0, l1, vR r] (vR r :: st) h Q := tA_pure mB_X7_tells dX7_tells_8 rfl
theorem rX7_tells_9 {ci : Nat} (hci : tcl h o = some ci) : tA sc iX7_tells 9 ls [vR n1, vI p0, vR (some o)] h Q = tA sc iX4_tells 0 [vR (some o), vI p0, vR n1] [] h (fun v h1 => tA sc iX7_tells 12 ls (tpu v []) h1 Q) := tA_cU mB_X7_tells mO_X7_tells dX7_tells_9 cT_7_30 rfl (Nat.le_of_ble_eq_true rfl) rfl rfl rfl hci
theorem rX7_tells_12 : tA sc iX7_tells 12 ls st h Q = tA sc iX7_tells 13 ls (vI (2) :: st) h Q := tA_pure mB_X7_tells dX7_tells_12 rfl
theorem rX7_tells_13 : tA sc iX7_tells 13 ls (vI y :: vI x :: st) h Q = tA sc iX7_tells 14 ls (vI (x * y) :: st) h Q := tA_pure mB_X7_tells dX7_tells_13 rfl
theorem rX7_tells_14 : tA sc iX7_tells 14 ls [vI x] h Q = Q (some (vI x)) h := tA_ret mB_X7_tells dX7_tells_14 (fun _ _ _ _ => rfl) (fun _ _ _ => rfl) (fun _ _ _ _ _ => rfl) rfl rfl
theorem mB_X7_shares : mB iX7_shares = cX7_shares := rfl
theorem mO_X7_shares : mO iX7_shares = 7 := rfl
theorem rX7_shares_0 : tA sc iX7_shares 0 [l0, l1, vR r] st h Q = tA sc iX7_shares 1 [l0, l1, vR r] (vR r :: st) h Q := tA_pure mB_X7_shares dX7_shares_0 rfl
theorem rX7_shares_1 : tA sc iX7_shares 1 ls st h Q = tA sc iX7_shares 3 ls (vI (61) :: st) h Q := tA_pure mB_X7_shares dX7_shares_1 rfl
theorem rX7_shares_3 (hci : tcl h o = some 8) : tA sc iX7_shares 3 ls [vI p0, vR (some o)] h Q = tA sc iX8_begin 0 [vR (some o), vI p0] [] h (fun v h1 => tA sc iX7_shares 6 ls (tpu v []) h1 Q) := tA_cV mB_X7_shares mO_X7_shares dX7_shares_3 cT_7_24 rfl (Nat.le_of_ble_eq_true rfl) rfl rfl rfl hci
theorem rX7_shares_6 : tA sc iX7_shares 6 [vR r, l1, l2] st h Q = tA sc iX7_shares 7 [vR r, l1, l2] (vR r :: st) h Q := tA_pure mB_X7_shares dX7_shares_6 rfl
theorem rX7_shares_7 : tA sc iX7_shares 7 [l0, vI x, l2] st h Q = tA sc iX7_shares 8 [l0, vI x, l2] (vI x :: st) h Q := tA_pure mB_X7_shares dX7_shares_7 rfl
theorem rX7_shares_8 : tA sc iX7_shares 8 [l0, l1, vR r] st h Q = tA sc iX7_shares 9 [l0, l1, vR r] (vR r :: st) h Q := tA_pure mB_X7_shares dX7_shares_8 rfl
theorem rX7_shares_9 {ci : Nat} (hci : tcl h o = some ci) : tA sc iX7_shares 9 ls [vR n1, vI p0, vR (some o)] h Q = tA sc iX4_shares 0 [vR (some o), vI p0, vR n1, vU] [] h (fun v h1 => tA sc iX7_shares 12 ls (tpu v []) h1 Q) := tA_cU mB_X7_shares mO_X7_shares dX7_shares_9 cT_7_34 rfl (Nat.le_of_ble_eq_true rfl) rfl rfl rfl hci
theorem rX7_shares_12 : tA sc iX7_shares 12 [vR r, l1, l2] st h Q = tA sc iX7_shares 13 [vR r, l1, l2] (vR r :: st) h Q := tA_pure mB_X7_shares dX7_shares_12 rfl
theorem rX7_shares_13 : tA sc iX7_shares 13 [vR r, l1, l2] st h Q = tA sc iX7_shares 14 [vR r, l1, l2] (vR r :: st) h Q := tA_pure mB_X7_shares dX7_shares_13 rfl
theorem rX7_shares_14 : tA sc iX7_shares 14 ls (vR (some o) :: st) h Q = oz (tget h o [0, 2, 3, 4, 6, 7] 2) (fun v => tA sc iX7_shares 17 ls (v :: st) h Q) := tA_get mB_X7_shares mO_X7_shares dX7_shares_14 fT_7_15
theorem rX7_shares_17 : tA sc iX7_shares 17 [l0, l1, vR r] st h Q = tA sc iX7_shares 18 [l0, l1, vR r] (vR r :: st) h Q := tA_pure mB_X7_shares dX7_shares_17 rfl
theorem rX7_shares_18 (hci : tcl h o = some 7) : tA sc iX7_shares 18 ls [vR n1, vI p0, vR (some o), s0] h Q = tA sc iX4_says 0 [vR (some o), vI p0, vR n1] [] h (fun v h1 => tA sc iX7_shares 21 ls (tpu v [s0]) h1 Q) := tA_cV mB_X7_shares mO_X7_shares dX7_shares_18 cT_7_37 rfl (Nat.le_of_ble_eq_true rfl) rfl rfl rfl hci
theorem rX7_shares_21 : tA sc iX7_shares 21 ls (vI y :: vI x :: st) h Q = tA sc iX7_shares 22 ls (vI (x + y) :: st) h Q := tA_pure mB_X7_shares dX7_shares_21 rfl
theorem rX7_shares_22 : tA sc iX7_shares 22 ls [vI x] h Q = Q (some (vI x)) h := tA_ret mB_X7_shares dX7_shares_22 (fun _ _ _ _ => rfl) (fun _ _ _ => rfl) (fun _ _ _ _ _ => rfl) rfl rfl
theorem mB_X8_init : mB iX8_init = cX8_init := rfl
theorem mO_X8_init : mO iX8_init = 8 := rfl
theorem rX8_init_0 : tA sc iX8_init 0 [vR r] st h Q = tA sc iX8_init 1 [vR r] (vR r :: st) h Q := tA_pure mB_X8_init dX8_init_0 rfl
theorem rX8_init_1 : tA sc iX8_init 1 ls [vR (some o)] h Q = tA sc iX8_init 4 ls [] h Q := tA_cN mB_X8_init mO_X8_init dX8_init_1 (fun _ _ _ _ => rfl) (fun _ _ _ => rfl) (fun _ _ _ _ _ => rfl) rfl cT_8_3 rfl rfl
theorem rX8_init_4 : tA sc iX8_init 4 [vR r] st h Q = tA sc iX8_init 5 [vR r] (vR r :: st) h Q := tA_pure mB_X8_init dX8_init_4 rfl
theorem rX8_init_5 : tA sc iX8_init 5 ls st h Q = tA sc iX8_init 7 ls (vI (30) :: st) h Q := tA_pure mB_X8_init dX8_init_5 rfl
theorem rX8_init_7 : tA sc iX8_init 7 ls (vI x :: st) h Q = oz (tna h 0 x) (fun h' => tA sc iX8_init 9 ls (vR (some h.2.1) :: st) h' Q) := (tA_hp mB_X8_init dX8_init_7 (fun _ _ _ _ => rfl) (fun _ _ _ => rfl) rfl (fun _ _ => rfl) rfl).trans (oz_map _ _ _)
theorem rX8_init_9 : tA sc iX8_init 9 ls (v :: vR (some o) :: st) h Q = oz (tput h o [8] 0 3 v) (fun h' => tA sc iX8_init 12 ls st h' Q) := tA_put mB_X8_init mO_X8_init dX8_init_9 fT_8_9 (Or.inr ⟨by decide, rfl⟩)
theorem rX8_init_12 : tA sc iX8_init 12 ls [] h Q = Q (none) h := tA_ret mB_X8_init dX8_init_12 (fun _ _ _ _ => rfl) (fun _ _ _ => rfl) (fun _ _ _ _ _ => rfl) rfl rfl
theorem mB_X8_clear : mB iX8_clear = cX8_clear := rfl
theorem mO_X8_clear : mO iX8_clear = 8 := rfl
theorem rX8_clear_0 : tA sc iX8_clear 0 [vR r] st h Q = tA sc iX8_clear 1 [vR r] (vR r :: st) h Q := tA_pure mB_X8_clear dX8_clear_0 rfl
theorem rX8_clear_1 : tA sc iX8_clear 1 ls st h Q = tA sc iX8_clear 2 ls (vI (0) :: st) h Q := tA_pure mB_X8_clear dX8_clear_1 rfl
theorem rX8_clear_2 : tA sc iX8_clear 2 ls (v :: vR (some o) :: st) h Q = oz (tput h o [8] 1 0 v) (fun h' => tA sc iX8_clear 5 ls st h' Q) := tA_put mB_X8_clear mO_X8_clear dX8_clear_2 fT_8_15 (Or.inl (by decide))
theorem rX8_clear_5 : tA sc iX8_clear 5 [vR r] st h Q = tA sc iX8_clear 6 [vR r] (vR r :: st) h Q := tA_pure mB_X8_clear dX8_clear_5 rfl
theorem rX8_clear_6 : tA sc iX8_clear 6 ls st h Q = tA sc iX8_clear 7 ls (vI (0) :: st) h Q := tA_pure mB_X8_clear dX8_clear_6 rfl
theorem rX8_clear_7 : tA sc iX8_clear 7 ls (v :: vR (some o) :: st) h Q = oz (tput h o [8] 2 1 v) (fun h' => tA sc iX8_clear 10 ls st h' Q) := tA_put mB_X8_clear mO_X8_clear dX8_clear_7 fT_8_19 (Or.inl (by decide))
theorem rX8_clear_10 : tA sc iX8_clear 10 ls [] h Q = Q (none) h := tA_ret mB_X8_clear dX8_clear_10 (fun _ _ _ _ => rfl) (fun _ _ _ => rfl) (fun _ _ _ _ _ => rfl) rfl rfl
theorem mB_X8_begin : mB iX8_begin = cX8_begin := rfl
theorem mO_X8_begin : mO iX8_begin = 8 := rfl
theorem rX8_begin_0 : tA sc iX8_begin 0 [vR r, l1] st h Q = tA sc iX8_begin 1 [vR r, l1] (vR r :: st) h Q := tA_pure mB_X8_begin dX8_begin_0 rfl
theorem rX8_begin_1 : tA sc iX8_begin 1 ls (vR (some o) :: st) h Q = oz (tget h o [8] 2) (fun v => tA sc iX8_begin 4 ls (v :: st) h Q) := tA_get mB_X8_begin mO_X8_begin dX8_begin_1 fT_8_19
theorem rX8_begin_4 : tA sc iX8_begin 4 ls (vI x :: st) h Q = (if ¬ x = 0 then tA sc iX8_begin 36 ls st h Q else tA sc iX8_begin 7 ls st h Q) := tA_if mB_X8_begin dX8_begin_4 (fun _ _ _ _ => rfl) rfl
theorem rX8_begin_7 : tA sc iX8_begin 7 [vR r, l1] st h Q = tA sc iX8_begin 8 [vR r, l1] (vR r :: st) h Q := tA_pure mB_X8_begin dX8_begin_7 rfl
theorem rX8_begin_8 : tA sc iX8_begin 8 ls (vR (some o) :: st) h Q = oz (tget h o [8] 1) (fun v => tA sc iX8_begin 11 ls (v :: st) h Q) := tA_get mB_X8_begin mO_X8_begin dX8_begin_8 fT_8_15
theorem rX8_begin_11 : tA sc iX8_begin 11 ls st h Q = tA sc iX8_begin 13 ls (vI (30) :: st) h Q := tA_pure mB_X8_begin dX8_begin_11 rfl
theorem rX8_begin_13 : tA sc iX8_begin 13 ls (vI y :: vI x :: st) h Q = (if y ≤ x then tA sc iX8_begin 36 ls st h Q else tA sc iX8_begin 16 ls st h Q) := tA_if mB_X8_begin dX8_begin_13 (fun _ _ _ _ => rfl) rfl
theorem rX8_begin_16 : tA sc iX8_begin 16 [vR r, l1] st h Q = tA sc iX8_begin 17 [vR r, l1] (vR r :: st) h Q := tA_pure mB_X8_begin dX8_begin_16 rfl
theorem rX8_begin_17 : tA sc iX8_begin 17 ls (vR (some o) :: st) h Q = oz (tget h o [8] 0) (fun v => tA sc iX8_begin 20 ls (v :: st) h Q) := tA_get mB_X8_begin mO_X8_begin dX8_begin_17 fT_8_9
theorem rX8_begin_20 : tA sc iX8_begin 20 [vR r, l1] st h Q = tA sc iX8_begin 21 [vR r, l1] (vR r :: st) h Q := tA_pure mB_X8_begin dX8_begin_20 rfl
theorem rX8_begin_21 : tA sc iX8_begin 21 ls (vR (some o) :: st) h Q = oz (tget h o [8] 1) (fun v => tA sc iX8_begin 24 ls (v :: st) h Q) := tA_get mB_X8_begin mO_X8_begin dX8_begin_21 fT_8_15
theorem rX8_begin_24 : tA sc iX8_begin 24 [l0, vI x] st h Q = tA sc iX8_begin 25 [l0, vI x] (vI x :: st) h Q := tA_pure mB_X8_begin dX8_begin_24 rfl
theorem rX8_begin_25 : tA sc iX8_begin 25 ls (vI x :: vI j :: vR (some a) :: st) h Q = oz (tasi h a j x) (fun h' => tA sc iX8_begin 26 ls st h' Q) := tA_iast mB_X8_begin dX8_begin_25
theorem rX8_begin_26 : tA sc iX8_begin 26 [vR r, l1] st h Q = tA sc iX8_begin 27 [vR r, l1] (vR r :: st) h Q := tA_pure mB_X8_begin dX8_begin_26 rfl
theorem rX8_begin_27 : tA sc iX8_begin 27 ls (vR r :: st) h Q = tA sc iX8_begin 28 ls (vR r :: vR r :: st) h Q := tA_pure mB_X8_begin dX8_begin_27 rfl
theorem rX8_begin_28 : tA sc iX8_begin 28 ls (vR (some o) :: st) h Q = oz (tget h o [8] 1) (fun v => tA sc iX8_begin 31 ls (v :: st) h Q) := tA_get mB_X8_begin mO_X8_begin dX8_begin_28 fT_8_15
theorem rX8_begin_31 : tA sc iX8_begin 31 ls st h Q = tA sc iX8_begin 32 ls (vI (1) :: st) h Q := tA_pure mB_X8_begin dX8_begin_31 rfl
theorem rX8_begin_32 : tA sc iX8_begin 32 ls (vI y :: vI x :: st) h Q = tA sc iX8_begin 33 ls (vI (x + y) :: st) h Q := tA_pure mB_X8_begin dX8_begin_32 rfl
theorem rX8_begin_33 : tA sc iX8_begin 33 ls (v :: vR (some o) :: st) h Q = oz (tput h o [8] 1 0 v) (fun h' => tA sc iX8_begin 36 ls st h' Q) := tA_put mB_X8_begin mO_X8_begin dX8_begin_33 fT_8_15 (Or.inl (by decide))
theorem rX8_begin_36 : tA sc iX8_begin 36 ls [] h Q = Q (none) h := tA_ret mB_X8_begin dX8_begin_36 (fun _ _ _ _ => rfl) (fun _ _ _ => rfl) (fun _ _ _ _ _ => rfl) rfl rfl
end S17
