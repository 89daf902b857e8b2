/-! instructions, by program (wip/whole/gen_rows.py) -/
section S17
variable {sc : Nat × (Nat → Int32)} {h : TH} {Q : Option TV → TH → Prop} {st ls : List TV} {l0 l1 l2 l3 l4 l5 l6 l7 l8 l9 l10 l11 l12 l13 l14 : TV} {x y j : Int32} {u w : Int64} {o a : Nat} {r : Option Nat} {v s0 s1 s2 s3 : TV} {p0 p1 p2 p3 p4 : Int32} {q0 q1 q2 q3 : Int64} {n0 n1 n2 n3 : Option Nat}

theorem mB_X9_init : mB iX9_init = cX9_init := rfl
theorem mO_X9_init : mO iX9_init = 9 := rfl
theorem rX9_init_0 : tA sc iX9_init 0 [vR r] st h Q = tA sc iX9_init 1 [vR r] (vR r :: st) h Q := tA_pure mB_X9_init dX9_init_0 rfl
theorem rX9_init_1 : tA sc iX9_init 1 ls [vR (some o)] h Q = tA sc iX9_init 4 ls [] h Q := tA_cN mB_X9_init mO_X9_init dX9_init_1 (fun _ _ _ _ => rfl) (fun _ _ _ => rfl) (fun _ _ _ _ _ => rfl) rfl cT_9_3 rfl rfl
theorem rX9_init_4 : tA sc iX9_init 4 [vR r] st h Q = tA sc iX9_init 5 [vR r] (vR r :: st) h Q := tA_pure mB_X9_init dX9_init_4 rfl
theorem rX9_init_5 : tA sc iX9_init 5 ls st h Q = tA sc iX9_init 7 ls (vI (20) :: st) h Q := tA_pure mB_X9_init dX9_init_5 rfl
theorem rX9_init_7 : tA sc iX9_init 7 ls (vI x :: st) h Q = oz (tna h 0 x) (fun h' => tA sc iX9_init 9 ls (vR (some h.2.1) :: st) h' Q) := (tA_hp mB_X9_init dX9_init_7 (fun _ _ _ _ => rfl) (fun _ _ _ => rfl) rfl (fun _ _ => rfl) rfl).trans (oz_map _ _ _)
theorem rX9_init_9 : tA sc iX9_init 9 ls (v :: vR (some o) :: st) h Q = oz (tput h o [9] 0 3 v) (fun h' => tA sc iX9_init 12 ls st h' Q) := tA_put mB_X9_init mO_X9_init dX9_init_9 fT_9_9 (Or.inr ⟨by decide, rfl⟩)
theorem rX9_init_12 : tA sc iX9_init 12 [vR r] st h Q = tA sc iX9_init 13 [vR r] (vR r :: st) h Q := tA_pure mB_X9_init dX9_init_12 rfl
theorem rX9_init_13 : tA sc iX9_init 13 ls st h Q = tA sc iX9_init 15 ls (vI (80) :: st) h Q := tA_pure mB_X9_init dX9_init_13 rfl
theorem rX9_init_15 : tA sc iX9_init 15 ls (vI x :: st) h Q = oz (tna h 0 x) (fun h' => tA sc iX9_init 17 ls (vR (some h.2.1) :: st) h' Q) := (tA_hp mB_X9_init dX9_init_15 (fun _ _ _ _ => rfl) (fun _ _ _ => rfl) rfl (fun _ _ => rfl) rfl).trans (oz_map _ _ _)
theorem rX9_init_17 : tA sc iX9_init 17 ls (v :: vR (some o) :: st) h Q = oz (tput h o [9] 1 3 v) (fun h' => tA sc iX9_init 20 ls st h' Q) := tA_put mB_X9_init mO_X9_init dX9_init_17 fT_9_15 (Or.inr ⟨by decide, rfl⟩)
theorem rX9_init_20 : tA sc iX9_init 20 [vR r] st h Q = tA sc iX9_init 21 [vR r] (vR r :: st) h Q := tA_pure mB_X9_init dX9_init_20 rfl
theorem rX9_init_21 : tA sc iX9_init 21 ls st h Q = tA sc iX9_init 23 ls (vI (20) :: st) h Q := tA_pure mB_X9_init dX9_init_21 rfl
theorem rX9_init_23 : tA sc iX9_init 23 ls (vI x :: st) h Q = oz (tna h 0 x) (fun h' => tA sc iX9_init 25 ls (vR (some h.2.1) :: st) h' Q) := (tA_hp mB_X9_init dX9_init_23 (fun _ _ _ _ => rfl) (fun _ _ _ => rfl) rfl (fun _ _ => rfl) rfl).trans (oz_map _ _ _)
theorem rX9_init_25 : tA sc iX9_init 25 ls (v :: vR (some o) :: st) h Q = oz (tput h o [9] 2 3 v) (fun h' => tA sc iX9_init 28 ls st h' Q) := tA_put mB_X9_init mO_X9_init dX9_init_25 fT_9_18 (Or.inr ⟨by decide, rfl⟩)
theorem rX9_init_28 : tA sc iX9_init 28 [vR r] st h Q = tA sc iX9_init 29 [vR r] (vR r :: st) h Q := tA_pure mB_X9_init dX9_init_28 rfl
theorem rX9_init_29 : tA sc iX9_init 29 ls st h Q = tA sc iX9_init 31 ls (vI (20) :: st) h Q := tA_pure mB_X9_init dX9_init_29 rfl
theorem rX9_init_31 : tA sc iX9_init 31 ls (vI x :: st) h Q = oz (tna h 0 x) (fun h' => tA sc iX9_init 33 ls (vR (some h.2.1) :: st) h' Q) := (tA_hp mB_X9_init dX9_init_31 (fun _ _ _ _ => rfl) (fun _ _ _ => rfl) rfl (fun _ _ => rfl) rfl).trans (oz_map _ _ _)
theorem rX9_init_33 : tA sc iX9_init 33 ls (v :: vR (some o) :: st) h Q = oz (tput h o [9] 3 3 v) (fun h' => tA sc iX9_init 36 ls st h' Q) := tA_put mB_X9_init mO_X9_init dX9_init_33 fT_9_21 (Or.inr ⟨by decide, rfl⟩)
theorem rX9_init_36 : tA sc iX9_init 36 [vR r] st h Q = tA sc iX9_init 37 [vR r] (vR r :: st) h Q := tA_pure mB_X9_init dX9_init_36 rfl
theorem rX9_init_37 : tA sc iX9_init 37 ls st h Q = tA sc iX9_init 39 ls (vI (20) :: st) h Q := tA_pure mB_X9_init dX9_init_37 rfl
theorem rX9_init_39 : tA sc iX9_init 39 ls (vI x :: st) h Q = oz (tna h 0 x) (fun h' => tA sc iX9_init 41 ls (vR (some h.2.1) :: st) h' Q) := (tA_hp mB_X9_init dX9_init_39 (fun _ _ _ _ => rfl) (fun _ _ _ => rfl) rfl (fun _ _ => rfl) rfl).trans (oz_map _ _ _)
theorem rX9_init_41 : tA sc iX9_init 41 ls (v :: vR (some o) :: st) h Q = oz (tput h o [9] 4 3 v) (fun h' => tA sc iX9_init 44 ls st h' Q) := tA_put mB_X9_init mO_X9_init dX9_init_41 fT_9_24 (Or.inr ⟨by decide, rfl⟩)
theorem rX9_init_44 : tA sc iX9_init 44 [vR r] st h Q = tA sc iX9_init 45 [vR r] (vR r :: st) h Q := tA_pure mB_X9_init dX9_init_44 rfl
theorem rX9_init_45 : tA sc iX9_init 45 ls st h Q = tA sc iX9_init 48 ls (vR (some 1000000001) :: st) h Q := tA_hp mB_X9_init dX9_init_45 (fun _ _ _ _ => rfl) (fun _ _ _ => rfl) rfl (fun _ _ => rfl) rfl
theorem rX9_init_48 : tA sc iX9_init 48 ls (vR (some 1000000001) :: [s0]) h Q = oz (tnew h (.inl (0, 4, .inl tfirst)) 4) (fun h' => tA sc iX9_init 51 ls (vR (some h.2.1) :: [s0]) h' Q) := tA_cB mB_X9_init mO_X9_init dX9_init_48 cT_9_30 ⟨Nat.le_of_ble_eq_true rfl, Nat.le_of_ble_eq_true rfl, Nat.le_of_ble_eq_true rfl⟩
theorem rX9_init_51 : tA sc iX9_init 51 ls (vR (some a) :: st) h Q = oz (theap sc iX9_init (.checkcast 31) 3 (vR (some a) :: st) h) (fun z => tA sc iX9_init 54 ls z.1 z.2 Q) := tA_hp mB_X9_init dX9_init_51 (fun _ _ _ _ => rfl) (fun _ _ _ => rfl) rfl (fun _ _ => rfl) rfl
theorem rX9_init_54 : tA sc iX9_init 54 ls (v :: vR (some o) :: st) h Q = oz (tput h o [9] 5 3 v) (fun h' => tA sc iX9_init 57 ls st h' Q) := tA_put mB_X9_init mO_X9_init dX9_init_54 fT_9_35 (Or.inr ⟨by decide, rfl⟩)
theorem rX9_init_57 : tA sc iX9_init 57 [vR r] st h Q = tA sc iX9_init 58 [vR r] (vR r :: st) h Q := tA_pure mB_X9_init dX9_init_57 rfl
theorem rX9_init_58 : tA sc iX9_init 58 ls st h Q = tA sc iX9_init 59 ls (vI (1) :: st) h Q := tA_pure mB_X9_init dX9_init_58 rfl
theorem rX9_init_59 : tA sc iX9_init 59 ls (v :: vR (some o) :: st) h Q = oz (tput h o [9] 7 0 v) (fun h' => tA sc iX9_init 62 ls st h' Q) := tA_put mB_X9_init mO_X9_init dX9_init_59 fT_9_38 (Or.inl (by decide))
theorem rX9_init_62 : tA sc iX9_init 62 [vR r] st h Q = tA sc iX9_init 63 [vR r] (vR r :: st) h Q := tA_pure mB_X9_init dX9_init_62 rfl
theorem rX9_init_63 : tA sc iX9_init 63 ls st h Q = tA sc iX9_init 64 ls (vI (5) :: st) h Q := tA_pure mB_X9_init dX9_init_63 rfl
theorem rX9_init_64 : tA sc iX9_init 64 ls (vI x :: st) h Q = oz (tna h 3 x) (fun h' => tA sc iX9_init 67 ls (vR (some h.2.1) :: st) h' Q) := (tA_hp mB_X9_init dX9_init_64 (fun _ _ _ _ => rfl) (fun _ _ _ => rfl) rfl (fun _ _ => rfl) rfl).trans (oz_map _ _ _)
theorem rX9_init_67 : tA sc iX9_init 67 ls (v :: vR (some o) :: st) h Q = oz (tput h o [9] 8 3 v) (fun h' => tA sc iX9_init 70 ls st h' Q) := tA_put mB_X9_init mO_X9_init dX9_init_67 fT_9_44 (Or.inr ⟨by decide, rfl⟩)
theorem rX9_init_70 : tA sc iX9_init 70 [vR r] st h Q = tA sc iX9_init 71 [vR r] (vR r :: st) h Q := tA_pure mB_X9_init dX9_init_70 rfl
theorem rX9_init_71 : tA sc iX9_init 71 ls st h Q = tA sc iX9_init 72 ls (vI (5) :: st) h Q := tA_pure mB_X9_init dX9_init_71 rfl
theorem rX9_init_72 : tA sc iX9_init 72 ls (vI x :: st) h Q = oz (tna h 0 x) (fun h' => tA sc iX9_init 74 ls (vR (some h.2.1) :: st) h' Q) := (tA_hp mB_X9_init dX9_init_72 (fun _ _ _ _ => rfl) (fun _ _ _ => rfl) rfl (fun _ _ => rfl) rfl).trans (oz_map _ _ _)
theorem rX9_init_74 : tA sc iX9_init 74 ls (v :: vR (some o) :: st) h Q = oz (tput h o [9] 9 3 v) (fun h' => tA sc iX9_init 77 ls st h' Q) := tA_put mB_X9_init mO_X9_init dX9_init_74 fT_9_48 (Or.inr ⟨by decide, rfl⟩)
theorem rX9_init_77 : tA sc iX9_init 77 [vR r] st h Q = tA sc iX9_init 78 [vR r] (vR r :: st) h Q := tA_pure mB_X9_init dX9_init_77 rfl
theorem rX9_init_78 : tA sc iX9_init 78 ls st h Q = tA sc iX9_init 80 ls (vI (40) :: st) h Q := tA_pure mB_X9_init dX9_init_78 rfl
theorem rX9_init_80 : tA sc iX9_init 80 ls (vI x :: st) h Q = oz (tna h 0 x) (fun h' => tA sc iX9_init 82 ls (vR (some h.2.1) :: st) h' Q) := (tA_hp mB_X9_init dX9_init_80 (fun _ _ _ _ => rfl) (fun _ _ _ => rfl) rfl (fun _ _ => rfl) rfl).trans (oz_map _ _ _)
theorem rX9_init_82 : tA sc iX9_init 82 ls (v :: vR (some o) :: st) h Q = oz (tput h o [9] 11 3 v) (fun h' => tA sc iX9_init 85 ls st h' Q) := tA_put mB_X9_init mO_X9_init dX9_init_82 fT_9_51 (Or.inr ⟨by decide, rfl⟩)
theorem rX9_init_85 : tA sc iX9_init 85 [vR r] st h Q = tA sc iX9_init 86 [vR r] (vR r :: st) h Q := tA_pure mB_X9_init dX9_init_85 rfl
theorem rX9_init_86 : tA sc iX9_init 86 ls st h Q = tA sc iX9_init 88 ls (vI (40) :: st) h Q := tA_pure mB_X9_init dX9_init_86 rfl
theorem rX9_init_88 : tA sc iX9_init 88 ls (vI x :: st) h Q = oz (tna h 0 x) (fun h' => tA sc iX9_init 90 ls (vR (some h.2.1) :: st) h' Q) := (tA_hp mB_X9_init dX9_init_88 (fun _ _ _ _ => rfl) (fun _ _ _ => rfl) rfl (fun _ _ => rfl) rfl).trans (oz_map _ _ _)
theorem rX9_init_90 : tA sc iX9_init 90 ls (v :: vR (some o) :: st) h Q = oz (tput h o [9] 12 3 v) (fun h' => tA sc iX9_init 93 ls st h' Q) := tA_put mB_X9_init mO_X9_init dX9_init_90 fT_9_54 (Or.inr ⟨by decide, rfl⟩)
theorem rX9_init_93 : tA sc iX9_init 93 [vR r] st h Q = tA sc iX9_init 94 [vR r] (vR r :: st) h Q := tA_pure mB_X9_init dX9_init_93 rfl
theorem rX9_init_94 : tA sc iX9_init 94 ls st h Q = tA sc iX9_init 96 ls (vI (40) :: st) h Q := tA_pure mB_X9_init dX9_init_94 rfl
theorem rX9_init_96 : tA sc iX9_init 96 ls (vI x :: st) h Q = oz (tna h 0 x) (fun h' => tA sc iX9_init 98 ls (vR (some h.2.1) :: st) h' Q) := (tA_hp mB_X9_init dX9_init_96 (fun _ _ _ _ => rfl) (fun _ _ _ => rfl) rfl (fun _ _ => rfl) rfl).trans (oz_map _ _ _)
theorem rX9_init_98 : tA sc iX9_init 98 ls (v :: vR (some o) :: st) h Q = oz (tput h o [9] 13 3 v) (fun h' => tA sc iX9_init 101 ls st h' Q) := tA_put mB_X9_init mO_X9_init dX9_init_98 fT_9_57 (Or.inr ⟨by decide, rfl⟩)
theorem rX9_init_101 : tA sc iX9_init 101 [vR r] st h Q = tA sc iX9_init 102 [vR r] (vR r :: st) h Q := tA_pure mB_X9_init dX9_init_101 rfl
theorem rX9_init_102 (hci : tcl h o = some 9) : tA sc iX9_init 102 ls [vR (some o)] h Q = tA sc iX9_forgetAll 0 [vR (some o), vU] [] h (fun v h1 => tA sc iX9_init 105 ls (tpu v []) h1 Q) := tA_cV mB_X9_init mO_X9_init dX9_init_102 cT_9_60 rfl (Nat.le_of_ble_eq_true rfl) rfl rfl rfl hci
theorem rX9_init_105 : tA sc iX9_init 105 ls [] h Q = Q (none) h := tA_ret mB_X9_init dX9_init_105 (fun _ _ _ _ => rfl) (fun _ _ _ => rfl) (fun _ _ _ _ _ => rfl) rfl rfl
theorem mB_X9_forgetAll : mB iX9_forgetAll = cX9_forgetAll := rfl
theorem mO_X9_forgetAll : mO iX9_forgetAll = 9 := rfl
theorem rX9_forgetAll_0 : tA sc iX9_forgetAll 0 ls st h Q = tA sc iX9_forgetAll 1 ls (vI (0) :: st) h Q := tA_pure mB_X9_forgetAll dX9_forgetAll_0 rfl
theorem rX9_forgetAll_1 : tA sc iX9_forgetAll 1 [l0, l1] (vI x :: st) h Q = tA sc iX9_forgetAll 2 [tclr l0, vI x] st h Q := tA_pure mB_X9_forgetAll dX9_forgetAll_1 rfl
theorem rX9_forgetAll_2 : tA sc iX9_forgetAll 2 [l0, vI x] st h Q = tA sc iX9_forgetAll 3 [l0, vI x] (vI x :: st) h Q := tA_pure mB_X9_forgetAll dX9_forgetAll_2 rfl
theorem rX9_forgetAll_3 : tA sc iX9_forgetAll 3 ls st h Q = tA sc iX9_forgetAll 5 ls (vI (20) :: st) h Q := tA_pure mB_X9_forgetAll dX9_forgetAll_3 rfl
theorem rX9_forgetAll_5 : tA sc iX9_forgetAll 5 ls (vI y :: vI x :: st) h Q = (if y ≤ x then tA sc iX9_forgetAll 33 ls st h Q else tA sc iX9_forgetAll 8 ls st h Q) := tA_if mB_X9_forgetAll dX9_forgetAll_5 (fun _ _ _ _ => rfl) rfl
theorem rX9_forgetAll_8 : tA sc iX9_forgetAll 8 [vR r, l1] st h Q = tA sc iX9_forgetAll 9 [vR r, l1] (vR r :: st) h Q := tA_pure mB_X9_forgetAll dX9_forgetAll_8 rfl
theorem rX9_forgetAll_9 : tA sc iX9_forgetAll 9 [l0, vI x] st h Q = tA sc iX9_forgetAll 10 [l0, vI x] (vI x :: st) h Q := tA_pure mB_X9_forgetAll dX9_forgetAll_9 rfl
theorem rX9_forgetAll_10 (hci : tcl h o = some 9) : tA sc iX9_forgetAll 10 ls [vI p0, vR (some o)] h Q = tA sc iX9_forgetDay 0 [vR (some o), vI p0, vU] [] h (fun v h1 => tA sc iX9_forgetAll 13 ls (tpu v []) h1 Q) := tA_cV mB_X9_forgetAll mO_X9_forgetAll dX9_forgetAll_10 cT_9_63 rfl (Nat.le_of_ble_eq_true rfl) rfl rfl rfl hci
theorem rX9_forgetAll_13 : tA sc iX9_forgetAll 13 [vR r, l1] st h Q = tA sc iX9_forgetAll 14 [vR r, l1] (vR r :: st) h Q := tA_pure mB_X9_forgetAll dX9_forgetAll_13 rfl
theorem rX9_forgetAll_14 : tA sc iX9_forgetAll 14 ls (vR (some o) :: st) h Q = oz (tget h o [9] 3) (fun v => tA sc iX9_forgetAll 17 ls (v :: st) h Q) := tA_get mB_X9_forgetAll mO_X9_forgetAll dX9_forgetAll_14 fT_9_21
theorem rX9_forgetAll_17 : tA sc iX9_forgetAll 17 [l0, vI x] st h Q = tA sc iX9_forgetAll 18 [l0, vI x] (vI x :: st) h Q := tA_pure mB_X9_forgetAll dX9_forgetAll_17 rfl
theorem rX9_forgetAll_18 : tA sc iX9_forgetAll 18 ls st h Q = tA sc iX9_forgetAll 19 ls (vI (-1) :: st) h Q := tA_pure mB_X9_forgetAll dX9_forgetAll_18 rfl
theorem rX9_forgetAll_19 : tA sc iX9_forgetAll 19 ls (vI x :: vI j :: vR (some a) :: st) h Q = oz (tasi h a j x) (fun h' => tA sc iX9_forgetAll 20 ls st h' Q) := tA_iast mB_X9_forgetAll dX9_forgetAll_19
theorem rX9_forgetAll_20 : tA sc iX9_forgetAll 20 [vR r, l1] st h Q = tA sc iX9_forgetAll 21 [vR r, l1] (vR r :: st) h Q := tA_pure mB_X9_forgetAll dX9_forgetAll_20 rfl
theorem rX9_forgetAll_21 : tA sc iX9_forgetAll 21 ls (vR (some o) :: st) h Q = oz (tget h o [9] 4) (fun v => tA sc iX9_forgetAll 24 ls (v :: st) h Q) := tA_get mB_X9_forgetAll mO_X9_forgetAll dX9_forgetAll_21 fT_9_24
theorem rX9_forgetAll_24 : tA sc iX9_forgetAll 24 [l0, vI x] st h Q = tA sc iX9_forgetAll 25 [l0, vI x] (vI x :: st) h Q := tA_pure mB_X9_forgetAll dX9_forgetAll_24 rfl
theorem rX9_forgetAll_25 : tA sc iX9_forgetAll 25 ls st h Q = tA sc iX9_forgetAll 26 ls (vI (0) :: st) h Q := tA_pure mB_X9_forgetAll dX9_forgetAll_25 rfl
theorem rX9_forgetAll_26 : tA sc iX9_forgetAll 26 ls (vI x :: vI j :: vR (some a) :: st) h Q = oz (tasi h a j x) (fun h' => tA sc iX9_forgetAll 27 ls st h' Q) := tA_iast mB_X9_forgetAll dX9_forgetAll_26
theorem rX9_forgetAll_27 : tA sc iX9_forgetAll 27 [l0, vI x] st h Q = tA sc iX9_forgetAll 30 [tclr l0, vI (x + 1)] st h Q := tA_pure mB_X9_forgetAll dX9_forgetAll_27 rfl
theorem rX9_forgetAll_30 : tA sc iX9_forgetAll 30 ls st h Q = tA sc iX9_forgetAll 2 ls st h Q := tA_jump mB_X9_forgetAll dX9_forgetAll_30 (fun _ _ _ _ => rfl) rfl
theorem rX9_forgetAll_33 : tA sc iX9_forgetAll 33 [vR r, l1] st h Q = tA sc iX9_forgetAll 34 [vR r, l1] (vR r :: st) h Q := tA_pure mB_X9_forgetAll dX9_forgetAll_33 rfl
theorem rX9_forgetAll_34 : tA sc iX9_forgetAll 34 ls st h Q = tA sc iX9_forgetAll 35 ls (vI (0) :: st) h Q := tA_pure mB_X9_forgetAll dX9_forgetAll_34 rfl
theorem rX9_forgetAll_35 : tA sc iX9_forgetAll 35 ls (v :: vR (some o) :: st) h Q = oz (tput h o [9] 6 0 v) (fun h' => tA sc iX9_forgetAll 38 ls st h' Q) := tA_put mB_X9_forgetAll mO_X9_forgetAll dX9_forgetAll_35 fT_9_67 (Or.inl (by decide))
theorem rX9_forgetAll_38 : tA sc iX9_forgetAll 38 [vR r, l1] st h Q = tA sc iX9_forgetAll 39 [vR r, l1] (vR r :: st) h Q := tA_pure mB_X9_forgetAll dX9_forgetAll_38 rfl
theorem rX9_forgetAll_39 : tA sc iX9_forgetAll 39 ls st h Q = tA sc iX9_forgetAll 40 ls (vI (0) :: st) h Q := tA_pure mB_X9_forgetAll dX9_forgetAll_39 rfl
theorem rX9_forgetAll_40 : tA sc iX9_forgetAll 40 ls (v :: vR (some o) :: st) h Q = oz (tput h o [9] 10 0 v) (fun h' => tA sc iX9_forgetAll 43 ls st h' Q) := tA_put mB_X9_forgetAll mO_X9_forgetAll dX9_forgetAll_40 fT_9_70 (Or.inl (by decide))
theorem rX9_forgetAll_43 : tA sc iX9_forgetAll 43 [vR r, l1] st h Q = tA sc iX9_forgetAll 44 [vR r, l1] (vR r :: st) h Q := tA_pure mB_X9_forgetAll dX9_forgetAll_43 rfl
theorem rX9_forgetAll_44 : tA sc iX9_forgetAll 44 ls st h Q = tA sc iX9_forgetAll 45 ls (vI (0) :: st) h Q := tA_pure mB_X9_forgetAll dX9_forgetAll_44 rfl
theorem rX9_forgetAll_45 : tA sc iX9_forgetAll 45 ls (v :: vR (some o) :: st) h Q = oz (tput h o [9] 14 0 v) (fun h' => tA sc iX9_forgetAll 48 ls st h' Q) := tA_put mB_X9_forgetAll mO_X9_forgetAll dX9_forgetAll_45 fT_9_73 (Or.inl (by decide))
theorem rX9_forgetAll_48 : tA sc iX9_forgetAll 48 ls [] h Q = Q (none) h := tA_ret mB_X9_forgetAll dX9_forgetAll_48 (fun _ _ _ _ => rfl) (fun _ _ _ => rfl) (fun _ _ _ _ _ => rfl) rfl rfl
theorem mB_X9_forgetDay : mB iX9_forgetDay = cX9_forgetDay := rfl
theorem mO_X9_forgetDay : mO iX9_forgetDay = 9 := rfl
theorem rX9_forgetDay_0 : tA sc iX9_forgetDay 0 [vR r, l1, l2] st h Q = tA sc iX9_forgetDay 1 [vR r, l1, l2] (vR r :: st) h Q := tA_pure mB_X9_forgetDay dX9_forgetDay_0 rfl
theorem rX9_forgetDay_1 : tA sc iX9_forgetDay 1 ls (vR (some o) :: st) h Q = oz (tget h o [9] 0) (fun v => tA sc iX9_forgetDay 4 ls (v :: st) h Q) := tA_get mB_X9_forgetDay mO_X9_forgetDay dX9_forgetDay_1 fT_9_9
theorem rX9_forgetDay_4 : tA sc iX9_forgetDay 4 [l0, vI x, l2] st h Q = tA sc iX9_forgetDay 5 [l0, vI x, l2] (vI x :: st) h Q := tA_pure mB_X9_forgetDay dX9_forgetDay_4 rfl
theorem rX9_forgetDay_5 : tA sc iX9_forgetDay 5 ls st h Q = tA sc iX9_forgetDay 7 ls (vI (10) :: st) h Q := tA_pure mB_X9_forgetDay dX9_forgetDay_5 rfl
theorem rX9_forgetDay_7 : tA sc iX9_forgetDay 7 ls (vI x :: vI j :: vR (some a) :: st) h Q = oz (tasi h a j x) (fun h' => tA sc iX9_forgetDay 8 ls st h' Q) := tA_iast mB_X9_forgetDay dX9_forgetDay_7
theorem rX9_forgetDay_8 : tA sc iX9_forgetDay 8 [vR r, l1, l2] st h Q = tA sc iX9_forgetDay 9 [vR r, l1, l2] (vR r :: st) h Q := tA_pure mB_X9_forgetDay dX9_forgetDay_8 rfl
theorem rX9_forgetDay_9 : tA sc iX9_forgetDay 9 ls (vR (some o) :: st) h Q = oz (tget h o [9] 2) (fun v => tA sc iX9_forgetDay 12 ls (v :: st) h Q) := tA_get mB_X9_forgetDay mO_X9_forgetDay dX9_forgetDay_9 fT_9_18
theorem rX9_forgetDay_12 : tA sc iX9_forgetDay 12 [l0, vI x, l2] st h Q = tA sc iX9_forgetDay 13 [l0, vI x, l2] (vI x :: st) h Q := tA_pure mB_X9_forgetDay dX9_forgetDay_12 rfl
theorem rX9_forgetDay_13 : tA sc iX9_forgetDay 13 ls st h Q = tA sc iX9_forgetDay 14 ls (vI (-1) :: st) h Q := tA_pure mB_X9_forgetDay dX9_forgetDay_13 rfl
theorem rX9_forgetDay_14 : tA sc iX9_forgetDay 14 ls (vI x :: vI j :: vR (some a) :: st) h Q = oz (tasi h a j x) (fun h' => tA sc iX9_forgetDay 15 ls st h' Q) := tA_iast mB_X9_forgetDay dX9_forgetDay_14
theorem rX9_forgetDay_15 : tA sc iX9_forgetDay 15 ls st h Q = tA sc iX9_forgetDay 16 ls (vI (0) :: st) h Q := tA_pure mB_X9_forgetDay dX9_forgetDay_15 rfl
theorem rX9_forgetDay_16 : tA sc iX9_forgetDay 16 [l0, l1, l2] (vI x :: st) h Q = tA sc iX9_forgetDay 17 [l0, tclr l1, vI x] st h Q := tA_pure mB_X9_forgetDay dX9_forgetDay_16 rfl
theorem rX9_forgetDay_17 : tA sc iX9_forgetDay 17 [l0, l1, vI x] st h Q = tA sc iX9_forgetDay 18 [l0, l1, vI x] (vI x :: st) h Q := tA_pure mB_X9_forgetDay dX9_forgetDay_17 rfl
theorem rX9_forgetDay_18 : tA sc iX9_forgetDay 18 ls st h Q = tA sc iX9_forgetDay 19 ls (vI (4) :: st) h Q := tA_pure mB_X9_forgetDay dX9_forgetDay_18 rfl
theorem rX9_forgetDay_19 : tA sc iX9_forgetDay 19 ls (vI y :: vI x :: st) h Q = (if y ≤ x then tA sc iX9_forgetDay 39 ls st h Q else tA sc iX9_forgetDay 22 ls st h Q) := tA_if mB_X9_forgetDay dX9_forgetDay_19 (fun _ _ _ _ => rfl) rfl
theorem rX9_forgetDay_22 : tA sc iX9_forgetDay 22 [vR r, l1, l2] st h Q = tA sc iX9_forgetDay 23 [vR r, l1, l2] (vR r :: st) h Q := tA_pure mB_X9_forgetDay dX9_forgetDay_22 rfl
theorem rX9_forgetDay_23 : tA sc iX9_forgetDay 23 ls (vR (some o) :: st) h Q = oz (tget h o [9] 1) (fun v => tA sc iX9_forgetDay 26 ls (v :: st) h Q) := tA_get mB_X9_forgetDay mO_X9_forgetDay dX9_forgetDay_23 fT_9_15
theorem rX9_forgetDay_26 : tA sc iX9_forgetDay 26 [l0, vI x, l2] st h Q = tA sc iX9_forgetDay 27 [l0, vI x, l2] (vI x :: st) h Q := tA_pure mB_X9_forgetDay dX9_forgetDay_26 rfl
theorem rX9_forgetDay_27 : tA sc iX9_forgetDay 27 ls st h Q = tA sc iX9_forgetDay 28 ls (vI (4) :: st) h Q := tA_pure mB_X9_forgetDay dX9_forgetDay_27 rfl
theorem rX9_forgetDay_28 : tA sc iX9_forgetDay 28 ls (vI y :: vI x :: st) h Q = tA sc iX9_forgetDay 29 ls (vI (x * y) :: st) h Q := tA_pure mB_X9_forgetDay dX9_forgetDay_28 rfl
theorem rX9_forgetDay_29 : tA sc iX9_forgetDay 29 [l0, l1, vI x] st h Q = tA sc iX9_forgetDay 30 [l0, l1, vI x] (vI x :: st) h Q := tA_pure mB_X9_forgetDay dX9_forgetDay_29 rfl
theorem rX9_forgetDay_30 : tA sc iX9_forgetDay 30 ls (vI y :: vI x :: st) h Q = tA sc iX9_forgetDay 31 ls (vI (x + y) :: st) h Q := tA_pure mB_X9_forgetDay dX9_forgetDay_30 rfl
theorem rX9_forgetDay_31 : tA sc iX9_forgetDay 31 ls st h Q = tA sc iX9_forgetDay 32 ls (vI (1) :: st) h Q := tA_pure mB_X9_forgetDay dX9_forgetDay_31 rfl
theorem rX9_forgetDay_32 : tA sc iX9_forgetDay 32 ls (vI x :: vI j :: vR (some a) :: st) h Q = oz (tasi h a j x) (fun h' => tA sc iX9_forgetDay 33 ls st h' Q) := tA_iast mB_X9_forgetDay dX9_forgetDay_32
theorem rX9_forgetDay_33 : tA sc iX9_forgetDay 33 [l0, l1, vI x] st h Q = tA sc iX9_forgetDay 36 [l0, tclr l1, vI (x + 1)] st h Q := tA_pure mB_X9_forgetDay dX9_forgetDay_33 rfl
theorem rX9_forgetDay_36 : tA sc iX9_forgetDay 36 ls st h Q = tA sc iX9_forgetDay 17 ls st h Q := tA_jump mB_X9_forgetDay dX9_forgetDay_36 (fun _ _ _ _ => rfl) rfl
theorem rX9_forgetDay_39 : tA sc iX9_forgetDay 39 ls [] h Q = Q (none) h := tA_ret mB_X9_forgetDay dX9_forgetDay_39 (fun _ _ _ _ => rfl) (fun _ _ _ => rfl) (fun _ _ _ _ _ => rfl) rfl rfl
theorem mB_X9_become : mB iX9_become = cX9_become := rfl
theorem mO_X9_become : mO iX9_become = 9 := rfl
theorem rX9_become_0 : tA sc iX9_become 0 [l0, vR r, l2] st h Q = tA sc iX9_become 1 [l0, vR r, l2] (vR r :: st) h Q := tA_pure mB_X9_become dX9_become_0 rfl
theorem rX9_become_1 : tA sc iX9_become 1 ls (vR (some o) :: st) h Q = oz (tget h o [9] 0) (fun v => tA sc iX9_become 4 ls (v :: st) h Q) := tA_get mB_X9_become mO_X9_become dX9_become_1 fT_9_9
theorem rX9_become_4 : tA sc iX9_become 4 ls st h Q = tA sc iX9_become 5 ls (vI (0) :: st) h Q := tA_pure mB_X9_become dX9_become_4 rfl
theorem rX9_become_5 : tA sc iX9_become 5 [vR r, l1, l2] st h Q = tA sc iX9_become 6 [vR r, l1, l2] (vR r :: st) h Q := tA_pure mB_X9_become dX9_become_5 rfl
theorem rX9_become_6 : tA sc iX9_become 6 ls (vR (some o) :: st) h Q = oz (tget h o [9] 0) (fun v => tA sc iX9_become 9 ls (v :: st) h Q) := tA_get mB_X9_become mO_X9_become dX9_become_6 fT_9_9
theorem rX9_become_9 : tA sc iX9_become 9 ls st h Q = tA sc iX9_become 10 ls (vI (0) :: st) h Q := tA_pure mB_X9_become dX9_become_9 rfl
theorem rX9_become_10 : tA sc iX9_become 10 ls st h Q = tA sc iX9_become 12 ls (vI (20) :: st) h Q := tA_pure mB_X9_become dX9_become_10 rfl
theorem rX9_become_12 : tA sc iX9_become 12 ls [vI p4, vI p3, vR (some a), vI p1, vR (some o)] h Q = oz (tcpy h o a p1 p3 p4) (fun h' => tA sc iX9_become 15 ls [] h' Q) := tA_cC mB_X9_become mO_X9_become dX9_become_12 cT_9_76 ⟨Nat.le_of_ble_eq_true rfl, Nat.le_of_ble_eq_true rfl, Nat.le_of_ble_eq_true rfl⟩
theorem rX9_become_15 : tA sc iX9_become 15 [l0, vR r, l2] st h Q = tA sc iX9_become 16 [l0, vR r, l2] (vR r :: st) h Q := tA_pure mB_X9_become dX9_become_15 rfl
theorem rX9_become_16 : tA sc iX9_become 16 ls (vR (some o) :: st) h Q = oz (tget h o [9] 1) (fun v => tA sc iX9_become 19 ls (v :: st) h Q) := tA_get mB_X9_become mO_X9_become dX9_become_16 fT_9_15
theorem rX9_become_19 : tA sc iX9_become 19 ls st h Q = tA sc iX9_become 20 ls (vI (0) :: st) h Q := tA_pure mB_X9_become dX9_become_19 rfl
theorem rX9_become_20 : tA sc iX9_become 20 [vR r, l1, l2] st h Q = tA sc iX9_become 21 [vR r, l1, l2] (vR r :: st) h Q := tA_pure mB_X9_become dX9_become_20 rfl
theorem rX9_become_21 : tA sc iX9_become 21 ls (vR (some o) :: st) h Q = oz (tget h o [9] 1) (fun v => tA sc iX9_become 24 ls (v :: st) h Q) := tA_get mB_X9_become mO_X9_become dX9_become_21 fT_9_15
theorem rX9_become_24 : tA sc iX9_become 24 ls st h Q = tA sc iX9_become 25 ls (vI (0) :: st) h Q := tA_pure mB_X9_become dX9_become_24 rfl
theorem rX9_become_25 : tA sc iX9_become 25 ls st h Q = tA sc iX9_become 27 ls (vI (80) :: st) h Q := tA_pure mB_X9_become dX9_become_25 rfl
theorem rX9_become_27 : tA sc iX9_become 27 ls [vI p4, vI p3, vR (some a), vI p1, vR (some o)] h Q = oz (tcpy h o a p1 p3 p4) (fun h' => tA sc iX9_become 30 ls [] h' Q) := tA_cC mB_X9_become mO_X9_become dX9_become_27 cT_9_76 ⟨Nat.le_of_ble_eq_true rfl, Nat.le_of_ble_eq_true rfl, Nat.le_of_ble_eq_true rfl⟩
theorem rX9_become_30 : tA sc iX9_become 30 [l0, vR r, l2] st h Q = tA sc iX9_become 31 [l0, vR r, l2] (vR r :: st) h Q := tA_pure mB_X9_become dX9_become_30 rfl
theorem rX9_become_31 : tA sc iX9_become 31 ls (vR (some o) :: st) h Q = oz (tget h o [9] 2) (fun v => tA sc iX9_become 34 ls (v :: st) h Q) := tA_get mB_X9_become mO_X9_become dX9_become_31 fT_9_18
theorem rX9_become_34 : tA sc iX9_become 34 ls st h Q = tA sc iX9_become 35 ls (vI (0) :: st) h Q := tA_pure mB_X9_become dX9_become_34 rfl
theorem rX9_become_35 : tA sc iX9_become 35 [vR r, l1, l2] st h Q = tA sc iX9_become 36 [vR r, l1, l2] (vR r :: st) h Q := tA_pure mB_X9_become dX9_become_35 rfl
theorem rX9_become_36 : tA sc iX9_become 36 ls (vR (some o) :: st) h Q = oz (tget h o [9] 2) (fun v => tA sc iX9_become 39 ls (v :: st) h Q) := tA_get mB_X9_become mO_X9_become dX9_become_36 fT_9_18
theorem rX9_become_39 : tA sc iX9_become 39 ls st h Q = tA sc iX9_become 40 ls (vI (0) :: st) h Q := tA_pure mB_X9_become dX9_become_39 rfl
theorem rX9_become_40 : tA sc iX9_become 40 ls st h Q = tA sc iX9_become 42 ls (vI (20) :: st) h Q := tA_pure mB_X9_become dX9_become_40 rfl
theorem rX9_become_42 : tA sc iX9_become 42 ls [vI p4, vI p3, vR (some a), vI p1, vR (some o)] h Q = oz (tcpy h o a p1 p3 p4) (fun h' => tA sc iX9_become 45 ls [] h' Q) := tA_cC mB_X9_become mO_X9_become dX9_become_42 cT_9_76 ⟨Nat.le_of_ble_eq_true rfl, Nat.le_of_ble_eq_true rfl, Nat.le_of_ble_eq_true rfl⟩
theorem rX9_become_45 : tA sc iX9_become 45 [l0, vR r, l2] st h Q = tA sc iX9_become 46 [l0, vR r, l2] (vR r :: st) h Q := tA_pure mB_X9_become dX9_become_45 rfl
theorem rX9_become_46 : tA sc iX9_become 46 ls (vR (some o) :: st) h Q = oz (tget h o [9] 3) (fun v => tA sc iX9_become 49 ls (v :: st) h Q) := tA_get mB_X9_become mO_X9_become dX9_become_46 fT_9_21
theorem rX9_become_49 : tA sc iX9_become 49 ls st h Q = tA sc iX9_become 50 ls (vI (0) :: st) h Q := tA_pure mB_X9_become dX9_become_49 rfl
theorem rX9_become_50 : tA sc iX9_become 50 [vR r, l1, l2] st h Q = tA sc iX9_become 51 [vR r, l1, l2] (vR r :: st) h Q := tA_pure mB_X9_become dX9_become_50 rfl
theorem rX9_become_51 : tA sc iX9_become 51 ls (vR (some o) :: st) h Q = oz (tget h o [9] 3) (fun v => tA sc iX9_become 54 ls (v :: st) h Q) := tA_get mB_X9_become mO_X9_become dX9_become_51 fT_9_21
theorem rX9_become_54 : tA sc iX9_become 54 ls st h Q = tA sc iX9_become 55 ls (vI (0) :: st) h Q := tA_pure mB_X9_become dX9_become_54 rfl
theorem rX9_become_55 : tA sc iX9_become 55 ls st h Q = tA sc iX9_become 57 ls (vI (20) :: st) h Q := tA_pure mB_X9_become dX9_become_55 rfl
theorem rX9_become_57 : tA sc iX9_become 57 ls [vI p4, vI p3, vR (some a), vI p1, vR (some o)] h Q = oz (tcpy h o a p1 p3 p4) (fun h' => tA sc iX9_become 60 ls [] h' Q) := tA_cC mB_X9_become mO_X9_become dX9_become_57 cT_9_76 ⟨Nat.le_of_ble_eq_true rfl, Nat.le_of_ble_eq_true rfl, Nat.le_of_ble_eq_true rfl⟩
theorem rX9_become_60 : tA sc iX9_become 60 [l0, vR r, l2] st h Q = tA sc iX9_become 61 [l0, vR r, l2] (vR r :: st) h Q := tA_pure mB_X9_become dX9_become_60 rfl
theorem rX9_become_61 : tA sc iX9_become 61 ls (vR (some o) :: st) h Q = oz (tget h o [9] 4) (fun v => tA sc iX9_become 64 ls (v :: st) h Q) := tA_get mB_X9_become mO_X9_become dX9_become_61 fT_9_24
theorem rX9_become_64 : tA sc iX9_become 64 ls st h Q = tA sc iX9_become 65 ls (vI (0) :: st) h Q := tA_pure mB_X9_become dX9_become_64 rfl
theorem rX9_become_65 : tA sc iX9_become 65 [vR r, l1, l2] st h Q = tA sc iX9_become 66 [vR r, l1, l2] (vR r :: st) h Q := tA_pure mB_X9_become dX9_become_65 rfl
theorem rX9_become_66 : tA sc iX9_become 66 ls (vR (some o) :: st) h Q = oz (tget h o [9] 4) (fun v => tA sc iX9_become 69 ls (v :: st) h Q) := tA_get mB_X9_become mO_X9_become dX9_become_66 fT_9_24
theorem rX9_become_69 : tA sc iX9_become 69 ls st h Q = tA sc iX9_become 70 ls (vI (0) :: st) h Q := tA_pure mB_X9_become dX9_become_69 rfl
theorem rX9_become_70 : tA sc iX9_become 70 ls st h Q = tA sc iX9_become 72 ls (vI (20) :: st) h Q := tA_pure mB_X9_become dX9_become_70 rfl
theorem rX9_become_72 : tA sc iX9_become 72 ls [vI p4, vI p3, vR (some a), vI p1, vR (some o)] h Q = oz (tcpy h o a p1 p3 p4) (fun h' => tA sc iX9_become 75 ls [] h' Q) := tA_cC mB_X9_become mO_X9_become dX9_become_72 cT_9_76 ⟨Nat.le_of_ble_eq_true rfl, Nat.le_of_ble_eq_true rfl, Nat.le_of_ble_eq_true rfl⟩
theorem rX9_become_75 : tA sc iX9_become 75 [l0, vR r, l2] st h Q = tA sc iX9_become 76 [l0, vR r, l2] (vR r :: st) h Q := tA_pure mB_X9_become dX9_become_75 rfl
theorem rX9_become_76 : tA sc iX9_become 76 ls (vR (some o) :: st) h Q = oz (tget h o [9] 5) (fun v => tA sc iX9_become 79 ls (v :: st) h Q) := tA_get mB_X9_become mO_X9_become dX9_become_76 fT_9_35
theorem rX9_become_79 : tA sc iX9_become 79 ls st h Q = tA sc iX9_become 80 ls (vI (0) :: st) h Q := tA_pure mB_X9_become dX9_become_79 rfl
theorem rX9_become_80 : tA sc iX9_become 80 [vR r, l1, l2] st h Q = tA sc iX9_become 81 [vR r, l1, l2] (vR r :: st) h Q := tA_pure mB_X9_become dX9_become_80 rfl
theorem rX9_become_81 : tA sc iX9_become 81 ls (vR (some o) :: st) h Q = oz (tget h o [9] 5) (fun v => tA sc iX9_become 84 ls (v :: st) h Q) := tA_get mB_X9_become mO_X9_become dX9_become_81 fT_9_35
theorem rX9_become_84 : tA sc iX9_become 84 ls st h Q = tA sc iX9_become 85 ls (vI (0) :: st) h Q := tA_pure mB_X9_become dX9_become_84 rfl
theorem rX9_become_85 : tA sc iX9_become 85 ls st h Q = tA sc iX9_become 86 ls (vI (4) :: st) h Q := tA_pure mB_X9_become dX9_become_85 rfl
theorem rX9_become_86 : tA sc iX9_become 86 ls [vI p4, vI p3, vR (some a), vI p1, vR (some o)] h Q = oz (tcpy h o a p1 p3 p4) (fun h' => tA sc iX9_become 89 ls [] h' Q) := tA_cC mB_X9_become mO_X9_become dX9_become_86 cT_9_76 ⟨Nat.le_of_ble_eq_true rfl, Nat.le_of_ble_eq_true rfl, Nat.le_of_ble_eq_true rfl⟩
theorem rX9_become_89 : tA sc iX9_become 89 [vR r, l1, l2] st h Q = tA sc iX9_become 90 [vR r, l1, l2] (vR r :: st) h Q := tA_pure mB_X9_become dX9_become_89 rfl
theorem rX9_become_90 : tA sc iX9_become 90 [l0, vR r, l2] st h Q = tA sc iX9_become 91 [l0, vR r, l2] (vR r :: st) h Q := tA_pure mB_X9_become dX9_become_90 rfl
theorem rX9_become_91 : tA sc iX9_become 91 ls (vR (some o) :: st) h Q = oz (tget h o [9] 6) (fun v => tA sc iX9_become 94 ls (v :: st) h Q) := tA_get mB_X9_become mO_X9_become dX9_become_91 fT_9_67
theorem rX9_become_94 : tA sc iX9_become 94 ls (v :: vR (some o) :: st) h Q = oz (tput h o [9] 6 0 v) (fun h' => tA sc iX9_become 97 ls st h' Q) := tA_put mB_X9_become mO_X9_become dX9_become_94 fT_9_67 (Or.inl (by decide))
theorem rX9_become_97 : tA sc iX9_become 97 [vR r, l1, l2] st h Q = tA sc iX9_become 98 [vR r, l1, l2] (vR r :: st) h Q := tA_pure mB_X9_become dX9_become_97 rfl
theorem rX9_become_98 : tA sc iX9_become 98 [l0, vR r, l2] st h Q = tA sc iX9_become 99 [l0, vR r, l2] (vR r :: st) h Q := tA_pure mB_X9_become dX9_become_98 rfl
theorem rX9_become_99 : tA sc iX9_become 99 ls (vR (some o) :: st) h Q = oz (tget h o [9] 7) (fun v => tA sc iX9_become 102 ls (v :: st) h Q) := tA_get mB_X9_become mO_X9_become dX9_become_99 fT_9_38
theorem rX9_become_102 : tA sc iX9_become 102 ls (v :: vR (some o) :: st) h Q = oz (tput h o [9] 7 0 v) (fun h' => tA sc iX9_become 105 ls st h' Q) := tA_put mB_X9_become mO_X9_become dX9_become_102 fT_9_38 (Or.inl (by decide))
theorem rX9_become_105 : tA sc iX9_become 105 ls st h Q = tA sc iX9_become 106 ls (vI (0) :: st) h Q := tA_pure mB_X9_become dX9_become_105 rfl
theorem rX9_become_106 : tA sc iX9_become 106 [l0, l1, l2] (vI x :: st) h Q = tA sc iX9_become 107 [l0, tclr l1, vI x] st h Q := tA_pure mB_X9_become dX9_become_106 rfl
theorem rX9_become_107 : tA sc iX9_become 107 [l0, l1, vI x] st h Q = tA sc iX9_become 108 [l0, l1, vI x] (vI x :: st) h Q := tA_pure mB_X9_become dX9_become_107 rfl
theorem rX9_become_108 : tA sc iX9_become 108 ls st h Q = tA sc iX9_become 109 ls (vI (5) :: st) h Q := tA_pure mB_X9_become dX9_become_108 rfl
theorem rX9_become_109 : tA sc iX9_become 109 ls (vI y :: vI x :: st) h Q = (if y ≤ x then tA sc iX9_become 130 ls st h Q else tA sc iX9_become 112 ls st h Q) := tA_if mB_X9_become dX9_become_109 (fun _ _ _ _ => rfl) rfl
theorem rX9_become_112 : tA sc iX9_become 112 [vR r, l1, l2] st h Q = tA sc iX9_become 113 [vR r, l1, l2] (vR r :: st) h Q := tA_pure mB_X9_become dX9_become_112 rfl
theorem rX9_become_113 : tA sc iX9_become 113 ls (vR (some o) :: st) h Q = oz (tget h o [9] 8) (fun v => tA sc iX9_become 116 ls (v :: st) h Q) := tA_get mB_X9_become mO_X9_become dX9_become_113 fT_9_44
theorem rX9_become_116 : tA sc iX9_become 116 [l0, l1, vI x] st h Q = tA sc iX9_become 117 [l0, l1, vI x] (vI x :: st) h Q := tA_pure mB_X9_become dX9_become_116 rfl
theorem rX9_become_117 : tA sc iX9_become 117 [l0, vR r, l2] st h Q = tA sc iX9_become 118 [l0, vR r, l2] (vR r :: st) h Q := tA_pure mB_X9_become dX9_become_117 rfl
theorem rX9_become_118 : tA sc iX9_become 118 ls (vR (some o) :: st) h Q = oz (tget h o [9] 8) (fun v => tA sc iX9_become 121 ls (v :: st) h Q) := tA_get mB_X9_become mO_X9_become dX9_become_118 fT_9_44
theorem rX9_become_121 : tA sc iX9_become 121 [l0, l1, vI x] st h Q = tA sc iX9_become 122 [l0, l1, vI x] (vI x :: st) h Q := tA_pure mB_X9_become dX9_become_121 rfl
theorem rX9_become_122 : tA sc iX9_become 122 ls (vI j :: vR (some a) :: st) h Q = oz (tldr h a j) (fun v => tA sc iX9_become 123 ls (vR v :: st) h Q) := tA_aald mB_X9_become dX9_become_122
theorem rX9_become_123 : tA sc iX9_become 123 ls (vR r :: vI j :: vR (some a) :: st) h Q = oz (tasr h a j r) (fun h' => tA sc iX9_become 124 ls st h' Q) := tA_aast mB_X9_become dX9_become_123
theorem rX9_become_124 : tA sc iX9_become 124 [l0, l1, vI x] st h Q = tA sc iX9_become 127 [l0, tclr l1, vI (x + 1)] st h Q := tA_pure mB_X9_become dX9_become_124 rfl
theorem rX9_become_127 : tA sc iX9_become 127 ls st h Q = tA sc iX9_become 107 ls st h Q := tA_jump mB_X9_become dX9_become_127 (fun _ _ _ _ => rfl) rfl
theorem rX9_become_130 : tA sc iX9_become 130 [l0, vR r, l2] st h Q = tA sc iX9_become 131 [l0, vR r, l2] (vR r :: st) h Q := tA_pure mB_X9_become dX9_become_130 rfl
theorem rX9_become_131 : tA sc iX9_become 131 ls (vR (some o) :: st) h Q = oz (tget h o [9] 9) (fun v => tA sc iX9_become 134 ls (v :: st) h Q) := tA_get mB_X9_become mO_X9_become dX9_become_131 fT_9_48
theorem rX9_become_134 : tA sc iX9_become 134 ls st h Q = tA sc iX9_become 135 ls (vI (0) :: st) h Q := tA_pure mB_X9_become dX9_become_134 rfl
theorem rX9_become_135 : tA sc iX9_become 135 [vR r, l1, l2] st h Q = tA sc iX9_become 136 [vR r, l1, l2] (vR r :: st) h Q := tA_pure mB_X9_become dX9_become_135 rfl
theorem rX9_become_136 : tA sc iX9_become 136 ls (vR (some o) :: st) h Q = oz (tget h o [9] 9) (fun v => tA sc iX9_become 139 ls (v :: st) h Q) := tA_get mB_X9_become mO_X9_become dX9_become_136 fT_9_48
theorem rX9_become_139 : tA sc iX9_become 139 ls st h Q = tA sc iX9_become 140 ls (vI (0) :: st) h Q := tA_pure mB_X9_become dX9_become_139 rfl
theorem rX9_become_140 : tA sc iX9_become 140 ls st h Q = tA sc iX9_become 141 ls (vI (5) :: st) h Q := tA_pure mB_X9_become dX9_become_140 rfl
theorem rX9_become_141 : tA sc iX9_become 141 ls [vI p4, vI p3, vR (some a), vI p1, vR (some o)] h Q = oz (tcpy h o a p1 p3 p4) (fun h' => tA sc iX9_become 144 ls [] h' Q) := tA_cC mB_X9_become mO_X9_become dX9_become_141 cT_9_76 ⟨Nat.le_of_ble_eq_true rfl, Nat.le_of_ble_eq_true rfl, Nat.le_of_ble_eq_true rfl⟩
theorem rX9_become_144 : tA sc iX9_become 144 [vR r, l1, l2] st h Q = tA sc iX9_become 145 [vR r, l1, l2] (vR r :: st) h Q := tA_pure mB_X9_become dX9_become_144 rfl
theorem rX9_become_145 : tA sc iX9_become 145 [l0, vR r, l2] st h Q = tA sc iX9_become 146 [l0, vR r, l2] (vR r :: st) h Q := tA_pure mB_X9_become dX9_become_145 rfl
theorem rX9_become_146 : tA sc iX9_become 146 ls (vR (some o) :: st) h Q = oz (tget h o [9] 10) (fun v => tA sc iX9_become 149 ls (v :: st) h Q) := tA_get mB_X9_become mO_X9_become dX9_become_146 fT_9_70
theorem rX9_become_149 : tA sc iX9_become 149 ls (v :: vR (some o) :: st) h Q = oz (tput h o [9] 10 0 v) (fun h' => tA sc iX9_become 152 ls st h' Q) := tA_put mB_X9_become mO_X9_become dX9_become_149 fT_9_70 (Or.inl (by decide))
theorem rX9_become_152 : tA sc iX9_become 152 [l0, vR r, l2] st h Q = tA sc iX9_become 153 [l0, vR r, l2] (vR r :: st) h Q := tA_pure mB_X9_become dX9_become_152 rfl
theorem rX9_become_153 : tA sc iX9_become 153 ls (vR (some o) :: st) h Q = oz (tget h o [9] 11) (fun v => tA sc iX9_become 156 ls (v :: st) h Q) := tA_get mB_X9_become mO_X9_become dX9_become_153 fT_9_51
theorem rX9_become_156 : tA sc iX9_become 156 ls st h Q = tA sc iX9_become 157 ls (vI (0) :: st) h Q := tA_pure mB_X9_become dX9_become_156 rfl
theorem rX9_become_157 : tA sc iX9_become 157 [vR r, l1, l2] st h Q = tA sc iX9_become 158 [vR r, l1, l2] (vR r :: st) h Q := tA_pure mB_X9_become dX9_become_157 rfl
theorem rX9_become_158 : tA sc iX9_become 158 ls (vR (some o) :: st) h Q = oz (tget h o [9] 11) (fun v => tA sc iX9_become 161 ls (v :: st) h Q) := tA_get mB_X9_become mO_X9_become dX9_become_158 fT_9_51
theorem rX9_become_161 : tA sc iX9_become 161 ls st h Q = tA sc iX9_become 162 ls (vI (0) :: st) h Q := tA_pure mB_X9_become dX9_become_161 rfl
theorem rX9_become_162 : tA sc iX9_become 162 ls st h Q = tA sc iX9_become 164 ls (vI (40) :: st) h Q := tA_pure mB_X9_become dX9_become_162 rfl
theorem rX9_become_164 : tA sc iX9_become 164 ls [vI p4, vI p3, vR (some a), vI p1, vR (some o)] h Q = oz (tcpy h o a p1 p3 p4) (fun h' => tA sc iX9_become 167 ls [] h' Q) := tA_cC mB_X9_become mO_X9_become dX9_become_164 cT_9_76 ⟨Nat.le_of_ble_eq_true rfl, Nat.le_of_ble_eq_true rfl, Nat.le_of_ble_eq_true rfl⟩
theorem rX9_become_167 : tA sc iX9_become 167 [l0, vR r, l2] st h Q = tA sc iX9_become 168 [l0, vR r, l2] (vR r :: st) h Q := tA_pure mB_X9_become dX9_become_167 rfl
theorem rX9_become_168 : tA sc iX9_become 168 ls (vR (some o) :: st) h Q = oz (tget h o [9] 12) (fun v => tA sc iX9_become 171 ls (v :: st) h Q) := tA_get mB_X9_become mO_X9_become dX9_become_168 fT_9_54
theorem rX9_become_171 : tA sc iX9_become 171 ls st h Q = tA sc iX9_become 172 ls (vI (0) :: st) h Q := tA_pure mB_X9_become dX9_become_171 rfl
theorem rX9_become_172 : tA sc iX9_become 172 [vR r, l1, l2] st h Q = tA sc iX9_become 173 [vR r, l1, l2] (vR r :: st) h Q := tA_pure mB_X9_become dX9_become_172 rfl
theorem rX9_become_173 : tA sc iX9_become 173 ls (vR (some o) :: st) h Q = oz (tget h o [9] 12) (fun v => tA sc iX9_become 176 ls (v :: st) h Q) := tA_get mB_X9_become mO_X9_become dX9_become_173 fT_9_54
theorem rX9_become_176 : tA sc iX9_become 176 ls st h Q = tA sc iX9_become 177 ls (vI (0) :: st) h Q := tA_pure mB_X9_become dX9_become_176 rfl
theorem rX9_become_177 : tA sc iX9_become 177 ls st h Q = tA sc iX9_become 179 ls (vI (40) :: st) h Q := tA_pure mB_X9_become dX9_become_177 rfl
theorem rX9_become_179 : tA sc iX9_become 179 ls [vI p4, vI p3, vR (some a), vI p1, vR (some o)] h Q = oz (tcpy h o a p1 p3 p4) (fun h' => tA sc iX9_become 182 ls [] h' Q) := tA_cC mB_X9_become mO_X9_become dX9_become_179 cT_9_76 ⟨Nat.le_of_ble_eq_true rfl, Nat.le_of_ble_eq_true rfl, Nat.le_of_ble_eq_true rfl⟩
theorem rX9_become_182 : tA sc iX9_become 182 [l0, vR r, l2] st h Q = tA sc iX9_become 183 [l0, vR r, l2] (vR r :: st) h Q := tA_pure mB_X9_become dX9_become_182 rfl
theorem rX9_become_183 : tA sc iX9_become 183 ls (vR (some o) :: st) h Q = oz (tget h o [9] 13) (fun v => tA sc iX9_become 186 ls (v :: st) h Q) := tA_get mB_X9_become mO_X9_become dX9_become_183 fT_9_57
theorem rX9_become_186 : tA sc iX9_become 186 ls st h Q = tA sc iX9_become 187 ls (vI (0) :: st) h Q := tA_pure mB_X9_become dX9_become_186 rfl
theorem rX9_become_187 : tA sc iX9_become 187 [vR r, l1, l2] st h Q = tA sc iX9_become 188 [vR r, l1, l2] (vR r :: st) h Q := tA_pure mB_X9_become dX9_become_187 rfl
theorem rX9_become_188 : tA sc iX9_become 188 ls (vR (some o) :: st) h Q = oz (tget h o [9] 13) (fun v => tA sc iX9_become 191 ls (v :: st) h Q) := tA_get mB_X9_become mO_X9_become dX9_become_188 fT_9_57
theorem rX9_become_191 : tA sc iX9_become 191 ls st h Q = tA sc iX9_become 192 ls (vI (0) :: st) h Q := tA_pure mB_X9_become dX9_become_191 rfl
theorem rX9_become_192 : tA sc iX9_become 192 ls st h Q = tA sc iX9_become 194 ls (vI (40) :: st) h Q := tA_pure mB_X9_become dX9_become_192 rfl
theorem rX9_become_194 : tA sc iX9_become 194 ls [vI p4, vI p3, vR (some a), vI p1, vR (some o)] h Q = oz (tcpy h o a p1 p3 p4) (fun h' => tA sc iX9_become 197 ls [] h' Q) := tA_cC mB_X9_become mO_X9_become dX9_become_194 cT_9_76 ⟨Nat.le_of_ble_eq_true rfl, Nat.le_of_ble_eq_true rfl, Nat.le_of_ble_eq_true rfl⟩
theorem rX9_become_197 : tA sc iX9_become 197 [vR r, l1, l2] st h Q = tA sc iX9_become 198 [vR r, l1, l2] (vR r :: st) h Q := tA_pure mB_X9_become dX9_become_197 rfl
theorem rX9_become_198 : tA sc iX9_become 198 [l0, vR r, l2] st h Q = tA sc iX9_become 199 [l0, vR r, l2] (vR r :: st) h Q := tA_pure mB_X9_become dX9_become_198 rfl
theorem rX9_become_199 : tA sc iX9_become 199 ls (vR (some o) :: st) h Q = oz (tget h o [9] 14) (fun v => tA sc iX9_become 202 ls (v :: st) h Q) := tA_get mB_X9_become mO_X9_become dX9_become_199 fT_9_73
theorem rX9_become_202 : tA sc iX9_become 202 ls (v :: vR (some o) :: st) h Q = oz (tput h o [9] 14 0 v) (fun h' => tA sc iX9_become 205 ls st h' Q) := tA_put mB_X9_become mO_X9_become dX9_become_202 fT_9_73 (Or.inl (by decide))
theorem rX9_become_205 : tA sc iX9_become 205 ls [] h Q = Q (none) h := tA_ret mB_X9_become dX9_become_205 (fun _ _ _ _ => rfl) (fun _ _ _ => rfl) (fun _ _ _ _ _ => rfl) rfl rfl
theorem mB_X9_isOver : mB iX9_isOver = cX9_isOver := rfl
theorem mO_X9_isOver : mO iX9_isOver = 9 := rfl
theorem rX9_isOver_0 : tA sc iX9_isOver 0 [l0, vI x] st h Q = tA sc iX9_isOver 1 [l0, vI x] (vI x :: st) h Q := tA_pure mB_X9_isOver dX9_isOver_0 rfl
theorem rX9_isOver_1 : tA sc iX9_isOver 1 [vR r, l1] st h Q = tA sc iX9_isOver 2 [vR r, l1] (vR r :: st) h Q := tA_pure mB_X9_isOver dX9_isOver_1 rfl
theorem rX9_isOver_2 : tA sc iX9_isOver 2 ls (vR (some o) :: st) h Q = oz (tget h o [9] 6) (fun v => tA sc iX9_isOver 5 ls (v :: st) h Q) := tA_get mB_X9_isOver mO_X9_isOver dX9_isOver_2 fT_9_67
theorem rX9_isOver_5 : tA sc iX9_isOver 5 ls (vI y :: vI x :: st) h Q = (if y ≤ x then tA sc iX9_isOver 12 ls st h Q else tA sc iX9_isOver 8 ls st h Q) := tA_if mB_X9_isOver dX9_isOver_5 (fun _ _ _ _ => rfl) rfl
theorem rX9_isOver_8 : tA sc iX9_isOver 8 ls st h Q = tA sc iX9_isOver 9 ls (vI (1) :: st) h Q := tA_pure mB_X9_isOver dX9_isOver_8 rfl
theorem rX9_isOver_9 : tA sc iX9_isOver 9 ls st h Q = tA sc iX9_isOver 13 ls st h Q := tA_jump mB_X9_isOver dX9_isOver_9 (fun _ _ _ _ => rfl) rfl
theorem rX9_isOver_12 : tA sc iX9_isOver 12 ls st h Q = tA sc iX9_isOver 13 ls (vI (0) :: st) h Q := tA_pure mB_X9_isOver dX9_isOver_12 rfl
theorem rX9_isOver_13 : tA sc iX9_isOver 13 ls [vI x] h Q = ((x = 0 ∨ x = 1) ∧ Q (some (vI x)) h) := tA_retz mB_X9_isOver dX9_isOver_13 rfl
theorem mB_X9_weightWith : mB iX9_weightWith = cX9_weightWith := rfl
theorem mO_X9_weightWith : mO iX9_weightWith = 9 := rfl
theorem rX9_weightWith_0 : tA sc iX9_weightWith 0 [vR r, l1, l2, l3, l4] st h Q = tA sc iX9_weightWith 1 [vR r, l1, l2, l3, l4] (vR r :: st) h Q := tA_pure mB_X9_weightWith dX9_weightWith_0 rfl
theorem rX9_weightWith_1 : tA sc iX9_weightWith 1 ls (vR (some o) :: st) h Q = oz (tget h o [9] 1) (fun v => tA sc iX9_weightWith 4 ls (v :: st) h Q) := tA_get mB_X9_weightWith mO_X9_weightWith dX9_weightWith_1 fT_9_15
theorem rX9_weightWith_4 : tA sc iX9_weightWith 4 [l0, vI x, l2, l3, l4] st h Q = tA sc iX9_weightWith 5 [l0, vI x, l2, l3, l4] (vI x :: st) h Q := tA_pure mB_X9_weightWith dX9_weightWith_4 rfl
theorem rX9_weightWith_5 : tA sc iX9_weightWith 5 ls st h Q = tA sc iX9_weightWith 6 ls (vI (4) :: st) h Q := tA_pure mB_X9_weightWith dX9_weightWith_5 rfl
theorem rX9_weightWith_6 : tA sc iX9_weightWith 6 ls (vI y :: vI x :: st) h Q = tA sc iX9_weightWith 7 ls (vI (x * y) :: st) h Q := tA_pure mB_X9_weightWith dX9_weightWith_6 rfl
theorem rX9_weightWith_7 : tA sc iX9_weightWith 7 [l0, l1, vI x, l3, l4] st h Q = tA sc iX9_weightWith 8 [l0, l1, vI x, l3, l4] (vI x :: st) h Q := tA_pure mB_X9_weightWith dX9_weightWith_7 rfl
theorem rX9_weightWith_8 : tA sc iX9_weightWith 8 ls (vI y :: vI x :: st) h Q = tA sc iX9_weightWith 9 ls (vI (x + y) :: st) h Q := tA_pure mB_X9_weightWith dX9_weightWith_8 rfl
theorem rX9_weightWith_9 : tA sc iX9_weightWith 9 ls (vI j :: vR (some a) :: st) h Q = oz (tald sc h 0 a j) (fun v => tA sc iX9_weightWith 10 ls (vI v :: st) h Q) := tA_iald mB_X9_weightWith dX9_weightWith_9
theorem rX9_weightWith_10 : tA sc iX9_weightWith 10 [l0, l1, l2, l3, l4] (vI x :: st) h Q = tA sc iX9_weightWith 12 [l0, l1, l2, tclr l3, vI x] st h Q := tA_pure mB_X9_weightWith dX9_weightWith_10 rfl
theorem rX9_weightWith_12 : tA sc iX9_weightWith 12 [l0, l1, vI x, l3, l4] st h Q = tA sc iX9_weightWith 13 [l0, l1, vI x, l3, l4] (vI x :: st) h Q := tA_pure mB_X9_weightWith dX9_weightWith_12 rfl
theorem rX9_weightWith_13 : tA sc iX9_weightWith 13 [l0, l1, l2, vI x, l4] st h Q = tA sc iX9_weightWith 14 [l0, l1, l2, vI x, l4] (vI x :: st) h Q := tA_pure mB_X9_weightWith dX9_weightWith_13 rfl
theorem rX9_weightWith_14 : tA sc iX9_weightWith 14 ls (vI y :: vI x :: st) h Q = (if ¬ x = y then tA sc iX9_weightWith 29 ls st h Q else tA sc iX9_weightWith 17 ls st h Q) := tA_if mB_X9_weightWith dX9_weightWith_14 (fun _ _ _ _ => rfl) rfl
theorem rX9_weightWith_17 : tA sc iX9_weightWith 17 [l0, l1, l2, l3, vI x] st h Q = tA sc iX9_weightWith 19 [l0, l1, l2, l3, vI x] (vI x :: st) h Q := tA_pure mB_X9_weightWith dX9_weightWith_17 rfl
theorem rX9_weightWith_19 : tA sc iX9_weightWith 19 [vR r, l1, l2, l3, l4] st h Q = tA sc iX9_weightWith 20 [vR r, l1, l2, l3, l4] (vR r :: st) h Q := tA_pure mB_X9_weightWith dX9_weightWith_19 rfl
theorem rX9_weightWith_20 : tA sc iX9_weightWith 20 ls (vR (some o) :: st) h Q = oz (tget h o [9] 5) (fun v => tA sc iX9_weightWith 23 ls (v :: st) h Q) := tA_get mB_X9_weightWith mO_X9_weightWith dX9_weightWith_20 fT_9_35
theorem rX9_weightWith_23 : tA sc iX9_weightWith 23 ls st h Q = tA sc iX9_weightWith 24 ls (vI (3) :: st) h Q := tA_pure mB_X9_weightWith dX9_weightWith_23 rfl
theorem rX9_weightWith_24 : tA sc iX9_weightWith 24 ls (vI j :: vR (some a) :: st) h Q = oz (tald sc h 0 a j) (fun v => tA sc iX9_weightWith 25 ls (vI v :: st) h Q) := tA_iald mB_X9_weightWith dX9_weightWith_24
theorem rX9_weightWith_25 : tA sc iX9_weightWith 25 ls (vI y :: vI x :: st) h Q = tA sc iX9_weightWith 26 ls (vI (x + y) :: st) h Q := tA_pure mB_X9_weightWith dX9_weightWith_25 rfl
theorem rX9_weightWith_26 : tA sc iX9_weightWith 26 ls st h Q = tA sc iX9_weightWith 31 ls st h Q := tA_jump mB_X9_weightWith dX9_weightWith_26 (fun _ _ _ _ => rfl) rfl
theorem rX9_weightWith_29 : tA sc iX9_weightWith 29 [l0, l1, l2, l3, vI x] st h Q = tA sc iX9_weightWith 31 [l0, l1, l2, l3, vI x] (vI x :: st) h Q := tA_pure mB_X9_weightWith dX9_weightWith_29 rfl
theorem rX9_weightWith_31 : tA sc iX9_weightWith 31 ls [vI x] h Q = Q (some (vI x)) h := tA_ret mB_X9_weightWith dX9_weightWith_31 (fun _ _ _ _ => rfl) (fun _ _ _ => rfl) (fun _ _ _ _ _ => rfl) rfl rfl
theorem mB_X9_allWith : mB iX9_allWith = cX9_allWith := rfl
theorem mO_X9_allWith : mO iX9_allWith = 9 := rfl
theorem rX9_allWith_0 : tA sc iX9_allWith 0 ls st h Q = tA sc iX9_allWith 1 ls (vI (0) :: st) h Q := tA_pure mB_X9_allWith dX9_allWith_0 rfl
theorem rX9_allWith_1 : tA sc iX9_allWith 1 [l0, l1, l2, l3, l4] (vI x :: st) h Q = tA sc iX9_allWith 2 [l0, l1, tclr l2, vI x, l4] st h Q := tA_pure mB_X9_allWith dX9_allWith_1 rfl
theorem rX9_allWith_2 : tA sc iX9_allWith 2 ls st h Q = tA sc iX9_allWith 3 ls (vI (0) :: st) h Q := tA_pure mB_X9_allWith dX9_allWith_2 rfl
theorem rX9_allWith_3 : tA sc iX9_allWith 3 [l0, l1, l2, l3, l4] (vI x :: st) h Q = tA sc iX9_allWith 5 [l0, l1, l2, tclr l3, vI x] st h Q := tA_pure mB_X9_allWith dX9_allWith_3 rfl
theorem rX9_allWith_5 : tA sc iX9_allWith 5 [l0, l1, l2, l3, vI x] st h Q = tA sc iX9_allWith 7 [l0, l1, l2, l3, vI x] (vI x :: st) h Q := tA_pure mB_X9_allWith dX9_allWith_5 rfl
theorem rX9_allWith_7 : tA sc iX9_allWith 7 ls st h Q = tA sc iX9_allWith 8 ls (vI (4) :: st) h Q := tA_pure mB_X9_allWith dX9_allWith_7 rfl
theorem rX9_allWith_8 : tA sc iX9_allWith 8 ls (vI y :: vI x :: st) h Q = (if y ≤ x then tA sc iX9_allWith 28 ls st h Q else tA sc iX9_allWith 11 ls st h Q) := tA_if mB_X9_allWith dX9_allWith_8 (fun _ _ _ _ => rfl) rfl
theorem rX9_allWith_11 : tA sc iX9_allWith 11 [l0, l1, l2, vI x, l4] st h Q = tA sc iX9_allWith 12 [l0, l1, l2, vI x, l4] (vI x :: st) h Q := tA_pure mB_X9_allWith dX9_allWith_11 rfl
theorem rX9_allWith_12 : tA sc iX9_allWith 12 [vR r, l1, l2, l3, l4] st h Q = tA sc iX9_allWith 13 [vR r, l1, l2, l3, l4] (vR r :: st) h Q := tA_pure mB_X9_allWith dX9_allWith_12 rfl
theorem rX9_allWith_13 : tA sc iX9_allWith 13 [l0, vI x, l2, l3, l4] st h Q = tA sc iX9_allWith 14 [l0, vI x, l2, l3, l4] (vI x :: st) h Q := tA_pure mB_X9_allWith dX9_allWith_13 rfl
theorem rX9_allWith_14 : tA sc iX9_allWith 14 [l0, l1, l2, l3, vI x] st h Q = tA sc iX9_allWith 16 [l0, l1, l2, l3, vI x] (vI x :: st) h Q := tA_pure mB_X9_allWith dX9_allWith_14 rfl
theorem rX9_allWith_16 : tA sc iX9_allWith 16 [l0, l1, vI x, l3, l4] st h Q = tA sc iX9_allWith 17 [l0, l1, vI x, l3, l4] (vI x :: st) h Q := tA_pure mB_X9_allWith dX9_allWith_16 rfl
theorem rX9_allWith_17 (hci : tcl h o = some 9) : tA sc iX9_allWith 17 ls [vI p2, vI p1, vI p0, vR (some o), s0] h Q = tA sc iX9_weightWith 0 [vR (some o), vI p0, vI p1, vI p2, vU] [] h (fun v h1 => tA sc iX9_allWith 20 ls (tpu v [s0]) h1 Q) := tA_cV mB_X9_allWith mO_X9_allWith dX9_allWith_17 cT_9_82 rfl (Nat.le_of_ble_eq_true rfl) rfl rfl rfl hci
theorem rX9_allWith_20 : tA sc iX9_allWith 20 ls (vI y :: vI x :: st) h Q = tA sc iX9_allWith 21 ls (vI (x + y) :: st) h Q := tA_pure mB_X9_allWith dX9_allWith_20 rfl
theorem rX9_allWith_21 : tA sc iX9_allWith 21 [l0, l1, l2, l3, l4] (vI x :: st) h Q = tA sc iX9_allWith 22 [l0, l1, tclr l2, vI x, l4] st h Q := tA_pure mB_X9_allWith dX9_allWith_21 rfl
theorem rX9_allWith_22 : tA sc iX9_allWith 22 [l0, l1, l2, l3, vI x] st h Q = tA sc iX9_allWith 25 [l0, l1, l2, tclr l3, vI (x + 1)] st h Q := tA_pure mB_X9_allWith dX9_allWith_22 rfl
theorem rX9_allWith_25 : tA sc iX9_allWith 25 ls st h Q = tA sc iX9_allWith 5 ls st h Q := tA_jump mB_X9_allWith dX9_allWith_25 (fun _ _ _ _ => rfl) rfl
theorem rX9_allWith_28 : tA sc iX9_allWith 28 [l0, l1, l2, vI x, l4] st h Q = tA sc iX9_allWith 29 [l0, l1, l2, vI x, l4] (vI x :: st) h Q := tA_pure mB_X9_allWith dX9_allWith_28 rfl
theorem rX9_allWith_29 : tA sc iX9_allWith 29 ls [vI x] h Q = Q (some (vI x)) h := tA_ret mB_X9_allWith dX9_allWith_29 (fun _ _ _ _ => rfl) (fun _ _ _ => rfl) (fun _ _ _ _ _ => rfl) rfl rfl
theorem mB_X9_weightOf : mB iX9_weightOf = cX9_weightOf := rfl
theorem mO_X9_weightOf : mO iX9_weightOf = 9 := rfl
theorem rX9_weightOf_0 : tA sc iX9_weightOf 0 [vR r, l1, l2] st h Q = tA sc iX9_weightOf 1 [vR r, l1, l2] (vR r :: st) h Q := tA_pure mB_X9_weightOf dX9_weightOf_0 rfl
theorem rX9_weightOf_1 : tA sc iX9_weightOf 1 [l0, vI x, l2] st h Q = tA sc iX9_weightOf 2 [l0, vI x, l2] (vI x :: st) h Q := tA_pure mB_X9_weightOf dX9_weightOf_1 rfl
theorem rX9_weightOf_2 : tA sc iX9_weightOf 2 [l0, l1, vI x] st h Q = tA sc iX9_weightOf 3 [l0, l1, vI x] (vI x :: st) h Q := tA_pure mB_X9_weightOf dX9_weightOf_2 rfl
theorem rX9_weightOf_3 : tA sc iX9_weightOf 3 [vR r, l1, l2] st h Q = tA sc iX9_weightOf 4 [vR r, l1, l2] (vR r :: st) h Q := tA_pure mB_X9_weightOf dX9_weightOf_3 rfl
theorem rX9_weightOf_4 : tA sc iX9_weightOf 4 ls (vR (some o) :: st) h Q = oz (tget h o [9] 2) (fun v => tA sc iX9_weightOf 7 ls (v :: st) h Q) := tA_get mB_X9_weightOf mO_X9_weightOf dX9_weightOf_4 fT_9_18
theorem rX9_weightOf_7 : tA sc iX9_weightOf 7 [l0, vI x, l2] st h Q = tA sc iX9_weightOf 8 [l0, vI x, l2] (vI x :: st) h Q := tA_pure mB_X9_weightOf dX9_weightOf_7 rfl
theorem rX9_weightOf_8 : tA sc iX9_weightOf 8 ls (vI j :: vR (some a) :: st) h Q = oz (tald sc h 0 a j) (fun v => tA sc iX9_weightOf 9 ls (vI v :: st) h Q) := tA_iald mB_X9_weightOf dX9_weightOf_8
theorem rX9_weightOf_9 (hci : tcl h o = some 9) : tA sc iX9_weightOf 9 ls [vI p2, vI p1, vI p0, vR (some o)] h Q = tA sc iX9_weightWith 0 [vR (some o), vI p0, vI p1, vI p2, vU] [] h (fun v h1 => tA sc iX9_weightOf 12 ls (tpu v []) h1 Q) := tA_cV mB_X9_weightOf mO_X9_weightOf dX9_weightOf_9 cT_9_82 rfl (Nat.le_of_ble_eq_true rfl) rfl rfl rfl hci
theorem rX9_weightOf_12 : tA sc iX9_weightOf 12 ls [vI x] h Q = Q (some (vI x)) h := tA_ret mB_X9_weightOf dX9_weightOf_12 (fun _ _ _ _ => rfl) (fun _ _ _ => rfl) (fun _ _ _ _ _ => rfl) rfl rfl
theorem mB_X9_allOf : mB iX9_allOf = cX9_allOf := rfl
theorem mO_X9_allOf : mO iX9_allOf = 9 := rfl
theorem rX9_allOf_0 : tA sc iX9_allOf 0 [vR r, l1] st h Q = tA sc iX9_allOf 1 [vR r, l1] (vR r :: st) h Q := tA_pure mB_X9_allOf dX9_allOf_0 rfl
theorem rX9_allOf_1 : tA sc iX9_allOf 1 [l0, vI x] st h Q = tA sc iX9_allOf 2 [l0, vI x] (vI x :: st) h Q := tA_pure mB_X9_allOf dX9_allOf_1 rfl
theorem rX9_allOf_2 : tA sc iX9_allOf 2 [vR r, l1] st h Q = tA sc iX9_allOf 3 [vR r, l1] (vR r :: st) h Q := tA_pure mB_X9_allOf dX9_allOf_2 rfl
theorem rX9_allOf_3 : tA sc iX9_allOf 3 ls (vR (some o) :: st) h Q = oz (tget h o [9] 2) (fun v => tA sc iX9_allOf 6 ls (v :: st) h Q) := tA_get mB_X9_allOf mO_X9_allOf dX9_allOf_3 fT_9_18
theorem rX9_allOf_6 : tA sc iX9_allOf 6 [l0, vI x] st h Q = tA sc iX9_allOf 7 [l0, vI x] (vI x :: st) h Q := tA_pure mB_X9_allOf dX9_allOf_6 rfl
theorem rX9_allOf_7 : tA sc iX9_allOf 7 ls (vI j :: vR (some a) :: st) h Q = oz (tald sc h 0 a j) (fun v => tA sc iX9_allOf 8 ls (vI v :: st) h Q) := tA_iald mB_X9_allOf dX9_allOf_7
theorem rX9_allOf_8 (hci : tcl h o = some 9) : tA sc iX9_allOf 8 ls [vI p1, vI p0, vR (some o)] h Q = tA sc iX9_allWith 0 [vR (some o), vI p0, vI p1, vU, vU] [] h (fun v h1 => tA sc iX9_allOf 11 ls (tpu v []) h1 Q) := tA_cV mB_X9_allOf mO_X9_allOf dX9_allOf_8 cT_9_86 rfl (Nat.le_of_ble_eq_true rfl) rfl rfl rfl hci
theorem rX9_allOf_11 : tA sc iX9_allOf 11 ls [vI x] h Q = Q (some (vI x)) h := tA_ret mB_X9_allOf dX9_allOf_11 (fun _ _ _ _ => rfl) (fun _ _ _ => rfl) (fun _ _ _ _ _ => rfl) rfl rfl
theorem mB_X9_earn : mB iX9_earn = cX9_earn := rfl
theorem mO_X9_earn : mO iX9_earn = 9 := rfl
theorem rX9_earn_0 : tA sc iX9_earn 0 [vR r, l1] st h Q = tA sc iX9_earn 1 [vR r, l1] (vR r :: st) h Q := tA_pure mB_X9_earn dX9_earn_0 rfl
theorem rX9_earn_1 : tA sc iX9_earn 1 ls (vR (some o) :: st) h Q = oz (tget h o [9] 0) (fun v => tA sc iX9_earn 4 ls (v :: st) h Q) := tA_get mB_X9_earn mO_X9_earn dX9_earn_1 fT_9_9
theorem rX9_earn_4 : tA sc iX9_earn 4 [l0, vI x] st h Q = tA sc iX9_earn 5 [l0, vI x] (vI x :: st) h Q := tA_pure mB_X9_earn dX9_earn_4 rfl
theorem rX9_earn_5 : tA sc iX9_earn 5 ls (vI j :: vR (some a) :: st) h Q = oz (tald sc h 0 a j) (fun v => tA sc iX9_earn 6 ls (vI v :: st) h Q) := tA_iald mB_X9_earn dX9_earn_5
theorem rX9_earn_6 : tA sc iX9_earn 6 [vR r, l1] st h Q = tA sc iX9_earn 7 [vR r, l1] (vR r :: st) h Q := tA_pure mB_X9_earn dX9_earn_6 rfl
theorem rX9_earn_7 : tA sc iX9_earn 7 ls (vR (some o) :: st) h Q = oz (tget h o [9] 5) (fun v => tA sc iX9_earn 10 ls (v :: st) h Q) := tA_get mB_X9_earn mO_X9_earn dX9_earn_7 fT_9_35
theorem rX9_earn_10 : tA sc iX9_earn 10 ls st h Q = tA sc iX9_earn 11 ls (vI (0) :: st) h Q := tA_pure mB_X9_earn dX9_earn_10 rfl
theorem rX9_earn_11 : tA sc iX9_earn 11 ls (vI j :: vR (some a) :: st) h Q = oz (tald sc h 0 a j) (fun v => tA sc iX9_earn 12 ls (vI v :: st) h Q) := tA_iald mB_X9_earn dX9_earn_11
theorem rX9_earn_12 : tA sc iX9_earn 12 ls (vI y :: vI x :: st) h Q = tA sc iX9_earn 13 ls (vI (x * y) :: st) h Q := tA_pure mB_X9_earn dX9_earn_12 rfl
theorem rX9_earn_13 : tA sc iX9_earn 13 ls st h Q = tA sc iX9_earn 15 ls (vI (100) :: st) h Q := tA_pure mB_X9_earn dX9_earn_13 rfl
theorem rX9_earn_15 : tA sc iX9_earn 15 ls (vI y :: vI x :: st) h Q = (¬ y = 0 ∧ tA sc iX9_earn 16 ls (vI (x / y) :: st) h Q) := tA_div mB_X9_earn dX9_earn_15 (fun _ _ _ => rfl) (fun _ _ _ _ _ => rfl) rfl (fun _ _ => rfl) rfl
theorem rX9_earn_16 : tA sc iX9_earn 16 ls [vI x] h Q = Q (some (vI x)) h := tA_ret mB_X9_earn dX9_earn_16 (fun _ _ _ _ => rfl) (fun _ _ _ => rfl) (fun _ _ _ _ _ => rfl) rfl rfl
theorem mB_X9_likeliest : mB iX9_likeliest = cX9_likeliest := rfl
theorem mO_X9_likeliest : mO iX9_likeliest = 9 := rfl
theorem rX9_likeliest_0 : tA sc iX9_likeliest 0 ls st h Q = tA sc iX9_likeliest 1 ls (vI (0) :: st) h Q := tA_pure mB_X9_likeliest dX9_likeliest_0 rfl
theorem rX9_likeliest_1 : tA sc iX9_likeliest 1 [l0, l1, l2, l3, l4, l5] (vI x :: st) h Q = tA sc iX9_likeliest 2 [l0, tclr l1, vI x, l3, l4, l5] st h Q := tA_pure mB_X9_likeliest dX9_likeliest_1 rfl
theorem rX9_likeliest_2 : tA sc iX9_likeliest 2 ls st h Q = tA sc iX9_likeliest 3 ls (vI (-1) :: st) h Q := tA_pure mB_X9_likeliest dX9_likeliest_2 rfl
theorem rX9_likeliest_3 : tA sc iX9_likeliest 3 [l0, l1, l2, l3, l4, l5] (vI x :: st) h Q = tA sc iX9_likeliest 4 [l0, l1, tclr l2, vI x, l4, l5] st h Q := tA_pure mB_X9_likeliest dX9_likeliest_3 rfl
theorem rX9_likeliest_4 : tA sc iX9_likeliest 4 ls st h Q = tA sc iX9_likeliest 5 ls (vI (0) :: st) h Q := tA_pure mB_X9_likeliest dX9_likeliest_4 rfl
theorem rX9_likeliest_5 : tA sc iX9_likeliest 5 [l0, l1, l2, l3, l4, l5] (vI x :: st) h Q = tA sc iX9_likeliest 7 [l0, l1, l2, tclr l3, vI x, l5] st h Q := tA_pure mB_X9_likeliest dX9_likeliest_5 rfl
theorem rX9_likeliest_7 : tA sc iX9_likeliest 7 [l0, l1, l2, l3, vI x, l5] st h Q = tA sc iX9_likeliest 9 [l0, l1, l2, l3, vI x, l5] (vI x :: st) h Q := tA_pure mB_X9_likeliest dX9_likeliest_7 rfl
theorem rX9_likeliest_9 : tA sc iX9_likeliest 9 ls st h Q = tA sc iX9_likeliest 10 ls (vI (4) :: st) h Q := tA_pure mB_X9_likeliest dX9_likeliest_9 rfl
theorem rX9_likeliest_10 : tA sc iX9_likeliest 10 ls (vI y :: vI x :: st) h Q = (if y ≤ x then tA sc iX9_likeliest 46 ls st h Q else tA sc iX9_likeliest 13 ls st h Q) := tA_if mB_X9_likeliest dX9_likeliest_10 (fun _ _ _ _ => rfl) rfl
theorem rX9_likeliest_13 : tA sc iX9_likeliest 13 [vR r, l1, l2, l3, l4, l5] st h Q = tA sc iX9_likeliest 14 [vR r, l1, l2, l3, l4, l5] (vR r :: st) h Q := tA_pure mB_X9_likeliest dX9_likeliest_13 rfl
theorem rX9_likeliest_14 : tA sc iX9_likeliest 14 [l0, vI x, l2, l3, l4, l5] st h Q = tA sc iX9_likeliest 15 [l0, vI x, l2, l3, l4, l5] (vI x :: st) h Q := tA_pure mB_X9_likeliest dX9_likeliest_14 rfl
theorem rX9_likeliest_15 : tA sc iX9_likeliest 15 [l0, l1, l2, l3, vI x, l5] st h Q = tA sc iX9_likeliest 17 [l0, l1, l2, l3, vI x, l5] (vI x :: st) h Q := tA_pure mB_X9_likeliest dX9_likeliest_15 rfl
theorem rX9_likeliest_17 : tA sc iX9_likeliest 17 [vR r, l1, l2, l3, l4, l5] st h Q = tA sc iX9_likeliest 18 [vR r, l1, l2, l3, l4, l5] (vR r :: st) h Q := tA_pure mB_X9_likeliest dX9_likeliest_17 rfl
theorem rX9_likeliest_18 : tA sc iX9_likeliest 18 ls (vR (some o) :: st) h Q = oz (tget h o [9] 2) (fun v => tA sc iX9_likeliest 21 ls (v :: st) h Q) := tA_get mB_X9_likeliest mO_X9_likeliest dX9_likeliest_18 fT_9_18
theorem rX9_likeliest_21 : tA sc iX9_likeliest 21 [l0, vI x, l2, l3, l4, l5] st h Q = tA sc iX9_likeliest 22 [l0, vI x, l2, l3, l4, l5] (vI x :: st) h Q := tA_pure mB_X9_likeliest dX9_likeliest_21 rfl
theorem rX9_likeliest_22 : tA sc iX9_likeliest 22 ls (vI j :: vR (some a) :: st) h Q = oz (tald sc h 0 a j) (fun v => tA sc iX9_likeliest 23 ls (vI v :: st) h Q) := tA_iald mB_X9_likeliest dX9_likeliest_22
theorem rX9_likeliest_23 (hci : tcl h o = some 9) : tA sc iX9_likeliest 23 ls [vI p2, vI p1, vI p0, vR (some o)] h Q = tA sc iX9_weightWith 0 [vR (some o), vI p0, vI p1, vI p2, vU] [] h (fun v h1 => tA sc iX9_likeliest 26 ls (tpu v []) h1 Q) := tA_cV mB_X9_likeliest mO_X9_likeliest dX9_likeliest_23 cT_9_82 rfl (Nat.le_of_ble_eq_true rfl) rfl rfl rfl hci
theorem rX9_likeliest_26 : tA sc iX9_likeliest 26 [l0, l1, l2, l3, l4, l5] (vI x :: st) h Q = tA sc iX9_likeliest 28 [l0, l1, l2, l3, tclr l4, vI x] st h Q := tA_pure mB_X9_likeliest dX9_likeliest_26 rfl
theorem rX9_likeliest_28 : tA sc iX9_likeliest 28 [l0, l1, l2, l3, l4, vI x] st h Q = tA sc iX9_likeliest 30 [l0, l1, l2, l3, l4, vI x] (vI x :: st) h Q := tA_pure mB_X9_likeliest dX9_likeliest_28 rfl
theorem rX9_likeliest_30 : tA sc iX9_likeliest 30 [l0, l1, l2, vI x, l4, l5] st h Q = tA sc iX9_likeliest 31 [l0, l1, l2, vI x, l4, l5] (vI x :: st) h Q := tA_pure mB_X9_likeliest dX9_likeliest_30 rfl
theorem rX9_likeliest_31 : tA sc iX9_likeliest 31 ls (vI y :: vI x :: st) h Q = (if x ≤ y then tA sc iX9_likeliest 40 ls st h Q else tA sc iX9_likeliest 34 ls st h Q) := tA_if mB_X9_likeliest dX9_likeliest_31 (fun _ _ _ _ => rfl) rfl
theorem rX9_likeliest_34 : tA sc iX9_likeliest 34 [l0, l1, l2, l3, vI x, l5] st h Q = tA sc iX9_likeliest 36 [l0, l1, l2, l3, vI x, l5] (vI x :: st) h Q := tA_pure mB_X9_likeliest dX9_likeliest_34 rfl
theorem rX9_likeliest_36 : tA sc iX9_likeliest 36 [l0, l1, l2, l3, l4, l5] (vI x :: st) h Q = tA sc iX9_likeliest 37 [l0, tclr l1, vI x, l3, l4, l5] st h Q := tA_pure mB_X9_likeliest dX9_likeliest_36 rfl
theorem rX9_likeliest_37 : tA sc iX9_likeliest 37 [l0, l1, l2, l3, l4, vI x] st h Q = tA sc iX9_likeliest 39 [l0, l1, l2, l3, l4, vI x] (vI x :: st) h Q := tA_pure mB_X9_likeliest dX9_likeliest_37 rfl
theorem rX9_likeliest_39 : tA sc iX9_likeliest 39 [l0, l1, l2, l3, l4, l5] (vI x :: st) h Q = tA sc iX9_likeliest 40 [l0, l1, tclr l2, vI x, l4, l5] st h Q := tA_pure mB_X9_likeliest dX9_likeliest_39 rfl
theorem rX9_likeliest_40 : tA sc iX9_likeliest 40 [l0, l1, l2, l3, vI x, l5] st h Q = tA sc iX9_likeliest 43 [l0, l1, l2, tclr l3, vI (x + 1), l5] st h Q := tA_pure mB_X9_likeliest dX9_likeliest_40 rfl
theorem rX9_likeliest_43 : tA sc iX9_likeliest 43 ls st h Q = tA sc iX9_likeliest 7 ls st h Q := tA_jump mB_X9_likeliest dX9_likeliest_43 (fun _ _ _ _ => rfl) rfl
theorem rX9_likeliest_46 : tA sc iX9_likeliest 46 [l0, l1, vI x, l3, l4, l5] st h Q = tA sc iX9_likeliest 47 [l0, l1, vI x, l3, l4, l5] (vI x :: st) h Q := tA_pure mB_X9_likeliest dX9_likeliest_46 rfl
theorem rX9_likeliest_47 : tA sc iX9_likeliest 47 ls [vI x] h Q = Q (some (vI x)) h := tA_ret mB_X9_likeliest dX9_likeliest_47 (fun _ _ _ _ => rfl) (fun _ _ _ => rfl) (fun _ _ _ _ _ => rfl) rfl rfl
theorem mB_X9_lastOpenDay : mB iX9_lastOpenDay = cX9_lastOpenDay := rfl
theorem mO_X9_lastOpenDay : mO iX9_lastOpenDay = 9 := rfl
theorem rX9_lastOpenDay_0 : tA sc iX9_lastOpenDay 0 ls st h Q = tA sc iX9_lastOpenDay 2 ls (vI (19) :: st) h Q := tA_pure mB_X9_lastOpenDay dX9_lastOpenDay_0 rfl
theorem rX9_lastOpenDay_2 : tA sc iX9_lastOpenDay 2 [vR r, l1, l2] st h Q = tA sc iX9_lastOpenDay 3 [vR r, l1, l2] (vR r :: st) h Q := tA_pure mB_X9_lastOpenDay dX9_lastOpenDay_2 rfl
theorem rX9_lastOpenDay_3 : tA sc iX9_lastOpenDay 3 ls (vR (some o) :: st) h Q = oz (tget h o [9] 6) (fun v => tA sc iX9_lastOpenDay 6 ls (v :: st) h Q) := tA_get mB_X9_lastOpenDay mO_X9_lastOpenDay dX9_lastOpenDay_3 fT_9_67
theorem rX9_lastOpenDay_6 : tA sc iX9_lastOpenDay 6 [l0, vI x, l2] st h Q = tA sc iX9_lastOpenDay 7 [l0, vI x, l2] (vI x :: st) h Q := tA_pure mB_X9_lastOpenDay dX9_lastOpenDay_6 rfl
theorem rX9_lastOpenDay_7 : tA sc iX9_lastOpenDay 7 ls (vI y :: vI x :: st) h Q = tA sc iX9_lastOpenDay 8 ls (vI (x + y) :: st) h Q := tA_pure mB_X9_lastOpenDay dX9_lastOpenDay_7 rfl
theorem rX9_lastOpenDay_8 : tA sc iX9_lastOpenDay 8 ls [vI p1, vI p0] h Q = tA sc iX9_lastOpenDay 11 ls (vI (if p1 < p0 then p1 else p0) :: []) h Q := tA_cN mB_X9_lastOpenDay mO_X9_lastOpenDay dX9_lastOpenDay_8 (fun _ _ _ _ => rfl) (fun _ _ _ => rfl) (fun _ _ _ _ _ => rfl) rfl cT_9_90 rfl rfl
theorem rX9_lastOpenDay_11 : tA sc iX9_lastOpenDay 11 [l0, l1, l2] (vI x :: st) h Q = tA sc iX9_lastOpenDay 12 [l0, tclr l1, vI x] st h Q := tA_pure mB_X9_lastOpenDay dX9_lastOpenDay_11 rfl
theorem rX9_lastOpenDay_12 : tA sc iX9_lastOpenDay 12 [l0, l1, vI x] st h Q = tA sc iX9_lastOpenDay 13 [l0, l1, vI x] (vI x :: st) h Q := tA_pure mB_X9_lastOpenDay dX9_lastOpenDay_12 rfl
theorem rX9_lastOpenDay_13 : tA sc iX9_lastOpenDay 13 [vR r, l1, l2] st h Q = tA sc iX9_lastOpenDay 14 [vR r, l1, l2] (vR r :: st) h Q := tA_pure mB_X9_lastOpenDay dX9_lastOpenDay_13 rfl
theorem rX9_lastOpenDay_14 : tA sc iX9_lastOpenDay 14 ls (vR (some o) :: st) h Q = oz (tget h o [9] 6) (fun v => tA sc iX9_lastOpenDay 17 ls (v :: st) h Q) := tA_get mB_X9_lastOpenDay mO_X9_lastOpenDay dX9_lastOpenDay_14 fT_9_67
theorem rX9_lastOpenDay_17 : tA sc iX9_lastOpenDay 17 ls (vI y :: vI x :: st) h Q = (if x < y then tA sc iX9_lastOpenDay 37 ls st h Q else tA sc iX9_lastOpenDay 20 ls st h Q) := tA_if mB_X9_lastOpenDay dX9_lastOpenDay_17 (fun _ _ _ _ => rfl) rfl
theorem rX9_lastOpenDay_20 : tA sc iX9_lastOpenDay 20 [vR r, l1, l2] st h Q = tA sc iX9_lastOpenDay 21 [vR r, l1, l2] (vR r :: st) h Q := tA_pure mB_X9_lastOpenDay dX9_lastOpenDay_20 rfl
theorem rX9_lastOpenDay_21 : tA sc iX9_lastOpenDay 21 ls (vR (some o) :: st) h Q = oz (tget h o [9] 4) (fun v => tA sc iX9_lastOpenDay 24 ls (v :: st) h Q) := tA_get mB_X9_lastOpenDay mO_X9_lastOpenDay dX9_lastOpenDay_21 fT_9_24
theorem rX9_lastOpenDay_24 : tA sc iX9_lastOpenDay 24 [l0, l1, vI x] st h Q = tA sc iX9_lastOpenDay 25 [l0, l1, vI x] (vI x :: st) h Q := tA_pure mB_X9_lastOpenDay dX9_lastOpenDay_24 rfl
theorem rX9_lastOpenDay_25 : tA sc iX9_lastOpenDay 25 ls (vI j :: vR (some a) :: st) h Q = oz (tald sc h 0 a j) (fun v => tA sc iX9_lastOpenDay 26 ls (vI v :: st) h Q) := tA_iald mB_X9_lastOpenDay dX9_lastOpenDay_25
theorem rX9_lastOpenDay_26 : tA sc iX9_lastOpenDay 26 ls (vI x :: st) h Q = (if ¬ x = 0 then tA sc iX9_lastOpenDay 31 ls st h Q else tA sc iX9_lastOpenDay 29 ls st h Q) := tA_if mB_X9_lastOpenDay dX9_lastOpenDay_26 (fun _ _ _ _ => rfl) rfl
theorem rX9_lastOpenDay_29 : tA sc iX9_lastOpenDay 29 [l0, l1, vI x] st h Q = tA sc iX9_lastOpenDay 30 [l0, l1, vI x] (vI x :: st) h Q := tA_pure mB_X9_lastOpenDay dX9_lastOpenDay_29 rfl
theorem rX9_lastOpenDay_30 : tA sc iX9_lastOpenDay 30 ls [vI x] h Q = Q (some (vI x)) h := tA_ret mB_X9_lastOpenDay dX9_lastOpenDay_30 (fun _ _ _ _ => rfl) (fun _ _ _ => rfl) (fun _ _ _ _ _ => rfl) rfl rfl
theorem rX9_lastOpenDay_31 : tA sc iX9_lastOpenDay 31 [l0, l1, vI x] st h Q = tA sc iX9_lastOpenDay 34 [l0, tclr l1, vI (x + (-1))] st h Q := tA_pure mB_X9_lastOpenDay dX9_lastOpenDay_31 rfl
theorem rX9_lastOpenDay_34 : tA sc iX9_lastOpenDay 34 ls st h Q = tA sc iX9_lastOpenDay 12 ls st h Q := tA_jump mB_X9_lastOpenDay dX9_lastOpenDay_34 (fun _ _ _ _ => rfl) rfl
theorem rX9_lastOpenDay_37 : tA sc iX9_lastOpenDay 37 ls st h Q = tA sc iX9_lastOpenDay 38 ls (vI (-1) :: st) h Q := tA_pure mB_X9_lastOpenDay dX9_lastOpenDay_37 rfl
theorem rX9_lastOpenDay_38 : tA sc iX9_lastOpenDay 38 ls [vI x] h Q = Q (some (vI x)) h := tA_ret mB_X9_lastOpenDay dX9_lastOpenDay_38 (fun _ _ _ _ => rfl) (fun _ _ _ => rfl) (fun _ _ _ _ _ => rfl) rfl rfl
theorem mB_X9_sayerAt : mB iX9_sayerAt = cX9_sayerAt := rfl
theorem mO_X9_sayerAt : mO iX9_sayerAt = 9 := rfl
theorem rX9_sayerAt_0 : tA sc iX9_sayerAt 0 [l0, vI x] st h Q = tA sc iX9_sayerAt 1 [l0, vI x] (vI x :: st) h Q := tA_pure mB_X9_sayerAt dX9_sayerAt_0 rfl
theorem rX9_sayerAt_1 : tA sc iX9_sayerAt 1 ls (vI x :: st) h Q = (if x < 0 then tA sc iX9_sayerAt 21 ls st h Q else tA sc iX9_sayerAt 4 ls st h Q) := tA_if mB_X9_sayerAt dX9_sayerAt_1 (fun _ _ _ _ => rfl) rfl
theorem rX9_sayerAt_4 : tA sc iX9_sayerAt 4 [l0, vI x] st h Q = tA sc iX9_sayerAt 5 [l0, vI x] (vI x :: st) h Q := tA_pure mB_X9_sayerAt dX9_sayerAt_4 rfl
theorem rX9_sayerAt_5 : tA sc iX9_sayerAt 5 [vR r, l1] st h Q = tA sc iX9_sayerAt 6 [vR r, l1] (vR r :: st) h Q := tA_pure mB_X9_sayerAt dX9_sayerAt_5 rfl
theorem rX9_sayerAt_6 : tA sc iX9_sayerAt 6 ls (vR (some o) :: st) h Q = oz (tget h o [9] 10) (fun v => tA sc iX9_sayerAt 9 ls (v :: st) h Q) := tA_get mB_X9_sayerAt mO_X9_sayerAt dX9_sayerAt_6 fT_9_70
theorem rX9_sayerAt_9 : tA sc iX9_sayerAt 9 ls (vI y :: vI x :: st) h Q = (if y ≤ x then tA sc iX9_sayerAt 21 ls st h Q else tA sc iX9_sayerAt 12 ls st h Q) := tA_if mB_X9_sayerAt dX9_sayerAt_9 (fun _ _ _ _ => rfl) rfl
theorem rX9_sayerAt_12 : tA sc iX9_sayerAt 12 [vR r, l1] st h Q = tA sc iX9_sayerAt 13 [vR r, l1] (vR r :: st) h Q := tA_pure mB_X9_sayerAt dX9_sayerAt_12 rfl
theorem rX9_sayerAt_13 : tA sc iX9_sayerAt 13 ls (vR (some o) :: st) h Q = oz (tget h o [9] 8) (fun v => tA sc iX9_sayerAt 16 ls (v :: st) h Q) := tA_get mB_X9_sayerAt mO_X9_sayerAt dX9_sayerAt_13 fT_9_44
theorem rX9_sayerAt_16 : tA sc iX9_sayerAt 16 [l0, vI x] st h Q = tA sc iX9_sayerAt 17 [l0, vI x] (vI x :: st) h Q := tA_pure mB_X9_sayerAt dX9_sayerAt_16 rfl
theorem rX9_sayerAt_17 : tA sc iX9_sayerAt 17 ls (vI j :: vR (some a) :: st) h Q = oz (tldr h a j) (fun v => tA sc iX9_sayerAt 18 ls (vR v :: st) h Q) := tA_aald mB_X9_sayerAt dX9_sayerAt_17
theorem rX9_sayerAt_18 : tA sc iX9_sayerAt 18 ls st h Q = tA sc iX9_sayerAt 22 ls st h Q := tA_jump mB_X9_sayerAt dX9_sayerAt_18 (fun _ _ _ _ => rfl) rfl
theorem rX9_sayerAt_21 : tA sc iX9_sayerAt 21 ls st h Q = tA sc iX9_sayerAt 22 ls (vR none :: st) h Q := tA_pure mB_X9_sayerAt dX9_sayerAt_21 rfl
theorem rX9_sayerAt_22 : tA sc iX9_sayerAt 22 ls [vR r] h Q = Q (some (vR r)) h := tA_ret mB_X9_sayerAt dX9_sayerAt_22 (fun _ _ _ _ => rfl) (fun _ _ _ => rfl) (fun _ _ _ _ _ => rfl) rfl rfl
theorem mB_X9_addSayer : mB iX9_addSayer = cX9_addSayer := rfl
theorem mO_X9_addSayer : mO iX9_addSayer = 9 := rfl
theorem rX9_addSayer_0 : tA sc iX9_addSayer 0 [vR r, l1, l2] st h Q = tA sc iX9_addSayer 1 [vR r, l1, l2] (vR r :: st) h Q := tA_pure mB_X9_addSayer dX9_addSayer_0 rfl
theorem rX9_addSayer_1 : tA sc iX9_addSayer 1 ls (vR (some o) :: st) h Q = oz (tget h o [9] 10) (fun v => tA sc iX9_addSayer 4 ls (v :: st) h Q) := tA_get mB_X9_addSayer mO_X9_addSayer dX9_addSayer_1 fT_9_70
theorem rX9_addSayer_4 : tA sc iX9_addSayer 4 [l0, l1, l2] (vI x :: st) h Q = tA sc iX9_addSayer 5 [l0, tclr l1, vI x] st h Q := tA_pure mB_X9_addSayer dX9_addSayer_4 rfl
theorem rX9_addSayer_5 : tA sc iX9_addSayer 5 [vR r, l1, l2] st h Q = tA sc iX9_addSayer 6 [vR r, l1, l2] (vR r :: st) h Q := tA_pure mB_X9_addSayer dX9_addSayer_5 rfl
theorem rX9_addSayer_6 : tA sc iX9_addSayer 6 ls (vR (some o) :: st) h Q = oz (tget h o [9] 8) (fun v => tA sc iX9_addSayer 9 ls (v :: st) h Q) := tA_get mB_X9_addSayer mO_X9_addSayer dX9_addSayer_6 fT_9_44
theorem rX9_addSayer_9 : tA sc iX9_addSayer 9 [l0, l1, vI x] st h Q = tA sc iX9_addSayer 10 [l0, l1, vI x] (vI x :: st) h Q := tA_pure mB_X9_addSayer dX9_addSayer_9 rfl
theorem rX9_addSayer_10 : tA sc iX9_addSayer 10 [l0, vR r, l2] st h Q = tA sc iX9_addSayer 11 [l0, vR r, l2] (vR r :: st) h Q := tA_pure mB_X9_addSayer dX9_addSayer_10 rfl
theorem rX9_addSayer_11 : tA sc iX9_addSayer 11 ls (vR r :: vI j :: vR (some a) :: st) h Q = oz (tasr h a j r) (fun h' => tA sc iX9_addSayer 12 ls st h' Q) := tA_aast mB_X9_addSayer dX9_addSayer_11
theorem rX9_addSayer_12 : tA sc iX9_addSayer 12 [vR r, l1, l2] st h Q = tA sc iX9_addSayer 13 [vR r, l1, l2] (vR r :: st) h Q := tA_pure mB_X9_addSayer dX9_addSayer_12 rfl
theorem rX9_addSayer_13 : tA sc iX9_addSayer 13 ls (vR (some o) :: st) h Q = oz (tget h o [9] 9) (fun v => tA sc iX9_addSayer 16 ls (v :: st) h Q) := tA_get mB_X9_addSayer mO_X9_addSayer dX9_addSayer_13 fT_9_48
theorem rX9_addSayer_16 : tA sc iX9_addSayer 16 [l0, l1, vI x] st h Q = tA sc iX9_addSayer 17 [l0, l1, vI x] (vI x :: st) h Q := tA_pure mB_X9_addSayer dX9_addSayer_16 rfl
theorem rX9_addSayer_17 : tA sc iX9_addSayer 17 ls st h Q = tA sc iX9_addSayer 18 ls (vI (0) :: st) h Q := tA_pure mB_X9_addSayer dX9_addSayer_17 rfl
theorem rX9_addSayer_18 : tA sc iX9_addSayer 18 ls (vI x :: vI j :: vR (some a) :: st) h Q = oz (tasi h a j x) (fun h' => tA sc iX9_addSayer 19 ls st h' Q) := tA_iast mB_X9_addSayer dX9_addSayer_18
theorem rX9_addSayer_19 : tA sc iX9_addSayer 19 [vR r, l1, l2] st h Q = tA sc iX9_addSayer 20 [vR r, l1, l2] (vR r :: st) h Q := tA_pure mB_X9_addSayer dX9_addSayer_19 rfl
theorem rX9_addSayer_20 : tA sc iX9_addSayer 20 ls (vR r :: st) h Q = tA sc iX9_addSayer 21 ls (vR r :: vR r :: st) h Q := tA_pure mB_X9_addSayer dX9_addSayer_20 rfl
theorem rX9_addSayer_21 : tA sc iX9_addSayer 21 ls (vR (some o) :: st) h Q = oz (tget h o [9] 10) (fun v => tA sc iX9_addSayer 24 ls (v :: st) h Q) := tA_get mB_X9_addSayer mO_X9_addSayer dX9_addSayer_21 fT_9_70
theorem rX9_addSayer_24 : tA sc iX9_addSayer 24 ls st h Q = tA sc iX9_addSayer 25 ls (vI (1) :: st) h Q := tA_pure mB_X9_addSayer dX9_addSayer_24 rfl
theorem rX9_addSayer_25 : tA sc iX9_addSayer 25 ls (vI y :: vI x :: st) h Q = tA sc iX9_addSayer 26 ls (vI (x + y) :: st) h Q := tA_pure mB_X9_addSayer dX9_addSayer_25 rfl
theorem rX9_addSayer_26 : tA sc iX9_addSayer 26 ls (v :: vR (some o) :: st) h Q = oz (tput h o [9] 10 0 v) (fun h' => tA sc iX9_addSayer 29 ls st h' Q) := tA_put mB_X9_addSayer mO_X9_addSayer dX9_addSayer_26 fT_9_70 (Or.inl (by decide))
theorem rX9_addSayer_29 : tA sc iX9_addSayer 29 [l0, l1, vI x] st h Q = tA sc iX9_addSayer 30 [l0, l1, vI x] (vI x :: st) h Q := tA_pure mB_X9_addSayer dX9_addSayer_29 rfl
theorem rX9_addSayer_30 : tA sc iX9_addSayer 30 ls [vI x] h Q = Q (some (vI x)) h := tA_ret mB_X9_addSayer dX9_addSayer_30 (fun _ _ _ _ => rfl) (fun _ _ _ => rfl) (fun _ _ _ _ _ => rfl) rfl rfl
theorem mB_X9_isSaid : mB iX9_isSaid = cX9_isSaid := rfl
theorem mO_X9_isSaid : mO iX9_isSaid = 9 := rfl
theorem rX9_isSaid_0 : tA sc iX9_isSaid 0 [vR r, l1, l2] st h Q = tA sc iX9_isSaid 1 [vR r, l1, l2] (vR r :: st) h Q := tA_pure mB_X9_isSaid dX9_isSaid_0 rfl
theorem rX9_isSaid_1 : tA sc iX9_isSaid 1 ls (vR (some o) :: st) h Q = oz (tget h o [9] 4) (fun v => tA sc iX9_isSaid 4 ls (v :: st) h Q) := tA_get mB_X9_isSaid mO_X9_isSaid dX9_isSaid_1 fT_9_24
theorem rX9_isSaid_4 : tA sc iX9_isSaid 4 [l0, vI x, l2] st h Q = tA sc iX9_isSaid 5 [l0, vI x, l2] (vI x :: st) h Q := tA_pure mB_X9_isSaid dX9_isSaid_4 rfl
theorem rX9_isSaid_5 : tA sc iX9_isSaid 5 ls (vI j :: vR (some a) :: st) h Q = oz (tald sc h 0 a j) (fun v => tA sc iX9_isSaid 6 ls (vI v :: st) h Q) := tA_iald mB_X9_isSaid dX9_isSaid_5
theorem rX9_isSaid_6 : tA sc iX9_isSaid 6 [l0, l1, vI x] st h Q = tA sc iX9_isSaid 7 [l0, l1, vI x] (vI x :: st) h Q := tA_pure mB_X9_isSaid dX9_isSaid_6 rfl
theorem rX9_isSaid_7 : tA sc iX9_isSaid 7 ls (vI y :: vI x :: st) h Q = tA sc iX9_isSaid 8 ls (vI (x >>> (y &&& 31)) :: st) h Q := tA_pure mB_X9_isSaid dX9_isSaid_7 rfl
theorem rX9_isSaid_8 : tA sc iX9_isSaid 8 ls st h Q = tA sc iX9_isSaid 9 ls (vI (1) :: st) h Q := tA_pure mB_X9_isSaid dX9_isSaid_8 rfl
theorem rX9_isSaid_9 : tA sc iX9_isSaid 9 ls (vI y :: vI x :: st) h Q = tA sc iX9_isSaid 10 ls (vI (x &&& y) :: st) h Q := tA_pure mB_X9_isSaid dX9_isSaid_9 rfl
theorem rX9_isSaid_10 : tA sc iX9_isSaid 10 ls st h Q = tA sc iX9_isSaid 11 ls (vI (1) :: st) h Q := tA_pure mB_X9_isSaid dX9_isSaid_10 rfl
theorem rX9_isSaid_11 : tA sc iX9_isSaid 11 ls (vI y :: vI x :: st) h Q = (if ¬ x = y then tA sc iX9_isSaid 18 ls st h Q else tA sc iX9_isSaid 14 ls st h Q) := tA_if mB_X9_isSaid dX9_isSaid_11 (fun _ _ _ _ => rfl) rfl
theorem rX9_isSaid_14 : tA sc iX9_isSaid 14 ls st h Q = tA sc iX9_isSaid 15 ls (vI (1) :: st) h Q := tA_pure mB_X9_isSaid dX9_isSaid_14 rfl
theorem rX9_isSaid_15 : tA sc iX9_isSaid 15 ls st h Q = tA sc iX9_isSaid 19 ls st h Q := tA_jump mB_X9_isSaid dX9_isSaid_15 (fun _ _ _ _ => rfl) rfl
theorem rX9_isSaid_18 : tA sc iX9_isSaid 18 ls st h Q = tA sc iX9_isSaid 19 ls (vI (0) :: st) h Q := tA_pure mB_X9_isSaid dX9_isSaid_18 rfl
theorem rX9_isSaid_19 : tA sc iX9_isSaid 19 ls [vI x] h Q = ((x = 0 ∨ x = 1) ∧ Q (some (vI x)) h) := tA_retz mB_X9_isSaid dX9_isSaid_19 rfl
theorem mB_X9_room : mB iX9_room = cX9_room := rfl
theorem mO_X9_room : mO iX9_room = 9 := rfl
theorem rX9_room_0 : tA sc iX9_room 0 ls st h Q = tA sc iX9_room 2 ls (vI (40) :: st) h Q := tA_pure mB_X9_room dX9_room_0 rfl
theorem rX9_room_2 : tA sc iX9_room 2 [vR r] st h Q = tA sc iX9_room 3 [vR r] (vR r :: st) h Q := tA_pure mB_X9_room dX9_room_2 rfl
theorem rX9_room_3 : tA sc iX9_room 3 ls (vR (some o) :: st) h Q = oz (tget h o [9] 14) (fun v => tA sc iX9_room 6 ls (v :: st) h Q) := tA_get mB_X9_room mO_X9_room dX9_room_3 fT_9_73
theorem rX9_room_6 : tA sc iX9_room 6 ls (vI y :: vI x :: st) h Q = tA sc iX9_room 7 ls (vI (x - y) :: st) h Q := tA_pure mB_X9_room dX9_room_6 rfl
theorem rX9_room_7 : tA sc iX9_room 7 ls [vI x] h Q = Q (some (vI x)) h := tA_ret mB_X9_room dX9_room_7 (fun _ _ _ _ => rfl) (fun _ _ _ => rfl) (fun _ _ _ _ _ => rfl) rfl rfl
theorem mB_X9_addSaying : mB iX9_addSaying = cX9_addSaying := rfl
theorem mO_X9_addSaying : mO iX9_addSaying = 9 := rfl
theorem rX9_addSaying_0 : tA sc iX9_addSaying 0 [vR r, l1, l2, l3, l4] st h Q = tA sc iX9_addSaying 1 [vR r, l1, l2, l3, l4] (vR r :: st) h Q := tA_pure mB_X9_addSaying dX9_addSaying_0 rfl
theorem rX9_addSaying_1 : tA sc iX9_addSaying 1 ls (vR (some o) :: st) h Q = oz (tget h o [9] 14) (fun v => tA sc iX9_addSaying 4 ls (v :: st) h Q) := tA_get mB_X9_addSaying mO_X9_addSaying dX9_addSaying_1 fT_9_73
theorem rX9_addSaying_4 : tA sc iX9_addSaying 4 [l0, l1, l2, l3, l4] (vI x :: st) h Q = tA sc iX9_addSaying 6 [l0, l1, l2, tclr l3, vI x] st h Q := tA_pure mB_X9_addSaying dX9_addSaying_4 rfl
theorem rX9_addSaying_6 : tA sc iX9_addSaying 6 [vR r, l1, l2, l3, l4] st h Q = tA sc iX9_addSaying 7 [vR r, l1, l2, l3, l4] (vR r :: st) h Q := tA_pure mB_X9_addSaying dX9_addSaying_6 rfl
theorem rX9_addSaying_7 : tA sc iX9_addSaying 7 ls (vR (some o) :: st) h Q = oz (tget h o [9] 11) (fun v => tA sc iX9_addSaying 10 ls (v :: st) h Q) := tA_get mB_X9_addSaying mO_X9_addSaying dX9_addSaying_7 fT_9_51
theorem rX9_addSaying_10 : tA sc iX9_addSaying 10 [l0, l1, l2, l3, vI x] st h Q = tA sc iX9_addSaying 12 [l0, l1, l2, l3, vI x] (vI x :: st) h Q := tA_pure mB_X9_addSaying dX9_addSaying_10 rfl
theorem rX9_addSaying_12 : tA sc iX9_addSaying 12 [l0, vI x, l2, l3, l4] st h Q = tA sc iX9_addSaying 13 [l0, vI x, l2, l3, l4] (vI x :: st) h Q := tA_pure mB_X9_addSaying dX9_addSaying_12 rfl
theorem rX9_addSaying_13 : tA sc iX9_addSaying 13 ls (vI x :: vI j :: vR (some a) :: st) h Q = oz (tasi h a j x) (fun h' => tA sc iX9_addSaying 14 ls st h' Q) := tA_iast mB_X9_addSaying dX9_addSaying_13
theorem rX9_addSaying_14 : tA sc iX9_addSaying 14 [vR r, l1, l2, l3, l4] st h Q = tA sc iX9_addSaying 15 [vR r, l1, l2, l3, l4] (vR r :: st) h Q := tA_pure mB_X9_addSaying dX9_addSaying_14 rfl
theorem rX9_addSaying_15 : tA sc iX9_addSaying 15 ls (vR (some o) :: st) h Q = oz (tget h o [9] 12) (fun v => tA sc iX9_addSaying 18 ls (v :: st) h Q) := tA_get mB_X9_addSaying mO_X9_addSaying dX9_addSaying_15 fT_9_54
theorem rX9_addSaying_18 : tA sc iX9_addSaying 18 [l0, l1, l2, l3, vI x] st h Q = tA sc iX9_addSaying 20 [l0, l1, l2, l3, vI x] (vI x :: st) h Q := tA_pure mB_X9_addSaying dX9_addSaying_18 rfl
theorem rX9_addSaying_20 : tA sc iX9_addSaying 20 [l0, l1, vI x, l3, l4] st h Q = tA sc iX9_addSaying 21 [l0, l1, vI x, l3, l4] (vI x :: st) h Q := tA_pure mB_X9_addSaying dX9_addSaying_20 rfl
theorem rX9_addSaying_21 : tA sc iX9_addSaying 21 ls (vI x :: vI j :: vR (some a) :: st) h Q = oz (tasi h a j x) (fun h' => tA sc iX9_addSaying 22 ls st h' Q) := tA_iast mB_X9_addSaying dX9_addSaying_21
theorem rX9_addSaying_22 : tA sc iX9_addSaying 22 [vR r, l1, l2, l3, l4] st h Q = tA sc iX9_addSaying 23 [vR r, l1, l2, l3, l4] (vR r :: st) h Q := tA_pure mB_X9_addSaying dX9_addSaying_22 rfl
theorem rX9_addSaying_23 : tA sc iX9_addSaying 23 ls (vR (some o) :: st) h Q = oz (tget h o [9] 13) (fun v => tA sc iX9_addSaying 26 ls (v :: st) h Q) := tA_get mB_X9_addSaying mO_X9_addSaying dX9_addSaying_23 fT_9_57
theorem rX9_addSaying_26 : tA sc iX9_addSaying 26 [l0, l1, l2, l3, vI x] st h Q = tA sc iX9_addSaying 28 [l0, l1, l2, l3, vI x] (vI x :: st) h Q := tA_pure mB_X9_addSaying dX9_addSaying_26 rfl
theorem rX9_addSaying_28 : tA sc iX9_addSaying 28 [l0, l1, l2, vI x, l4] st h Q = tA sc iX9_addSaying 29 [l0, l1, l2, vI x, l4] (vI x :: st) h Q := tA_pure mB_X9_addSaying dX9_addSaying_28 rfl
theorem rX9_addSaying_29 : tA sc iX9_addSaying 29 ls (vI x :: vI j :: vR (some a) :: st) h Q = oz (tasi h a j x) (fun h' => tA sc iX9_addSaying 30 ls st h' Q) := tA_iast mB_X9_addSaying dX9_addSaying_29
theorem rX9_addSaying_30 : tA sc iX9_addSaying 30 [vR r, l1, l2, l3, l4] st h Q = tA sc iX9_addSaying 31 [vR r, l1, l2, l3, l4] (vR r :: st) h Q := tA_pure mB_X9_addSaying dX9_addSaying_30 rfl
theorem rX9_addSaying_31 : tA sc iX9_addSaying 31 ls (vR (some o) :: st) h Q = oz (tget h o [9] 4) (fun v => tA sc iX9_addSaying 34 ls (v :: st) h Q) := tA_get mB_X9_addSaying mO_X9_addSaying dX9_addSaying_31 fT_9_24
theorem rX9_addSaying_34 : tA sc iX9_addSaying 34 [l0, l1, vI x, l3, l4] st h Q = tA sc iX9_addSaying 35 [l0, l1, vI x, l3, l4] (vI x :: st) h Q := tA_pure mB_X9_addSaying dX9_addSaying_34 rfl
theorem rX9_addSaying_35 : tA sc iX9_addSaying 35 ls (vI x :: vR r :: st) h Q = tA sc iX9_addSaying 36 ls (vI x :: vR r :: vI x :: vR r :: st) h Q := tA_pure mB_X9_addSaying dX9_addSaying_35 rfl
theorem rX9_addSaying_36 : tA sc iX9_addSaying 36 ls (vI j :: vR (some a) :: st) h Q = oz (tald sc h 0 a j) (fun v => tA sc iX9_addSaying 37 ls (vI v :: st) h Q) := tA_iald mB_X9_addSaying dX9_addSaying_36
theorem rX9_addSaying_37 : tA sc iX9_addSaying 37 ls st h Q = tA sc iX9_addSaying 38 ls (vI (1) :: st) h Q := tA_pure mB_X9_addSaying dX9_addSaying_37 rfl
theorem rX9_addSaying_38 : tA sc iX9_addSaying 38 [l0, l1, l2, vI x, l4] st h Q = tA sc iX9_addSaying 39 [l0, l1, l2, vI x, l4] (vI x :: st) h Q := tA_pure mB_X9_addSaying dX9_addSaying_38 rfl
theorem rX9_addSaying_39 : tA sc iX9_addSaying 39 ls (vI y :: vI x :: st) h Q = tA sc iX9_addSaying 40 ls (vI (x <<< (y &&& 31)) :: st) h Q := tA_pure mB_X9_addSaying dX9_addSaying_39 rfl
theorem rX9_addSaying_40 : tA sc iX9_addSaying 40 ls (vI y :: vI x :: st) h Q = tA sc iX9_addSaying 41 ls (vI (x ||| y) :: st) h Q := tA_pure mB_X9_addSaying dX9_addSaying_40 rfl
theorem rX9_addSaying_41 : tA sc iX9_addSaying 41 ls (vI x :: vI j :: vR (some a) :: st) h Q = oz (tasi h a j x) (fun h' => tA sc iX9_addSaying 42 ls st h' Q) := tA_iast mB_X9_addSaying dX9_addSaying_41
theorem rX9_addSaying_42 : tA sc iX9_addSaying 42 [vR r, l1, l2, l3, l4] st h Q = tA sc iX9_addSaying 43 [vR r, l1, l2, l3, l4] (vR r :: st) h Q := tA_pure mB_X9_addSaying dX9_addSaying_42 rfl
theorem rX9_addSaying_43 : tA sc iX9_addSaying 43 ls (vR r :: st) h Q = tA sc iX9_addSaying 44 ls (vR r :: vR r :: st) h Q := tA_pure mB_X9_addSaying dX9_addSaying_43 rfl
theorem rX9_addSaying_44 : tA sc iX9_addSaying 44 ls (vR (some o) :: st) h Q = oz (tget h o [9] 14) (fun v => tA sc iX9_addSaying 47 ls (v :: st) h Q) := tA_get mB_X9_addSaying mO_X9_addSaying dX9_addSaying_44 fT_9_73
theorem rX9_addSaying_47 : tA sc iX9_addSaying 47 ls st h Q = tA sc iX9_addSaying 48 ls (vI (1) :: st) h Q := tA_pure mB_X9_addSaying dX9_addSaying_47 rfl
theorem rX9_addSaying_48 : tA sc iX9_addSaying 48 ls (vI y :: vI x :: st) h Q = tA sc iX9_addSaying 49 ls (vI (x + y) :: st) h Q := tA_pure mB_X9_addSaying dX9_addSaying_48 rfl
theorem rX9_addSaying_49 : tA sc iX9_addSaying 49 ls (v :: vR (some o) :: st) h Q = oz (tput h o [9] 14 0 v) (fun h' => tA sc iX9_addSaying 52 ls st h' Q) := tA_put mB_X9_addSaying mO_X9_addSaying dX9_addSaying_49 fT_9_73 (Or.inl (by decide))
theorem rX9_addSaying_52 : tA sc iX9_addSaying 52 [l0, l1, l2, l3, vI x] st h Q = tA sc iX9_addSaying 54 [l0, l1, l2, l3, vI x] (vI x :: st) h Q := tA_pure mB_X9_addSaying dX9_addSaying_52 rfl
theorem rX9_addSaying_54 : tA sc iX9_addSaying 54 ls [vI x] h Q = Q (some (vI x)) h := tA_ret mB_X9_addSaying dX9_addSaying_54 (fun _ _ _ _ => rfl) (fun _ _ _ => rfl) (fun _ _ _ _ _ => rfl) rfl rfl
theorem mB_X9_sellSaying : mB iX9_sellSaying = cX9_sellSaying := rfl
theorem mO_X9_sellSaying : mO iX9_sellSaying = 9 := rfl
theorem rX9_sellSaying_0 : tA sc iX9_sellSaying 0 [vR r, l1, l2, l3] st h Q = tA sc iX9_sellSaying 1 [vR r, l1, l2, l3] (vR r :: st) h Q := tA_pure mB_X9_sellSaying dX9_sellSaying_0 rfl
theorem rX9_sellSaying_1 : tA sc iX9_sellSaying 1 ls (vR (some o) :: st) h Q = oz (tget h o [9] 9) (fun v => tA sc iX9_sellSaying 4 ls (v :: st) h Q) := tA_get mB_X9_sellSaying mO_X9_sellSaying dX9_sellSaying_1 fT_9_48
theorem rX9_sellSaying_4 : tA sc iX9_sellSaying 4 [l0, vI x, l2, l3] st h Q = tA sc iX9_sellSaying 5 [l0, vI x, l2, l3] (vI x :: st) h Q := tA_pure mB_X9_sellSaying dX9_sellSaying_4 rfl
theorem rX9_sellSaying_5 : tA sc iX9_sellSaying 5 ls (vI x :: vR r :: st) h Q = tA sc iX9_sellSaying 6 ls (vI x :: vR r :: vI x :: vR r :: st) h Q := tA_pure mB_X9_sellSaying dX9_sellSaying_5 rfl
theorem rX9_sellSaying_6 : tA sc iX9_sellSaying 6 ls (vI j :: vR (some a) :: st) h Q = oz (tald sc h 0 a j) (fun v => tA sc iX9_sellSaying 7 ls (vI v :: st) h Q) := tA_iald mB_X9_sellSaying dX9_sellSaying_6
theorem rX9_sellSaying_7 : tA sc iX9_sellSaying 7 [vR r, l1, l2, l3] st h Q = tA sc iX9_sellSaying 8 [vR r, l1, l2, l3] (vR r :: st) h Q := tA_pure mB_X9_sellSaying dX9_sellSaying_7 rfl
theorem rX9_sellSaying_8 : tA sc iX9_sellSaying 8 ls (vR (some o) :: st) h Q = oz (tget h o [9] 5) (fun v => tA sc iX9_sellSaying 11 ls (v :: st) h Q) := tA_get mB_X9_sellSaying mO_X9_sellSaying dX9_sellSaying_8 fT_9_35
theorem rX9_sellSaying_11 : tA sc iX9_sellSaying 11 ls st h Q = tA sc iX9_sellSaying 12 ls (vI (2) :: st) h Q := tA_pure mB_X9_sellSaying dX9_sellSaying_11 rfl
theorem rX9_sellSaying_12 : tA sc iX9_sellSaying 12 ls (vI j :: vR (some a) :: st) h Q = oz (tald sc h 0 a j) (fun v => tA sc iX9_sellSaying 13 ls (vI v :: st) h Q) := tA_iald mB_X9_sellSaying dX9_sellSaying_12
theorem rX9_sellSaying_13 : tA sc iX9_sellSaying 13 ls (vI y :: vI x :: st) h Q = tA sc iX9_sellSaying 14 ls (vI (x - y) :: st) h Q := tA_pure mB_X9_sellSaying dX9_sellSaying_13 rfl
theorem rX9_sellSaying_14 : tA sc iX9_sellSaying 14 ls (vI x :: vI j :: vR (some a) :: st) h Q = oz (tasi h a j x) (fun h' => tA sc iX9_sellSaying 15 ls st h' Q) := tA_iast mB_X9_sellSaying dX9_sellSaying_14
theorem rX9_sellSaying_15 : tA sc iX9_sellSaying 15 [vR r, l1, l2, l3] st h Q = tA sc iX9_sellSaying 16 [vR r, l1, l2, l3] (vR r :: st) h Q := tA_pure mB_X9_sellSaying dX9_sellSaying_15 rfl
theorem rX9_sellSaying_16 : tA sc iX9_sellSaying 16 [l0, vI x, l2, l3] st h Q = tA sc iX9_sellSaying 17 [l0, vI x, l2, l3] (vI x :: st) h Q := tA_pure mB_X9_sellSaying dX9_sellSaying_16 rfl
theorem rX9_sellSaying_17 : tA sc iX9_sellSaying 17 [l0, l1, vI x, l3] st h Q = tA sc iX9_sellSaying 18 [l0, l1, vI x, l3] (vI x :: st) h Q := tA_pure mB_X9_sellSaying dX9_sellSaying_17 rfl
theorem rX9_sellSaying_18 : tA sc iX9_sellSaying 18 [l0, l1, l2, vI x] st h Q = tA sc iX9_sellSaying 19 [l0, l1, l2, vI x] (vI x :: st) h Q := tA_pure mB_X9_sellSaying dX9_sellSaying_18 rfl
theorem rX9_sellSaying_19 (hci : tcl h o = some 9) : tA sc iX9_sellSaying 19 ls [vI p2, vI p1, vI p0, vR (some o)] h Q = tA sc iX9_addSaying 0 [vR (some o), vI p0, vI p1, vI p2, vU] [] h (fun v h1 => tA sc iX9_sellSaying 22 ls (tpu v []) h1 Q) := tA_cV mB_X9_sellSaying mO_X9_sellSaying dX9_sellSaying_19 cT_9_95 rfl (Nat.le_of_ble_eq_true rfl) rfl rfl rfl hci
theorem rX9_sellSaying_22 : tA sc iX9_sellSaying 22 ls [vI x] h Q = Q (some (vI x)) h := tA_ret mB_X9_sellSaying dX9_sellSaying_22 (fun _ _ _ _ => rfl) (fun _ _ _ => rfl) (fun _ _ _ _ _ => rfl) rfl rfl
theorem mB_X9_sayingsOf : mB iX9_sayingsOf = cX9_sayingsOf := rfl
theorem mO_X9_sayingsOf : mO iX9_sayingsOf = 9 := rfl
theorem rX9_sayingsOf_0 : tA sc iX9_sayingsOf 0 ls st h Q = tA sc iX9_sayingsOf 1 ls (vI (0) :: st) h Q := tA_pure mB_X9_sayingsOf dX9_sayingsOf_0 rfl
theorem rX9_sayingsOf_1 : tA sc iX9_sayingsOf 1 [l0, l1, l2, l3] (vI x :: st) h Q = tA sc iX9_sayingsOf 2 [l0, tclr l1, vI x, l3] st h Q := tA_pure mB_X9_sayingsOf dX9_sayingsOf_1 rfl
theorem rX9_sayingsOf_2 : tA sc iX9_sayingsOf 2 ls st h Q = tA sc iX9_sayingsOf 3 ls (vI (0) :: st) h Q := tA_pure mB_X9_sayingsOf dX9_sayingsOf_2 rfl
theorem rX9_sayingsOf_3 : tA sc iX9_sayingsOf 3 [l0, l1, l2, l3] (vI x :: st) h Q = tA sc iX9_sayingsOf 4 [l0, l1, tclr l2, vI x] st h Q := tA_pure mB_X9_sayingsOf dX9_sayingsOf_3 rfl
theorem rX9_sayingsOf_4 : tA sc iX9_sayingsOf 4 [l0, l1, l2, vI x] st h Q = tA sc iX9_sayingsOf 5 [l0, l1, l2, vI x] (vI x :: st) h Q := tA_pure mB_X9_sayingsOf dX9_sayingsOf_4 rfl
theorem rX9_sayingsOf_5 : tA sc iX9_sayingsOf 5 [vR r, l1, l2, l3] st h Q = tA sc iX9_sayingsOf 6 [vR r, l1, l2, l3] (vR r :: st) h Q := tA_pure mB_X9_sayingsOf dX9_sayingsOf_5 rfl
theorem rX9_sayingsOf_6 : tA sc iX9_sayingsOf 6 ls (vR (some o) :: st) h Q = oz (tget h o [9] 14) (fun v => tA sc iX9_sayingsOf 9 ls (v :: st) h Q) := tA_get mB_X9_sayingsOf mO_X9_sayingsOf dX9_sayingsOf_6 fT_9_73
theorem rX9_sayingsOf_9 : tA sc iX9_sayingsOf 9 ls (vI y :: vI x :: st) h Q = (if y ≤ x then tA sc iX9_sayingsOf 31 ls st h Q else tA sc iX9_sayingsOf 12 ls st h Q) := tA_if mB_X9_sayingsOf dX9_sayingsOf_9 (fun _ _ _ _ => rfl) rfl
theorem rX9_sayingsOf_12 : tA sc iX9_sayingsOf 12 [vR r, l1, l2, l3] st h Q = tA sc iX9_sayingsOf 13 [vR r, l1, l2, l3] (vR r :: st) h Q := tA_pure mB_X9_sayingsOf dX9_sayingsOf_12 rfl
theorem rX9_sayingsOf_13 : tA sc iX9_sayingsOf 13 ls (vR (some o) :: st) h Q = oz (tget h o [9] 11) (fun v => tA sc iX9_sayingsOf 16 ls (v :: st) h Q) := tA_get mB_X9_sayingsOf mO_X9_sayingsOf dX9_sayingsOf_13 fT_9_51
theorem rX9_sayingsOf_16 : tA sc iX9_sayingsOf 16 [l0, l1, l2, vI x] st h Q = tA sc iX9_sayingsOf 17 [l0, l1, l2, vI x] (vI x :: st) h Q := tA_pure mB_X9_sayingsOf dX9_sayingsOf_16 rfl
theorem rX9_sayingsOf_17 : tA sc iX9_sayingsOf 17 ls (vI j :: vR (some a) :: st) h Q = oz (tald sc h 0 a j) (fun v => tA sc iX9_sayingsOf 18 ls (vI v :: st) h Q) := tA_iald mB_X9_sayingsOf dX9_sayingsOf_17
theorem rX9_sayingsOf_18 : tA sc iX9_sayingsOf 18 [l0, vI x, l2, l3] st h Q = tA sc iX9_sayingsOf 19 [l0, vI x, l2, l3] (vI x :: st) h Q := tA_pure mB_X9_sayingsOf dX9_sayingsOf_18 rfl
theorem rX9_sayingsOf_19 : tA sc iX9_sayingsOf 19 ls (vI y :: vI x :: st) h Q = (if ¬ x = y then tA sc iX9_sayingsOf 25 ls st h Q else tA sc iX9_sayingsOf 22 ls st h Q) := tA_if mB_X9_sayingsOf dX9_sayingsOf_19 (fun _ _ _ _ => rfl) rfl
theorem rX9_sayingsOf_22 : tA sc iX9_sayingsOf 22 [l0, l1, vI x, l3] st h Q = tA sc iX9_sayingsOf 25 [l0, tclr l1, vI (x + 1), l3] st h Q := tA_pure mB_X9_sayingsOf dX9_sayingsOf_22 rfl
theorem rX9_sayingsOf_25 : tA sc iX9_sayingsOf 25 [l0, l1, l2, vI x] st h Q = tA sc iX9_sayingsOf 28 [l0, l1, tclr l2, vI (x + 1)] st h Q := tA_pure mB_X9_sayingsOf dX9_sayingsOf_25 rfl
theorem rX9_sayingsOf_28 : tA sc iX9_sayingsOf 28 ls st h Q = tA sc iX9_sayingsOf 4 ls st h Q := tA_jump mB_X9_sayingsOf dX9_sayingsOf_28 (fun _ _ _ _ => rfl) rfl
theorem rX9_sayingsOf_31 : tA sc iX9_sayingsOf 31 [l0, l1, vI x, l3] st h Q = tA sc iX9_sayingsOf 32 [l0, l1, vI x, l3] (vI x :: st) h Q := tA_pure mB_X9_sayingsOf dX9_sayingsOf_31 rfl
theorem rX9_sayingsOf_32 : tA sc iX9_sayingsOf 32 ls [vI x] h Q = Q (some (vI x)) h := tA_ret mB_X9_sayingsOf dX9_sayingsOf_32 (fun _ _ _ _ => rfl) (fun _ _ _ => rfl) (fun _ _ _ _ _ => rfl) rfl rfl
theorem mB_X9_isRight : mB iX9_isRight = cX9_isRight := rfl
theorem mO_X9_isRight : mO iX9_isRight = 9 := rfl
theorem rX9_isRight_0 : tA sc iX9_isRight 0 [vR r, l1, l2] st h Q = tA sc iX9_isRight 1 [vR r, l1, l2] (vR r :: st) h Q := tA_pure mB_X9_isRight dX9_isRight_0 rfl
theorem rX9_isRight_1 : tA sc iX9_isRight 1 ls (vR (some o) :: st) h Q = oz (tget h o [9] 12) (fun v => tA sc iX9_isRight 4 ls (v :: st) h Q) := tA_get mB_X9_isRight mO_X9_isRight dX9_isRight_1 fT_9_54
theorem rX9_isRight_4 : tA sc iX9_isRight 4 [l0, vI x, l2] st h Q = tA sc iX9_isRight 5 [l0, vI x, l2] (vI x :: st) h Q := tA_pure mB_X9_isRight dX9_isRight_4 rfl
theorem rX9_isRight_5 : tA sc iX9_isRight 5 ls (vI j :: vR (some a) :: st) h Q = oz (tald sc h 0 a j) (fun v => tA sc iX9_isRight 6 ls (vI v :: st) h Q) := tA_iald mB_X9_isRight dX9_isRight_5
theorem rX9_isRight_6 : tA sc iX9_isRight 6 [l0, l1, l2] (vI x :: st) h Q = tA sc iX9_isRight 7 [l0, tclr l1, vI x] st h Q := tA_pure mB_X9_isRight dX9_isRight_6 rfl
theorem rX9_isRight_7 : tA sc iX9_isRight 7 [vR r, l1, l2] st h Q = tA sc iX9_isRight 8 [vR r, l1, l2] (vR r :: st) h Q := tA_pure mB_X9_isRight dX9_isRight_7 rfl
theorem rX9_isRight_8 : tA sc iX9_isRight 8 [l0, l1, vI x] st h Q = tA sc iX9_isRight 9 [l0, l1, vI x] (vI x :: st) h Q := tA_pure mB_X9_isRight dX9_isRight_8 rfl
theorem rX9_isRight_9 (hci : tcl h o = some 9) : tA sc iX9_isRight 9 ls [vI p0, vR (some o)] h Q = tA sc iX9_isOver 0 [vR (some o), vI p0] [] h (fun v h1 => tA sc iX9_isRight 12 ls (tpu v []) h1 Q) := tA_cV mB_X9_isRight mO_X9_isRight dX9_isRight_9 cT_9_98 rfl (Nat.le_of_ble_eq_true rfl) rfl rfl rfl hci
theorem rX9_isRight_12 : tA sc iX9_isRight 12 ls (vI x :: st) h Q = (if x = 0 then tA sc iX9_isRight 34 ls st h Q else tA sc iX9_isRight 15 ls st h Q) := tA_if mB_X9_isRight dX9_isRight_12 (fun _ _ _ _ => rfl) rfl
theorem rX9_isRight_15 : tA sc iX9_isRight 15 [vR r, l1, l2] st h Q = tA sc iX9_isRight 16 [vR r, l1, l2] (vR r :: st) h Q := tA_pure mB_X9_isRight dX9_isRight_15 rfl
theorem rX9_isRight_16 : tA sc iX9_isRight 16 ls (vR (some o) :: st) h Q = oz (tget h o [9] 3) (fun v => tA sc iX9_isRight 19 ls (v :: st) h Q) := tA_get mB_X9_isRight mO_X9_isRight dX9_isRight_16 fT_9_21
theorem rX9_isRight_19 : tA sc iX9_isRight 19 [l0, l1, vI x] st h Q = tA sc iX9_isRight 20 [l0, l1, vI x] (vI x :: st) h Q := tA_pure mB_X9_isRight dX9_isRight_19 rfl
theorem rX9_isRight_20 : tA sc iX9_isRight 20 ls (vI j :: vR (some a) :: st) h Q = oz (tald sc h 0 a j) (fun v => tA sc iX9_isRight 21 ls (vI v :: st) h Q) := tA_iald mB_X9_isRight dX9_isRight_20
theorem rX9_isRight_21 : tA sc iX9_isRight 21 [vR r, l1, l2] st h Q = tA sc iX9_isRight 22 [vR r, l1, l2] (vR r :: st) h Q := tA_pure mB_X9_isRight dX9_isRight_21 rfl
theorem rX9_isRight_22 : tA sc iX9_isRight 22 ls (vR (some o) :: st) h Q = oz (tget h o [9] 13) (fun v => tA sc iX9_isRight 25 ls (v :: st) h Q) := tA_get mB_X9_isRight mO_X9_isRight dX9_isRight_22 fT_9_57
theorem rX9_isRight_25 : tA sc iX9_isRight 25 [l0, vI x, l2] st h Q = tA sc iX9_isRight 26 [l0, vI x, l2] (vI x :: st) h Q := tA_pure mB_X9_isRight dX9_isRight_25 rfl
theorem rX9_isRight_26 : tA sc iX9_isRight 26 ls (vI j :: vR (some a) :: st) h Q = oz (tald sc h 0 a j) (fun v => tA sc iX9_isRight 27 ls (vI v :: st) h Q) := tA_iald mB_X9_isRight dX9_isRight_26
theorem rX9_isRight_27 : tA sc iX9_isRight 27 ls (vI y :: vI x :: st) h Q = (if ¬ x = y then tA sc iX9_isRight 34 ls st h Q else tA sc iX9_isRight 30 ls st h Q) := tA_if mB_X9_isRight dX9_isRight_27 (fun _ _ _ _ => rfl) rfl
theorem rX9_isRight_30 : tA sc iX9_isRight 30 ls st h Q = tA sc iX9_isRight 31 ls (vI (1) :: st) h Q := tA_pure mB_X9_isRight dX9_isRight_30 rfl
theorem rX9_isRight_31 : tA sc iX9_isRight 31 ls st h Q = tA sc iX9_isRight 35 ls st h Q := tA_jump mB_X9_isRight dX9_isRight_31 (fun _ _ _ _ => rfl) rfl
theorem rX9_isRight_34 : tA sc iX9_isRight 34 ls st h Q = tA sc iX9_isRight 35 ls (vI (0) :: st) h Q := tA_pure mB_X9_isRight dX9_isRight_34 rfl
theorem rX9_isRight_35 : tA sc iX9_isRight 35 ls [vI x] h Q = ((x = 0 ∨ x = 1) ∧ Q (some (vI x)) h) := tA_retz mB_X9_isRight dX9_isRight_35 rfl
theorem mB_X9_overOf : mB iX9_overOf = cX9_overOf := rfl
theorem mO_X9_overOf : mO iX9_overOf = 9 := rfl
theorem rX9_overOf_0 : tA sc iX9_overOf 0 ls st h Q = tA sc iX9_overOf 1 ls (vI (0) :: st) h Q := tA_pure mB_X9_overOf dX9_overOf_0 rfl
theorem rX9_overOf_1 : tA sc iX9_overOf 1 [l0, l1, l2, l3] (vI x :: st) h Q = tA sc iX9_overOf 2 [l0, tclr l1, vI x, l3] st h Q := tA_pure mB_X9_overOf dX9_overOf_1 rfl
theorem rX9_overOf_2 : tA sc iX9_overOf 2 ls st h Q = tA sc iX9_overOf 3 ls (vI (0) :: st) h Q := tA_pure mB_X9_overOf dX9_overOf_2 rfl
theorem rX9_overOf_3 : tA sc iX9_overOf 3 [l0, l1, l2, l3] (vI x :: st) h Q = tA sc iX9_overOf 4 [l0, l1, tclr l2, vI x] st h Q := tA_pure mB_X9_overOf dX9_overOf_3 rfl
theorem rX9_overOf_4 : tA sc iX9_overOf 4 [l0, l1, l2, vI x] st h Q = tA sc iX9_overOf 5 [l0, l1, l2, vI x] (vI x :: st) h Q := tA_pure mB_X9_overOf dX9_overOf_4 rfl
theorem rX9_overOf_5 : tA sc iX9_overOf 5 [vR r, l1, l2, l3] st h Q = tA sc iX9_overOf 6 [vR r, l1, l2, l3] (vR r :: st) h Q := tA_pure mB_X9_overOf dX9_overOf_5 rfl
theorem rX9_overOf_6 : tA sc iX9_overOf 6 ls (vR (some o) :: st) h Q = oz (tget h o [9] 14) (fun v => tA sc iX9_overOf 9 ls (v :: st) h Q) := tA_get mB_X9_overOf mO_X9_overOf dX9_overOf_6 fT_9_73
theorem rX9_overOf_9 : tA sc iX9_overOf 9 ls (vI y :: vI x :: st) h Q = (if y ≤ x then tA sc iX9_overOf 44 ls st h Q else tA sc iX9_overOf 12 ls st h Q) := tA_if mB_X9_overOf dX9_overOf_9 (fun _ _ _ _ => rfl) rfl
theorem rX9_overOf_12 : tA sc iX9_overOf 12 [vR r, l1, l2, l3] st h Q = tA sc iX9_overOf 13 [vR r, l1, l2, l3] (vR r :: st) h Q := tA_pure mB_X9_overOf dX9_overOf_12 rfl
theorem rX9_overOf_13 : tA sc iX9_overOf 13 ls (vR (some o) :: st) h Q = oz (tget h o [9] 11) (fun v => tA sc iX9_overOf 16 ls (v :: st) h Q) := tA_get mB_X9_overOf mO_X9_overOf dX9_overOf_13 fT_9_51
theorem rX9_overOf_16 : tA sc iX9_overOf 16 [l0, l1, l2, vI x] st h Q = tA sc iX9_overOf 17 [l0, l1, l2, vI x] (vI x :: st) h Q := tA_pure mB_X9_overOf dX9_overOf_16 rfl
theorem rX9_overOf_17 : tA sc iX9_overOf 17 ls (vI j :: vR (some a) :: st) h Q = oz (tald sc h 0 a j) (fun v => tA sc iX9_overOf 18 ls (vI v :: st) h Q) := tA_iald mB_X9_overOf dX9_overOf_17
theorem rX9_overOf_18 : tA sc iX9_overOf 18 [l0, vI x, l2, l3] st h Q = tA sc iX9_overOf 19 [l0, vI x, l2, l3] (vI x :: st) h Q := tA_pure mB_X9_overOf dX9_overOf_18 rfl
theorem rX9_overOf_19 : tA sc iX9_overOf 19 ls (vI y :: vI x :: st) h Q = (if ¬ x = y then tA sc iX9_overOf 38 ls st h Q else tA sc iX9_overOf 22 ls st h Q) := tA_if mB_X9_overOf dX9_overOf_19 (fun _ _ _ _ => rfl) rfl
theorem rX9_overOf_22 : tA sc iX9_overOf 22 [vR r, l1, l2, l3] st h Q = tA sc iX9_overOf 23 [vR r, l1, l2, l3] (vR r :: st) h Q := tA_pure mB_X9_overOf dX9_overOf_22 rfl
theorem rX9_overOf_23 : tA sc iX9_overOf 23 [vR r, l1, l2, l3] st h Q = tA sc iX9_overOf 24 [vR r, l1, l2, l3] (vR r :: st) h Q := tA_pure mB_X9_overOf dX9_overOf_23 rfl
theorem rX9_overOf_24 : tA sc iX9_overOf 24 ls (vR (some o) :: st) h Q = oz (tget h o [9] 12) (fun v => tA sc iX9_overOf 27 ls (v :: st) h Q) := tA_get mB_X9_overOf mO_X9_overOf dX9_overOf_24 fT_9_54
theorem rX9_overOf_27 : tA sc iX9_overOf 27 [l0, l1, l2, vI x] st h Q = tA sc iX9_overOf 28 [l0, l1, l2, vI x] (vI x :: st) h Q := tA_pure mB_X9_overOf dX9_overOf_27 rfl
theorem rX9_overOf_28 : tA sc iX9_overOf 28 ls (vI j :: vR (some a) :: st) h Q = oz (tald sc h 0 a j) (fun v => tA sc iX9_overOf 29 ls (vI v :: st) h Q) := tA_iald mB_X9_overOf dX9_overOf_28
theorem rX9_overOf_29 (hci : tcl h o = some 9) : tA sc iX9_overOf 29 ls [vI p0, vR (some o)] h Q = tA sc iX9_isOver 0 [vR (some o), vI p0] [] h (fun v h1 => tA sc iX9_overOf 32 ls (tpu v []) h1 Q) := tA_cV mB_X9_overOf mO_X9_overOf dX9_overOf_29 cT_9_98 rfl (Nat.le_of_ble_eq_true rfl) rfl rfl rfl hci
theorem rX9_overOf_32 : tA sc iX9_overOf 32 ls (vI x :: st) h Q = (if x = 0 then tA sc iX9_overOf 38 ls st h Q else tA sc iX9_overOf 35 ls st h Q) := tA_if mB_X9_overOf dX9_overOf_32 (fun _ _ _ _ => rfl) rfl
theorem rX9_overOf_35 : tA sc iX9_overOf 35 [l0, l1, vI x, l3] st h Q = tA sc iX9_overOf 38 [l0, tclr l1, vI (x + 1), l3] st h Q := tA_pure mB_X9_overOf dX9_overOf_35 rfl
theorem rX9_overOf_38 : tA sc iX9_overOf 38 [l0, l1, l2, vI x] st h Q = tA sc iX9_overOf 41 [l0, l1, tclr l2, vI (x + 1)] st h Q := tA_pure mB_X9_overOf dX9_overOf_38 rfl
theorem rX9_overOf_41 : tA sc iX9_overOf 41 ls st h Q = tA sc iX9_overOf 4 ls st h Q := tA_jump mB_X9_overOf dX9_overOf_41 (fun _ _ _ _ => rfl) rfl
theorem rX9_overOf_44 : tA sc iX9_overOf 44 [l0, l1, vI x, l3] st h Q = tA sc iX9_overOf 45 [l0, l1, vI x, l3] (vI x :: st) h Q := tA_pure mB_X9_overOf dX9_overOf_44 rfl
theorem rX9_overOf_45 : tA sc iX9_overOf 45 ls [vI x] h Q = Q (some (vI x)) h := tA_ret mB_X9_overOf dX9_overOf_45 (fun _ _ _ _ => rfl) (fun _ _ _ => rfl) (fun _ _ _ _ _ => rfl) rfl rfl
theorem mB_X9_rightOf : mB iX9_rightOf = cX9_rightOf := rfl
theorem mO_X9_rightOf : mO iX9_rightOf = 9 := rfl
theorem rX9_rightOf_0 : tA sc iX9_rightOf 0 ls st h Q = tA sc iX9_rightOf 1 ls (vI (0) :: st) h Q := tA_pure mB_X9_rightOf dX9_rightOf_0 rfl
theorem rX9_rightOf_1 : tA sc iX9_rightOf 1 [l0, l1, l2, l3] (vI x :: st) h Q = tA sc iX9_rightOf 2 [l0, tclr l1, vI x, l3] st h Q := tA_pure mB_X9_rightOf dX9_rightOf_1 rfl
theorem rX9_rightOf_2 : tA sc iX9_rightOf 2 ls st h Q = tA sc iX9_rightOf 3 ls (vI (0) :: st) h Q := tA_pure mB_X9_rightOf dX9_rightOf_2 rfl
theorem rX9_rightOf_3 : tA sc iX9_rightOf 3 [l0, l1, l2, l3] (vI x :: st) h Q = tA sc iX9_rightOf 4 [l0, l1, tclr l2, vI x] st h Q := tA_pure mB_X9_rightOf dX9_rightOf_3 rfl
theorem rX9_rightOf_4 : tA sc iX9_rightOf 4 [l0, l1, l2, vI x] st h Q = tA sc iX9_rightOf 5 [l0, l1, l2, vI x] (vI x :: st) h Q := tA_pure mB_X9_rightOf dX9_rightOf_4 rfl
theorem rX9_rightOf_5 : tA sc iX9_rightOf 5 [vR r, l1, l2, l3] st h Q = tA sc iX9_rightOf 6 [vR r, l1, l2, l3] (vR r :: st) h Q := tA_pure mB_X9_rightOf dX9_rightOf_5 rfl
theorem rX9_rightOf_6 : tA sc iX9_rightOf 6 ls (vR (some o) :: st) h Q = oz (tget h o [9] 14) (fun v => tA sc iX9_rightOf 9 ls (v :: st) h Q) := tA_get mB_X9_rightOf mO_X9_rightOf dX9_rightOf_6 fT_9_73
theorem rX9_rightOf_9 : tA sc iX9_rightOf 9 ls (vI y :: vI x :: st) h Q = (if y ≤ x then tA sc iX9_rightOf 39 ls st h Q else tA sc iX9_rightOf 12 ls st h Q) := tA_if mB_X9_rightOf dX9_rightOf_9 (fun _ _ _ _ => rfl) rfl
theorem rX9_rightOf_12 : tA sc iX9_rightOf 12 [vR r, l1, l2, l3] st h Q = tA sc iX9_rightOf 13 [vR r, l1, l2, l3] (vR r :: st) h Q := tA_pure mB_X9_rightOf dX9_rightOf_12 rfl
theorem rX9_rightOf_13 : tA sc iX9_rightOf 13 ls (vR (some o) :: st) h Q = oz (tget h o [9] 11) (fun v => tA sc iX9_rightOf 16 ls (v :: st) h Q) := tA_get mB_X9_rightOf mO_X9_rightOf dX9_rightOf_13 fT_9_51
theorem rX9_rightOf_16 : tA sc iX9_rightOf 16 [l0, l1, l2, vI x] st h Q = tA sc iX9_rightOf 17 [l0, l1, l2, vI x] (vI x :: st) h Q := tA_pure mB_X9_rightOf dX9_rightOf_16 rfl
theorem rX9_rightOf_17 : tA sc iX9_rightOf 17 ls (vI j :: vR (some a) :: st) h Q = oz (tald sc h 0 a j) (fun v => tA sc iX9_rightOf 18 ls (vI v :: st) h Q) := tA_iald mB_X9_rightOf dX9_rightOf_17
theorem rX9_rightOf_18 : tA sc iX9_rightOf 18 [l0, vI x, l2, l3] st h Q = tA sc iX9_rightOf 19 [l0, vI x, l2, l3] (vI x :: st) h Q := tA_pure mB_X9_rightOf dX9_rightOf_18 rfl
theorem rX9_rightOf_19 : tA sc iX9_rightOf 19 ls (vI y :: vI x :: st) h Q = (if ¬ x = y then tA sc iX9_rightOf 33 ls st h Q else tA sc iX9_rightOf 22 ls st h Q) := tA_if mB_X9_rightOf dX9_rightOf_19 (fun _ _ _ _ => rfl) rfl
theorem rX9_rightOf_22 : tA sc iX9_rightOf 22 [vR r, l1, l2, l3] st h Q = tA sc iX9_rightOf 23 [vR r, l1, l2, l3] (vR r :: st) h Q := tA_pure mB_X9_rightOf dX9_rightOf_22 rfl
theorem rX9_rightOf_23 : tA sc iX9_rightOf 23 [l0, l1, l2, vI x] st h Q = tA sc iX9_rightOf 24 [l0, l1, l2, vI x] (vI x :: st) h Q := tA_pure mB_X9_rightOf dX9_rightOf_23 rfl
theorem rX9_rightOf_24 (hci : tcl h o = some 9) : tA sc iX9_rightOf 24 ls [vI p0, vR (some o)] h Q = tA sc iX9_isRight 0 [vR (some o), vI p0, vU] [] h (fun v h1 => tA sc iX9_rightOf 27 ls (tpu v []) h1 Q) := tA_cV mB_X9_rightOf mO_X9_rightOf dX9_rightOf_24 cT_9_102 rfl (Nat.le_of_ble_eq_true rfl) rfl rfl rfl hci
theorem rX9_rightOf_27 : tA sc iX9_rightOf 27 ls (vI x :: st) h Q = (if x = 0 then tA sc iX9_rightOf 33 ls st h Q else tA sc iX9_rightOf 30 ls st h Q) := tA_if mB_X9_rightOf dX9_rightOf_27 (fun _ _ _ _ => rfl) rfl
theorem rX9_rightOf_30 : tA sc iX9_rightOf 30 [l0, l1, vI x, l3] st h Q = tA sc iX9_rightOf 33 [l0, tclr l1, vI (x + 1), l3] st h Q := tA_pure mB_X9_rightOf dX9_rightOf_30 rfl
theorem rX9_rightOf_33 : tA sc iX9_rightOf 33 [l0, l1, l2, vI x] st h Q = tA sc iX9_rightOf 36 [l0, l1, tclr l2, vI (x + 1)] st h Q := tA_pure mB_X9_rightOf dX9_rightOf_33 rfl
theorem rX9_rightOf_36 : tA sc iX9_rightOf 36 ls st h Q = tA sc iX9_rightOf 4 ls st h Q := tA_jump mB_X9_rightOf dX9_rightOf_36 (fun _ _ _ _ => rfl) rfl
theorem rX9_rightOf_39 : tA sc iX9_rightOf 39 [l0, l1, vI x, l3] st h Q = tA sc iX9_rightOf 40 [l0, l1, vI x, l3] (vI x :: st) h Q := tA_pure mB_X9_rightOf dX9_rightOf_39 rfl
theorem rX9_rightOf_40 : tA sc iX9_rightOf 40 ls [vI x] h Q = Q (some (vI x)) h := tA_ret mB_X9_rightOf dX9_rightOf_40 (fun _ _ _ _ => rfl) (fun _ _ _ => rfl) (fun _ _ _ _ _ => rfl) rfl rfl
theorem mB_X9_ownerOf : mB iX9_ownerOf = cX9_ownerOf := rfl
theorem mO_X9_ownerOf : mO iX9_ownerOf = 9 := rfl
theorem rX9_ownerOf_0 : tA sc iX9_ownerOf 0 ls st h Q = tA sc iX9_ownerOf 1 ls (vI (0) :: st) h Q := tA_pure mB_X9_ownerOf dX9_ownerOf_0 rfl
theorem rX9_ownerOf_1 : tA sc iX9_ownerOf 1 [l0, l1, l2] (vI x :: st) h Q = tA sc iX9_ownerOf 2 [l0, tclr l1, vI x] st h Q := tA_pure mB_X9_ownerOf dX9_ownerOf_1 rfl
theorem rX9_ownerOf_2 : tA sc iX9_ownerOf 2 [l0, l1, vI x] st h Q = tA sc iX9_ownerOf 3 [l0, l1, vI x] (vI x :: st) h Q := tA_pure mB_X9_ownerOf dX9_ownerOf_2 rfl
theorem rX9_ownerOf_3 : tA sc iX9_ownerOf 3 [vR r, l1, l2] st h Q = tA sc iX9_ownerOf 4 [vR r, l1, l2] (vR r :: st) h Q := tA_pure mB_X9_ownerOf dX9_ownerOf_3 rfl
theorem rX9_ownerOf_4 : tA sc iX9_ownerOf 4 ls (vR (some o) :: st) h Q = oz (tget h o [9] 14) (fun v => tA sc iX9_ownerOf 7 ls (v :: st) h Q) := tA_get mB_X9_ownerOf mO_X9_ownerOf dX9_ownerOf_4 fT_9_73
theorem rX9_ownerOf_7 : tA sc iX9_ownerOf 7 ls (vI y :: vI x :: st) h Q = (if y ≤ x then tA sc iX9_ownerOf 41 ls st h Q else tA sc iX9_ownerOf 10 ls st h Q) := tA_if mB_X9_ownerOf dX9_ownerOf_7 (fun _ _ _ _ => rfl) rfl
theorem rX9_ownerOf_10 : tA sc iX9_ownerOf 10 [vR r, l1, l2] st h Q = tA sc iX9_ownerOf 11 [vR r, l1, l2] (vR r :: st) h Q := tA_pure mB_X9_ownerOf dX9_ownerOf_10 rfl
theorem rX9_ownerOf_11 : tA sc iX9_ownerOf 11 ls (vR (some o) :: st) h Q = oz (tget h o [9] 12) (fun v => tA sc iX9_ownerOf 14 ls (v :: st) h Q) := tA_get mB_X9_ownerOf mO_X9_ownerOf dX9_ownerOf_11 fT_9_54
theorem rX9_ownerOf_14 : tA sc iX9_ownerOf 14 [l0, l1, vI x] st h Q = tA sc iX9_ownerOf 15 [l0, l1, vI x] (vI x :: st) h Q := tA_pure mB_X9_ownerOf dX9_ownerOf_14 rfl
theorem rX9_ownerOf_15 : tA sc iX9_ownerOf 15 ls (vI j :: vR (some a) :: st) h Q = oz (tald sc h 0 a j) (fun v => tA sc iX9_ownerOf 16 ls (vI v :: st) h Q) := tA_iald mB_X9_ownerOf dX9_ownerOf_15
theorem rX9_ownerOf_16 : tA sc iX9_ownerOf 16 [l0, vI x, l2] st h Q = tA sc iX9_ownerOf 17 [l0, vI x, l2] (vI x :: st) h Q := tA_pure mB_X9_ownerOf dX9_ownerOf_16 rfl
theorem rX9_ownerOf_17 : tA sc iX9_ownerOf 17 ls (vI y :: vI x :: st) h Q = (if ¬ x = y then tA sc iX9_ownerOf 35 ls st h Q else tA sc iX9_ownerOf 20 ls st h Q) := tA_if mB_X9_ownerOf dX9_ownerOf_17 (fun _ _ _ _ => rfl) rfl
theorem rX9_ownerOf_20 : tA sc iX9_ownerOf 20 [vR r, l1, l2] st h Q = tA sc iX9_ownerOf 21 [vR r, l1, l2] (vR r :: st) h Q := tA_pure mB_X9_ownerOf dX9_ownerOf_20 rfl
theorem rX9_ownerOf_21 : tA sc iX9_ownerOf 21 [l0, l1, vI x] st h Q = tA sc iX9_ownerOf 22 [l0, l1, vI x] (vI x :: st) h Q := tA_pure mB_X9_ownerOf dX9_ownerOf_21 rfl
theorem rX9_ownerOf_22 (hci : tcl h o = some 9) : tA sc iX9_ownerOf 22 ls [vI p0, vR (some o)] h Q = tA sc iX9_isRight 0 [vR (some o), vI p0, vU] [] h (fun v h1 => tA sc iX9_ownerOf 25 ls (tpu v []) h1 Q) := tA_cV mB_X9_ownerOf mO_X9_ownerOf dX9_ownerOf_22 cT_9_102 rfl (Nat.le_of_ble_eq_true rfl) rfl rfl rfl hci
theorem rX9_ownerOf_25 : tA sc iX9_ownerOf 25 ls (vI x :: st) h Q = (if x = 0 then tA sc iX9_ownerOf 35 ls st h Q else tA sc iX9_ownerOf 28 ls st h Q) := tA_if mB_X9_ownerOf dX9_ownerOf_25 (fun _ _ _ _ => rfl) rfl
theorem rX9_ownerOf_28 : tA sc iX9_ownerOf 28 [vR r, l1, l2] st h Q = tA sc iX9_ownerOf 29 [vR r, l1, l2] (vR r :: st) h Q := tA_pure mB_X9_ownerOf dX9_ownerOf_28 rfl
theorem rX9_ownerOf_29 : tA sc iX9_ownerOf 29 ls (vR (some o) :: st) h Q = oz (tget h o [9] 11) (fun v => tA sc iX9_ownerOf 32 ls (v :: st) h Q) := tA_get mB_X9_ownerOf mO_X9_ownerOf dX9_ownerOf_29 fT_9_51
theorem rX9_ownerOf_32 : tA sc iX9_ownerOf 32 [l0, l1, vI x] st h Q = tA sc iX9_ownerOf 33 [l0, l1, vI x] (vI x :: st) h Q := tA_pure mB_X9_ownerOf dX9_ownerOf_32 rfl
theorem rX9_ownerOf_33 : tA sc iX9_ownerOf 33 ls (vI j :: vR (some a) :: st) h Q = oz (tald sc h 0 a j) (fun v => tA sc iX9_ownerOf 34 ls (vI v :: st) h Q) := tA_iald mB_X9_ownerOf dX9_ownerOf_33
theorem rX9_ownerOf_34 : tA sc iX9_ownerOf 34 ls [vI x] h Q = Q (some (vI x)) h := tA_ret mB_X9_ownerOf dX9_ownerOf_34 (fun _ _ _ _ => rfl) (fun _ _ _ => rfl) (fun _ _ _ _ _ => rfl) rfl rfl
theorem rX9_ownerOf_35 : tA sc iX9_ownerOf 35 [l0, l1, vI x] st h Q = tA sc iX9_ownerOf 38 [l0, tclr l1, vI (x + 1)] st h Q := tA_pure mB_X9_ownerOf dX9_ownerOf_35 rfl
theorem rX9_ownerOf_38 : tA sc iX9_ownerOf 38 ls st h Q = tA sc iX9_ownerOf 2 ls st h Q := tA_jump mB_X9_ownerOf dX9_ownerOf_38 (fun _ _ _ _ => rfl) rfl
theorem rX9_ownerOf_41 : tA sc iX9_ownerOf 41 ls st h Q = tA sc iX9_ownerOf 42 ls (vI (-1) :: st) h Q := tA_pure mB_X9_ownerOf dX9_ownerOf_41 rfl
theorem rX9_ownerOf_42 : tA sc iX9_ownerOf 42 ls [vI x] h Q = Q (some (vI x)) h := tA_ret mB_X9_ownerOf dX9_ownerOf_42 (fun _ _ _ _ => rfl) (fun _ _ _ => rfl) (fun _ _ _ _ _ => rfl) rfl rfl
theorem mB_X9_pursesTogether : mB iX9_pursesTogether = cX9_pursesTogether := rfl
theorem mO_X9_pursesTogether : mO iX9_pursesTogether = 9 := rfl
theorem rX9_pursesTogether_0 : tA sc iX9_pursesTogether 0 ls st h Q = tA sc iX9_pursesTogether 1 ls (vI (0) :: st) h Q := tA_pure mB_X9_pursesTogether dX9_pursesTogether_0 rfl
theorem rX9_pursesTogether_1 : tA sc iX9_pursesTogether 1 [l0, l1, l2] (vI x :: st) h Q = tA sc iX9_pursesTogether 2 [tclr l0, vI x, l2] st h Q := tA_pure mB_X9_pursesTogether dX9_pursesTogether_1 rfl
theorem rX9_pursesTogether_2 : tA sc iX9_pursesTogether 2 ls st h Q = tA sc iX9_pursesTogether 3 ls (vI (0) :: st) h Q := tA_pure mB_X9_pursesTogether dX9_pursesTogether_2 rfl
theorem rX9_pursesTogether_3 : tA sc iX9_pursesTogether 3 [l0, l1, l2] (vI x :: st) h Q = tA sc iX9_pursesTogether 4 [l0, tclr l1, vI x] st h Q := tA_pure mB_X9_pursesTogether dX9_pursesTogether_3 rfl
theorem rX9_pursesTogether_4 : tA sc iX9_pursesTogether 4 [l0, l1, vI x] st h Q = tA sc iX9_pursesTogether 5 [l0, l1, vI x] (vI x :: st) h Q := tA_pure mB_X9_pursesTogether dX9_pursesTogether_4 rfl
theorem rX9_pursesTogether_5 : tA sc iX9_pursesTogether 5 [vR r, l1, l2] st h Q = tA sc iX9_pursesTogether 6 [vR r, l1, l2] (vR r :: st) h Q := tA_pure mB_X9_pursesTogether dX9_pursesTogether_5 rfl
theorem rX9_pursesTogether_6 : tA sc iX9_pursesTogether 6 ls (vR (some o) :: st) h Q = oz (tget h o [9] 10) (fun v => tA sc iX9_pursesTogether 9 ls (v :: st) h Q) := tA_get mB_X9_pursesTogether mO_X9_pursesTogether dX9_pursesTogether_6 fT_9_70
theorem rX9_pursesTogether_9 : tA sc iX9_pursesTogether 9 ls (vI y :: vI x :: st) h Q = (if y ≤ x then tA sc iX9_pursesTogether 27 ls st h Q else tA sc iX9_pursesTogether 12 ls st h Q) := tA_if mB_X9_pursesTogether dX9_pursesTogether_9 (fun _ _ _ _ => rfl) rfl
theorem rX9_pursesTogether_12 : tA sc iX9_pursesTogether 12 [l0, vI x, l2] st h Q = tA sc iX9_pursesTogether 13 [l0, vI x, l2] (vI x :: st) h Q := tA_pure mB_X9_pursesTogether dX9_pursesTogether_12 rfl
theorem rX9_pursesTogether_13 : tA sc iX9_pursesTogether 13 [vR r, l1, l2] st h Q = tA sc iX9_pursesTogether 14 [vR r, l1, l2] (vR r :: st) h Q := tA_pure mB_X9_pursesTogether dX9_pursesTogether_13 rfl
theorem rX9_pursesTogether_14 : tA sc iX9_pursesTogether 14 ls (vR (some o) :: st) h Q = oz (tget h o [9] 9) (fun v => tA sc iX9_pursesTogether 17 ls (v :: st) h Q) := tA_get mB_X9_pursesTogether mO_X9_pursesTogether dX9_pursesTogether_14 fT_9_48
theorem rX9_pursesTogether_17 : tA sc iX9_pursesTogether 17 [l0, l1, vI x] st h Q = tA sc iX9_pursesTogether 18 [l0, l1, vI x] (vI x :: st) h Q := tA_pure mB_X9_pursesTogether dX9_pursesTogether_17 rfl
theorem rX9_pursesTogether_18 : tA sc iX9_pursesTogether 18 ls (vI j :: vR (some a) :: st) h Q = oz (tald sc h 0 a j) (fun v => tA sc iX9_pursesTogether 19 ls (vI v :: st) h Q) := tA_iald mB_X9_pursesTogether dX9_pursesTogether_18
theorem rX9_pursesTogether_19 : tA sc iX9_pursesTogether 19 ls (vI y :: vI x :: st) h Q = tA sc iX9_pursesTogether 20 ls (vI (x + y) :: st) h Q := tA_pure mB_X9_pursesTogether dX9_pursesTogether_19 rfl
theorem rX9_pursesTogether_20 : tA sc iX9_pursesTogether 20 [l0, l1, l2] (vI x :: st) h Q = tA sc iX9_pursesTogether 21 [tclr l0, vI x, l2] st h Q := tA_pure mB_X9_pursesTogether dX9_pursesTogether_20 rfl
theorem rX9_pursesTogether_21 : tA sc iX9_pursesTogether 21 [l0, l1, vI x] st h Q = tA sc iX9_pursesTogether 24 [l0, tclr l1, vI (x + 1)] st h Q := tA_pure mB_X9_pursesTogether dX9_pursesTogether_21 rfl
theorem rX9_pursesTogether_24 : tA sc iX9_pursesTogether 24 ls st h Q = tA sc iX9_pursesTogether 4 ls st h Q := tA_jump mB_X9_pursesTogether dX9_pursesTogether_24 (fun _ _ _ _ => rfl) rfl
theorem rX9_pursesTogether_27 : tA sc iX9_pursesTogether 27 [l0, vI x, l2] st h Q = tA sc iX9_pursesTogether 28 [l0, vI x, l2] (vI x :: st) h Q := tA_pure mB_X9_pursesTogether dX9_pursesTogether_27 rfl
theorem rX9_pursesTogether_28 : tA sc iX9_pursesTogether 28 ls [vI x] h Q = Q (some (vI x)) h := tA_ret mB_X9_pursesTogether dX9_pursesTogether_28 (fun _ _ _ _ => rfl) (fun _ _ _ => rfl) (fun _ _ _ _ _ => rfl) rfl rfl
theorem mB_X9_dayToSay : mB iX9_dayToSay = cX9_dayToSay := rfl
theorem mO_X9_dayToSay : mO iX9_dayToSay = 9 := rfl
theorem rX9_dayToSay_0 : tA sc iX9_dayToSay 0 [vR r, l1] st h Q = tA sc iX9_dayToSay 1 [vR r, l1] (vR r :: st) h Q := tA_pure mB_X9_dayToSay dX9_dayToSay_0 rfl
theorem rX9_dayToSay_1 : tA sc iX9_dayToSay 1 ls (vR (some o) :: st) h Q = oz (tget h o [9] 6) (fun v => tA sc iX9_dayToSay 4 ls (v :: st) h Q) := tA_get mB_X9_dayToSay mO_X9_dayToSay dX9_dayToSay_1 fT_9_67
theorem rX9_dayToSay_4 : tA sc iX9_dayToSay 4 ls st h Q = tA sc iX9_dayToSay 6 ls (vI (20) :: st) h Q := tA_pure mB_X9_dayToSay dX9_dayToSay_4 rfl
theorem rX9_dayToSay_6 : tA sc iX9_dayToSay 6 ls (vI y :: vI x :: st) h Q = (if y ≤ x then tA sc iX9_dayToSay 16 ls st h Q else tA sc iX9_dayToSay 9 ls st h Q) := tA_if mB_X9_dayToSay dX9_dayToSay_6 (fun _ _ _ _ => rfl) rfl
theorem rX9_dayToSay_9 : tA sc iX9_dayToSay 9 [vR r, l1] st h Q = tA sc iX9_dayToSay 10 [vR r, l1] (vR r :: st) h Q := tA_pure mB_X9_dayToSay dX9_dayToSay_9 rfl
theorem rX9_dayToSay_10 (hci : tcl h o = some 9) : tA sc iX9_dayToSay 10 ls [vR (some o)] h Q = tA sc iX9_room 0 [vR (some o)] [] h (fun v h1 => tA sc iX9_dayToSay 13 ls (tpu v []) h1 Q) := tA_cV mB_X9_dayToSay mO_X9_dayToSay dX9_dayToSay_10 cT_9_105 rfl (Nat.le_of_ble_eq_true rfl) rfl rfl rfl hci
theorem rX9_dayToSay_13 : tA sc iX9_dayToSay 13 ls (vI x :: st) h Q = (if ¬ x = 0 then tA sc iX9_dayToSay 20 ls st h Q else tA sc iX9_dayToSay 16 ls st h Q) := tA_if mB_X9_dayToSay dX9_dayToSay_13 (fun _ _ _ _ => rfl) rfl
theorem rX9_dayToSay_16 : tA sc iX9_dayToSay 16 ls st h Q = tA sc iX9_dayToSay 17 ls (vI (-1) :: st) h Q := tA_pure mB_X9_dayToSay dX9_dayToSay_16 rfl
theorem rX9_dayToSay_17 : tA sc iX9_dayToSay 17 ls st h Q = tA sc iX9_dayToSay 25 ls st h Q := tA_jump mB_X9_dayToSay dX9_dayToSay_17 (fun _ _ _ _ => rfl) rfl
theorem rX9_dayToSay_20 : tA sc iX9_dayToSay 20 [l0, vR r] st h Q = tA sc iX9_dayToSay 21 [l0, vR r] (vR r :: st) h Q := tA_pure mB_X9_dayToSay dX9_dayToSay_20 rfl
theorem rX9_dayToSay_21 : tA sc iX9_dayToSay 21 [vR r, l1] st h Q = tA sc iX9_dayToSay 22 [vR r, l1] (vR r :: st) h Q := tA_pure mB_X9_dayToSay dX9_dayToSay_21 rfl
theorem rX9_dayToSay_22_0 (hci : tcl h o = some 0) : tA sc iX9_dayToSay 22 ls [vR n0, vR (some o)] h Q = tA sc iX2_chosenDay 0 [vR (some o), vR n0] [] h (fun v h1 => tA sc iX9_dayToSay 25 ls (tpu v []) h1 Q) := tA_cV mB_X9_dayToSay mO_X9_dayToSay dX9_dayToSay_22 cT_9_109 rfl (Nat.le_of_ble_eq_true rfl) rfl rfl rfl hci
theorem rX9_dayToSay_22_2 (hci : tcl h o = some 2) : tA sc iX9_dayToSay 22 ls [vR n0, vR (some o)] h Q = tA sc iX2_chosenDay 0 [vR (some o), vR n0] [] h (fun v h1 => tA sc iX9_dayToSay 25 ls (tpu v []) h1 Q) := tA_cV mB_X9_dayToSay mO_X9_dayToSay dX9_dayToSay_22 cT_9_109 rfl (Nat.le_of_ble_eq_true rfl) rfl rfl rfl hci
theorem rX9_dayToSay_22_3 (hci : tcl h o = some 3) : tA sc iX9_dayToSay 22 ls [vR n0, vR (some o)] h Q = tA sc iX3_chosenDay 0 [vR (some o), vR n0] [] h (fun v h1 => tA sc iX9_dayToSay 25 ls (tpu v []) h1 Q) := tA_cV mB_X9_dayToSay mO_X9_dayToSay dX9_dayToSay_22 cT_9_109 rfl (Nat.le_of_ble_eq_true rfl) rfl rfl rfl hci
theorem rX9_dayToSay_22_4 (hci : tcl h o = some 4) : tA sc iX9_dayToSay 22 ls [vR n0, vR (some o)] h Q = tA sc iX4_chosenDay 0 [vR (some o), vR n0] [] h (fun v h1 => tA sc iX9_dayToSay 25 ls (tpu v []) h1 Q) := tA_cV mB_X9_dayToSay mO_X9_dayToSay dX9_dayToSay_22 cT_9_109 rfl (Nat.le_of_ble_eq_true rfl) rfl rfl rfl hci
theorem rX9_dayToSay_22_6 (hci : tcl h o = some 6) : tA sc iX9_dayToSay 22 ls [vR n0, vR (some o)] h Q = tA sc iX6_chosenDay 0 [vR (some o), vR n0, vU, vU] [] h (fun v h1 => tA sc iX9_dayToSay 25 ls (tpu v []) h1 Q) := tA_cV mB_X9_dayToSay mO_X9_dayToSay dX9_dayToSay_22 cT_9_109 rfl (Nat.le_of_ble_eq_true rfl) rfl rfl rfl hci
theorem rX9_dayToSay_22_7 (hci : tcl h o = some 7) : tA sc iX9_dayToSay 22 ls [vR n0, vR (some o)] h Q = tA sc iX7_chosenDay 0 [vR (some o), vR n0] [] h (fun v h1 => tA sc iX9_dayToSay 25 ls (tpu v []) h1 Q) := tA_cV mB_X9_dayToSay mO_X9_dayToSay dX9_dayToSay_22 cT_9_109 rfl (Nat.le_of_ble_eq_true rfl) rfl rfl rfl hci
theorem rX9_dayToSay_25 : tA sc iX9_dayToSay 25 ls [vI x] h Q = Q (some (vI x)) h := tA_ret mB_X9_dayToSay dX9_dayToSay_25 (fun _ _ _ _ => rfl) (fun _ _ _ => rfl) (fun _ _ _ _ _ => rfl) rfl rfl
theorem mB_X9_sayingsAtOnce : mB iX9_sayingsAtOnce = cX9_sayingsAtOnce := rfl
theorem mO_X9_sayingsAtOnce : mO iX9_sayingsAtOnce = 9 := rfl
theorem rX9_sayingsAtOnce_0 : tA sc iX9_sayingsAtOnce 0 [l0, vR r] st h Q = tA sc iX9_sayingsAtOnce 1 [l0, vR r] (vR r :: st) h Q := tA_pure mB_X9_sayingsAtOnce dX9_sayingsAtOnce_0 rfl
theorem rX9_sayingsAtOnce_1_0 (hci : tcl h o = some 0) : tA sc iX9_sayingsAtOnce 1 ls [vR (some o)] h Q = tA sc iX0_breadth 0 [vR (some o)] [] h (fun v h1 => tA sc iX9_sayingsAtOnce 4 ls (tpu v []) h1 Q) := tA_cV mB_X9_sayingsAtOnce mO_X9_sayingsAtOnce dX9_sayingsAtOnce_1 cT_9_113 rfl (Nat.le_of_ble_eq_true rfl) rfl rfl rfl hci
theorem rX9_sayingsAtOnce_1_2 (hci : tcl h o = some 2) : tA sc iX9_sayingsAtOnce 1 ls [vR (some o)] h Q = tA sc iX4_breadth 0 [vR (some o)] [] h (fun v h1 => tA sc iX9_sayingsAtOnce 4 ls (tpu v []) h1 Q) := tA_cV mB_X9_sayingsAtOnce mO_X9_sayingsAtOnce dX9_sayingsAtOnce_1 cT_9_113 rfl (Nat.le_of_ble_eq_true rfl) rfl rfl rfl hci
theorem rX9_sayingsAtOnce_1_3 (hci : tcl h o = some 3) : tA sc iX9_sayingsAtOnce 1 ls [vR (some o)] h Q = tA sc iX4_breadth 0 [vR (some o)] [] h (fun v h1 => tA sc iX9_sayingsAtOnce 4 ls (tpu v []) h1 Q) := tA_cV mB_X9_sayingsAtOnce mO_X9_sayingsAtOnce dX9_sayingsAtOnce_1 cT_9_113 rfl (Nat.le_of_ble_eq_true rfl) rfl rfl rfl hci
theorem rX9_sayingsAtOnce_1_4 (hci : tcl h o = some 4) : tA sc iX9_sayingsAtOnce 1 ls [vR (some o)] h Q = tA sc iX4_breadth 0 [vR (some o)] [] h (fun v h1 => tA sc iX9_sayingsAtOnce 4 ls (tpu v []) h1 Q) := tA_cV mB_X9_sayingsAtOnce mO_X9_sayingsAtOnce dX9_sayingsAtOnce_1 cT_9_113 rfl (Nat.le_of_ble_eq_true rfl) rfl rfl rfl hci
theorem rX9_sayingsAtOnce_1_6 (hci : tcl h o = some 6) : tA sc iX9_sayingsAtOnce 1 ls [vR (some o)] h Q = tA sc iX4_breadth 0 [vR (some o)] [] h (fun v h1 => tA sc iX9_sayingsAtOnce 4 ls (tpu v []) h1 Q) := tA_cV mB_X9_sayingsAtOnce mO_X9_sayingsAtOnce dX9_sayingsAtOnce_1 cT_9_113 rfl (Nat.le_of_ble_eq_true rfl) rfl rfl rfl hci
theorem rX9_sayingsAtOnce_1_7 (hci : tcl h o = some 7) : tA sc iX9_sayingsAtOnce 1 ls [vR (some o)] h Q = tA sc iX4_breadth 0 [vR (some o)] [] h (fun v h1 => tA sc iX9_sayingsAtOnce 4 ls (tpu v []) h1 Q) := tA_cV mB_X9_sayingsAtOnce mO_X9_sayingsAtOnce dX9_sayingsAtOnce_1 cT_9_113 rfl (Nat.le_of_ble_eq_true rfl) rfl rfl rfl hci
theorem rX9_sayingsAtOnce_4 : tA sc iX9_sayingsAtOnce 4 [vR r, l1] st h Q = tA sc iX9_sayingsAtOnce 5 [vR r, l1] (vR r :: st) h Q := tA_pure mB_X9_sayingsAtOnce dX9_sayingsAtOnce_4 rfl
theorem rX9_sayingsAtOnce_5 (hci : tcl h o = some 9) : tA sc iX9_sayingsAtOnce 5 ls [vR (some o), s0] h Q = tA sc iX9_room 0 [vR (some o)] [] h (fun v h1 => tA sc iX9_sayingsAtOnce 8 ls (tpu v [s0]) h1 Q) := tA_cV mB_X9_sayingsAtOnce mO_X9_sayingsAtOnce dX9_sayingsAtOnce_5 cT_9_105 rfl (Nat.le_of_ble_eq_true rfl) rfl rfl rfl hci
theorem rX9_sayingsAtOnce_8 : tA sc iX9_sayingsAtOnce 8 ls [vI p1, vI p0] h Q = tA sc iX9_sayingsAtOnce 11 ls (vI (if p1 < p0 then p1 else p0) :: []) h Q := tA_cN mB_X9_sayingsAtOnce mO_X9_sayingsAtOnce dX9_sayingsAtOnce_8 (fun _ _ _ _ => rfl) (fun _ _ _ => rfl) (fun _ _ _ _ _ => rfl) rfl cT_9_90 rfl rfl
theorem rX9_sayingsAtOnce_11 : tA sc iX9_sayingsAtOnce 11 ls [vI x] h Q = Q (some (vI x)) h := tA_ret mB_X9_sayingsAtOnce dX9_sayingsAtOnce_11 (fun _ _ _ _ => rfl) (fun _ _ _ => rfl) (fun _ _ _ _ _ => rfl) rfl rfl
theorem mB_X9_dawn : mB iX9_dawn = cX9_dawn := rfl
theorem mO_X9_dawn : mO iX9_dawn = 9 := rfl
theorem rX9_dawn_0 : tA sc iX9_dawn 0 [vR r, l1, l2] st h Q = tA sc iX9_dawn 1 [vR r, l1, l2] (vR r :: st) h Q := tA_pure mB_X9_dawn dX9_dawn_0 rfl
theorem rX9_dawn_1 : tA sc iX9_dawn 1 ls (vR (some o) :: st) h Q = oz (tget h o [9] 6) (fun v => tA sc iX9_dawn 4 ls (v :: st) h Q) := tA_get mB_X9_dawn mO_X9_dawn dX9_dawn_1 fT_9_67
theorem rX9_dawn_4 : tA sc iX9_dawn 4 ls st h Q = tA sc iX9_dawn 6 ls (vI (20) :: st) h Q := tA_pure mB_X9_dawn dX9_dawn_4 rfl
theorem rX9_dawn_6 : tA sc iX9_dawn 6 ls (vI y :: vI x :: st) h Q = (if x < y then tA sc iX9_dawn 10 ls st h Q else tA sc iX9_dawn 9 ls st h Q) := tA_if mB_X9_dawn dX9_dawn_6 (fun _ _ _ _ => rfl) rfl
theorem rX9_dawn_9 : tA sc iX9_dawn 9 ls [] h Q = Q (none) h := tA_ret mB_X9_dawn dX9_dawn_9 (fun _ _ _ _ => rfl) (fun _ _ _ => rfl) (fun _ _ _ _ _ => rfl) rfl rfl
theorem rX9_dawn_10 : tA sc iX9_dawn 10 ls st h Q = tA sc iX9_dawn 11 ls (vI (0) :: st) h Q := tA_pure mB_X9_dawn dX9_dawn_10 rfl
theorem rX9_dawn_11 : tA sc iX9_dawn 11 [l0, l1, l2] (vI x :: st) h Q = tA sc iX9_dawn 12 [tclr l0, vI x, l2] st h Q := tA_pure mB_X9_dawn dX9_dawn_11 rfl
theorem rX9_dawn_12 : tA sc iX9_dawn 12 [l0, vI x, l2] st h Q = tA sc iX9_dawn 13 [l0, vI x, l2] (vI x :: st) h Q := tA_pure mB_X9_dawn dX9_dawn_12 rfl
theorem rX9_dawn_13 : tA sc iX9_dawn 13 [vR r, l1, l2] st h Q = tA sc iX9_dawn 14 [vR r, l1, l2] (vR r :: st) h Q := tA_pure mB_X9_dawn dX9_dawn_13 rfl
theorem rX9_dawn_14 : tA sc iX9_dawn 14 ls (vR (some o) :: st) h Q = oz (tget h o [9] 10) (fun v => tA sc iX9_dawn 17 ls (v :: st) h Q) := tA_get mB_X9_dawn mO_X9_dawn dX9_dawn_14 fT_9_70
theorem rX9_dawn_17 : tA sc iX9_dawn 17 ls (vI y :: vI x :: st) h Q = (if y ≤ x then tA sc iX9_dawn 42 ls st h Q else tA sc iX9_dawn 20 ls st h Q) := tA_if mB_X9_dawn dX9_dawn_17 (fun _ _ _ _ => rfl) rfl
theorem rX9_dawn_20 : tA sc iX9_dawn 20 [vR r, l1, l2] st h Q = tA sc iX9_dawn 21 [vR r, l1, l2] (vR r :: st) h Q := tA_pure mB_X9_dawn dX9_dawn_20 rfl
theorem rX9_dawn_21 : tA sc iX9_dawn 21 ls (vR (some o) :: st) h Q = oz (tget h o [9] 8) (fun v => tA sc iX9_dawn 24 ls (v :: st) h Q) := tA_get mB_X9_dawn mO_X9_dawn dX9_dawn_21 fT_9_44
theorem rX9_dawn_24 : tA sc iX9_dawn 24 [l0, vI x, l2] st h Q = tA sc iX9_dawn 25 [l0, vI x, l2] (vI x :: st) h Q := tA_pure mB_X9_dawn dX9_dawn_24 rfl
theorem rX9_dawn_25 : tA sc iX9_dawn 25 ls (vI j :: vR (some a) :: st) h Q = oz (tldr h a j) (fun v => tA sc iX9_dawn 26 ls (vR v :: st) h Q) := tA_aald mB_X9_dawn dX9_dawn_25
theorem rX9_dawn_26 : tA sc iX9_dawn 26 [l0, l1, l2] (vR r :: st) h Q = tA sc iX9_dawn 27 [l0, tclr l1, vR r] st h Q := tA_pure mB_X9_dawn dX9_dawn_26 rfl
theorem rX9_dawn_27 : tA sc iX9_dawn 27 [l0, l1, vR r] st h Q = tA sc iX9_dawn 28 [l0, l1, vR r] (vR r :: st) h Q := tA_pure mB_X9_dawn dX9_dawn_27 rfl
theorem rX9_dawn_28n : tA sc iX9_dawn 28 ls (vR none :: st) h Q = tA sc iX9_dawn 36 ls st h Q := tA_jump mB_X9_dawn dX9_dawn_28 (fun _ _ _ _ => rfl) rfl
theorem rX9_dawn_28s : tA sc iX9_dawn 28 ls (vR (some o) :: st) h Q = tA sc iX9_dawn 31 ls st h Q := tA_jump mB_X9_dawn dX9_dawn_28 (fun _ _ _ _ => rfl) rfl
theorem rX9_dawn_31 : tA sc iX9_dawn 31 [vR r, l1, l2] st h Q = tA sc iX9_dawn 32 [vR r, l1, l2] (vR r :: st) h Q := tA_pure mB_X9_dawn dX9_dawn_31 rfl
theorem rX9_dawn_32 : tA sc iX9_dawn 32 [l0, l1, vR r] st h Q = tA sc iX9_dawn 33 [l0, l1, vR r] (vR r :: st) h Q := tA_pure mB_X9_dawn dX9_dawn_32 rfl
theorem rX9_dawn_33 (hci : tcl h o = some 9) : tA sc iX9_dawn 33 ls [vR n0, vR (some o)] h Q = tA sc iX9_letSpeak 0 [vR (some o), vR n0, vU, vU, vU, vU] [] h (fun v h1 => tA sc iX9_dawn 36 ls (tpu v []) h1 Q) := tA_cV mB_X9_dawn mO_X9_dawn dX9_dawn_33 cT_9_116 rfl (Nat.le_of_ble_eq_true rfl) rfl rfl rfl hci
theorem rX9_dawn_36 : tA sc iX9_dawn 36 [l0, vI x, l2] st h Q = tA sc iX9_dawn 39 [tclr l0, vI (x + 1), l2] st h Q := tA_pure mB_X9_dawn dX9_dawn_36 rfl
theorem rX9_dawn_39 : tA sc iX9_dawn 39 ls st h Q = tA sc iX9_dawn 12 ls st h Q := tA_jump mB_X9_dawn dX9_dawn_39 (fun _ _ _ _ => rfl) rfl
theorem rX9_dawn_42 : tA sc iX9_dawn 42 [vR r, l1, l2] st h Q = tA sc iX9_dawn 43 [vR r, l1, l2] (vR r :: st) h Q := tA_pure mB_X9_dawn dX9_dawn_42 rfl
theorem rX9_dawn_43 : tA sc iX9_dawn 43 ls (vR (some o) :: st) h Q = oz (tget h o [9] 3) (fun v => tA sc iX9_dawn 46 ls (v :: st) h Q) := tA_get mB_X9_dawn mO_X9_dawn dX9_dawn_43 fT_9_21
theorem rX9_dawn_46 : tA sc iX9_dawn 46 [vR r, l1, l2] st h Q = tA sc iX9_dawn 47 [vR r, l1, l2] (vR r :: st) h Q := tA_pure mB_X9_dawn dX9_dawn_46 rfl
theorem rX9_dawn_47 : tA sc iX9_dawn 47 ls (vR (some o) :: st) h Q = oz (tget h o [9] 6) (fun v => tA sc iX9_dawn 50 ls (v :: st) h Q) := tA_get mB_X9_dawn mO_X9_dawn dX9_dawn_47 fT_9_67
theorem rX9_dawn_50 : tA sc iX9_dawn 50 [vR r, l1, l2] st h Q = tA sc iX9_dawn 51 [vR r, l1, l2] (vR r :: st) h Q := tA_pure mB_X9_dawn dX9_dawn_50 rfl
theorem rX9_dawn_51 : tA sc iX9_dawn 51 [vR r, l1, l2] st h Q = tA sc iX9_dawn 52 [vR r, l1, l2] (vR r :: st) h Q := tA_pure mB_X9_dawn dX9_dawn_51 rfl
theorem rX9_dawn_52 : tA sc iX9_dawn 52 ls (vR (some o) :: st) h Q = oz (tget h o [9] 6) (fun v => tA sc iX9_dawn 55 ls (v :: st) h Q) := tA_get mB_X9_dawn mO_X9_dawn dX9_dawn_52 fT_9_67
theorem rX9_dawn_55 (hci : tcl h o = some 9) : tA sc iX9_dawn 55 ls [vI p0, vR (some o), s0, s1] h Q = tA sc iX9_drawn 0 [vR (some o), vI p0, vU, vU, vU, vU] [] h (fun v h1 => tA sc iX9_dawn 58 ls (tpu v [s0, s1]) h1 Q) := tA_cV mB_X9_dawn mO_X9_dawn dX9_dawn_55 cT_9_120 rfl (Nat.le_of_ble_eq_true rfl) rfl rfl rfl hci
theorem rX9_dawn_58 : tA sc iX9_dawn 58 ls (vI x :: vI j :: vR (some a) :: st) h Q = oz (tasi h a j x) (fun h' => tA sc iX9_dawn 59 ls st h' Q) := tA_iast mB_X9_dawn dX9_dawn_58
theorem rX9_dawn_59 : tA sc iX9_dawn 59 [vR r, l1, l2] st h Q = tA sc iX9_dawn 60 [vR r, l1, l2] (vR r :: st) h Q := tA_pure mB_X9_dawn dX9_dawn_59 rfl
theorem rX9_dawn_60 : tA sc iX9_dawn 60 ls (vR r :: st) h Q = tA sc iX9_dawn 61 ls (vR r :: vR r :: st) h Q := tA_pure mB_X9_dawn dX9_dawn_60 rfl
theorem rX9_dawn_61 : tA sc iX9_dawn 61 ls (vR (some o) :: st) h Q = oz (tget h o [9] 6) (fun v => tA sc iX9_dawn 64 ls (v :: st) h Q) := tA_get mB_X9_dawn mO_X9_dawn dX9_dawn_61 fT_9_67
theorem rX9_dawn_64 : tA sc iX9_dawn 64 ls st h Q = tA sc iX9_dawn 65 ls (vI (1) :: st) h Q := tA_pure mB_X9_dawn dX9_dawn_64 rfl
theorem rX9_dawn_65 : tA sc iX9_dawn 65 ls (vI y :: vI x :: st) h Q = tA sc iX9_dawn 66 ls (vI (x + y) :: st) h Q := tA_pure mB_X9_dawn dX9_dawn_65 rfl
theorem rX9_dawn_66 : tA sc iX9_dawn 66 ls (v :: vR (some o) :: st) h Q = oz (tput h o [9] 6 0 v) (fun h' => tA sc iX9_dawn 69 ls st h' Q) := tA_put mB_X9_dawn mO_X9_dawn dX9_dawn_66 fT_9_67 (Or.inl (by decide))
theorem rX9_dawn_69 : tA sc iX9_dawn 69 [vR r, l1, l2] st h Q = tA sc iX9_dawn 70 [vR r, l1, l2] (vR r :: st) h Q := tA_pure mB_X9_dawn dX9_dawn_69 rfl
theorem rX9_dawn_70 : tA sc iX9_dawn 70 [vR r, l1, l2] st h Q = tA sc iX9_dawn 71 [vR r, l1, l2] (vR r :: st) h Q := tA_pure mB_X9_dawn dX9_dawn_70 rfl
theorem rX9_dawn_71 : tA sc iX9_dawn 71 ls (vR (some o) :: st) h Q = oz (tget h o [9] 6) (fun v => tA sc iX9_dawn 74 ls (v :: st) h Q) := tA_get mB_X9_dawn mO_X9_dawn dX9_dawn_71 fT_9_67
theorem rX9_dawn_74 : tA sc iX9_dawn 74 ls st h Q = tA sc iX9_dawn 75 ls (vI (1) :: st) h Q := tA_pure mB_X9_dawn dX9_dawn_74 rfl
theorem rX9_dawn_75 : tA sc iX9_dawn 75 ls (vI y :: vI x :: st) h Q = tA sc iX9_dawn 76 ls (vI (x - y) :: st) h Q := tA_pure mB_X9_dawn dX9_dawn_75 rfl
theorem rX9_dawn_76 (hci : tcl h o = some 9) : tA sc iX9_dawn 76 ls [vI p0, vR (some o)] h Q = tA sc iX9_settle 0 [vR (some o), vI p0, vU] [] h (fun v h1 => tA sc iX9_dawn 79 ls (tpu v []) h1 Q) := tA_cV mB_X9_dawn mO_X9_dawn dX9_dawn_76 cT_9_124 rfl (Nat.le_of_ble_eq_true rfl) rfl rfl rfl hci
theorem rX9_dawn_79 : tA sc iX9_dawn 79 [vR r, l1, l2] st h Q = tA sc iX9_dawn 80 [vR r, l1, l2] (vR r :: st) h Q := tA_pure mB_X9_dawn dX9_dawn_79 rfl
theorem rX9_dawn_80 : tA sc iX9_dawn 80 ls (vR (some o) :: st) h Q = oz (tget h o [9] 6) (fun v => tA sc iX9_dawn 83 ls (v :: st) h Q) := tA_get mB_X9_dawn mO_X9_dawn dX9_dawn_80 fT_9_67
theorem rX9_dawn_83 : tA sc iX9_dawn 83 ls st h Q = tA sc iX9_dawn 84 ls (vI (3) :: st) h Q := tA_pure mB_X9_dawn dX9_dawn_83 rfl
theorem rX9_dawn_84 : tA sc iX9_dawn 84 ls (vI y :: vI x :: st) h Q = tA sc iX9_dawn 85 ls (vI (x + y) :: st) h Q := tA_pure mB_X9_dawn dX9_dawn_84 rfl
theorem rX9_dawn_85 : tA sc iX9_dawn 85 [l0, l1, l2] (vI x :: st) h Q = tA sc iX9_dawn 86 [tclr l0, vI x, l2] st h Q := tA_pure mB_X9_dawn dX9_dawn_85 rfl
theorem rX9_dawn_86 : tA sc iX9_dawn 86 [l0, vI x, l2] st h Q = tA sc iX9_dawn 87 [l0, vI x, l2] (vI x :: st) h Q := tA_pure mB_X9_dawn dX9_dawn_86 rfl
theorem rX9_dawn_87 : tA sc iX9_dawn 87 ls st h Q = tA sc iX9_dawn 89 ls (vI (20) :: st) h Q := tA_pure mB_X9_dawn dX9_dawn_87 rfl
theorem rX9_dawn_89 : tA sc iX9_dawn 89 ls (vI y :: vI x :: st) h Q = (if y ≤ x then tA sc iX9_dawn 112 ls st h Q else tA sc iX9_dawn 92 ls st h Q) := tA_if mB_X9_dawn dX9_dawn_89 (fun _ _ _ _ => rfl) rfl
theorem rX9_dawn_92 : tA sc iX9_dawn 92 [vR r, l1, l2] st h Q = tA sc iX9_dawn 93 [vR r, l1, l2] (vR r :: st) h Q := tA_pure mB_X9_dawn dX9_dawn_92 rfl
theorem rX9_dawn_93 : tA sc iX9_dawn 93 ls (vR (some o) :: st) h Q = oz (tget h o [9] 2) (fun v => tA sc iX9_dawn 96 ls (v :: st) h Q) := tA_get mB_X9_dawn mO_X9_dawn dX9_dawn_93 fT_9_18
theorem rX9_dawn_96 : tA sc iX9_dawn 96 [l0, vI x, l2] st h Q = tA sc iX9_dawn 97 [l0, vI x, l2] (vI x :: st) h Q := tA_pure mB_X9_dawn dX9_dawn_96 rfl
theorem rX9_dawn_97 : tA sc iX9_dawn 97 ls (vI j :: vR (some a) :: st) h Q = oz (tald sc h 0 a j) (fun v => tA sc iX9_dawn 98 ls (vI v :: st) h Q) := tA_iald mB_X9_dawn dX9_dawn_97
theorem rX9_dawn_98 : tA sc iX9_dawn 98 ls (vI x :: st) h Q = (if 0 ≤ x then tA sc iX9_dawn 112 ls st h Q else tA sc iX9_dawn 101 ls st h Q) := tA_if mB_X9_dawn dX9_dawn_98 (fun _ _ _ _ => rfl) rfl
theorem rX9_dawn_101 : tA sc iX9_dawn 101 [vR r, l1, l2] st h Q = tA sc iX9_dawn 102 [vR r, l1, l2] (vR r :: st) h Q := tA_pure mB_X9_dawn dX9_dawn_101 rfl
theorem rX9_dawn_102 : tA sc iX9_dawn 102 ls (vR (some o) :: st) h Q = oz (tget h o [9] 2) (fun v => tA sc iX9_dawn 105 ls (v :: st) h Q) := tA_get mB_X9_dawn mO_X9_dawn dX9_dawn_102 fT_9_18
theorem rX9_dawn_105 : tA sc iX9_dawn 105 [l0, vI x, l2] st h Q = tA sc iX9_dawn 106 [l0, vI x, l2] (vI x :: st) h Q := tA_pure mB_X9_dawn dX9_dawn_105 rfl
theorem rX9_dawn_106 : tA sc iX9_dawn 106 [vR r, l1, l2] st h Q = tA sc iX9_dawn 107 [vR r, l1, l2] (vR r :: st) h Q := tA_pure mB_X9_dawn dX9_dawn_106 rfl
theorem rX9_dawn_107 : tA sc iX9_dawn 107 [l0, vI x, l2] st h Q = tA sc iX9_dawn 108 [l0, vI x, l2] (vI x :: st) h Q := tA_pure mB_X9_dawn dX9_dawn_107 rfl
theorem rX9_dawn_108 (hci : tcl h o = some 9) : tA sc iX9_dawn 108 ls [vI p0, vR (some o), s0, s1] h Q = tA sc iX9_drawn 0 [vR (some o), vI p0, vU, vU, vU, vU] [] h (fun v h1 => tA sc iX9_dawn 111 ls (tpu v [s0, s1]) h1 Q) := tA_cV mB_X9_dawn mO_X9_dawn dX9_dawn_108 cT_9_120 rfl (Nat.le_of_ble_eq_true rfl) rfl rfl rfl hci
theorem rX9_dawn_111 : tA sc iX9_dawn 111 ls (vI x :: vI j :: vR (some a) :: st) h Q = oz (tasi h a j x) (fun h' => tA sc iX9_dawn 112 ls st h' Q) := tA_iast mB_X9_dawn dX9_dawn_111
theorem rX9_dawn_112 : tA sc iX9_dawn 112 ls [] h Q = Q (none) h := tA_ret mB_X9_dawn dX9_dawn_112 (fun _ _ _ _ => rfl) (fun _ _ _ => rfl) (fun _ _ _ _ _ => rfl) rfl rfl
theorem mB_X9_letSpeak : mB iX9_letSpeak = cX9_letSpeak := rfl
theorem mO_X9_letSpeak : mO iX9_letSpeak = 9 := rfl
theorem rX9_letSpeak_0 : tA sc iX9_letSpeak 0 [vR r, l1, l2, l3, l4, l5] st h Q = tA sc iX9_letSpeak 1 [vR r, l1, l2, l3, l4, l5] (vR r :: st) h Q := tA_pure mB_X9_letSpeak dX9_letSpeak_0 rfl
theorem rX9_letSpeak_1 : tA sc iX9_letSpeak 1 [l0, vR r, l2, l3, l4, l5] st h Q = tA sc iX9_letSpeak 2 [l0, vR r, l2, l3, l4, l5] (vR r :: st) h Q := tA_pure mB_X9_letSpeak dX9_letSpeak_1 rfl
theorem rX9_letSpeak_2 (hci : tcl h o = some 9) : tA sc iX9_letSpeak 2 ls [vR n0, vR (some o)] h Q = tA sc iX9_dayToSay 0 [vR (some o), vR n0] [] h (fun v h1 => tA sc iX9_letSpeak 5 ls (tpu v []) h1 Q) := tA_cV mB_X9_letSpeak mO_X9_letSpeak dX9_letSpeak_2 cT_9_127 rfl (Nat.le_of_ble_eq_true rfl) rfl rfl rfl hci
theorem rX9_letSpeak_5 : tA sc iX9_letSpeak 5 [l0, l1, l2, l3, l4, l5] (vI x :: st) h Q = tA sc iX9_letSpeak 6 [l0, tclr l1, vI x, l3, l4, l5] st h Q := tA_pure mB_X9_letSpeak dX9_letSpeak_5 rfl
theorem rX9_letSpeak_6 : tA sc iX9_letSpeak 6 [l0, l1, vI x, l3, l4, l5] st h Q = tA sc iX9_letSpeak 7 [l0, l1, vI x, l3, l4, l5] (vI x :: st) h Q := tA_pure mB_X9_letSpeak dX9_letSpeak_6 rfl
theorem rX9_letSpeak_7 : tA sc iX9_letSpeak 7 ls (vI x :: st) h Q = (if 0 ≤ x then tA sc iX9_letSpeak 11 ls st h Q else tA sc iX9_letSpeak 10 ls st h Q) := tA_if mB_X9_letSpeak dX9_letSpeak_7 (fun _ _ _ _ => rfl) rfl
theorem rX9_letSpeak_10 : tA sc iX9_letSpeak 10 ls [] h Q = Q (none) h := tA_ret mB_X9_letSpeak dX9_letSpeak_10 (fun _ _ _ _ => rfl) (fun _ _ _ => rfl) (fun _ _ _ _ _ => rfl) rfl rfl
theorem rX9_letSpeak_11 : tA sc iX9_letSpeak 11 [l0, vR r, l2, l3, l4, l5] st h Q = tA sc iX9_letSpeak 12 [l0, vR r, l2, l3, l4, l5] (vR r :: st) h Q := tA_pure mB_X9_letSpeak dX9_letSpeak_11 rfl
theorem rX9_letSpeak_12 : tA sc iX9_letSpeak 12 [vR r, l1, l2, l3, l4, l5] st h Q = tA sc iX9_letSpeak 13 [vR r, l1, l2, l3, l4, l5] (vR r :: st) h Q := tA_pure mB_X9_letSpeak dX9_letSpeak_12 rfl
theorem rX9_letSpeak_13 : tA sc iX9_letSpeak 13 [l0, l1, vI x, l3, l4, l5] st h Q = tA sc iX9_letSpeak 14 [l0, l1, vI x, l3, l4, l5] (vI x :: st) h Q := tA_pure mB_X9_letSpeak dX9_letSpeak_13 rfl
theorem rX9_letSpeak_14_0 (hci : tcl h o = some 0) : tA sc iX9_letSpeak 14 ls [vI p1, vR n0, vR (some o)] h Q = tA sc iX0_firstWeather 0 [vR (some o), vR n0, vI p1] [] h (fun v h1 => tA sc iX9_letSpeak 17 ls (tpu v []) h1 Q) := tA_cV mB_X9_letSpeak mO_X9_letSpeak dX9_letSpeak_14 cT_9_131 rfl (Nat.le_of_ble_eq_true rfl) rfl rfl rfl hci
theorem rX9_letSpeak_14_2 (hci : tcl h o = some 2) : tA sc iX9_letSpeak 14 ls [vI p1, vR n0, vR (some o)] h Q = tA sc iX4_firstWeather 0 [vR (some o), vR n0, vI p1] [] h (fun v h1 => tA sc iX9_letSpeak 17 ls (tpu v []) h1 Q) := tA_cV mB_X9_letSpeak mO_X9_letSpeak dX9_letSpeak_14 cT_9_131 rfl (Nat.le_of_ble_eq_true rfl) rfl rfl rfl hci
theorem rX9_letSpeak_14_3 (hci : tcl h o = some 3) : tA sc iX9_letSpeak 14 ls [vI p1, vR n0, vR (some o)] h Q = tA sc iX4_firstWeather 0 [vR (some o), vR n0, vI p1] [] h (fun v h1 => tA sc iX9_letSpeak 17 ls (tpu v []) h1 Q) := tA_cV mB_X9_letSpeak mO_X9_letSpeak dX9_letSpeak_14 cT_9_131 rfl (Nat.le_of_ble_eq_true rfl) rfl rfl rfl hci
theorem rX9_letSpeak_14_4 (hci : tcl h o = some 4) : tA sc iX9_letSpeak 14 ls [vI p1, vR n0, vR (some o)] h Q = tA sc iX4_firstWeather 0 [vR (some o), vR n0, vI p1] [] h (fun v h1 => tA sc iX9_letSpeak 17 ls (tpu v []) h1 Q) := tA_cV mB_X9_letSpeak mO_X9_letSpeak dX9_letSpeak_14 cT_9_131 rfl (Nat.le_of_ble_eq_true rfl) rfl rfl rfl hci
theorem rX9_letSpeak_14_6 (hci : tcl h o = some 6) : tA sc iX9_letSpeak 14 ls [vI p1, vR n0, vR (some o)] h Q = tA sc iX4_firstWeather 0 [vR (some o), vR n0, vI p1] [] h (fun v h1 => tA sc iX9_letSpeak 17 ls (tpu v []) h1 Q) := tA_cV mB_X9_letSpeak mO_X9_letSpeak dX9_letSpeak_14 cT_9_131 rfl (Nat.le_of_ble_eq_true rfl) rfl rfl rfl hci
theorem rX9_letSpeak_14_7 (hci : tcl h o = some 7) : tA sc iX9_letSpeak 14 ls [vI p1, vR n0, vR (some o)] h Q = tA sc iX7_firstWeather 0 [vR (some o), vR n0, vI p1] [] h (fun v h1 => tA sc iX9_letSpeak 17 ls (tpu v []) h1 Q) := tA_cV mB_X9_letSpeak mO_X9_letSpeak dX9_letSpeak_14 cT_9_131 rfl (Nat.le_of_ble_eq_true rfl) rfl rfl rfl hci
theorem rX9_letSpeak_17 : tA sc iX9_letSpeak 17 [l0, l1, l2, l3, l4, l5] (vI x :: st) h Q = tA sc iX9_letSpeak 18 [l0, l1, tclr l2, vI x, l4, l5] st h Q := tA_pure mB_X9_letSpeak dX9_letSpeak_17 rfl
theorem rX9_letSpeak_18 : tA sc iX9_letSpeak 18 ls st h Q = tA sc iX9_letSpeak 19 ls (vI (4) :: st) h Q := tA_pure mB_X9_letSpeak dX9_letSpeak_18 rfl
theorem rX9_letSpeak_19 : tA sc iX9_letSpeak 19 [l0, l1, l2, vI x, l4, l5] st h Q = tA sc iX9_letSpeak 20 [l0, l1, l2, vI x, l4, l5] (vI x :: st) h Q := tA_pure mB_X9_letSpeak dX9_letSpeak_19 rfl
theorem rX9_letSpeak_20 : tA sc iX9_letSpeak 20 [vR r, l1, l2, l3, l4, l5] st h Q = tA sc iX9_letSpeak 21 [vR r, l1, l2, l3, l4, l5] (vR r :: st) h Q := tA_pure mB_X9_letSpeak dX9_letSpeak_20 rfl
theorem rX9_letSpeak_21 : tA sc iX9_letSpeak 21 [l0, vR r, l2, l3, l4, l5] st h Q = tA sc iX9_letSpeak 22 [l0, vR r, l2, l3, l4, l5] (vR r :: st) h Q := tA_pure mB_X9_letSpeak dX9_letSpeak_21 rfl
theorem rX9_letSpeak_22 (hci : tcl h o = some 9) : tA sc iX9_letSpeak 22 ls [vR n0, vR (some o), s0, s1] h Q = tA sc iX9_sayingsAtOnce 0 [vR (some o), vR n0] [] h (fun v h1 => tA sc iX9_letSpeak 25 ls (tpu v [s0, s1]) h1 Q) := tA_cV mB_X9_letSpeak mO_X9_letSpeak dX9_letSpeak_22 cT_9_135 rfl (Nat.le_of_ble_eq_true rfl) rfl rfl rfl hci
theorem rX9_letSpeak_25 : tA sc iX9_letSpeak 25 ls (vI y :: vI x :: st) h Q = tA sc iX9_letSpeak 26 ls (vI (x + y) :: st) h Q := tA_pure mB_X9_letSpeak dX9_letSpeak_25 rfl
theorem rX9_letSpeak_26 : tA sc iX9_letSpeak 26 ls [vI p1, vI p0] h Q = tA sc iX9_letSpeak 29 ls (vI (if p1 < p0 then p1 else p0) :: []) h Q := tA_cN mB_X9_letSpeak mO_X9_letSpeak dX9_letSpeak_26 (fun _ _ _ _ => rfl) (fun _ _ _ => rfl) (fun _ _ _ _ _ => rfl) rfl cT_9_90 rfl rfl
theorem rX9_letSpeak_29 : tA sc iX9_letSpeak 29 [l0, l1, l2, l3, l4, l5] (vI x :: st) h Q = tA sc iX9_letSpeak 31 [l0, l1, l2, tclr l3, vI x, l5] st h Q := tA_pure mB_X9_letSpeak dX9_letSpeak_29 rfl
theorem rX9_letSpeak_31 : tA sc iX9_letSpeak 31 [l0, l1, l2, vI x, l4, l5] st h Q = tA sc iX9_letSpeak 32 [l0, l1, l2, vI x, l4, l5] (vI x :: st) h Q := tA_pure mB_X9_letSpeak dX9_letSpeak_31 rfl
theorem rX9_letSpeak_32 : tA sc iX9_letSpeak 32 [l0, l1, l2, l3, l4, l5] (vI x :: st) h Q = tA sc iX9_letSpeak 34 [l0, l1, l2, l3, tclr l4, vI x] st h Q := tA_pure mB_X9_letSpeak dX9_letSpeak_32 rfl
theorem rX9_letSpeak_34 : tA sc iX9_letSpeak 34 [l0, l1, l2, l3, l4, vI x] st h Q = tA sc iX9_letSpeak 36 [l0, l1, l2, l3, l4, vI x] (vI x :: st) h Q := tA_pure mB_X9_letSpeak dX9_letSpeak_34 rfl
theorem rX9_letSpeak_36 : tA sc iX9_letSpeak 36 [l0, l1, l2, l3, vI x, l5] st h Q = tA sc iX9_letSpeak 38 [l0, l1, l2, l3, vI x, l5] (vI x :: st) h Q := tA_pure mB_X9_letSpeak dX9_letSpeak_36 rfl
theorem rX9_letSpeak_38 : tA sc iX9_letSpeak 38 ls (vI y :: vI x :: st) h Q = (if y ≤ x then tA sc iX9_letSpeak 59 ls st h Q else tA sc iX9_letSpeak 41 ls st h Q) := tA_if mB_X9_letSpeak dX9_letSpeak_38 (fun _ _ _ _ => rfl) rfl
theorem rX9_letSpeak_41 : tA sc iX9_letSpeak 41 [vR r, l1, l2, l3, l4, l5] st h Q = tA sc iX9_letSpeak 42 [vR r, l1, l2, l3, l4, l5] (vR r :: st) h Q := tA_pure mB_X9_letSpeak dX9_letSpeak_41 rfl
theorem rX9_letSpeak_42 : tA sc iX9_letSpeak 42 [l0, vR r, l2, l3, l4, l5] st h Q = tA sc iX9_letSpeak 43 [l0, vR r, l2, l3, l4, l5] (vR r :: st) h Q := tA_pure mB_X9_letSpeak dX9_letSpeak_42 rfl
theorem rX9_letSpeak_43 : tA sc iX9_letSpeak 43 ls (vR (some o) :: st) h Q = oz (tget h o [0, 2, 3, 4, 6, 7] 1) (fun v => tA sc iX9_letSpeak 46 ls (v :: st) h Q) := tA_get mB_X9_letSpeak mO_X9_letSpeak dX9_letSpeak_43 fT_9_138
theorem rX9_letSpeak_46 : tA sc iX9_letSpeak 46 [l0, l1, vI x, l3, l4, l5] st h Q = tA sc iX9_letSpeak 47 [l0, l1, vI x, l3, l4, l5] (vI x :: st) h Q := tA_pure mB_X9_letSpeak dX9_letSpeak_46 rfl
theorem rX9_letSpeak_47 : tA sc iX9_letSpeak 47 [l0, l1, l2, l3, l4, vI x] st h Q = tA sc iX9_letSpeak 49 [l0, l1, l2, l3, l4, vI x] (vI x :: st) h Q := tA_pure mB_X9_letSpeak dX9_letSpeak_47 rfl
theorem rX9_letSpeak_49 (hci : tcl h o = some 9) : tA sc iX9_letSpeak 49 ls [vI p2, vI p1, vI p0, vR (some o)] h Q = tA sc iX9_sellSaying 0 [vR (some o), vI p0, vI p1, vI p2] [] h (fun v h1 => tA sc iX9_letSpeak 52 ls (tpu v []) h1 Q) := tA_cV mB_X9_letSpeak mO_X9_letSpeak dX9_letSpeak_49 cT_9_141 rfl (Nat.le_of_ble_eq_true rfl) rfl rfl rfl hci
theorem rX9_letSpeak_52 : tA sc iX9_letSpeak 52 ls (vI x :: st) h Q = tA sc iX9_letSpeak 53 ls st h Q := tA_pure mB_X9_letSpeak dX9_letSpeak_52 rfl
theorem rX9_letSpeak_53 : tA sc iX9_letSpeak 53 [l0, l1, l2, l3, l4, vI x] st h Q = tA sc iX9_letSpeak 56 [l0, l1, l2, l3, tclr l4, vI (x + 1)] st h Q := tA_pure mB_X9_letSpeak dX9_letSpeak_53 rfl
theorem rX9_letSpeak_56 : tA sc iX9_letSpeak 56 ls st h Q = tA sc iX9_letSpeak 34 ls st h Q := tA_jump mB_X9_letSpeak dX9_letSpeak_56 (fun _ _ _ _ => rfl) rfl
theorem rX9_letSpeak_59 : tA sc iX9_letSpeak 59 ls [] h Q = Q (none) h := tA_ret mB_X9_letSpeak dX9_letSpeak_59 (fun _ _ _ _ => rfl) (fun _ _ _ => rfl) (fun _ _ _ _ _ => rfl) rfl rfl
theorem mB_X9_drawn : mB iX9_drawn = cX9_drawn := rfl
theorem mO_X9_drawn : mO iX9_drawn = 9 := rfl
theorem rX9_drawn_0 : tA sc iX9_drawn 0 [vR r, l1, l2, l3, l4, l5] st h Q = tA sc iX9_drawn 1 [vR r, l1, l2, l3, l4, l5] (vR r :: st) h Q := tA_pure mB_X9_drawn dX9_drawn_0 rfl
theorem rX9_drawn_1 : tA sc iX9_drawn 1 [vR r, l1, l2, l3, l4, l5] st h Q = tA sc iX9_drawn 2 [vR r, l1, l2, l3, l4, l5] (vR r :: st) h Q := tA_pure mB_X9_drawn dX9_drawn_1 rfl
theorem rX9_drawn_2 : tA sc iX9_drawn 2 ls (vR (some o) :: st) h Q = oz (tget h o [9] 7) (fun v => tA sc iX9_drawn 5 ls (v :: st) h Q) := tA_get mB_X9_drawn mO_X9_drawn dX9_drawn_2 fT_9_38
theorem rX9_drawn_5 : tA sc iX9_drawn 5 ls st h Q = tA sc iX9_drawn 7 ls (vI (1103515245) :: st) h Q := tA_pure mB_X9_drawn dX9_drawn_5 rfl
theorem rX9_drawn_7 : tA sc iX9_drawn 7 ls (vI y :: vI x :: st) h Q = tA sc iX9_drawn 8 ls (vI (x * y) :: st) h Q := tA_pure mB_X9_drawn dX9_drawn_7 rfl
theorem rX9_drawn_8 : tA sc iX9_drawn 8 ls st h Q = tA sc iX9_drawn 11 ls (vI (12345) :: st) h Q := tA_pure mB_X9_drawn dX9_drawn_8 rfl
theorem rX9_drawn_11 : tA sc iX9_drawn 11 ls (vI y :: vI x :: st) h Q = tA sc iX9_drawn 12 ls (vI (x + y) :: st) h Q := tA_pure mB_X9_drawn dX9_drawn_11 rfl
theorem rX9_drawn_12 : tA sc iX9_drawn 12 ls (v :: vR (some o) :: st) h Q = oz (tput h o [9] 7 0 v) (fun h' => tA sc iX9_drawn 15 ls st h' Q) := tA_put mB_X9_drawn mO_X9_drawn dX9_drawn_12 fT_9_38 (Or.inl (by decide))
theorem rX9_drawn_15 : tA sc iX9_drawn 15 [vR r, l1, l2, l3, l4, l5] st h Q = tA sc iX9_drawn 16 [vR r, l1, l2, l3, l4, l5] (vR r :: st) h Q := tA_pure mB_X9_drawn dX9_drawn_15 rfl
theorem rX9_drawn_16 : tA sc iX9_drawn 16 [l0, vI x, l2, l3, l4, l5] st h Q = tA sc iX9_drawn 17 [l0, vI x, l2, l3, l4, l5] (vI x :: st) h Q := tA_pure mB_X9_drawn dX9_drawn_16 rfl
theorem rX9_drawn_17 (hci : tcl h o = some 9) : tA sc iX9_drawn 17 ls [vI p0, vR (some o)] h Q = tA sc iX9_allOf 0 [vR (some o), vI p0] [] h (fun v h1 => tA sc iX9_drawn 20 ls (tpu v []) h1 Q) := tA_cV mB_X9_drawn mO_X9_drawn dX9_drawn_17 cT_9_145 rfl (Nat.le_of_ble_eq_true rfl) rfl rfl rfl hci
theorem rX9_drawn_20 : tA sc iX9_drawn 20 [l0, l1, l2, l3, l4, l5] (vI x :: st) h Q = tA sc iX9_drawn 21 [l0, tclr l1, vI x, l3, l4, l5] st h Q := tA_pure mB_X9_drawn dX9_drawn_20 rfl
theorem rX9_drawn_21 : tA sc iX9_drawn 21 [l0, l1, vI x, l3, l4, l5] st h Q = tA sc iX9_drawn 22 [l0, l1, vI x, l3, l4, l5] (vI x :: st) h Q := tA_pure mB_X9_drawn dX9_drawn_21 rfl
theorem rX9_drawn_22 : tA sc iX9_drawn 22 ls (vI x :: st) h Q = (if x ≤ 0 then tA sc iX9_drawn 37 ls st h Q else tA sc iX9_drawn 25 ls st h Q) := tA_if mB_X9_drawn dX9_drawn_22 (fun _ _ _ _ => rfl) rfl
theorem rX9_drawn_25 : tA sc iX9_drawn 25 [vR r, l1, l2, l3, l4, l5] st h Q = tA sc iX9_drawn 26 [vR r, l1, l2, l3, l4, l5] (vR r :: st) h Q := tA_pure mB_X9_drawn dX9_drawn_25 rfl
theorem rX9_drawn_26 : tA sc iX9_drawn 26 ls (vR (some o) :: st) h Q = oz (tget h o [9] 7) (fun v => tA sc iX9_drawn 29 ls (v :: st) h Q) := tA_get mB_X9_drawn mO_X9_drawn dX9_drawn_26 fT_9_38
theorem rX9_drawn_29 : tA sc iX9_drawn 29 ls st h Q = tA sc iX9_drawn 31 ls (vI (16) :: st) h Q := tA_pure mB_X9_drawn dX9_drawn_29 rfl
theorem rX9_drawn_31 : tA sc iX9_drawn 31 ls (vI y :: vI x :: st) h Q = tA sc iX9_drawn 32 ls (vI ((x.toUInt32 >>> (y.toUInt32 &&& Int32.toUInt32 31)).toInt32) :: st) h Q := tA_pure mB_X9_drawn dX9_drawn_31 rfl
theorem rX9_drawn_32 : tA sc iX9_drawn 32 [l0, l1, vI x, l3, l4, l5] st h Q = tA sc iX9_drawn 33 [l0, l1, vI x, l3, l4, l5] (vI x :: st) h Q := tA_pure mB_X9_drawn dX9_drawn_32 rfl
theorem rX9_drawn_33 : tA sc iX9_drawn 33 ls (vI y :: vI x :: st) h Q = (¬ y = 0 ∧ tA sc iX9_drawn 34 ls (vI (x - x / y * y) :: st) h Q) := tA_div mB_X9_drawn dX9_drawn_33 (fun _ _ _ => rfl) (fun _ _ _ _ _ => rfl) rfl (fun _ _ => rfl) rfl
theorem rX9_drawn_34 : tA sc iX9_drawn 34 ls st h Q = tA sc iX9_drawn 38 ls st h Q := tA_jump mB_X9_drawn dX9_drawn_34 (fun _ _ _ _ => rfl) rfl
theorem rX9_drawn_37 : tA sc iX9_drawn 37 ls st h Q = tA sc iX9_drawn 38 ls (vI (0) :: st) h Q := tA_pure mB_X9_drawn dX9_drawn_37 rfl
theorem rX9_drawn_38 : tA sc iX9_drawn 38 [l0, l1, l2, l3, l4, l5] (vI x :: st) h Q = tA sc iX9_drawn 39 [l0, l1, tclr l2, vI x, l4, l5] st h Q := tA_pure mB_X9_drawn dX9_drawn_38 rfl
theorem rX9_drawn_39 : tA sc iX9_drawn 39 ls st h Q = tA sc iX9_drawn 40 ls (vI (0) :: st) h Q := tA_pure mB_X9_drawn dX9_drawn_39 rfl
theorem rX9_drawn_40 : tA sc iX9_drawn 40 [l0, l1, l2, l3, l4, l5] (vI x :: st) h Q = tA sc iX9_drawn 42 [l0, l1, l2, tclr l3, vI x, l5] st h Q := tA_pure mB_X9_drawn dX9_drawn_40 rfl
theorem rX9_drawn_42 : tA sc iX9_drawn 42 ls st h Q = tA sc iX9_drawn 43 ls (vI (0) :: st) h Q := tA_pure mB_X9_drawn dX9_drawn_42 rfl
theorem rX9_drawn_43 : tA sc iX9_drawn 43 [l0, l1, l2, l3, l4, l5] (vI x :: st) h Q = tA sc iX9_drawn 45 [l0, l1, l2, l3, tclr l4, vI x] st h Q := tA_pure mB_X9_drawn dX9_drawn_43 rfl
theorem rX9_drawn_45 : tA sc iX9_drawn 45 [l0, l1, l2, l3, l4, vI x] st h Q = tA sc iX9_drawn 47 [l0, l1, l2, l3, l4, vI x] (vI x :: st) h Q := tA_pure mB_X9_drawn dX9_drawn_45 rfl
theorem rX9_drawn_47 : tA sc iX9_drawn 47 ls st h Q = tA sc iX9_drawn 48 ls (vI (3) :: st) h Q := tA_pure mB_X9_drawn dX9_drawn_47 rfl
theorem rX9_drawn_48 : tA sc iX9_drawn 48 ls (vI y :: vI x :: st) h Q = (if y ≤ x then tA sc iX9_drawn 78 ls st h Q else tA sc iX9_drawn 51 ls st h Q) := tA_if mB_X9_drawn dX9_drawn_48 (fun _ _ _ _ => rfl) rfl
theorem rX9_drawn_51 : tA sc iX9_drawn 51 [l0, l1, l2, l3, vI x, l5] st h Q = tA sc iX9_drawn 53 [l0, l1, l2, l3, vI x, l5] (vI x :: st) h Q := tA_pure mB_X9_drawn dX9_drawn_51 rfl
theorem rX9_drawn_53 : tA sc iX9_drawn 53 [vR r, l1, l2, l3, l4, l5] st h Q = tA sc iX9_drawn 54 [vR r, l1, l2, l3, l4, l5] (vR r :: st) h Q := tA_pure mB_X9_drawn dX9_drawn_53 rfl
theorem rX9_drawn_54 : tA sc iX9_drawn 54 [l0, vI x, l2, l3, l4, l5] st h Q = tA sc iX9_drawn 55 [l0, vI x, l2, l3, l4, l5] (vI x :: st) h Q := tA_pure mB_X9_drawn dX9_drawn_54 rfl
theorem rX9_drawn_55 : tA sc iX9_drawn 55 [l0, l1, l2, l3, l4, vI x] st h Q = tA sc iX9_drawn 57 [l0, l1, l2, l3, l4, vI x] (vI x :: st) h Q := tA_pure mB_X9_drawn dX9_drawn_55 rfl
theorem rX9_drawn_57 (hci : tcl h o = some 9) : tA sc iX9_drawn 57 ls [vI p1, vI p0, vR (some o), s0] h Q = tA sc iX9_weightOf 0 [vR (some o), vI p0, vI p1] [] h (fun v h1 => tA sc iX9_drawn 60 ls (tpu v [s0]) h1 Q) := tA_cV mB_X9_drawn mO_X9_drawn dX9_drawn_57 cT_9_148 rfl (Nat.le_of_ble_eq_true rfl) rfl rfl rfl hci
theorem rX9_drawn_60 : tA sc iX9_drawn 60 ls (vI y :: vI x :: st) h Q = tA sc iX9_drawn 61 ls (vI (x + y) :: st) h Q := tA_pure mB_X9_drawn dX9_drawn_60 rfl
theorem rX9_drawn_61 : tA sc iX9_drawn 61 [l0, l1, l2, l3, l4, l5] (vI x :: st) h Q = tA sc iX9_drawn 63 [l0, l1, l2, tclr l3, vI x, l5] st h Q := tA_pure mB_X9_drawn dX9_drawn_61 rfl
theorem rX9_drawn_63 : tA sc iX9_drawn 63 [l0, l1, l2, vI x, l4, l5] st h Q = tA sc iX9_drawn 64 [l0, l1, l2, vI x, l4, l5] (vI x :: st) h Q := tA_pure mB_X9_drawn dX9_drawn_63 rfl
theorem rX9_drawn_64 : tA sc iX9_drawn 64 [l0, l1, l2, l3, vI x, l5] st h Q = tA sc iX9_drawn 66 [l0, l1, l2, l3, vI x, l5] (vI x :: st) h Q := tA_pure mB_X9_drawn dX9_drawn_64 rfl
theorem rX9_drawn_66 : tA sc iX9_drawn 66 ls (vI y :: vI x :: st) h Q = (if y ≤ x then tA sc iX9_drawn 72 ls st h Q else tA sc iX9_drawn 69 ls st h Q) := tA_if mB_X9_drawn dX9_drawn_66 (fun _ _ _ _ => rfl) rfl
theorem rX9_drawn_69 : tA sc iX9_drawn 69 [l0, l1, l2, l3, l4, vI x] st h Q = tA sc iX9_drawn 71 [l0, l1, l2, l3, l4, vI x] (vI x :: st) h Q := tA_pure mB_X9_drawn dX9_drawn_69 rfl
theorem rX9_drawn_71 : tA sc iX9_drawn 71 ls [vI x] h Q = Q (some (vI x)) h := tA_ret mB_X9_drawn dX9_drawn_71 (fun _ _ _ _ => rfl) (fun _ _ _ => rfl) (fun _ _ _ _ _ => rfl) rfl rfl
theorem rX9_drawn_72 : tA sc iX9_drawn 72 [l0, l1, l2, l3, l4, vI x] st h Q = tA sc iX9_drawn 75 [l0, l1, l2, l3, tclr l4, vI (x + 1)] st h Q := tA_pure mB_X9_drawn dX9_drawn_72 rfl
theorem rX9_drawn_75 : tA sc iX9_drawn 75 ls st h Q = tA sc iX9_drawn 45 ls st h Q := tA_jump mB_X9_drawn dX9_drawn_75 (fun _ _ _ _ => rfl) rfl
theorem rX9_drawn_78 : tA sc iX9_drawn 78 ls st h Q = tA sc iX9_drawn 79 ls (vI (3) :: st) h Q := tA_pure mB_X9_drawn dX9_drawn_78 rfl
theorem rX9_drawn_79 : tA sc iX9_drawn 79 ls [vI x] h Q = Q (some (vI x)) h := tA_ret mB_X9_drawn dX9_drawn_79 (fun _ _ _ _ => rfl) (fun _ _ _ => rfl) (fun _ _ _ _ _ => rfl) rfl rfl
theorem mB_X9_settle : mB iX9_settle = cX9_settle := rfl
theorem mO_X9_settle : mO iX9_settle = 9 := rfl
theorem rX9_settle_0 : tA sc iX9_settle 0 ls st h Q = tA sc iX9_settle 1 ls (vI (0) :: st) h Q := tA_pure mB_X9_settle dX9_settle_0 rfl
theorem rX9_settle_1 : tA sc iX9_settle 1 [l0, l1, l2] (vI x :: st) h Q = tA sc iX9_settle 2 [l0, tclr l1, vI x] st h Q := tA_pure mB_X9_settle dX9_settle_1 rfl
theorem rX9_settle_2 : tA sc iX9_settle 2 [l0, l1, vI x] st h Q = tA sc iX9_settle 3 [l0, l1, vI x] (vI x :: st) h Q := tA_pure mB_X9_settle dX9_settle_2 rfl
theorem rX9_settle_3 : tA sc iX9_settle 3 [vR r, l1, l2] st h Q = tA sc iX9_settle 4 [vR r, l1, l2] (vR r :: st) h Q := tA_pure mB_X9_settle dX9_settle_3 rfl
theorem rX9_settle_4 : tA sc iX9_settle 4 ls (vR (some o) :: st) h Q = oz (tget h o [9] 14) (fun v => tA sc iX9_settle 7 ls (v :: st) h Q) := tA_get mB_X9_settle mO_X9_settle dX9_settle_4 fT_9_73
theorem rX9_settle_7 : tA sc iX9_settle 7 ls (vI y :: vI x :: st) h Q = (if y ≤ x then tA sc iX9_settle 63 ls st h Q else tA sc iX9_settle 10 ls st h Q) := tA_if mB_X9_settle dX9_settle_7 (fun _ _ _ _ => rfl) rfl
theorem rX9_settle_10 : tA sc iX9_settle 10 [vR r, l1, l2] st h Q = tA sc iX9_settle 11 [vR r, l1, l2] (vR r :: st) h Q := tA_pure mB_X9_settle dX9_settle_10 rfl
theorem rX9_settle_11 : tA sc iX9_settle 11 ls (vR (some o) :: st) h Q = oz (tget h o [9] 12) (fun v => tA sc iX9_settle 14 ls (v :: st) h Q) := tA_get mB_X9_settle mO_X9_settle dX9_settle_11 fT_9_54
theorem rX9_settle_14 : tA sc iX9_settle 14 [l0, l1, vI x] st h Q = tA sc iX9_settle 15 [l0, l1, vI x] (vI x :: st) h Q := tA_pure mB_X9_settle dX9_settle_14 rfl
theorem rX9_settle_15 : tA sc iX9_settle 15 ls (vI j :: vR (some a) :: st) h Q = oz (tald sc h 0 a j) (fun v => tA sc iX9_settle 16 ls (vI v :: st) h Q) := tA_iald mB_X9_settle dX9_settle_15
theorem rX9_settle_16 : tA sc iX9_settle 16 [l0, vI x, l2] st h Q = tA sc iX9_settle 17 [l0, vI x, l2] (vI x :: st) h Q := tA_pure mB_X9_settle dX9_settle_16 rfl
theorem rX9_settle_17 : tA sc iX9_settle 17 ls (vI y :: vI x :: st) h Q = (if ¬ x = y then tA sc iX9_settle 57 ls st h Q else tA sc iX9_settle 20 ls st h Q) := tA_if mB_X9_settle dX9_settle_17 (fun _ _ _ _ => rfl) rfl
theorem rX9_settle_20 : tA sc iX9_settle 20 [vR r, l1, l2] st h Q = tA sc iX9_settle 21 [vR r, l1, l2] (vR r :: st) h Q := tA_pure mB_X9_settle dX9_settle_20 rfl
theorem rX9_settle_21 : tA sc iX9_settle 21 ls (vR (some o) :: st) h Q = oz (tget h o [9] 9) (fun v => tA sc iX9_settle 24 ls (v :: st) h Q) := tA_get mB_X9_settle mO_X9_settle dX9_settle_21 fT_9_48
theorem rX9_settle_24 : tA sc iX9_settle 24 [vR r, l1, l2] st h Q = tA sc iX9_settle 25 [vR r, l1, l2] (vR r :: st) h Q := tA_pure mB_X9_settle dX9_settle_24 rfl
theorem rX9_settle_25 : tA sc iX9_settle 25 ls (vR (some o) :: st) h Q = oz (tget h o [9] 11) (fun v => tA sc iX9_settle 28 ls (v :: st) h Q) := tA_get mB_X9_settle mO_X9_settle dX9_settle_25 fT_9_51
theorem rX9_settle_28 : tA sc iX9_settle 28 [l0, l1, vI x] st h Q = tA sc iX9_settle 29 [l0, l1, vI x] (vI x :: st) h Q := tA_pure mB_X9_settle dX9_settle_28 rfl
theorem rX9_settle_29 : tA sc iX9_settle 29 ls (vI j :: vR (some a) :: st) h Q = oz (tald sc h 0 a j) (fun v => tA sc iX9_settle 30 ls (vI v :: st) h Q) := tA_iald mB_X9_settle dX9_settle_29
theorem rX9_settle_30 : tA sc iX9_settle 30 ls (vI x :: vR r :: st) h Q = tA sc iX9_settle 31 ls (vI x :: vR r :: vI x :: vR r :: st) h Q := tA_pure mB_X9_settle dX9_settle_30 rfl
theorem rX9_settle_31 : tA sc iX9_settle 31 ls (vI j :: vR (some a) :: st) h Q = oz (tald sc h 0 a j) (fun v => tA sc iX9_settle 32 ls (vI v :: st) h Q) := tA_iald mB_X9_settle dX9_settle_31
theorem rX9_settle_32 : tA sc iX9_settle 32 [vR r, l1, l2] st h Q = tA sc iX9_settle 33 [vR r, l1, l2] (vR r :: st) h Q := tA_pure mB_X9_settle dX9_settle_32 rfl
theorem rX9_settle_33 : tA sc iX9_settle 33 [l0, l1, vI x] st h Q = tA sc iX9_settle 34 [l0, l1, vI x] (vI x :: st) h Q := tA_pure mB_X9_settle dX9_settle_33 rfl
theorem rX9_settle_34 (hci : tcl h o = some 9) : tA sc iX9_settle 34 ls [vI p0, vR (some o), s0, s1, s2] h Q = tA sc iX9_isRight 0 [vR (some o), vI p0, vU] [] h (fun v h1 => tA sc iX9_settle 37 ls (tpu v [s0, s1, s2]) h1 Q) := tA_cV mB_X9_settle mO_X9_settle dX9_settle_34 cT_9_102 rfl (Nat.le_of_ble_eq_true rfl) rfl rfl rfl hci
theorem rX9_settle_37 : tA sc iX9_settle 37 ls (vI x :: st) h Q = (if x = 0 then tA sc iX9_settle 48 ls st h Q else tA sc iX9_settle 40 ls st h Q) := tA_if mB_X9_settle dX9_settle_37 (fun _ _ _ _ => rfl) rfl
theorem rX9_settle_40 : tA sc iX9_settle 40 [vR r, l1, l2] st h Q = tA sc iX9_settle 41 [vR r, l1, l2] (vR r :: st) h Q := tA_pure mB_X9_settle dX9_settle_40 rfl
theorem rX9_settle_41 : tA sc iX9_settle 41 [l0, vI x, l2] st h Q = tA sc iX9_settle 42 [l0, vI x, l2] (vI x :: st) h Q := tA_pure mB_X9_settle dX9_settle_41 rfl
theorem rX9_settle_42 (hci : tcl h o = some 9) : tA sc iX9_settle 42 ls [vI p0, vR (some o), s0, s1, s2] h Q = tA sc iX9_earn 0 [vR (some o), vI p0] [] h (fun v h1 => tA sc iX9_settle 45 ls (tpu v [s0, s1, s2]) h1 Q) := tA_cV mB_X9_settle mO_X9_settle dX9_settle_42 cT_9_151 rfl (Nat.le_of_ble_eq_true rfl) rfl rfl rfl hci
theorem rX9_settle_45 : tA sc iX9_settle 45 ls st h Q = tA sc iX9_settle 55 ls st h Q := tA_jump mB_X9_settle dX9_settle_45 (fun _ _ _ _ => rfl) rfl
theorem rX9_settle_48 : tA sc iX9_settle 48 [vR r, l1, l2] st h Q = tA sc iX9_settle 49 [vR r, l1, l2] (vR r :: st) h Q := tA_pure mB_X9_settle dX9_settle_48 rfl
theorem rX9_settle_49 : tA sc iX9_settle 49 ls (vR (some o) :: st) h Q = oz (tget h o [9] 5) (fun v => tA sc iX9_settle 52 ls (v :: st) h Q) := tA_get mB_X9_settle mO_X9_settle dX9_settle_49 fT_9_35
theorem rX9_settle_52 : tA sc iX9_settle 52 ls st h Q = tA sc iX9_settle 53 ls (vI (1) :: st) h Q := tA_pure mB_X9_settle dX9_settle_52 rfl
theorem rX9_settle_53 : tA sc iX9_settle 53 ls (vI j :: vR (some a) :: st) h Q = oz (tald sc h 0 a j) (fun v => tA sc iX9_settle 54 ls (vI v :: st) h Q) := tA_iald mB_X9_settle dX9_settle_53
theorem rX9_settle_54 : tA sc iX9_settle 54 ls (vI x :: st) h Q = tA sc iX9_settle 55 ls (vI (-x) :: st) h Q := tA_pure mB_X9_settle dX9_settle_54 rfl
theorem rX9_settle_55 : tA sc iX9_settle 55 ls (vI y :: vI x :: st) h Q = tA sc iX9_settle 56 ls (vI (x + y) :: st) h Q := tA_pure mB_X9_settle dX9_settle_55 rfl
theorem rX9_settle_56 : tA sc iX9_settle 56 ls (vI x :: vI j :: vR (some a) :: st) h Q = oz (tasi h a j x) (fun h' => tA sc iX9_settle 57 ls st h' Q) := tA_iast mB_X9_settle dX9_settle_56
theorem rX9_settle_57 : tA sc iX9_settle 57 [l0, l1, vI x] st h Q = tA sc iX9_settle 60 [l0, tclr l1, vI (x + 1)] st h Q := tA_pure mB_X9_settle dX9_settle_57 rfl
theorem rX9_settle_60 : tA sc iX9_settle 60 ls st h Q = tA sc iX9_settle 2 ls st h Q := tA_jump mB_X9_settle dX9_settle_60 (fun _ _ _ _ => rfl) rfl
theorem rX9_settle_63 : tA sc iX9_settle 63 ls [] h Q = Q (none) h := tA_ret mB_X9_settle dX9_settle_63 (fun _ _ _ _ => rfl) (fun _ _ _ => rfl) (fun _ _ _ _ _ => rfl) rfl rfl
theorem mB_X9_latestMorning : mB iX9_latestMorning = cX9_latestMorning := rfl
theorem mO_X9_latestMorning : mO iX9_latestMorning = 9 := rfl
theorem rX9_latestMorning_0 : tA sc iX9_latestMorning 0 [vR r, l1, l2] st h Q = tA sc iX9_latestMorning 1 [vR r, l1, l2] (vR r :: st) h Q := tA_pure mB_X9_latestMorning dX9_latestMorning_0 rfl
theorem rX9_latestMorning_1 : tA sc iX9_latestMorning 1 ls (vR (some o) :: st) h Q = oz (tget h o [9] 6) (fun v => tA sc iX9_latestMorning 4 ls (v :: st) h Q) := tA_get mB_X9_latestMorning mO_X9_latestMorning dX9_latestMorning_1 fT_9_67
theorem rX9_latestMorning_4 : tA sc iX9_latestMorning 4 ls st h Q = tA sc iX9_latestMorning 5 ls (vI (1) :: st) h Q := tA_pure mB_X9_latestMorning dX9_latestMorning_4 rfl
theorem rX9_latestMorning_5 : tA sc iX9_latestMorning 5 ls (vI y :: vI x :: st) h Q = tA sc iX9_latestMorning 6 ls (vI (x - y) :: st) h Q := tA_pure mB_X9_latestMorning dX9_latestMorning_5 rfl
theorem rX9_latestMorning_6 : tA sc iX9_latestMorning 6 [l0, l1, l2] (vI x :: st) h Q = tA sc iX9_latestMorning 7 [l0, tclr l1, vI x] st h Q := tA_pure mB_X9_latestMorning dX9_latestMorning_6 rfl
theorem rX9_latestMorning_7 : tA sc iX9_latestMorning 7 [l0, l1, vI x] st h Q = tA sc iX9_latestMorning 8 [l0, l1, vI x] (vI x :: st) h Q := tA_pure mB_X9_latestMorning dX9_latestMorning_7 rfl
theorem rX9_latestMorning_8 : tA sc iX9_latestMorning 8 ls (vI x :: st) h Q = (if 0 ≤ x then tA sc iX9_latestMorning 13 ls st h Q else tA sc iX9_latestMorning 11 ls st h Q) := tA_if mB_X9_latestMorning dX9_latestMorning_8 (fun _ _ _ _ => rfl) rfl
theorem rX9_latestMorning_11 : tA sc iX9_latestMorning 11 ls st h Q = tA sc iX9_latestMorning 12 ls (vI (0) :: st) h Q := tA_pure mB_X9_latestMorning dX9_latestMorning_11 rfl
theorem rX9_latestMorning_12 : tA sc iX9_latestMorning 12 ls [vI x] h Q = Q (some (vI x)) h := tA_ret mB_X9_latestMorning dX9_latestMorning_12 (fun _ _ _ _ => rfl) (fun _ _ _ => rfl) (fun _ _ _ _ _ => rfl) rfl rfl
theorem rX9_latestMorning_13 : tA sc iX9_latestMorning 13 [l0, vI x, l2] st h Q = tA sc iX9_latestMorning 14 [l0, vI x, l2] (vI x :: st) h Q := tA_pure mB_X9_latestMorning dX9_latestMorning_13 rfl
theorem rX9_latestMorning_14 : tA sc iX9_latestMorning 14 ls (vI x :: st) h Q = (if x = 0 then tA sc iX9_latestMorning 40 ls st h Q else if x = 1 then tA sc iX9_latestMorning 47 ls st h Q else tA sc iX9_latestMorning 55 ls st h Q) := tA_lk2 mB_X9_latestMorning dX9_latestMorning_14 rfl rfl rfl
theorem rX9_latestMorning_40 : tA sc iX9_latestMorning 40 [vR r, l1, l2] st h Q = tA sc iX9_latestMorning 41 [vR r, l1, l2] (vR r :: st) h Q := tA_pure mB_X9_latestMorning dX9_latestMorning_40 rfl
theorem rX9_latestMorning_41 : tA sc iX9_latestMorning 41 ls (vR (some o) :: st) h Q = oz (tget h o [9] 3) (fun v => tA sc iX9_latestMorning 44 ls (v :: st) h Q) := tA_get mB_X9_latestMorning mO_X9_latestMorning dX9_latestMorning_41 fT_9_21
theorem rX9_latestMorning_44 : tA sc iX9_latestMorning 44 [l0, l1, vI x] st h Q = tA sc iX9_latestMorning 45 [l0, l1, vI x] (vI x :: st) h Q := tA_pure mB_X9_latestMorning dX9_latestMorning_44 rfl
theorem rX9_latestMorning_45 : tA sc iX9_latestMorning 45 ls (vI j :: vR (some a) :: st) h Q = oz (tald sc h 0 a j) (fun v => tA sc iX9_latestMorning 46 ls (vI v :: st) h Q) := tA_iald mB_X9_latestMorning dX9_latestMorning_45
theorem rX9_latestMorning_46 : tA sc iX9_latestMorning 46 ls [vI x] h Q = Q (some (vI x)) h := tA_ret mB_X9_latestMorning dX9_latestMorning_46 (fun _ _ _ _ => rfl) (fun _ _ _ => rfl) (fun _ _ _ _ _ => rfl) rfl rfl
theorem rX9_latestMorning_47 : tA sc iX9_latestMorning 47 [vR r, l1, l2] st h Q = tA sc iX9_latestMorning 48 [vR r, l1, l2] (vR r :: st) h Q := tA_pure mB_X9_latestMorning dX9_latestMorning_47 rfl
theorem rX9_latestMorning_48 : tA sc iX9_latestMorning 48 [l0, l1, vI x] st h Q = tA sc iX9_latestMorning 49 [l0, l1, vI x] (vI x :: st) h Q := tA_pure mB_X9_latestMorning dX9_latestMorning_48 rfl
theorem rX9_latestMorning_49 (hci : tcl h o = some 9) : tA sc iX9_latestMorning 49 ls [vI p0, vR (some o)] h Q = tA sc iX9_ownerOf 0 [vR (some o), vI p0, vU] [] h (fun v h1 => tA sc iX9_latestMorning 52 ls (tpu v []) h1 Q) := tA_cV mB_X9_latestMorning mO_X9_latestMorning dX9_latestMorning_49 cT_9_154 rfl (Nat.le_of_ble_eq_true rfl) rfl rfl rfl hci
theorem rX9_latestMorning_52 : tA sc iX9_latestMorning 52 ls st h Q = tA sc iX9_latestMorning 53 ls (vI (1) :: st) h Q := tA_pure mB_X9_latestMorning dX9_latestMorning_52 rfl
theorem rX9_latestMorning_53 : tA sc iX9_latestMorning 53 ls (vI y :: vI x :: st) h Q = tA sc iX9_latestMorning 54 ls (vI (x + y) :: st) h Q := tA_pure mB_X9_latestMorning dX9_latestMorning_53 rfl
theorem rX9_latestMorning_54 : tA sc iX9_latestMorning 54 ls [vI x] h Q = Q (some (vI x)) h := tA_ret mB_X9_latestMorning dX9_latestMorning_54 (fun _ _ _ _ => rfl) (fun _ _ _ => rfl) (fun _ _ _ _ _ => rfl) rfl rfl
theorem rX9_latestMorning_55 : tA sc iX9_latestMorning 55 [vR r, l1, l2] st h Q = tA sc iX9_latestMorning 56 [vR r, l1, l2] (vR r :: st) h Q := tA_pure mB_X9_latestMorning dX9_latestMorning_55 rfl
theorem rX9_latestMorning_56 (hci : tcl h o = some 9) : tA sc iX9_latestMorning 56 ls [vR (some o)] h Q = tA sc iX9_pursesTogether 0 [vR (some o), vU, vU] [] h (fun v h1 => tA sc iX9_latestMorning 59 ls (tpu v []) h1 Q) := tA_cV mB_X9_latestMorning mO_X9_latestMorning dX9_latestMorning_56 cT_9_157 rfl (Nat.le_of_ble_eq_true rfl) rfl rfl rfl hci
theorem rX9_latestMorning_59 : tA sc iX9_latestMorning 59 ls [vI x] h Q = Q (some (vI x)) h := tA_ret mB_X9_latestMorning dX9_latestMorning_59 (fun _ _ _ _ => rfl) (fun _ _ _ => rfl) (fun _ _ _ _ _ => rfl) rfl rfl
theorem mB_X9_takingsTimesAll : mB iX9_takingsTimesAll = cX9_takingsTimesAll := rfl
theorem mO_X9_takingsTimesAll : mO iX9_takingsTimesAll = 9 := rfl
theorem rX9_takingsTimesAll_0 : tA sc iX9_takingsTimesAll 0 [vR r, l1, l2, l3, l4] st h Q = tA sc iX9_takingsTimesAll 1 [vR r, l1, l2, l3, l4] (vR r :: st) h Q := tA_pure mB_X9_takingsTimesAll dX9_takingsTimesAll_0 rfl
theorem rX9_takingsTimesAll_1 : tA sc iX9_takingsTimesAll 1 [l0, vI x, l2, l3, l4] st h Q = tA sc iX9_takingsTimesAll 2 [l0, vI x, l2, l3, l4] (vI x :: st) h Q := tA_pure mB_X9_takingsTimesAll dX9_takingsTimesAll_1 rfl
theorem rX9_takingsTimesAll_2 : tA sc iX9_takingsTimesAll 2 [l0, l1, vI x, l3, l4] st h Q = tA sc iX9_takingsTimesAll 3 [l0, l1, vI x, l3, l4] (vI x :: st) h Q := tA_pure mB_X9_takingsTimesAll dX9_takingsTimesAll_2 rfl
theorem rX9_takingsTimesAll_3 : tA sc iX9_takingsTimesAll 3 [l0, l1, l2, vI x, l4] st h Q = tA sc iX9_takingsTimesAll 4 [l0, l1, l2, vI x, l4] (vI x :: st) h Q := tA_pure mB_X9_takingsTimesAll dX9_takingsTimesAll_3 rfl
theorem rX9_takingsTimesAll_4 (hci : tcl h o = some 9) : tA sc iX9_takingsTimesAll 4 ls [vI p2, vI p1, vI p0, vR (some o)] h Q = tA sc iX9_weightWith 0 [vR (some o), vI p0, vI p1, vI p2, vU] [] h (fun v h1 => tA sc iX9_takingsTimesAll 7 ls (tpu v []) h1 Q) := tA_cV mB_X9_takingsTimesAll mO_X9_takingsTimesAll dX9_takingsTimesAll_4 cT_9_82 rfl (Nat.le_of_ble_eq_true rfl) rfl rfl rfl hci
theorem rX9_takingsTimesAll_7 : tA sc iX9_takingsTimesAll 7 [l0, l1, l2, l3, l4] (vI x :: st) h Q = tA sc iX9_takingsTimesAll 9 [l0, l1, l2, tclr l3, vI x] st h Q := tA_pure mB_X9_takingsTimesAll dX9_takingsTimesAll_7 rfl
theorem rX9_takingsTimesAll_9 : tA sc iX9_takingsTimesAll 9 [vR r, l1, l2, l3, l4] st h Q = tA sc iX9_takingsTimesAll 10 [vR r, l1, l2, l3, l4] (vR r :: st) h Q := tA_pure mB_X9_takingsTimesAll dX9_takingsTimesAll_9 rfl
theorem rX9_takingsTimesAll_10 : tA sc iX9_takingsTimesAll 10 [l0, vI x, l2, l3, l4] st h Q = tA sc iX9_takingsTimesAll 11 [l0, vI x, l2, l3, l4] (vI x :: st) h Q := tA_pure mB_X9_takingsTimesAll dX9_takingsTimesAll_10 rfl
theorem rX9_takingsTimesAll_11 (hci : tcl h o = some 9) : tA sc iX9_takingsTimesAll 11 ls [vI p0, vR (some o)] h Q = tA sc iX9_earn 0 [vR (some o), vI p0] [] h (fun v h1 => tA sc iX9_takingsTimesAll 14 ls (tpu v []) h1 Q) := tA_cV mB_X9_takingsTimesAll mO_X9_takingsTimesAll dX9_takingsTimesAll_11 cT_9_151 rfl (Nat.le_of_ble_eq_true rfl) rfl rfl rfl hci
theorem rX9_takingsTimesAll_14 : tA sc iX9_takingsTimesAll 14 [l0, l1, l2, l3, vI x] st h Q = tA sc iX9_takingsTimesAll 16 [l0, l1, l2, l3, vI x] (vI x :: st) h Q := tA_pure mB_X9_takingsTimesAll dX9_takingsTimesAll_14 rfl
theorem rX9_takingsTimesAll_16 : tA sc iX9_takingsTimesAll 16 ls (vI y :: vI x :: st) h Q = tA sc iX9_takingsTimesAll 17 ls (vI (x * y) :: st) h Q := tA_pure mB_X9_takingsTimesAll dX9_takingsTimesAll_16 rfl
theorem rX9_takingsTimesAll_17 : tA sc iX9_takingsTimesAll 17 [vR r, l1, l2, l3, l4] st h Q = tA sc iX9_takingsTimesAll 18 [vR r, l1, l2, l3, l4] (vR r :: st) h Q := tA_pure mB_X9_takingsTimesAll dX9_takingsTimesAll_17 rfl
theorem rX9_takingsTimesAll_18 : tA sc iX9_takingsTimesAll 18 ls (vR (some o) :: st) h Q = oz (tget h o [9] 5) (fun v => tA sc iX9_takingsTimesAll 21 ls (v :: st) h Q) := tA_get mB_X9_takingsTimesAll mO_X9_takingsTimesAll dX9_takingsTimesAll_18 fT_9_35
theorem rX9_takingsTimesAll_21 : tA sc iX9_takingsTimesAll 21 ls st h Q = tA sc iX9_takingsTimesAll 22 ls (vI (1) :: st) h Q := tA_pure mB_X9_takingsTimesAll dX9_takingsTimesAll_21 rfl
theorem rX9_takingsTimesAll_22 : tA sc iX9_takingsTimesAll 22 ls (vI j :: vR (some a) :: st) h Q = oz (tald sc h 0 a j) (fun v => tA sc iX9_takingsTimesAll 23 ls (vI v :: st) h Q) := tA_iald mB_X9_takingsTimesAll dX9_takingsTimesAll_22
theorem rX9_takingsTimesAll_23 : tA sc iX9_takingsTimesAll 23 [vR r, l1, l2, l3, l4] st h Q = tA sc iX9_takingsTimesAll 24 [vR r, l1, l2, l3, l4] (vR r :: st) h Q := tA_pure mB_X9_takingsTimesAll dX9_takingsTimesAll_23 rfl
theorem rX9_takingsTimesAll_24 : tA sc iX9_takingsTimesAll 24 [l0, vI x, l2, l3, l4] st h Q = tA sc iX9_takingsTimesAll 25 [l0, vI x, l2, l3, l4] (vI x :: st) h Q := tA_pure mB_X9_takingsTimesAll dX9_takingsTimesAll_24 rfl
theorem rX9_takingsTimesAll_25 : tA sc iX9_takingsTimesAll 25 [l0, l1, l2, vI x, l4] st h Q = tA sc iX9_takingsTimesAll 26 [l0, l1, l2, vI x, l4] (vI x :: st) h Q := tA_pure mB_X9_takingsTimesAll dX9_takingsTimesAll_25 rfl
theorem rX9_takingsTimesAll_26 (hci : tcl h o = some 9) : tA sc iX9_takingsTimesAll 26 ls [vI p1, vI p0, vR (some o), s0, s1] h Q = tA sc iX9_allWith 0 [vR (some o), vI p0, vI p1, vU, vU] [] h (fun v h1 => tA sc iX9_takingsTimesAll 29 ls (tpu v [s0, s1]) h1 Q) := tA_cV mB_X9_takingsTimesAll mO_X9_takingsTimesAll dX9_takingsTimesAll_26 cT_9_86 rfl (Nat.le_of_ble_eq_true rfl) rfl rfl rfl hci
theorem rX9_takingsTimesAll_29 : tA sc iX9_takingsTimesAll 29 [l0, l1, l2, l3, vI x] st h Q = tA sc iX9_takingsTimesAll 31 [l0, l1, l2, l3, vI x] (vI x :: st) h Q := tA_pure mB_X9_takingsTimesAll dX9_takingsTimesAll_29 rfl
theorem rX9_takingsTimesAll_31 : tA sc iX9_takingsTimesAll 31 ls (vI y :: vI x :: st) h Q = tA sc iX9_takingsTimesAll 32 ls (vI (x - y) :: st) h Q := tA_pure mB_X9_takingsTimesAll dX9_takingsTimesAll_31 rfl
theorem rX9_takingsTimesAll_32 : tA sc iX9_takingsTimesAll 32 ls (vI y :: vI x :: st) h Q = tA sc iX9_takingsTimesAll 33 ls (vI (x * y) :: st) h Q := tA_pure mB_X9_takingsTimesAll dX9_takingsTimesAll_32 rfl
theorem rX9_takingsTimesAll_33 : tA sc iX9_takingsTimesAll 33 ls (vI y :: vI x :: st) h Q = tA sc iX9_takingsTimesAll 34 ls (vI (x - y) :: st) h Q := tA_pure mB_X9_takingsTimesAll dX9_takingsTimesAll_33 rfl
theorem rX9_takingsTimesAll_34 : tA sc iX9_takingsTimesAll 34 ls [vI x] h Q = Q (some (vI x)) h := tA_ret mB_X9_takingsTimesAll dX9_takingsTimesAll_34 (fun _ _ _ _ => rfl) (fun _ _ _ => rfl) (fun _ _ _ _ _ => rfl) rfl rfl
theorem mB_X9_gainTimesAll : mB iX9_gainTimesAll = cX9_gainTimesAll := rfl
theorem mO_X9_gainTimesAll : mO iX9_gainTimesAll = 9 := rfl
theorem rX9_gainTimesAll_0 : tA sc iX9_gainTimesAll 0 [vR r, l1, l2, l3] st h Q = tA sc iX9_gainTimesAll 1 [vR r, l1, l2, l3] (vR r :: st) h Q := tA_pure mB_X9_gainTimesAll dX9_gainTimesAll_0 rfl
theorem rX9_gainTimesAll_1 : tA sc iX9_gainTimesAll 1 [l0, vI x, l2, l3] st h Q = tA sc iX9_gainTimesAll 2 [l0, vI x, l2, l3] (vI x :: st) h Q := tA_pure mB_X9_gainTimesAll dX9_gainTimesAll_1 rfl
theorem rX9_gainTimesAll_2 : tA sc iX9_gainTimesAll 2 [l0, l1, vI x, l3] st h Q = tA sc iX9_gainTimesAll 3 [l0, l1, vI x, l3] (vI x :: st) h Q := tA_pure mB_X9_gainTimesAll dX9_gainTimesAll_2 rfl
theorem rX9_gainTimesAll_3 : tA sc iX9_gainTimesAll 3 [l0, l1, l2, vI x] st h Q = tA sc iX9_gainTimesAll 4 [l0, l1, l2, vI x] (vI x :: st) h Q := tA_pure mB_X9_gainTimesAll dX9_gainTimesAll_3 rfl
theorem rX9_gainTimesAll_4 (hci : tcl h o = some 9) : tA sc iX9_gainTimesAll 4 ls [vI p2, vI p1, vI p0, vR (some o)] h Q = tA sc iX9_takingsTimesAll 0 [vR (some o), vI p0, vI p1, vI p2, vU] [] h (fun v h1 => tA sc iX9_gainTimesAll 7 ls (tpu v []) h1 Q) := tA_cV mB_X9_gainTimesAll mO_X9_gainTimesAll dX9_gainTimesAll_4 cT_9_160 rfl (Nat.le_of_ble_eq_true rfl) rfl rfl rfl hci
theorem rX9_gainTimesAll_7 : tA sc iX9_gainTimesAll 7 [vR r, l1, l2, l3] st h Q = tA sc iX9_gainTimesAll 8 [vR r, l1, l2, l3] (vR r :: st) h Q := tA_pure mB_X9_gainTimesAll dX9_gainTimesAll_7 rfl
theorem rX9_gainTimesAll_8 : tA sc iX9_gainTimesAll 8 ls (vR (some o) :: st) h Q = oz (tget h o [9] 5) (fun v => tA sc iX9_gainTimesAll 11 ls (v :: st) h Q) := tA_get mB_X9_gainTimesAll mO_X9_gainTimesAll dX9_gainTimesAll_8 fT_9_35
theorem rX9_gainTimesAll_11 : tA sc iX9_gainTimesAll 11 ls st h Q = tA sc iX9_gainTimesAll 12 ls (vI (2) :: st) h Q := tA_pure mB_X9_gainTimesAll dX9_gainTimesAll_11 rfl
theorem rX9_gainTimesAll_12 : tA sc iX9_gainTimesAll 12 ls (vI j :: vR (some a) :: st) h Q = oz (tald sc h 0 a j) (fun v => tA sc iX9_gainTimesAll 13 ls (vI v :: st) h Q) := tA_iald mB_X9_gainTimesAll dX9_gainTimesAll_12
theorem rX9_gainTimesAll_13 : tA sc iX9_gainTimesAll 13 [vR r, l1, l2, l3] st h Q = tA sc iX9_gainTimesAll 14 [vR r, l1, l2, l3] (vR r :: st) h Q := tA_pure mB_X9_gainTimesAll dX9_gainTimesAll_13 rfl
theorem rX9_gainTimesAll_14 : tA sc iX9_gainTimesAll 14 [l0, vI x, l2, l3] st h Q = tA sc iX9_gainTimesAll 15 [l0, vI x, l2, l3] (vI x :: st) h Q := tA_pure mB_X9_gainTimesAll dX9_gainTimesAll_14 rfl
theorem rX9_gainTimesAll_15 : tA sc iX9_gainTimesAll 15 [l0, l1, l2, vI x] st h Q = tA sc iX9_gainTimesAll 16 [l0, l1, l2, vI x] (vI x :: st) h Q := tA_pure mB_X9_gainTimesAll dX9_gainTimesAll_15 rfl
theorem rX9_gainTimesAll_16 (hci : tcl h o = some 9) : tA sc iX9_gainTimesAll 16 ls [vI p1, vI p0, vR (some o), s0, s1] h Q = tA sc iX9_allWith 0 [vR (some o), vI p0, vI p1, vU, vU] [] h (fun v h1 => tA sc iX9_gainTimesAll 19 ls (tpu v [s0, s1]) h1 Q) := tA_cV mB_X9_gainTimesAll mO_X9_gainTimesAll dX9_gainTimesAll_16 cT_9_86 rfl (Nat.le_of_ble_eq_true rfl) rfl rfl rfl hci
theorem rX9_gainTimesAll_19 : tA sc iX9_gainTimesAll 19 ls (vI y :: vI x :: st) h Q = tA sc iX9_gainTimesAll 20 ls (vI (x * y) :: st) h Q := tA_pure mB_X9_gainTimesAll dX9_gainTimesAll_19 rfl
theorem rX9_gainTimesAll_20 : tA sc iX9_gainTimesAll 20 ls (vI y :: vI x :: st) h Q = tA sc iX9_gainTimesAll 21 ls (vI (x - y) :: st) h Q := tA_pure mB_X9_gainTimesAll dX9_gainTimesAll_20 rfl
theorem rX9_gainTimesAll_21 : tA sc iX9_gainTimesAll 21 ls (vI x :: st) h Q = tA sc iX9_gainTimesAll 22 ls (vL x.toInt64 :: st) h Q := tA_pure mB_X9_gainTimesAll dX9_gainTimesAll_21 rfl
theorem rX9_gainTimesAll_22 : tA sc iX9_gainTimesAll 22 ls [vL u] h Q = Q (some (vL u)) h := tA_ret mB_X9_gainTimesAll dX9_gainTimesAll_22 (fun _ _ _ _ => rfl) (fun _ _ _ => rfl) (fun _ _ _ _ _ => rfl) rfl rfl
theorem mB_X9_bestTimesAll : mB iX9_bestTimesAll = cX9_bestTimesAll := rfl
theorem mO_X9_bestTimesAll : mO iX9_bestTimesAll = 9 := rfl
theorem rX9_bestTimesAll_0 : tA sc iX9_bestTimesAll 0 ls st h Q = tA sc iX9_bestTimesAll 1 ls (vL 0 :: st) h Q := tA_pure mB_X9_bestTimesAll dX9_bestTimesAll_0 rfl
theorem rX9_bestTimesAll_1 : tA sc iX9_bestTimesAll 1 [l0, l1, l2, l3, l4, l5] (vL u :: st) h Q = tA sc iX9_bestTimesAll 2 [l0, l1, tclr l2, vL u, vU, l5] st h Q := tA_pure mB_X9_bestTimesAll dX9_bestTimesAll_1 rfl
theorem rX9_bestTimesAll_2 : tA sc iX9_bestTimesAll 2 ls st h Q = tA sc iX9_bestTimesAll 3 ls (vI (0) :: st) h Q := tA_pure mB_X9_bestTimesAll dX9_bestTimesAll_2 rfl
theorem rX9_bestTimesAll_3 : tA sc iX9_bestTimesAll 3 [l0, l1, l2, l3, l4, l5] (vI x :: st) h Q = tA sc iX9_bestTimesAll 5 [l0, l1, l2, l3, tclr l4, vI x] st h Q := tA_pure mB_X9_bestTimesAll dX9_bestTimesAll_3 rfl
theorem rX9_bestTimesAll_5 : tA sc iX9_bestTimesAll 5 [l0, l1, l2, l3, l4, vI x] st h Q = tA sc iX9_bestTimesAll 7 [l0, l1, l2, l3, l4, vI x] (vI x :: st) h Q := tA_pure mB_X9_bestTimesAll dX9_bestTimesAll_5 rfl
theorem rX9_bestTimesAll_7 : tA sc iX9_bestTimesAll 7 ls st h Q = tA sc iX9_bestTimesAll 8 ls (vI (4) :: st) h Q := tA_pure mB_X9_bestTimesAll dX9_bestTimesAll_7 rfl
theorem rX9_bestTimesAll_8 : tA sc iX9_bestTimesAll 8 ls (vI y :: vI x :: st) h Q = (if y ≤ x then tA sc iX9_bestTimesAll 40 ls st h Q else tA sc iX9_bestTimesAll 11 ls st h Q) := tA_if mB_X9_bestTimesAll dX9_bestTimesAll_8 (fun _ _ _ _ => rfl) rfl
theorem rX9_bestTimesAll_11 : tA sc iX9_bestTimesAll 11 [vR r, l1, l2, l3, l4, l5] st h Q = tA sc iX9_bestTimesAll 12 [vR r, l1, l2, l3, l4, l5] (vR r :: st) h Q := tA_pure mB_X9_bestTimesAll dX9_bestTimesAll_11 rfl
theorem rX9_bestTimesAll_12 : tA sc iX9_bestTimesAll 12 [l0, vI x, l2, l3, l4, l5] st h Q = tA sc iX9_bestTimesAll 13 [l0, vI x, l2, l3, l4, l5] (vI x :: st) h Q := tA_pure mB_X9_bestTimesAll dX9_bestTimesAll_12 rfl
theorem rX9_bestTimesAll_13 : tA sc iX9_bestTimesAll 13 [l0, l1, l2, l3, l4, vI x] st h Q = tA sc iX9_bestTimesAll 15 [l0, l1, l2, l3, l4, vI x] (vI x :: st) h Q := tA_pure mB_X9_bestTimesAll dX9_bestTimesAll_13 rfl
theorem rX9_bestTimesAll_15 (hci : tcl h o = some 9) : tA sc iX9_bestTimesAll 15 ls [vI p1, vI p0, vR (some o)] h Q = tA sc iX9_isSaid 0 [vR (some o), vI p0, vI p1] [] h (fun v h1 => tA sc iX9_bestTimesAll 18 ls (tpu v []) h1 Q) := tA_cV mB_X9_bestTimesAll mO_X9_bestTimesAll dX9_bestTimesAll_15 cT_9_163 rfl (Nat.le_of_ble_eq_true rfl) rfl rfl rfl hci
theorem rX9_bestTimesAll_18 : tA sc iX9_bestTimesAll 18 ls (vI x :: st) h Q = (if ¬ x = 0 then tA sc iX9_bestTimesAll 34 ls st h Q else tA sc iX9_bestTimesAll 21 ls st h Q) := tA_if mB_X9_bestTimesAll dX9_bestTimesAll_18 (fun _ _ _ _ => rfl) rfl
theorem rX9_bestTimesAll_21 : tA sc iX9_bestTimesAll 21 [l0, l1, l2, vL u, l4, l5] st h Q = tA sc iX9_bestTimesAll 22 [l0, l1, l2, vL u, l4, l5] (vL u :: st) h Q := tA_pure mB_X9_bestTimesAll dX9_bestTimesAll_21 rfl
theorem rX9_bestTimesAll_22 : tA sc iX9_bestTimesAll 22 [vR r, l1, l2, l3, l4, l5] st h Q = tA sc iX9_bestTimesAll 23 [vR r, l1, l2, l3, l4, l5] (vR r :: st) h Q := tA_pure mB_X9_bestTimesAll dX9_bestTimesAll_22 rfl
theorem rX9_bestTimesAll_23 : tA sc iX9_bestTimesAll 23 [l0, vI x, l2, l3, l4, l5] st h Q = tA sc iX9_bestTimesAll 24 [l0, vI x, l2, l3, l4, l5] (vI x :: st) h Q := tA_pure mB_X9_bestTimesAll dX9_bestTimesAll_23 rfl
theorem rX9_bestTimesAll_24 : tA sc iX9_bestTimesAll 24 [l0, l1, l2, l3, l4, vI x] st h Q = tA sc iX9_bestTimesAll 26 [l0, l1, l2, l3, l4, vI x] (vI x :: st) h Q := tA_pure mB_X9_bestTimesAll dX9_bestTimesAll_24 rfl
theorem rX9_bestTimesAll_26 : tA sc iX9_bestTimesAll 26 [l0, l1, vI x, l3, l4, l5] st h Q = tA sc iX9_bestTimesAll 27 [l0, l1, vI x, l3, l4, l5] (vI x :: st) h Q := tA_pure mB_X9_bestTimesAll dX9_bestTimesAll_26 rfl
theorem rX9_bestTimesAll_27 (hci : tcl h o = some 9) : tA sc iX9_bestTimesAll 27 ls [vI p2, vI p1, vI p0, vR (some o), s0] h Q = tA sc iX9_gainTimesAll 0 [vR (some o), vI p0, vI p1, vI p2] [] h (fun v h1 => tA sc iX9_bestTimesAll 30 ls (tpu v [s0]) h1 Q) := tA_cV mB_X9_bestTimesAll mO_X9_bestTimesAll dX9_bestTimesAll_27 cT_9_167 rfl (Nat.le_of_ble_eq_true rfl) rfl rfl rfl hci
theorem rX9_bestTimesAll_30 : tA sc iX9_bestTimesAll 30 ls [vL q1, vL q0] h Q = tA sc iX9_bestTimesAll 33 ls (vL (if q1 < q0 then q0 else q1) :: []) h Q := tA_cN mB_X9_bestTimesAll mO_X9_bestTimesAll dX9_bestTimesAll_30 (fun _ _ _ _ => rfl) (fun _ _ _ => rfl) (fun _ _ _ _ _ => rfl) rfl cT_9_171 rfl rfl
theorem rX9_bestTimesAll_33 : tA sc iX9_bestTimesAll 33 [l0, l1, l2, l3, l4, l5] (vL u :: st) h Q = tA sc iX9_bestTimesAll 34 [l0, l1, tclr l2, vL u, vU, l5] st h Q := tA_pure mB_X9_bestTimesAll dX9_bestTimesAll_33 rfl
theorem rX9_bestTimesAll_34 : tA sc iX9_bestTimesAll 34 [l0, l1, l2, l3, l4, vI x] st h Q = tA sc iX9_bestTimesAll 37 [l0, l1, l2, l3, tclr l4, vI (x + 1)] st h Q := tA_pure mB_X9_bestTimesAll dX9_bestTimesAll_34 rfl
theorem rX9_bestTimesAll_37 : tA sc iX9_bestTimesAll 37 ls st h Q = tA sc iX9_bestTimesAll 5 ls st h Q := tA_jump mB_X9_bestTimesAll dX9_bestTimesAll_37 (fun _ _ _ _ => rfl) rfl
theorem rX9_bestTimesAll_40 : tA sc iX9_bestTimesAll 40 [l0, l1, l2, vL u, l4, l5] st h Q = tA sc iX9_bestTimesAll 41 [l0, l1, l2, vL u, l4, l5] (vL u :: st) h Q := tA_pure mB_X9_bestTimesAll dX9_bestTimesAll_40 rfl
theorem rX9_bestTimesAll_41 : tA sc iX9_bestTimesAll 41 ls [vL u] h Q = Q (some (vL u)) h := tA_ret mB_X9_bestTimesAll dX9_bestTimesAll_41 (fun _ _ _ _ => rfl) (fun _ _ _ => rfl) (fun _ _ _ _ _ => rfl) rfl rfl
theorem mB_X9_bestPlace : mB iX9_bestPlace = cX9_bestPlace := rfl
theorem mO_X9_bestPlace : mO iX9_bestPlace = 9 := rfl
theorem rX9_bestPlace_0 : tA sc iX9_bestPlace 0 ls st h Q = tA sc iX9_bestPlace 1 ls (vI (-1) :: st) h Q := tA_pure mB_X9_bestPlace dX9_bestPlace_0 rfl
theorem rX9_bestPlace_1 : tA sc iX9_bestPlace 1 [l0, l1, l2, l3, l4, l5, l6, l7, l8, l9, l10, l11] (vI x :: st) h Q = tA sc iX9_bestPlace 2 [tclr l0, vI x, l2, l3, l4, l5, l6, l7, l8, l9, l10, l11] st h Q := tA_pure mB_X9_bestPlace dX9_bestPlace_1 rfl
theorem rX9_bestPlace_2 : tA sc iX9_bestPlace 2 ls st h Q = tA sc iX9_bestPlace 3 ls (vL 0 :: st) h Q := tA_pure mB_X9_bestPlace dX9_bestPlace_2 rfl
theorem rX9_bestPlace_3 : tA sc iX9_bestPlace 3 [l0, l1, l2, l3, l4, l5, l6, l7, l8, l9, l10, l11] (vL u :: st) h Q = tA sc iX9_bestPlace 4 [l0, tclr l1, vL u, vU, l4, l5, l6, l7, l8, l9, l10, l11] st h Q := tA_pure mB_X9_bestPlace dX9_bestPlace_3 rfl
theorem rX9_bestPlace_4 : tA sc iX9_bestPlace 4 ls st h Q = tA sc iX9_bestPlace 5 ls (vL 1 :: st) h Q := tA_pure mB_X9_bestPlace dX9_bestPlace_4 rfl
theorem rX9_bestPlace_5 : tA sc iX9_bestPlace 5 [l0, l1, l2, l3, l4, l5, l6, l7, l8, l9, l10, l11] (vL u :: st) h Q = tA sc iX9_bestPlace 7 [l0, l1, l2, tclr l3, vL u, vU, l6, l7, l8, l9, l10, l11] st h Q := tA_pure mB_X9_bestPlace dX9_bestPlace_5 rfl
theorem rX9_bestPlace_7 : tA sc iX9_bestPlace 7 [vR r, l1, l2, l3, l4, l5, l6, l7, l8, l9, l10, l11] st h Q = tA sc iX9_bestPlace 8 [vR r, l1, l2, l3, l4, l5, l6, l7, l8, l9, l10, l11] (vR r :: st) h Q := tA_pure mB_X9_bestPlace dX9_bestPlace_7 rfl
theorem rX9_bestPlace_8 : tA sc iX9_bestPlace 8 ls (vR (some o) :: st) h Q = oz (tget h o [9] 6) (fun v => tA sc iX9_bestPlace 11 ls (v :: st) h Q) := tA_get mB_X9_bestPlace mO_X9_bestPlace dX9_bestPlace_8 fT_9_67
theorem rX9_bestPlace_11 : tA sc iX9_bestPlace 11 ls st h Q = tA sc iX9_bestPlace 12 ls (vI (4) :: st) h Q := tA_pure mB_X9_bestPlace dX9_bestPlace_11 rfl
theorem rX9_bestPlace_12 : tA sc iX9_bestPlace 12 ls (vI y :: vI x :: st) h Q = tA sc iX9_bestPlace 13 ls (vI (x * y) :: st) h Q := tA_pure mB_X9_bestPlace dX9_bestPlace_12 rfl
theorem rX9_bestPlace_13 : tA sc iX9_bestPlace 13 [l0, l1, l2, l3, l4, l5, l6, l7, l8, l9, l10, l11] (vI x :: st) h Q = tA sc iX9_bestPlace 15 [l0, l1, l2, l3, l4, tclr l5, vI x, l7, l8, l9, l10, l11] st h Q := tA_pure mB_X9_bestPlace dX9_bestPlace_13 rfl
theorem rX9_bestPlace_15 : tA sc iX9_bestPlace 15 [l0, l1, l2, l3, l4, l5, vI x, l7, l8, l9, l10, l11] st h Q = tA sc iX9_bestPlace 17 [l0, l1, l2, l3, l4, l5, vI x, l7, l8, l9, l10, l11] (vI x :: st) h Q := tA_pure mB_X9_bestPlace dX9_bestPlace_15 rfl
theorem rX9_bestPlace_17 : tA sc iX9_bestPlace 17 ls st h Q = tA sc iX9_bestPlace 19 ls (vI (80) :: st) h Q := tA_pure mB_X9_bestPlace dX9_bestPlace_17 rfl
theorem rX9_bestPlace_19 : tA sc iX9_bestPlace 19 ls (vI y :: vI x :: st) h Q = (if y ≤ x then tA sc iX9_bestPlace 102 ls st h Q else tA sc iX9_bestPlace 22 ls st h Q) := tA_if mB_X9_bestPlace dX9_bestPlace_19 (fun _ _ _ _ => rfl) rfl
theorem rX9_bestPlace_22 : tA sc iX9_bestPlace 22 [l0, l1, l2, l3, l4, l5, vI x, l7, l8, l9, l10, l11] st h Q = tA sc iX9_bestPlace 24 [l0, l1, l2, l3, l4, l5, vI x, l7, l8, l9, l10, l11] (vI x :: st) h Q := tA_pure mB_X9_bestPlace dX9_bestPlace_22 rfl
theorem rX9_bestPlace_24 : tA sc iX9_bestPlace 24 ls st h Q = tA sc iX9_bestPlace 25 ls (vI (4) :: st) h Q := tA_pure mB_X9_bestPlace dX9_bestPlace_24 rfl
theorem rX9_bestPlace_25 : tA sc iX9_bestPlace 25 ls (vI y :: vI x :: st) h Q = (¬ y = 0 ∧ tA sc iX9_bestPlace 26 ls (vI (x / y) :: st) h Q) := tA_div mB_X9_bestPlace dX9_bestPlace_25 (fun _ _ _ => rfl) (fun _ _ _ _ _ => rfl) rfl (fun _ _ => rfl) rfl
theorem rX9_bestPlace_26 : tA sc iX9_bestPlace 26 [l0, l1, l2, l3, l4, l5, l6, l7, l8, l9, l10, l11] (vI x :: st) h Q = tA sc iX9_bestPlace 28 [l0, l1, l2, l3, l4, l5, tclr l6, vI x, l8, l9, l10, l11] st h Q := tA_pure mB_X9_bestPlace dX9_bestPlace_26 rfl
theorem rX9_bestPlace_28 : tA sc iX9_bestPlace 28 [vR r, l1, l2, l3, l4, l5, l6, l7, l8, l9, l10, l11] st h Q = tA sc iX9_bestPlace 29 [vR r, l1, l2, l3, l4, l5, l6, l7, l8, l9, l10, l11] (vR r :: st) h Q := tA_pure mB_X9_bestPlace dX9_bestPlace_28 rfl
theorem rX9_bestPlace_29 : tA sc iX9_bestPlace 29 [l0, l1, l2, l3, l4, l5, l6, vI x, l8, l9, l10, l11] st h Q = tA sc iX9_bestPlace 31 [l0, l1, l2, l3, l4, l5, l6, vI x, l8, l9, l10, l11] (vI x :: st) h Q := tA_pure mB_X9_bestPlace dX9_bestPlace_29 rfl
theorem rX9_bestPlace_31 : tA sc iX9_bestPlace 31 [l0, l1, l2, l3, l4, l5, vI x, l7, l8, l9, l10, l11] st h Q = tA sc iX9_bestPlace 33 [l0, l1, l2, l3, l4, l5, vI x, l7, l8, l9, l10, l11] (vI x :: st) h Q := tA_pure mB_X9_bestPlace dX9_bestPlace_31 rfl
theorem rX9_bestPlace_33 : tA sc iX9_bestPlace 33 ls st h Q = tA sc iX9_bestPlace 34 ls (vI (4) :: st) h Q := tA_pure mB_X9_bestPlace dX9_bestPlace_33 rfl
theorem rX9_bestPlace_34 : tA sc iX9_bestPlace 34 ls (vI y :: vI x :: st) h Q = (¬ y = 0 ∧ tA sc iX9_bestPlace 35 ls (vI (x - x / y * y) :: st) h Q) := tA_div mB_X9_bestPlace dX9_bestPlace_34 (fun _ _ _ => rfl) (fun _ _ _ _ _ => rfl) rfl (fun _ _ => rfl) rfl
theorem rX9_bestPlace_35 (hci : tcl h o = some 9) : tA sc iX9_bestPlace 35 ls [vI p1, vI p0, vR (some o)] h Q = tA sc iX9_isSaid 0 [vR (some o), vI p0, vI p1] [] h (fun v h1 => tA sc iX9_bestPlace 38 ls (tpu v []) h1 Q) := tA_cV mB_X9_bestPlace mO_X9_bestPlace dX9_bestPlace_35 cT_9_163 rfl (Nat.le_of_ble_eq_true rfl) rfl rfl rfl hci
theorem rX9_bestPlace_38 : tA sc iX9_bestPlace 38 ls (vI x :: st) h Q = (if ¬ x = 0 then tA sc iX9_bestPlace 96 ls st h Q else tA sc iX9_bestPlace 41 ls st h Q) := tA_if mB_X9_bestPlace dX9_bestPlace_38 (fun _ _ _ _ => rfl) rfl
theorem rX9_bestPlace_41 : tA sc iX9_bestPlace 41 [vR r, l1, l2, l3, l4, l5, l6, l7, l8, l9, l10, l11] st h Q = tA sc iX9_bestPlace 42 [vR r, l1, l2, l3, l4, l5, l6, l7, l8, l9, l10, l11] (vR r :: st) h Q := tA_pure mB_X9_bestPlace dX9_bestPlace_41 rfl
theorem rX9_bestPlace_42 : tA sc iX9_bestPlace 42 [l0, l1, l2, l3, l4, l5, l6, vI x, l8, l9, l10, l11] st h Q = tA sc iX9_bestPlace 44 [l0, l1, l2, l3, l4, l5, l6, vI x, l8, l9, l10, l11] (vI x :: st) h Q := tA_pure mB_X9_bestPlace dX9_bestPlace_42 rfl
theorem rX9_bestPlace_44 : tA sc iX9_bestPlace 44 [l0, l1, l2, l3, l4, l5, vI x, l7, l8, l9, l10, l11] st h Q = tA sc iX9_bestPlace 46 [l0, l1, l2, l3, l4, l5, vI x, l7, l8, l9, l10, l11] (vI x :: st) h Q := tA_pure mB_X9_bestPlace dX9_bestPlace_44 rfl
theorem rX9_bestPlace_46 : tA sc iX9_bestPlace 46 ls st h Q = tA sc iX9_bestPlace 47 ls (vI (4) :: st) h Q := tA_pure mB_X9_bestPlace dX9_bestPlace_46 rfl
theorem rX9_bestPlace_47 : tA sc iX9_bestPlace 47 ls (vI y :: vI x :: st) h Q = (¬ y = 0 ∧ tA sc iX9_bestPlace 48 ls (vI (x - x / y * y) :: st) h Q) := tA_div mB_X9_bestPlace dX9_bestPlace_47 (fun _ _ _ => rfl) (fun _ _ _ _ _ => rfl) rfl (fun _ _ => rfl) rfl
theorem rX9_bestPlace_48 : tA sc iX9_bestPlace 48 [vR r, l1, l2, l3, l4, l5, l6, l7, l8, l9, l10, l11] st h Q = tA sc iX9_bestPlace 49 [vR r, l1, l2, l3, l4, l5, l6, l7, l8, l9, l10, l11] (vR r :: st) h Q := tA_pure mB_X9_bestPlace dX9_bestPlace_48 rfl
theorem rX9_bestPlace_49 : tA sc iX9_bestPlace 49 ls (vR (some o) :: st) h Q = oz (tget h o [9] 2) (fun v => tA sc iX9_bestPlace 52 ls (v :: st) h Q) := tA_get mB_X9_bestPlace mO_X9_bestPlace dX9_bestPlace_49 fT_9_18
theorem rX9_bestPlace_52 : tA sc iX9_bestPlace 52 [l0, l1, l2, l3, l4, l5, l6, vI x, l8, l9, l10, l11] st h Q = tA sc iX9_bestPlace 54 [l0, l1, l2, l3, l4, l5, l6, vI x, l8, l9, l10, l11] (vI x :: st) h Q := tA_pure mB_X9_bestPlace dX9_bestPlace_52 rfl
theorem rX9_bestPlace_54 : tA sc iX9_bestPlace 54 ls (vI j :: vR (some a) :: st) h Q = oz (tald sc h 0 a j) (fun v => tA sc iX9_bestPlace 55 ls (vI v :: st) h Q) := tA_iald mB_X9_bestPlace dX9_bestPlace_54
theorem rX9_bestPlace_55 (hci : tcl h o = some 9) : tA sc iX9_bestPlace 55 ls [vI p2, vI p1, vI p0, vR (some o)] h Q = tA sc iX9_gainTimesAll 0 [vR (some o), vI p0, vI p1, vI p2] [] h (fun v h1 => tA sc iX9_bestPlace 58 ls (tpu v []) h1 Q) := tA_cV mB_X9_bestPlace mO_X9_bestPlace dX9_bestPlace_55 cT_9_167 rfl (Nat.le_of_ble_eq_true rfl) rfl rfl rfl hci
theorem rX9_bestPlace_58 : tA sc iX9_bestPlace 58 [l0, l1, l2, l3, l4, l5, l6, l7, l8, l9, l10, l11] (vL u :: st) h Q = tA sc iX9_bestPlace 60 [l0, l1, l2, l3, l4, l5, l6, tclr l7, vL u, vU, l10, l11] st h Q := tA_pure mB_X9_bestPlace dX9_bestPlace_58 rfl
theorem rX9_bestPlace_60 : tA sc iX9_bestPlace 60 [vR r, l1, l2, l3, l4, l5, l6, l7, l8, l9, l10, l11] st h Q = tA sc iX9_bestPlace 61 [vR r, l1, l2, l3, l4, l5, l6, l7, l8, l9, l10, l11] (vR r :: st) h Q := tA_pure mB_X9_bestPlace dX9_bestPlace_60 rfl
theorem rX9_bestPlace_61 : tA sc iX9_bestPlace 61 [l0, l1, l2, l3, l4, l5, l6, vI x, l8, l9, l10, l11] st h Q = tA sc iX9_bestPlace 63 [l0, l1, l2, l3, l4, l5, l6, vI x, l8, l9, l10, l11] (vI x :: st) h Q := tA_pure mB_X9_bestPlace dX9_bestPlace_61 rfl
theorem rX9_bestPlace_63 (hci : tcl h o = some 9) : tA sc iX9_bestPlace 63 ls [vI p0, vR (some o)] h Q = tA sc iX9_allOf 0 [vR (some o), vI p0] [] h (fun v h1 => tA sc iX9_bestPlace 66 ls (tpu v []) h1 Q) := tA_cV mB_X9_bestPlace mO_X9_bestPlace dX9_bestPlace_63 cT_9_145 rfl (Nat.le_of_ble_eq_true rfl) rfl rfl rfl hci
theorem rX9_bestPlace_66 : tA sc iX9_bestPlace 66 ls (vI x :: st) h Q = tA sc iX9_bestPlace 67 ls (vL x.toInt64 :: st) h Q := tA_pure mB_X9_bestPlace dX9_bestPlace_66 rfl
theorem rX9_bestPlace_67 : tA sc iX9_bestPlace 67 [l0, l1, l2, l3, l4, l5, l6, l7, l8, l9, l10, l11] (vL u :: st) h Q = tA sc iX9_bestPlace 69 [l0, l1, l2, l3, l4, l5, l6, l7, l8, tclr l9, vL u, vU] st h Q := tA_pure mB_X9_bestPlace dX9_bestPlace_67 rfl
theorem rX9_bestPlace_69 : tA sc iX9_bestPlace 69 [l0, vI x, l2, l3, l4, l5, l6, l7, l8, l9, l10, l11] st h Q = tA sc iX9_bestPlace 70 [l0, vI x, l2, l3, l4, l5, l6, l7, l8, l9, l10, l11] (vI x :: st) h Q := tA_pure mB_X9_bestPlace dX9_bestPlace_69 rfl
theorem rX9_bestPlace_70 : tA sc iX9_bestPlace 70 ls (vI x :: st) h Q = (if x < 0 then tA sc iX9_bestPlace 86 ls st h Q else tA sc iX9_bestPlace 73 ls st h Q) := tA_if mB_X9_bestPlace dX9_bestPlace_70 (fun _ _ _ _ => rfl) rfl
theorem rX9_bestPlace_73 : tA sc iX9_bestPlace 73 [l0, l1, l2, l3, l4, l5, l6, l7, vL u, l9, l10, l11] st h Q = tA sc iX9_bestPlace 75 [l0, l1, l2, l3, l4, l5, l6, l7, vL u, l9, l10, l11] (vL u :: st) h Q := tA_pure mB_X9_bestPlace dX9_bestPlace_73 rfl
theorem rX9_bestPlace_75 : tA sc iX9_bestPlace 75 [l0, l1, l2, l3, vL u, l5, l6, l7, l8, l9, l10, l11] st h Q = tA sc iX9_bestPlace 77 [l0, l1, l2, l3, vL u, l5, l6, l7, l8, l9, l10, l11] (vL u :: st) h Q := tA_pure mB_X9_bestPlace dX9_bestPlace_75 rfl
theorem rX9_bestPlace_77 : tA sc iX9_bestPlace 77 ls (vL w :: vL u :: st) h Q = tA sc iX9_bestPlace 78 ls (vL (u * w) :: st) h Q := tA_pure mB_X9_bestPlace dX9_bestPlace_77 rfl
theorem rX9_bestPlace_78 : tA sc iX9_bestPlace 78 [l0, l1, vL u, l3, l4, l5, l6, l7, l8, l9, l10, l11] st h Q = tA sc iX9_bestPlace 79 [l0, l1, vL u, l3, l4, l5, l6, l7, l8, l9, l10, l11] (vL u :: st) h Q := tA_pure mB_X9_bestPlace dX9_bestPlace_78 rfl
theorem rX9_bestPlace_79 : tA sc iX9_bestPlace 79 [l0, l1, l2, l3, l4, l5, l6, l7, l8, l9, vL u, l11] st h Q = tA sc iX9_bestPlace 81 [l0, l1, l2, l3, l4, l5, l6, l7, l8, l9, vL u, l11] (vL u :: st) h Q := tA_pure mB_X9_bestPlace dX9_bestPlace_79 rfl
theorem rX9_bestPlace_81 : tA sc iX9_bestPlace 81 ls (vL w :: vL u :: st) h Q = tA sc iX9_bestPlace 82 ls (vL (u * w) :: st) h Q := tA_pure mB_X9_bestPlace dX9_bestPlace_81 rfl
theorem rX9_bestPlace_82 : tA sc iX9_bestPlace 82 ls (vL w :: vL u :: st) h Q = tA sc iX9_bestPlace 83 ls (vI (lg_cmp u w) :: st) h Q := tA_pure mB_X9_bestPlace dX9_bestPlace_82 rfl
theorem rX9_bestPlace_83 : tA sc iX9_bestPlace 83 ls (vI x :: st) h Q = (if x ≤ 0 then tA sc iX9_bestPlace 96 ls st h Q else tA sc iX9_bestPlace 86 ls st h Q) := tA_if mB_X9_bestPlace dX9_bestPlace_83 (fun _ _ _ _ => rfl) rfl
theorem rX9_bestPlace_86 : tA sc iX9_bestPlace 86 [l0, l1, l2, l3, l4, l5, vI x, l7, l8, l9, l10, l11] st h Q = tA sc iX9_bestPlace 88 [l0, l1, l2, l3, l4, l5, vI x, l7, l8, l9, l10, l11] (vI x :: st) h Q := tA_pure mB_X9_bestPlace dX9_bestPlace_86 rfl
theorem rX9_bestPlace_88 : tA sc iX9_bestPlace 88 [l0, l1, l2, l3, l4, l5, l6, l7, l8, l9, l10, l11] (vI x :: st) h Q = tA sc iX9_bestPlace 89 [tclr l0, vI x, l2, l3, l4, l5, l6, l7, l8, l9, l10, l11] st h Q := tA_pure mB_X9_bestPlace dX9_bestPlace_88 rfl
theorem rX9_bestPlace_89 : tA sc iX9_bestPlace 89 [l0, l1, l2, l3, l4, l5, l6, l7, vL u, l9, l10, l11] st h Q = tA sc iX9_bestPlace 91 [l0, l1, l2, l3, l4, l5, l6, l7, vL u, l9, l10, l11] (vL u :: st) h Q := tA_pure mB_X9_bestPlace dX9_bestPlace_89 rfl
theorem rX9_bestPlace_91 : tA sc iX9_bestPlace 91 [l0, l1, l2, l3, l4, l5, l6, l7, l8, l9, l10, l11] (vL u :: st) h Q = tA sc iX9_bestPlace 92 [l0, tclr l1, vL u, vU, l4, l5, l6, l7, l8, l9, l10, l11] st h Q := tA_pure mB_X9_bestPlace dX9_bestPlace_91 rfl
theorem rX9_bestPlace_92 : tA sc iX9_bestPlace 92 [l0, l1, l2, l3, l4, l5, l6, l7, l8, l9, vL u, l11] st h Q = tA sc iX9_bestPlace 94 [l0, l1, l2, l3, l4, l5, l6, l7, l8, l9, vL u, l11] (vL u :: st) h Q := tA_pure mB_X9_bestPlace dX9_bestPlace_92 rfl
theorem rX9_bestPlace_94 : tA sc iX9_bestPlace 94 [l0, l1, l2, l3, l4, l5, l6, l7, l8, l9, l10, l11] (vL u :: st) h Q = tA sc iX9_bestPlace 96 [l0, l1, l2, tclr l3, vL u, vU, l6, l7, l8, l9, l10, l11] st h Q := tA_pure mB_X9_bestPlace dX9_bestPlace_94 rfl
theorem rX9_bestPlace_96 : tA sc iX9_bestPlace 96 [l0, l1, l2, l3, l4, l5, vI x, l7, l8, l9, l10, l11] st h Q = tA sc iX9_bestPlace 99 [l0, l1, l2, l3, l4, tclr l5, vI (x + 1), l7, l8, l9, l10, l11] st h Q := tA_pure mB_X9_bestPlace dX9_bestPlace_96 rfl
theorem rX9_bestPlace_99 : tA sc iX9_bestPlace 99 ls st h Q = tA sc iX9_bestPlace 15 ls st h Q := tA_jump mB_X9_bestPlace dX9_bestPlace_99 (fun _ _ _ _ => rfl) rfl
theorem rX9_bestPlace_102 : tA sc iX9_bestPlace 102 [l0, vI x, l2, l3, l4, l5, l6, l7, l8, l9, l10, l11] st h Q = tA sc iX9_bestPlace 103 [l0, vI x, l2, l3, l4, l5, l6, l7, l8, l9, l10, l11] (vI x :: st) h Q := tA_pure mB_X9_bestPlace dX9_bestPlace_102 rfl
theorem rX9_bestPlace_103 : tA sc iX9_bestPlace 103 ls [vI x] h Q = Q (some (vI x)) h := tA_ret mB_X9_bestPlace dX9_bestPlace_103 (fun _ _ _ _ => rfl) (fun _ _ _ => rfl) (fun _ _ _ _ _ => rfl) rfl rfl
theorem mB_X9_owedFor : mB iX9_owedFor = cX9_owedFor := rfl
theorem mO_X9_owedFor : mO iX9_owedFor = 9 := rfl
theorem rX9_owedFor_0 : tA sc iX9_owedFor 0 [vR r, l1, l2, l3] st h Q = tA sc iX9_owedFor 1 [vR r, l1, l2, l3] (vR r :: st) h Q := tA_pure mB_X9_owedFor dX9_owedFor_0 rfl
theorem rX9_owedFor_1 : tA sc iX9_owedFor 1 ls (vR (some o) :: st) h Q = oz (tget h o [9] 12) (fun v => tA sc iX9_owedFor 4 ls (v :: st) h Q) := tA_get mB_X9_owedFor mO_X9_owedFor dX9_owedFor_1 fT_9_54
theorem rX9_owedFor_4 : tA sc iX9_owedFor 4 [l0, vI x, l2, l3] st h Q = tA sc iX9_owedFor 5 [l0, vI x, l2, l3] (vI x :: st) h Q := tA_pure mB_X9_owedFor dX9_owedFor_4 rfl
theorem rX9_owedFor_5 : tA sc iX9_owedFor 5 ls (vI j :: vR (some a) :: st) h Q = oz (tald sc h 0 a j) (fun v => tA sc iX9_owedFor 6 ls (vI v :: st) h Q) := tA_iald mB_X9_owedFor dX9_owedFor_5
theorem rX9_owedFor_6 : tA sc iX9_owedFor 6 [l0, l1, l2, l3] (vI x :: st) h Q = tA sc iX9_owedFor 7 [l0, tclr l1, vI x, l3] st h Q := tA_pure mB_X9_owedFor dX9_owedFor_6 rfl
theorem rX9_owedFor_7 : tA sc iX9_owedFor 7 [vR r, l1, l2, l3] st h Q = tA sc iX9_owedFor 8 [vR r, l1, l2, l3] (vR r :: st) h Q := tA_pure mB_X9_owedFor dX9_owedFor_7 rfl
theorem rX9_owedFor_8 : tA sc iX9_owedFor 8 [l0, l1, vI x, l3] st h Q = tA sc iX9_owedFor 9 [l0, l1, vI x, l3] (vI x :: st) h Q := tA_pure mB_X9_owedFor dX9_owedFor_8 rfl
theorem rX9_owedFor_9 (hci : tcl h o = some 9) : tA sc iX9_owedFor 9 ls [vI p0, vR (some o)] h Q = tA sc iX9_allOf 0 [vR (some o), vI p0] [] h (fun v h1 => tA sc iX9_owedFor 12 ls (tpu v []) h1 Q) := tA_cV mB_X9_owedFor mO_X9_owedFor dX9_owedFor_9 cT_9_145 rfl (Nat.le_of_ble_eq_true rfl) rfl rfl rfl hci
theorem rX9_owedFor_12 : tA sc iX9_owedFor 12 [l0, l1, l2, l3] (vI x :: st) h Q = tA sc iX9_owedFor 13 [l0, l1, tclr l2, vI x] st h Q := tA_pure mB_X9_owedFor dX9_owedFor_12 rfl
theorem rX9_owedFor_13 : tA sc iX9_owedFor 13 [vR r, l1, l2, l3] st h Q = tA sc iX9_owedFor 14 [vR r, l1, l2, l3] (vR r :: st) h Q := tA_pure mB_X9_owedFor dX9_owedFor_13 rfl
theorem rX9_owedFor_14 : tA sc iX9_owedFor 14 [l0, l1, vI x, l3] st h Q = tA sc iX9_owedFor 15 [l0, l1, vI x, l3] (vI x :: st) h Q := tA_pure mB_X9_owedFor dX9_owedFor_14 rfl
theorem rX9_owedFor_15 (hci : tcl h o = some 9) : tA sc iX9_owedFor 15 ls [vI p0, vR (some o)] h Q = tA sc iX9_isOver 0 [vR (some o), vI p0] [] h (fun v h1 => tA sc iX9_owedFor 18 ls (tpu v []) h1 Q) := tA_cV mB_X9_owedFor mO_X9_owedFor dX9_owedFor_15 cT_9_98 rfl (Nat.le_of_ble_eq_true rfl) rfl rfl rfl hci
theorem rX9_owedFor_18 : tA sc iX9_owedFor 18 ls (vI x :: st) h Q = (if ¬ x = 0 then tA sc iX9_owedFor 25 ls st h Q else tA sc iX9_owedFor 21 ls st h Q) := tA_if mB_X9_owedFor dX9_owedFor_18 (fun _ _ _ _ => rfl) rfl
theorem rX9_owedFor_21 : tA sc iX9_owedFor 21 [l0, l1, l2, vI x] st h Q = tA sc iX9_owedFor 22 [l0, l1, l2, vI x] (vI x :: st) h Q := tA_pure mB_X9_owedFor dX9_owedFor_21 rfl
theorem rX9_owedFor_22 : tA sc iX9_owedFor 22 ls (vI x :: st) h Q = (if 0 < x then tA sc iX9_owedFor 27 ls st h Q else tA sc iX9_owedFor 25 ls st h Q) := tA_if mB_X9_owedFor dX9_owedFor_22 (fun _ _ _ _ => rfl) rfl
theorem rX9_owedFor_25 : tA sc iX9_owedFor 25 ls st h Q = tA sc iX9_owedFor 26 ls (vL 0 :: st) h Q := tA_pure mB_X9_owedFor dX9_owedFor_25 rfl
theorem rX9_owedFor_26 : tA sc iX9_owedFor 26 ls [vL u] h Q = Q (some (vL u)) h := tA_ret mB_X9_owedFor dX9_owedFor_26 (fun _ _ _ _ => rfl) (fun _ _ _ => rfl) (fun _ _ _ _ _ => rfl) rfl rfl
theorem rX9_owedFor_27 : tA sc iX9_owedFor 27 ls st h Q = tA sc iX9_owedFor 30 ls (vL (1000) :: st) h Q := tA_pure mB_X9_owedFor dX9_owedFor_27 rfl
theorem rX9_owedFor_30 : tA sc iX9_owedFor 30 [vR r, l1, l2, l3] st h Q = tA sc iX9_owedFor 31 [vR r, l1, l2, l3] (vR r :: st) h Q := tA_pure mB_X9_owedFor dX9_owedFor_30 rfl
theorem rX9_owedFor_31 : tA sc iX9_owedFor 31 [l0, l1, vI x, l3] st h Q = tA sc iX9_owedFor 32 [l0, l1, vI x, l3] (vI x :: st) h Q := tA_pure mB_X9_owedFor dX9_owedFor_31 rfl
theorem rX9_owedFor_32 : tA sc iX9_owedFor 32 [vR r, l1, l2, l3] st h Q = tA sc iX9_owedFor 33 [vR r, l1, l2, l3] (vR r :: st) h Q := tA_pure mB_X9_owedFor dX9_owedFor_32 rfl
theorem rX9_owedFor_33 : tA sc iX9_owedFor 33 ls (vR (some o) :: st) h Q = oz (tget h o [9] 13) (fun v => tA sc iX9_owedFor 36 ls (v :: st) h Q) := tA_get mB_X9_owedFor mO_X9_owedFor dX9_owedFor_33 fT_9_57
theorem rX9_owedFor_36 : tA sc iX9_owedFor 36 [l0, vI x, l2, l3] st h Q = tA sc iX9_owedFor 37 [l0, vI x, l2, l3] (vI x :: st) h Q := tA_pure mB_X9_owedFor dX9_owedFor_36 rfl
theorem rX9_owedFor_37 : tA sc iX9_owedFor 37 ls (vI j :: vR (some a) :: st) h Q = oz (tald sc h 0 a j) (fun v => tA sc iX9_owedFor 38 ls (vI v :: st) h Q) := tA_iald mB_X9_owedFor dX9_owedFor_37
theorem rX9_owedFor_38 : tA sc iX9_owedFor 38 [vR r, l1, l2, l3] st h Q = tA sc iX9_owedFor 39 [vR r, l1, l2, l3] (vR r :: st) h Q := tA_pure mB_X9_owedFor dX9_owedFor_38 rfl
theorem rX9_owedFor_39 : tA sc iX9_owedFor 39 ls (vR (some o) :: st) h Q = oz (tget h o [9] 2) (fun v => tA sc iX9_owedFor 42 ls (v :: st) h Q) := tA_get mB_X9_owedFor mO_X9_owedFor dX9_owedFor_39 fT_9_18
theorem rX9_owedFor_42 : tA sc iX9_owedFor 42 [l0, l1, vI x, l3] st h Q = tA sc iX9_owedFor 43 [l0, l1, vI x, l3] (vI x :: st) h Q := tA_pure mB_X9_owedFor dX9_owedFor_42 rfl
theorem rX9_owedFor_43 : tA sc iX9_owedFor 43 ls (vI j :: vR (some a) :: st) h Q = oz (tald sc h 0 a j) (fun v => tA sc iX9_owedFor 44 ls (vI v :: st) h Q) := tA_iald mB_X9_owedFor dX9_owedFor_43
theorem rX9_owedFor_44 (hci : tcl h o = some 9) : tA sc iX9_owedFor 44 ls [vI p2, vI p1, vI p0, vR (some o), s0] h Q = tA sc iX9_takingsTimesAll 0 [vR (some o), vI p0, vI p1, vI p2, vU] [] h (fun v h1 => tA sc iX9_owedFor 47 ls (tpu v [s0]) h1 Q) := tA_cV mB_X9_owedFor mO_X9_owedFor dX9_owedFor_44 cT_9_160 rfl (Nat.le_of_ble_eq_true rfl) rfl rfl rfl hci
theorem rX9_owedFor_47 : tA sc iX9_owedFor 47 ls (vI x :: st) h Q = tA sc iX9_owedFor 48 ls (vL x.toInt64 :: st) h Q := tA_pure mB_X9_owedFor dX9_owedFor_47 rfl
theorem rX9_owedFor_48 : tA sc iX9_owedFor 48 ls (vL w :: vL u :: st) h Q = tA sc iX9_owedFor 49 ls (vL (u * w) :: st) h Q := tA_pure mB_X9_owedFor dX9_owedFor_48 rfl
theorem rX9_owedFor_49 : tA sc iX9_owedFor 49 [l0, l1, l2, vI x] st h Q = tA sc iX9_owedFor 50 [l0, l1, l2, vI x] (vI x :: st) h Q := tA_pure mB_X9_owedFor dX9_owedFor_49 rfl
theorem rX9_owedFor_50 : tA sc iX9_owedFor 50 ls (vI x :: st) h Q = tA sc iX9_owedFor 51 ls (vL x.toInt64 :: st) h Q := tA_pure mB_X9_owedFor dX9_owedFor_50 rfl
theorem rX9_owedFor_51 : tA sc iX9_owedFor 51 ls (vL w :: vL u :: st) h Q = (¬ w = 0 ∧ tA sc iX9_owedFor 52 ls (vL (u / w) :: st) h Q) := tA_divl mB_X9_owedFor dX9_owedFor_51 (fun _ _ _ => rfl) (fun _ _ _ _ _ => rfl) rfl (fun _ _ => rfl) rfl
theorem rX9_owedFor_52 : tA sc iX9_owedFor 52 ls [vL u] h Q = Q (some (vL u)) h := tA_ret mB_X9_owedFor dX9_owedFor_52 (fun _ _ _ _ => rfl) (fun _ _ _ => rfl) (fun _ _ _ _ _ => rfl) rfl rfl
end S17
