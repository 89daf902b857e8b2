/-! instructions, by program (wip/whole/gen_rows.py) -/
section S17
variable {sc : Nat × (Nat → Int32)} {h : TH} {Q : Option TV → TH → Prop} {st ls : List TV} {l0 l1 l2 l3 l4 l5 l6 l7 l8 l9 l10 l11 l12 l13 l14 : TV} {x y j : Int32} {u w : Int64} {o a : Nat} {r : Option Nat} {v s0 s1 s2 s3 : TV} {p0 p1 p2 p3 p4 : Int32} {q0 q1 q2 q3 : Int64} {n0 n1 n2 n3 : Option Nat}

theorem mB_X10_init : mB iX10_init = cX10_init := rfl
theorem mO_X10_init : mO iX10_init = 10 := rfl
theorem rX10_init_0 : tA sc iX10_init 0 [vR r] st h Q = tA sc iX10_init 1 [vR r] (vR r :: st) h Q := tA_pure mB_X10_init dX10_init_0 rfl
theorem rX10_init_1 : tA sc iX10_init 1 ls [vR (some o)] h Q = tA sc iX10_init 4 ls [] h Q := tA_cN mB_X10_init mO_X10_init dX10_init_1 (fun _ _ _ _ => rfl) (fun _ _ _ => rfl) (fun _ _ _ _ _ => rfl) rfl cT_10_1 rfl rfl
theorem rX10_init_4 : tA sc iX10_init 4 [vR r] st h Q = tA sc iX10_init 5 [vR r] (vR r :: st) h Q := tA_pure mB_X10_init dX10_init_4 rfl
theorem rX10_init_5 : tA sc iX10_init 5 ls st h Q = oz (tnew h (.inr (9, tdf 9)) 15) (fun h' => tA sc iX10_init 8 ls (vR (some h.2.1) :: st) h' Q) := (tA_hp mB_X10_init dX10_init_5 (fun _ _ _ _ => rfl) (fun _ _ _ => rfl) rfl (fun _ _ => rfl) rfl).trans (oz_map _ _ _)
theorem rX10_init_8 : tA sc iX10_init 8 ls (vR r :: st) h Q = tA sc iX10_init 9 ls (vR r :: vR r :: st) h Q := tA_pure mB_X10_init dX10_init_8 rfl
theorem rX10_init_9 : tA sc iX10_init 9 ls [vR (some o), s0, s1] h Q = tA sc iX9_init 0 [vR (some o)] [] h (fun v h1 => tA sc iX10_init 12 ls (tpu v [s0, s1]) h1 Q) := tA_cI mB_X10_init mO_X10_init dX10_init_9 cT_10_9 rfl (Nat.le_of_ble_eq_true rfl) rfl rfl rfl
theorem rX10_init_12 : tA sc iX10_init 12 ls (v :: vR (some o) :: st) h Q = oz (tput h o [10] 0 3 v) (fun h' => tA sc iX10_init 15 ls st h' Q) := tA_put mB_X10_init mO_X10_init dX10_init_12 fT_10_10 (Or.inr ⟨by decide, rfl⟩)
theorem rX10_init_15 : tA sc iX10_init 15 [vR r] st h Q = tA sc iX10_init 16 [vR r] (vR r :: st) h Q := tA_pure mB_X10_init dX10_init_15 rfl
theorem rX10_init_16 : tA sc iX10_init 16 ls st h Q = oz (tnew h (.inr (9, tdf 9)) 15) (fun h' => tA sc iX10_init 19 ls (vR (some h.2.1) :: st) h' Q) := (tA_hp mB_X10_init dX10_init_16 (fun _ _ _ _ => rfl) (fun _ _ _ => rfl) rfl (fun _ _ => rfl) rfl).trans (oz_map _ _ _)
theorem rX10_init_19 : tA sc iX10_init 19 ls (vR r :: st) h Q = tA sc iX10_init 20 ls (vR r :: vR r :: st) h Q := tA_pure mB_X10_init dX10_init_19 rfl
theorem rX10_init_20 : tA sc iX10_init 20 ls [vR (some o), s0, s1] h Q = tA sc iX9_init 0 [vR (some o)] [] h (fun v h1 => tA sc iX10_init 23 ls (tpu v [s0, s1]) h1 Q) := tA_cI mB_X10_init mO_X10_init dX10_init_20 cT_10_9 rfl (Nat.le_of_ble_eq_true rfl) rfl rfl rfl
theorem rX10_init_23 : tA sc iX10_init 23 ls (v :: vR (some o) :: st) h Q = oz (tput h o [10] 1 3 v) (fun h' => tA sc iX10_init 26 ls st h' Q) := tA_put mB_X10_init mO_X10_init dX10_init_23 fT_10_16 (Or.inr ⟨by decide, rfl⟩)
theorem rX10_init_26 : tA sc iX10_init 26 [vR r] st h Q = tA sc iX10_init 27 [vR r] (vR r :: st) h Q := tA_pure mB_X10_init dX10_init_26 rfl
theorem rX10_init_27 : tA sc iX10_init 27 ls st h Q = oz (tnew h (.inr (9, tdf 9)) 15) (fun h' => tA sc iX10_init 30 ls (vR (some h.2.1) :: st) h' Q) := (tA_hp mB_X10_init dX10_init_27 (fun _ _ _ _ => rfl) (fun _ _ _ => rfl) rfl (fun _ _ => rfl) rfl).trans (oz_map _ _ _)
theorem rX10_init_30 : tA sc iX10_init 30 ls (vR r :: st) h Q = tA sc iX10_init 31 ls (vR r :: vR r :: st) h Q := tA_pure mB_X10_init dX10_init_30 rfl
theorem rX10_init_31 : tA sc iX10_init 31 ls [vR (some o), s0, s1] h Q = tA sc iX9_init 0 [vR (some o)] [] h (fun v h1 => tA sc iX10_init 34 ls (tpu v [s0, s1]) h1 Q) := tA_cI mB_X10_init mO_X10_init dX10_init_31 cT_10_9 rfl (Nat.le_of_ble_eq_true rfl) rfl rfl rfl
theorem rX10_init_34 : tA sc iX10_init 34 ls (v :: vR (some o) :: st) h Q = oz (tput h o [10] 2 3 v) (fun h' => tA sc iX10_init 37 ls st h' Q) := tA_put mB_X10_init mO_X10_init dX10_init_34 fT_10_19 (Or.inr ⟨by decide, rfl⟩)
theorem rX10_init_37 : tA sc iX10_init 37 [vR r] st h Q = tA sc iX10_init 38 [vR r] (vR r :: st) h Q := tA_pure mB_X10_init dX10_init_37 rfl
theorem rX10_init_38 : tA sc iX10_init 38 ls st h Q = oz (tnew h (.inr (1, tdf 1)) 6) (fun h' => tA sc iX10_init 41 ls (vR (some h.2.1) :: st) h' Q) := (tA_hp mB_X10_init dX10_init_38 (fun _ _ _ _ => rfl) (fun _ _ _ => rfl) rfl (fun _ _ => rfl) rfl).trans (oz_map _ _ _)
theorem rX10_init_41 : tA sc iX10_init 41 ls (vR r :: st) h Q = tA sc iX10_init 42 ls (vR r :: vR r :: st) h Q := tA_pure mB_X10_init dX10_init_41 rfl
theorem rX10_init_42 : tA sc iX10_init 42 ls [vR (some o), s0, s1] h Q = tA sc iX1_init 0 [vR (some o)] [] h (fun v h1 => tA sc iX10_init 45 ls (tpu v [s0, s1]) h1 Q) := tA_cI mB_X10_init mO_X10_init dX10_init_42 cT_10_24 rfl (Nat.le_of_ble_eq_true rfl) rfl rfl rfl
theorem rX10_init_45 : tA sc iX10_init 45 ls (v :: vR (some o) :: st) h Q = oz (tput h o [10] 4 3 v) (fun h' => tA sc iX10_init 48 ls st h' Q) := tA_put mB_X10_init mO_X10_init dX10_init_45 fT_10_25 (Or.inr ⟨by decide, rfl⟩)
theorem rX10_init_48 : tA sc iX10_init 48 [vR r] st h Q = tA sc iX10_init 49 [vR r] (vR r :: st) h Q := tA_pure mB_X10_init dX10_init_48 rfl
theorem rX10_init_49 : tA sc iX10_init 49 ls st h Q = tA sc iX10_init 51 ls (vI (60) :: st) h Q := tA_pure mB_X10_init dX10_init_49 rfl
theorem rX10_init_51 : tA sc iX10_init 51 ls (vI x :: st) h Q = oz (tna h 0 x) (fun h' => tA sc iX10_init 53 ls (vR (some h.2.1) :: st) h' Q) := (tA_hp mB_X10_init dX10_init_51 (fun _ _ _ _ => rfl) (fun _ _ _ => rfl) rfl (fun _ _ => rfl) rfl).trans (oz_map _ _ _)
theorem rX10_init_53 : tA sc iX10_init 53 ls (v :: vR (some o) :: st) h Q = oz (tput h o [10] 5 3 v) (fun h' => tA sc iX10_init 56 ls st h' Q) := tA_put mB_X10_init mO_X10_init dX10_init_53 fT_10_29 (Or.inr ⟨by decide, rfl⟩)
theorem rX10_init_56 : tA sc iX10_init 56 [vR r] st h Q = tA sc iX10_init 57 [vR r] (vR r :: st) h Q := tA_pure mB_X10_init dX10_init_56 rfl
theorem rX10_init_57 : tA sc iX10_init 57 ls st h Q = tA sc iX10_init 58 ls (vI (4) :: st) h Q := tA_pure mB_X10_init dX10_init_57 rfl
theorem rX10_init_58 : tA sc iX10_init 58 ls (vI x :: st) h Q = oz (tna h 4 x) (fun h' => tA sc iX10_init 61 ls (vR (some h.2.1) :: st) h' Q) := (tA_hp mB_X10_init dX10_init_58 (fun _ _ _ _ => rfl) (fun _ _ _ => rfl) rfl (fun _ _ => rfl) rfl).trans (oz_map _ _ _)
theorem rX10_init_61 : tA sc iX10_init 61 ls (v :: vR (some o) :: st) h Q = oz (tput h o [10] 7 3 v) (fun h' => tA sc iX10_init 64 ls st h' Q) := tA_put mB_X10_init mO_X10_init dX10_init_61 fT_10_35 (Or.inr ⟨by decide, rfl⟩)
theorem rX10_init_64 : tA sc iX10_init 64 [vR r] st h Q = tA sc iX10_init 65 [vR r] (vR r :: st) h Q := tA_pure mB_X10_init dX10_init_64 rfl
theorem rX10_init_65 : tA sc iX10_init 65 ls st h Q = tA sc iX10_init 66 ls (vI (4) :: st) h Q := tA_pure mB_X10_init dX10_init_65 rfl
theorem rX10_init_66 : tA sc iX10_init 66 ls (vI x :: st) h Q = oz (tna h 4 x) (fun h' => tA sc iX10_init 69 ls (vR (some h.2.1) :: st) h' Q) := (tA_hp mB_X10_init dX10_init_66 (fun _ _ _ _ => rfl) (fun _ _ _ => rfl) rfl (fun _ _ => rfl) rfl).trans (oz_map _ _ _)
theorem rX10_init_69 : tA sc iX10_init 69 ls (v :: vR (some o) :: st) h Q = oz (tput h o [10] 8 3 v) (fun h' => tA sc iX10_init 72 ls st h' Q) := tA_put mB_X10_init mO_X10_init dX10_init_69 fT_10_39 (Or.inr ⟨by decide, rfl⟩)
theorem rX10_init_72 : tA sc iX10_init 72 [vR r] st h Q = tA sc iX10_init 73 [vR r] (vR r :: st) h Q := tA_pure mB_X10_init dX10_init_72 rfl
theorem rX10_init_73 : tA sc iX10_init 73 ls st h Q = tA sc iX10_init 74 ls (vI (4) :: st) h Q := tA_pure mB_X10_init dX10_init_73 rfl
theorem rX10_init_74 : tA sc iX10_init 74 ls (vI x :: st) h Q = oz (tna h 0 x) (fun h' => tA sc iX10_init 76 ls (vR (some h.2.1) :: st) h' Q) := (tA_hp mB_X10_init dX10_init_74 (fun _ _ _ _ => rfl) (fun _ _ _ => rfl) rfl (fun _ _ => rfl) rfl).trans (oz_map _ _ _)
theorem rX10_init_76 : tA sc iX10_init 76 ls (vR r :: st) h Q = tA sc iX10_init 77 ls (vR r :: vR r :: st) h Q := tA_pure mB_X10_init dX10_init_76 rfl
theorem rX10_init_77 : tA sc iX10_init 77 ls st h Q = tA sc iX10_init 78 ls (vI (0) :: st) h Q := tA_pure mB_X10_init dX10_init_77 rfl
theorem rX10_init_78 : tA sc iX10_init 78 ls st h Q = tA sc iX10_init 79 ls (vI (-1) :: st) h Q := tA_pure mB_X10_init dX10_init_78 rfl
theorem rX10_init_79 : tA sc iX10_init 79 ls (vI x :: vI j :: vR (some a) :: st) h Q = oz (tasi h a j x) (fun h' => tA sc iX10_init 80 ls st h' Q) := tA_iast mB_X10_init dX10_init_79
theorem rX10_init_80 : tA sc iX10_init 80 ls (vR r :: st) h Q = tA sc iX10_init 81 ls (vR r :: vR r :: st) h Q := tA_pure mB_X10_init dX10_init_80 rfl
theorem rX10_init_81 : tA sc iX10_init 81 ls st h Q = tA sc iX10_init 82 ls (vI (1) :: st) h Q := tA_pure mB_X10_init dX10_init_81 rfl
theorem rX10_init_82 : tA sc iX10_init 82 ls st h Q = tA sc iX10_init 83 ls (vI (-1) :: st) h Q := tA_pure mB_X10_init dX10_init_82 rfl
theorem rX10_init_83 : tA sc iX10_init 83 ls (vI x :: vI j :: vR (some a) :: st) h Q = oz (tasi h a j x) (fun h' => tA sc iX10_init 84 ls st h' Q) := tA_iast mB_X10_init dX10_init_83
theorem rX10_init_84 : tA sc iX10_init 84 ls (vR r :: st) h Q = tA sc iX10_init 85 ls (vR r :: vR r :: st) h Q := tA_pure mB_X10_init dX10_init_84 rfl
theorem rX10_init_85 : tA sc iX10_init 85 ls st h Q = tA sc iX10_init 86 ls (vI (2) :: st) h Q := tA_pure mB_X10_init dX10_init_85 rfl
theorem rX10_init_86 : tA sc iX10_init 86 ls st h Q = tA sc iX10_init 87 ls (vI (-1) :: st) h Q := tA_pure mB_X10_init dX10_init_86 rfl
theorem rX10_init_87 : tA sc iX10_init 87 ls (vI x :: vI j :: vR (some a) :: st) h Q = oz (tasi h a j x) (fun h' => tA sc iX10_init 88 ls st h' Q) := tA_iast mB_X10_init dX10_init_87
theorem rX10_init_88 : tA sc iX10_init 88 ls (vR r :: st) h Q = tA sc iX10_init 89 ls (vR r :: vR r :: st) h Q := tA_pure mB_X10_init dX10_init_88 rfl
theorem rX10_init_89 : tA sc iX10_init 89 ls st h Q = tA sc iX10_init 90 ls (vI (3) :: st) h Q := tA_pure mB_X10_init dX10_init_89 rfl
theorem rX10_init_90 : tA sc iX10_init 90 ls st h Q = tA sc iX10_init 91 ls (vI (-1) :: st) h Q := tA_pure mB_X10_init dX10_init_90 rfl
theorem rX10_init_91 : tA sc iX10_init 91 ls (vI x :: vI j :: vR (some a) :: st) h Q = oz (tasi h a j x) (fun h' => tA sc iX10_init 92 ls st h' Q) := tA_iast mB_X10_init dX10_init_91
theorem rX10_init_92 : tA sc iX10_init 92 ls (v :: vR (some o) :: st) h Q = oz (tput h o [10] 9 3 v) (fun h' => tA sc iX10_init 95 ls st h' Q) := tA_put mB_X10_init mO_X10_init dX10_init_92 fT_10_42 (Or.inr ⟨by decide, rfl⟩)
theorem rX10_init_95 : tA sc iX10_init 95 [vR r] st h Q = tA sc iX10_init 96 [vR r] (vR r :: st) h Q := tA_pure mB_X10_init dX10_init_95 rfl
theorem rX10_init_96 : tA sc iX10_init 96 ls st h Q = oz (tnew h (.inr (8, tdf 8)) 3) (fun h' => tA sc iX10_init 99 ls (vR (some h.2.1) :: st) h' Q) := (tA_hp mB_X10_init dX10_init_96 (fun _ _ _ _ => rfl) (fun _ _ _ => rfl) rfl (fun _ _ => rfl) rfl).trans (oz_map _ _ _)
theorem rX10_init_99 : tA sc iX10_init 99 ls (vR r :: st) h Q = tA sc iX10_init 100 ls (vR r :: vR r :: st) h Q := tA_pure mB_X10_init dX10_init_99 rfl
theorem rX10_init_100 : tA sc iX10_init 100 ls [vR (some o), s0, s1] h Q = tA sc iX8_init 0 [vR (some o)] [] h (fun v h1 => tA sc iX10_init 103 ls (tpu v [s0, s1]) h1 Q) := tA_cI mB_X10_init mO_X10_init dX10_init_100 cT_10_47 rfl (Nat.le_of_ble_eq_true rfl) rfl rfl rfl
theorem rX10_init_103 : tA sc iX10_init 103 ls (v :: vR (some o) :: st) h Q = oz (tput h o [10] 10 3 v) (fun h' => tA sc iX10_init 106 ls st h' Q) := tA_put mB_X10_init mO_X10_init dX10_init_103 fT_10_48 (Or.inr ⟨by decide, rfl⟩)
theorem rX10_init_106 : tA sc iX10_init 106 ls [] h Q = Q (none) h := tA_ret mB_X10_init dX10_init_106 (fun _ _ _ _ => rfl) (fun _ _ _ => rfl) (fun _ _ _ _ _ => rfl) rfl rfl
theorem mB_X10_feed : mB iX10_feed = cX10_feed := rfl
theorem mO_X10_feed : mO iX10_feed = 10 := rfl
theorem rX10_feed_0 : tA sc iX10_feed 0 [l0, l1, l2, vI x, l4] st h Q = tA sc iX10_feed 1 [l0, l1, l2, vI x, l4] (vI x :: st) h Q := tA_pure mB_X10_feed dX10_feed_0 rfl
theorem rX10_feed_1 : tA sc iX10_feed 1 ls st h Q = tA sc iX10_feed 2 ls (vI (1) :: st) h Q := tA_pure mB_X10_feed dX10_feed_1 rfl
theorem rX10_feed_2 : tA sc iX10_feed 2 ls (vI y :: vI x :: st) h Q = (if x < y then tA sc iX10_feed 11 ls st h Q else tA sc iX10_feed 5 ls st h Q) := tA_if mB_X10_feed dX10_feed_2 (fun _ _ _ _ => rfl) rfl
theorem rX10_feed_5 : tA sc iX10_feed 5 [l0, l1, l2, vI x, l4] st h Q = tA sc iX10_feed 6 [l0, l1, l2, vI x, l4] (vI x :: st) h Q := tA_pure mB_X10_feed dX10_feed_5 rfl
theorem rX10_feed_6 : tA sc iX10_feed 6 ls st h Q = tA sc iX10_feed 8 ls (vI (8) :: st) h Q := tA_pure mB_X10_feed dX10_feed_6 rfl
theorem rX10_feed_8 : tA sc iX10_feed 8 ls (vI y :: vI x :: st) h Q = (if x ≤ y then tA sc iX10_feed 13 ls st h Q else tA sc iX10_feed 11 ls st h Q) := tA_if mB_X10_feed dX10_feed_8 (fun _ _ _ _ => rfl) rfl
theorem rX10_feed_11 : tA sc iX10_feed 11 ls st h Q = tA sc iX10_feed 12 ls (vI (-1) :: st) h Q := tA_pure mB_X10_feed dX10_feed_11 rfl
theorem rX10_feed_12 : tA sc iX10_feed 12 ls [vI x] h Q = Q (some (vI x)) h := tA_ret mB_X10_feed dX10_feed_12 (fun _ _ _ _ => rfl) (fun _ _ _ => rfl) (fun _ _ _ _ _ => rfl) rfl rfl
theorem rX10_feed_13 : tA sc iX10_feed 13 [vR r, l1, l2, l3, l4] st h Q = tA sc iX10_feed 14 [vR r, l1, l2, l3, l4] (vR r :: st) h Q := tA_pure mB_X10_feed dX10_feed_13 rfl
theorem rX10_feed_14 : tA sc iX10_feed 14 ls (vR (some o) :: st) h Q = oz (tget h o [10] 4) (fun v => tA sc iX10_feed 17 ls (v :: st) h Q) := tA_get mB_X10_feed mO_X10_feed dX10_feed_14 fT_10_25
theorem rX10_feed_17 : tA sc iX10_feed 17 ls (vR (some o) :: st) h Q = oz (tget h o [1] 1) (fun v => tA sc iX10_feed 20 ls (v :: st) h Q) := tA_get mB_X10_feed mO_X10_feed dX10_feed_17 fT_10_52
theorem rX10_feed_20 : tA sc iX10_feed 20 [l0, l1, l2, vI x, l4] st h Q = tA sc iX10_feed 21 [l0, l1, l2, vI x, l4] (vI x :: st) h Q := tA_pure mB_X10_feed dX10_feed_20 rfl
theorem rX10_feed_21 : tA sc iX10_feed 21 ls (vI y :: vI x :: st) h Q = tA sc iX10_feed 22 ls (vI (x + y) :: st) h Q := tA_pure mB_X10_feed dX10_feed_21 rfl
theorem rX10_feed_22 : tA sc iX10_feed 22 ls st h Q = tA sc iX10_feed 25 ls (vI (240) :: st) h Q := tA_pure mB_X10_feed dX10_feed_22 rfl
theorem rX10_feed_25 : tA sc iX10_feed 25 ls (vI y :: vI x :: st) h Q = (if x ≤ y then tA sc iX10_feed 31 ls st h Q else tA sc iX10_feed 28 ls st h Q) := tA_if mB_X10_feed dX10_feed_25 (fun _ _ _ _ => rfl) rfl
theorem rX10_feed_28 : tA sc iX10_feed 28 ls st h Q = tA sc iX10_feed 30 ls (vI (-2) :: st) h Q := tA_pure mB_X10_feed dX10_feed_28 rfl
theorem rX10_feed_30 : tA sc iX10_feed 30 ls [vI x] h Q = Q (some (vI x)) h := tA_ret mB_X10_feed dX10_feed_30 (fun _ _ _ _ => rfl) (fun _ _ _ => rfl) (fun _ _ _ _ _ => rfl) rfl rfl
theorem rX10_feed_31 : tA sc iX10_feed 31 ls st h Q = tA sc iX10_feed 32 ls (vI (0) :: st) h Q := tA_pure mB_X10_feed dX10_feed_31 rfl
theorem rX10_feed_32 : tA sc iX10_feed 32 [l0, l1, l2, l3, l4] (vI x :: st) h Q = tA sc iX10_feed 34 [l0, l1, l2, tclr l3, vI x] st h Q := tA_pure mB_X10_feed dX10_feed_32 rfl
theorem rX10_feed_34 : tA sc iX10_feed 34 [l0, l1, l2, l3, vI x] st h Q = tA sc iX10_feed 36 [l0, l1, l2, l3, vI x] (vI x :: st) h Q := tA_pure mB_X10_feed dX10_feed_34 rfl
theorem rX10_feed_36 : tA sc iX10_feed 36 [l0, l1, l2, vI x, l4] st h Q = tA sc iX10_feed 37 [l0, l1, l2, vI x, l4] (vI x :: st) h Q := tA_pure mB_X10_feed dX10_feed_36 rfl
theorem rX10_feed_37 : tA sc iX10_feed 37 ls (vI y :: vI x :: st) h Q = (if y ≤ x then tA sc iX10_feed 62 ls st h Q else tA sc iX10_feed 40 ls st h Q) := tA_if mB_X10_feed dX10_feed_37 (fun _ _ _ _ => rfl) rfl
theorem rX10_feed_40 : tA sc iX10_feed 40 [vR r, l1, l2, l3, l4] st h Q = tA sc iX10_feed 41 [vR r, l1, l2, l3, l4] (vR r :: st) h Q := tA_pure mB_X10_feed dX10_feed_40 rfl
theorem rX10_feed_41 : tA sc iX10_feed 41 ls (vR (some o) :: st) h Q = oz (tget h o [10] 4) (fun v => tA sc iX10_feed 44 ls (v :: st) h Q) := tA_get mB_X10_feed mO_X10_feed dX10_feed_41 fT_10_25
theorem rX10_feed_44 : tA sc iX10_feed 44 [l0, vL u, l2, l3, l4] st h Q = tA sc iX10_feed 45 [l0, vL u, l2, l3, l4] (vL u :: st) h Q := tA_pure mB_X10_feed dX10_feed_44 rfl
theorem rX10_feed_45 : tA sc iX10_feed 45 ls st h Q = tA sc iX10_feed 47 ls (vI (8) :: st) h Q := tA_pure mB_X10_feed dX10_feed_45 rfl
theorem rX10_feed_47 : tA sc iX10_feed 47 [l0, l1, l2, l3, vI x] st h Q = tA sc iX10_feed 49 [l0, l1, l2, l3, vI x] (vI x :: st) h Q := tA_pure mB_X10_feed dX10_feed_47 rfl
theorem rX10_feed_49 : tA sc iX10_feed 49 ls (vI y :: vI x :: st) h Q = tA sc iX10_feed 50 ls (vI (x * y) :: st) h Q := tA_pure mB_X10_feed dX10_feed_49 rfl
theorem rX10_feed_50 : tA sc iX10_feed 50 ls (vI y :: vL u :: st) h Q = tA sc iX10_feed 51 ls (vL ((u.toUInt64 >>> (y.toInt64.toUInt64 &&& Int64.toUInt64 63)).toInt64) :: st) h Q := tA_pure mB_X10_feed dX10_feed_50 rfl
theorem rX10_feed_51 : tA sc iX10_feed 51 ls (vL u :: st) h Q = tA sc iX10_feed 52 ls (vI u.toInt32 :: st) h Q := tA_pure mB_X10_feed dX10_feed_51 rfl
theorem rX10_feed_52 : tA sc iX10_feed 52 ls (vI x :: st) h Q = tA sc iX10_feed 53 ls (vI x.toInt8.toInt32 :: st) h Q := tA_pure mB_X10_feed dX10_feed_52 rfl
theorem rX10_feed_53 (hci : tcl h o = some 1) : tA sc iX10_feed 53 ls [vI p0, vR (some o)] h Q = tA sc iX1_addByte 0 [vR (some o), vI p0] [] h (fun v h1 => tA sc iX10_feed 56 ls (tpu v []) h1 Q) := tA_cV mB_X10_feed mO_X10_feed dX10_feed_53 cT_10_56 rfl (Nat.le_of_ble_eq_true rfl) rfl rfl rfl hci
theorem rX10_feed_56 : tA sc iX10_feed 56 [l0, l1, l2, l3, vI x] st h Q = tA sc iX10_feed 59 [l0, l1, l2, tclr l3, vI (x + 1)] st h Q := tA_pure mB_X10_feed dX10_feed_56 rfl
theorem rX10_feed_59 : tA sc iX10_feed 59 ls st h Q = tA sc iX10_feed 34 ls st h Q := tA_jump mB_X10_feed dX10_feed_59 (fun _ _ _ _ => rfl) rfl
theorem rX10_feed_62 : tA sc iX10_feed 62 [vR r, l1, l2, l3, l4] st h Q = tA sc iX10_feed 63 [vR r, l1, l2, l3, l4] (vR r :: st) h Q := tA_pure mB_X10_feed dX10_feed_62 rfl
theorem rX10_feed_63 : tA sc iX10_feed 63 ls (vR (some o) :: st) h Q = oz (tget h o [10] 4) (fun v => tA sc iX10_feed 66 ls (v :: st) h Q) := tA_get mB_X10_feed mO_X10_feed dX10_feed_63 fT_10_25
theorem rX10_feed_66 : tA sc iX10_feed 66 ls (vR (some o) :: st) h Q = oz (tget h o [1] 1) (fun v => tA sc iX10_feed 69 ls (v :: st) h Q) := tA_get mB_X10_feed mO_X10_feed dX10_feed_66 fT_10_52
theorem rX10_feed_69 : tA sc iX10_feed 69 ls [vI x] h Q = Q (some (vI x)) h := tA_ret mB_X10_feed dX10_feed_69 (fun _ _ _ _ => rfl) (fun _ _ _ => rfl) (fun _ _ _ _ _ => rfl) rfl rfl
theorem mB_X10_clerk : mB iX10_clerk = cX10_clerk := rfl
theorem mO_X10_clerk : mO iX10_clerk = 10 := rfl
theorem rX10_clerk_0 : tA sc iX10_clerk 0 [vR r, l1] st h Q = tA sc iX10_clerk 1 [vR r, l1] (vR r :: st) h Q := tA_pure mB_X10_clerk dX10_clerk_0 rfl
theorem rX10_clerk_1 : tA sc iX10_clerk 1 ls (vR (some o) :: st) h Q = oz (tget h o [10] 1) (fun v => tA sc iX10_clerk 4 ls (v :: st) h Q) := tA_get mB_X10_clerk mO_X10_clerk dX10_clerk_1 fT_10_16
theorem rX10_clerk_4 : tA sc iX10_clerk 4 [vR r, l1] st h Q = tA sc iX10_clerk 5 [vR r, l1] (vR r :: st) h Q := tA_pure mB_X10_clerk dX10_clerk_4 rfl
theorem rX10_clerk_5 : tA sc iX10_clerk 5 ls (vR (some o) :: st) h Q = oz (tget h o [10] 0) (fun v => tA sc iX10_clerk 8 ls (v :: st) h Q) := tA_get mB_X10_clerk mO_X10_clerk dX10_clerk_5 fT_10_10
theorem rX10_clerk_8 (hci : tcl h o = some 9) : tA sc iX10_clerk 8 ls [vR n0, vR (some o)] h Q = tA sc iX9_become 0 [vR (some o), vR n0, vU] [] h (fun v h1 => tA sc iX10_clerk 11 ls (tpu v []) h1 Q) := tA_cV mB_X10_clerk mO_X10_clerk dX10_clerk_8 cT_10_60 rfl (Nat.le_of_ble_eq_true rfl) rfl rfl rfl hci
theorem rX10_clerk_11 : tA sc iX10_clerk 11 [vR r, l1] st h Q = tA sc iX10_clerk 12 [vR r, l1] (vR r :: st) h Q := tA_pure mB_X10_clerk dX10_clerk_11 rfl
theorem rX10_clerk_12 : tA sc iX10_clerk 12 ls (vR (some o) :: st) h Q = oz (tget h o [10] 1) (fun v => tA sc iX10_clerk 15 ls (v :: st) h Q) := tA_get mB_X10_clerk mO_X10_clerk dX10_clerk_12 fT_10_16
theorem rX10_clerk_15 (hci : tcl h o = some 9) : tA sc iX10_clerk 15 ls [vR (some o)] h Q = tA sc iX9_forgetAll 0 [vR (some o), vU] [] h (fun v h1 => tA sc iX10_clerk 18 ls (tpu v []) h1 Q) := tA_cV mB_X10_clerk mO_X10_clerk dX10_clerk_15 cT_10_64 rfl (Nat.le_of_ble_eq_true rfl) rfl rfl rfl hci
theorem rX10_clerk_18 : tA sc iX10_clerk 18 [vR r, l1] st h Q = tA sc iX10_clerk 19 [vR r, l1] (vR r :: st) h Q := tA_pure mB_X10_clerk dX10_clerk_18 rfl
theorem rX10_clerk_19 : tA sc iX10_clerk 19 ls (vR (some o) :: st) h Q = oz (tget h o [10] 4) (fun v => tA sc iX10_clerk 22 ls (v :: st) h Q) := tA_get mB_X10_clerk mO_X10_clerk dX10_clerk_19 fT_10_25
theorem rX10_clerk_22 : tA sc iX10_clerk 22 [vR r, l1] st h Q = tA sc iX10_clerk 23 [vR r, l1] (vR r :: st) h Q := tA_pure mB_X10_clerk dX10_clerk_22 rfl
theorem rX10_clerk_23 : tA sc iX10_clerk 23 ls (vR (some o) :: st) h Q = oz (tget h o [10] 1) (fun v => tA sc iX10_clerk 26 ls (v :: st) h Q) := tA_get mB_X10_clerk mO_X10_clerk dX10_clerk_23 fT_10_16
theorem rX10_clerk_26 (hci : tcl h o = some 1) : tA sc iX10_clerk 26 ls [vR n0, vR (some o)] h Q = tA sc iX1_readInto 0 [vR (some o), vR n0, vU] [] h (fun v h1 => tA sc iX10_clerk 29 ls (tpu v []) h1 Q) := tA_cV mB_X10_clerk mO_X10_clerk dX10_clerk_26 cT_10_67 rfl (Nat.le_of_ble_eq_true rfl) rfl rfl rfl hci
theorem rX10_clerk_29 : tA sc iX10_clerk 29 [l0, l1] (vI x :: st) h Q = tA sc iX10_clerk 30 [tclr l0, vI x] st h Q := tA_pure mB_X10_clerk dX10_clerk_29 rfl
theorem rX10_clerk_30 : tA sc iX10_clerk 30 [vR r, l1] st h Q = tA sc iX10_clerk 31 [vR r, l1] (vR r :: st) h Q := tA_pure mB_X10_clerk dX10_clerk_30 rfl
theorem rX10_clerk_31 : tA sc iX10_clerk 31 ls (vR (some o) :: st) h Q = oz (tget h o [10] 4) (fun v => tA sc iX10_clerk 34 ls (v :: st) h Q) := tA_get mB_X10_clerk mO_X10_clerk dX10_clerk_31 fT_10_25
theorem rX10_clerk_34 : tA sc iX10_clerk 34 ls st h Q = tA sc iX10_clerk 35 ls (vI (0) :: st) h Q := tA_pure mB_X10_clerk dX10_clerk_34 rfl
theorem rX10_clerk_35 : tA sc iX10_clerk 35 ls (v :: vR (some o) :: st) h Q = oz (tput h o [1] 1 0 v) (fun h' => tA sc iX10_clerk 38 ls st h' Q) := tA_put mB_X10_clerk mO_X10_clerk dX10_clerk_35 fT_10_52 (Or.inl (by decide))
theorem rX10_clerk_38 : tA sc iX10_clerk 38 [l0, vI x] st h Q = tA sc iX10_clerk 39 [l0, vI x] (vI x :: st) h Q := tA_pure mB_X10_clerk dX10_clerk_38 rfl
theorem rX10_clerk_39 : tA sc iX10_clerk 39 ls (vI x :: st) h Q = (if x < 0 then tA sc iX10_clerk 47 ls st h Q else tA sc iX10_clerk 42 ls st h Q) := tA_if mB_X10_clerk dX10_clerk_39 (fun _ _ _ _ => rfl) rfl
theorem rX10_clerk_42 : tA sc iX10_clerk 42 ls st h Q = tA sc iX10_clerk 44 ls (vI (-100) :: st) h Q := tA_pure mB_X10_clerk dX10_clerk_42 rfl
theorem rX10_clerk_44 : tA sc iX10_clerk 44 [l0, vI x] st h Q = tA sc iX10_clerk 45 [l0, vI x] (vI x :: st) h Q := tA_pure mB_X10_clerk dX10_clerk_44 rfl
theorem rX10_clerk_45 : tA sc iX10_clerk 45 ls (vI y :: vI x :: st) h Q = tA sc iX10_clerk 46 ls (vI (x - y) :: st) h Q := tA_pure mB_X10_clerk dX10_clerk_45 rfl
theorem rX10_clerk_46 : tA sc iX10_clerk 46 ls [vI x] h Q = Q (some (vI x)) h := tA_ret mB_X10_clerk dX10_clerk_46 (fun _ _ _ _ => rfl) (fun _ _ _ => rfl) (fun _ _ _ _ _ => rfl) rfl rfl
theorem rX10_clerk_47 : tA sc iX10_clerk 47 [vR r, l1] st h Q = tA sc iX10_clerk 48 [vR r, l1] (vR r :: st) h Q := tA_pure mB_X10_clerk dX10_clerk_47 rfl
theorem rX10_clerk_48 : tA sc iX10_clerk 48 ls (vR (some o) :: st) h Q = oz (tget h o [10] 0) (fun v => tA sc iX10_clerk 51 ls (v :: st) h Q) := tA_get mB_X10_clerk mO_X10_clerk dX10_clerk_48 fT_10_10
theorem rX10_clerk_51 : tA sc iX10_clerk 51 [vR r, l1] st h Q = tA sc iX10_clerk 52 [vR r, l1] (vR r :: st) h Q := tA_pure mB_X10_clerk dX10_clerk_51 rfl
theorem rX10_clerk_52 : tA sc iX10_clerk 52 ls (vR (some o) :: st) h Q = oz (tget h o [10] 1) (fun v => tA sc iX10_clerk 55 ls (v :: st) h Q) := tA_get mB_X10_clerk mO_X10_clerk dX10_clerk_52 fT_10_16
theorem rX10_clerk_55 (hci : tcl h o = some 9) : tA sc iX10_clerk 55 ls [vR n0, vR (some o)] h Q = tA sc iX9_become 0 [vR (some o), vR n0, vU] [] h (fun v h1 => tA sc iX10_clerk 58 ls (tpu v []) h1 Q) := tA_cV mB_X10_clerk mO_X10_clerk dX10_clerk_55 cT_10_60 rfl (Nat.le_of_ble_eq_true rfl) rfl rfl rfl hci
theorem rX10_clerk_58 : tA sc iX10_clerk 58 [vR r, l1] st h Q = tA sc iX10_clerk 59 [vR r, l1] (vR r :: st) h Q := tA_pure mB_X10_clerk dX10_clerk_58 rfl
theorem rX10_clerk_59 : tA sc iX10_clerk 59 ls st h Q = tA sc iX10_clerk 60 ls (vI (0) :: st) h Q := tA_pure mB_X10_clerk dX10_clerk_59 rfl
theorem rX10_clerk_60 : tA sc iX10_clerk 60 ls (v :: vR (some o) :: st) h Q = oz (tput h o [10] 6 0 v) (fun h' => tA sc iX10_clerk 63 ls st h' Q) := tA_put mB_X10_clerk mO_X10_clerk dX10_clerk_60 fT_10_71 (Or.inl (by decide))
theorem rX10_clerk_63 : tA sc iX10_clerk 63 [vR r, l1] st h Q = tA sc iX10_clerk 64 [vR r, l1] (vR r :: st) h Q := tA_pure mB_X10_clerk dX10_clerk_63 rfl
theorem rX10_clerk_64 : tA sc iX10_clerk 64 ls (vR (some o) :: st) h Q = oz (tget h o [10] 0) (fun v => tA sc iX10_clerk 67 ls (v :: st) h Q) := tA_get mB_X10_clerk mO_X10_clerk dX10_clerk_64 fT_10_10
theorem rX10_clerk_67 : tA sc iX10_clerk 67 ls (vR (some o) :: st) h Q = oz (tget h o [9] 10) (fun v => tA sc iX10_clerk 70 ls (v :: st) h Q) := tA_get mB_X10_clerk mO_X10_clerk dX10_clerk_67 fT_10_74
theorem rX10_clerk_70 : tA sc iX10_clerk 70 ls [vI x] h Q = Q (some (vI x)) h := tA_ret mB_X10_clerk dX10_clerk_70 (fun _ _ _ _ => rfl) (fun _ _ _ => rfl) (fun _ _ _ _ _ => rfl) rfl rfl
theorem mB_X10_worth : mB iX10_worth = cX10_worth := rfl
theorem mO_X10_worth : mO iX10_worth = 10 := rfl
theorem rX10_worth_0 : tA sc iX10_worth 0 [l0, vI x, l2, l3] st h Q = tA sc iX10_worth 1 [l0, vI x, l2, l3] (vI x :: st) h Q := tA_pure mB_X10_worth dX10_worth_0 rfl
theorem rX10_worth_1 : tA sc iX10_worth 1 ls [vI p0] h Q = tA sc iX10_isDay 0 [vI p0] [] h (fun v h1 => tA sc iX10_worth 4 ls (tpu v []) h1 Q) := tA_cS mB_X10_worth mO_X10_worth dX10_worth_1 cT_10_77 ⟨Nat.le_of_ble_eq_true rfl, Nat.le_of_ble_eq_true rfl⟩ rfl rfl rfl rfl
theorem rX10_worth_4 : tA sc iX10_worth 4 ls (vI x :: st) h Q = (if x = 0 then tA sc iX10_worth 17 ls st h Q else tA sc iX10_worth 7 ls st h Q) := tA_if mB_X10_worth dX10_worth_4 (fun _ _ _ _ => rfl) rfl
theorem rX10_worth_7 : tA sc iX10_worth 7 [l0, l1, vI x, l3] st h Q = tA sc iX10_worth 8 [l0, l1, vI x, l3] (vI x :: st) h Q := tA_pure mB_X10_worth dX10_worth_7 rfl
theorem rX10_worth_8 : tA sc iX10_worth 8 ls (vI x :: st) h Q = (if x < 0 then tA sc iX10_worth 17 ls st h Q else tA sc iX10_worth 11 ls st h Q) := tA_if mB_X10_worth dX10_worth_8 (fun _ _ _ _ => rfl) rfl
theorem rX10_worth_11 : tA sc iX10_worth 11 [l0, l1, vI x, l3] st h Q = tA sc iX10_worth 12 [l0, l1, vI x, l3] (vI x :: st) h Q := tA_pure mB_X10_worth dX10_worth_11 rfl
theorem rX10_worth_12 : tA sc iX10_worth 12 ls st h Q = tA sc iX10_worth 14 ls (vI (99) :: st) h Q := tA_pure mB_X10_worth dX10_worth_12 rfl
theorem rX10_worth_14 : tA sc iX10_worth 14 ls (vI y :: vI x :: st) h Q = (if x ≤ y then tA sc iX10_worth 19 ls st h Q else tA sc iX10_worth 17 ls st h Q) := tA_if mB_X10_worth dX10_worth_14 (fun _ _ _ _ => rfl) rfl
theorem rX10_worth_17 : tA sc iX10_worth 17 ls st h Q = tA sc iX10_worth 18 ls (vI (-1) :: st) h Q := tA_pure mB_X10_worth dX10_worth_17 rfl
theorem rX10_worth_18 : tA sc iX10_worth 18 ls [vI x] h Q = Q (some (vI x)) h := tA_ret mB_X10_worth dX10_worth_18 (fun _ _ _ _ => rfl) (fun _ _ _ => rfl) (fun _ _ _ _ _ => rfl) rfl rfl
theorem rX10_worth_19 : tA sc iX10_worth 19 [vR r, l1, l2, l3] st h Q = tA sc iX10_worth 20 [vR r, l1, l2, l3] (vR r :: st) h Q := tA_pure mB_X10_worth dX10_worth_19 rfl
theorem rX10_worth_20 : tA sc iX10_worth 20 ls (vR (some o) :: st) h Q = oz (tget h o [10] 0) (fun v => tA sc iX10_worth 23 ls (v :: st) h Q) := tA_get mB_X10_worth mO_X10_worth dX10_worth_20 fT_10_10
theorem rX10_worth_23 : tA sc iX10_worth 23 ls (vR (some o) :: st) h Q = oz (tget h o [9] 0) (fun v => tA sc iX10_worth 26 ls (v :: st) h Q) := tA_get mB_X10_worth mO_X10_worth dX10_worth_23 fT_10_81
theorem rX10_worth_26 : tA sc iX10_worth 26 [l0, vI x, l2, l3] st h Q = tA sc iX10_worth 27 [l0, vI x, l2, l3] (vI x :: st) h Q := tA_pure mB_X10_worth dX10_worth_26 rfl
theorem rX10_worth_27 : tA sc iX10_worth 27 ls (vI j :: vR (some a) :: st) h Q = oz (tald sc h 0 a j) (fun v => tA sc iX10_worth 28 ls (vI v :: st) h Q) := tA_iald mB_X10_worth dX10_worth_27
theorem rX10_worth_28 : tA sc iX10_worth 28 [l0, l1, l2, l3] (vI x :: st) h Q = tA sc iX10_worth 29 [l0, l1, tclr l2, vI x] st h Q := tA_pure mB_X10_worth dX10_worth_28 rfl
theorem rX10_worth_29 : tA sc iX10_worth 29 [vR r, l1, l2, l3] st h Q = tA sc iX10_worth 30 [vR r, l1, l2, l3] (vR r :: st) h Q := tA_pure mB_X10_worth dX10_worth_29 rfl
theorem rX10_worth_30 : tA sc iX10_worth 30 ls (vR (some o) :: st) h Q = oz (tget h o [10] 0) (fun v => tA sc iX10_worth 33 ls (v :: st) h Q) := tA_get mB_X10_worth mO_X10_worth dX10_worth_30 fT_10_10
theorem rX10_worth_33 : tA sc iX10_worth 33 ls (vR (some o) :: st) h Q = oz (tget h o [9] 0) (fun v => tA sc iX10_worth 36 ls (v :: st) h Q) := tA_get mB_X10_worth mO_X10_worth dX10_worth_33 fT_10_81
theorem rX10_worth_36 : tA sc iX10_worth 36 [l0, vI x, l2, l3] st h Q = tA sc iX10_worth 37 [l0, vI x, l2, l3] (vI x :: st) h Q := tA_pure mB_X10_worth dX10_worth_36 rfl
theorem rX10_worth_37 : tA sc iX10_worth 37 [l0, l1, vI x, l3] st h Q = tA sc iX10_worth 38 [l0, l1, vI x, l3] (vI x :: st) h Q := tA_pure mB_X10_worth dX10_worth_37 rfl
theorem rX10_worth_38 : tA sc iX10_worth 38 ls (vI x :: vI j :: vR (some a) :: st) h Q = oz (tasi h a j x) (fun h' => tA sc iX10_worth 39 ls st h' Q) := tA_iast mB_X10_worth dX10_worth_38
theorem rX10_worth_39 : tA sc iX10_worth 39 [l0, l1, l2, vI x] st h Q = tA sc iX10_worth 40 [l0, l1, l2, vI x] (vI x :: st) h Q := tA_pure mB_X10_worth dX10_worth_39 rfl
theorem rX10_worth_40 : tA sc iX10_worth 40 ls [vI x] h Q = Q (some (vI x)) h := tA_ret mB_X10_worth dX10_worth_40 (fun _ _ _ _ => rfl) (fun _ _ _ => rfl) (fun _ _ _ _ _ => rfl) rfl rfl
theorem mB_X10_weigh : mB iX10_weigh = cX10_weigh := rfl
theorem mO_X10_weigh : mO iX10_weigh = 10 := rfl
theorem rX10_weigh_0 : tA sc iX10_weigh 0 [l0, vI x, l2, l3, l4, l5] st h Q = tA sc iX10_weigh 1 [l0, vI x, l2, l3, l4, l5] (vI x :: st) h Q := tA_pure mB_X10_weigh dX10_weigh_0 rfl
theorem rX10_weigh_1 : tA sc iX10_weigh 1 ls [vI p0] h Q = tA sc iX10_isDay 0 [vI p0] [] h (fun v h1 => tA sc iX10_weigh 4 ls (tpu v []) h1 Q) := tA_cS mB_X10_weigh mO_X10_weigh dX10_weigh_1 cT_10_77 ⟨Nat.le_of_ble_eq_true rfl, Nat.le_of_ble_eq_true rfl⟩ rfl rfl rfl rfl
theorem rX10_weigh_4 : tA sc iX10_weigh 4 ls (vI x :: st) h Q = (if x = 0 then tA sc iX10_weigh 24 ls st h Q else tA sc iX10_weigh 7 ls st h Q) := tA_if mB_X10_weigh dX10_weigh_4 (fun _ _ _ _ => rfl) rfl
theorem rX10_weigh_7 : tA sc iX10_weigh 7 [l0, l1, vI x, l3, l4, l5] st h Q = tA sc iX10_weigh 8 [l0, l1, vI x, l3, l4, l5] (vI x :: st) h Q := tA_pure mB_X10_weigh dX10_weigh_7 rfl
theorem rX10_weigh_8 : tA sc iX10_weigh 8 ls [vI p0] h Q = tA sc iX10_isWeather 0 [vI p0] [] h (fun v h1 => tA sc iX10_weigh 11 ls (tpu v []) h1 Q) := tA_cS mB_X10_weigh mO_X10_weigh dX10_weigh_8 cT_10_84 ⟨Nat.le_of_ble_eq_true rfl, Nat.le_of_ble_eq_true rfl⟩ rfl rfl rfl rfl
theorem rX10_weigh_11 : tA sc iX10_weigh 11 ls (vI x :: st) h Q = (if x = 0 then tA sc iX10_weigh 24 ls st h Q else tA sc iX10_weigh 14 ls st h Q) := tA_if mB_X10_weigh dX10_weigh_11 (fun _ _ _ _ => rfl) rfl
theorem rX10_weigh_14 : tA sc iX10_weigh 14 [l0, l1, l2, vI x, l4, l5] st h Q = tA sc iX10_weigh 15 [l0, l1, l2, vI x, l4, l5] (vI x :: st) h Q := tA_pure mB_X10_weigh dX10_weigh_14 rfl
theorem rX10_weigh_15 : tA sc iX10_weigh 15 ls (vI x :: st) h Q = (if x < 0 then tA sc iX10_weigh 24 ls st h Q else tA sc iX10_weigh 18 ls st h Q) := tA_if mB_X10_weigh dX10_weigh_15 (fun _ _ _ _ => rfl) rfl
theorem rX10_weigh_18 : tA sc iX10_weigh 18 [l0, l1, l2, vI x, l4, l5] st h Q = tA sc iX10_weigh 19 [l0, l1, l2, vI x, l4, l5] (vI x :: st) h Q := tA_pure mB_X10_weigh dX10_weigh_18 rfl
theorem rX10_weigh_19 : tA sc iX10_weigh 19 ls st h Q = tA sc iX10_weigh 21 ls (vI (9) :: st) h Q := tA_pure mB_X10_weigh dX10_weigh_19 rfl
theorem rX10_weigh_21 : tA sc iX10_weigh 21 ls (vI y :: vI x :: st) h Q = (if x ≤ y then tA sc iX10_weigh 26 ls st h Q else tA sc iX10_weigh 24 ls st h Q) := tA_if mB_X10_weigh dX10_weigh_21 (fun _ _ _ _ => rfl) rfl
theorem rX10_weigh_24 : tA sc iX10_weigh 24 ls st h Q = tA sc iX10_weigh 25 ls (vI (-1) :: st) h Q := tA_pure mB_X10_weigh dX10_weigh_24 rfl
theorem rX10_weigh_25 : tA sc iX10_weigh 25 ls [vI x] h Q = Q (some (vI x)) h := tA_ret mB_X10_weigh dX10_weigh_25 (fun _ _ _ _ => rfl) (fun _ _ _ => rfl) (fun _ _ _ _ _ => rfl) rfl rfl
theorem rX10_weigh_26 : tA sc iX10_weigh 26 [l0, vI x, l2, l3, l4, l5] st h Q = tA sc iX10_weigh 27 [l0, vI x, l2, l3, l4, l5] (vI x :: st) h Q := tA_pure mB_X10_weigh dX10_weigh_26 rfl
theorem rX10_weigh_27 : tA sc iX10_weigh 27 ls st h Q = tA sc iX10_weigh 28 ls (vI (4) :: st) h Q := tA_pure mB_X10_weigh dX10_weigh_27 rfl
theorem rX10_weigh_28 : tA sc iX10_weigh 28 ls (vI y :: vI x :: st) h Q = tA sc iX10_weigh 29 ls (vI (x * y) :: st) h Q := tA_pure mB_X10_weigh dX10_weigh_28 rfl
theorem rX10_weigh_29 : tA sc iX10_weigh 29 [l0, l1, vI x, l3, l4, l5] st h Q = tA sc iX10_weigh 30 [l0, l1, vI x, l3, l4, l5] (vI x :: st) h Q := tA_pure mB_X10_weigh dX10_weigh_29 rfl
theorem rX10_weigh_30 : tA sc iX10_weigh 30 ls (vI y :: vI x :: st) h Q = tA sc iX10_weigh 31 ls (vI (x + y) :: st) h Q := tA_pure mB_X10_weigh dX10_weigh_30 rfl
theorem rX10_weigh_31 : tA sc iX10_weigh 31 [l0, l1, l2, l3, l4, l5] (vI x :: st) h Q = tA sc iX10_weigh 33 [l0, l1, l2, tclr l3, vI x, l5] st h Q := tA_pure mB_X10_weigh dX10_weigh_31 rfl
theorem rX10_weigh_33 : tA sc iX10_weigh 33 [vR r, l1, l2, l3, l4, l5] st h Q = tA sc iX10_weigh 34 [vR r, l1, l2, l3, l4, l5] (vR r :: st) h Q := tA_pure mB_X10_weigh dX10_weigh_33 rfl
theorem rX10_weigh_34 : tA sc iX10_weigh 34 ls (vR (some o) :: st) h Q = oz (tget h o [10] 0) (fun v => tA sc iX10_weigh 37 ls (v :: st) h Q) := tA_get mB_X10_weigh mO_X10_weigh dX10_weigh_34 fT_10_10
theorem rX10_weigh_37 : tA sc iX10_weigh 37 ls (vR (some o) :: st) h Q = oz (tget h o [9] 1) (fun v => tA sc iX10_weigh 40 ls (v :: st) h Q) := tA_get mB_X10_weigh mO_X10_weigh dX10_weigh_37 fT_10_87
theorem rX10_weigh_40 : tA sc iX10_weigh 40 [l0, l1, l2, l3, vI x, l5] st h Q = tA sc iX10_weigh 42 [l0, l1, l2, l3, vI x, l5] (vI x :: st) h Q := tA_pure mB_X10_weigh dX10_weigh_40 rfl
theorem rX10_weigh_42 : tA sc iX10_weigh 42 ls (vI j :: vR (some a) :: st) h Q = oz (tald sc h 0 a j) (fun v => tA sc iX10_weigh 43 ls (vI v :: st) h Q) := tA_iald mB_X10_weigh dX10_weigh_42
theorem rX10_weigh_43 : tA sc iX10_weigh 43 [l0, l1, l2, l3, l4, l5] (vI x :: st) h Q = tA sc iX10_weigh 45 [l0, l1, l2, l3, tclr l4, vI x] st h Q := tA_pure mB_X10_weigh dX10_weigh_43 rfl
theorem rX10_weigh_45 : tA sc iX10_weigh 45 [vR r, l1, l2, l3, l4, l5] st h Q = tA sc iX10_weigh 46 [vR r, l1, l2, l3, l4, l5] (vR r :: st) h Q := tA_pure mB_X10_weigh dX10_weigh_45 rfl
theorem rX10_weigh_46 : tA sc iX10_weigh 46 ls (vR (some o) :: st) h Q = oz (tget h o [10] 0) (fun v => tA sc iX10_weigh 49 ls (v :: st) h Q) := tA_get mB_X10_weigh mO_X10_weigh dX10_weigh_46 fT_10_10
theorem rX10_weigh_49 : tA sc iX10_weigh 49 [l0, vI x, l2, l3, l4, l5] st h Q = tA sc iX10_weigh 50 [l0, vI x, l2, l3, l4, l5] (vI x :: st) h Q := tA_pure mB_X10_weigh dX10_weigh_49 rfl
theorem rX10_weigh_50 : tA sc iX10_weigh 50 ls st h Q = tA sc iX10_weigh 51 ls (vI (-1) :: st) h Q := tA_pure mB_X10_weigh dX10_weigh_50 rfl
theorem rX10_weigh_51 (hci : tcl h o = some 9) : tA sc iX10_weigh 51 ls [vI p1, vI p0, vR (some o)] h Q = tA sc iX9_allWith 0 [vR (some o), vI p0, vI p1, vU, vU] [] h (fun v h1 => tA sc iX10_weigh 54 ls (tpu v []) h1 Q) := tA_cV mB_X10_weigh mO_X10_weigh dX10_weigh_51 cT_10_90 rfl (Nat.le_of_ble_eq_true rfl) rfl rfl rfl hci
theorem rX10_weigh_54 : tA sc iX10_weigh 54 [l0, l1, l2, l3, l4, vI x] st h Q = tA sc iX10_weigh 56 [l0, l1, l2, l3, l4, vI x] (vI x :: st) h Q := tA_pure mB_X10_weigh dX10_weigh_54 rfl
theorem rX10_weigh_56 : tA sc iX10_weigh 56 ls (vI y :: vI x :: st) h Q = tA sc iX10_weigh 57 ls (vI (x - y) :: st) h Q := tA_pure mB_X10_weigh dX10_weigh_56 rfl
theorem rX10_weigh_57 : tA sc iX10_weigh 57 [l0, l1, l2, vI x, l4, l5] st h Q = tA sc iX10_weigh 58 [l0, l1, l2, vI x, l4, l5] (vI x :: st) h Q := tA_pure mB_X10_weigh dX10_weigh_57 rfl
theorem rX10_weigh_58 : tA sc iX10_weigh 58 ls (vI y :: vI x :: st) h Q = tA sc iX10_weigh 59 ls (vI (x + y) :: st) h Q := tA_pure mB_X10_weigh dX10_weigh_58 rfl
theorem rX10_weigh_59 : tA sc iX10_weigh 59 ls (vI x :: st) h Q = (if ¬ x = 0 then tA sc iX10_weigh 65 ls st h Q else tA sc iX10_weigh 62 ls st h Q) := tA_if mB_X10_weigh dX10_weigh_59 (fun _ _ _ _ => rfl) rfl
theorem rX10_weigh_62 : tA sc iX10_weigh 62 ls st h Q = tA sc iX10_weigh 64 ls (vI (-4) :: st) h Q := tA_pure mB_X10_weigh dX10_weigh_62 rfl
theorem rX10_weigh_64 : tA sc iX10_weigh 64 ls [vI x] h Q = Q (some (vI x)) h := tA_ret mB_X10_weigh dX10_weigh_64 (fun _ _ _ _ => rfl) (fun _ _ _ => rfl) (fun _ _ _ _ _ => rfl) rfl rfl
theorem rX10_weigh_65 : tA sc iX10_weigh 65 [vR r, l1, l2, l3, l4, l5] st h Q = tA sc iX10_weigh 66 [vR r, l1, l2, l3, l4, l5] (vR r :: st) h Q := tA_pure mB_X10_weigh dX10_weigh_65 rfl
theorem rX10_weigh_66 : tA sc iX10_weigh 66 ls (vR (some o) :: st) h Q = oz (tget h o [10] 0) (fun v => tA sc iX10_weigh 69 ls (v :: st) h Q) := tA_get mB_X10_weigh mO_X10_weigh dX10_weigh_66 fT_10_10
theorem rX10_weigh_69 : tA sc iX10_weigh 69 ls (vR (some o) :: st) h Q = oz (tget h o [9] 1) (fun v => tA sc iX10_weigh 72 ls (v :: st) h Q) := tA_get mB_X10_weigh mO_X10_weigh dX10_weigh_69 fT_10_87
theorem rX10_weigh_72 : tA sc iX10_weigh 72 [l0, l1, l2, l3, vI x, l5] st h Q = tA sc iX10_weigh 74 [l0, l1, l2, l3, vI x, l5] (vI x :: st) h Q := tA_pure mB_X10_weigh dX10_weigh_72 rfl
theorem rX10_weigh_74 : tA sc iX10_weigh 74 [l0, l1, l2, vI x, l4, l5] st h Q = tA sc iX10_weigh 75 [l0, l1, l2, vI x, l4, l5] (vI x :: st) h Q := tA_pure mB_X10_weigh dX10_weigh_74 rfl
theorem rX10_weigh_75 : tA sc iX10_weigh 75 ls (vI x :: vI j :: vR (some a) :: st) h Q = oz (tasi h a j x) (fun h' => tA sc iX10_weigh 76 ls st h' Q) := tA_iast mB_X10_weigh dX10_weigh_75
theorem rX10_weigh_76 : tA sc iX10_weigh 76 [l0, l1, l2, l3, l4, vI x] st h Q = tA sc iX10_weigh 78 [l0, l1, l2, l3, l4, vI x] (vI x :: st) h Q := tA_pure mB_X10_weigh dX10_weigh_76 rfl
theorem rX10_weigh_78 : tA sc iX10_weigh 78 ls [vI x] h Q = Q (some (vI x)) h := tA_ret mB_X10_weigh dX10_weigh_78 (fun _ _ _ _ => rfl) (fun _ _ _ => rfl) (fun _ _ _ _ _ => rfl) rfl rfl
theorem mB_X10_sign : mB iX10_sign = cX10_sign := rfl
theorem mO_X10_sign : mO iX10_sign = 10 := rfl
theorem rX10_sign_0 : tA sc iX10_sign 0 [l0, vI x, l2, l3] st h Q = tA sc iX10_sign 1 [l0, vI x, l2, l3] (vI x :: st) h Q := tA_pure mB_X10_sign dX10_sign_0 rfl
theorem rX10_sign_1 : tA sc iX10_sign 1 ls [vI p0] h Q = tA sc iX10_isDay 0 [vI p0] [] h (fun v h1 => tA sc iX10_sign 4 ls (tpu v []) h1 Q) := tA_cS mB_X10_sign mO_X10_sign dX10_sign_1 cT_10_77 ⟨Nat.le_of_ble_eq_true rfl, Nat.le_of_ble_eq_true rfl⟩ rfl rfl rfl rfl
theorem rX10_sign_4 : tA sc iX10_sign 4 ls (vI x :: st) h Q = (if x = 0 then tA sc iX10_sign 17 ls st h Q else tA sc iX10_sign 7 ls st h Q) := tA_if mB_X10_sign dX10_sign_4 (fun _ _ _ _ => rfl) rfl
theorem rX10_sign_7 : tA sc iX10_sign 7 [l0, l1, vI x, l3] st h Q = tA sc iX10_sign 8 [l0, l1, vI x, l3] (vI x :: st) h Q := tA_pure mB_X10_sign dX10_sign_7 rfl
theorem rX10_sign_8 : tA sc iX10_sign 8 ls st h Q = tA sc iX10_sign 9 ls (vI (-1) :: st) h Q := tA_pure mB_X10_sign dX10_sign_8 rfl
theorem rX10_sign_9 : tA sc iX10_sign 9 ls (vI y :: vI x :: st) h Q = (if x < y then tA sc iX10_sign 17 ls st h Q else tA sc iX10_sign 12 ls st h Q) := tA_if mB_X10_sign dX10_sign_9 (fun _ _ _ _ => rfl) rfl
theorem rX10_sign_12 : tA sc iX10_sign 12 [l0, l1, vI x, l3] st h Q = tA sc iX10_sign 13 [l0, l1, vI x, l3] (vI x :: st) h Q := tA_pure mB_X10_sign dX10_sign_12 rfl
theorem rX10_sign_13 : tA sc iX10_sign 13 ls st h Q = tA sc iX10_sign 14 ls (vI (4) :: st) h Q := tA_pure mB_X10_sign dX10_sign_13 rfl
theorem rX10_sign_14 : tA sc iX10_sign 14 ls (vI y :: vI x :: st) h Q = (if x < y then tA sc iX10_sign 19 ls st h Q else tA sc iX10_sign 17 ls st h Q) := tA_if mB_X10_sign dX10_sign_14 (fun _ _ _ _ => rfl) rfl
theorem rX10_sign_17 : tA sc iX10_sign 17 ls st h Q = tA sc iX10_sign 18 ls (vI (-1) :: st) h Q := tA_pure mB_X10_sign dX10_sign_17 rfl
theorem rX10_sign_18 : tA sc iX10_sign 18 ls [vI x] h Q = Q (some (vI x)) h := tA_ret mB_X10_sign dX10_sign_18 (fun _ _ _ _ => rfl) (fun _ _ _ => rfl) (fun _ _ _ _ _ => rfl) rfl rfl
theorem rX10_sign_19 : tA sc iX10_sign 19 [vR r, l1, l2, l3] st h Q = tA sc iX10_sign 20 [vR r, l1, l2, l3] (vR r :: st) h Q := tA_pure mB_X10_sign dX10_sign_19 rfl
theorem rX10_sign_20 : tA sc iX10_sign 20 ls (vR (some o) :: st) h Q = oz (tget h o [10] 0) (fun v => tA sc iX10_sign 23 ls (v :: st) h Q) := tA_get mB_X10_sign mO_X10_sign dX10_sign_20 fT_10_10
theorem rX10_sign_23 : tA sc iX10_sign 23 ls (vR (some o) :: st) h Q = oz (tget h o [9] 2) (fun v => tA sc iX10_sign 26 ls (v :: st) h Q) := tA_get mB_X10_sign mO_X10_sign dX10_sign_23 fT_10_94
theorem rX10_sign_26 : tA sc iX10_sign 26 [l0, vI x, l2, l3] st h Q = tA sc iX10_sign 27 [l0, vI x, l2, l3] (vI x :: st) h Q := tA_pure mB_X10_sign dX10_sign_26 rfl
theorem rX10_sign_27 : tA sc iX10_sign 27 ls (vI j :: vR (some a) :: st) h Q = oz (tald sc h 0 a j) (fun v => tA sc iX10_sign 28 ls (vI v :: st) h Q) := tA_iald mB_X10_sign dX10_sign_27
theorem rX10_sign_28 : tA sc iX10_sign 28 [l0, l1, l2, l3] (vI x :: st) h Q = tA sc iX10_sign 29 [l0, l1, tclr l2, vI x] st h Q := tA_pure mB_X10_sign dX10_sign_28 rfl
theorem rX10_sign_29 : tA sc iX10_sign 29 [vR r, l1, l2, l3] st h Q = tA sc iX10_sign 30 [vR r, l1, l2, l3] (vR r :: st) h Q := tA_pure mB_X10_sign dX10_sign_29 rfl
theorem rX10_sign_30 : tA sc iX10_sign 30 ls (vR (some o) :: st) h Q = oz (tget h o [10] 0) (fun v => tA sc iX10_sign 33 ls (v :: st) h Q) := tA_get mB_X10_sign mO_X10_sign dX10_sign_30 fT_10_10
theorem rX10_sign_33 : tA sc iX10_sign 33 ls (vR (some o) :: st) h Q = oz (tget h o [9] 2) (fun v => tA sc iX10_sign 36 ls (v :: st) h Q) := tA_get mB_X10_sign mO_X10_sign dX10_sign_33 fT_10_94
theorem rX10_sign_36 : tA sc iX10_sign 36 [l0, vI x, l2, l3] st h Q = tA sc iX10_sign 37 [l0, vI x, l2, l3] (vI x :: st) h Q := tA_pure mB_X10_sign dX10_sign_36 rfl
theorem rX10_sign_37 : tA sc iX10_sign 37 [l0, l1, vI x, l3] st h Q = tA sc iX10_sign 38 [l0, l1, vI x, l3] (vI x :: st) h Q := tA_pure mB_X10_sign dX10_sign_37 rfl
theorem rX10_sign_38 : tA sc iX10_sign 38 ls (vI x :: vI j :: vR (some a) :: st) h Q = oz (tasi h a j x) (fun h' => tA sc iX10_sign 39 ls st h' Q) := tA_iast mB_X10_sign dX10_sign_38
theorem rX10_sign_39 : tA sc iX10_sign 39 [l0, l1, l2, vI x] st h Q = tA sc iX10_sign 40 [l0, l1, l2, vI x] (vI x :: st) h Q := tA_pure mB_X10_sign dX10_sign_39 rfl
theorem rX10_sign_40 : tA sc iX10_sign 40 ls [vI p0] h Q = tA sc iX10_orNotYet 0 [vI p0] [] h (fun v h1 => tA sc iX10_sign 43 ls (tpu v []) h1 Q) := tA_cS mB_X10_sign mO_X10_sign dX10_sign_40 cT_10_97 ⟨Nat.le_of_ble_eq_true rfl, Nat.le_of_ble_eq_true rfl⟩ rfl rfl rfl rfl
theorem rX10_sign_43 : tA sc iX10_sign 43 ls [vI x] h Q = Q (some (vI x)) h := tA_ret mB_X10_sign dX10_sign_43 (fun _ _ _ _ => rfl) (fun _ _ _ => rfl) (fun _ _ _ _ _ => rfl) rfl rfl
theorem mB_X10_dayOf : mB iX10_dayOf = cX10_dayOf := rfl
theorem mO_X10_dayOf : mO iX10_dayOf = 10 := rfl
theorem rX10_dayOf_0 : tA sc iX10_dayOf 0 [l0, vI x, l2] st h Q = tA sc iX10_dayOf 1 [l0, vI x, l2] (vI x :: st) h Q := tA_pure mB_X10_dayOf dX10_dayOf_0 rfl
theorem rX10_dayOf_1 : tA sc iX10_dayOf 1 ls [vI p0] h Q = tA sc iX10_isDay 0 [vI p0] [] h (fun v h1 => tA sc iX10_dayOf 4 ls (tpu v []) h1 Q) := tA_cS mB_X10_dayOf mO_X10_dayOf dX10_dayOf_1 cT_10_77 ⟨Nat.le_of_ble_eq_true rfl, Nat.le_of_ble_eq_true rfl⟩ rfl rfl rfl rfl
theorem rX10_dayOf_4 : tA sc iX10_dayOf 4 ls (vI x :: st) h Q = (if ¬ x = 0 then tA sc iX10_dayOf 9 ls st h Q else tA sc iX10_dayOf 7 ls st h Q) := tA_if mB_X10_dayOf dX10_dayOf_4 (fun _ _ _ _ => rfl) rfl
theorem rX10_dayOf_7 : tA sc iX10_dayOf 7 ls st h Q = tA sc iX10_dayOf 8 ls (vI (-1) :: st) h Q := tA_pure mB_X10_dayOf dX10_dayOf_7 rfl
theorem rX10_dayOf_8 : tA sc iX10_dayOf 8 ls [vI x] h Q = Q (some (vI x)) h := tA_ret mB_X10_dayOf dX10_dayOf_8 (fun _ _ _ _ => rfl) (fun _ _ _ => rfl) (fun _ _ _ _ _ => rfl) rfl rfl
theorem rX10_dayOf_9 : tA sc iX10_dayOf 9 [l0, l1, vI x] st h Q = tA sc iX10_dayOf 10 [l0, l1, vI x] (vI x :: st) h Q := tA_pure mB_X10_dayOf dX10_dayOf_9 rfl
theorem rX10_dayOf_10 : tA sc iX10_dayOf 10 ls (vI x :: st) h Q = tA sc iX10_dayOf (tswp x 0 [48, 58, 71, 84, 93, 102] 112) ls st h Q := tA_sw mB_X10_dayOf dX10_dayOf_10 rfl rfl rfl
theorem rX10_dayOf_48 : tA sc iX10_dayOf 48 [vR r, l1, l2] st h Q = tA sc iX10_dayOf 49 [vR r, l1, l2] (vR r :: st) h Q := tA_pure mB_X10_dayOf dX10_dayOf_48 rfl
theorem rX10_dayOf_49 : tA sc iX10_dayOf 49 ls (vR (some o) :: st) h Q = oz (tget h o [10] 0) (fun v => tA sc iX10_dayOf 52 ls (v :: st) h Q) := tA_get mB_X10_dayOf mO_X10_dayOf dX10_dayOf_49 fT_10_10
theorem rX10_dayOf_52 : tA sc iX10_dayOf 52 ls (vR (some o) :: st) h Q = oz (tget h o [9] 0) (fun v => tA sc iX10_dayOf 55 ls (v :: st) h Q) := tA_get mB_X10_dayOf mO_X10_dayOf dX10_dayOf_52 fT_10_81
theorem rX10_dayOf_55 : tA sc iX10_dayOf 55 [l0, vI x, l2] st h Q = tA sc iX10_dayOf 56 [l0, vI x, l2] (vI x :: st) h Q := tA_pure mB_X10_dayOf dX10_dayOf_55 rfl
theorem rX10_dayOf_56 : tA sc iX10_dayOf 56 ls (vI j :: vR (some a) :: st) h Q = oz (tald sc h 0 a j) (fun v => tA sc iX10_dayOf 57 ls (vI v :: st) h Q) := tA_iald mB_X10_dayOf dX10_dayOf_56
theorem rX10_dayOf_57 : tA sc iX10_dayOf 57 ls [vI x] h Q = Q (some (vI x)) h := tA_ret mB_X10_dayOf dX10_dayOf_57 (fun _ _ _ _ => rfl) (fun _ _ _ => rfl) (fun _ _ _ _ _ => rfl) rfl rfl
theorem rX10_dayOf_58 : tA sc iX10_dayOf 58 [vR r, l1, l2] st h Q = tA sc iX10_dayOf 59 [vR r, l1, l2] (vR r :: st) h Q := tA_pure mB_X10_dayOf dX10_dayOf_58 rfl
theorem rX10_dayOf_59 : tA sc iX10_dayOf 59 ls (vR (some o) :: st) h Q = oz (tget h o [10] 0) (fun v => tA sc iX10_dayOf 62 ls (v :: st) h Q) := tA_get mB_X10_dayOf mO_X10_dayOf dX10_dayOf_59 fT_10_10
theorem rX10_dayOf_62 : tA sc iX10_dayOf 62 ls (vR (some o) :: st) h Q = oz (tget h o [9] 2) (fun v => tA sc iX10_dayOf 65 ls (v :: st) h Q) := tA_get mB_X10_dayOf mO_X10_dayOf dX10_dayOf_62 fT_10_94
theorem rX10_dayOf_65 : tA sc iX10_dayOf 65 [l0, vI x, l2] st h Q = tA sc iX10_dayOf 66 [l0, vI x, l2] (vI x :: st) h Q := tA_pure mB_X10_dayOf dX10_dayOf_65 rfl
theorem rX10_dayOf_66 : tA sc iX10_dayOf 66 ls (vI j :: vR (some a) :: st) h Q = oz (tald sc h 0 a j) (fun v => tA sc iX10_dayOf 67 ls (vI v :: st) h Q) := tA_iald mB_X10_dayOf dX10_dayOf_66
theorem rX10_dayOf_67 : tA sc iX10_dayOf 67 ls [vI p0] h Q = tA sc iX10_orNotYet 0 [vI p0] [] h (fun v h1 => tA sc iX10_dayOf 70 ls (tpu v []) h1 Q) := tA_cS mB_X10_dayOf mO_X10_dayOf dX10_dayOf_67 cT_10_97 ⟨Nat.le_of_ble_eq_true rfl, Nat.le_of_ble_eq_true rfl⟩ rfl rfl rfl rfl
theorem rX10_dayOf_70 : tA sc iX10_dayOf 70 ls [vI x] h Q = Q (some (vI x)) h := tA_ret mB_X10_dayOf dX10_dayOf_70 (fun _ _ _ _ => rfl) (fun _ _ _ => rfl) (fun _ _ _ _ _ => rfl) rfl rfl
theorem rX10_dayOf_71 : tA sc iX10_dayOf 71 [vR r, l1, l2] st h Q = tA sc iX10_dayOf 72 [vR r, l1, l2] (vR r :: st) h Q := tA_pure mB_X10_dayOf dX10_dayOf_71 rfl
theorem rX10_dayOf_72 : tA sc iX10_dayOf 72 ls (vR (some o) :: st) h Q = oz (tget h o [10] 0) (fun v => tA sc iX10_dayOf 75 ls (v :: st) h Q) := tA_get mB_X10_dayOf mO_X10_dayOf dX10_dayOf_72 fT_10_10
theorem rX10_dayOf_75 : tA sc iX10_dayOf 75 ls (vR (some o) :: st) h Q = oz (tget h o [9] 3) (fun v => tA sc iX10_dayOf 78 ls (v :: st) h Q) := tA_get mB_X10_dayOf mO_X10_dayOf dX10_dayOf_75 fT_10_101
theorem rX10_dayOf_78 : tA sc iX10_dayOf 78 [l0, vI x, l2] st h Q = tA sc iX10_dayOf 79 [l0, vI x, l2] (vI x :: st) h Q := tA_pure mB_X10_dayOf dX10_dayOf_78 rfl
theorem rX10_dayOf_79 : tA sc iX10_dayOf 79 ls (vI j :: vR (some a) :: st) h Q = oz (tald sc h 0 a j) (fun v => tA sc iX10_dayOf 80 ls (vI v :: st) h Q) := tA_iald mB_X10_dayOf dX10_dayOf_79
theorem rX10_dayOf_80 : tA sc iX10_dayOf 80 ls [vI p0] h Q = tA sc iX10_orNotYet 0 [vI p0] [] h (fun v h1 => tA sc iX10_dayOf 83 ls (tpu v []) h1 Q) := tA_cS mB_X10_dayOf mO_X10_dayOf dX10_dayOf_80 cT_10_97 ⟨Nat.le_of_ble_eq_true rfl, Nat.le_of_ble_eq_true rfl⟩ rfl rfl rfl rfl
theorem rX10_dayOf_83 : tA sc iX10_dayOf 83 ls [vI x] h Q = Q (some (vI x)) h := tA_ret mB_X10_dayOf dX10_dayOf_83 (fun _ _ _ _ => rfl) (fun _ _ _ => rfl) (fun _ _ _ _ _ => rfl) rfl rfl
theorem rX10_dayOf_84 : tA sc iX10_dayOf 84 [vR r, l1, l2] st h Q = tA sc iX10_dayOf 85 [vR r, l1, l2] (vR r :: st) h Q := tA_pure mB_X10_dayOf dX10_dayOf_84 rfl
theorem rX10_dayOf_85 : tA sc iX10_dayOf 85 ls (vR (some o) :: st) h Q = oz (tget h o [10] 0) (fun v => tA sc iX10_dayOf 88 ls (v :: st) h Q) := tA_get mB_X10_dayOf mO_X10_dayOf dX10_dayOf_85 fT_10_10
theorem rX10_dayOf_88 : tA sc iX10_dayOf 88 [l0, vI x, l2] st h Q = tA sc iX10_dayOf 89 [l0, vI x, l2] (vI x :: st) h Q := tA_pure mB_X10_dayOf dX10_dayOf_88 rfl
theorem rX10_dayOf_89 (hci : tcl h o = some 9) : tA sc iX10_dayOf 89 ls [vI p0, vR (some o)] h Q = tA sc iX9_earn 0 [vR (some o), vI p0] [] h (fun v h1 => tA sc iX10_dayOf 92 ls (tpu v []) h1 Q) := tA_cV mB_X10_dayOf mO_X10_dayOf dX10_dayOf_89 cT_10_104 rfl (Nat.le_of_ble_eq_true rfl) rfl rfl rfl hci
theorem rX10_dayOf_92 : tA sc iX10_dayOf 92 ls [vI x] h Q = Q (some (vI x)) h := tA_ret mB_X10_dayOf dX10_dayOf_92 (fun _ _ _ _ => rfl) (fun _ _ _ => rfl) (fun _ _ _ _ _ => rfl) rfl rfl
theorem rX10_dayOf_93 : tA sc iX10_dayOf 93 [vR r, l1, l2] st h Q = tA sc iX10_dayOf 94 [vR r, l1, l2] (vR r :: st) h Q := tA_pure mB_X10_dayOf dX10_dayOf_93 rfl
theorem rX10_dayOf_94 : tA sc iX10_dayOf 94 ls (vR (some o) :: st) h Q = oz (tget h o [10] 0) (fun v => tA sc iX10_dayOf 97 ls (v :: st) h Q) := tA_get mB_X10_dayOf mO_X10_dayOf dX10_dayOf_94 fT_10_10
theorem rX10_dayOf_97 : tA sc iX10_dayOf 97 [l0, vI x, l2] st h Q = tA sc iX10_dayOf 98 [l0, vI x, l2] (vI x :: st) h Q := tA_pure mB_X10_dayOf dX10_dayOf_97 rfl
theorem rX10_dayOf_98 (hci : tcl h o = some 9) : tA sc iX10_dayOf 98 ls [vI p0, vR (some o)] h Q = tA sc iX9_likeliest 0 [vR (some o), vI p0, vU, vU, vU, vU] [] h (fun v h1 => tA sc iX10_dayOf 101 ls (tpu v []) h1 Q) := tA_cV mB_X10_dayOf mO_X10_dayOf dX10_dayOf_98 cT_10_107 rfl (Nat.le_of_ble_eq_true rfl) rfl rfl rfl hci
theorem rX10_dayOf_101 : tA sc iX10_dayOf 101 ls [vI x] h Q = Q (some (vI x)) h := tA_ret mB_X10_dayOf dX10_dayOf_101 (fun _ _ _ _ => rfl) (fun _ _ _ => rfl) (fun _ _ _ _ _ => rfl) rfl rfl
theorem rX10_dayOf_102 : tA sc iX10_dayOf 102 [vR r, l1, l2] st h Q = tA sc iX10_dayOf 103 [vR r, l1, l2] (vR r :: st) h Q := tA_pure mB_X10_dayOf dX10_dayOf_102 rfl
theorem rX10_dayOf_103 : tA sc iX10_dayOf 103 ls (vR (some o) :: st) h Q = oz (tget h o [10] 0) (fun v => tA sc iX10_dayOf 106 ls (v :: st) h Q) := tA_get mB_X10_dayOf mO_X10_dayOf dX10_dayOf_103 fT_10_10
theorem rX10_dayOf_106 : tA sc iX10_dayOf 106 ls (vR (some o) :: st) h Q = oz (tget h o [9] 4) (fun v => tA sc iX10_dayOf 109 ls (v :: st) h Q) := tA_get mB_X10_dayOf mO_X10_dayOf dX10_dayOf_106 fT_10_110
theorem rX10_dayOf_109 : tA sc iX10_dayOf 109 [l0, vI x, l2] st h Q = tA sc iX10_dayOf 110 [l0, vI x, l2] (vI x :: st) h Q := tA_pure mB_X10_dayOf dX10_dayOf_109 rfl
theorem rX10_dayOf_110 : tA sc iX10_dayOf 110 ls (vI j :: vR (some a) :: st) h Q = oz (tald sc h 0 a j) (fun v => tA sc iX10_dayOf 111 ls (vI v :: st) h Q) := tA_iald mB_X10_dayOf dX10_dayOf_110
theorem rX10_dayOf_111 : tA sc iX10_dayOf 111 ls [vI x] h Q = Q (some (vI x)) h := tA_ret mB_X10_dayOf dX10_dayOf_111 (fun _ _ _ _ => rfl) (fun _ _ _ => rfl) (fun _ _ _ _ _ => rfl) rfl rfl
theorem rX10_dayOf_112 : tA sc iX10_dayOf 112 [l0, l1, vI x] st h Q = tA sc iX10_dayOf 113 [l0, l1, vI x] (vI x :: st) h Q := tA_pure mB_X10_dayOf dX10_dayOf_112 rfl
theorem rX10_dayOf_113 : tA sc iX10_dayOf 113 ls st h Q = tA sc iX10_dayOf 115 ls (vI (6) :: st) h Q := tA_pure mB_X10_dayOf dX10_dayOf_113 rfl
theorem rX10_dayOf_115 : tA sc iX10_dayOf 115 ls (vI y :: vI x :: st) h Q = tA sc iX10_dayOf 116 ls (vI (x - y) :: st) h Q := tA_pure mB_X10_dayOf dX10_dayOf_115 rfl
theorem rX10_dayOf_116 : tA sc iX10_dayOf 116 ls [vI p0] h Q = tA sc iX10_isWeather 0 [vI p0] [] h (fun v h1 => tA sc iX10_dayOf 119 ls (tpu v []) h1 Q) := tA_cS mB_X10_dayOf mO_X10_dayOf dX10_dayOf_116 cT_10_84 ⟨Nat.le_of_ble_eq_true rfl, Nat.le_of_ble_eq_true rfl⟩ rfl rfl rfl rfl
theorem rX10_dayOf_119 : tA sc iX10_dayOf 119 ls (vI x :: st) h Q = (if x = 0 then tA sc iX10_dayOf 137 ls st h Q else tA sc iX10_dayOf 122 ls st h Q) := tA_if mB_X10_dayOf dX10_dayOf_119 (fun _ _ _ _ => rfl) rfl
theorem rX10_dayOf_122 : tA sc iX10_dayOf 122 [vR r, l1, l2] st h Q = tA sc iX10_dayOf 123 [vR r, l1, l2] (vR r :: st) h Q := tA_pure mB_X10_dayOf dX10_dayOf_122 rfl
theorem rX10_dayOf_123 : tA sc iX10_dayOf 123 ls (vR (some o) :: st) h Q = oz (tget h o [10] 0) (fun v => tA sc iX10_dayOf 126 ls (v :: st) h Q) := tA_get mB_X10_dayOf mO_X10_dayOf dX10_dayOf_123 fT_10_10
theorem rX10_dayOf_126 : tA sc iX10_dayOf 126 [l0, vI x, l2] st h Q = tA sc iX10_dayOf 127 [l0, vI x, l2] (vI x :: st) h Q := tA_pure mB_X10_dayOf dX10_dayOf_126 rfl
theorem rX10_dayOf_127 : tA sc iX10_dayOf 127 [l0, l1, vI x] st h Q = tA sc iX10_dayOf 128 [l0, l1, vI x] (vI x :: st) h Q := tA_pure mB_X10_dayOf dX10_dayOf_127 rfl
theorem rX10_dayOf_128 : tA sc iX10_dayOf 128 ls st h Q = tA sc iX10_dayOf 130 ls (vI (6) :: st) h Q := tA_pure mB_X10_dayOf dX10_dayOf_128 rfl
theorem rX10_dayOf_130 : tA sc iX10_dayOf 130 ls (vI y :: vI x :: st) h Q = tA sc iX10_dayOf 131 ls (vI (x - y) :: st) h Q := tA_pure mB_X10_dayOf dX10_dayOf_130 rfl
theorem rX10_dayOf_131 (hci : tcl h o = some 9) : tA sc iX10_dayOf 131 ls [vI p1, vI p0, vR (some o)] h Q = tA sc iX9_weightOf 0 [vR (some o), vI p0, vI p1] [] h (fun v h1 => tA sc iX10_dayOf 134 ls (tpu v []) h1 Q) := tA_cV mB_X10_dayOf mO_X10_dayOf dX10_dayOf_131 cT_10_113 rfl (Nat.le_of_ble_eq_true rfl) rfl rfl rfl hci
theorem rX10_dayOf_134 : tA sc iX10_dayOf 134 ls st h Q = tA sc iX10_dayOf 138 ls st h Q := tA_jump mB_X10_dayOf dX10_dayOf_134 (fun _ _ _ _ => rfl) rfl
theorem rX10_dayOf_137 : tA sc iX10_dayOf 137 ls st h Q = tA sc iX10_dayOf 138 ls (vI (-1) :: st) h Q := tA_pure mB_X10_dayOf dX10_dayOf_137 rfl
theorem rX10_dayOf_138 : tA sc iX10_dayOf 138 ls [vI x] h Q = Q (some (vI x)) h := tA_ret mB_X10_dayOf dX10_dayOf_138 (fun _ _ _ _ => rfl) (fun _ _ _ => rfl) (fun _ _ _ _ _ => rfl) rfl rfl
theorem mB_X10_set : mB iX10_set = cX10_set := rfl
theorem mO_X10_set : mO iX10_set = 10 := rfl
theorem rX10_set_0 : tA sc iX10_set 0 [l0, vI x, l2, l3] st h Q = tA sc iX10_set 1 [l0, vI x, l2, l3] (vI x :: st) h Q := tA_pure mB_X10_set dX10_set_0 rfl
theorem rX10_set_1 : tA sc iX10_set 1 ls (vI x :: st) h Q = (if x < 0 then tA sc iX10_set 22 ls st h Q else tA sc iX10_set 4 ls st h Q) := tA_if mB_X10_set dX10_set_1 (fun _ _ _ _ => rfl) rfl
theorem rX10_set_4 : tA sc iX10_set 4 [l0, vI x, l2, l3] st h Q = tA sc iX10_set 5 [l0, vI x, l2, l3] (vI x :: st) h Q := tA_pure mB_X10_set dX10_set_4 rfl
theorem rX10_set_5 : tA sc iX10_set 5 ls st h Q = tA sc iX10_set 6 ls (vI (4) :: st) h Q := tA_pure mB_X10_set dX10_set_5 rfl
theorem rX10_set_6 : tA sc iX10_set 6 ls (vI y :: vI x :: st) h Q = (if y ≤ x then tA sc iX10_set 22 ls st h Q else tA sc iX10_set 9 ls st h Q) := tA_if mB_X10_set dX10_set_6 (fun _ _ _ _ => rfl) rfl
theorem rX10_set_9 : tA sc iX10_set 9 [l0, l1, vI x, l3] st h Q = tA sc iX10_set 10 [l0, l1, vI x, l3] (vI x :: st) h Q := tA_pure mB_X10_set dX10_set_9 rfl
theorem rX10_set_10 : tA sc iX10_set 10 ls (vI x :: st) h Q = (if x < 0 then tA sc iX10_set 22 ls st h Q else tA sc iX10_set 13 ls st h Q) := tA_if mB_X10_set dX10_set_10 (fun _ _ _ _ => rfl) rfl
theorem rX10_set_13 : tA sc iX10_set 13 [l0, l1, vI x, l3] st h Q = tA sc iX10_set 14 [l0, l1, vI x, l3] (vI x :: st) h Q := tA_pure mB_X10_set dX10_set_13 rfl
theorem rX10_set_14 : tA sc iX10_set 14 ls st h Q = tA sc iX10_set 17 ls (vR (some 1000000002) :: st) h Q := tA_hp mB_X10_set dX10_set_14 (fun _ _ _ _ => rfl) (fun _ _ _ => rfl) rfl (fun _ _ => rfl) rfl
theorem rX10_set_17 : tA sc iX10_set 17 [l0, vI x, l2, l3] st h Q = tA sc iX10_set 18 [l0, vI x, l2, l3] (vI x :: st) h Q := tA_pure mB_X10_set dX10_set_17 rfl
theorem rX10_set_18 : tA sc iX10_set 18 ls (vI j :: vR (some a) :: st) h Q = oz (tald sc h 0 a j) (fun v => tA sc iX10_set 19 ls (vI v :: st) h Q) := tA_iald mB_X10_set dX10_set_18
theorem rX10_set_19 : tA sc iX10_set 19 ls (vI y :: vI x :: st) h Q = (if x ≤ y then tA sc iX10_set 24 ls st h Q else tA sc iX10_set 22 ls st h Q) := tA_if mB_X10_set dX10_set_19 (fun _ _ _ _ => rfl) rfl
theorem rX10_set_22 : tA sc iX10_set 22 ls st h Q = tA sc iX10_set 23 ls (vI (-1) :: st) h Q := tA_pure mB_X10_set dX10_set_22 rfl
theorem rX10_set_23 : tA sc iX10_set 23 ls [vI x] h Q = Q (some (vI x)) h := tA_ret mB_X10_set dX10_set_23 (fun _ _ _ _ => rfl) (fun _ _ _ => rfl) (fun _ _ _ _ _ => rfl) rfl rfl
theorem rX10_set_24 : tA sc iX10_set 24 [vR r, l1, l2, l3] st h Q = tA sc iX10_set 25 [vR r, l1, l2, l3] (vR r :: st) h Q := tA_pure mB_X10_set dX10_set_24 rfl
theorem rX10_set_25 : tA sc iX10_set 25 ls (vR (some o) :: st) h Q = oz (tget h o [10] 0) (fun v => tA sc iX10_set 28 ls (v :: st) h Q) := tA_get mB_X10_set mO_X10_set dX10_set_25 fT_10_10
theorem rX10_set_28 : tA sc iX10_set 28 ls (vR (some o) :: st) h Q = oz (tget h o [9] 5) (fun v => tA sc iX10_set 31 ls (v :: st) h Q) := tA_get mB_X10_set mO_X10_set dX10_set_28 fT_10_119
theorem rX10_set_31 : tA sc iX10_set 31 [l0, vI x, l2, l3] st h Q = tA sc iX10_set 32 [l0, vI x, l2, l3] (vI x :: st) h Q := tA_pure mB_X10_set dX10_set_31 rfl
theorem rX10_set_32 : tA sc iX10_set 32 ls (vI j :: vR (some a) :: st) h Q = oz (tald sc h 0 a j) (fun v => tA sc iX10_set 33 ls (vI v :: st) h Q) := tA_iald mB_X10_set dX10_set_32
theorem rX10_set_33 : tA sc iX10_set 33 [l0, l1, l2, l3] (vI x :: st) h Q = tA sc iX10_set 34 [l0, l1, tclr l2, vI x] st h Q := tA_pure mB_X10_set dX10_set_33 rfl
theorem rX10_set_34 : tA sc iX10_set 34 [vR r, l1, l2, l3] st h Q = tA sc iX10_set 35 [vR r, l1, l2, l3] (vR r :: st) h Q := tA_pure mB_X10_set dX10_set_34 rfl
theorem rX10_set_35 : tA sc iX10_set 35 ls (vR (some o) :: st) h Q = oz (tget h o [10] 0) (fun v => tA sc iX10_set 38 ls (v :: st) h Q) := tA_get mB_X10_set mO_X10_set dX10_set_35 fT_10_10
theorem rX10_set_38 : tA sc iX10_set 38 ls (vR (some o) :: st) h Q = oz (tget h o [9] 5) (fun v => tA sc iX10_set 41 ls (v :: st) h Q) := tA_get mB_X10_set mO_X10_set dX10_set_38 fT_10_119
theorem rX10_set_41 : tA sc iX10_set 41 [l0, vI x, l2, l3] st h Q = tA sc iX10_set 42 [l0, vI x, l2, l3] (vI x :: st) h Q := tA_pure mB_X10_set dX10_set_41 rfl
theorem rX10_set_42 : tA sc iX10_set 42 [l0, l1, vI x, l3] st h Q = tA sc iX10_set 43 [l0, l1, vI x, l3] (vI x :: st) h Q := tA_pure mB_X10_set dX10_set_42 rfl
theorem rX10_set_43 : tA sc iX10_set 43 ls (vI x :: vI j :: vR (some a) :: st) h Q = oz (tasi h a j x) (fun h' => tA sc iX10_set 44 ls st h' Q) := tA_iast mB_X10_set dX10_set_43
theorem rX10_set_44 : tA sc iX10_set 44 [l0, l1, l2, vI x] st h Q = tA sc iX10_set 45 [l0, l1, l2, vI x] (vI x :: st) h Q := tA_pure mB_X10_set dX10_set_44 rfl
theorem rX10_set_45 : tA sc iX10_set 45 ls [vI x] h Q = Q (some (vI x)) h := tA_ret mB_X10_set dX10_set_45 (fun _ _ _ _ => rfl) (fun _ _ _ => rfl) (fun _ _ _ _ _ => rfl) rfl rfl
theorem mB_X10_sayer : mB iX10_sayer = cX10_sayer := rfl
theorem mO_X10_sayer : mO iX10_sayer = 10 := rfl
theorem rX10_sayer_0 : tA sc iX10_sayer 0 [l0, vI x, l2] st h Q = tA sc iX10_sayer 1 [l0, vI x, l2] (vI x :: st) h Q := tA_pure mB_X10_sayer dX10_sayer_0 rfl
theorem rX10_sayer_1 : tA sc iX10_sayer 1 ls [vI p0] h Q = tA sc iX10_isKind 0 [vI p0] [] h (fun v h1 => tA sc iX10_sayer 4 ls (tpu v []) h1 Q) := tA_cS mB_X10_sayer mO_X10_sayer dX10_sayer_1 cT_10_122 ⟨Nat.le_of_ble_eq_true rfl, Nat.le_of_ble_eq_true rfl⟩ rfl rfl rfl rfl
theorem rX10_sayer_4 : tA sc iX10_sayer 4 ls (vI x :: st) h Q = (if x = 0 then tA sc iX10_sayer 14 ls st h Q else tA sc iX10_sayer 7 ls st h Q) := tA_if mB_X10_sayer dX10_sayer_4 (fun _ _ _ _ => rfl) rfl
theorem rX10_sayer_7 : tA sc iX10_sayer 7 [l0, l1, vI x] st h Q = tA sc iX10_sayer 8 [l0, l1, vI x] (vI x :: st) h Q := tA_pure mB_X10_sayer dX10_sayer_7 rfl
theorem rX10_sayer_8 : tA sc iX10_sayer 8 ls [vI p0] h Q = tA sc iX10_isA 0 [vI p0] [] h (fun v h1 => tA sc iX10_sayer 11 ls (tpu v []) h1 Q) := tA_cS mB_X10_sayer mO_X10_sayer dX10_sayer_8 cT_10_125 ⟨Nat.le_of_ble_eq_true rfl, Nat.le_of_ble_eq_true rfl⟩ rfl rfl rfl rfl
theorem rX10_sayer_11 : tA sc iX10_sayer 11 ls (vI x :: st) h Q = (if ¬ x = 0 then tA sc iX10_sayer 16 ls st h Q else tA sc iX10_sayer 14 ls st h Q) := tA_if mB_X10_sayer dX10_sayer_11 (fun _ _ _ _ => rfl) rfl
theorem rX10_sayer_14 : tA sc iX10_sayer 14 ls st h Q = tA sc iX10_sayer 15 ls (vI (-1) :: st) h Q := tA_pure mB_X10_sayer dX10_sayer_14 rfl
theorem rX10_sayer_15 : tA sc iX10_sayer 15 ls [vI x] h Q = Q (some (vI x)) h := tA_ret mB_X10_sayer dX10_sayer_15 (fun _ _ _ _ => rfl) (fun _ _ _ => rfl) (fun _ _ _ _ _ => rfl) rfl rfl
theorem rX10_sayer_16 : tA sc iX10_sayer 16 [vR r, l1, l2] st h Q = tA sc iX10_sayer 17 [vR r, l1, l2] (vR r :: st) h Q := tA_pure mB_X10_sayer dX10_sayer_16 rfl
theorem rX10_sayer_17 : tA sc iX10_sayer 17 ls (vR (some o) :: st) h Q = oz (tget h o [10] 0) (fun v => tA sc iX10_sayer 20 ls (v :: st) h Q) := tA_get mB_X10_sayer mO_X10_sayer dX10_sayer_17 fT_10_10
theorem rX10_sayer_20 : tA sc iX10_sayer 20 ls (vR (some o) :: st) h Q = oz (tget h o [9] 10) (fun v => tA sc iX10_sayer 23 ls (v :: st) h Q) := tA_get mB_X10_sayer mO_X10_sayer dX10_sayer_20 fT_10_74
theorem rX10_sayer_23 : tA sc iX10_sayer 23 ls st h Q = tA sc iX10_sayer 24 ls (vI (5) :: st) h Q := tA_pure mB_X10_sayer dX10_sayer_23 rfl
theorem rX10_sayer_24 : tA sc iX10_sayer 24 ls (vI y :: vI x :: st) h Q = (if x < y then tA sc iX10_sayer 30 ls st h Q else tA sc iX10_sayer 27 ls st h Q) := tA_if mB_X10_sayer dX10_sayer_24 (fun _ _ _ _ => rfl) rfl
theorem rX10_sayer_27 : tA sc iX10_sayer 27 ls st h Q = tA sc iX10_sayer 29 ls (vI (-2) :: st) h Q := tA_pure mB_X10_sayer dX10_sayer_27 rfl
theorem rX10_sayer_29 : tA sc iX10_sayer 29 ls [vI x] h Q = Q (some (vI x)) h := tA_ret mB_X10_sayer dX10_sayer_29 (fun _ _ _ _ => rfl) (fun _ _ _ => rfl) (fun _ _ _ _ _ => rfl) rfl rfl
theorem rX10_sayer_30 : tA sc iX10_sayer 30 [vR r, l1, l2] st h Q = tA sc iX10_sayer 31 [vR r, l1, l2] (vR r :: st) h Q := tA_pure mB_X10_sayer dX10_sayer_30 rfl
theorem rX10_sayer_31 : tA sc iX10_sayer 31 ls (vR (some o) :: st) h Q = oz (tget h o [10] 0) (fun v => tA sc iX10_sayer 34 ls (v :: st) h Q) := tA_get mB_X10_sayer mO_X10_sayer dX10_sayer_31 fT_10_10
theorem rX10_sayer_34 : tA sc iX10_sayer 34 [l0, vI x, l2] st h Q = tA sc iX10_sayer 35 [l0, vI x, l2] (vI x :: st) h Q := tA_pure mB_X10_sayer dX10_sayer_34 rfl
theorem rX10_sayer_35 : tA sc iX10_sayer 35 [vR r, l1, l2] st h Q = tA sc iX10_sayer 36 [vR r, l1, l2] (vR r :: st) h Q := tA_pure mB_X10_sayer dX10_sayer_35 rfl
theorem rX10_sayer_36 : tA sc iX10_sayer 36 ls (vR (some o) :: st) h Q = oz (tget h o [10] 0) (fun v => tA sc iX10_sayer 39 ls (v :: st) h Q) := tA_get mB_X10_sayer mO_X10_sayer dX10_sayer_36 fT_10_10
theorem rX10_sayer_39 : tA sc iX10_sayer 39 ls (vR (some o) :: st) h Q = oz (tget h o [9] 10) (fun v => tA sc iX10_sayer 42 ls (v :: st) h Q) := tA_get mB_X10_sayer mO_X10_sayer dX10_sayer_39 fT_10_74
theorem rX10_sayer_42 : tA sc iX10_sayer 42 [l0, l1, vI x] st h Q = tA sc iX10_sayer 43 [l0, l1, vI x] (vI x :: st) h Q := tA_pure mB_X10_sayer dX10_sayer_42 rfl
theorem rX10_sayer_43 : tA sc iX10_sayer 43 ls [vI p2, vI p1, vI p0, s0] h Q = tA sc iX10_thingOf 0 [vI p0, vI p1, vI p2] [] h (fun v h1 => tA sc iX10_sayer 46 ls (tpu v [s0]) h1 Q) := tA_cS mB_X10_sayer mO_X10_sayer dX10_sayer_43 cT_10_128 ⟨Nat.le_of_ble_eq_true rfl, Nat.le_of_ble_eq_true rfl⟩ rfl rfl rfl rfl
theorem rX10_sayer_46 (hci : tcl h o = some 9) : tA sc iX10_sayer 46 ls [vR n0, vR (some o)] h Q = tA sc iX9_addSayer 0 [vR (some o), vR n0, vU] [] h (fun v h1 => tA sc iX10_sayer 49 ls (tpu v []) h1 Q) := tA_cV mB_X10_sayer mO_X10_sayer dX10_sayer_46 cT_10_132 rfl (Nat.le_of_ble_eq_true rfl) rfl rfl rfl hci
theorem rX10_sayer_49 : tA sc iX10_sayer 49 ls [vI x] h Q = Q (some (vI x)) h := tA_ret mB_X10_sayer dX10_sayer_49 (fun _ _ _ _ => rfl) (fun _ _ _ => rfl) (fun _ _ _ _ _ => rfl) rfl rfl
theorem mB_X10_sayerOf : mB iX10_sayerOf = cX10_sayerOf := rfl
theorem mO_X10_sayerOf : mO iX10_sayerOf = 10 := rfl
theorem rX10_sayerOf_0 : tA sc iX10_sayerOf 0 [vR r, l1, l2, l3] st h Q = tA sc iX10_sayerOf 1 [vR r, l1, l2, l3] (vR r :: st) h Q := tA_pure mB_X10_sayerOf dX10_sayerOf_0 rfl
theorem rX10_sayerOf_1 : tA sc iX10_sayerOf 1 ls (vR (some o) :: st) h Q = oz (tget h o [10] 0) (fun v => tA sc iX10_sayerOf 4 ls (v :: st) h Q) := tA_get mB_X10_sayerOf mO_X10_sayerOf dX10_sayerOf_1 fT_10_10
theorem rX10_sayerOf_4 : tA sc iX10_sayerOf 4 [l0, vI x, l2, l3] st h Q = tA sc iX10_sayerOf 5 [l0, vI x, l2, l3] (vI x :: st) h Q := tA_pure mB_X10_sayerOf dX10_sayerOf_4 rfl
theorem rX10_sayerOf_5 (hci : tcl h o = some 9) : tA sc iX10_sayerOf 5 ls [vI p0, vR (some o)] h Q = tA sc iX9_sayerAt 0 [vR (some o), vI p0] [] h (fun v h1 => tA sc iX10_sayerOf 8 ls (tpu v []) h1 Q) := tA_cV mB_X10_sayerOf mO_X10_sayerOf dX10_sayerOf_5 cT_10_136 rfl (Nat.le_of_ble_eq_true rfl) rfl rfl rfl hci
theorem rX10_sayerOf_8 : tA sc iX10_sayerOf 8 [l0, l1, l2, l3] (vR r :: st) h Q = tA sc iX10_sayerOf 9 [l0, l1, tclr l2, vR r] st h Q := tA_pure mB_X10_sayerOf dX10_sayerOf_8 rfl
theorem rX10_sayerOf_9 : tA sc iX10_sayerOf 9 [l0, l1, l2, vR r] st h Q = tA sc iX10_sayerOf 10 [l0, l1, l2, vR r] (vR r :: st) h Q := tA_pure mB_X10_sayerOf dX10_sayerOf_9 rfl
theorem rX10_sayerOf_10n : tA sc iX10_sayerOf 10 ls (vR none :: st) h Q = tA sc iX10_sayerOf 13 ls st h Q := tA_jump mB_X10_sayerOf dX10_sayerOf_10 (fun _ _ _ _ => rfl) rfl
theorem rX10_sayerOf_10s : tA sc iX10_sayerOf 10 ls (vR (some o) :: st) h Q = tA sc iX10_sayerOf 15 ls st h Q := tA_jump mB_X10_sayerOf dX10_sayerOf_10 (fun _ _ _ _ => rfl) rfl
theorem rX10_sayerOf_13 : tA sc iX10_sayerOf 13 ls st h Q = tA sc iX10_sayerOf 14 ls (vI (-1) :: st) h Q := tA_pure mB_X10_sayerOf dX10_sayerOf_13 rfl
theorem rX10_sayerOf_14 : tA sc iX10_sayerOf 14 ls [vI x] h Q = Q (some (vI x)) h := tA_ret mB_X10_sayerOf dX10_sayerOf_14 (fun _ _ _ _ => rfl) (fun _ _ _ => rfl) (fun _ _ _ _ _ => rfl) rfl rfl
theorem rX10_sayerOf_15 : tA sc iX10_sayerOf 15 [l0, l1, vI x, l3] st h Q = tA sc iX10_sayerOf 16 [l0, l1, vI x, l3] (vI x :: st) h Q := tA_pure mB_X10_sayerOf dX10_sayerOf_15 rfl
theorem rX10_sayerOf_16 : tA sc iX10_sayerOf 16 ls (vI x :: st) h Q = tA sc iX10_sayerOf (tswp x 0 [48, 53, 58, 71] 80) ls st h Q := tA_sw mB_X10_sayerOf dX10_sayerOf_16 rfl rfl rfl
theorem rX10_sayerOf_48 : tA sc iX10_sayerOf 48 [l0, l1, l2, vR r] st h Q = tA sc iX10_sayerOf 49 [l0, l1, l2, vR r] (vR r :: st) h Q := tA_pure mB_X10_sayerOf dX10_sayerOf_48 rfl
theorem rX10_sayerOf_49 : tA sc iX10_sayerOf 49 ls (vR (some o) :: st) h Q = oz (tget h o [0, 2, 3, 4, 6, 7] 0) (fun v => tA sc iX10_sayerOf 52 ls (v :: st) h Q) := tA_get mB_X10_sayerOf mO_X10_sayerOf dX10_sayerOf_49 fT_10_140
theorem rX10_sayerOf_52 : tA sc iX10_sayerOf 52 ls [vI x] h Q = Q (some (vI x)) h := tA_ret mB_X10_sayerOf dX10_sayerOf_52 (fun _ _ _ _ => rfl) (fun _ _ _ => rfl) (fun _ _ _ _ _ => rfl) rfl rfl
theorem rX10_sayerOf_53 : tA sc iX10_sayerOf 53 [l0, l1, l2, vR r] st h Q = tA sc iX10_sayerOf 54 [l0, l1, l2, vR r] (vR r :: st) h Q := tA_pure mB_X10_sayerOf dX10_sayerOf_53 rfl
theorem rX10_sayerOf_54 : tA sc iX10_sayerOf 54 ls (vR (some o) :: st) h Q = oz (tget h o [0, 2, 3, 4, 6, 7] 2) (fun v => tA sc iX10_sayerOf 57 ls (v :: st) h Q) := tA_get mB_X10_sayerOf mO_X10_sayerOf dX10_sayerOf_54 fT_10_145
theorem rX10_sayerOf_57 : tA sc iX10_sayerOf 57 ls [vI x] h Q = Q (some (vI x)) h := tA_ret mB_X10_sayerOf dX10_sayerOf_57 (fun _ _ _ _ => rfl) (fun _ _ _ => rfl) (fun _ _ _ _ _ => rfl) rfl rfl
theorem rX10_sayerOf_58 : tA sc iX10_sayerOf 58 [vR r, l1, l2, l3] st h Q = tA sc iX10_sayerOf 59 [vR r, l1, l2, l3] (vR r :: st) h Q := tA_pure mB_X10_sayerOf dX10_sayerOf_58 rfl
theorem rX10_sayerOf_59 : tA sc iX10_sayerOf 59 ls (vR (some o) :: st) h Q = oz (tget h o [10] 0) (fun v => tA sc iX10_sayerOf 62 ls (v :: st) h Q) := tA_get mB_X10_sayerOf mO_X10_sayerOf dX10_sayerOf_59 fT_10_10
theorem rX10_sayerOf_62 : tA sc iX10_sayerOf 62 ls (vR (some o) :: st) h Q = oz (tget h o [9] 9) (fun v => tA sc iX10_sayerOf 65 ls (v :: st) h Q) := tA_get mB_X10_sayerOf mO_X10_sayerOf dX10_sayerOf_62 fT_10_148
theorem rX10_sayerOf_65 : tA sc iX10_sayerOf 65 [l0, vI x, l2, l3] st h Q = tA sc iX10_sayerOf 66 [l0, vI x, l2, l3] (vI x :: st) h Q := tA_pure mB_X10_sayerOf dX10_sayerOf_65 rfl
theorem rX10_sayerOf_66 : tA sc iX10_sayerOf 66 ls (vI j :: vR (some a) :: st) h Q = oz (tald sc h 0 a j) (fun v => tA sc iX10_sayerOf 67 ls (vI v :: st) h Q) := tA_iald mB_X10_sayerOf dX10_sayerOf_66
theorem rX10_sayerOf_67 : tA sc iX10_sayerOf 67 ls st h Q = tA sc iX10_sayerOf 69 ls (vI (100000) :: st) h Q := tA_pure mB_X10_sayerOf dX10_sayerOf_67 rfl
theorem rX10_sayerOf_69 : tA sc iX10_sayerOf 69 ls (vI y :: vI x :: st) h Q = tA sc iX10_sayerOf 70 ls (vI (x + y) :: st) h Q := tA_pure mB_X10_sayerOf dX10_sayerOf_69 rfl
theorem rX10_sayerOf_70 : tA sc iX10_sayerOf 70 ls [vI x] h Q = Q (some (vI x)) h := tA_ret mB_X10_sayerOf dX10_sayerOf_70 (fun _ _ _ _ => rfl) (fun _ _ _ => rfl) (fun _ _ _ _ _ => rfl) rfl rfl
theorem rX10_sayerOf_71 : tA sc iX10_sayerOf 71 [vR r, l1, l2, l3] st h Q = tA sc iX10_sayerOf 72 [vR r, l1, l2, l3] (vR r :: st) h Q := tA_pure mB_X10_sayerOf dX10_sayerOf_71 rfl
theorem rX10_sayerOf_72 : tA sc iX10_sayerOf 72 ls (vR (some o) :: st) h Q = oz (tget h o [10] 0) (fun v => tA sc iX10_sayerOf 75 ls (v :: st) h Q) := tA_get mB_X10_sayerOf mO_X10_sayerOf dX10_sayerOf_72 fT_10_10
theorem rX10_sayerOf_75 : tA sc iX10_sayerOf 75 [l0, vI x, l2, l3] st h Q = tA sc iX10_sayerOf 76 [l0, vI x, l2, l3] (vI x :: st) h Q := tA_pure mB_X10_sayerOf dX10_sayerOf_75 rfl
theorem rX10_sayerOf_76 (hci : tcl h o = some 9) : tA sc iX10_sayerOf 76 ls [vI p0, vR (some o)] h Q = tA sc iX9_sayingsOf 0 [vR (some o), vI p0, vU, vU] [] h (fun v h1 => tA sc iX10_sayerOf 79 ls (tpu v []) h1 Q) := tA_cV mB_X10_sayerOf mO_X10_sayerOf dX10_sayerOf_76 cT_10_152 rfl (Nat.le_of_ble_eq_true rfl) rfl rfl rfl hci
theorem rX10_sayerOf_79 : tA sc iX10_sayerOf 79 ls [vI x] h Q = Q (some (vI x)) h := tA_ret mB_X10_sayerOf dX10_sayerOf_79 (fun _ _ _ _ => rfl) (fun _ _ _ => rfl) (fun _ _ _ _ _ => rfl) rfl rfl
theorem rX10_sayerOf_80 : tA sc iX10_sayerOf 80 ls st h Q = tA sc iX10_sayerOf 81 ls (vI (-1) :: st) h Q := tA_pure mB_X10_sayerOf dX10_sayerOf_80 rfl
theorem rX10_sayerOf_81 : tA sc iX10_sayerOf 81 ls [vI x] h Q = Q (some (vI x)) h := tA_ret mB_X10_sayerOf dX10_sayerOf_81 (fun _ _ _ _ => rfl) (fun _ _ _ => rfl) (fun _ _ _ _ _ => rfl) rfl rfl
theorem mB_X10_mind : mB iX10_mind = cX10_mind := rfl
theorem mO_X10_mind : mO iX10_mind = 10 := rfl
theorem rX10_mind_0 : tA sc iX10_mind 0 [vR r, l1, l2, l3, l4] st h Q = tA sc iX10_mind 1 [vR r, l1, l2, l3, l4] (vR r :: st) h Q := tA_pure mB_X10_mind dX10_mind_0 rfl
theorem rX10_mind_1 : tA sc iX10_mind 1 ls (vR (some o) :: st) h Q = oz (tget h o [10] 0) (fun v => tA sc iX10_mind 4 ls (v :: st) h Q) := tA_get mB_X10_mind mO_X10_mind dX10_mind_1 fT_10_10
theorem rX10_mind_4 : tA sc iX10_mind 4 [l0, vI x, l2, l3, l4] st h Q = tA sc iX10_mind 5 [l0, vI x, l2, l3, l4] (vI x :: st) h Q := tA_pure mB_X10_mind dX10_mind_4 rfl
theorem rX10_mind_5 (hci : tcl h o = some 9) : tA sc iX10_mind 5 ls [vI p0, vR (some o)] h Q = tA sc iX9_sayerAt 0 [vR (some o), vI p0] [] h (fun v h1 => tA sc iX10_mind 8 ls (tpu v []) h1 Q) := tA_cV mB_X10_mind mO_X10_mind dX10_mind_5 cT_10_136 rfl (Nat.le_of_ble_eq_true rfl) rfl rfl rfl hci
theorem rX10_mind_8 : tA sc iX10_mind 8 [l0, l1, l2, l3, l4] (vR r :: st) h Q = tA sc iX10_mind 10 [l0, l1, l2, tclr l3, vR r] st h Q := tA_pure mB_X10_mind dX10_mind_8 rfl
theorem rX10_mind_10 : tA sc iX10_mind 10 [l0, l1, l2, l3, vR r] st h Q = tA sc iX10_mind 12 [l0, l1, l2, l3, vR r] (vR r :: st) h Q := tA_pure mB_X10_mind dX10_mind_10 rfl
theorem rX10_mind_12n : tA sc iX10_mind 12 ls (vR none :: st) h Q = tA sc iX10_mind 29 ls st h Q := tA_jump mB_X10_mind dX10_mind_12 (fun _ _ _ _ => rfl) rfl
theorem rX10_mind_12s : tA sc iX10_mind 12 ls (vR (some o) :: st) h Q = tA sc iX10_mind 15 ls st h Q := tA_jump mB_X10_mind dX10_mind_12 (fun _ _ _ _ => rfl) rfl
theorem rX10_mind_15 : tA sc iX10_mind 15 [l0, l1, vI x, l3, l4] st h Q = tA sc iX10_mind 16 [l0, l1, vI x, l3, l4] (vI x :: st) h Q := tA_pure mB_X10_mind dX10_mind_15 rfl
theorem rX10_mind_16 : tA sc iX10_mind 16 ls [vI p0] h Q = tA sc iX10_isKind 0 [vI p0] [] h (fun v h1 => tA sc iX10_mind 19 ls (tpu v []) h1 Q) := tA_cS mB_X10_mind mO_X10_mind dX10_mind_16 cT_10_122 ⟨Nat.le_of_ble_eq_true rfl, Nat.le_of_ble_eq_true rfl⟩ rfl rfl rfl rfl
theorem rX10_mind_19 : tA sc iX10_mind 19 ls (vI x :: st) h Q = (if x = 0 then tA sc iX10_mind 29 ls st h Q else tA sc iX10_mind 22 ls st h Q) := tA_if mB_X10_mind dX10_mind_19 (fun _ _ _ _ => rfl) rfl
theorem rX10_mind_22 : tA sc iX10_mind 22 [l0, l1, l2, vI x, l4] st h Q = tA sc iX10_mind 23 [l0, l1, l2, vI x, l4] (vI x :: st) h Q := tA_pure mB_X10_mind dX10_mind_22 rfl
theorem rX10_mind_23 : tA sc iX10_mind 23 ls [vI p0] h Q = tA sc iX10_isA 0 [vI p0] [] h (fun v h1 => tA sc iX10_mind 26 ls (tpu v []) h1 Q) := tA_cS mB_X10_mind mO_X10_mind dX10_mind_23 cT_10_125 ⟨Nat.le_of_ble_eq_true rfl, Nat.le_of_ble_eq_true rfl⟩ rfl rfl rfl rfl
theorem rX10_mind_26 : tA sc iX10_mind 26 ls (vI x :: st) h Q = (if ¬ x = 0 then tA sc iX10_mind 31 ls st h Q else tA sc iX10_mind 29 ls st h Q) := tA_if mB_X10_mind dX10_mind_26 (fun _ _ _ _ => rfl) rfl
theorem rX10_mind_29 : tA sc iX10_mind 29 ls st h Q = tA sc iX10_mind 30 ls (vI (-1) :: st) h Q := tA_pure mB_X10_mind dX10_mind_29 rfl
theorem rX10_mind_30 : tA sc iX10_mind 30 ls [vI x] h Q = Q (some (vI x)) h := tA_ret mB_X10_mind dX10_mind_30 (fun _ _ _ _ => rfl) (fun _ _ _ => rfl) (fun _ _ _ _ _ => rfl) rfl rfl
theorem rX10_mind_31 : tA sc iX10_mind 31 [vR r, l1, l2, l3, l4] st h Q = tA sc iX10_mind 32 [vR r, l1, l2, l3, l4] (vR r :: st) h Q := tA_pure mB_X10_mind dX10_mind_31 rfl
theorem rX10_mind_32 : tA sc iX10_mind 32 ls (vR (some o) :: st) h Q = oz (tget h o [10] 0) (fun v => tA sc iX10_mind 35 ls (v :: st) h Q) := tA_get mB_X10_mind mO_X10_mind dX10_mind_32 fT_10_10
theorem rX10_mind_35 : tA sc iX10_mind 35 ls (vR (some o) :: st) h Q = oz (tget h o [9] 8) (fun v => tA sc iX10_mind 38 ls (v :: st) h Q) := tA_get mB_X10_mind mO_X10_mind dX10_mind_35 fT_10_155
theorem rX10_mind_38 : tA sc iX10_mind 38 [l0, vI x, l2, l3, l4] st h Q = tA sc iX10_mind 39 [l0, vI x, l2, l3, l4] (vI x :: st) h Q := tA_pure mB_X10_mind dX10_mind_38 rfl
theorem rX10_mind_39 : tA sc iX10_mind 39 [l0, l1, vI x, l3, l4] st h Q = tA sc iX10_mind 40 [l0, l1, vI x, l3, l4] (vI x :: st) h Q := tA_pure mB_X10_mind dX10_mind_39 rfl
theorem rX10_mind_40 : tA sc iX10_mind 40 [l0, vI x, l2, l3, l4] st h Q = tA sc iX10_mind 41 [l0, vI x, l2, l3, l4] (vI x :: st) h Q := tA_pure mB_X10_mind dX10_mind_40 rfl
theorem rX10_mind_41 : tA sc iX10_mind 41 [l0, l1, l2, vI x, l4] st h Q = tA sc iX10_mind 42 [l0, l1, l2, vI x, l4] (vI x :: st) h Q := tA_pure mB_X10_mind dX10_mind_41 rfl
theorem rX10_mind_42 : tA sc iX10_mind 42 ls [vI p2, vI p1, vI p0, s0, s1] h Q = tA sc iX10_thingOf 0 [vI p0, vI p1, vI p2] [] h (fun v h1 => tA sc iX10_mind 45 ls (tpu v [s0, s1]) h1 Q) := tA_cS mB_X10_mind mO_X10_mind dX10_mind_42 cT_10_128 ⟨Nat.le_of_ble_eq_true rfl, Nat.le_of_ble_eq_true rfl⟩ rfl rfl rfl rfl
theorem rX10_mind_45 : tA sc iX10_mind 45 ls (vR r :: vI j :: vR (some a) :: st) h Q = oz (tasr h a j r) (fun h' => tA sc iX10_mind 46 ls st h' Q) := tA_aast mB_X10_mind dX10_mind_45
theorem rX10_mind_46 : tA sc iX10_mind 46 [l0, l1, l2, l3, vR r] st h Q = tA sc iX10_mind 48 [l0, l1, l2, l3, vR r] (vR r :: st) h Q := tA_pure mB_X10_mind dX10_mind_46 rfl
theorem rX10_mind_48 : tA sc iX10_mind 48 ls (vR (some o) :: st) h Q = oz (tget h o [0, 2, 3, 4, 6, 7] 0) (fun v => tA sc iX10_mind 51 ls (v :: st) h Q) := tA_get mB_X10_mind mO_X10_mind dX10_mind_48 fT_10_140
theorem rX10_mind_51 : tA sc iX10_mind 51 ls [vI x] h Q = Q (some (vI x)) h := tA_ret mB_X10_mind dX10_mind_51 (fun _ _ _ _ => rfl) (fun _ _ _ => rfl) (fun _ _ _ _ _ => rfl) rfl rfl
theorem mB_X10_purse : mB iX10_purse = cX10_purse := rfl
theorem mO_X10_purse : mO iX10_purse = 10 := rfl
theorem rX10_purse_0 : tA sc iX10_purse 0 [vR r, l1, l2, l3] st h Q = tA sc iX10_purse 1 [vR r, l1, l2, l3] (vR r :: st) h Q := tA_pure mB_X10_purse dX10_purse_0 rfl
theorem rX10_purse_1 : tA sc iX10_purse 1 ls (vR (some o) :: st) h Q = oz (tget h o [10] 0) (fun v => tA sc iX10_purse 4 ls (v :: st) h Q) := tA_get mB_X10_purse mO_X10_purse dX10_purse_1 fT_10_10
theorem rX10_purse_4 : tA sc iX10_purse 4 [l0, vI x, l2, l3] st h Q = tA sc iX10_purse 5 [l0, vI x, l2, l3] (vI x :: st) h Q := tA_pure mB_X10_purse dX10_purse_4 rfl
theorem rX10_purse_5 (hci : tcl h o = some 9) : tA sc iX10_purse 5 ls [vI p0, vR (some o)] h Q = tA sc iX9_sayerAt 0 [vR (some o), vI p0] [] h (fun v h1 => tA sc iX10_purse 8 ls (tpu v []) h1 Q) := tA_cV mB_X10_purse mO_X10_purse dX10_purse_5 cT_10_136 rfl (Nat.le_of_ble_eq_true rfl) rfl rfl rfl hci
theorem rX10_purse_8n : tA sc iX10_purse 8 ls (vR none :: st) h Q = tA sc iX10_purse 25 ls st h Q := tA_jump mB_X10_purse dX10_purse_8 (fun _ _ _ _ => rfl) rfl
theorem rX10_purse_8s : tA sc iX10_purse 8 ls (vR (some o) :: st) h Q = tA sc iX10_purse 11 ls st h Q := tA_jump mB_X10_purse dX10_purse_8 (fun _ _ _ _ => rfl) rfl
theorem rX10_purse_11 : tA sc iX10_purse 11 [l0, l1, vI x, l3] st h Q = tA sc iX10_purse 12 [l0, l1, vI x, l3] (vI x :: st) h Q := tA_pure mB_X10_purse dX10_purse_11 rfl
theorem rX10_purse_12 : tA sc iX10_purse 12 ls st h Q = tA sc iX10_purse 15 ls (vI (-9999) :: st) h Q := tA_pure mB_X10_purse dX10_purse_12 rfl
theorem rX10_purse_15 : tA sc iX10_purse 15 ls (vI y :: vI x :: st) h Q = (if x < y then tA sc iX10_purse 25 ls st h Q else tA sc iX10_purse 18 ls st h Q) := tA_if mB_X10_purse dX10_purse_15 (fun _ _ _ _ => rfl) rfl
theorem rX10_purse_18 : tA sc iX10_purse 18 [l0, l1, vI x, l3] st h Q = tA sc iX10_purse 19 [l0, l1, vI x, l3] (vI x :: st) h Q := tA_pure mB_X10_purse dX10_purse_18 rfl
theorem rX10_purse_19 : tA sc iX10_purse 19 ls st h Q = tA sc iX10_purse 22 ls (vI (9999) :: st) h Q := tA_pure mB_X10_purse dX10_purse_19 rfl
theorem rX10_purse_22 : tA sc iX10_purse 22 ls (vI y :: vI x :: st) h Q = (if x ≤ y then tA sc iX10_purse 27 ls st h Q else tA sc iX10_purse 25 ls st h Q) := tA_if mB_X10_purse dX10_purse_22 (fun _ _ _ _ => rfl) rfl
theorem rX10_purse_25 : tA sc iX10_purse 25 ls st h Q = tA sc iX10_purse 26 ls (vI (-1) :: st) h Q := tA_pure mB_X10_purse dX10_purse_25 rfl
theorem rX10_purse_26 : tA sc iX10_purse 26 ls [vI x] h Q = Q (some (vI x)) h := tA_ret mB_X10_purse dX10_purse_26 (fun _ _ _ _ => rfl) (fun _ _ _ => rfl) (fun _ _ _ _ _ => rfl) rfl rfl
theorem rX10_purse_27 : tA sc iX10_purse 27 [vR r, l1, l2, l3] st h Q = tA sc iX10_purse 28 [vR r, l1, l2, l3] (vR r :: st) h Q := tA_pure mB_X10_purse dX10_purse_27 rfl
theorem rX10_purse_28 : tA sc iX10_purse 28 ls (vR (some o) :: st) h Q = oz (tget h o [10] 0) (fun v => tA sc iX10_purse 31 ls (v :: st) h Q) := tA_get mB_X10_purse mO_X10_purse dX10_purse_28 fT_10_10
theorem rX10_purse_31 : tA sc iX10_purse 31 ls (vR (some o) :: st) h Q = oz (tget h o [9] 9) (fun v => tA sc iX10_purse 34 ls (v :: st) h Q) := tA_get mB_X10_purse mO_X10_purse dX10_purse_31 fT_10_148
theorem rX10_purse_34 : tA sc iX10_purse 34 [l0, vI x, l2, l3] st h Q = tA sc iX10_purse 35 [l0, vI x, l2, l3] (vI x :: st) h Q := tA_pure mB_X10_purse dX10_purse_34 rfl
theorem rX10_purse_35 : tA sc iX10_purse 35 ls (vI j :: vR (some a) :: st) h Q = oz (tald sc h 0 a j) (fun v => tA sc iX10_purse 36 ls (vI v :: st) h Q) := tA_iald mB_X10_purse dX10_purse_35
theorem rX10_purse_36 : tA sc iX10_purse 36 [l0, l1, l2, l3] (vI x :: st) h Q = tA sc iX10_purse 37 [l0, l1, tclr l2, vI x] st h Q := tA_pure mB_X10_purse dX10_purse_36 rfl
theorem rX10_purse_37 : tA sc iX10_purse 37 [vR r, l1, l2, l3] st h Q = tA sc iX10_purse 38 [vR r, l1, l2, l3] (vR r :: st) h Q := tA_pure mB_X10_purse dX10_purse_37 rfl
theorem rX10_purse_38 : tA sc iX10_purse 38 ls (vR (some o) :: st) h Q = oz (tget h o [10] 0) (fun v => tA sc iX10_purse 41 ls (v :: st) h Q) := tA_get mB_X10_purse mO_X10_purse dX10_purse_38 fT_10_10
theorem rX10_purse_41 : tA sc iX10_purse 41 ls (vR (some o) :: st) h Q = oz (tget h o [9] 9) (fun v => tA sc iX10_purse 44 ls (v :: st) h Q) := tA_get mB_X10_purse mO_X10_purse dX10_purse_41 fT_10_148
theorem rX10_purse_44 : tA sc iX10_purse 44 [l0, vI x, l2, l3] st h Q = tA sc iX10_purse 45 [l0, vI x, l2, l3] (vI x :: st) h Q := tA_pure mB_X10_purse dX10_purse_44 rfl
theorem rX10_purse_45 : tA sc iX10_purse 45 [l0, l1, vI x, l3] st h Q = tA sc iX10_purse 46 [l0, l1, vI x, l3] (vI x :: st) h Q := tA_pure mB_X10_purse dX10_purse_45 rfl
theorem rX10_purse_46 : tA sc iX10_purse 46 ls (vI x :: vI j :: vR (some a) :: st) h Q = oz (tasi h a j x) (fun h' => tA sc iX10_purse 47 ls st h' Q) := tA_iast mB_X10_purse dX10_purse_46
theorem rX10_purse_47 : tA sc iX10_purse 47 [l0, l1, l2, vI x] st h Q = tA sc iX10_purse 48 [l0, l1, l2, vI x] (vI x :: st) h Q := tA_pure mB_X10_purse dX10_purse_47 rfl
theorem rX10_purse_48 : tA sc iX10_purse 48 ls st h Q = tA sc iX10_purse 50 ls (vI (100000) :: st) h Q := tA_pure mB_X10_purse dX10_purse_48 rfl
theorem rX10_purse_50 : tA sc iX10_purse 50 ls (vI y :: vI x :: st) h Q = tA sc iX10_purse 51 ls (vI (x + y) :: st) h Q := tA_pure mB_X10_purse dX10_purse_50 rfl
theorem rX10_purse_51 : tA sc iX10_purse 51 ls [vI x] h Q = Q (some (vI x)) h := tA_ret mB_X10_purse dX10_purse_51 (fun _ _ _ _ => rfl) (fun _ _ _ => rfl) (fun _ _ _ _ _ => rfl) rfl rfl
theorem mB_X10_say : mB iX10_say = cX10_say := rfl
theorem mO_X10_say : mO iX10_say = 10 := rfl
theorem rX10_say_0 : tA sc iX10_say 0 [vR r, l1, l2, l3] st h Q = tA sc iX10_say 1 [vR r, l1, l2, l3] (vR r :: st) h Q := tA_pure mB_X10_say dX10_say_0 rfl
theorem rX10_say_1 : tA sc iX10_say 1 ls (vR (some o) :: st) h Q = oz (tget h o [10] 0) (fun v => tA sc iX10_say 4 ls (v :: st) h Q) := tA_get mB_X10_say mO_X10_say dX10_say_1 fT_10_10
theorem rX10_say_4 : tA sc iX10_say 4 [l0, vI x, l2, l3] st h Q = tA sc iX10_say 5 [l0, vI x, l2, l3] (vI x :: st) h Q := tA_pure mB_X10_say dX10_say_4 rfl
theorem rX10_say_5 (hci : tcl h o = some 9) : tA sc iX10_say 5 ls [vI p0, vR (some o)] h Q = tA sc iX9_sayerAt 0 [vR (some o), vI p0] [] h (fun v h1 => tA sc iX10_say 8 ls (tpu v []) h1 Q) := tA_cV mB_X10_say mO_X10_say dX10_say_5 cT_10_136 rfl (Nat.le_of_ble_eq_true rfl) rfl rfl rfl hci
theorem rX10_say_8n : tA sc iX10_say 8 ls (vR none :: st) h Q = tA sc iX10_say 26 ls st h Q := tA_jump mB_X10_say dX10_say_8 (fun _ _ _ _ => rfl) rfl
theorem rX10_say_8s : tA sc iX10_say 8 ls (vR (some o) :: st) h Q = tA sc iX10_say 11 ls st h Q := tA_jump mB_X10_say dX10_say_8 (fun _ _ _ _ => rfl) rfl
theorem rX10_say_11 : tA sc iX10_say 11 [vR r, l1, l2, l3] st h Q = tA sc iX10_say 12 [vR r, l1, l2, l3] (vR r :: st) h Q := tA_pure mB_X10_say dX10_say_11 rfl
theorem rX10_say_12 : tA sc iX10_say 12 [l0, l1, vI x, l3] st h Q = tA sc iX10_say 13 [l0, l1, vI x, l3] (vI x :: st) h Q := tA_pure mB_X10_say dX10_say_12 rfl
theorem rX10_say_13 (hci : tcl h o = some 10) : tA sc iX10_say 13 ls [vI p0, vR (some o)] h Q = tA sc iX10_isComing 0 [vR (some o), vI p0] [] h (fun v h1 => tA sc iX10_say 16 ls (tpu v []) h1 Q) := tA_cV mB_X10_say mO_X10_say dX10_say_13 cT_10_159 rfl (Nat.le_of_ble_eq_true rfl) rfl rfl rfl hci
theorem rX10_say_16 : tA sc iX10_say 16 ls (vI x :: st) h Q = (if x = 0 then tA sc iX10_say 26 ls st h Q else tA sc iX10_say 19 ls st h Q) := tA_if mB_X10_say dX10_say_16 (fun _ _ _ _ => rfl) rfl
theorem rX10_say_19 : tA sc iX10_say 19 [l0, l1, l2, vI x] st h Q = tA sc iX10_say 20 [l0, l1, l2, vI x] (vI x :: st) h Q := tA_pure mB_X10_say dX10_say_19 rfl
theorem rX10_say_20 : tA sc iX10_say 20 ls [vI p0] h Q = tA sc iX10_isWeather 0 [vI p0] [] h (fun v h1 => tA sc iX10_say 23 ls (tpu v []) h1 Q) := tA_cS mB_X10_say mO_X10_say dX10_say_20 cT_10_84 ⟨Nat.le_of_ble_eq_true rfl, Nat.le_of_ble_eq_true rfl⟩ rfl rfl rfl rfl
theorem rX10_say_23 : tA sc iX10_say 23 ls (vI x :: st) h Q = (if ¬ x = 0 then tA sc iX10_say 28 ls st h Q else tA sc iX10_say 26 ls st h Q) := tA_if mB_X10_say dX10_say_23 (fun _ _ _ _ => rfl) rfl
theorem rX10_say_26 : tA sc iX10_say 26 ls st h Q = tA sc iX10_say 27 ls (vI (-1) :: st) h Q := tA_pure mB_X10_say dX10_say_26 rfl
theorem rX10_say_27 : tA sc iX10_say 27 ls [vI x] h Q = Q (some (vI x)) h := tA_ret mB_X10_say dX10_say_27 (fun _ _ _ _ => rfl) (fun _ _ _ => rfl) (fun _ _ _ _ _ => rfl) rfl rfl
theorem rX10_say_28 : tA sc iX10_say 28 [vR r, l1, l2, l3] st h Q = tA sc iX10_say 29 [vR r, l1, l2, l3] (vR r :: st) h Q := tA_pure mB_X10_say dX10_say_28 rfl
theorem rX10_say_29 : tA sc iX10_say 29 ls (vR (some o) :: st) h Q = oz (tget h o [10] 0) (fun v => tA sc iX10_say 32 ls (v :: st) h Q) := tA_get mB_X10_say mO_X10_say dX10_say_29 fT_10_10
theorem rX10_say_32 : tA sc iX10_say 32 [l0, l1, vI x, l3] st h Q = tA sc iX10_say 33 [l0, l1, vI x, l3] (vI x :: st) h Q := tA_pure mB_X10_say dX10_say_32 rfl
theorem rX10_say_33 : tA sc iX10_say 33 [l0, l1, l2, vI x] st h Q = tA sc iX10_say 34 [l0, l1, l2, vI x] (vI x :: st) h Q := tA_pure mB_X10_say dX10_say_33 rfl
theorem rX10_say_34 (hci : tcl h o = some 9) : tA sc iX10_say 34 ls [vI p1, vI p0, vR (some o)] h Q = tA sc iX9_isSaid 0 [vR (some o), vI p0, vI p1] [] h (fun v h1 => tA sc iX10_say 37 ls (tpu v []) h1 Q) := tA_cV mB_X10_say mO_X10_say dX10_say_34 cT_10_162 rfl (Nat.le_of_ble_eq_true rfl) rfl rfl rfl hci
theorem rX10_say_37 : tA sc iX10_say 37 ls (vI x :: st) h Q = (if x = 0 then tA sc iX10_say 43 ls st h Q else tA sc iX10_say 40 ls st h Q) := tA_if mB_X10_say dX10_say_37 (fun _ _ _ _ => rfl) rfl
theorem rX10_say_40 : tA sc iX10_say 40 ls st h Q = tA sc iX10_say 42 ls (vI (-4) :: st) h Q := tA_pure mB_X10_say dX10_say_40 rfl
theorem rX10_say_42 : tA sc iX10_say 42 ls [vI x] h Q = Q (some (vI x)) h := tA_ret mB_X10_say dX10_say_42 (fun _ _ _ _ => rfl) (fun _ _ _ => rfl) (fun _ _ _ _ _ => rfl) rfl rfl
theorem rX10_say_43 : tA sc iX10_say 43 [vR r, l1, l2, l3] st h Q = tA sc iX10_say 44 [vR r, l1, l2, l3] (vR r :: st) h Q := tA_pure mB_X10_say dX10_say_43 rfl
theorem rX10_say_44 : tA sc iX10_say 44 ls (vR (some o) :: st) h Q = oz (tget h o [10] 0) (fun v => tA sc iX10_say 47 ls (v :: st) h Q) := tA_get mB_X10_say mO_X10_say dX10_say_44 fT_10_10
theorem rX10_say_47 (hci : tcl h o = some 9) : tA sc iX10_say 47 ls [vR (some o)] h Q = tA sc iX9_room 0 [vR (some o)] [] h (fun v h1 => tA sc iX10_say 50 ls (tpu v []) h1 Q) := tA_cV mB_X10_say mO_X10_say dX10_say_47 cT_10_166 rfl (Nat.le_of_ble_eq_true rfl) rfl rfl rfl hci
theorem rX10_say_50 : tA sc iX10_say 50 ls (vI x :: st) h Q = (if ¬ x = 0 then tA sc iX10_say 56 ls st h Q else tA sc iX10_say 53 ls st h Q) := tA_if mB_X10_say dX10_say_50 (fun _ _ _ _ => rfl) rfl
theorem rX10_say_53 : tA sc iX10_say 53 ls st h Q = tA sc iX10_say 55 ls (vI (-2) :: st) h Q := tA_pure mB_X10_say dX10_say_53 rfl
theorem rX10_say_55 : tA sc iX10_say 55 ls [vI x] h Q = Q (some (vI x)) h := tA_ret mB_X10_say dX10_say_55 (fun _ _ _ _ => rfl) (fun _ _ _ => rfl) (fun _ _ _ _ _ => rfl) rfl rfl
theorem rX10_say_56 : tA sc iX10_say 56 [vR r, l1, l2, l3] st h Q = tA sc iX10_say 57 [vR r, l1, l2, l3] (vR r :: st) h Q := tA_pure mB_X10_say dX10_say_56 rfl
theorem rX10_say_57 : tA sc iX10_say 57 ls (vR (some o) :: st) h Q = oz (tget h o [10] 0) (fun v => tA sc iX10_say 60 ls (v :: st) h Q) := tA_get mB_X10_say mO_X10_say dX10_say_57 fT_10_10
theorem rX10_say_60 : tA sc iX10_say 60 [l0, vI x, l2, l3] st h Q = tA sc iX10_say 61 [l0, vI x, l2, l3] (vI x :: st) h Q := tA_pure mB_X10_say dX10_say_60 rfl
theorem rX10_say_61 : tA sc iX10_say 61 [l0, l1, vI x, l3] st h Q = tA sc iX10_say 62 [l0, l1, vI x, l3] (vI x :: st) h Q := tA_pure mB_X10_say dX10_say_61 rfl
theorem rX10_say_62 : tA sc iX10_say 62 [l0, l1, l2, vI x] st h Q = tA sc iX10_say 63 [l0, l1, l2, vI x] (vI x :: st) h Q := tA_pure mB_X10_say dX10_say_62 rfl
theorem rX10_say_63 (hci : tcl h o = some 9) : tA sc iX10_say 63 ls [vI p2, vI p1, vI p0, vR (some o)] h Q = tA sc iX9_sellSaying 0 [vR (some o), vI p0, vI p1, vI p2] [] h (fun v h1 => tA sc iX10_say 66 ls (tpu v []) h1 Q) := tA_cV mB_X10_say mO_X10_say dX10_say_63 cT_10_170 rfl (Nat.le_of_ble_eq_true rfl) rfl rfl rfl hci
theorem rX10_say_66 : tA sc iX10_say 66 ls [vI x] h Q = Q (some (vI x)) h := tA_ret mB_X10_say dX10_say_66 (fun _ _ _ _ => rfl) (fun _ _ _ => rfl) (fun _ _ _ _ _ => rfl) rfl rfl
theorem mB_X10_sayingOf : mB iX10_sayingOf = cX10_sayingOf := rfl
theorem mO_X10_sayingOf : mO iX10_sayingOf = 10 := rfl
theorem rX10_sayingOf_0 : tA sc iX10_sayingOf 0 [l0, vI x, l2] st h Q = tA sc iX10_sayingOf 1 [l0, vI x, l2] (vI x :: st) h Q := tA_pure mB_X10_sayingOf dX10_sayingOf_0 rfl
theorem rX10_sayingOf_1 : tA sc iX10_sayingOf 1 ls (vI x :: st) h Q = (if x < 0 then tA sc iX10_sayingOf 15 ls st h Q else tA sc iX10_sayingOf 4 ls st h Q) := tA_if mB_X10_sayingOf dX10_sayingOf_1 (fun _ _ _ _ => rfl) rfl
theorem rX10_sayingOf_4 : tA sc iX10_sayingOf 4 [l0, vI x, l2] st h Q = tA sc iX10_sayingOf 5 [l0, vI x, l2] (vI x :: st) h Q := tA_pure mB_X10_sayingOf dX10_sayingOf_4 rfl
theorem rX10_sayingOf_5 : tA sc iX10_sayingOf 5 [vR r, l1, l2] st h Q = tA sc iX10_sayingOf 6 [vR r, l1, l2] (vR r :: st) h Q := tA_pure mB_X10_sayingOf dX10_sayingOf_5 rfl
theorem rX10_sayingOf_6 : tA sc iX10_sayingOf 6 ls (vR (some o) :: st) h Q = oz (tget h o [10] 0) (fun v => tA sc iX10_sayingOf 9 ls (v :: st) h Q) := tA_get mB_X10_sayingOf mO_X10_sayingOf dX10_sayingOf_6 fT_10_10
theorem rX10_sayingOf_9 : tA sc iX10_sayingOf 9 ls (vR (some o) :: st) h Q = oz (tget h o [9] 14) (fun v => tA sc iX10_sayingOf 12 ls (v :: st) h Q) := tA_get mB_X10_sayingOf mO_X10_sayingOf dX10_sayingOf_9 fT_10_174
theorem rX10_sayingOf_12 : tA sc iX10_sayingOf 12 ls (vI y :: vI x :: st) h Q = (if x < y then tA sc iX10_sayingOf 17 ls st h Q else tA sc iX10_sayingOf 15 ls st h Q) := tA_if mB_X10_sayingOf dX10_sayingOf_12 (fun _ _ _ _ => rfl) rfl
theorem rX10_sayingOf_15 : tA sc iX10_sayingOf 15 ls st h Q = tA sc iX10_sayingOf 16 ls (vI (-1) :: st) h Q := tA_pure mB_X10_sayingOf dX10_sayingOf_15 rfl
theorem rX10_sayingOf_16 : tA sc iX10_sayingOf 16 ls [vI x] h Q = Q (some (vI x)) h := tA_ret mB_X10_sayingOf dX10_sayingOf_16 (fun _ _ _ _ => rfl) (fun _ _ _ => rfl) (fun _ _ _ _ _ => rfl) rfl rfl
theorem rX10_sayingOf_17 : tA sc iX10_sayingOf 17 [l0, l1, vI x] st h Q = tA sc iX10_sayingOf 18 [l0, l1, vI x] (vI x :: st) h Q := tA_pure mB_X10_sayingOf dX10_sayingOf_17 rfl
theorem rX10_sayingOf_18 : tA sc iX10_sayingOf 18 ls (vI x :: st) h Q = tA sc iX10_sayingOf (tswp x 0 [48, 58, 68, 78] 116) ls st h Q := tA_sw mB_X10_sayingOf dX10_sayingOf_18 rfl rfl rfl
theorem rX10_sayingOf_48 : tA sc iX10_sayingOf 48 [vR r, l1, l2] st h Q = tA sc iX10_sayingOf 49 [vR r, l1, l2] (vR r :: st) h Q := tA_pure mB_X10_sayingOf dX10_sayingOf_48 rfl
theorem rX10_sayingOf_49 : tA sc iX10_sayingOf 49 ls (vR (some o) :: st) h Q = oz (tget h o [10] 0) (fun v => tA sc iX10_sayingOf 52 ls (v :: st) h Q) := tA_get mB_X10_sayingOf mO_X10_sayingOf dX10_sayingOf_49 fT_10_10
theorem rX10_sayingOf_52 : tA sc iX10_sayingOf 52 ls (vR (some o) :: st) h Q = oz (tget h o [9] 11) (fun v => tA sc iX10_sayingOf 55 ls (v :: st) h Q) := tA_get mB_X10_sayingOf mO_X10_sayingOf dX10_sayingOf_52 fT_10_177
theorem rX10_sayingOf_55 : tA sc iX10_sayingOf 55 [l0, vI x, l2] st h Q = tA sc iX10_sayingOf 56 [l0, vI x, l2] (vI x :: st) h Q := tA_pure mB_X10_sayingOf dX10_sayingOf_55 rfl
theorem rX10_sayingOf_56 : tA sc iX10_sayingOf 56 ls (vI j :: vR (some a) :: st) h Q = oz (tald sc h 0 a j) (fun v => tA sc iX10_sayingOf 57 ls (vI v :: st) h Q) := tA_iald mB_X10_sayingOf dX10_sayingOf_56
theorem rX10_sayingOf_57 : tA sc iX10_sayingOf 57 ls [vI x] h Q = Q (some (vI x)) h := tA_ret mB_X10_sayingOf dX10_sayingOf_57 (fun _ _ _ _ => rfl) (fun _ _ _ => rfl) (fun _ _ _ _ _ => rfl) rfl rfl
theorem rX10_sayingOf_58 : tA sc iX10_sayingOf 58 [vR r, l1, l2] st h Q = tA sc iX10_sayingOf 59 [vR r, l1, l2] (vR r :: st) h Q := tA_pure mB_X10_sayingOf dX10_sayingOf_58 rfl
theorem rX10_sayingOf_59 : tA sc iX10_sayingOf 59 ls (vR (some o) :: st) h Q = oz (tget h o [10] 0) (fun v => tA sc iX10_sayingOf 62 ls (v :: st) h Q) := tA_get mB_X10_sayingOf mO_X10_sayingOf dX10_sayingOf_59 fT_10_10
theorem rX10_sayingOf_62 : tA sc iX10_sayingOf 62 ls (vR (some o) :: st) h Q = oz (tget h o [9] 12) (fun v => tA sc iX10_sayingOf 65 ls (v :: st) h Q) := tA_get mB_X10_sayingOf mO_X10_sayingOf dX10_sayingOf_62 fT_10_180
theorem rX10_sayingOf_65 : tA sc iX10_sayingOf 65 [l0, vI x, l2] st h Q = tA sc iX10_sayingOf 66 [l0, vI x, l2] (vI x :: st) h Q := tA_pure mB_X10_sayingOf dX10_sayingOf_65 rfl
theorem rX10_sayingOf_66 : tA sc iX10_sayingOf 66 ls (vI j :: vR (some a) :: st) h Q = oz (tald sc h 0 a j) (fun v => tA sc iX10_sayingOf 67 ls (vI v :: st) h Q) := tA_iald mB_X10_sayingOf dX10_sayingOf_66
theorem rX10_sayingOf_67 : tA sc iX10_sayingOf 67 ls [vI x] h Q = Q (some (vI x)) h := tA_ret mB_X10_sayingOf dX10_sayingOf_67 (fun _ _ _ _ => rfl) (fun _ _ _ => rfl) (fun _ _ _ _ _ => rfl) rfl rfl
theorem rX10_sayingOf_68 : tA sc iX10_sayingOf 68 [vR r, l1, l2] st h Q = tA sc iX10_sayingOf 69 [vR r, l1, l2] (vR r :: st) h Q := tA_pure mB_X10_sayingOf dX10_sayingOf_68 rfl
theorem rX10_sayingOf_69 : tA sc iX10_sayingOf 69 ls (vR (some o) :: st) h Q = oz (tget h o [10] 0) (fun v => tA sc iX10_sayingOf 72 ls (v :: st) h Q) := tA_get mB_X10_sayingOf mO_X10_sayingOf dX10_sayingOf_69 fT_10_10
theorem rX10_sayingOf_72 : tA sc iX10_sayingOf 72 ls (vR (some o) :: st) h Q = oz (tget h o [9] 13) (fun v => tA sc iX10_sayingOf 75 ls (v :: st) h Q) := tA_get mB_X10_sayingOf mO_X10_sayingOf dX10_sayingOf_72 fT_10_183
theorem rX10_sayingOf_75 : tA sc iX10_sayingOf 75 [l0, vI x, l2] st h Q = tA sc iX10_sayingOf 76 [l0, vI x, l2] (vI x :: st) h Q := tA_pure mB_X10_sayingOf dX10_sayingOf_75 rfl
theorem rX10_sayingOf_76 : tA sc iX10_sayingOf 76 ls (vI j :: vR (some a) :: st) h Q = oz (tald sc h 0 a j) (fun v => tA sc iX10_sayingOf 77 ls (vI v :: st) h Q) := tA_iald mB_X10_sayingOf dX10_sayingOf_76
theorem rX10_sayingOf_77 : tA sc iX10_sayingOf 77 ls [vI x] h Q = Q (some (vI x)) h := tA_ret mB_X10_sayingOf dX10_sayingOf_77 (fun _ _ _ _ => rfl) (fun _ _ _ => rfl) (fun _ _ _ _ _ => rfl) rfl rfl
theorem rX10_sayingOf_78 : tA sc iX10_sayingOf 78 [vR r, l1, l2] st h Q = tA sc iX10_sayingOf 79 [vR r, l1, l2] (vR r :: st) h Q := tA_pure mB_X10_sayingOf dX10_sayingOf_78 rfl
theorem rX10_sayingOf_79 : tA sc iX10_sayingOf 79 ls (vR (some o) :: st) h Q = oz (tget h o [10] 0) (fun v => tA sc iX10_sayingOf 82 ls (v :: st) h Q) := tA_get mB_X10_sayingOf mO_X10_sayingOf dX10_sayingOf_79 fT_10_10
theorem rX10_sayingOf_82 : tA sc iX10_sayingOf 82 [vR r, l1, l2] st h Q = tA sc iX10_sayingOf 83 [vR r, l1, l2] (vR r :: st) h Q := tA_pure mB_X10_sayingOf dX10_sayingOf_82 rfl
theorem rX10_sayingOf_83 : tA sc iX10_sayingOf 83 ls (vR (some o) :: st) h Q = oz (tget h o [10] 0) (fun v => tA sc iX10_sayingOf 86 ls (v :: st) h Q) := tA_get mB_X10_sayingOf mO_X10_sayingOf dX10_sayingOf_83 fT_10_10
theorem rX10_sayingOf_86 : tA sc iX10_sayingOf 86 ls (vR (some o) :: st) h Q = oz (tget h o [9] 12) (fun v => tA sc iX10_sayingOf 89 ls (v :: st) h Q) := tA_get mB_X10_sayingOf mO_X10_sayingOf dX10_sayingOf_86 fT_10_180
theorem rX10_sayingOf_89 : tA sc iX10_sayingOf 89 [l0, vI x, l2] st h Q = tA sc iX10_sayingOf 90 [l0, vI x, l2] (vI x :: st) h Q := tA_pure mB_X10_sayingOf dX10_sayingOf_89 rfl
theorem rX10_sayingOf_90 : tA sc iX10_sayingOf 90 ls (vI j :: vR (some a) :: st) h Q = oz (tald sc h 0 a j) (fun v => tA sc iX10_sayingOf 91 ls (vI v :: st) h Q) := tA_iald mB_X10_sayingOf dX10_sayingOf_90
theorem rX10_sayingOf_91 (hci : tcl h o = some 9) : tA sc iX10_sayingOf 91 ls [vI p0, vR (some o)] h Q = tA sc iX9_isOver 0 [vR (some o), vI p0] [] h (fun v h1 => tA sc iX10_sayingOf 94 ls (tpu v []) h1 Q) := tA_cV mB_X10_sayingOf mO_X10_sayingOf dX10_sayingOf_91 cT_10_186 rfl (Nat.le_of_ble_eq_true rfl) rfl rfl rfl hci
theorem rX10_sayingOf_94 : tA sc iX10_sayingOf 94 ls (vI x :: st) h Q = (if ¬ x = 0 then tA sc iX10_sayingOf 99 ls st h Q else tA sc iX10_sayingOf 97 ls st h Q) := tA_if mB_X10_sayingOf dX10_sayingOf_94 (fun _ _ _ _ => rfl) rfl
theorem rX10_sayingOf_97 : tA sc iX10_sayingOf 97 ls st h Q = tA sc iX10_sayingOf 98 ls (vI (0) :: st) h Q := tA_pure mB_X10_sayingOf dX10_sayingOf_97 rfl
theorem rX10_sayingOf_98 : tA sc iX10_sayingOf 98 ls [vI x] h Q = Q (some (vI x)) h := tA_ret mB_X10_sayingOf dX10_sayingOf_98 (fun _ _ _ _ => rfl) (fun _ _ _ => rfl) (fun _ _ _ _ _ => rfl) rfl rfl
theorem rX10_sayingOf_99 : tA sc iX10_sayingOf 99 [vR r, l1, l2] st h Q = tA sc iX10_sayingOf 100 [vR r, l1, l2] (vR r :: st) h Q := tA_pure mB_X10_sayingOf dX10_sayingOf_99 rfl
theorem rX10_sayingOf_100 : tA sc iX10_sayingOf 100 ls (vR (some o) :: st) h Q = oz (tget h o [10] 0) (fun v => tA sc iX10_sayingOf 103 ls (v :: st) h Q) := tA_get mB_X10_sayingOf mO_X10_sayingOf dX10_sayingOf_100 fT_10_10
theorem rX10_sayingOf_103 : tA sc iX10_sayingOf 103 [l0, vI x, l2] st h Q = tA sc iX10_sayingOf 104 [l0, vI x, l2] (vI x :: st) h Q := tA_pure mB_X10_sayingOf dX10_sayingOf_103 rfl
theorem rX10_sayingOf_104 (hci : tcl h o = some 9) : tA sc iX10_sayingOf 104 ls [vI p0, vR (some o)] h Q = tA sc iX9_isRight 0 [vR (some o), vI p0, vU] [] h (fun v h1 => tA sc iX10_sayingOf 107 ls (tpu v []) h1 Q) := tA_cV mB_X10_sayingOf mO_X10_sayingOf dX10_sayingOf_104 cT_10_189 rfl (Nat.le_of_ble_eq_true rfl) rfl rfl rfl hci
theorem rX10_sayingOf_107 : tA sc iX10_sayingOf 107 ls (vI x :: st) h Q = (if x = 0 then tA sc iX10_sayingOf 114 ls st h Q else tA sc iX10_sayingOf 110 ls st h Q) := tA_if mB_X10_sayingOf dX10_sayingOf_107 (fun _ _ _ _ => rfl) rfl
theorem rX10_sayingOf_110 : tA sc iX10_sayingOf 110 ls st h Q = tA sc iX10_sayingOf 111 ls (vI (1) :: st) h Q := tA_pure mB_X10_sayingOf dX10_sayingOf_110 rfl
theorem rX10_sayingOf_111 : tA sc iX10_sayingOf 111 ls st h Q = tA sc iX10_sayingOf 115 ls st h Q := tA_jump mB_X10_sayingOf dX10_sayingOf_111 (fun _ _ _ _ => rfl) rfl
theorem rX10_sayingOf_114 : tA sc iX10_sayingOf 114 ls st h Q = tA sc iX10_sayingOf 115 ls (vI (2) :: st) h Q := tA_pure mB_X10_sayingOf dX10_sayingOf_114 rfl
theorem rX10_sayingOf_115 : tA sc iX10_sayingOf 115 ls [vI x] h Q = Q (some (vI x)) h := tA_ret mB_X10_sayingOf dX10_sayingOf_115 (fun _ _ _ _ => rfl) (fun _ _ _ => rfl) (fun _ _ _ _ _ => rfl) rfl rfl
theorem rX10_sayingOf_116 : tA sc iX10_sayingOf 116 ls st h Q = tA sc iX10_sayingOf 117 ls (vI (-1) :: st) h Q := tA_pure mB_X10_sayingOf dX10_sayingOf_116 rfl
theorem rX10_sayingOf_117 : tA sc iX10_sayingOf 117 ls [vI x] h Q = Q (some (vI x)) h := tA_ret mB_X10_sayingOf dX10_sayingOf_117 (fun _ _ _ _ => rfl) (fun _ _ _ => rfl) (fun _ _ _ _ _ => rfl) rfl rfl
theorem mB_X10_would : mB iX10_would = cX10_would := rfl
theorem mO_X10_would : mO iX10_would = 10 := rfl
theorem rX10_would_0 : tA sc iX10_would 0 [vR r, l1, l2, l3, l4] st h Q = tA sc iX10_would 1 [vR r, l1, l2, l3, l4] (vR r :: st) h Q := tA_pure mB_X10_would dX10_would_0 rfl
theorem rX10_would_1 : tA sc iX10_would 1 ls (vR (some o) :: st) h Q = oz (tget h o [10] 0) (fun v => tA sc iX10_would 4 ls (v :: st) h Q) := tA_get mB_X10_would mO_X10_would dX10_would_1 fT_10_10
theorem rX10_would_4 : tA sc iX10_would 4 [l0, vI x, l2, l3, l4] st h Q = tA sc iX10_would 5 [l0, vI x, l2, l3, l4] (vI x :: st) h Q := tA_pure mB_X10_would dX10_would_4 rfl
theorem rX10_would_5 (hci : tcl h o = some 9) : tA sc iX10_would 5 ls [vI p0, vR (some o)] h Q = tA sc iX9_sayerAt 0 [vR (some o), vI p0] [] h (fun v h1 => tA sc iX10_would 8 ls (tpu v []) h1 Q) := tA_cV mB_X10_would mO_X10_would dX10_would_5 cT_10_136 rfl (Nat.le_of_ble_eq_true rfl) rfl rfl rfl hci
theorem rX10_would_8 : tA sc iX10_would 8 [l0, l1, l2, l3, l4] (vR r :: st) h Q = tA sc iX10_would 9 [l0, l1, tclr l2, vR r, l4] st h Q := tA_pure mB_X10_would dX10_would_8 rfl
theorem rX10_would_9 : tA sc iX10_would 9 [l0, l1, l2, vR r, l4] st h Q = tA sc iX10_would 10 [l0, l1, l2, vR r, l4] (vR r :: st) h Q := tA_pure mB_X10_would dX10_would_9 rfl
theorem rX10_would_10n : tA sc iX10_would 10 ls (vR none :: st) h Q = tA sc iX10_would 22 ls st h Q := tA_jump mB_X10_would dX10_would_10 (fun _ _ _ _ => rfl) rfl
theorem rX10_would_10s : tA sc iX10_would 10 ls (vR (some o) :: st) h Q = tA sc iX10_would 13 ls st h Q := tA_jump mB_X10_would dX10_would_10 (fun _ _ _ _ => rfl) rfl
theorem rX10_would_13 : tA sc iX10_would 13 [l0, l1, vI x, l3, l4] st h Q = tA sc iX10_would 14 [l0, l1, vI x, l3, l4] (vI x :: st) h Q := tA_pure mB_X10_would dX10_would_13 rfl
theorem rX10_would_14 : tA sc iX10_would 14 ls (vI x :: st) h Q = (if x < 0 then tA sc iX10_would 22 ls st h Q else tA sc iX10_would 17 ls st h Q) := tA_if mB_X10_would dX10_would_14 (fun _ _ _ _ => rfl) rfl
theorem rX10_would_17 : tA sc iX10_would 17 [l0, l1, vI x, l3, l4] st h Q = tA sc iX10_would 18 [l0, l1, vI x, l3, l4] (vI x :: st) h Q := tA_pure mB_X10_would dX10_would_17 rfl
theorem rX10_would_18 : tA sc iX10_would 18 ls st h Q = tA sc iX10_would 19 ls (vI (2) :: st) h Q := tA_pure mB_X10_would dX10_would_18 rfl
theorem rX10_would_19 : tA sc iX10_would 19 ls (vI y :: vI x :: st) h Q = (if x ≤ y then tA sc iX10_would 24 ls st h Q else tA sc iX10_would 22 ls st h Q) := tA_if mB_X10_would dX10_would_19 (fun _ _ _ _ => rfl) rfl
theorem rX10_would_22 : tA sc iX10_would 22 ls st h Q = tA sc iX10_would 23 ls (vI (-1) :: st) h Q := tA_pure mB_X10_would dX10_would_22 rfl
theorem rX10_would_23 : tA sc iX10_would 23 ls [vI x] h Q = Q (some (vI x)) h := tA_ret mB_X10_would dX10_would_23 (fun _ _ _ _ => rfl) (fun _ _ _ => rfl) (fun _ _ _ _ _ => rfl) rfl rfl
theorem rX10_would_24 : tA sc iX10_would 24 [vR r, l1, l2, l3, l4] st h Q = tA sc iX10_would 25 [vR r, l1, l2, l3, l4] (vR r :: st) h Q := tA_pure mB_X10_would dX10_would_24 rfl
theorem rX10_would_25 : tA sc iX10_would 25 ls (vR (some o) :: st) h Q = oz (tget h o [10] 0) (fun v => tA sc iX10_would 28 ls (v :: st) h Q) := tA_get mB_X10_would mO_X10_would dX10_would_25 fT_10_10
theorem rX10_would_28 : tA sc iX10_would 28 [l0, l1, l2, vR r, l4] st h Q = tA sc iX10_would 29 [l0, l1, l2, vR r, l4] (vR r :: st) h Q := tA_pure mB_X10_would dX10_would_28 rfl
theorem rX10_would_29 (hci : tcl h o = some 9) : tA sc iX10_would 29 ls [vR n0, vR (some o)] h Q = tA sc iX9_dayToSay 0 [vR (some o), vR n0] [] h (fun v h1 => tA sc iX10_would 32 ls (tpu v []) h1 Q) := tA_cV mB_X10_would mO_X10_would dX10_would_29 cT_10_192 rfl (Nat.le_of_ble_eq_true rfl) rfl rfl rfl hci
theorem rX10_would_32 : tA sc iX10_would 32 [l0, l1, l2, l3, l4] (vI x :: st) h Q = tA sc iX10_would 34 [l0, l1, l2, tclr l3, vI x] st h Q := tA_pure mB_X10_would dX10_would_32 rfl
theorem rX10_would_34 : tA sc iX10_would 34 [l0, l1, l2, l3, vI x] st h Q = tA sc iX10_would 36 [l0, l1, l2, l3, vI x] (vI x :: st) h Q := tA_pure mB_X10_would dX10_would_34 rfl
theorem rX10_would_36 : tA sc iX10_would 36 ls (vI x :: st) h Q = (if 0 ≤ x then tA sc iX10_would 51 ls st h Q else tA sc iX10_would 39 ls st h Q) := tA_if mB_X10_would dX10_would_36 (fun _ _ _ _ => rfl) rfl
theorem rX10_would_39 : tA sc iX10_would 39 [l0, l1, vI x, l3, l4] st h Q = tA sc iX10_would 40 [l0, l1, vI x, l3, l4] (vI x :: st) h Q := tA_pure mB_X10_would dX10_would_39 rfl
theorem rX10_would_40 : tA sc iX10_would 40 ls st h Q = tA sc iX10_would 41 ls (vI (2) :: st) h Q := tA_pure mB_X10_would dX10_would_40 rfl
theorem rX10_would_41 : tA sc iX10_would 41 ls (vI y :: vI x :: st) h Q = (if ¬ x = y then tA sc iX10_would 48 ls st h Q else tA sc iX10_would 44 ls st h Q) := tA_if mB_X10_would dX10_would_41 (fun _ _ _ _ => rfl) rfl
theorem rX10_would_44 : tA sc iX10_would 44 ls st h Q = tA sc iX10_would 45 ls (vI (0) :: st) h Q := tA_pure mB_X10_would dX10_would_44 rfl
theorem rX10_would_45 : tA sc iX10_would 45 ls st h Q = tA sc iX10_would 50 ls st h Q := tA_jump mB_X10_would dX10_would_45 (fun _ _ _ _ => rfl) rfl
theorem rX10_would_48 : tA sc iX10_would 48 ls st h Q = tA sc iX10_would 50 ls (vI (-3) :: st) h Q := tA_pure mB_X10_would dX10_would_48 rfl
theorem rX10_would_50 : tA sc iX10_would 50 ls [vI x] h Q = Q (some (vI x)) h := tA_ret mB_X10_would dX10_would_50 (fun _ _ _ _ => rfl) (fun _ _ _ => rfl) (fun _ _ _ _ _ => rfl) rfl rfl
theorem rX10_would_51 : tA sc iX10_would 51 [l0, l1, vI x, l3, l4] st h Q = tA sc iX10_would 52 [l0, l1, vI x, l3, l4] (vI x :: st) h Q := tA_pure mB_X10_would dX10_would_51 rfl
theorem rX10_would_52 : tA sc iX10_would 52 ls (vI x :: st) h Q = (if x = 0 then tA sc iX10_would 80 ls st h Q else if x = 1 then tA sc iX10_would 83 ls st h Q else tA sc iX10_would 94 ls st h Q) := tA_lk2 mB_X10_would dX10_would_52 rfl rfl rfl
theorem rX10_would_80 : tA sc iX10_would 80 [l0, l1, l2, l3, vI x] st h Q = tA sc iX10_would 82 [l0, l1, l2, l3, vI x] (vI x :: st) h Q := tA_pure mB_X10_would dX10_would_80 rfl
theorem rX10_would_82 : tA sc iX10_would 82 ls [vI x] h Q = Q (some (vI x)) h := tA_ret mB_X10_would dX10_would_82 (fun _ _ _ _ => rfl) (fun _ _ _ => rfl) (fun _ _ _ _ _ => rfl) rfl rfl
theorem rX10_would_83 : tA sc iX10_would 83 [l0, l1, l2, vR r, l4] st h Q = tA sc iX10_would 84 [l0, l1, l2, vR r, l4] (vR r :: st) h Q := tA_pure mB_X10_would dX10_would_83 rfl
theorem rX10_would_84 : tA sc iX10_would 84 [vR r, l1, l2, l3, l4] st h Q = tA sc iX10_would 85 [vR r, l1, l2, l3, l4] (vR r :: st) h Q := tA_pure mB_X10_would dX10_would_84 rfl
theorem rX10_would_85 : tA sc iX10_would 85 ls (vR (some o) :: st) h Q = oz (tget h o [10] 0) (fun v => tA sc iX10_would 88 ls (v :: st) h Q) := tA_get mB_X10_would mO_X10_would dX10_would_85 fT_10_10
theorem rX10_would_88 : tA sc iX10_would 88 [l0, l1, l2, l3, vI x] st h Q = tA sc iX10_would 90 [l0, l1, l2, l3, vI x] (vI x :: st) h Q := tA_pure mB_X10_would dX10_would_88 rfl
theorem rX10_would_90_0 (hci : tcl h o = some 0) : tA sc iX10_would 90 ls [vI p1, vR n0, vR (some o)] h Q = tA sc iX0_firstWeather 0 [vR (some o), vR n0, vI p1] [] h (fun v h1 => tA sc iX10_would 93 ls (tpu v []) h1 Q) := tA_cV mB_X10_would mO_X10_would dX10_would_90 cT_10_195 rfl (Nat.le_of_ble_eq_true rfl) rfl rfl rfl hci
theorem rX10_would_90_2 (hci : tcl h o = some 2) : tA sc iX10_would 90 ls [vI p1, vR n0, vR (some o)] h Q = tA sc iX4_firstWeather 0 [vR (some o), vR n0, vI p1] [] h (fun v h1 => tA sc iX10_would 93 ls (tpu v []) h1 Q) := tA_cV mB_X10_would mO_X10_would dX10_would_90 cT_10_195 rfl (Nat.le_of_ble_eq_true rfl) rfl rfl rfl hci
theorem rX10_would_90_3 (hci : tcl h o = some 3) : tA sc iX10_would 90 ls [vI p1, vR n0, vR (some o)] h Q = tA sc iX4_firstWeather 0 [vR (some o), vR n0, vI p1] [] h (fun v h1 => tA sc iX10_would 93 ls (tpu v []) h1 Q) := tA_cV mB_X10_would mO_X10_would dX10_would_90 cT_10_195 rfl (Nat.le_of_ble_eq_true rfl) rfl rfl rfl hci
theorem rX10_would_90_4 (hci : tcl h o = some 4) : tA sc iX10_would 90 ls [vI p1, vR n0, vR (some o)] h Q = tA sc iX4_firstWeather 0 [vR (some o), vR n0, vI p1] [] h (fun v h1 => tA sc iX10_would 93 ls (tpu v []) h1 Q) := tA_cV mB_X10_would mO_X10_would dX10_would_90 cT_10_195 rfl (Nat.le_of_ble_eq_true rfl) rfl rfl rfl hci
theorem rX10_would_90_6 (hci : tcl h o = some 6) : tA sc iX10_would 90 ls [vI p1, vR n0, vR (some o)] h Q = tA sc iX4_firstWeather 0 [vR (some o), vR n0, vI p1] [] h (fun v h1 => tA sc iX10_would 93 ls (tpu v []) h1 Q) := tA_cV mB_X10_would mO_X10_would dX10_would_90 cT_10_195 rfl (Nat.le_of_ble_eq_true rfl) rfl rfl rfl hci
theorem rX10_would_90_7 (hci : tcl h o = some 7) : tA sc iX10_would 90 ls [vI p1, vR n0, vR (some o)] h Q = tA sc iX7_firstWeather 0 [vR (some o), vR n0, vI p1] [] h (fun v h1 => tA sc iX10_would 93 ls (tpu v []) h1 Q) := tA_cV mB_X10_would mO_X10_would dX10_would_90 cT_10_195 rfl (Nat.le_of_ble_eq_true rfl) rfl rfl rfl hci
theorem rX10_would_93 : tA sc iX10_would 93 ls [vI x] h Q = Q (some (vI x)) h := tA_ret mB_X10_would dX10_would_93 (fun _ _ _ _ => rfl) (fun _ _ _ => rfl) (fun _ _ _ _ _ => rfl) rfl rfl
theorem rX10_would_94 : tA sc iX10_would 94 [vR r, l1, l2, l3, l4] st h Q = tA sc iX10_would 95 [vR r, l1, l2, l3, l4] (vR r :: st) h Q := tA_pure mB_X10_would dX10_would_94 rfl
theorem rX10_would_95 : tA sc iX10_would 95 ls (vR (some o) :: st) h Q = oz (tget h o [10] 0) (fun v => tA sc iX10_would 98 ls (v :: st) h Q) := tA_get mB_X10_would mO_X10_would dX10_would_95 fT_10_10
theorem rX10_would_98 : tA sc iX10_would 98 [l0, l1, l2, vR r, l4] st h Q = tA sc iX10_would 99 [l0, l1, l2, vR r, l4] (vR r :: st) h Q := tA_pure mB_X10_would dX10_would_98 rfl
theorem rX10_would_99 (hci : tcl h o = some 9) : tA sc iX10_would 99 ls [vR n0, vR (some o)] h Q = tA sc iX9_sayingsAtOnce 0 [vR (some o), vR n0] [] h (fun v h1 => tA sc iX10_would 102 ls (tpu v []) h1 Q) := tA_cV mB_X10_would mO_X10_would dX10_would_99 cT_10_199 rfl (Nat.le_of_ble_eq_true rfl) rfl rfl rfl hci
theorem rX10_would_102 : tA sc iX10_would 102 ls [vI x] h Q = Q (some (vI x)) h := tA_ret mB_X10_would dX10_would_102 (fun _ _ _ _ => rfl) (fun _ _ _ => rfl) (fun _ _ _ _ _ => rfl) rfl rfl
theorem mB_X10_morning : mB iX10_morning = cX10_morning := rfl
theorem mO_X10_morning : mO iX10_morning = 10 := rfl
theorem rX10_morning_0 : tA sc iX10_morning 0 [l0, vI x, l2] st h Q = tA sc iX10_morning 1 [l0, vI x, l2] (vI x :: st) h Q := tA_pure mB_X10_morning dX10_morning_0 rfl
theorem rX10_morning_1 : tA sc iX10_morning 1 ls (vI x :: st) h Q = (if x < 0 then tA sc iX10_morning 10 ls st h Q else tA sc iX10_morning 4 ls st h Q) := tA_if mB_X10_morning dX10_morning_1 (fun _ _ _ _ => rfl) rfl
theorem rX10_morning_4 : tA sc iX10_morning 4 [l0, vI x, l2] st h Q = tA sc iX10_morning 5 [l0, vI x, l2] (vI x :: st) h Q := tA_pure mB_X10_morning dX10_morning_4 rfl
theorem rX10_morning_5 : tA sc iX10_morning 5 ls st h Q = tA sc iX10_morning 7 ls (vI (20) :: st) h Q := tA_pure mB_X10_morning dX10_morning_5 rfl
theorem rX10_morning_7 : tA sc iX10_morning 7 ls (vI y :: vI x :: st) h Q = (if x ≤ y then tA sc iX10_morning 12 ls st h Q else tA sc iX10_morning 10 ls st h Q) := tA_if mB_X10_morning dX10_morning_7 (fun _ _ _ _ => rfl) rfl
theorem rX10_morning_10 : tA sc iX10_morning 10 ls st h Q = tA sc iX10_morning 11 ls (vI (-1) :: st) h Q := tA_pure mB_X10_morning dX10_morning_10 rfl
theorem rX10_morning_11 : tA sc iX10_morning 11 ls [vI x] h Q = Q (some (vI x)) h := tA_ret mB_X10_morning dX10_morning_11 (fun _ _ _ _ => rfl) (fun _ _ _ => rfl) (fun _ _ _ _ _ => rfl) rfl rfl
theorem rX10_morning_12 : tA sc iX10_morning 12 ls st h Q = tA sc iX10_morning 13 ls (vI (0) :: st) h Q := tA_pure mB_X10_morning dX10_morning_12 rfl
theorem rX10_morning_13 : tA sc iX10_morning 13 [l0, l1, l2] (vI x :: st) h Q = tA sc iX10_morning 14 [l0, tclr l1, vI x] st h Q := tA_pure mB_X10_morning dX10_morning_13 rfl
theorem rX10_morning_14 : tA sc iX10_morning 14 [l0, l1, vI x] st h Q = tA sc iX10_morning 15 [l0, l1, vI x] (vI x :: st) h Q := tA_pure mB_X10_morning dX10_morning_14 rfl
theorem rX10_morning_15 : tA sc iX10_morning 15 [l0, vI x, l2] st h Q = tA sc iX10_morning 16 [l0, vI x, l2] (vI x :: st) h Q := tA_pure mB_X10_morning dX10_morning_15 rfl
theorem rX10_morning_16 : tA sc iX10_morning 16 ls (vI y :: vI x :: st) h Q = (if y ≤ x then tA sc iX10_morning 32 ls st h Q else tA sc iX10_morning 19 ls st h Q) := tA_if mB_X10_morning dX10_morning_16 (fun _ _ _ _ => rfl) rfl
theorem rX10_morning_19 : tA sc iX10_morning 19 [vR r, l1, l2] st h Q = tA sc iX10_morning 20 [vR r, l1, l2] (vR r :: st) h Q := tA_pure mB_X10_morning dX10_morning_19 rfl
theorem rX10_morning_20 : tA sc iX10_morning 20 ls (vR (some o) :: st) h Q = oz (tget h o [10] 0) (fun v => tA sc iX10_morning 23 ls (v :: st) h Q) := tA_get mB_X10_morning mO_X10_morning dX10_morning_20 fT_10_10
theorem rX10_morning_23 (hci : tcl h o = some 9) : tA sc iX10_morning 23 ls [vR (some o)] h Q = tA sc iX9_dawn 0 [vR (some o), vU, vU] [] h (fun v h1 => tA sc iX10_morning 26 ls (tpu v []) h1 Q) := tA_cV mB_X10_morning mO_X10_morning dX10_morning_23 cT_10_202 rfl (Nat.le_of_ble_eq_true rfl) rfl rfl rfl hci
theorem rX10_morning_26 : tA sc iX10_morning 26 [l0, l1, vI x] st h Q = tA sc iX10_morning 29 [l0, tclr l1, vI (x + 1)] st h Q := tA_pure mB_X10_morning dX10_morning_26 rfl
theorem rX10_morning_29 : tA sc iX10_morning 29 ls st h Q = tA sc iX10_morning 14 ls st h Q := tA_jump mB_X10_morning dX10_morning_29 (fun _ _ _ _ => rfl) rfl
theorem rX10_morning_32 : tA sc iX10_morning 32 [vR r, l1, l2] st h Q = tA sc iX10_morning 33 [vR r, l1, l2] (vR r :: st) h Q := tA_pure mB_X10_morning dX10_morning_32 rfl
theorem rX10_morning_33 : tA sc iX10_morning 33 ls (vR (some o) :: st) h Q = oz (tget h o [10] 0) (fun v => tA sc iX10_morning 36 ls (v :: st) h Q) := tA_get mB_X10_morning mO_X10_morning dX10_morning_33 fT_10_10
theorem rX10_morning_36 : tA sc iX10_morning 36 ls (vR (some o) :: st) h Q = oz (tget h o [9] 6) (fun v => tA sc iX10_morning 39 ls (v :: st) h Q) := tA_get mB_X10_morning mO_X10_morning dX10_morning_36 fT_10_205
theorem rX10_morning_39 : tA sc iX10_morning 39 ls [vI x] h Q = Q (some (vI x)) h := tA_ret mB_X10_morning dX10_morning_39 (fun _ _ _ _ => rfl) (fun _ _ _ => rfl) (fun _ _ _ _ _ => rfl) rfl rfl
theorem mB_X10_now : mB iX10_now = cX10_now := rfl
theorem mO_X10_now : mO iX10_now = 10 := rfl
theorem rX10_now_0 : tA sc iX10_now 0 [vR r] st h Q = tA sc iX10_now 1 [vR r] (vR r :: st) h Q := tA_pure mB_X10_now dX10_now_0 rfl
theorem rX10_now_1 : tA sc iX10_now 1 ls (vR (some o) :: st) h Q = oz (tget h o [10] 0) (fun v => tA sc iX10_now 4 ls (v :: st) h Q) := tA_get mB_X10_now mO_X10_now dX10_now_1 fT_10_10
theorem rX10_now_4 : tA sc iX10_now 4 ls (vR (some o) :: st) h Q = oz (tget h o [9] 6) (fun v => tA sc iX10_now 7 ls (v :: st) h Q) := tA_get mB_X10_now mO_X10_now dX10_now_4 fT_10_205
theorem rX10_now_7 : tA sc iX10_now 7 ls [vI x] h Q = Q (some (vI x)) h := tA_ret mB_X10_now dX10_now_7 (fun _ _ _ _ => rfl) (fun _ _ _ => rfl) (fun _ _ _ _ _ => rfl) rfl rfl
theorem mB_X10_owner : mB iX10_owner = cX10_owner := rfl
theorem mO_X10_owner : mO iX10_owner = 10 := rfl
theorem rX10_owner_0 : tA sc iX10_owner 0 [l0, vI x, l2] st h Q = tA sc iX10_owner 1 [l0, vI x, l2] (vI x :: st) h Q := tA_pure mB_X10_owner dX10_owner_0 rfl
theorem rX10_owner_1 : tA sc iX10_owner 1 ls [vI p0] h Q = tA sc iX10_isDay 0 [vI p0] [] h (fun v h1 => tA sc iX10_owner 4 ls (tpu v []) h1 Q) := tA_cS mB_X10_owner mO_X10_owner dX10_owner_1 cT_10_77 ⟨Nat.le_of_ble_eq_true rfl, Nat.le_of_ble_eq_true rfl⟩ rfl rfl rfl rfl
theorem rX10_owner_4 : tA sc iX10_owner 4 ls (vI x :: st) h Q = (if ¬ x = 0 then tA sc iX10_owner 9 ls st h Q else tA sc iX10_owner 7 ls st h Q) := tA_if mB_X10_owner dX10_owner_4 (fun _ _ _ _ => rfl) rfl
theorem rX10_owner_7 : tA sc iX10_owner 7 ls st h Q = tA sc iX10_owner 8 ls (vI (-1) :: st) h Q := tA_pure mB_X10_owner dX10_owner_7 rfl
theorem rX10_owner_8 : tA sc iX10_owner 8 ls [vI x] h Q = Q (some (vI x)) h := tA_ret mB_X10_owner dX10_owner_8 (fun _ _ _ _ => rfl) (fun _ _ _ => rfl) (fun _ _ _ _ _ => rfl) rfl rfl
theorem rX10_owner_9 : tA sc iX10_owner 9 [vR r, l1, l2] st h Q = tA sc iX10_owner 10 [vR r, l1, l2] (vR r :: st) h Q := tA_pure mB_X10_owner dX10_owner_9 rfl
theorem rX10_owner_10 : tA sc iX10_owner 10 ls (vR (some o) :: st) h Q = oz (tget h o [10] 0) (fun v => tA sc iX10_owner 13 ls (v :: st) h Q) := tA_get mB_X10_owner mO_X10_owner dX10_owner_10 fT_10_10
theorem rX10_owner_13 : tA sc iX10_owner 13 [l0, vI x, l2] st h Q = tA sc iX10_owner 14 [l0, vI x, l2] (vI x :: st) h Q := tA_pure mB_X10_owner dX10_owner_13 rfl
theorem rX10_owner_14 (hci : tcl h o = some 9) : tA sc iX10_owner 14 ls [vI p0, vR (some o)] h Q = tA sc iX9_ownerOf 0 [vR (some o), vI p0, vU] [] h (fun v h1 => tA sc iX10_owner 17 ls (tpu v []) h1 Q) := tA_cV mB_X10_owner mO_X10_owner dX10_owner_14 cT_10_208 rfl (Nat.le_of_ble_eq_true rfl) rfl rfl rfl hci
theorem rX10_owner_17 : tA sc iX10_owner 17 [l0, l1, l2] (vI x :: st) h Q = tA sc iX10_owner 18 [l0, tclr l1, vI x] st h Q := tA_pure mB_X10_owner dX10_owner_17 rfl
theorem rX10_owner_18 : tA sc iX10_owner 18 [l0, l1, vI x] st h Q = tA sc iX10_owner 19 [l0, l1, vI x] (vI x :: st) h Q := tA_pure mB_X10_owner dX10_owner_18 rfl
theorem rX10_owner_19 : tA sc iX10_owner 19 ls (vI x :: st) h Q = (if 0 ≤ x then tA sc iX10_owner 27 ls st h Q else tA sc iX10_owner 22 ls st h Q) := tA_if mB_X10_owner dX10_owner_19 (fun _ _ _ _ => rfl) rfl
theorem rX10_owner_22 : tA sc iX10_owner 22 ls st h Q = tA sc iX10_owner 24 ls (vI (-3) :: st) h Q := tA_pure mB_X10_owner dX10_owner_22 rfl
theorem rX10_owner_24 : tA sc iX10_owner 24 ls st h Q = tA sc iX10_owner 28 ls st h Q := tA_jump mB_X10_owner dX10_owner_24 (fun _ _ _ _ => rfl) rfl
theorem rX10_owner_27 : tA sc iX10_owner 27 [l0, l1, vI x] st h Q = tA sc iX10_owner 28 [l0, l1, vI x] (vI x :: st) h Q := tA_pure mB_X10_owner dX10_owner_27 rfl
theorem rX10_owner_28 : tA sc iX10_owner 28 ls [vI x] h Q = Q (some (vI x)) h := tA_ret mB_X10_owner dX10_owner_28 (fun _ _ _ _ => rfl) (fun _ _ _ => rfl) (fun _ _ _ _ _ => rfl) rfl rfl
theorem mB_X10_odds : mB iX10_odds = cX10_odds := rfl
theorem mO_X10_odds : mO iX10_odds = 10 := rfl
theorem rX10_odds_0 : tA sc iX10_odds 0 [vR r, l1, l2, l3] st h Q = tA sc iX10_odds 1 [vR r, l1, l2, l3] (vR r :: st) h Q := tA_pure mB_X10_odds dX10_odds_0 rfl
theorem rX10_odds_1 : tA sc iX10_odds 1 [l0, vI x, l2, l3] st h Q = tA sc iX10_odds 2 [l0, vI x, l2, l3] (vI x :: st) h Q := tA_pure mB_X10_odds dX10_odds_1 rfl
theorem rX10_odds_2 (hci : tcl h o = some 10) : tA sc iX10_odds 2 ls [vI p0, vR (some o)] h Q = tA sc iX10_isComing 0 [vR (some o), vI p0] [] h (fun v h1 => tA sc iX10_odds 5 ls (tpu v []) h1 Q) := tA_cV mB_X10_odds mO_X10_odds dX10_odds_2 cT_10_159 rfl (Nat.le_of_ble_eq_true rfl) rfl rfl rfl hci
theorem rX10_odds_5 : tA sc iX10_odds 5 ls (vI x :: st) h Q = (if x = 0 then tA sc iX10_odds 22 ls st h Q else tA sc iX10_odds 8 ls st h Q) := tA_if mB_X10_odds dX10_odds_5 (fun _ _ _ _ => rfl) rfl
theorem rX10_odds_8 : tA sc iX10_odds 8 [l0, l1, vI x, l3] st h Q = tA sc iX10_odds 9 [l0, l1, vI x, l3] (vI x :: st) h Q := tA_pure mB_X10_odds dX10_odds_8 rfl
theorem rX10_odds_9 : tA sc iX10_odds 9 ls [vI p0] h Q = tA sc iX10_isWeather 0 [vI p0] [] h (fun v h1 => tA sc iX10_odds 12 ls (tpu v []) h1 Q) := tA_cS mB_X10_odds mO_X10_odds dX10_odds_9 cT_10_84 ⟨Nat.le_of_ble_eq_true rfl, Nat.le_of_ble_eq_true rfl⟩ rfl rfl rfl rfl
theorem rX10_odds_12 : tA sc iX10_odds 12 ls (vI x :: st) h Q = (if x = 0 then tA sc iX10_odds 22 ls st h Q else tA sc iX10_odds 15 ls st h Q) := tA_if mB_X10_odds dX10_odds_12 (fun _ _ _ _ => rfl) rfl
theorem rX10_odds_15 : tA sc iX10_odds 15 [l0, l1, l2, vI x] st h Q = tA sc iX10_odds 16 [l0, l1, l2, vI x] (vI x :: st) h Q := tA_pure mB_X10_odds dX10_odds_15 rfl
theorem rX10_odds_16 : tA sc iX10_odds 16 ls [vI p0] h Q = tA sc iX10_isPart 0 [vI p0] [] h (fun v h1 => tA sc iX10_odds 19 ls (tpu v []) h1 Q) := tA_cS mB_X10_odds mO_X10_odds dX10_odds_16 cT_10_211 ⟨Nat.le_of_ble_eq_true rfl, Nat.le_of_ble_eq_true rfl⟩ rfl rfl rfl rfl
theorem rX10_odds_19 : tA sc iX10_odds 19 ls (vI x :: st) h Q = (if ¬ x = 0 then tA sc iX10_odds 24 ls st h Q else tA sc iX10_odds 22 ls st h Q) := tA_if mB_X10_odds dX10_odds_19 (fun _ _ _ _ => rfl) rfl
theorem rX10_odds_22 : tA sc iX10_odds 22 ls st h Q = tA sc iX10_odds 23 ls (vI (-1) :: st) h Q := tA_pure mB_X10_odds dX10_odds_22 rfl
theorem rX10_odds_23 : tA sc iX10_odds 23 ls [vI x] h Q = Q (some (vI x)) h := tA_ret mB_X10_odds dX10_odds_23 (fun _ _ _ _ => rfl) (fun _ _ _ => rfl) (fun _ _ _ _ _ => rfl) rfl rfl
theorem rX10_odds_24 : tA sc iX10_odds 24 [vR r, l1, l2, l3] st h Q = tA sc iX10_odds 25 [vR r, l1, l2, l3] (vR r :: st) h Q := tA_pure mB_X10_odds dX10_odds_24 rfl
theorem rX10_odds_25 : tA sc iX10_odds 25 ls (vR (some o) :: st) h Q = oz (tget h o [10] 0) (fun v => tA sc iX10_odds 28 ls (v :: st) h Q) := tA_get mB_X10_odds mO_X10_odds dX10_odds_25 fT_10_10
theorem rX10_odds_28 : tA sc iX10_odds 28 [l0, vI x, l2, l3] st h Q = tA sc iX10_odds 29 [l0, vI x, l2, l3] (vI x :: st) h Q := tA_pure mB_X10_odds dX10_odds_28 rfl
theorem rX10_odds_29 : tA sc iX10_odds 29 [l0, l1, vI x, l3] st h Q = tA sc iX10_odds 30 [l0, l1, vI x, l3] (vI x :: st) h Q := tA_pure mB_X10_odds dX10_odds_29 rfl
theorem rX10_odds_30 (hci : tcl h o = some 9) : tA sc iX10_odds 30 ls [vI p1, vI p0, vR (some o)] h Q = tA sc iX9_weightOf 0 [vR (some o), vI p0, vI p1] [] h (fun v h1 => tA sc iX10_odds 33 ls (tpu v []) h1 Q) := tA_cV mB_X10_odds mO_X10_odds dX10_odds_30 cT_10_113 rfl (Nat.le_of_ble_eq_true rfl) rfl rfl rfl hci
theorem rX10_odds_33 : tA sc iX10_odds 33 ls (vI x :: st) h Q = tA sc iX10_odds 34 ls (vL x.toInt64 :: st) h Q := tA_pure mB_X10_odds dX10_odds_33 rfl
theorem rX10_odds_34 : tA sc iX10_odds 34 [vR r, l1, l2, l3] st h Q = tA sc iX10_odds 35 [vR r, l1, l2, l3] (vR r :: st) h Q := tA_pure mB_X10_odds dX10_odds_34 rfl
theorem rX10_odds_35 : tA sc iX10_odds 35 ls (vR (some o) :: st) h Q = oz (tget h o [10] 0) (fun v => tA sc iX10_odds 38 ls (v :: st) h Q) := tA_get mB_X10_odds mO_X10_odds dX10_odds_35 fT_10_10
theorem rX10_odds_38 : tA sc iX10_odds 38 [l0, vI x, l2, l3] st h Q = tA sc iX10_odds 39 [l0, vI x, l2, l3] (vI x :: st) h Q := tA_pure mB_X10_odds dX10_odds_38 rfl
theorem rX10_odds_39 (hci : tcl h o = some 9) : tA sc iX10_odds 39 ls [vI p0, vR (some o), s0] h Q = tA sc iX9_allOf 0 [vR (some o), vI p0] [] h (fun v h1 => tA sc iX10_odds 42 ls (tpu v [s0]) h1 Q) := tA_cV mB_X10_odds mO_X10_odds dX10_odds_39 cT_10_214 rfl (Nat.le_of_ble_eq_true rfl) rfl rfl rfl hci
theorem rX10_odds_42 : tA sc iX10_odds 42 ls (vI x :: st) h Q = tA sc iX10_odds 43 ls (vL x.toInt64 :: st) h Q := tA_pure mB_X10_odds dX10_odds_42 rfl
theorem rX10_odds_43 : tA sc iX10_odds 43 [l0, l1, l2, vI x] st h Q = tA sc iX10_odds 44 [l0, l1, l2, vI x] (vI x :: st) h Q := tA_pure mB_X10_odds dX10_odds_43 rfl
theorem rX10_odds_44 : tA sc iX10_odds 44 ls [vI p2, vL q1, vL q0] h Q = tA sc iX10_partOf 0 [vL q0, vU, vL q1, vU, vI p2, vU, vU] [] h (fun v h1 => tA sc iX10_odds 47 ls (tpu v []) h1 Q) := tA_cS mB_X10_odds mO_X10_odds dX10_odds_44 cT_10_217 ⟨Nat.le_of_ble_eq_true rfl, Nat.le_of_ble_eq_true rfl⟩ rfl rfl rfl rfl
theorem rX10_odds_47 : tA sc iX10_odds 47 ls (vL u :: st) h Q = tA sc iX10_odds 48 ls (vI u.toInt32 :: st) h Q := tA_pure mB_X10_odds dX10_odds_47 rfl
theorem rX10_odds_48 : tA sc iX10_odds 48 ls [vI x] h Q = Q (some (vI x)) h := tA_ret mB_X10_odds dX10_odds_48 (fun _ _ _ _ => rfl) (fun _ _ _ => rfl) (fun _ _ _ _ _ => rfl) rfl rfl
theorem mB_X10_gain : mB iX10_gain = cX10_gain := rfl
theorem mO_X10_gain : mO iX10_gain = 10 := rfl
theorem rX10_gain_0 : tA sc iX10_gain 0 [vR r, l1, l2, l3] st h Q = tA sc iX10_gain 1 [vR r, l1, l2, l3] (vR r :: st) h Q := tA_pure mB_X10_gain dX10_gain_0 rfl
theorem rX10_gain_1 : tA sc iX10_gain 1 [l0, vI x, l2, l3] st h Q = tA sc iX10_gain 2 [l0, vI x, l2, l3] (vI x :: st) h Q := tA_pure mB_X10_gain dX10_gain_1 rfl
theorem rX10_gain_2 (hci : tcl h o = some 10) : tA sc iX10_gain 2 ls [vI p0, vR (some o)] h Q = tA sc iX10_isComing 0 [vR (some o), vI p0] [] h (fun v h1 => tA sc iX10_gain 5 ls (tpu v []) h1 Q) := tA_cV mB_X10_gain mO_X10_gain dX10_gain_2 cT_10_159 rfl (Nat.le_of_ble_eq_true rfl) rfl rfl rfl hci
theorem rX10_gain_5 : tA sc iX10_gain 5 ls (vI x :: st) h Q = (if x = 0 then tA sc iX10_gain 34 ls st h Q else tA sc iX10_gain 8 ls st h Q) := tA_if mB_X10_gain dX10_gain_5 (fun _ _ _ _ => rfl) rfl
theorem rX10_gain_8 : tA sc iX10_gain 8 [l0, l1, vI x, l3] st h Q = tA sc iX10_gain 9 [l0, l1, vI x, l3] (vI x :: st) h Q := tA_pure mB_X10_gain dX10_gain_8 rfl
theorem rX10_gain_9 : tA sc iX10_gain 9 ls [vI p0] h Q = tA sc iX10_isWeather 0 [vI p0] [] h (fun v h1 => tA sc iX10_gain 12 ls (tpu v []) h1 Q) := tA_cS mB_X10_gain mO_X10_gain dX10_gain_9 cT_10_84 ⟨Nat.le_of_ble_eq_true rfl, Nat.le_of_ble_eq_true rfl⟩ rfl rfl rfl rfl
theorem rX10_gain_12 : tA sc iX10_gain 12 ls (vI x :: st) h Q = (if x = 0 then tA sc iX10_gain 34 ls st h Q else tA sc iX10_gain 15 ls st h Q) := tA_if mB_X10_gain dX10_gain_12 (fun _ _ _ _ => rfl) rfl
theorem rX10_gain_15 : tA sc iX10_gain 15 [l0, l1, l2, vI x] st h Q = tA sc iX10_gain 16 [l0, l1, l2, vI x] (vI x :: st) h Q := tA_pure mB_X10_gain dX10_gain_15 rfl
theorem rX10_gain_16 : tA sc iX10_gain 16 ls [vI p0] h Q = tA sc iX10_isPart 0 [vI p0] [] h (fun v h1 => tA sc iX10_gain 19 ls (tpu v []) h1 Q) := tA_cS mB_X10_gain mO_X10_gain dX10_gain_16 cT_10_211 ⟨Nat.le_of_ble_eq_true rfl, Nat.le_of_ble_eq_true rfl⟩ rfl rfl rfl rfl
theorem rX10_gain_19 : tA sc iX10_gain 19 ls (vI x :: st) h Q = (if x = 0 then tA sc iX10_gain 34 ls st h Q else tA sc iX10_gain 22 ls st h Q) := tA_if mB_X10_gain dX10_gain_19 (fun _ _ _ _ => rfl) rfl
theorem rX10_gain_22 : tA sc iX10_gain 22 [vR r, l1, l2, l3] st h Q = tA sc iX10_gain 23 [vR r, l1, l2, l3] (vR r :: st) h Q := tA_pure mB_X10_gain dX10_gain_22 rfl
theorem rX10_gain_23 : tA sc iX10_gain 23 ls (vR (some o) :: st) h Q = oz (tget h o [10] 0) (fun v => tA sc iX10_gain 26 ls (v :: st) h Q) := tA_get mB_X10_gain mO_X10_gain dX10_gain_23 fT_10_10
theorem rX10_gain_26 : tA sc iX10_gain 26 [l0, vI x, l2, l3] st h Q = tA sc iX10_gain 27 [l0, vI x, l2, l3] (vI x :: st) h Q := tA_pure mB_X10_gain dX10_gain_26 rfl
theorem rX10_gain_27 : tA sc iX10_gain 27 [l0, l1, vI x, l3] st h Q = tA sc iX10_gain 28 [l0, l1, vI x, l3] (vI x :: st) h Q := tA_pure mB_X10_gain dX10_gain_27 rfl
theorem rX10_gain_28 (hci : tcl h o = some 9) : tA sc iX10_gain 28 ls [vI p1, vI p0, vR (some o)] h Q = tA sc iX9_isSaid 0 [vR (some o), vI p0, vI p1] [] h (fun v h1 => tA sc iX10_gain 31 ls (tpu v []) h1 Q) := tA_cV mB_X10_gain mO_X10_gain dX10_gain_28 cT_10_162 rfl (Nat.le_of_ble_eq_true rfl) rfl rfl rfl hci
theorem rX10_gain_31 : tA sc iX10_gain 31 ls (vI x :: st) h Q = (if x = 0 then tA sc iX10_gain 38 ls st h Q else tA sc iX10_gain 34 ls st h Q) := tA_if mB_X10_gain dX10_gain_31 (fun _ _ _ _ => rfl) rfl
theorem rX10_gain_34 : tA sc iX10_gain 34 ls st h Q = tA sc iX10_gain 37 ls (vL (-1000000000000) :: st) h Q := tA_pure mB_X10_gain dX10_gain_34 rfl
theorem rX10_gain_37 : tA sc iX10_gain 37 ls [vL u] h Q = Q (some (vL u)) h := tA_ret mB_X10_gain dX10_gain_37 (fun _ _ _ _ => rfl) (fun _ _ _ => rfl) (fun _ _ _ _ _ => rfl) rfl rfl
theorem rX10_gain_38 : tA sc iX10_gain 38 [vR r, l1, l2, l3] st h Q = tA sc iX10_gain 39 [vR r, l1, l2, l3] (vR r :: st) h Q := tA_pure mB_X10_gain dX10_gain_38 rfl
theorem rX10_gain_39 : tA sc iX10_gain 39 ls (vR (some o) :: st) h Q = oz (tget h o [10] 0) (fun v => tA sc iX10_gain 42 ls (v :: st) h Q) := tA_get mB_X10_gain mO_X10_gain dX10_gain_39 fT_10_10
theorem rX10_gain_42 : tA sc iX10_gain 42 [l0, vI x, l2, l3] st h Q = tA sc iX10_gain 43 [l0, vI x, l2, l3] (vI x :: st) h Q := tA_pure mB_X10_gain dX10_gain_42 rfl
theorem rX10_gain_43 : tA sc iX10_gain 43 [l0, l1, vI x, l3] st h Q = tA sc iX10_gain 44 [l0, l1, vI x, l3] (vI x :: st) h Q := tA_pure mB_X10_gain dX10_gain_43 rfl
theorem rX10_gain_44 : tA sc iX10_gain 44 [vR r, l1, l2, l3] st h Q = tA sc iX10_gain 45 [vR r, l1, l2, l3] (vR r :: st) h Q := tA_pure mB_X10_gain dX10_gain_44 rfl
theorem rX10_gain_45 : tA sc iX10_gain 45 ls (vR (some o) :: st) h Q = oz (tget h o [10] 0) (fun v => tA sc iX10_gain 48 ls (v :: st) h Q) := tA_get mB_X10_gain mO_X10_gain dX10_gain_45 fT_10_10
theorem rX10_gain_48 : tA sc iX10_gain 48 ls (vR (some o) :: st) h Q = oz (tget h o [9] 2) (fun v => tA sc iX10_gain 51 ls (v :: st) h Q) := tA_get mB_X10_gain mO_X10_gain dX10_gain_48 fT_10_94
theorem rX10_gain_51 : tA sc iX10_gain 51 [l0, vI x, l2, l3] st h Q = tA sc iX10_gain 52 [l0, vI x, l2, l3] (vI x :: st) h Q := tA_pure mB_X10_gain dX10_gain_51 rfl
theorem rX10_gain_52 : tA sc iX10_gain 52 ls (vI j :: vR (some a) :: st) h Q = oz (tald sc h 0 a j) (fun v => tA sc iX10_gain 53 ls (vI v :: st) h Q) := tA_iald mB_X10_gain dX10_gain_52
theorem rX10_gain_53 (hci : tcl h o = some 9) : tA sc iX10_gain 53 ls [vI p2, vI p1, vI p0, vR (some o)] h Q = tA sc iX9_gainTimesAll 0 [vR (some o), vI p0, vI p1, vI p2] [] h (fun v h1 => tA sc iX10_gain 56 ls (tpu v []) h1 Q) := tA_cV mB_X10_gain mO_X10_gain dX10_gain_53 cT_10_223 rfl (Nat.le_of_ble_eq_true rfl) rfl rfl rfl hci
theorem rX10_gain_56 : tA sc iX10_gain 56 [vR r, l1, l2, l3] st h Q = tA sc iX10_gain 57 [vR r, l1, l2, l3] (vR r :: st) h Q := tA_pure mB_X10_gain dX10_gain_56 rfl
theorem rX10_gain_57 : tA sc iX10_gain 57 ls (vR (some o) :: st) h Q = oz (tget h o [10] 0) (fun v => tA sc iX10_gain 60 ls (v :: st) h Q) := tA_get mB_X10_gain mO_X10_gain dX10_gain_57 fT_10_10
theorem rX10_gain_60 : tA sc iX10_gain 60 [l0, vI x, l2, l3] st h Q = tA sc iX10_gain 61 [l0, vI x, l2, l3] (vI x :: st) h Q := tA_pure mB_X10_gain dX10_gain_60 rfl
theorem rX10_gain_61 (hci : tcl h o = some 9) : tA sc iX10_gain 61 ls [vI p0, vR (some o), s0] h Q = tA sc iX9_allOf 0 [vR (some o), vI p0] [] h (fun v h1 => tA sc iX10_gain 64 ls (tpu v [s0]) h1 Q) := tA_cV mB_X10_gain mO_X10_gain dX10_gain_61 cT_10_214 rfl (Nat.le_of_ble_eq_true rfl) rfl rfl rfl hci
theorem rX10_gain_64 : tA sc iX10_gain 64 ls (vI x :: st) h Q = tA sc iX10_gain 65 ls (vL x.toInt64 :: st) h Q := tA_pure mB_X10_gain dX10_gain_64 rfl
theorem rX10_gain_65 : tA sc iX10_gain 65 [l0, l1, l2, vI x] st h Q = tA sc iX10_gain 66 [l0, l1, l2, vI x] (vI x :: st) h Q := tA_pure mB_X10_gain dX10_gain_65 rfl
theorem rX10_gain_66 : tA sc iX10_gain 66 ls [vI p2, vL q1, vL q0] h Q = tA sc iX10_partOf 0 [vL q0, vU, vL q1, vU, vI p2, vU, vU] [] h (fun v h1 => tA sc iX10_gain 69 ls (tpu v []) h1 Q) := tA_cS mB_X10_gain mO_X10_gain dX10_gain_66 cT_10_217 ⟨Nat.le_of_ble_eq_true rfl, Nat.le_of_ble_eq_true rfl⟩ rfl rfl rfl rfl
theorem rX10_gain_69 : tA sc iX10_gain 69 ls [vL u] h Q = Q (some (vL u)) h := tA_ret mB_X10_gain dX10_gain_69 (fun _ _ _ _ => rfl) (fun _ _ _ => rfl) (fun _ _ _ _ _ => rfl) rfl rfl
theorem mB_X10_waited : mB iX10_waited = cX10_waited := rfl
theorem mO_X10_waited : mO iX10_waited = 10 := rfl
theorem rX10_waited_0 : tA sc iX10_waited 0 [l0, vI x, l2, l3, l4, l5, l6] st h Q = tA sc iX10_waited 1 [l0, vI x, l2, l3, l4, l5, l6] (vI x :: st) h Q := tA_pure mB_X10_waited dX10_waited_0 rfl
theorem rX10_waited_1 : tA sc iX10_waited 1 ls [vI p0] h Q = tA sc iX10_isDay 0 [vI p0] [] h (fun v h1 => tA sc iX10_waited 4 ls (tpu v []) h1 Q) := tA_cS mB_X10_waited mO_X10_waited dX10_waited_1 cT_10_77 ⟨Nat.le_of_ble_eq_true rfl, Nat.le_of_ble_eq_true rfl⟩ rfl rfl rfl rfl
theorem rX10_waited_4 : tA sc iX10_waited 4 ls (vI x :: st) h Q = (if x = 0 then tA sc iX10_waited 39 ls st h Q else tA sc iX10_waited 7 ls st h Q) := tA_if mB_X10_waited dX10_waited_4 (fun _ _ _ _ => rfl) rfl
theorem rX10_waited_7 : tA sc iX10_waited 7 [l0, l1, vI x, l3, l4, l5, l6] st h Q = tA sc iX10_waited 8 [l0, l1, vI x, l3, l4, l5, l6] (vI x :: st) h Q := tA_pure mB_X10_waited dX10_waited_7 rfl
theorem rX10_waited_8 : tA sc iX10_waited 8 ls [vI p0] h Q = tA sc iX10_isPart 0 [vI p0] [] h (fun v h1 => tA sc iX10_waited 11 ls (tpu v []) h1 Q) := tA_cS mB_X10_waited mO_X10_waited dX10_waited_8 cT_10_211 ⟨Nat.le_of_ble_eq_true rfl, Nat.le_of_ble_eq_true rfl⟩ rfl rfl rfl rfl
theorem rX10_waited_11 : tA sc iX10_waited 11 ls (vI x :: st) h Q = (if x = 0 then tA sc iX10_waited 39 ls st h Q else tA sc iX10_waited 14 ls st h Q) := tA_if mB_X10_waited dX10_waited_11 (fun _ _ _ _ => rfl) rfl
theorem rX10_waited_14 : tA sc iX10_waited 14 [vR r, l1, l2, l3, l4, l5, l6] st h Q = tA sc iX10_waited 15 [vR r, l1, l2, l3, l4, l5, l6] (vR r :: st) h Q := tA_pure mB_X10_waited dX10_waited_14 rfl
theorem rX10_waited_15 : tA sc iX10_waited 15 ls (vR (some o) :: st) h Q = oz (tget h o [10] 0) (fun v => tA sc iX10_waited 18 ls (v :: st) h Q) := tA_get mB_X10_waited mO_X10_waited dX10_waited_15 fT_10_10
theorem rX10_waited_18 : tA sc iX10_waited 18 ls (vR (some o) :: st) h Q = oz (tget h o [9] 2) (fun v => tA sc iX10_waited 21 ls (v :: st) h Q) := tA_get mB_X10_waited mO_X10_waited dX10_waited_18 fT_10_94
theorem rX10_waited_21 : tA sc iX10_waited 21 [l0, vI x, l2, l3, l4, l5, l6] st h Q = tA sc iX10_waited 22 [l0, vI x, l2, l3, l4, l5, l6] (vI x :: st) h Q := tA_pure mB_X10_waited dX10_waited_21 rfl
theorem rX10_waited_22 : tA sc iX10_waited 22 ls (vI j :: vR (some a) :: st) h Q = oz (tald sc h 0 a j) (fun v => tA sc iX10_waited 23 ls (vI v :: st) h Q) := tA_iald mB_X10_waited dX10_waited_22
theorem rX10_waited_23 : tA sc iX10_waited 23 ls (vI x :: st) h Q = (if 0 ≤ x then tA sc iX10_waited 39 ls st h Q else tA sc iX10_waited 26 ls st h Q) := tA_if mB_X10_waited dX10_waited_23 (fun _ _ _ _ => rfl) rfl
theorem rX10_waited_26 : tA sc iX10_waited 26 [l0, vI x, l2, l3, l4, l5, l6] st h Q = tA sc iX10_waited 27 [l0, vI x, l2, l3, l4, l5, l6] (vI x :: st) h Q := tA_pure mB_X10_waited dX10_waited_26 rfl
theorem rX10_waited_27 : tA sc iX10_waited 27 [vR r, l1, l2, l3, l4, l5, l6] st h Q = tA sc iX10_waited 28 [vR r, l1, l2, l3, l4, l5, l6] (vR r :: st) h Q := tA_pure mB_X10_waited dX10_waited_27 rfl
theorem rX10_waited_28 : tA sc iX10_waited 28 ls (vR (some o) :: st) h Q = oz (tget h o [10] 0) (fun v => tA sc iX10_waited 31 ls (v :: st) h Q) := tA_get mB_X10_waited mO_X10_waited dX10_waited_28 fT_10_10
theorem rX10_waited_31 : tA sc iX10_waited 31 ls (vR (some o) :: st) h Q = oz (tget h o [9] 6) (fun v => tA sc iX10_waited 34 ls (v :: st) h Q) := tA_get mB_X10_waited mO_X10_waited dX10_waited_31 fT_10_205
theorem rX10_waited_34 : tA sc iX10_waited 34 ls st h Q = tA sc iX10_waited 35 ls (vI (3) :: st) h Q := tA_pure mB_X10_waited dX10_waited_34 rfl
theorem rX10_waited_35 : tA sc iX10_waited 35 ls (vI y :: vI x :: st) h Q = tA sc iX10_waited 36 ls (vI (x + y) :: st) h Q := tA_pure mB_X10_waited dX10_waited_35 rfl
theorem rX10_waited_36 : tA sc iX10_waited 36 ls (vI y :: vI x :: st) h Q = (if y < x then tA sc iX10_waited 43 ls st h Q else tA sc iX10_waited 39 ls st h Q) := tA_if mB_X10_waited dX10_waited_36 (fun _ _ _ _ => rfl) rfl
theorem rX10_waited_39 : tA sc iX10_waited 39 ls st h Q = tA sc iX10_waited 42 ls (vL (-1000000000000) :: st) h Q := tA_pure mB_X10_waited dX10_waited_39 rfl
theorem rX10_waited_42 : tA sc iX10_waited 42 ls [vL u] h Q = Q (some (vL u)) h := tA_ret mB_X10_waited dX10_waited_42 (fun _ _ _ _ => rfl) (fun _ _ _ => rfl) (fun _ _ _ _ _ => rfl) rfl rfl
theorem rX10_waited_43 : tA sc iX10_waited 43 ls st h Q = tA sc iX10_waited 44 ls (vL 0 :: st) h Q := tA_pure mB_X10_waited dX10_waited_43 rfl
theorem rX10_waited_44 : tA sc iX10_waited 44 [l0, l1, l2, l3, l4, l5, l6] (vL u :: st) h Q = tA sc iX10_waited 45 [l0, l1, tclr l2, vL u, vU, l5, l6] st h Q := tA_pure mB_X10_waited dX10_waited_44 rfl
theorem rX10_waited_45 : tA sc iX10_waited 45 ls st h Q = tA sc iX10_waited 46 ls (vI (0) :: st) h Q := tA_pure mB_X10_waited dX10_waited_45 rfl
theorem rX10_waited_46 : tA sc iX10_waited 46 [l0, l1, l2, l3, l4, l5, l6] (vI x :: st) h Q = tA sc iX10_waited 48 [l0, l1, l2, l3, tclr l4, vI x, l6] st h Q := tA_pure mB_X10_waited dX10_waited_46 rfl
theorem rX10_waited_48 : tA sc iX10_waited 48 [l0, l1, l2, l3, l4, vI x, l6] st h Q = tA sc iX10_waited 50 [l0, l1, l2, l3, l4, vI x, l6] (vI x :: st) h Q := tA_pure mB_X10_waited dX10_waited_48 rfl
theorem rX10_waited_50 : tA sc iX10_waited 50 ls st h Q = tA sc iX10_waited 51 ls (vI (4) :: st) h Q := tA_pure mB_X10_waited dX10_waited_50 rfl
theorem rX10_waited_51 : tA sc iX10_waited 51 ls (vI y :: vI x :: st) h Q = (if y ≤ x then tA sc iX10_waited 89 ls st h Q else tA sc iX10_waited 54 ls st h Q) := tA_if mB_X10_waited dX10_waited_51 (fun _ _ _ _ => rfl) rfl
theorem rX10_waited_54 : tA sc iX10_waited 54 [l0, l1, l2, vL u, l4, l5, l6] st h Q = tA sc iX10_waited 55 [l0, l1, l2, vL u, l4, l5, l6] (vL u :: st) h Q := tA_pure mB_X10_waited dX10_waited_54 rfl
theorem rX10_waited_55 : tA sc iX10_waited 55 [vR r, l1, l2, l3, l4, l5, l6] st h Q = tA sc iX10_waited 56 [vR r, l1, l2, l3, l4, l5, l6] (vR r :: st) h Q := tA_pure mB_X10_waited dX10_waited_55 rfl
theorem rX10_waited_56 : tA sc iX10_waited 56 ls (vR (some o) :: st) h Q = oz (tget h o [10] 0) (fun v => tA sc iX10_waited 59 ls (v :: st) h Q) := tA_get mB_X10_waited mO_X10_waited dX10_waited_56 fT_10_10
theorem rX10_waited_59 : tA sc iX10_waited 59 ls (vR (some o) :: st) h Q = oz (tget h o [9] 1) (fun v => tA sc iX10_waited 62 ls (v :: st) h Q) := tA_get mB_X10_waited mO_X10_waited dX10_waited_59 fT_10_87
theorem rX10_waited_62 : tA sc iX10_waited 62 [l0, vI x, l2, l3, l4, l5, l6] st h Q = tA sc iX10_waited 63 [l0, vI x, l2, l3, l4, l5, l6] (vI x :: st) h Q := tA_pure mB_X10_waited dX10_waited_62 rfl
theorem rX10_waited_63 : tA sc iX10_waited 63 ls st h Q = tA sc iX10_waited 64 ls (vI (4) :: st) h Q := tA_pure mB_X10_waited dX10_waited_63 rfl
theorem rX10_waited_64 : tA sc iX10_waited 64 ls (vI y :: vI x :: st) h Q = tA sc iX10_waited 65 ls (vI (x * y) :: st) h Q := tA_pure mB_X10_waited dX10_waited_64 rfl
theorem rX10_waited_65 : tA sc iX10_waited 65 [l0, l1, l2, l3, l4, vI x, l6] st h Q = tA sc iX10_waited 67 [l0, l1, l2, l3, l4, vI x, l6] (vI x :: st) h Q := tA_pure mB_X10_waited dX10_waited_65 rfl
theorem rX10_waited_67 : tA sc iX10_waited 67 ls (vI y :: vI x :: st) h Q = tA sc iX10_waited 68 ls (vI (x + y) :: st) h Q := tA_pure mB_X10_waited dX10_waited_67 rfl
theorem rX10_waited_68 : tA sc iX10_waited 68 ls (vI j :: vR (some a) :: st) h Q = oz (tald sc h 0 a j) (fun v => tA sc iX10_waited 69 ls (vI v :: st) h Q) := tA_iald mB_X10_waited dX10_waited_68
theorem rX10_waited_69 : tA sc iX10_waited 69 ls (vI x :: st) h Q = tA sc iX10_waited 70 ls (vL x.toInt64 :: st) h Q := tA_pure mB_X10_waited dX10_waited_69 rfl
theorem rX10_waited_70 : tA sc iX10_waited 70 [vR r, l1, l2, l3, l4, l5, l6] st h Q = tA sc iX10_waited 71 [vR r, l1, l2, l3, l4, l5, l6] (vR r :: st) h Q := tA_pure mB_X10_waited dX10_waited_70 rfl
theorem rX10_waited_71 : tA sc iX10_waited 71 ls (vR (some o) :: st) h Q = oz (tget h o [10] 0) (fun v => tA sc iX10_waited 74 ls (v :: st) h Q) := tA_get mB_X10_waited mO_X10_waited dX10_waited_71 fT_10_10
theorem rX10_waited_74 : tA sc iX10_waited 74 [l0, vI x, l2, l3, l4, l5, l6] st h Q = tA sc iX10_waited 75 [l0, vI x, l2, l3, l4, l5, l6] (vI x :: st) h Q := tA_pure mB_X10_waited dX10_waited_74 rfl
theorem rX10_waited_75 : tA sc iX10_waited 75 [l0, l1, l2, l3, l4, vI x, l6] st h Q = tA sc iX10_waited 77 [l0, l1, l2, l3, l4, vI x, l6] (vI x :: st) h Q := tA_pure mB_X10_waited dX10_waited_75 rfl
theorem rX10_waited_77 (hci : tcl h o = some 9) : tA sc iX10_waited 77 ls [vI p1, vI p0, vR (some o), s0, s1] h Q = tA sc iX9_bestTimesAll 0 [vR (some o), vI p0, vI p1, vU, vU, vU] [] h (fun v h1 => tA sc iX10_waited 80 ls (tpu v [s0, s1]) h1 Q) := tA_cV mB_X10_waited mO_X10_waited dX10_waited_77 cT_10_227 rfl (Nat.le_of_ble_eq_true rfl) rfl rfl rfl hci
theorem rX10_waited_80 : tA sc iX10_waited 80 ls (vL w :: vL u :: st) h Q = tA sc iX10_waited 81 ls (vL (u * w) :: st) h Q := tA_pure mB_X10_waited dX10_waited_80 rfl
theorem rX10_waited_81 : tA sc iX10_waited 81 ls (vL w :: vL u :: st) h Q = tA sc iX10_waited 82 ls (vL (u + w) :: st) h Q := tA_pure mB_X10_waited dX10_waited_81 rfl
theorem rX10_waited_82 : tA sc iX10_waited 82 [l0, l1, l2, l3, l4, l5, l6] (vL u :: st) h Q = tA sc iX10_waited 83 [l0, l1, tclr l2, vL u, vU, l5, l6] st h Q := tA_pure mB_X10_waited dX10_waited_82 rfl
theorem rX10_waited_83 : tA sc iX10_waited 83 [l0, l1, l2, l3, l4, vI x, l6] st h Q = tA sc iX10_waited 86 [l0, l1, l2, l3, tclr l4, vI (x + 1), l6] st h Q := tA_pure mB_X10_waited dX10_waited_83 rfl
theorem rX10_waited_86 : tA sc iX10_waited 86 ls st h Q = tA sc iX10_waited 48 ls st h Q := tA_jump mB_X10_waited dX10_waited_86 (fun _ _ _ _ => rfl) rfl
theorem rX10_waited_89 : tA sc iX10_waited 89 [vR r, l1, l2, l3, l4, l5, l6] st h Q = tA sc iX10_waited 90 [vR r, l1, l2, l3, l4, l5, l6] (vR r :: st) h Q := tA_pure mB_X10_waited dX10_waited_89 rfl
theorem rX10_waited_90 : tA sc iX10_waited 90 ls (vR (some o) :: st) h Q = oz (tget h o [10] 0) (fun v => tA sc iX10_waited 93 ls (v :: st) h Q) := tA_get mB_X10_waited mO_X10_waited dX10_waited_90 fT_10_10
theorem rX10_waited_93 : tA sc iX10_waited 93 [l0, vI x, l2, l3, l4, l5, l6] st h Q = tA sc iX10_waited 94 [l0, vI x, l2, l3, l4, l5, l6] (vI x :: st) h Q := tA_pure mB_X10_waited dX10_waited_93 rfl
theorem rX10_waited_94 : tA sc iX10_waited 94 ls st h Q = tA sc iX10_waited 95 ls (vI (-1) :: st) h Q := tA_pure mB_X10_waited dX10_waited_94 rfl
theorem rX10_waited_95 (hci : tcl h o = some 9) : tA sc iX10_waited 95 ls [vI p1, vI p0, vR (some o)] h Q = tA sc iX9_allWith 0 [vR (some o), vI p0, vI p1, vU, vU] [] h (fun v h1 => tA sc iX10_waited 98 ls (tpu v []) h1 Q) := tA_cV mB_X10_waited mO_X10_waited dX10_waited_95 cT_10_90 rfl (Nat.le_of_ble_eq_true rfl) rfl rfl rfl hci
theorem rX10_waited_98 : tA sc iX10_waited 98 ls (vI x :: st) h Q = tA sc iX10_waited 99 ls (vL x.toInt64 :: st) h Q := tA_pure mB_X10_waited dX10_waited_98 rfl
theorem rX10_waited_99 : tA sc iX10_waited 99 [vR r, l1, l2, l3, l4, l5, l6] st h Q = tA sc iX10_waited 100 [vR r, l1, l2, l3, l4, l5, l6] (vR r :: st) h Q := tA_pure mB_X10_waited dX10_waited_99 rfl
theorem rX10_waited_100 : tA sc iX10_waited 100 ls (vR (some o) :: st) h Q = oz (tget h o [10] 0) (fun v => tA sc iX10_waited 103 ls (v :: st) h Q) := tA_get mB_X10_waited mO_X10_waited dX10_waited_100 fT_10_10
theorem rX10_waited_103 : tA sc iX10_waited 103 [l0, vI x, l2, l3, l4, l5, l6] st h Q = tA sc iX10_waited 104 [l0, vI x, l2, l3, l4, l5, l6] (vI x :: st) h Q := tA_pure mB_X10_waited dX10_waited_103 rfl
theorem rX10_waited_104 : tA sc iX10_waited 104 ls st h Q = tA sc iX10_waited 105 ls (vI (0) :: st) h Q := tA_pure mB_X10_waited dX10_waited_104 rfl
theorem rX10_waited_105 (hci : tcl h o = some 9) : tA sc iX10_waited 105 ls [vI p1, vI p0, vR (some o), s0] h Q = tA sc iX9_allWith 0 [vR (some o), vI p0, vI p1, vU, vU] [] h (fun v h1 => tA sc iX10_waited 108 ls (tpu v [s0]) h1 Q) := tA_cV mB_X10_waited mO_X10_waited dX10_waited_105 cT_10_90 rfl (Nat.le_of_ble_eq_true rfl) rfl rfl rfl hci
theorem rX10_waited_108 : tA sc iX10_waited 108 ls (vI x :: st) h Q = tA sc iX10_waited 109 ls (vL x.toInt64 :: st) h Q := tA_pure mB_X10_waited dX10_waited_108 rfl
theorem rX10_waited_109 : tA sc iX10_waited 109 ls (vL w :: vL u :: st) h Q = tA sc iX10_waited 110 ls (vL (u * w) :: st) h Q := tA_pure mB_X10_waited dX10_waited_109 rfl
theorem rX10_waited_110 : tA sc iX10_waited 110 [l0, l1, l2, l3, l4, l5, l6] (vL u :: st) h Q = tA sc iX10_waited 112 [l0, l1, l2, l3, tclr l4, vL u, vU] st h Q := tA_pure mB_X10_waited dX10_waited_110 rfl
theorem rX10_waited_112 : tA sc iX10_waited 112 [l0, l1, l2, vL u, l4, l5, l6] st h Q = tA sc iX10_waited 113 [l0, l1, l2, vL u, l4, l5, l6] (vL u :: st) h Q := tA_pure mB_X10_waited dX10_waited_112 rfl
theorem rX10_waited_113 : tA sc iX10_waited 113 [l0, l1, l2, l3, l4, vL u, l6] st h Q = tA sc iX10_waited 115 [l0, l1, l2, l3, l4, vL u, l6] (vL u :: st) h Q := tA_pure mB_X10_waited dX10_waited_113 rfl
theorem rX10_waited_115 : tA sc iX10_waited 115 [l0, l1, vI x, l3, l4, l5, l6] st h Q = tA sc iX10_waited 116 [l0, l1, vI x, l3, l4, l5, l6] (vI x :: st) h Q := tA_pure mB_X10_waited dX10_waited_115 rfl
theorem rX10_waited_116 : tA sc iX10_waited 116 ls [vI p2, vL q1, vL q0] h Q = tA sc iX10_partOf 0 [vL q0, vU, vL q1, vU, vI p2, vU, vU] [] h (fun v h1 => tA sc iX10_waited 119 ls (tpu v []) h1 Q) := tA_cS mB_X10_waited mO_X10_waited dX10_waited_116 cT_10_217 ⟨Nat.le_of_ble_eq_true rfl, Nat.le_of_ble_eq_true rfl⟩ rfl rfl rfl rfl
theorem rX10_waited_119 : tA sc iX10_waited 119 ls [vL u] h Q = Q (some (vL u)) h := tA_ret mB_X10_waited dX10_waited_119 (fun _ _ _ _ => rfl) (fun _ _ _ => rfl) (fun _ _ _ _ _ => rfl) rfl rfl
theorem mB_X10_best : mB iX10_best = cX10_best := rfl
theorem mO_X10_best : mO iX10_best = 10 := rfl
theorem rX10_best_0 : tA sc iX10_best 0 [l0, vI x, l2] st h Q = tA sc iX10_best 1 [l0, vI x, l2] (vI x :: st) h Q := tA_pure mB_X10_best dX10_best_0 rfl
theorem rX10_best_1 : tA sc iX10_best 1 ls (vI x :: st) h Q = (if x = 0 then tA sc iX10_best 11 ls st h Q else tA sc iX10_best 4 ls st h Q) := tA_if mB_X10_best dX10_best_1 (fun _ _ _ _ => rfl) rfl
theorem rX10_best_4 : tA sc iX10_best 4 [l0, vI x, l2] st h Q = tA sc iX10_best 5 [l0, vI x, l2] (vI x :: st) h Q := tA_pure mB_X10_best dX10_best_4 rfl
theorem rX10_best_5 : tA sc iX10_best 5 ls st h Q = tA sc iX10_best 6 ls (vI (1) :: st) h Q := tA_pure mB_X10_best dX10_best_5 rfl
theorem rX10_best_6 : tA sc iX10_best 6 ls (vI y :: vI x :: st) h Q = (if x = y then tA sc iX10_best 11 ls st h Q else tA sc iX10_best 9 ls st h Q) := tA_if mB_X10_best dX10_best_6 (fun _ _ _ _ => rfl) rfl
theorem rX10_best_9 : tA sc iX10_best 9 ls st h Q = tA sc iX10_best 10 ls (vI (-1) :: st) h Q := tA_pure mB_X10_best dX10_best_9 rfl
theorem rX10_best_10 : tA sc iX10_best 10 ls [vI x] h Q = Q (some (vI x)) h := tA_ret mB_X10_best dX10_best_10 (fun _ _ _ _ => rfl) (fun _ _ _ => rfl) (fun _ _ _ _ _ => rfl) rfl rfl
theorem rX10_best_11 : tA sc iX10_best 11 [vR r, l1, l2] st h Q = tA sc iX10_best 12 [vR r, l1, l2] (vR r :: st) h Q := tA_pure mB_X10_best dX10_best_11 rfl
theorem rX10_best_12 : tA sc iX10_best 12 ls (vR (some o) :: st) h Q = oz (tget h o [10] 0) (fun v => tA sc iX10_best 15 ls (v :: st) h Q) := tA_get mB_X10_best mO_X10_best dX10_best_12 fT_10_10
theorem rX10_best_15 (hci : tcl h o = some 9) : tA sc iX10_best 15 ls [vR (some o)] h Q = tA sc iX9_bestPlace 0 [vR (some o), vU, vU, vU, vU, vU, vU, vU, vU, vU, vU, vU] [] h (fun v h1 => tA sc iX10_best 18 ls (tpu v []) h1 Q) := tA_cV mB_X10_best mO_X10_best dX10_best_15 cT_10_231 rfl (Nat.le_of_ble_eq_true rfl) rfl rfl rfl hci
theorem rX10_best_18 : tA sc iX10_best 18 [l0, l1, l2] (vI x :: st) h Q = tA sc iX10_best 19 [l0, tclr l1, vI x] st h Q := tA_pure mB_X10_best dX10_best_18 rfl
theorem rX10_best_19 : tA sc iX10_best 19 [l0, l1, vI x] st h Q = tA sc iX10_best 20 [l0, l1, vI x] (vI x :: st) h Q := tA_pure mB_X10_best dX10_best_19 rfl
theorem rX10_best_20 : tA sc iX10_best 20 ls (vI x :: st) h Q = (if 0 ≤ x then tA sc iX10_best 26 ls st h Q else tA sc iX10_best 23 ls st h Q) := tA_if mB_X10_best dX10_best_20 (fun _ _ _ _ => rfl) rfl
theorem rX10_best_23 : tA sc iX10_best 23 ls st h Q = tA sc iX10_best 25 ls (vI (-3) :: st) h Q := tA_pure mB_X10_best dX10_best_23 rfl
theorem rX10_best_25 : tA sc iX10_best 25 ls [vI x] h Q = Q (some (vI x)) h := tA_ret mB_X10_best dX10_best_25 (fun _ _ _ _ => rfl) (fun _ _ _ => rfl) (fun _ _ _ _ _ => rfl) rfl rfl
theorem rX10_best_26 : tA sc iX10_best 26 [l0, vI x, l2] st h Q = tA sc iX10_best 27 [l0, vI x, l2] (vI x :: st) h Q := tA_pure mB_X10_best dX10_best_26 rfl
theorem rX10_best_27 : tA sc iX10_best 27 ls (vI x :: st) h Q = (if ¬ x = 0 then tA sc iX10_best 36 ls st h Q else tA sc iX10_best 30 ls st h Q) := tA_if mB_X10_best dX10_best_27 (fun _ _ _ _ => rfl) rfl
theorem rX10_best_30 : tA sc iX10_best 30 [l0, l1, vI x] st h Q = tA sc iX10_best 31 [l0, l1, vI x] (vI x :: st) h Q := tA_pure mB_X10_best dX10_best_30 rfl
theorem rX10_best_31 : tA sc iX10_best 31 ls st h Q = tA sc iX10_best 32 ls (vI (4) :: st) h Q := tA_pure mB_X10_best dX10_best_31 rfl
theorem rX10_best_32 : tA sc iX10_best 32 ls (vI y :: vI x :: st) h Q = (¬ y = 0 ∧ tA sc iX10_best 33 ls (vI (x / y) :: st) h Q) := tA_div mB_X10_best dX10_best_32 (fun _ _ _ => rfl) (fun _ _ _ _ _ => rfl) rfl (fun _ _ => rfl) rfl
theorem rX10_best_33 : tA sc iX10_best 33 ls st h Q = tA sc iX10_best 39 ls st h Q := tA_jump mB_X10_best dX10_best_33 (fun _ _ _ _ => rfl) rfl
theorem rX10_best_36 : tA sc iX10_best 36 [l0, l1, vI x] st h Q = tA sc iX10_best 37 [l0, l1, vI x] (vI x :: st) h Q := tA_pure mB_X10_best dX10_best_36 rfl
theorem rX10_best_37 : tA sc iX10_best 37 ls st h Q = tA sc iX10_best 38 ls (vI (4) :: st) h Q := tA_pure mB_X10_best dX10_best_37 rfl
theorem rX10_best_38 : tA sc iX10_best 38 ls (vI y :: vI x :: st) h Q = (¬ y = 0 ∧ tA sc iX10_best 39 ls (vI (x - x / y * y) :: st) h Q) := tA_div mB_X10_best dX10_best_38 (fun _ _ _ => rfl) (fun _ _ _ _ _ => rfl) rfl (fun _ _ => rfl) rfl
theorem rX10_best_39 : tA sc iX10_best 39 ls [vI x] h Q = Q (some (vI x)) h := tA_ret mB_X10_best dX10_best_39 (fun _ _ _ _ => rfl) (fun _ _ _ => rfl) (fun _ _ _ _ _ => rfl) rfl rfl
theorem mB_X10_whole : mB iX10_whole = cX10_whole := rfl
theorem mO_X10_whole : mO iX10_whole = 10 := rfl
theorem rX10_whole_0 : tA sc iX10_whole 0 [vR r, l1, l2, l3, l4, l5] st h Q = tA sc iX10_whole 1 [vR r, l1, l2, l3, l4, l5] (vR r :: st) h Q := tA_pure mB_X10_whole dX10_whole_0 rfl
theorem rX10_whole_1 : tA sc iX10_whole 1 [l0, vI x, l2, l3, l4, l5] st h Q = tA sc iX10_whole 2 [l0, vI x, l2, l3, l4, l5] (vI x :: st) h Q := tA_pure mB_X10_whole dX10_whole_1 rfl
theorem rX10_whole_2 (hci : tcl h o = some 10) : tA sc iX10_whole 2 ls [vI p0, vR (some o)] h Q = tA sc iX10_isComing 0 [vR (some o), vI p0] [] h (fun v h1 => tA sc iX10_whole 5 ls (tpu v []) h1 Q) := tA_cV mB_X10_whole mO_X10_whole dX10_whole_2 cT_10_159 rfl (Nat.le_of_ble_eq_true rfl) rfl rfl rfl hci
theorem rX10_whole_5 : tA sc iX10_whole 5 ls (vI x :: st) h Q = (if x = 0 then tA sc iX10_whole 15 ls st h Q else tA sc iX10_whole 8 ls st h Q) := tA_if mB_X10_whole dX10_whole_5 (fun _ _ _ _ => rfl) rfl
theorem rX10_whole_8 : tA sc iX10_whole 8 [l0, l1, vI x, l3, l4, l5] st h Q = tA sc iX10_whole 9 [l0, l1, vI x, l3, l4, l5] (vI x :: st) h Q := tA_pure mB_X10_whole dX10_whole_8 rfl
theorem rX10_whole_9 : tA sc iX10_whole 9 ls [vI p0] h Q = tA sc iX10_isPart 0 [vI p0] [] h (fun v h1 => tA sc iX10_whole 12 ls (tpu v []) h1 Q) := tA_cS mB_X10_whole mO_X10_whole dX10_whole_9 cT_10_211 ⟨Nat.le_of_ble_eq_true rfl, Nat.le_of_ble_eq_true rfl⟩ rfl rfl rfl rfl
theorem rX10_whole_12 : tA sc iX10_whole 12 ls (vI x :: st) h Q = (if ¬ x = 0 then tA sc iX10_whole 19 ls st h Q else tA sc iX10_whole 15 ls st h Q) := tA_if mB_X10_whole dX10_whole_12 (fun _ _ _ _ => rfl) rfl
theorem rX10_whole_15 : tA sc iX10_whole 15 ls st h Q = tA sc iX10_whole 18 ls (vL (-1000000000000) :: st) h Q := tA_pure mB_X10_whole dX10_whole_15 rfl
theorem rX10_whole_18 : tA sc iX10_whole 18 ls [vL u] h Q = Q (some (vL u)) h := tA_ret mB_X10_whole dX10_whole_18 (fun _ _ _ _ => rfl) (fun _ _ _ => rfl) (fun _ _ _ _ _ => rfl) rfl rfl
theorem rX10_whole_19 : tA sc iX10_whole 19 ls st h Q = tA sc iX10_whole 20 ls (vL 0 :: st) h Q := tA_pure mB_X10_whole dX10_whole_19 rfl
theorem rX10_whole_20 : tA sc iX10_whole 20 [l0, l1, l2, l3, l4, l5] (vL u :: st) h Q = tA sc iX10_whole 21 [l0, l1, tclr l2, vL u, vU, l5] st h Q := tA_pure mB_X10_whole dX10_whole_20 rfl
theorem rX10_whole_21 : tA sc iX10_whole 21 ls st h Q = tA sc iX10_whole 22 ls (vI (0) :: st) h Q := tA_pure mB_X10_whole dX10_whole_21 rfl
theorem rX10_whole_22 : tA sc iX10_whole 22 [l0, l1, l2, l3, l4, l5] (vI x :: st) h Q = tA sc iX10_whole 24 [l0, l1, l2, l3, tclr l4, vI x] st h Q := tA_pure mB_X10_whole dX10_whole_22 rfl
theorem rX10_whole_24 : tA sc iX10_whole 24 [l0, l1, l2, l3, l4, vI x] st h Q = tA sc iX10_whole 26 [l0, l1, l2, l3, l4, vI x] (vI x :: st) h Q := tA_pure mB_X10_whole dX10_whole_24 rfl
theorem rX10_whole_26 : tA sc iX10_whole 26 ls st h Q = tA sc iX10_whole 27 ls (vI (4) :: st) h Q := tA_pure mB_X10_whole dX10_whole_26 rfl
theorem rX10_whole_27 : tA sc iX10_whole 27 ls (vI y :: vI x :: st) h Q = (if y ≤ x then tA sc iX10_whole 71 ls st h Q else tA sc iX10_whole 30 ls st h Q) := tA_if mB_X10_whole dX10_whole_27 (fun _ _ _ _ => rfl) rfl
theorem rX10_whole_30 : tA sc iX10_whole 30 [vR r, l1, l2, l3, l4, l5] st h Q = tA sc iX10_whole 31 [vR r, l1, l2, l3, l4, l5] (vR r :: st) h Q := tA_pure mB_X10_whole dX10_whole_30 rfl
theorem rX10_whole_31 : tA sc iX10_whole 31 ls (vR (some o) :: st) h Q = oz (tget h o [10] 0) (fun v => tA sc iX10_whole 34 ls (v :: st) h Q) := tA_get mB_X10_whole mO_X10_whole dX10_whole_31 fT_10_10
theorem rX10_whole_34 : tA sc iX10_whole 34 [l0, vI x, l2, l3, l4, l5] st h Q = tA sc iX10_whole 35 [l0, vI x, l2, l3, l4, l5] (vI x :: st) h Q := tA_pure mB_X10_whole dX10_whole_34 rfl
theorem rX10_whole_35 : tA sc iX10_whole 35 [l0, l1, l2, l3, l4, vI x] st h Q = tA sc iX10_whole 37 [l0, l1, l2, l3, l4, vI x] (vI x :: st) h Q := tA_pure mB_X10_whole dX10_whole_35 rfl
theorem rX10_whole_37 (hci : tcl h o = some 9) : tA sc iX10_whole 37 ls [vI p1, vI p0, vR (some o)] h Q = tA sc iX9_isSaid 0 [vR (some o), vI p0, vI p1] [] h (fun v h1 => tA sc iX10_whole 40 ls (tpu v []) h1 Q) := tA_cV mB_X10_whole mO_X10_whole dX10_whole_37 cT_10_162 rfl (Nat.le_of_ble_eq_true rfl) rfl rfl rfl hci
theorem rX10_whole_40 : tA sc iX10_whole 40 ls (vI x :: st) h Q = (if ¬ x = 0 then tA sc iX10_whole 65 ls st h Q else tA sc iX10_whole 43 ls st h Q) := tA_if mB_X10_whole dX10_whole_40 (fun _ _ _ _ => rfl) rfl
theorem rX10_whole_43 : tA sc iX10_whole 43 [l0, l1, l2, vL u, l4, l5] st h Q = tA sc iX10_whole 44 [l0, l1, l2, vL u, l4, l5] (vL u :: st) h Q := tA_pure mB_X10_whole dX10_whole_43 rfl
theorem rX10_whole_44 : tA sc iX10_whole 44 [vR r, l1, l2, l3, l4, l5] st h Q = tA sc iX10_whole 45 [vR r, l1, l2, l3, l4, l5] (vR r :: st) h Q := tA_pure mB_X10_whole dX10_whole_44 rfl
theorem rX10_whole_45 : tA sc iX10_whole 45 ls (vR (some o) :: st) h Q = oz (tget h o [10] 0) (fun v => tA sc iX10_whole 48 ls (v :: st) h Q) := tA_get mB_X10_whole mO_X10_whole dX10_whole_45 fT_10_10
theorem rX10_whole_48 : tA sc iX10_whole 48 [l0, vI x, l2, l3, l4, l5] st h Q = tA sc iX10_whole 49 [l0, vI x, l2, l3, l4, l5] (vI x :: st) h Q := tA_pure mB_X10_whole dX10_whole_48 rfl
theorem rX10_whole_49 : tA sc iX10_whole 49 [l0, l1, l2, l3, l4, vI x] st h Q = tA sc iX10_whole 51 [l0, l1, l2, l3, l4, vI x] (vI x :: st) h Q := tA_pure mB_X10_whole dX10_whole_49 rfl
theorem rX10_whole_51 : tA sc iX10_whole 51 [vR r, l1, l2, l3, l4, l5] st h Q = tA sc iX10_whole 52 [vR r, l1, l2, l3, l4, l5] (vR r :: st) h Q := tA_pure mB_X10_whole dX10_whole_51 rfl
theorem rX10_whole_52 : tA sc iX10_whole 52 ls (vR (some o) :: st) h Q = oz (tget h o [10] 0) (fun v => tA sc iX10_whole 55 ls (v :: st) h Q) := tA_get mB_X10_whole mO_X10_whole dX10_whole_52 fT_10_10
theorem rX10_whole_55 : tA sc iX10_whole 55 ls (vR (some o) :: st) h Q = oz (tget h o [9] 2) (fun v => tA sc iX10_whole 58 ls (v :: st) h Q) := tA_get mB_X10_whole mO_X10_whole dX10_whole_55 fT_10_94
theorem rX10_whole_58 : tA sc iX10_whole 58 [l0, vI x, l2, l3, l4, l5] st h Q = tA sc iX10_whole 59 [l0, vI x, l2, l3, l4, l5] (vI x :: st) h Q := tA_pure mB_X10_whole dX10_whole_58 rfl
theorem rX10_whole_59 : tA sc iX10_whole 59 ls (vI j :: vR (some a) :: st) h Q = oz (tald sc h 0 a j) (fun v => tA sc iX10_whole 60 ls (vI v :: st) h Q) := tA_iald mB_X10_whole dX10_whole_59
theorem rX10_whole_60 (hci : tcl h o = some 9) : tA sc iX10_whole 60 ls [vI p2, vI p1, vI p0, vR (some o), s0] h Q = tA sc iX9_gainTimesAll 0 [vR (some o), vI p0, vI p1, vI p2] [] h (fun v h1 => tA sc iX10_whole 63 ls (tpu v [s0]) h1 Q) := tA_cV mB_X10_whole mO_X10_whole dX10_whole_60 cT_10_223 rfl (Nat.le_of_ble_eq_true rfl) rfl rfl rfl hci
theorem rX10_whole_63 : tA sc iX10_whole 63 ls (vL w :: vL u :: st) h Q = tA sc iX10_whole 64 ls (vL (u + w) :: st) h Q := tA_pure mB_X10_whole dX10_whole_63 rfl
theorem rX10_whole_64 : tA sc iX10_whole 64 [l0, l1, l2, l3, l4, l5] (vL u :: st) h Q = tA sc iX10_whole 65 [l0, l1, tclr l2, vL u, vU, l5] st h Q := tA_pure mB_X10_whole dX10_whole_64 rfl
theorem rX10_whole_65 : tA sc iX10_whole 65 [l0, l1, l2, l3, l4, vI x] st h Q = tA sc iX10_whole 68 [l0, l1, l2, l3, tclr l4, vI (x + 1)] st h Q := tA_pure mB_X10_whole dX10_whole_65 rfl
theorem rX10_whole_68 : tA sc iX10_whole 68 ls st h Q = tA sc iX10_whole 24 ls st h Q := tA_jump mB_X10_whole dX10_whole_68 (fun _ _ _ _ => rfl) rfl
theorem rX10_whole_71 : tA sc iX10_whole 71 [l0, l1, l2, vL u, l4, l5] st h Q = tA sc iX10_whole 72 [l0, l1, l2, vL u, l4, l5] (vL u :: st) h Q := tA_pure mB_X10_whole dX10_whole_71 rfl
theorem rX10_whole_72 : tA sc iX10_whole 72 [vR r, l1, l2, l3, l4, l5] st h Q = tA sc iX10_whole 73 [vR r, l1, l2, l3, l4, l5] (vR r :: st) h Q := tA_pure mB_X10_whole dX10_whole_72 rfl
theorem rX10_whole_73 : tA sc iX10_whole 73 ls (vR (some o) :: st) h Q = oz (tget h o [10] 0) (fun v => tA sc iX10_whole 76 ls (v :: st) h Q) := tA_get mB_X10_whole mO_X10_whole dX10_whole_73 fT_10_10
theorem rX10_whole_76 : tA sc iX10_whole 76 [l0, vI x, l2, l3, l4, l5] st h Q = tA sc iX10_whole 77 [l0, vI x, l2, l3, l4, l5] (vI x :: st) h Q := tA_pure mB_X10_whole dX10_whole_76 rfl
theorem rX10_whole_77 (hci : tcl h o = some 9) : tA sc iX10_whole 77 ls [vI p0, vR (some o), s0] h Q = tA sc iX9_allOf 0 [vR (some o), vI p0] [] h (fun v h1 => tA sc iX10_whole 80 ls (tpu v [s0]) h1 Q) := tA_cV mB_X10_whole mO_X10_whole dX10_whole_77 cT_10_214 rfl (Nat.le_of_ble_eq_true rfl) rfl rfl rfl hci
theorem rX10_whole_80 : tA sc iX10_whole 80 ls (vI x :: st) h Q = tA sc iX10_whole 81 ls (vL x.toInt64 :: st) h Q := tA_pure mB_X10_whole dX10_whole_80 rfl
theorem rX10_whole_81 : tA sc iX10_whole 81 [l0, l1, vI x, l3, l4, l5] st h Q = tA sc iX10_whole 82 [l0, l1, vI x, l3, l4, l5] (vI x :: st) h Q := tA_pure mB_X10_whole dX10_whole_81 rfl
theorem rX10_whole_82 : tA sc iX10_whole 82 ls [vI p2, vL q1, vL q0] h Q = tA sc iX10_partOf 0 [vL q0, vU, vL q1, vU, vI p2, vU, vU] [] h (fun v h1 => tA sc iX10_whole 85 ls (tpu v []) h1 Q) := tA_cS mB_X10_whole mO_X10_whole dX10_whole_82 cT_10_217 ⟨Nat.le_of_ble_eq_true rfl, Nat.le_of_ble_eq_true rfl⟩ rfl rfl rfl rfl
theorem rX10_whole_85 : tA sc iX10_whole 85 ls [vL u] h Q = Q (some (vL u)) h := tA_ret mB_X10_whole dX10_whole_85 (fun _ _ _ _ => rfl) (fun _ _ _ => rfl) (fun _ _ _ _ _ => rfl) rfl rfl
theorem mB_X10_owed : mB iX10_owed = cX10_owed := rfl
theorem mO_X10_owed : mO iX10_owed = 10 := rfl
theorem rX10_owed_0 : tA sc iX10_owed 0 [vR r, l1, l2, l3, l4] st h Q = tA sc iX10_owed 1 [vR r, l1, l2, l3, l4] (vR r :: st) h Q := tA_pure mB_X10_owed dX10_owed_0 rfl
theorem rX10_owed_1 : tA sc iX10_owed 1 ls (vR (some o) :: st) h Q = oz (tget h o [10] 0) (fun v => tA sc iX10_owed 4 ls (v :: st) h Q) := tA_get mB_X10_owed mO_X10_owed dX10_owed_1 fT_10_10
theorem rX10_owed_4 : tA sc iX10_owed 4 [l0, vI x, l2, l3, l4] st h Q = tA sc iX10_owed 5 [l0, vI x, l2, l3, l4] (vI x :: st) h Q := tA_pure mB_X10_owed dX10_owed_4 rfl
theorem rX10_owed_5 (hci : tcl h o = some 9) : tA sc iX10_owed 5 ls [vI p0, vR (some o)] h Q = tA sc iX9_sayerAt 0 [vR (some o), vI p0] [] h (fun v h1 => tA sc iX10_owed 8 ls (tpu v []) h1 Q) := tA_cV mB_X10_owed mO_X10_owed dX10_owed_5 cT_10_136 rfl (Nat.le_of_ble_eq_true rfl) rfl rfl rfl hci
theorem rX10_owed_8n : tA sc iX10_owed 8 ls (vR none :: st) h Q = tA sc iX10_owed 11 ls st h Q := tA_jump mB_X10_owed dX10_owed_8 (fun _ _ _ _ => rfl) rfl
theorem rX10_owed_8s : tA sc iX10_owed 8 ls (vR (some o) :: st) h Q = tA sc iX10_owed 15 ls st h Q := tA_jump mB_X10_owed dX10_owed_8 (fun _ _ _ _ => rfl) rfl
theorem rX10_owed_11 : tA sc iX10_owed 11 ls st h Q = tA sc iX10_owed 14 ls (vL (-1000000000000) :: st) h Q := tA_pure mB_X10_owed dX10_owed_11 rfl
theorem rX10_owed_14 : tA sc iX10_owed 14 ls [vL u] h Q = Q (some (vL u)) h := tA_ret mB_X10_owed dX10_owed_14 (fun _ _ _ _ => rfl) (fun _ _ _ => rfl) (fun _ _ _ _ _ => rfl) rfl rfl
theorem rX10_owed_15 : tA sc iX10_owed 15 ls st h Q = tA sc iX10_owed 18 ls (vL (1000) :: st) h Q := tA_pure mB_X10_owed dX10_owed_15 rfl
theorem rX10_owed_18 : tA sc iX10_owed 18 [vR r, l1, l2, l3, l4] st h Q = tA sc iX10_owed 19 [vR r, l1, l2, l3, l4] (vR r :: st) h Q := tA_pure mB_X10_owed dX10_owed_18 rfl
theorem rX10_owed_19 : tA sc iX10_owed 19 ls (vR (some o) :: st) h Q = oz (tget h o [10] 0) (fun v => tA sc iX10_owed 22 ls (v :: st) h Q) := tA_get mB_X10_owed mO_X10_owed dX10_owed_19 fT_10_10
theorem rX10_owed_22 : tA sc iX10_owed 22 ls (vR (some o) :: st) h Q = oz (tget h o [9] 9) (fun v => tA sc iX10_owed 25 ls (v :: st) h Q) := tA_get mB_X10_owed mO_X10_owed dX10_owed_22 fT_10_148
theorem rX10_owed_25 : tA sc iX10_owed 25 [l0, vI x, l2, l3, l4] st h Q = tA sc iX10_owed 26 [l0, vI x, l2, l3, l4] (vI x :: st) h Q := tA_pure mB_X10_owed dX10_owed_25 rfl
theorem rX10_owed_26 : tA sc iX10_owed 26 ls (vI j :: vR (some a) :: st) h Q = oz (tald sc h 0 a j) (fun v => tA sc iX10_owed 27 ls (vI v :: st) h Q) := tA_iald mB_X10_owed dX10_owed_26
theorem rX10_owed_27 : tA sc iX10_owed 27 ls (vI x :: st) h Q = tA sc iX10_owed 28 ls (vL x.toInt64 :: st) h Q := tA_pure mB_X10_owed dX10_owed_27 rfl
theorem rX10_owed_28 : tA sc iX10_owed 28 ls (vL w :: vL u :: st) h Q = tA sc iX10_owed 29 ls (vL (u * w) :: st) h Q := tA_pure mB_X10_owed dX10_owed_28 rfl
theorem rX10_owed_29 : tA sc iX10_owed 29 [l0, l1, l2, l3, l4] (vL u :: st) h Q = tA sc iX10_owed 30 [l0, tclr l1, vL u, vU, l4] st h Q := tA_pure mB_X10_owed dX10_owed_29 rfl
theorem rX10_owed_30 : tA sc iX10_owed 30 ls st h Q = tA sc iX10_owed 31 ls (vI (0) :: st) h Q := tA_pure mB_X10_owed dX10_owed_30 rfl
theorem rX10_owed_31 : tA sc iX10_owed 31 [l0, l1, l2, l3, l4] (vI x :: st) h Q = tA sc iX10_owed 33 [l0, l1, l2, tclr l3, vI x] st h Q := tA_pure mB_X10_owed dX10_owed_31 rfl
theorem rX10_owed_33 : tA sc iX10_owed 33 [l0, l1, l2, l3, vI x] st h Q = tA sc iX10_owed 35 [l0, l1, l2, l3, vI x] (vI x :: st) h Q := tA_pure mB_X10_owed dX10_owed_33 rfl
theorem rX10_owed_35 : tA sc iX10_owed 35 [vR r, l1, l2, l3, l4] st h Q = tA sc iX10_owed 36 [vR r, l1, l2, l3, l4] (vR r :: st) h Q := tA_pure mB_X10_owed dX10_owed_35 rfl
theorem rX10_owed_36 : tA sc iX10_owed 36 ls (vR (some o) :: st) h Q = oz (tget h o [10] 0) (fun v => tA sc iX10_owed 39 ls (v :: st) h Q) := tA_get mB_X10_owed mO_X10_owed dX10_owed_36 fT_10_10
theorem rX10_owed_39 : tA sc iX10_owed 39 ls (vR (some o) :: st) h Q = oz (tget h o [9] 14) (fun v => tA sc iX10_owed 42 ls (v :: st) h Q) := tA_get mB_X10_owed mO_X10_owed dX10_owed_39 fT_10_174
theorem rX10_owed_42 : tA sc iX10_owed 42 ls (vI y :: vI x :: st) h Q = (if y ≤ x then tA sc iX10_owed 77 ls st h Q else tA sc iX10_owed 45 ls st h Q) := tA_if mB_X10_owed dX10_owed_42 (fun _ _ _ _ => rfl) rfl
theorem rX10_owed_45 : tA sc iX10_owed 45 [vR r, l1, l2, l3, l4] st h Q = tA sc iX10_owed 46 [vR r, l1, l2, l3, l4] (vR r :: st) h Q := tA_pure mB_X10_owed dX10_owed_45 rfl
theorem rX10_owed_46 : tA sc iX10_owed 46 ls (vR (some o) :: st) h Q = oz (tget h o [10] 0) (fun v => tA sc iX10_owed 49 ls (v :: st) h Q) := tA_get mB_X10_owed mO_X10_owed dX10_owed_46 fT_10_10
theorem rX10_owed_49 : tA sc iX10_owed 49 ls (vR (some o) :: st) h Q = oz (tget h o [9] 11) (fun v => tA sc iX10_owed 52 ls (v :: st) h Q) := tA_get mB_X10_owed mO_X10_owed dX10_owed_49 fT_10_177
theorem rX10_owed_52 : tA sc iX10_owed 52 [l0, l1, l2, l3, vI x] st h Q = tA sc iX10_owed 54 [l0, l1, l2, l3, vI x] (vI x :: st) h Q := tA_pure mB_X10_owed dX10_owed_52 rfl
theorem rX10_owed_54 : tA sc iX10_owed 54 ls (vI j :: vR (some a) :: st) h Q = oz (tald sc h 0 a j) (fun v => tA sc iX10_owed 55 ls (vI v :: st) h Q) := tA_iald mB_X10_owed dX10_owed_54
theorem rX10_owed_55 : tA sc iX10_owed 55 [l0, vI x, l2, l3, l4] st h Q = tA sc iX10_owed 56 [l0, vI x, l2, l3, l4] (vI x :: st) h Q := tA_pure mB_X10_owed dX10_owed_55 rfl
theorem rX10_owed_56 : tA sc iX10_owed 56 ls (vI y :: vI x :: st) h Q = (if ¬ x = y then tA sc iX10_owed 71 ls st h Q else tA sc iX10_owed 59 ls st h Q) := tA_if mB_X10_owed dX10_owed_56 (fun _ _ _ _ => rfl) rfl
theorem rX10_owed_59 : tA sc iX10_owed 59 [l0, l1, vL u, l3, l4] st h Q = tA sc iX10_owed 60 [l0, l1, vL u, l3, l4] (vL u :: st) h Q := tA_pure mB_X10_owed dX10_owed_59 rfl
theorem rX10_owed_60 : tA sc iX10_owed 60 [vR r, l1, l2, l3, l4] st h Q = tA sc iX10_owed 61 [vR r, l1, l2, l3, l4] (vR r :: st) h Q := tA_pure mB_X10_owed dX10_owed_60 rfl
theorem rX10_owed_61 : tA sc iX10_owed 61 ls (vR (some o) :: st) h Q = oz (tget h o [10] 0) (fun v => tA sc iX10_owed 64 ls (v :: st) h Q) := tA_get mB_X10_owed mO_X10_owed dX10_owed_61 fT_10_10
theorem rX10_owed_64 : tA sc iX10_owed 64 [l0, l1, l2, l3, vI x] st h Q = tA sc iX10_owed 66 [l0, l1, l2, l3, vI x] (vI x :: st) h Q := tA_pure mB_X10_owed dX10_owed_64 rfl
theorem rX10_owed_66 (hci : tcl h o = some 9) : tA sc iX10_owed 66 ls [vI p0, vR (some o), s0] h Q = tA sc iX9_owedFor 0 [vR (some o), vI p0, vU, vU] [] h (fun v h1 => tA sc iX10_owed 69 ls (tpu v [s0]) h1 Q) := tA_cV mB_X10_owed mO_X10_owed dX10_owed_66 cT_10_236 rfl (Nat.le_of_ble_eq_true rfl) rfl rfl rfl hci
theorem rX10_owed_69 : tA sc iX10_owed 69 ls (vL w :: vL u :: st) h Q = tA sc iX10_owed 70 ls (vL (u + w) :: st) h Q := tA_pure mB_X10_owed dX10_owed_69 rfl
theorem rX10_owed_70 : tA sc iX10_owed 70 [l0, l1, l2, l3, l4] (vL u :: st) h Q = tA sc iX10_owed 71 [l0, tclr l1, vL u, vU, l4] st h Q := tA_pure mB_X10_owed dX10_owed_70 rfl
theorem rX10_owed_71 : tA sc iX10_owed 71 [l0, l1, l2, l3, vI x] st h Q = tA sc iX10_owed 74 [l0, l1, l2, tclr l3, vI (x + 1)] st h Q := tA_pure mB_X10_owed dX10_owed_71 rfl
theorem rX10_owed_74 : tA sc iX10_owed 74 ls st h Q = tA sc iX10_owed 33 ls st h Q := tA_jump mB_X10_owed dX10_owed_74 (fun _ _ _ _ => rfl) rfl
theorem rX10_owed_77 : tA sc iX10_owed 77 [l0, l1, vL u, l3, l4] st h Q = tA sc iX10_owed 78 [l0, l1, vL u, l3, l4] (vL u :: st) h Q := tA_pure mB_X10_owed dX10_owed_77 rfl
theorem rX10_owed_78 : tA sc iX10_owed 78 ls [vL u] h Q = Q (some (vL u)) h := tA_ret mB_X10_owed dX10_owed_78 (fun _ _ _ _ => rfl) (fun _ _ _ => rfl) (fun _ _ _ _ _ => rfl) rfl rfl
theorem mB_X10_believed : mB iX10_believed = cX10_believed := rfl
theorem mO_X10_believed : mO iX10_believed = 10 := rfl
theorem rX10_believed_0 : tA sc iX10_believed 0 [vR r, l1, l2, l3] st h Q = tA sc iX10_believed 1 [vR r, l1, l2, l3] (vR r :: st) h Q := tA_pure mB_X10_believed dX10_believed_0 rfl
theorem rX10_believed_1 : tA sc iX10_believed 1 ls (vR (some o) :: st) h Q = oz (tget h o [10] 0) (fun v => tA sc iX10_believed 4 ls (v :: st) h Q) := tA_get mB_X10_believed mO_X10_believed dX10_believed_1 fT_10_10
theorem rX10_believed_4 : tA sc iX10_believed 4 [l0, vI x, l2, l3] st h Q = tA sc iX10_believed 5 [l0, vI x, l2, l3] (vI x :: st) h Q := tA_pure mB_X10_believed dX10_believed_4 rfl
theorem rX10_believed_5 (hci : tcl h o = some 9) : tA sc iX10_believed 5 ls [vI p0, vR (some o)] h Q = tA sc iX9_sayerAt 0 [vR (some o), vI p0] [] h (fun v h1 => tA sc iX10_believed 8 ls (tpu v []) h1 Q) := tA_cV mB_X10_believed mO_X10_believed dX10_believed_5 cT_10_136 rfl (Nat.le_of_ble_eq_true rfl) rfl rfl rfl hci
theorem rX10_believed_8n : tA sc iX10_believed 8 ls (vR none :: st) h Q = tA sc iX10_believed 18 ls st h Q := tA_jump mB_X10_believed dX10_believed_8 (fun _ _ _ _ => rfl) rfl
theorem rX10_believed_8s : tA sc iX10_believed 8 ls (vR (some o) :: st) h Q = tA sc iX10_believed 11 ls st h Q := tA_jump mB_X10_believed dX10_believed_8 (fun _ _ _ _ => rfl) rfl
theorem rX10_believed_11 : tA sc iX10_believed 11 [l0, l1, vI x, l3] st h Q = tA sc iX10_believed 12 [l0, l1, vI x, l3] (vI x :: st) h Q := tA_pure mB_X10_believed dX10_believed_11 rfl
theorem rX10_believed_12 : tA sc iX10_believed 12 ls [vI p0] h Q = tA sc iX10_isPart 0 [vI p0] [] h (fun v h1 => tA sc iX10_believed 15 ls (tpu v []) h1 Q) := tA_cS mB_X10_believed mO_X10_believed dX10_believed_12 cT_10_211 ⟨Nat.le_of_ble_eq_true rfl, Nat.le_of_ble_eq_true rfl⟩ rfl rfl rfl rfl
theorem rX10_believed_15 : tA sc iX10_believed 15 ls (vI x :: st) h Q = (if ¬ x = 0 then tA sc iX10_believed 20 ls st h Q else tA sc iX10_believed 18 ls st h Q) := tA_if mB_X10_believed dX10_believed_15 (fun _ _ _ _ => rfl) rfl
theorem rX10_believed_18 : tA sc iX10_believed 18 ls st h Q = tA sc iX10_believed 19 ls (vI (-1) :: st) h Q := tA_pure mB_X10_believed dX10_believed_18 rfl
theorem rX10_believed_19 : tA sc iX10_believed 19 ls [vI x] h Q = Q (some (vI x)) h := tA_ret mB_X10_believed dX10_believed_19 (fun _ _ _ _ => rfl) (fun _ _ _ => rfl) (fun _ _ _ _ _ => rfl) rfl rfl
theorem rX10_believed_20 : tA sc iX10_believed 20 [vR r, l1, l2, l3] st h Q = tA sc iX10_believed 21 [vR r, l1, l2, l3] (vR r :: st) h Q := tA_pure mB_X10_believed dX10_believed_20 rfl
theorem rX10_believed_21 : tA sc iX10_believed 21 ls (vR (some o) :: st) h Q = oz (tget h o [10] 0) (fun v => tA sc iX10_believed 24 ls (v :: st) h Q) := tA_get mB_X10_believed mO_X10_believed dX10_believed_21 fT_10_10
theorem rX10_believed_24 : tA sc iX10_believed 24 [l0, vI x, l2, l3] st h Q = tA sc iX10_believed 25 [l0, vI x, l2, l3] (vI x :: st) h Q := tA_pure mB_X10_believed dX10_believed_24 rfl
theorem rX10_believed_25 (hci : tcl h o = some 9) : tA sc iX10_believed 25 ls [vI p0, vR (some o)] h Q = tA sc iX9_overOf 0 [vR (some o), vI p0, vU, vU] [] h (fun v h1 => tA sc iX10_believed 28 ls (tpu v []) h1 Q) := tA_cV mB_X10_believed mO_X10_believed dX10_believed_25 cT_10_240 rfl (Nat.le_of_ble_eq_true rfl) rfl rfl rfl hci
theorem rX10_believed_28 : tA sc iX10_believed 28 [l0, l1, l2, l3] (vI x :: st) h Q = tA sc iX10_believed 29 [l0, l1, tclr l2, vI x] st h Q := tA_pure mB_X10_believed dX10_believed_28 rfl
theorem rX10_believed_29 : tA sc iX10_believed 29 [l0, l1, l2, vI x] st h Q = tA sc iX10_believed 30 [l0, l1, l2, vI x] (vI x :: st) h Q := tA_pure mB_X10_believed dX10_believed_29 rfl
theorem rX10_believed_30 : tA sc iX10_believed 30 ls (vI x :: st) h Q = (if ¬ x = 0 then tA sc iX10_believed 37 ls st h Q else tA sc iX10_believed 33 ls st h Q) := tA_if mB_X10_believed dX10_believed_30 (fun _ _ _ _ => rfl) rfl
theorem rX10_believed_33 : tA sc iX10_believed 33 [l0, l1, vI x, l3] st h Q = tA sc iX10_believed 34 [l0, l1, vI x, l3] (vI x :: st) h Q := tA_pure mB_X10_believed dX10_believed_33 rfl
theorem rX10_believed_34 : tA sc iX10_believed 34 ls st h Q = tA sc iX10_believed 53 ls st h Q := tA_jump mB_X10_believed dX10_believed_34 (fun _ _ _ _ => rfl) rfl
theorem rX10_believed_37 : tA sc iX10_believed 37 [vR r, l1, l2, l3] st h Q = tA sc iX10_believed 38 [vR r, l1, l2, l3] (vR r :: st) h Q := tA_pure mB_X10_believed dX10_believed_37 rfl
theorem rX10_believed_38 : tA sc iX10_believed 38 ls (vR (some o) :: st) h Q = oz (tget h o [10] 0) (fun v => tA sc iX10_believed 41 ls (v :: st) h Q) := tA_get mB_X10_believed mO_X10_believed dX10_believed_38 fT_10_10
theorem rX10_believed_41 : tA sc iX10_believed 41 [l0, vI x, l2, l3] st h Q = tA sc iX10_believed 42 [l0, vI x, l2, l3] (vI x :: st) h Q := tA_pure mB_X10_believed dX10_believed_41 rfl
theorem rX10_believed_42 (hci : tcl h o = some 9) : tA sc iX10_believed 42 ls [vI p0, vR (some o)] h Q = tA sc iX9_rightOf 0 [vR (some o), vI p0, vU, vU] [] h (fun v h1 => tA sc iX10_believed 45 ls (tpu v []) h1 Q) := tA_cV mB_X10_believed mO_X10_believed dX10_believed_42 cT_10_243 rfl (Nat.le_of_ble_eq_true rfl) rfl rfl rfl hci
theorem rX10_believed_45 : tA sc iX10_believed 45 ls (vI x :: st) h Q = tA sc iX10_believed 46 ls (vL x.toInt64 :: st) h Q := tA_pure mB_X10_believed dX10_believed_45 rfl
theorem rX10_believed_46 : tA sc iX10_believed 46 [l0, l1, l2, vI x] st h Q = tA sc iX10_believed 47 [l0, l1, l2, vI x] (vI x :: st) h Q := tA_pure mB_X10_believed dX10_believed_46 rfl
theorem rX10_believed_47 : tA sc iX10_believed 47 ls (vI x :: st) h Q = tA sc iX10_believed 48 ls (vL x.toInt64 :: st) h Q := tA_pure mB_X10_believed dX10_believed_47 rfl
theorem rX10_believed_48 : tA sc iX10_believed 48 [l0, l1, vI x, l3] st h Q = tA sc iX10_believed 49 [l0, l1, vI x, l3] (vI x :: st) h Q := tA_pure mB_X10_believed dX10_believed_48 rfl
theorem rX10_believed_49 : tA sc iX10_believed 49 ls [vI p2, vL q1, vL q0] h Q = tA sc iX10_partOf 0 [vL q0, vU, vL q1, vU, vI p2, vU, vU] [] h (fun v h1 => tA sc iX10_believed 52 ls (tpu v []) h1 Q) := tA_cS mB_X10_believed mO_X10_believed dX10_believed_49 cT_10_217 ⟨Nat.le_of_ble_eq_true rfl, Nat.le_of_ble_eq_true rfl⟩ rfl rfl rfl rfl
theorem rX10_believed_52 : tA sc iX10_believed 52 ls (vL u :: st) h Q = tA sc iX10_believed 53 ls (vI u.toInt32 :: st) h Q := tA_pure mB_X10_believed dX10_believed_52 rfl
theorem rX10_believed_53 : tA sc iX10_believed 53 ls [vI x] h Q = Q (some (vI x)) h := tA_ret mB_X10_believed dX10_believed_53 (fun _ _ _ _ => rfl) (fun _ _ _ => rfl) (fun _ _ _ _ _ => rfl) rfl rfl
theorem mB_X10_whom : mB iX10_whom = cX10_whom := rfl
theorem mO_X10_whom : mO iX10_whom = 10 := rfl
theorem rX10_whom_0 : tA sc iX10_whom 0 ls st h Q = tA sc iX10_whom 2 ls (vI (-3) :: st) h Q := tA_pure mB_X10_whom dX10_whom_0 rfl
theorem rX10_whom_2 : tA sc iX10_whom 2 [l0, l1, l2, l3, l4, l5, l6] (vI x :: st) h Q = tA sc iX10_whom 3 [tclr l0, vI x, l2, l3, l4, l5, l6] st h Q := tA_pure mB_X10_whom dX10_whom_2 rfl
theorem rX10_whom_3 : tA sc iX10_whom 3 ls st h Q = tA sc iX10_whom 4 ls (vI (0) :: st) h Q := tA_pure mB_X10_whom dX10_whom_3 rfl
theorem rX10_whom_4 : tA sc iX10_whom 4 [l0, l1, l2, l3, l4, l5, l6] (vI x :: st) h Q = tA sc iX10_whom 5 [l0, tclr l1, vI x, l3, l4, l5, l6] st h Q := tA_pure mB_X10_whom dX10_whom_4 rfl
theorem rX10_whom_5 : tA sc iX10_whom 5 ls st h Q = tA sc iX10_whom 6 ls (vI (1) :: st) h Q := tA_pure mB_X10_whom dX10_whom_5 rfl
theorem rX10_whom_6 : tA sc iX10_whom 6 [l0, l1, l2, l3, l4, l5, l6] (vI x :: st) h Q = tA sc iX10_whom 7 [l0, l1, tclr l2, vI x, l4, l5, l6] st h Q := tA_pure mB_X10_whom dX10_whom_6 rfl
theorem rX10_whom_7 : tA sc iX10_whom 7 ls st h Q = tA sc iX10_whom 8 ls (vI (0) :: st) h Q := tA_pure mB_X10_whom dX10_whom_7 rfl
theorem rX10_whom_8 : tA sc iX10_whom 8 [l0, l1, l2, l3, l4, l5, l6] (vI x :: st) h Q = tA sc iX10_whom 10 [l0, l1, l2, tclr l3, vI x, l5, l6] st h Q := tA_pure mB_X10_whom dX10_whom_8 rfl
theorem rX10_whom_10 : tA sc iX10_whom 10 [l0, l1, l2, l3, vI x, l5, l6] st h Q = tA sc iX10_whom 12 [l0, l1, l2, l3, vI x, l5, l6] (vI x :: st) h Q := tA_pure mB_X10_whom dX10_whom_10 rfl
theorem rX10_whom_12 : tA sc iX10_whom 12 [vR r, l1, l2, l3, l4, l5, l6] st h Q = tA sc iX10_whom 13 [vR r, l1, l2, l3, l4, l5, l6] (vR r :: st) h Q := tA_pure mB_X10_whom dX10_whom_12 rfl
theorem rX10_whom_13 : tA sc iX10_whom 13 ls (vR (some o) :: st) h Q = oz (tget h o [10] 0) (fun v => tA sc iX10_whom 16 ls (v :: st) h Q) := tA_get mB_X10_whom mO_X10_whom dX10_whom_13 fT_10_10
theorem rX10_whom_16 : tA sc iX10_whom 16 ls (vR (some o) :: st) h Q = oz (tget h o [9] 10) (fun v => tA sc iX10_whom 19 ls (v :: st) h Q) := tA_get mB_X10_whom mO_X10_whom dX10_whom_16 fT_10_74
theorem rX10_whom_19 : tA sc iX10_whom 19 ls (vI y :: vI x :: st) h Q = (if y ≤ x then tA sc iX10_whom 78 ls st h Q else tA sc iX10_whom 22 ls st h Q) := tA_if mB_X10_whom dX10_whom_19 (fun _ _ _ _ => rfl) rfl
theorem rX10_whom_22 : tA sc iX10_whom 22 [vR r, l1, l2, l3, l4, l5, l6] st h Q = tA sc iX10_whom 23 [vR r, l1, l2, l3, l4, l5, l6] (vR r :: st) h Q := tA_pure mB_X10_whom dX10_whom_22 rfl
theorem rX10_whom_23 : tA sc iX10_whom 23 ls (vR (some o) :: st) h Q = oz (tget h o [10] 0) (fun v => tA sc iX10_whom 26 ls (v :: st) h Q) := tA_get mB_X10_whom mO_X10_whom dX10_whom_23 fT_10_10
theorem rX10_whom_26 : tA sc iX10_whom 26 [l0, l1, l2, l3, vI x, l5, l6] st h Q = tA sc iX10_whom 28 [l0, l1, l2, l3, vI x, l5, l6] (vI x :: st) h Q := tA_pure mB_X10_whom dX10_whom_26 rfl
theorem rX10_whom_28 (hci : tcl h o = some 9) : tA sc iX10_whom 28 ls [vI p0, vR (some o)] h Q = tA sc iX9_rightOf 0 [vR (some o), vI p0, vU, vU] [] h (fun v h1 => tA sc iX10_whom 31 ls (tpu v []) h1 Q) := tA_cV mB_X10_whom mO_X10_whom dX10_whom_28 cT_10_243 rfl (Nat.le_of_ble_eq_true rfl) rfl rfl rfl hci
theorem rX10_whom_31 : tA sc iX10_whom 31 [l0, l1, l2, l3, l4, l5, l6] (vI x :: st) h Q = tA sc iX10_whom 33 [l0, l1, l2, l3, tclr l4, vI x, l6] st h Q := tA_pure mB_X10_whom dX10_whom_31 rfl
theorem rX10_whom_33 : tA sc iX10_whom 33 ls st h Q = tA sc iX10_whom 34 ls (vI (1) :: st) h Q := tA_pure mB_X10_whom dX10_whom_33 rfl
theorem rX10_whom_34 : tA sc iX10_whom 34 [vR r, l1, l2, l3, l4, l5, l6] st h Q = tA sc iX10_whom 35 [vR r, l1, l2, l3, l4, l5, l6] (vR r :: st) h Q := tA_pure mB_X10_whom dX10_whom_34 rfl
theorem rX10_whom_35 : tA sc iX10_whom 35 ls (vR (some o) :: st) h Q = oz (tget h o [10] 0) (fun v => tA sc iX10_whom 38 ls (v :: st) h Q) := tA_get mB_X10_whom mO_X10_whom dX10_whom_35 fT_10_10
theorem rX10_whom_38 : tA sc iX10_whom 38 [l0, l1, l2, l3, vI x, l5, l6] st h Q = tA sc iX10_whom 40 [l0, l1, l2, l3, vI x, l5, l6] (vI x :: st) h Q := tA_pure mB_X10_whom dX10_whom_38 rfl
theorem rX10_whom_40 (hci : tcl h o = some 9) : tA sc iX10_whom 40 ls [vI p0, vR (some o), s0] h Q = tA sc iX9_overOf 0 [vR (some o), vI p0, vU, vU] [] h (fun v h1 => tA sc iX10_whom 43 ls (tpu v [s0]) h1 Q) := tA_cV mB_X10_whom mO_X10_whom dX10_whom_40 cT_10_240 rfl (Nat.le_of_ble_eq_true rfl) rfl rfl rfl hci
theorem rX10_whom_43 : tA sc iX10_whom 43 ls [vI p1, vI p0] h Q = tA sc iX10_whom 46 ls (vI (if p0 < p1 then p1 else p0) :: []) h Q := tA_cN mB_X10_whom mO_X10_whom dX10_whom_43 (fun _ _ _ _ => rfl) (fun _ _ _ => rfl) (fun _ _ _ _ _ => rfl) rfl cT_10_246 rfl rfl
theorem rX10_whom_46 : tA sc iX10_whom 46 [l0, l1, l2, l3, l4, l5, l6] (vI x :: st) h Q = tA sc iX10_whom 48 [l0, l1, l2, l3, l4, tclr l5, vI x] st h Q := tA_pure mB_X10_whom dX10_whom_46 rfl
theorem rX10_whom_48 : tA sc iX10_whom 48 [l0, vI x, l2, l3, l4, l5, l6] st h Q = tA sc iX10_whom 49 [l0, vI x, l2, l3, l4, l5, l6] (vI x :: st) h Q := tA_pure mB_X10_whom dX10_whom_48 rfl
theorem rX10_whom_49 : tA sc iX10_whom 49 ls (vI x :: st) h Q = (if x < 0 then tA sc iX10_whom 63 ls st h Q else tA sc iX10_whom 52 ls st h Q) := tA_if mB_X10_whom dX10_whom_49 (fun _ _ _ _ => rfl) rfl
theorem rX10_whom_52 : tA sc iX10_whom 52 [l0, l1, l2, l3, l4, vI x, l6] st h Q = tA sc iX10_whom 54 [l0, l1, l2, l3, l4, vI x, l6] (vI x :: st) h Q := tA_pure mB_X10_whom dX10_whom_52 rfl
theorem rX10_whom_54 : tA sc iX10_whom 54 [l0, l1, l2, vI x, l4, l5, l6] st h Q = tA sc iX10_whom 55 [l0, l1, l2, vI x, l4, l5, l6] (vI x :: st) h Q := tA_pure mB_X10_whom dX10_whom_54 rfl
theorem rX10_whom_55 : tA sc iX10_whom 55 ls (vI y :: vI x :: st) h Q = tA sc iX10_whom 56 ls (vI (x * y) :: st) h Q := tA_pure mB_X10_whom dX10_whom_55 rfl
theorem rX10_whom_56 : tA sc iX10_whom 56 [l0, l1, vI x, l3, l4, l5, l6] st h Q = tA sc iX10_whom 57 [l0, l1, vI x, l3, l4, l5, l6] (vI x :: st) h Q := tA_pure mB_X10_whom dX10_whom_56 rfl
theorem rX10_whom_57 : tA sc iX10_whom 57 [l0, l1, l2, l3, l4, l5, vI x] st h Q = tA sc iX10_whom 59 [l0, l1, l2, l3, l4, l5, vI x] (vI x :: st) h Q := tA_pure mB_X10_whom dX10_whom_57 rfl
theorem rX10_whom_59 : tA sc iX10_whom 59 ls (vI y :: vI x :: st) h Q = tA sc iX10_whom 60 ls (vI (x * y) :: st) h Q := tA_pure mB_X10_whom dX10_whom_59 rfl
theorem rX10_whom_60 : tA sc iX10_whom 60 ls (vI y :: vI x :: st) h Q = (if x ≤ y then tA sc iX10_whom 72 ls st h Q else tA sc iX10_whom 63 ls st h Q) := tA_if mB_X10_whom dX10_whom_60 (fun _ _ _ _ => rfl) rfl
theorem rX10_whom_63 : tA sc iX10_whom 63 [l0, l1, l2, l3, vI x, l5, l6] st h Q = tA sc iX10_whom 65 [l0, l1, l2, l3, vI x, l5, l6] (vI x :: st) h Q := tA_pure mB_X10_whom dX10_whom_63 rfl
theorem rX10_whom_65 : tA sc iX10_whom 65 [l0, l1, l2, l3, l4, l5, l6] (vI x :: st) h Q = tA sc iX10_whom 66 [tclr l0, vI x, l2, l3, l4, l5, l6] st h Q := tA_pure mB_X10_whom dX10_whom_65 rfl
theorem rX10_whom_66 : tA sc iX10_whom 66 [l0, l1, l2, l3, l4, vI x, l6] st h Q = tA sc iX10_whom 68 [l0, l1, l2, l3, l4, vI x, l6] (vI x :: st) h Q := tA_pure mB_X10_whom dX10_whom_66 rfl
theorem rX10_whom_68 : tA sc iX10_whom 68 [l0, l1, l2, l3, l4, l5, l6] (vI x :: st) h Q = tA sc iX10_whom 69 [l0, tclr l1, vI x, l3, l4, l5, l6] st h Q := tA_pure mB_X10_whom dX10_whom_68 rfl
theorem rX10_whom_69 : tA sc iX10_whom 69 [l0, l1, l2, l3, l4, l5, vI x] st h Q = tA sc iX10_whom 71 [l0, l1, l2, l3, l4, l5, vI x] (vI x :: st) h Q := tA_pure mB_X10_whom dX10_whom_69 rfl
theorem rX10_whom_71 : tA sc iX10_whom 71 [l0, l1, l2, l3, l4, l5, l6] (vI x :: st) h Q = tA sc iX10_whom 72 [l0, l1, tclr l2, vI x, l4, l5, l6] st h Q := tA_pure mB_X10_whom dX10_whom_71 rfl
theorem rX10_whom_72 : tA sc iX10_whom 72 [l0, l1, l2, l3, vI x, l5, l6] st h Q = tA sc iX10_whom 75 [l0, l1, l2, tclr l3, vI (x + 1), l5, l6] st h Q := tA_pure mB_X10_whom dX10_whom_72 rfl
theorem rX10_whom_75 : tA sc iX10_whom 75 ls st h Q = tA sc iX10_whom 10 ls st h Q := tA_jump mB_X10_whom dX10_whom_75 (fun _ _ _ _ => rfl) rfl
theorem rX10_whom_78 : tA sc iX10_whom 78 [l0, vI x, l2, l3, l4, l5, l6] st h Q = tA sc iX10_whom 79 [l0, vI x, l2, l3, l4, l5, l6] (vI x :: st) h Q := tA_pure mB_X10_whom dX10_whom_78 rfl
theorem rX10_whom_79 : tA sc iX10_whom 79 ls [vI x] h Q = Q (some (vI x)) h := tA_ret mB_X10_whom dX10_whom_79 (fun _ _ _ _ => rfl) (fun _ _ _ => rfl) (fun _ _ _ _ _ => rfl) rfl rfl
theorem mB_X10_open : mB iX10_open = cX10_open := rfl
theorem mO_X10_open : mO iX10_open = 10 := rfl
theorem rX10_open_0 : tA sc iX10_open 0 ls st h Q = tA sc iX10_open 1 ls (vI (0) :: st) h Q := tA_pure mB_X10_open dX10_open_0 rfl
theorem rX10_open_1 : tA sc iX10_open 1 [l0, l1, l2] (vI x :: st) h Q = tA sc iX10_open 2 [tclr l0, vI x, l2] st h Q := tA_pure mB_X10_open dX10_open_1 rfl
theorem rX10_open_2 : tA sc iX10_open 2 [vR r, l1, l2] st h Q = tA sc iX10_open 3 [vR r, l1, l2] (vR r :: st) h Q := tA_pure mB_X10_open dX10_open_2 rfl
theorem rX10_open_3 : tA sc iX10_open 3 ls (vR (some o) :: st) h Q = oz (tget h o [10] 0) (fun v => tA sc iX10_open 6 ls (v :: st) h Q) := tA_get mB_X10_open mO_X10_open dX10_open_3 fT_10_10
theorem rX10_open_6 : tA sc iX10_open 6 ls (vR (some o) :: st) h Q = oz (tget h o [9] 6) (fun v => tA sc iX10_open 9 ls (v :: st) h Q) := tA_get mB_X10_open mO_X10_open dX10_open_6 fT_10_205
theorem rX10_open_9 : tA sc iX10_open 9 [l0, l1, l2] (vI x :: st) h Q = tA sc iX10_open 10 [l0, tclr l1, vI x] st h Q := tA_pure mB_X10_open dX10_open_9 rfl
theorem rX10_open_10 : tA sc iX10_open 10 [l0, l1, vI x] st h Q = tA sc iX10_open 11 [l0, l1, vI x] (vI x :: st) h Q := tA_pure mB_X10_open dX10_open_10 rfl
theorem rX10_open_11 : tA sc iX10_open 11 ls st h Q = tA sc iX10_open 13 ls (vI (20) :: st) h Q := tA_pure mB_X10_open dX10_open_11 rfl
theorem rX10_open_13 : tA sc iX10_open 13 ls (vI y :: vI x :: st) h Q = (if y ≤ x then tA sc iX10_open 40 ls st h Q else tA sc iX10_open 16 ls st h Q) := tA_if mB_X10_open dX10_open_13 (fun _ _ _ _ => rfl) rfl
theorem rX10_open_16 : tA sc iX10_open 16 [vR r, l1, l2] st h Q = tA sc iX10_open 17 [vR r, l1, l2] (vR r :: st) h Q := tA_pure mB_X10_open dX10_open_16 rfl
theorem rX10_open_17 : tA sc iX10_open 17 ls (vR (some o) :: st) h Q = oz (tget h o [10] 0) (fun v => tA sc iX10_open 20 ls (v :: st) h Q) := tA_get mB_X10_open mO_X10_open dX10_open_17 fT_10_10
theorem rX10_open_20 : tA sc iX10_open 20 ls (vR (some o) :: st) h Q = oz (tget h o [9] 4) (fun v => tA sc iX10_open 23 ls (v :: st) h Q) := tA_get mB_X10_open mO_X10_open dX10_open_20 fT_10_110
theorem rX10_open_23 : tA sc iX10_open 23 [l0, l1, vI x] st h Q = tA sc iX10_open 24 [l0, l1, vI x] (vI x :: st) h Q := tA_pure mB_X10_open dX10_open_23 rfl
theorem rX10_open_24 : tA sc iX10_open 24 ls (vI j :: vR (some a) :: st) h Q = oz (tald sc h 0 a j) (fun v => tA sc iX10_open 25 ls (vI v :: st) h Q) := tA_iald mB_X10_open dX10_open_24
theorem rX10_open_25 : tA sc iX10_open 25 ls (vI x :: st) h Q = (if ¬ x = 0 then tA sc iX10_open 34 ls st h Q else tA sc iX10_open 28 ls st h Q) := tA_if mB_X10_open dX10_open_25 (fun _ _ _ _ => rfl) rfl
theorem rX10_open_28 : tA sc iX10_open 28 [l0, vI x, l2] st h Q = tA sc iX10_open 29 [l0, vI x, l2] (vI x :: st) h Q := tA_pure mB_X10_open dX10_open_28 rfl
theorem rX10_open_29 : tA sc iX10_open 29 ls st h Q = tA sc iX10_open 30 ls (vI (1) :: st) h Q := tA_pure mB_X10_open dX10_open_29 rfl
theorem rX10_open_30 : tA sc iX10_open 30 [l0, l1, vI x] st h Q = tA sc iX10_open 31 [l0, l1, vI x] (vI x :: st) h Q := tA_pure mB_X10_open dX10_open_30 rfl
theorem rX10_open_31 : tA sc iX10_open 31 ls (vI y :: vI x :: st) h Q = tA sc iX10_open 32 ls (vI (x <<< (y &&& 31)) :: st) h Q := tA_pure mB_X10_open dX10_open_31 rfl
theorem rX10_open_32 : tA sc iX10_open 32 ls (vI y :: vI x :: st) h Q = tA sc iX10_open 33 ls (vI (x ||| y) :: st) h Q := tA_pure mB_X10_open dX10_open_32 rfl
theorem rX10_open_33 : tA sc iX10_open 33 [l0, l1, l2] (vI x :: st) h Q = tA sc iX10_open 34 [tclr l0, vI x, l2] st h Q := tA_pure mB_X10_open dX10_open_33 rfl
theorem rX10_open_34 : tA sc iX10_open 34 [l0, l1, vI x] st h Q = tA sc iX10_open 37 [l0, tclr l1, vI (x + 1)] st h Q := tA_pure mB_X10_open dX10_open_34 rfl
theorem rX10_open_37 : tA sc iX10_open 37 ls st h Q = tA sc iX10_open 10 ls st h Q := tA_jump mB_X10_open dX10_open_37 (fun _ _ _ _ => rfl) rfl
theorem rX10_open_40 : tA sc iX10_open 40 [l0, vI x, l2] st h Q = tA sc iX10_open 41 [l0, vI x, l2] (vI x :: st) h Q := tA_pure mB_X10_open dX10_open_40 rfl
theorem rX10_open_41 : tA sc iX10_open 41 ls [vI x] h Q = Q (some (vI x)) h := tA_ret mB_X10_open dX10_open_41 (fun _ _ _ _ => rfl) (fun _ _ _ => rfl) (fun _ _ _ _ _ => rfl) rfl rfl
theorem mB_X10_seed : mB iX10_seed = cX10_seed := rfl
theorem mO_X10_seed : mO iX10_seed = 10 := rfl
theorem rX10_seed_0 : tA sc iX10_seed 0 [vR r, l1, l2] st h Q = tA sc iX10_seed 1 [vR r, l1, l2] (vR r :: st) h Q := tA_pure mB_X10_seed dX10_seed_0 rfl
theorem rX10_seed_1 : tA sc iX10_seed 1 ls (vR (some o) :: st) h Q = oz (tget h o [10] 0) (fun v => tA sc iX10_seed 4 ls (v :: st) h Q) := tA_get mB_X10_seed mO_X10_seed dX10_seed_1 fT_10_10
theorem rX10_seed_4 : tA sc iX10_seed 4 ls (vR (some o) :: st) h Q = oz (tget h o [9] 7) (fun v => tA sc iX10_seed 7 ls (v :: st) h Q) := tA_get mB_X10_seed mO_X10_seed dX10_seed_4 fT_10_251
theorem rX10_seed_7 : tA sc iX10_seed 7 [l0, l1, l2] (vI x :: st) h Q = tA sc iX10_seed 8 [l0, tclr l1, vI x] st h Q := tA_pure mB_X10_seed dX10_seed_7 rfl
theorem rX10_seed_8 : tA sc iX10_seed 8 [vR r, l1, l2] st h Q = tA sc iX10_seed 9 [vR r, l1, l2] (vR r :: st) h Q := tA_pure mB_X10_seed dX10_seed_8 rfl
theorem rX10_seed_9 : tA sc iX10_seed 9 ls (vR (some o) :: st) h Q = oz (tget h o [10] 0) (fun v => tA sc iX10_seed 12 ls (v :: st) h Q) := tA_get mB_X10_seed mO_X10_seed dX10_seed_9 fT_10_10
theorem rX10_seed_12 : tA sc iX10_seed 12 [l0, vI x, l2] st h Q = tA sc iX10_seed 13 [l0, vI x, l2] (vI x :: st) h Q := tA_pure mB_X10_seed dX10_seed_12 rfl
theorem rX10_seed_13 : tA sc iX10_seed 13 ls (v :: vR (some o) :: st) h Q = oz (tput h o [9] 7 0 v) (fun h' => tA sc iX10_seed 16 ls st h' Q) := tA_put mB_X10_seed mO_X10_seed dX10_seed_13 fT_10_251 (Or.inl (by decide))
theorem rX10_seed_16 : tA sc iX10_seed 16 [l0, l1, vI x] st h Q = tA sc iX10_seed 17 [l0, l1, vI x] (vI x :: st) h Q := tA_pure mB_X10_seed dX10_seed_16 rfl
theorem rX10_seed_17 : tA sc iX10_seed 17 ls [vI x] h Q = Q (some (vI x)) h := tA_ret mB_X10_seed dX10_seed_17 (fun _ _ _ _ => rfl) (fun _ _ _ => rfl) (fun _ _ _ _ _ => rfl) rfl rfl
theorem mB_X10_prove : mB iX10_prove = cX10_prove := rfl
theorem mO_X10_prove : mO iX10_prove = 10 := rfl
theorem rX10_prove_0 : tA sc iX10_prove 0 [l0, vI x, l2, l3] st h Q = tA sc iX10_prove 1 [l0, vI x, l2, l3] (vI x :: st) h Q := tA_pure mB_X10_prove dX10_prove_0 rfl
theorem rX10_prove_1 : tA sc iX10_prove 1 ls st h Q = tA sc iX10_prove 2 ls (vI (1) :: st) h Q := tA_pure mB_X10_prove dX10_prove_1 rfl
theorem rX10_prove_2 : tA sc iX10_prove 2 ls (vI y :: vI x :: st) h Q = (if x < y then tA sc iX10_prove 11 ls st h Q else tA sc iX10_prove 5 ls st h Q) := tA_if mB_X10_prove dX10_prove_2 (fun _ _ _ _ => rfl) rfl
theorem rX10_prove_5 : tA sc iX10_prove 5 [l0, vI x, l2, l3] st h Q = tA sc iX10_prove 6 [l0, vI x, l2, l3] (vI x :: st) h Q := tA_pure mB_X10_prove dX10_prove_5 rfl
theorem rX10_prove_6 : tA sc iX10_prove 6 ls st h Q = tA sc iX10_prove 8 ls (vI (20) :: st) h Q := tA_pure mB_X10_prove dX10_prove_6 rfl
theorem rX10_prove_8 : tA sc iX10_prove 8 ls (vI y :: vI x :: st) h Q = (if x ≤ y then tA sc iX10_prove 13 ls st h Q else tA sc iX10_prove 11 ls st h Q) := tA_if mB_X10_prove dX10_prove_8 (fun _ _ _ _ => rfl) rfl
theorem rX10_prove_11 : tA sc iX10_prove 11 ls st h Q = tA sc iX10_prove 12 ls (vI (-1) :: st) h Q := tA_pure mB_X10_prove dX10_prove_11 rfl
theorem rX10_prove_12 : tA sc iX10_prove 12 ls [vI x] h Q = Q (some (vI x)) h := tA_ret mB_X10_prove dX10_prove_12 (fun _ _ _ _ => rfl) (fun _ _ _ => rfl) (fun _ _ _ _ _ => rfl) rfl rfl
theorem rX10_prove_13 : tA sc iX10_prove 13 [vR r, l1, l2, l3] st h Q = tA sc iX10_prove 14 [vR r, l1, l2, l3] (vR r :: st) h Q := tA_pure mB_X10_prove dX10_prove_13 rfl
theorem rX10_prove_14 : tA sc iX10_prove 14 ls (vR (some o) :: st) h Q = oz (tget h o [10] 1) (fun v => tA sc iX10_prove 17 ls (v :: st) h Q) := tA_get mB_X10_prove mO_X10_prove dX10_prove_14 fT_10_16
theorem rX10_prove_17 : tA sc iX10_prove 17 [vR r, l1, l2, l3] st h Q = tA sc iX10_prove 18 [vR r, l1, l2, l3] (vR r :: st) h Q := tA_pure mB_X10_prove dX10_prove_17 rfl
theorem rX10_prove_18 : tA sc iX10_prove 18 ls (vR (some o) :: st) h Q = oz (tget h o [10] 0) (fun v => tA sc iX10_prove 21 ls (v :: st) h Q) := tA_get mB_X10_prove mO_X10_prove dX10_prove_18 fT_10_10
theorem rX10_prove_21 (hci : tcl h o = some 9) : tA sc iX10_prove 21 ls [vR n0, vR (some o)] h Q = tA sc iX9_become 0 [vR (some o), vR n0, vU] [] h (fun v h1 => tA sc iX10_prove 24 ls (tpu v []) h1 Q) := tA_cV mB_X10_prove mO_X10_prove dX10_prove_21 cT_10_60 rfl (Nat.le_of_ble_eq_true rfl) rfl rfl rfl hci
theorem rX10_prove_24 : tA sc iX10_prove 24 [vR r, l1, l2, l3] st h Q = tA sc iX10_prove 25 [vR r, l1, l2, l3] (vR r :: st) h Q := tA_pure mB_X10_prove dX10_prove_24 rfl
theorem rX10_prove_25 : tA sc iX10_prove 25 [l0, vI x, l2, l3] st h Q = tA sc iX10_prove 26 [l0, vI x, l2, l3] (vI x :: st) h Q := tA_pure mB_X10_prove dX10_prove_25 rfl
theorem rX10_prove_26 : tA sc iX10_prove 26 ls st h Q = tA sc iX10_prove 28 ls (vI (20) :: st) h Q := tA_pure mB_X10_prove dX10_prove_26 rfl
theorem rX10_prove_28 : tA sc iX10_prove 28 [vR r, l1, l2, l3] st h Q = tA sc iX10_prove 29 [vR r, l1, l2, l3] (vR r :: st) h Q := tA_pure mB_X10_prove dX10_prove_28 rfl
theorem rX10_prove_29 : tA sc iX10_prove 29 ls (vR (some o) :: st) h Q = oz (tget h o [10] 0) (fun v => tA sc iX10_prove 32 ls (v :: st) h Q) := tA_get mB_X10_prove mO_X10_prove dX10_prove_29 fT_10_10
theorem rX10_prove_32 : tA sc iX10_prove 32 ls (vR (some o) :: st) h Q = oz (tget h o [9] 6) (fun v => tA sc iX10_prove 35 ls (v :: st) h Q) := tA_get mB_X10_prove mO_X10_prove dX10_prove_32 fT_10_205
theorem rX10_prove_35 : tA sc iX10_prove 35 ls (vI y :: vI x :: st) h Q = tA sc iX10_prove 36 ls (vI (x - y) :: st) h Q := tA_pure mB_X10_prove dX10_prove_35 rfl
theorem rX10_prove_36 : tA sc iX10_prove 36 ls [vI p1, vI p0, s0] h Q = tA sc iX10_prove 39 ls (vI (if p1 < p0 then p1 else p0) :: [s0]) h Q := tA_cN mB_X10_prove mO_X10_prove dX10_prove_36 (fun _ _ _ _ => rfl) (fun _ _ _ => rfl) (fun _ _ _ _ _ => rfl) rfl cT_10_254 rfl rfl
theorem rX10_prove_39 : tA sc iX10_prove 39 ls (v :: vR (some o) :: st) h Q = oz (tput h o [10] 6 0 v) (fun h' => tA sc iX10_prove 42 ls st h' Q) := tA_put mB_X10_prove mO_X10_prove dX10_prove_39 fT_10_71 (Or.inl (by decide))
theorem rX10_prove_42 : tA sc iX10_prove 42 ls st h Q = tA sc iX10_prove 43 ls (vI (0) :: st) h Q := tA_pure mB_X10_prove dX10_prove_42 rfl
theorem rX10_prove_43 : tA sc iX10_prove 43 [l0, l1, l2, l3] (vI x :: st) h Q = tA sc iX10_prove 44 [l0, tclr l1, vI x, l3] st h Q := tA_pure mB_X10_prove dX10_prove_43 rfl
theorem rX10_prove_44 : tA sc iX10_prove 44 [l0, l1, vI x, l3] st h Q = tA sc iX10_prove 45 [l0, l1, vI x, l3] (vI x :: st) h Q := tA_pure mB_X10_prove dX10_prove_44 rfl
theorem rX10_prove_45 : tA sc iX10_prove 45 [vR r, l1, l2, l3] st h Q = tA sc iX10_prove 46 [vR r, l1, l2, l3] (vR r :: st) h Q := tA_pure mB_X10_prove dX10_prove_45 rfl
theorem rX10_prove_46 : tA sc iX10_prove 46 ls (vR (some o) :: st) h Q = oz (tget h o [10] 6) (fun v => tA sc iX10_prove 49 ls (v :: st) h Q) := tA_get mB_X10_prove mO_X10_prove dX10_prove_46 fT_10_71
theorem rX10_prove_49 : tA sc iX10_prove 49 ls (vI y :: vI x :: st) h Q = (if y ≤ x then tA sc iX10_prove 96 ls st h Q else tA sc iX10_prove 52 ls st h Q) := tA_if mB_X10_prove dX10_prove_49 (fun _ _ _ _ => rfl) rfl
theorem rX10_prove_52 : tA sc iX10_prove 52 [vR r, l1, l2, l3] st h Q = tA sc iX10_prove 53 [vR r, l1, l2, l3] (vR r :: st) h Q := tA_pure mB_X10_prove dX10_prove_52 rfl
theorem rX10_prove_53 : tA sc iX10_prove 53 ls (vR (some o) :: st) h Q = oz (tget h o [10] 1) (fun v => tA sc iX10_prove 56 ls (v :: st) h Q) := tA_get mB_X10_prove mO_X10_prove dX10_prove_53 fT_10_16
theorem rX10_prove_56 (hci : tcl h o = some 9) : tA sc iX10_prove 56 ls [vR (some o)] h Q = tA sc iX9_dawn 0 [vR (some o), vU, vU] [] h (fun v h1 => tA sc iX10_prove 59 ls (tpu v []) h1 Q) := tA_cV mB_X10_prove mO_X10_prove dX10_prove_56 cT_10_202 rfl (Nat.le_of_ble_eq_true rfl) rfl rfl rfl hci
theorem rX10_prove_59 : tA sc iX10_prove 59 ls st h Q = tA sc iX10_prove 60 ls (vI (0) :: st) h Q := tA_pure mB_X10_prove dX10_prove_59 rfl
theorem rX10_prove_60 : tA sc iX10_prove 60 [l0, l1, l2, l3] (vI x :: st) h Q = tA sc iX10_prove 61 [l0, l1, tclr l2, vI x] st h Q := tA_pure mB_X10_prove dX10_prove_60 rfl
theorem rX10_prove_61 : tA sc iX10_prove 61 [l0, l1, l2, vI x] st h Q = tA sc iX10_prove 62 [l0, l1, l2, vI x] (vI x :: st) h Q := tA_pure mB_X10_prove dX10_prove_61 rfl
theorem rX10_prove_62 : tA sc iX10_prove 62 ls st h Q = tA sc iX10_prove 63 ls (vI (3) :: st) h Q := tA_pure mB_X10_prove dX10_prove_62 rfl
theorem rX10_prove_63 : tA sc iX10_prove 63 ls (vI y :: vI x :: st) h Q = (if y ≤ x then tA sc iX10_prove 90 ls st h Q else tA sc iX10_prove 66 ls st h Q) := tA_if mB_X10_prove dX10_prove_63 (fun _ _ _ _ => rfl) rfl
theorem rX10_prove_66 : tA sc iX10_prove 66 [vR r, l1, l2, l3] st h Q = tA sc iX10_prove 67 [vR r, l1, l2, l3] (vR r :: st) h Q := tA_pure mB_X10_prove dX10_prove_66 rfl
theorem rX10_prove_67 : tA sc iX10_prove 67 ls (vR (some o) :: st) h Q = oz (tget h o [10] 5) (fun v => tA sc iX10_prove 70 ls (v :: st) h Q) := tA_get mB_X10_prove mO_X10_prove dX10_prove_67 fT_10_29
theorem rX10_prove_70 : tA sc iX10_prove 70 [l0, l1, vI x, l3] st h Q = tA sc iX10_prove 71 [l0, l1, vI x, l3] (vI x :: st) h Q := tA_pure mB_X10_prove dX10_prove_70 rfl
theorem rX10_prove_71 : tA sc iX10_prove 71 ls st h Q = tA sc iX10_prove 72 ls (vI (3) :: st) h Q := tA_pure mB_X10_prove dX10_prove_71 rfl
theorem rX10_prove_72 : tA sc iX10_prove 72 ls (vI y :: vI x :: st) h Q = tA sc iX10_prove 73 ls (vI (x * y) :: st) h Q := tA_pure mB_X10_prove dX10_prove_72 rfl
theorem rX10_prove_73 : tA sc iX10_prove 73 [l0, l1, l2, vI x] st h Q = tA sc iX10_prove 74 [l0, l1, l2, vI x] (vI x :: st) h Q := tA_pure mB_X10_prove dX10_prove_73 rfl
theorem rX10_prove_74 : tA sc iX10_prove 74 ls (vI y :: vI x :: st) h Q = tA sc iX10_prove 75 ls (vI (x + y) :: st) h Q := tA_pure mB_X10_prove dX10_prove_74 rfl
theorem rX10_prove_75 : tA sc iX10_prove 75 [vR r, l1, l2, l3] st h Q = tA sc iX10_prove 76 [vR r, l1, l2, l3] (vR r :: st) h Q := tA_pure mB_X10_prove dX10_prove_75 rfl
theorem rX10_prove_76 : tA sc iX10_prove 76 ls (vR (some o) :: st) h Q = oz (tget h o [10] 1) (fun v => tA sc iX10_prove 79 ls (v :: st) h Q) := tA_get mB_X10_prove mO_X10_prove dX10_prove_76 fT_10_16
theorem rX10_prove_79 : tA sc iX10_prove 79 [l0, l1, l2, vI x] st h Q = tA sc iX10_prove 80 [l0, l1, l2, vI x] (vI x :: st) h Q := tA_pure mB_X10_prove dX10_prove_79 rfl
theorem rX10_prove_80 (hci : tcl h o = some 9) : tA sc iX10_prove 80 ls [vI p0, vR (some o), s0, s1] h Q = tA sc iX9_latestMorning 0 [vR (some o), vI p0, vU] [] h (fun v h1 => tA sc iX10_prove 83 ls (tpu v [s0, s1]) h1 Q) := tA_cV mB_X10_prove mO_X10_prove dX10_prove_80 cT_10_257 rfl (Nat.le_of_ble_eq_true rfl) rfl rfl rfl hci
theorem rX10_prove_83 : tA sc iX10_prove 83 ls (vI x :: vI j :: vR (some a) :: st) h Q = oz (tasi h a j x) (fun h' => tA sc iX10_prove 84 ls st h' Q) := tA_iast mB_X10_prove dX10_prove_83
theorem rX10_prove_84 : tA sc iX10_prove 84 [l0, l1, l2, vI x] st h Q = tA sc iX10_prove 87 [l0, l1, tclr l2, vI (x + 1)] st h Q := tA_pure mB_X10_prove dX10_prove_84 rfl
theorem rX10_prove_87 : tA sc iX10_prove 87 ls st h Q = tA sc iX10_prove 61 ls st h Q := tA_jump mB_X10_prove dX10_prove_87 (fun _ _ _ _ => rfl) rfl
theorem rX10_prove_90 : tA sc iX10_prove 90 [l0, l1, vI x, l3] st h Q = tA sc iX10_prove 93 [l0, tclr l1, vI (x + 1), l3] st h Q := tA_pure mB_X10_prove dX10_prove_90 rfl
theorem rX10_prove_93 : tA sc iX10_prove 93 ls st h Q = tA sc iX10_prove 44 ls st h Q := tA_jump mB_X10_prove dX10_prove_93 (fun _ _ _ _ => rfl) rfl
theorem rX10_prove_96 : tA sc iX10_prove 96 [vR r, l1, l2, l3] st h Q = tA sc iX10_prove 97 [vR r, l1, l2, l3] (vR r :: st) h Q := tA_pure mB_X10_prove dX10_prove_96 rfl
theorem rX10_prove_97 : tA sc iX10_prove 97 ls (vR (some o) :: st) h Q = oz (tget h o [10] 6) (fun v => tA sc iX10_prove 100 ls (v :: st) h Q) := tA_get mB_X10_prove mO_X10_prove dX10_prove_97 fT_10_71
theorem rX10_prove_100 : tA sc iX10_prove 100 ls [vI x] h Q = Q (some (vI x)) h := tA_ret mB_X10_prove dX10_prove_100 (fun _ _ _ _ => rfl) (fun _ _ _ => rfl) (fun _ _ _ _ _ => rfl) rfl rfl
theorem mB_X10_row : mB iX10_row = cX10_row := rfl
theorem mO_X10_row : mO iX10_row = 10 := rfl
theorem rX10_row_0 : tA sc iX10_row 0 [vR r, l1, l2] st h Q = tA sc iX10_row 1 [vR r, l1, l2] (vR r :: st) h Q := tA_pure mB_X10_row dX10_row_0 rfl
theorem rX10_row_1 : tA sc iX10_row 1 [l0, vI x, l2] st h Q = tA sc iX10_row 2 [l0, vI x, l2] (vI x :: st) h Q := tA_pure mB_X10_row dX10_row_1 rfl
theorem rX10_row_2 : tA sc iX10_row 2 [l0, l1, vI x] st h Q = tA sc iX10_row 3 [l0, l1, vI x] (vI x :: st) h Q := tA_pure mB_X10_row dX10_row_2 rfl
theorem rX10_row_3 (hci : tcl h o = some 10) : tA sc iX10_row 3 ls [vI p1, vI p0, vR (some o)] h Q = tA sc iX10_isInRow 0 [vR (some o), vI p0, vI p1] [] h (fun v h1 => tA sc iX10_row 6 ls (tpu v []) h1 Q) := tA_cV mB_X10_row mO_X10_row dX10_row_3 cT_10_260 rfl (Nat.le_of_ble_eq_true rfl) rfl rfl rfl hci
theorem rX10_row_6 : tA sc iX10_row 6 ls (vI x :: st) h Q = (if x = 0 then tA sc iX10_row 22 ls st h Q else tA sc iX10_row 9 ls st h Q) := tA_if mB_X10_row dX10_row_6 (fun _ _ _ _ => rfl) rfl
theorem rX10_row_9 : tA sc iX10_row 9 [vR r, l1, l2] st h Q = tA sc iX10_row 10 [vR r, l1, l2] (vR r :: st) h Q := tA_pure mB_X10_row dX10_row_9 rfl
theorem rX10_row_10 : tA sc iX10_row 10 ls (vR (some o) :: st) h Q = oz (tget h o [10] 5) (fun v => tA sc iX10_row 13 ls (v :: st) h Q) := tA_get mB_X10_row mO_X10_row dX10_row_10 fT_10_29
theorem rX10_row_13 : tA sc iX10_row 13 [l0, vI x, l2] st h Q = tA sc iX10_row 14 [l0, vI x, l2] (vI x :: st) h Q := tA_pure mB_X10_row dX10_row_13 rfl
theorem rX10_row_14 : tA sc iX10_row 14 ls st h Q = tA sc iX10_row 15 ls (vI (3) :: st) h Q := tA_pure mB_X10_row dX10_row_14 rfl
theorem rX10_row_15 : tA sc iX10_row 15 ls (vI y :: vI x :: st) h Q = tA sc iX10_row 16 ls (vI (x * y) :: st) h Q := tA_pure mB_X10_row dX10_row_15 rfl
theorem rX10_row_16 : tA sc iX10_row 16 [l0, l1, vI x] st h Q = tA sc iX10_row 17 [l0, l1, vI x] (vI x :: st) h Q := tA_pure mB_X10_row dX10_row_16 rfl
theorem rX10_row_17 : tA sc iX10_row 17 ls (vI y :: vI x :: st) h Q = tA sc iX10_row 18 ls (vI (x + y) :: st) h Q := tA_pure mB_X10_row dX10_row_17 rfl
theorem rX10_row_18 : tA sc iX10_row 18 ls (vI j :: vR (some a) :: st) h Q = oz (tald sc h 0 a j) (fun v => tA sc iX10_row 19 ls (vI v :: st) h Q) := tA_iald mB_X10_row dX10_row_18
theorem rX10_row_19 : tA sc iX10_row 19 ls st h Q = tA sc iX10_row 25 ls st h Q := tA_jump mB_X10_row dX10_row_19 (fun _ _ _ _ => rfl) rfl
theorem rX10_row_22 : tA sc iX10_row 22 ls st h Q = tA sc iX10_row 25 ls (vI (-2147483648) :: st) h Q := tA_pure mB_X10_row dX10_row_22 rfl
theorem rX10_row_25 : tA sc iX10_row 25 ls [vI x] h Q = Q (some (vI x)) h := tA_ret mB_X10_row dX10_row_25 (fun _ _ _ _ => rfl) (fun _ _ _ => rfl) (fun _ _ _ _ _ => rfl) rfl rfl
theorem mB_X10_alterRow : mB iX10_alterRow = cX10_alterRow := rfl
theorem mO_X10_alterRow : mO iX10_alterRow = 10 := rfl
theorem rX10_alterRow_0 : tA sc iX10_alterRow 0 [vR r, l1, l2, l3, l4] st h Q = tA sc iX10_alterRow 1 [vR r, l1, l2, l3, l4] (vR r :: st) h Q := tA_pure mB_X10_alterRow dX10_alterRow_0 rfl
theorem rX10_alterRow_1 : tA sc iX10_alterRow 1 [l0, vI x, l2, l3, l4] st h Q = tA sc iX10_alterRow 2 [l0, vI x, l2, l3, l4] (vI x :: st) h Q := tA_pure mB_X10_alterRow dX10_alterRow_1 rfl
theorem rX10_alterRow_2 : tA sc iX10_alterRow 2 [l0, l1, vI x, l3, l4] st h Q = tA sc iX10_alterRow 3 [l0, l1, vI x, l3, l4] (vI x :: st) h Q := tA_pure mB_X10_alterRow dX10_alterRow_2 rfl
theorem rX10_alterRow_3 (hci : tcl h o = some 10) : tA sc iX10_alterRow 3 ls [vI p1, vI p0, vR (some o)] h Q = tA sc iX10_isInRow 0 [vR (some o), vI p0, vI p1] [] h (fun v h1 => tA sc iX10_alterRow 6 ls (tpu v []) h1 Q) := tA_cV mB_X10_alterRow mO_X10_alterRow dX10_alterRow_3 cT_10_260 rfl (Nat.le_of_ble_eq_true rfl) rfl rfl rfl hci
theorem rX10_alterRow_6 : tA sc iX10_alterRow 6 ls (vI x :: st) h Q = (if ¬ x = 0 then tA sc iX10_alterRow 13 ls st h Q else tA sc iX10_alterRow 9 ls st h Q) := tA_if mB_X10_alterRow dX10_alterRow_6 (fun _ _ _ _ => rfl) rfl
theorem rX10_alterRow_9 : tA sc iX10_alterRow 9 ls st h Q = tA sc iX10_alterRow 12 ls (vI (-2147483648) :: st) h Q := tA_pure mB_X10_alterRow dX10_alterRow_9 rfl
theorem rX10_alterRow_12 : tA sc iX10_alterRow 12 ls [vI x] h Q = Q (some (vI x)) h := tA_ret mB_X10_alterRow dX10_alterRow_12 (fun _ _ _ _ => rfl) (fun _ _ _ => rfl) (fun _ _ _ _ _ => rfl) rfl rfl
theorem rX10_alterRow_13 : tA sc iX10_alterRow 13 [vR r, l1, l2, l3, l4] st h Q = tA sc iX10_alterRow 14 [vR r, l1, l2, l3, l4] (vR r :: st) h Q := tA_pure mB_X10_alterRow dX10_alterRow_13 rfl
theorem rX10_alterRow_14 : tA sc iX10_alterRow 14 ls (vR (some o) :: st) h Q = oz (tget h o [10] 5) (fun v => tA sc iX10_alterRow 17 ls (v :: st) h Q) := tA_get mB_X10_alterRow mO_X10_alterRow dX10_alterRow_14 fT_10_29
theorem rX10_alterRow_17 : tA sc iX10_alterRow 17 [l0, vI x, l2, l3, l4] st h Q = tA sc iX10_alterRow 18 [l0, vI x, l2, l3, l4] (vI x :: st) h Q := tA_pure mB_X10_alterRow dX10_alterRow_17 rfl
theorem rX10_alterRow_18 : tA sc iX10_alterRow 18 ls st h Q = tA sc iX10_alterRow 19 ls (vI (3) :: st) h Q := tA_pure mB_X10_alterRow dX10_alterRow_18 rfl
theorem rX10_alterRow_19 : tA sc iX10_alterRow 19 ls (vI y :: vI x :: st) h Q = tA sc iX10_alterRow 20 ls (vI (x * y) :: st) h Q := tA_pure mB_X10_alterRow dX10_alterRow_19 rfl
theorem rX10_alterRow_20 : tA sc iX10_alterRow 20 [l0, l1, vI x, l3, l4] st h Q = tA sc iX10_alterRow 21 [l0, l1, vI x, l3, l4] (vI x :: st) h Q := tA_pure mB_X10_alterRow dX10_alterRow_20 rfl
theorem rX10_alterRow_21 : tA sc iX10_alterRow 21 ls (vI y :: vI x :: st) h Q = tA sc iX10_alterRow 22 ls (vI (x + y) :: st) h Q := tA_pure mB_X10_alterRow dX10_alterRow_21 rfl
theorem rX10_alterRow_22 : tA sc iX10_alterRow 22 ls (vI j :: vR (some a) :: st) h Q = oz (tald sc h 0 a j) (fun v => tA sc iX10_alterRow 23 ls (vI v :: st) h Q) := tA_iald mB_X10_alterRow dX10_alterRow_22
theorem rX10_alterRow_23 : tA sc iX10_alterRow 23 [l0, l1, l2, l3, l4] (vI x :: st) h Q = tA sc iX10_alterRow 25 [l0, l1, l2, tclr l3, vI x] st h Q := tA_pure mB_X10_alterRow dX10_alterRow_23 rfl
theorem rX10_alterRow_25 : tA sc iX10_alterRow 25 [vR r, l1, l2, l3, l4] st h Q = tA sc iX10_alterRow 26 [vR r, l1, l2, l3, l4] (vR r :: st) h Q := tA_pure mB_X10_alterRow dX10_alterRow_25 rfl
theorem rX10_alterRow_26 : tA sc iX10_alterRow 26 ls (vR (some o) :: st) h Q = oz (tget h o [10] 5) (fun v => tA sc iX10_alterRow 29 ls (v :: st) h Q) := tA_get mB_X10_alterRow mO_X10_alterRow dX10_alterRow_26 fT_10_29
theorem rX10_alterRow_29 : tA sc iX10_alterRow 29 [l0, vI x, l2, l3, l4] st h Q = tA sc iX10_alterRow 30 [l0, vI x, l2, l3, l4] (vI x :: st) h Q := tA_pure mB_X10_alterRow dX10_alterRow_29 rfl
theorem rX10_alterRow_30 : tA sc iX10_alterRow 30 ls st h Q = tA sc iX10_alterRow 31 ls (vI (3) :: st) h Q := tA_pure mB_X10_alterRow dX10_alterRow_30 rfl
theorem rX10_alterRow_31 : tA sc iX10_alterRow 31 ls (vI y :: vI x :: st) h Q = tA sc iX10_alterRow 32 ls (vI (x * y) :: st) h Q := tA_pure mB_X10_alterRow dX10_alterRow_31 rfl
theorem rX10_alterRow_32 : tA sc iX10_alterRow 32 [l0, l1, vI x, l3, l4] st h Q = tA sc iX10_alterRow 33 [l0, l1, vI x, l3, l4] (vI x :: st) h Q := tA_pure mB_X10_alterRow dX10_alterRow_32 rfl
theorem rX10_alterRow_33 : tA sc iX10_alterRow 33 ls (vI y :: vI x :: st) h Q = tA sc iX10_alterRow 34 ls (vI (x + y) :: st) h Q := tA_pure mB_X10_alterRow dX10_alterRow_33 rfl
theorem rX10_alterRow_34 : tA sc iX10_alterRow 34 [l0, l1, l2, vI x, l4] st h Q = tA sc iX10_alterRow 35 [l0, l1, l2, vI x, l4] (vI x :: st) h Q := tA_pure mB_X10_alterRow dX10_alterRow_34 rfl
theorem rX10_alterRow_35 : tA sc iX10_alterRow 35 ls (vI x :: vI j :: vR (some a) :: st) h Q = oz (tasi h a j x) (fun h' => tA sc iX10_alterRow 36 ls st h' Q) := tA_iast mB_X10_alterRow dX10_alterRow_35
theorem rX10_alterRow_36 : tA sc iX10_alterRow 36 [l0, l1, l2, l3, vI x] st h Q = tA sc iX10_alterRow 38 [l0, l1, l2, l3, vI x] (vI x :: st) h Q := tA_pure mB_X10_alterRow dX10_alterRow_36 rfl
theorem rX10_alterRow_38 : tA sc iX10_alterRow 38 ls [vI x] h Q = Q (some (vI x)) h := tA_ret mB_X10_alterRow dX10_alterRow_38 (fun _ _ _ _ => rfl) (fun _ _ _ => rfl) (fun _ _ _ _ _ => rfl) rfl rfl
theorem mB_X10_judge : mB iX10_judge = cX10_judge := rfl
theorem mO_X10_judge : mO iX10_judge = 10 := rfl
theorem rX10_judge_0 : tA sc iX10_judge 0 [vR r, l1, l2] st h Q = tA sc iX10_judge 1 [vR r, l1, l2] (vR r :: st) h Q := tA_pure mB_X10_judge dX10_judge_0 rfl
theorem rX10_judge_1 : tA sc iX10_judge 1 ls (vR (some o) :: st) h Q = oz (tget h o [10] 1) (fun v => tA sc iX10_judge 4 ls (v :: st) h Q) := tA_get mB_X10_judge mO_X10_judge dX10_judge_1 fT_10_16
theorem rX10_judge_4 : tA sc iX10_judge 4 [vR r, l1, l2] st h Q = tA sc iX10_judge 5 [vR r, l1, l2] (vR r :: st) h Q := tA_pure mB_X10_judge dX10_judge_4 rfl
theorem rX10_judge_5 : tA sc iX10_judge 5 ls (vR (some o) :: st) h Q = oz (tget h o [10] 0) (fun v => tA sc iX10_judge 8 ls (v :: st) h Q) := tA_get mB_X10_judge mO_X10_judge dX10_judge_5 fT_10_10
theorem rX10_judge_8 (hci : tcl h o = some 9) : tA sc iX10_judge 8 ls [vR n0, vR (some o)] h Q = tA sc iX9_become 0 [vR (some o), vR n0, vU] [] h (fun v h1 => tA sc iX10_judge 11 ls (tpu v []) h1 Q) := tA_cV mB_X10_judge mO_X10_judge dX10_judge_8 cT_10_60 rfl (Nat.le_of_ble_eq_true rfl) rfl rfl rfl hci
theorem rX10_judge_11 : tA sc iX10_judge 11 ls st h Q = tA sc iX10_judge 12 ls (vI (0) :: st) h Q := tA_pure mB_X10_judge dX10_judge_11 rfl
theorem rX10_judge_12 : tA sc iX10_judge 12 [l0, l1, l2] (vI x :: st) h Q = tA sc iX10_judge 13 [tclr l0, vI x, l2] st h Q := tA_pure mB_X10_judge dX10_judge_12 rfl
theorem rX10_judge_13 : tA sc iX10_judge 13 [l0, vI x, l2] st h Q = tA sc iX10_judge 14 [l0, vI x, l2] (vI x :: st) h Q := tA_pure mB_X10_judge dX10_judge_13 rfl
theorem rX10_judge_14 : tA sc iX10_judge 14 [vR r, l1, l2] st h Q = tA sc iX10_judge 15 [vR r, l1, l2] (vR r :: st) h Q := tA_pure mB_X10_judge dX10_judge_14 rfl
theorem rX10_judge_15 : tA sc iX10_judge 15 ls (vR (some o) :: st) h Q = oz (tget h o [10] 6) (fun v => tA sc iX10_judge 18 ls (v :: st) h Q) := tA_get mB_X10_judge mO_X10_judge dX10_judge_15 fT_10_71
theorem rX10_judge_18 : tA sc iX10_judge 18 ls (vI y :: vI x :: st) h Q = (if y ≤ x then tA sc iX10_judge 88 ls st h Q else tA sc iX10_judge 21 ls st h Q) := tA_if mB_X10_judge dX10_judge_18 (fun _ _ _ _ => rfl) rfl
theorem rX10_judge_21 : tA sc iX10_judge 21 [vR r, l1, l2] st h Q = tA sc iX10_judge 22 [vR r, l1, l2] (vR r :: st) h Q := tA_pure mB_X10_judge dX10_judge_21 rfl
theorem rX10_judge_22 : tA sc iX10_judge 22 ls (vR (some o) :: st) h Q = oz (tget h o [10] 1) (fun v => tA sc iX10_judge 25 ls (v :: st) h Q) := tA_get mB_X10_judge mO_X10_judge dX10_judge_22 fT_10_16
theorem rX10_judge_25 : tA sc iX10_judge 25 ls (vR (some o) :: st) h Q = oz (tget h o [9] 6) (fun v => tA sc iX10_judge 28 ls (v :: st) h Q) := tA_get mB_X10_judge mO_X10_judge dX10_judge_25 fT_10_205
theorem rX10_judge_28 : tA sc iX10_judge 28 ls st h Q = tA sc iX10_judge 30 ls (vI (20) :: st) h Q := tA_pure mB_X10_judge dX10_judge_28 rfl
theorem rX10_judge_30 : tA sc iX10_judge 30 ls (vI y :: vI x :: st) h Q = (if x < y then tA sc iX10_judge 37 ls st h Q else tA sc iX10_judge 33 ls st h Q) := tA_if mB_X10_judge dX10_judge_30 (fun _ _ _ _ => rfl) rfl
theorem rX10_judge_33 : tA sc iX10_judge 33 [l0, vI x, l2] st h Q = tA sc iX10_judge 34 [l0, vI x, l2] (vI x :: st) h Q := tA_pure mB_X10_judge dX10_judge_33 rfl
theorem rX10_judge_34 : tA sc iX10_judge 34 ls st h Q = tA sc iX10_judge 35 ls (vI (1) :: st) h Q := tA_pure mB_X10_judge dX10_judge_34 rfl
theorem rX10_judge_35 : tA sc iX10_judge 35 ls (vI y :: vI x :: st) h Q = tA sc iX10_judge 36 ls (vI (x + y) :: st) h Q := tA_pure mB_X10_judge dX10_judge_35 rfl
theorem rX10_judge_36 : tA sc iX10_judge 36 ls [vI x] h Q = Q (some (vI x)) h := tA_ret mB_X10_judge dX10_judge_36 (fun _ _ _ _ => rfl) (fun _ _ _ => rfl) (fun _ _ _ _ _ => rfl) rfl rfl
theorem rX10_judge_37 : tA sc iX10_judge 37 [vR r, l1, l2] st h Q = tA sc iX10_judge 38 [vR r, l1, l2] (vR r :: st) h Q := tA_pure mB_X10_judge dX10_judge_37 rfl
theorem rX10_judge_38 : tA sc iX10_judge 38 ls (vR (some o) :: st) h Q = oz (tget h o [10] 1) (fun v => tA sc iX10_judge 41 ls (v :: st) h Q) := tA_get mB_X10_judge mO_X10_judge dX10_judge_38 fT_10_16
theorem rX10_judge_41 (hci : tcl h o = some 9) : tA sc iX10_judge 41 ls [vR (some o)] h Q = tA sc iX9_dawn 0 [vR (some o), vU, vU] [] h (fun v h1 => tA sc iX10_judge 44 ls (tpu v []) h1 Q) := tA_cV mB_X10_judge mO_X10_judge dX10_judge_41 cT_10_202 rfl (Nat.le_of_ble_eq_true rfl) rfl rfl rfl hci
theorem rX10_judge_44 : tA sc iX10_judge 44 ls st h Q = tA sc iX10_judge 45 ls (vI (0) :: st) h Q := tA_pure mB_X10_judge dX10_judge_44 rfl
theorem rX10_judge_45 : tA sc iX10_judge 45 [l0, l1, l2] (vI x :: st) h Q = tA sc iX10_judge 46 [l0, tclr l1, vI x] st h Q := tA_pure mB_X10_judge dX10_judge_45 rfl
theorem rX10_judge_46 : tA sc iX10_judge 46 [l0, l1, vI x] st h Q = tA sc iX10_judge 47 [l0, l1, vI x] (vI x :: st) h Q := tA_pure mB_X10_judge dX10_judge_46 rfl
theorem rX10_judge_47 : tA sc iX10_judge 47 ls st h Q = tA sc iX10_judge 48 ls (vI (3) :: st) h Q := tA_pure mB_X10_judge dX10_judge_47 rfl
theorem rX10_judge_48 : tA sc iX10_judge 48 ls (vI y :: vI x :: st) h Q = (if y ≤ x then tA sc iX10_judge 82 ls st h Q else tA sc iX10_judge 51 ls st h Q) := tA_if mB_X10_judge dX10_judge_48 (fun _ _ _ _ => rfl) rfl
theorem rX10_judge_51 : tA sc iX10_judge 51 [vR r, l1, l2] st h Q = tA sc iX10_judge 52 [vR r, l1, l2] (vR r :: st) h Q := tA_pure mB_X10_judge dX10_judge_51 rfl
theorem rX10_judge_52 : tA sc iX10_judge 52 ls (vR (some o) :: st) h Q = oz (tget h o [10] 5) (fun v => tA sc iX10_judge 55 ls (v :: st) h Q) := tA_get mB_X10_judge mO_X10_judge dX10_judge_52 fT_10_29
theorem rX10_judge_55 : tA sc iX10_judge 55 [l0, vI x, l2] st h Q = tA sc iX10_judge 56 [l0, vI x, l2] (vI x :: st) h Q := tA_pure mB_X10_judge dX10_judge_55 rfl
theorem rX10_judge_56 : tA sc iX10_judge 56 ls st h Q = tA sc iX10_judge 57 ls (vI (3) :: st) h Q := tA_pure mB_X10_judge dX10_judge_56 rfl
theorem rX10_judge_57 : tA sc iX10_judge 57 ls (vI y :: vI x :: st) h Q = tA sc iX10_judge 58 ls (vI (x * y) :: st) h Q := tA_pure mB_X10_judge dX10_judge_57 rfl
theorem rX10_judge_58 : tA sc iX10_judge 58 [l0, l1, vI x] st h Q = tA sc iX10_judge 59 [l0, l1, vI x] (vI x :: st) h Q := tA_pure mB_X10_judge dX10_judge_58 rfl
theorem rX10_judge_59 : tA sc iX10_judge 59 ls (vI y :: vI x :: st) h Q = tA sc iX10_judge 60 ls (vI (x + y) :: st) h Q := tA_pure mB_X10_judge dX10_judge_59 rfl
theorem rX10_judge_60 : tA sc iX10_judge 60 ls (vI j :: vR (some a) :: st) h Q = oz (tald sc h 0 a j) (fun v => tA sc iX10_judge 61 ls (vI v :: st) h Q) := tA_iald mB_X10_judge dX10_judge_60
theorem rX10_judge_61 : tA sc iX10_judge 61 [vR r, l1, l2] st h Q = tA sc iX10_judge 62 [vR r, l1, l2] (vR r :: st) h Q := tA_pure mB_X10_judge dX10_judge_61 rfl
theorem rX10_judge_62 : tA sc iX10_judge 62 ls (vR (some o) :: st) h Q = oz (tget h o [10] 1) (fun v => tA sc iX10_judge 65 ls (v :: st) h Q) := tA_get mB_X10_judge mO_X10_judge dX10_judge_62 fT_10_16
theorem rX10_judge_65 : tA sc iX10_judge 65 [l0, l1, vI x] st h Q = tA sc iX10_judge 66 [l0, l1, vI x] (vI x :: st) h Q := tA_pure mB_X10_judge dX10_judge_65 rfl
theorem rX10_judge_66 (hci : tcl h o = some 9) : tA sc iX10_judge 66 ls [vI p0, vR (some o), s0] h Q = tA sc iX9_latestMorning 0 [vR (some o), vI p0, vU] [] h (fun v h1 => tA sc iX10_judge 69 ls (tpu v [s0]) h1 Q) := tA_cV mB_X10_judge mO_X10_judge dX10_judge_66 cT_10_257 rfl (Nat.le_of_ble_eq_true rfl) rfl rfl rfl hci
theorem rX10_judge_69 : tA sc iX10_judge 69 ls (vI y :: vI x :: st) h Q = (if x = y then tA sc iX10_judge 76 ls st h Q else tA sc iX10_judge 72 ls st h Q) := tA_if mB_X10_judge dX10_judge_69 (fun _ _ _ _ => rfl) rfl
theorem rX10_judge_72 : tA sc iX10_judge 72 [l0, vI x, l2] st h Q = tA sc iX10_judge 73 [l0, vI x, l2] (vI x :: st) h Q := tA_pure mB_X10_judge dX10_judge_72 rfl
theorem rX10_judge_73 : tA sc iX10_judge 73 ls st h Q = tA sc iX10_judge 74 ls (vI (1) :: st) h Q := tA_pure mB_X10_judge dX10_judge_73 rfl
theorem rX10_judge_74 : tA sc iX10_judge 74 ls (vI y :: vI x :: st) h Q = tA sc iX10_judge 75 ls (vI (x + y) :: st) h Q := tA_pure mB_X10_judge dX10_judge_74 rfl
theorem rX10_judge_75 : tA sc iX10_judge 75 ls [vI x] h Q = Q (some (vI x)) h := tA_ret mB_X10_judge dX10_judge_75 (fun _ _ _ _ => rfl) (fun _ _ _ => rfl) (fun _ _ _ _ _ => rfl) rfl rfl
theorem rX10_judge_76 : tA sc iX10_judge 76 [l0, l1, vI x] st h Q = tA sc iX10_judge 79 [l0, tclr l1, vI (x + 1)] st h Q := tA_pure mB_X10_judge dX10_judge_76 rfl
theorem rX10_judge_79 : tA sc iX10_judge 79 ls st h Q = tA sc iX10_judge 46 ls st h Q := tA_jump mB_X10_judge dX10_judge_79 (fun _ _ _ _ => rfl) rfl
theorem rX10_judge_82 : tA sc iX10_judge 82 [l0, vI x, l2] st h Q = tA sc iX10_judge 85 [tclr l0, vI (x + 1), l2] st h Q := tA_pure mB_X10_judge dX10_judge_82 rfl
theorem rX10_judge_85 : tA sc iX10_judge 85 ls st h Q = tA sc iX10_judge 13 ls st h Q := tA_jump mB_X10_judge dX10_judge_85 (fun _ _ _ _ => rfl) rfl
theorem rX10_judge_88 : tA sc iX10_judge 88 ls st h Q = tA sc iX10_judge 89 ls (vI (0) :: st) h Q := tA_pure mB_X10_judge dX10_judge_88 rfl
theorem rX10_judge_89 : tA sc iX10_judge 89 ls [vI x] h Q = Q (some (vI x)) h := tA_ret mB_X10_judge dX10_judge_89 (fun _ _ _ _ => rfl) (fun _ _ _ => rfl) (fun _ _ _ _ _ => rfl) rfl rfl
theorem mB_X10_worths : mB iX10_worths = cX10_worths := rfl
theorem mO_X10_worths : mO iX10_worths = 10 := rfl
theorem rX10_worths_0 : tA sc iX10_worths 0 [l0, vI x, l2, l3, l4, l5, l6, l7] st h Q = tA sc iX10_worths 1 [l0, vI x, l2, l3, l4, l5, l6, l7] (vI x :: st) h Q := tA_pure mB_X10_worths dX10_worths_0 rfl
theorem rX10_worths_1 : tA sc iX10_worths 1 ls [vI p0] h Q = tA sc iX10_isSheet 0 [vI p0] [] h (fun v h1 => tA sc iX10_worths 4 ls (tpu v []) h1 Q) := tA_cS mB_X10_worths mO_X10_worths dX10_worths_1 cT_10_264 ⟨Nat.le_of_ble_eq_true rfl, Nat.le_of_ble_eq_true rfl⟩ rfl rfl rfl rfl
theorem rX10_worths_4 : tA sc iX10_worths 4 ls (vI x :: st) h Q = (if x = 0 then tA sc iX10_worths 28 ls st h Q else tA sc iX10_worths 7 ls st h Q) := tA_if mB_X10_worths dX10_worths_4 (fun _ _ _ _ => rfl) rfl
theorem rX10_worths_7 : tA sc iX10_worths 7 [l0, l1, l2, vI x, l4, l5, l6, l7] st h Q = tA sc iX10_worths 8 [l0, l1, l2, vI x, l4, l5, l6, l7] (vI x :: st) h Q := tA_pure mB_X10_worths dX10_worths_7 rfl
theorem rX10_worths_8 : tA sc iX10_worths 8 ls [vI p0] h Q = tA sc iX10_isDay 0 [vI p0] [] h (fun v h1 => tA sc iX10_worths 11 ls (tpu v []) h1 Q) := tA_cS mB_X10_worths mO_X10_worths dX10_worths_8 cT_10_77 ⟨Nat.le_of_ble_eq_true rfl, Nat.le_of_ble_eq_true rfl⟩ rfl rfl rfl rfl
theorem rX10_worths_11 : tA sc iX10_worths 11 ls (vI x :: st) h Q = (if x = 0 then tA sc iX10_worths 28 ls st h Q else tA sc iX10_worths 14 ls st h Q) := tA_if mB_X10_worths dX10_worths_11 (fun _ _ _ _ => rfl) rfl
theorem rX10_worths_14 : tA sc iX10_worths 14 [l0, l1, l2, l3, vI x, l5, l6, l7] st h Q = tA sc iX10_worths 16 [l0, l1, l2, l3, vI x, l5, l6, l7] (vI x :: st) h Q := tA_pure mB_X10_worths dX10_worths_14 rfl
theorem rX10_worths_16 : tA sc iX10_worths 16 ls (vI x :: st) h Q = (if x < 0 then tA sc iX10_worths 28 ls st h Q else tA sc iX10_worths 19 ls st h Q) := tA_if mB_X10_worths dX10_worths_16 (fun _ _ _ _ => rfl) rfl
theorem rX10_worths_19 : tA sc iX10_worths 19 [l0, l1, l2, l3, vI x, l5, l6, l7] st h Q = tA sc iX10_worths 21 [l0, l1, l2, l3, vI x, l5, l6, l7] (vI x :: st) h Q := tA_pure mB_X10_worths dX10_worths_19 rfl
theorem rX10_worths_21 : tA sc iX10_worths 21 ls st h Q = tA sc iX10_worths 23 ls (vI (20) :: st) h Q := tA_pure mB_X10_worths dX10_worths_21 rfl
theorem rX10_worths_23 : tA sc iX10_worths 23 [l0, l1, l2, vI x, l4, l5, l6, l7] st h Q = tA sc iX10_worths 24 [l0, l1, l2, vI x, l4, l5, l6, l7] (vI x :: st) h Q := tA_pure mB_X10_worths dX10_worths_23 rfl
theorem rX10_worths_24 : tA sc iX10_worths 24 ls (vI y :: vI x :: st) h Q = tA sc iX10_worths 25 ls (vI (x - y) :: st) h Q := tA_pure mB_X10_worths dX10_worths_24 rfl
theorem rX10_worths_25 : tA sc iX10_worths 25 ls (vI y :: vI x :: st) h Q = (if x ≤ y then tA sc iX10_worths 30 ls st h Q else tA sc iX10_worths 28 ls st h Q) := tA_if mB_X10_worths dX10_worths_25 (fun _ _ _ _ => rfl) rfl
theorem rX10_worths_28 : tA sc iX10_worths 28 ls st h Q = tA sc iX10_worths 29 ls (vI (-1) :: st) h Q := tA_pure mB_X10_worths dX10_worths_28 rfl
theorem rX10_worths_29 : tA sc iX10_worths 29 ls [vI x] h Q = Q (some (vI x)) h := tA_ret mB_X10_worths dX10_worths_29 (fun _ _ _ _ => rfl) (fun _ _ _ => rfl) (fun _ _ _ _ _ => rfl) rfl rfl
theorem rX10_worths_30 : tA sc iX10_worths 30 [vR r, l1, l2, l3, l4, l5, l6, l7] st h Q = tA sc iX10_worths 31 [vR r, l1, l2, l3, l4, l5, l6, l7] (vR r :: st) h Q := tA_pure mB_X10_worths dX10_worths_30 rfl
theorem rX10_worths_31 : tA sc iX10_worths 31 ls (vR (some o) :: st) h Q = oz (tget h o [10] 7) (fun v => tA sc iX10_worths 34 ls (v :: st) h Q) := tA_get mB_X10_worths mO_X10_worths dX10_worths_31 fT_10_35
theorem rX10_worths_34 : tA sc iX10_worths 34 [l0, vI x, l2, l3, l4, l5, l6, l7] st h Q = tA sc iX10_worths 35 [l0, vI x, l2, l3, l4, l5, l6, l7] (vI x :: st) h Q := tA_pure mB_X10_worths dX10_worths_34 rfl
theorem rX10_worths_35 : tA sc iX10_worths 35 ls (vI j :: vR (some a) :: st) h Q = oz (tldr h a j) (fun v => tA sc iX10_worths 36 ls (vR v :: st) h Q) := tA_aald mB_X10_worths dX10_worths_35
theorem rX10_worths_36 : tA sc iX10_worths 36 [l0, l1, l2, l3, l4, l5, l6, l7] (vR r :: st) h Q = tA sc iX10_worths 38 [l0, l1, l2, l3, tclr l4, vR r, l6, l7] st h Q := tA_pure mB_X10_worths dX10_worths_36 rfl
theorem rX10_worths_38 : tA sc iX10_worths 38 [l0, l1, l2, l3, l4, vR r, l6, l7] st h Q = tA sc iX10_worths 40 [l0, l1, l2, l3, l4, vR r, l6, l7] (vR r :: st) h Q := tA_pure mB_X10_worths dX10_worths_38 rfl
theorem rX10_worths_40n : tA sc iX10_worths 40 ls (vR none :: st) h Q = tA sc iX10_worths 43 ls st h Q := tA_jump mB_X10_worths dX10_worths_40 (fun _ _ _ _ => rfl) rfl
theorem rX10_worths_40s : tA sc iX10_worths 40 ls (vR (some o) :: st) h Q = tA sc iX10_worths 46 ls st h Q := tA_jump mB_X10_worths dX10_worths_40 (fun _ _ _ _ => rfl) rfl
theorem rX10_worths_43 : tA sc iX10_worths 43 ls st h Q = tA sc iX10_worths 45 ls (vI (-11) :: st) h Q := tA_pure mB_X10_worths dX10_worths_43 rfl
theorem rX10_worths_45 : tA sc iX10_worths 45 ls [vI x] h Q = Q (some (vI x)) h := tA_ret mB_X10_worths dX10_worths_45 (fun _ _ _ _ => rfl) (fun _ _ _ => rfl) (fun _ _ _ _ _ => rfl) rfl rfl
theorem rX10_worths_46 : tA sc iX10_worths 46 [l0, l1, l2, l3, l4, vR r, l6, l7] st h Q = tA sc iX10_worths 48 [l0, l1, l2, l3, l4, vR r, l6, l7] (vR r :: st) h Q := tA_pure mB_X10_worths dX10_worths_46 rfl
theorem rX10_worths_48 : tA sc iX10_worths 48 ls (vR (some o) :: st) h Q = oz (tget h o [5] 0) (fun v => tA sc iX10_worths 51 ls (v :: st) h Q) := tA_get mB_X10_worths mO_X10_worths dX10_worths_48 fT_10_267
theorem rX10_worths_51 : tA sc iX10_worths 51 ls (vI x :: st) h Q = (if x = 0 then tA sc iX10_worths 57 ls st h Q else tA sc iX10_worths 54 ls st h Q) := tA_if mB_X10_worths dX10_worths_51 (fun _ _ _ _ => rfl) rfl
theorem rX10_worths_54 : tA sc iX10_worths 54 ls st h Q = tA sc iX10_worths 56 ls (vI (-13) :: st) h Q := tA_pure mB_X10_worths dX10_worths_54 rfl
theorem rX10_worths_56 : tA sc iX10_worths 56 ls [vI x] h Q = Q (some (vI x)) h := tA_ret mB_X10_worths dX10_worths_56 (fun _ _ _ _ => rfl) (fun _ _ _ => rfl) (fun _ _ _ _ _ => rfl) rfl rfl
theorem rX10_worths_57 : tA sc iX10_worths 57 [l0, l1, vI x, l3, l4, l5, l6, l7] st h Q = tA sc iX10_worths 58 [l0, l1, vI x, l3, l4, l5, l6, l7] (vI x :: st) h Q := tA_pure mB_X10_worths dX10_worths_57 rfl
theorem rX10_worths_58 : tA sc iX10_worths 58 ls (vI x :: st) h Q = (if x < 0 then tA sc iX10_worths 74 ls st h Q else tA sc iX10_worths 61 ls st h Q) := tA_if mB_X10_worths dX10_worths_58 (fun _ _ _ _ => rfl) rfl
theorem rX10_worths_61 : tA sc iX10_worths 61 [l0, l1, vI x, l3, l4, l5, l6, l7] st h Q = tA sc iX10_worths 62 [l0, l1, vI x, l3, l4, l5, l6, l7] (vI x :: st) h Q := tA_pure mB_X10_worths dX10_worths_61 rfl
theorem rX10_worths_62 : tA sc iX10_worths 62 [l0, l1, l2, l3, l4, vR r, l6, l7] st h Q = tA sc iX10_worths 64 [l0, l1, l2, l3, l4, vR r, l6, l7] (vR r :: st) h Q := tA_pure mB_X10_worths dX10_worths_62 rfl
theorem rX10_worths_64 : tA sc iX10_worths 64 ls (vR (some o) :: st) h Q = oz (tget h o [5] 1) (fun v => tA sc iX10_worths 67 ls (v :: st) h Q) := tA_get mB_X10_worths mO_X10_worths dX10_worths_64 fT_10_270
theorem rX10_worths_67 : tA sc iX10_worths 67 ls (vR (some a) :: st) h Q = oz (tlen sc h a) (fun v => tA sc iX10_worths 68 ls (vI v :: st) h Q) := tA_alen mB_X10_worths dX10_worths_67
theorem rX10_worths_68 : tA sc iX10_worths 68 [l0, l1, l2, l3, vI x, l5, l6, l7] st h Q = tA sc iX10_worths 70 [l0, l1, l2, l3, vI x, l5, l6, l7] (vI x :: st) h Q := tA_pure mB_X10_worths dX10_worths_68 rfl
theorem rX10_worths_70 : tA sc iX10_worths 70 ls (vI y :: vI x :: st) h Q = tA sc iX10_worths 71 ls (vI (x - y) :: st) h Q := tA_pure mB_X10_worths dX10_worths_70 rfl
theorem rX10_worths_71 : tA sc iX10_worths 71 ls (vI y :: vI x :: st) h Q = (if x ≤ y then tA sc iX10_worths 77 ls st h Q else tA sc iX10_worths 74 ls st h Q) := tA_if mB_X10_worths dX10_worths_71 (fun _ _ _ _ => rfl) rfl
theorem rX10_worths_74 : tA sc iX10_worths 74 ls st h Q = tA sc iX10_worths 76 ls (vI (-12) :: st) h Q := tA_pure mB_X10_worths dX10_worths_74 rfl
theorem rX10_worths_76 : tA sc iX10_worths 76 ls [vI x] h Q = Q (some (vI x)) h := tA_ret mB_X10_worths dX10_worths_76 (fun _ _ _ _ => rfl) (fun _ _ _ => rfl) (fun _ _ _ _ _ => rfl) rfl rfl
theorem rX10_worths_77 : tA sc iX10_worths 77 ls st h Q = tA sc iX10_worths 78 ls (vI (0) :: st) h Q := tA_pure mB_X10_worths dX10_worths_77 rfl
theorem rX10_worths_78 : tA sc iX10_worths 78 [l0, l1, l2, l3, l4, l5, l6, l7] (vI x :: st) h Q = tA sc iX10_worths 80 [l0, l1, l2, l3, l4, tclr l5, vI x, l7] st h Q := tA_pure mB_X10_worths dX10_worths_78 rfl
theorem rX10_worths_80 : tA sc iX10_worths 80 [l0, l1, l2, l3, l4, l5, vI x, l7] st h Q = tA sc iX10_worths 82 [l0, l1, l2, l3, l4, l5, vI x, l7] (vI x :: st) h Q := tA_pure mB_X10_worths dX10_worths_80 rfl
theorem rX10_worths_82 : tA sc iX10_worths 82 [l0, l1, l2, l3, vI x, l5, l6, l7] st h Q = tA sc iX10_worths 84 [l0, l1, l2, l3, vI x, l5, l6, l7] (vI x :: st) h Q := tA_pure mB_X10_worths dX10_worths_82 rfl
theorem rX10_worths_84 : tA sc iX10_worths 84 ls (vI y :: vI x :: st) h Q = (if y ≤ x then tA sc iX10_worths 129 ls st h Q else tA sc iX10_worths 87 ls st h Q) := tA_if mB_X10_worths dX10_worths_84 (fun _ _ _ _ => rfl) rfl
theorem rX10_worths_87 : tA sc iX10_worths 87 [l0, l1, l2, l3, l4, vR r, l6, l7] st h Q = tA sc iX10_worths 89 [l0, l1, l2, l3, l4, vR r, l6, l7] (vR r :: st) h Q := tA_pure mB_X10_worths dX10_worths_87 rfl
theorem rX10_worths_89 : tA sc iX10_worths 89 ls (vR (some o) :: st) h Q = oz (tget h o [5] 1) (fun v => tA sc iX10_worths 92 ls (v :: st) h Q) := tA_get mB_X10_worths mO_X10_worths dX10_worths_89 fT_10_270
theorem rX10_worths_92 : tA sc iX10_worths 92 [l0, l1, vI x, l3, l4, l5, l6, l7] st h Q = tA sc iX10_worths 93 [l0, l1, vI x, l3, l4, l5, l6, l7] (vI x :: st) h Q := tA_pure mB_X10_worths dX10_worths_92 rfl
theorem rX10_worths_93 : tA sc iX10_worths 93 [l0, l1, l2, l3, l4, l5, vI x, l7] st h Q = tA sc iX10_worths 95 [l0, l1, l2, l3, l4, l5, vI x, l7] (vI x :: st) h Q := tA_pure mB_X10_worths dX10_worths_93 rfl
theorem rX10_worths_95 : tA sc iX10_worths 95 ls (vI y :: vI x :: st) h Q = tA sc iX10_worths 96 ls (vI (x + y) :: st) h Q := tA_pure mB_X10_worths dX10_worths_95 rfl
theorem rX10_worths_96 : tA sc iX10_worths 96 ls (vI j :: vR (some a) :: st) h Q = oz (tldl h a j) (fun v => tA sc iX10_worths 97 ls (vL v :: st) h Q) := tA_lald mB_X10_worths dX10_worths_96
theorem rX10_worths_97 : tA sc iX10_worths 97 ls (vL u :: st) h Q = tA sc iX10_worths 98 ls (vI u.toInt32 :: st) h Q := tA_pure mB_X10_worths dX10_worths_97 rfl
theorem rX10_worths_98 : tA sc iX10_worths 98 [l0, l1, l2, l3, l4, l5, l6, l7] (vI x :: st) h Q = tA sc iX10_worths 100 [l0, l1, l2, l3, l4, l5, tclr l6, vI x] st h Q := tA_pure mB_X10_worths dX10_worths_98 rfl
theorem rX10_worths_100 : tA sc iX10_worths 100 [vR r, l1, l2, l3, l4, l5, l6, l7] st h Q = tA sc iX10_worths 101 [vR r, l1, l2, l3, l4, l5, l6, l7] (vR r :: st) h Q := tA_pure mB_X10_worths dX10_worths_100 rfl
theorem rX10_worths_101 : tA sc iX10_worths 101 ls (vR (some o) :: st) h Q = oz (tget h o [10] 0) (fun v => tA sc iX10_worths 104 ls (v :: st) h Q) := tA_get mB_X10_worths mO_X10_worths dX10_worths_101 fT_10_10
theorem rX10_worths_104 : tA sc iX10_worths 104 ls (vR (some o) :: st) h Q = oz (tget h o [9] 0) (fun v => tA sc iX10_worths 107 ls (v :: st) h Q) := tA_get mB_X10_worths mO_X10_worths dX10_worths_104 fT_10_81
theorem rX10_worths_107 : tA sc iX10_worths 107 [l0, l1, l2, vI x, l4, l5, l6, l7] st h Q = tA sc iX10_worths 108 [l0, l1, l2, vI x, l4, l5, l6, l7] (vI x :: st) h Q := tA_pure mB_X10_worths dX10_worths_107 rfl
theorem rX10_worths_108 : tA sc iX10_worths 108 [l0, l1, l2, l3, l4, l5, vI x, l7] st h Q = tA sc iX10_worths 110 [l0, l1, l2, l3, l4, l5, vI x, l7] (vI x :: st) h Q := tA_pure mB_X10_worths dX10_worths_108 rfl
theorem rX10_worths_110 : tA sc iX10_worths 110 ls (vI y :: vI x :: st) h Q = tA sc iX10_worths 111 ls (vI (x + y) :: st) h Q := tA_pure mB_X10_worths dX10_worths_110 rfl
theorem rX10_worths_111 : tA sc iX10_worths 111 ls st h Q = tA sc iX10_worths 112 ls (vI (0) :: st) h Q := tA_pure mB_X10_worths dX10_worths_111 rfl
theorem rX10_worths_112 : tA sc iX10_worths 112 ls st h Q = tA sc iX10_worths 114 ls (vI (99) :: st) h Q := tA_pure mB_X10_worths dX10_worths_112 rfl
theorem rX10_worths_114 : tA sc iX10_worths 114 [l0, l1, l2, l3, l4, l5, l6, vI x] st h Q = tA sc iX10_worths 116 [l0, l1, l2, l3, l4, l5, l6, vI x] (vI x :: st) h Q := tA_pure mB_X10_worths dX10_worths_114 rfl
theorem rX10_worths_116 : tA sc iX10_worths 116 ls [vI p1, vI p0, s0, s1, s2] h Q = tA sc iX10_worths 119 ls (vI (if p1 < p0 then p1 else p0) :: [s0, s1, s2]) h Q := tA_cN mB_X10_worths mO_X10_worths dX10_worths_116 (fun _ _ _ _ => rfl) (fun _ _ _ => rfl) (fun _ _ _ _ _ => rfl) rfl cT_10_254 rfl rfl
theorem rX10_worths_119 : tA sc iX10_worths 119 ls [vI p1, vI p0, s0, s1] h Q = tA sc iX10_worths 122 ls (vI (if p0 < p1 then p1 else p0) :: [s0, s1]) h Q := tA_cN mB_X10_worths mO_X10_worths dX10_worths_119 (fun _ _ _ _ => rfl) (fun _ _ _ => rfl) (fun _ _ _ _ _ => rfl) rfl cT_10_246 rfl rfl
theorem rX10_worths_122 : tA sc iX10_worths 122 ls (vI x :: vI j :: vR (some a) :: st) h Q = oz (tasi h a j x) (fun h' => tA sc iX10_worths 123 ls st h' Q) := tA_iast mB_X10_worths dX10_worths_122
theorem rX10_worths_123 : tA sc iX10_worths 123 [l0, l1, l2, l3, l4, l5, vI x, l7] st h Q = tA sc iX10_worths 126 [l0, l1, l2, l3, l4, tclr l5, vI (x + 1), l7] st h Q := tA_pure mB_X10_worths dX10_worths_123 rfl
theorem rX10_worths_126 : tA sc iX10_worths 126 ls st h Q = tA sc iX10_worths 80 ls st h Q := tA_jump mB_X10_worths dX10_worths_126 (fun _ _ _ _ => rfl) rfl
theorem rX10_worths_129 : tA sc iX10_worths 129 [l0, l1, l2, l3, vI x, l5, l6, l7] st h Q = tA sc iX10_worths 131 [l0, l1, l2, l3, vI x, l5, l6, l7] (vI x :: st) h Q := tA_pure mB_X10_worths dX10_worths_129 rfl
theorem rX10_worths_131 : tA sc iX10_worths 131 ls [vI x] h Q = Q (some (vI x)) h := tA_ret mB_X10_worths dX10_worths_131 (fun _ _ _ _ => rfl) (fun _ _ _ => rfl) (fun _ _ _ _ _ => rfl) rfl rfl
theorem mB_X10_sheet : mB iX10_sheet = cX10_sheet := rfl
theorem mO_X10_sheet : mO iX10_sheet = 10 := rfl
theorem rX10_sheet_0 : tA sc iX10_sheet 0 [l0, vI x, l2, l3] st h Q = tA sc iX10_sheet 1 [l0, vI x, l2, l3] (vI x :: st) h Q := tA_pure mB_X10_sheet dX10_sheet_0 rfl
theorem rX10_sheet_1 : tA sc iX10_sheet 1 ls [vI p0] h Q = tA sc iX10_isSheet 0 [vI p0] [] h (fun v h1 => tA sc iX10_sheet 4 ls (tpu v []) h1 Q) := tA_cS mB_X10_sheet mO_X10_sheet dX10_sheet_1 cT_10_264 ⟨Nat.le_of_ble_eq_true rfl, Nat.le_of_ble_eq_true rfl⟩ rfl rfl rfl rfl
theorem rX10_sheet_4 : tA sc iX10_sheet 4 ls (vI x :: st) h Q = (if x = 0 then tA sc iX10_sheet 17 ls st h Q else tA sc iX10_sheet 7 ls st h Q) := tA_if mB_X10_sheet dX10_sheet_4 (fun _ _ _ _ => rfl) rfl
theorem rX10_sheet_7 : tA sc iX10_sheet 7 [l0, l1, vI x, l3] st h Q = tA sc iX10_sheet 8 [l0, l1, vI x, l3] (vI x :: st) h Q := tA_pure mB_X10_sheet dX10_sheet_7 rfl
theorem rX10_sheet_8 : tA sc iX10_sheet 8 ls st h Q = tA sc iX10_sheet 9 ls (vI (-1) :: st) h Q := tA_pure mB_X10_sheet dX10_sheet_8 rfl
theorem rX10_sheet_9 : tA sc iX10_sheet 9 ls (vI y :: vI x :: st) h Q = (if x < y then tA sc iX10_sheet 17 ls st h Q else tA sc iX10_sheet 12 ls st h Q) := tA_if mB_X10_sheet dX10_sheet_9 (fun _ _ _ _ => rfl) rfl
theorem rX10_sheet_12 : tA sc iX10_sheet 12 [l0, l1, vI x, l3] st h Q = tA sc iX10_sheet 13 [l0, l1, vI x, l3] (vI x :: st) h Q := tA_pure mB_X10_sheet dX10_sheet_12 rfl
theorem rX10_sheet_13 : tA sc iX10_sheet 13 ls st h Q = tA sc iX10_sheet 14 ls (vI (4) :: st) h Q := tA_pure mB_X10_sheet dX10_sheet_13 rfl
theorem rX10_sheet_14 : tA sc iX10_sheet 14 ls (vI y :: vI x :: st) h Q = (if x < y then tA sc iX10_sheet 19 ls st h Q else tA sc iX10_sheet 17 ls st h Q) := tA_if mB_X10_sheet dX10_sheet_14 (fun _ _ _ _ => rfl) rfl
theorem rX10_sheet_17 : tA sc iX10_sheet 17 ls st h Q = tA sc iX10_sheet 18 ls (vI (-1) :: st) h Q := tA_pure mB_X10_sheet dX10_sheet_17 rfl
theorem rX10_sheet_18 : tA sc iX10_sheet 18 ls [vI x] h Q = Q (some (vI x)) h := tA_ret mB_X10_sheet dX10_sheet_18 (fun _ _ _ _ => rfl) (fun _ _ _ => rfl) (fun _ _ _ _ _ => rfl) rfl rfl
theorem rX10_sheet_19 : tA sc iX10_sheet 19 [l0, l1, vI x, l3] st h Q = tA sc iX10_sheet 20 [l0, l1, vI x, l3] (vI x :: st) h Q := tA_pure mB_X10_sheet dX10_sheet_19 rfl
theorem rX10_sheet_20 : tA sc iX10_sheet 20 ls st h Q = tA sc iX10_sheet 21 ls (vI (-1) :: st) h Q := tA_pure mB_X10_sheet dX10_sheet_20 rfl
theorem rX10_sheet_21 : tA sc iX10_sheet 21 ls (vI y :: vI x :: st) h Q = (if ¬ x = y then tA sc iX10_sheet 33 ls st h Q else tA sc iX10_sheet 24 ls st h Q) := tA_if mB_X10_sheet dX10_sheet_21 (fun _ _ _ _ => rfl) rfl
theorem rX10_sheet_24 : tA sc iX10_sheet 24 [vR r, l1, l2, l3] st h Q = tA sc iX10_sheet 25 [vR r, l1, l2, l3] (vR r :: st) h Q := tA_pure mB_X10_sheet dX10_sheet_24 rfl
theorem rX10_sheet_25 : tA sc iX10_sheet 25 ls (vR (some o) :: st) h Q = oz (tget h o [10] 7) (fun v => tA sc iX10_sheet 28 ls (v :: st) h Q) := tA_get mB_X10_sheet mO_X10_sheet dX10_sheet_25 fT_10_35
theorem rX10_sheet_28 : tA sc iX10_sheet 28 [l0, vI x, l2, l3] st h Q = tA sc iX10_sheet 29 [l0, vI x, l2, l3] (vI x :: st) h Q := tA_pure mB_X10_sheet dX10_sheet_28 rfl
theorem rX10_sheet_29 : tA sc iX10_sheet 29 ls st h Q = tA sc iX10_sheet 30 ls (vR none :: st) h Q := tA_pure mB_X10_sheet dX10_sheet_29 rfl
theorem rX10_sheet_30 : tA sc iX10_sheet 30 ls (vR r :: vI j :: vR (some a) :: st) h Q = oz (tasr h a j r) (fun h' => tA sc iX10_sheet 31 ls st h' Q) := tA_aast mB_X10_sheet dX10_sheet_30
theorem rX10_sheet_31 : tA sc iX10_sheet 31 ls st h Q = tA sc iX10_sheet 32 ls (vI (1) :: st) h Q := tA_pure mB_X10_sheet dX10_sheet_31 rfl
theorem rX10_sheet_32 : tA sc iX10_sheet 32 ls [vI x] h Q = Q (some (vI x)) h := tA_ret mB_X10_sheet dX10_sheet_32 (fun _ _ _ _ => rfl) (fun _ _ _ => rfl) (fun _ _ _ _ _ => rfl) rfl rfl
theorem rX10_sheet_33 : tA sc iX10_sheet 33 [l0, l1, l2, vI x] st h Q = tA sc iX10_sheet 34 [l0, l1, l2, vI x] (vI x :: st) h Q := tA_pure mB_X10_sheet dX10_sheet_33 rfl
theorem rX10_sheet_34 : tA sc iX10_sheet 34 ls st h Q = tA sc iX10_sheet 36 ls (vI (40) :: st) h Q := tA_pure mB_X10_sheet dX10_sheet_34 rfl
theorem rX10_sheet_36 : tA sc iX10_sheet 36 ls (vI y :: vI x :: st) h Q = (if x ≤ y then tA sc iX10_sheet 41 ls st h Q else tA sc iX10_sheet 39 ls st h Q) := tA_if mB_X10_sheet dX10_sheet_36 (fun _ _ _ _ => rfl) rfl
theorem rX10_sheet_39 : tA sc iX10_sheet 39 ls st h Q = tA sc iX10_sheet 40 ls (vI (-1) :: st) h Q := tA_pure mB_X10_sheet dX10_sheet_39 rfl
theorem rX10_sheet_40 : tA sc iX10_sheet 40 ls [vI x] h Q = Q (some (vI x)) h := tA_ret mB_X10_sheet dX10_sheet_40 (fun _ _ _ _ => rfl) (fun _ _ _ => rfl) (fun _ _ _ _ _ => rfl) rfl rfl
theorem rX10_sheet_41 : tA sc iX10_sheet 41 [l0, l1, l2, vI x] st h Q = tA sc iX10_sheet 42 [l0, l1, l2, vI x] (vI x :: st) h Q := tA_pure mB_X10_sheet dX10_sheet_41 rfl
theorem rX10_sheet_42 : tA sc iX10_sheet 42 ls (vI x :: st) h Q = (if 0 ≤ x then tA sc iX10_sheet 48 ls st h Q else tA sc iX10_sheet 45 ls st h Q) := tA_if mB_X10_sheet dX10_sheet_42 (fun _ _ _ _ => rfl) rfl
theorem rX10_sheet_45 : tA sc iX10_sheet 45 ls st h Q = tA sc iX10_sheet 47 ls (vI (-14) :: st) h Q := tA_pure mB_X10_sheet dX10_sheet_45 rfl
theorem rX10_sheet_47 : tA sc iX10_sheet 47 ls [vI x] h Q = Q (some (vI x)) h := tA_ret mB_X10_sheet dX10_sheet_47 (fun _ _ _ _ => rfl) (fun _ _ _ => rfl) (fun _ _ _ _ _ => rfl) rfl rfl
theorem rX10_sheet_48 : tA sc iX10_sheet 48 [vR r, l1, l2, l3] st h Q = tA sc iX10_sheet 49 [vR r, l1, l2, l3] (vR r :: st) h Q := tA_pure mB_X10_sheet dX10_sheet_48 rfl
theorem rX10_sheet_49 : tA sc iX10_sheet 49 ls (vR (some o) :: st) h Q = oz (tget h o [10] 7) (fun v => tA sc iX10_sheet 52 ls (v :: st) h Q) := tA_get mB_X10_sheet mO_X10_sheet dX10_sheet_49 fT_10_35
theorem rX10_sheet_52 : tA sc iX10_sheet 52 [l0, vI x, l2, l3] st h Q = tA sc iX10_sheet 53 [l0, vI x, l2, l3] (vI x :: st) h Q := tA_pure mB_X10_sheet dX10_sheet_52 rfl
theorem rX10_sheet_53 : tA sc iX10_sheet 53 ls st h Q = oz (tnew h (.inr (5, tdf 5)) 2) (fun h' => tA sc iX10_sheet 56 ls (vR (some h.2.1) :: st) h' Q) := (tA_hp mB_X10_sheet dX10_sheet_53 (fun _ _ _ _ => rfl) (fun _ _ _ => rfl) rfl (fun _ _ => rfl) rfl).trans (oz_map _ _ _)
theorem rX10_sheet_56 : tA sc iX10_sheet 56 ls (vR r :: st) h Q = tA sc iX10_sheet 57 ls (vR r :: vR r :: st) h Q := tA_pure mB_X10_sheet dX10_sheet_56 rfl
theorem rX10_sheet_57 : tA sc iX10_sheet 57 [l0, l1, vI x, l3] st h Q = tA sc iX10_sheet 58 [l0, l1, vI x, l3] (vI x :: st) h Q := tA_pure mB_X10_sheet dX10_sheet_57 rfl
theorem rX10_sheet_58 : tA sc iX10_sheet 58 [l0, l1, l2, vI x] st h Q = tA sc iX10_sheet 59 [l0, l1, l2, vI x] (vI x :: st) h Q := tA_pure mB_X10_sheet dX10_sheet_58 rfl
theorem rX10_sheet_59 : tA sc iX10_sheet 59 ls (vI x :: st) h Q = oz (tna h 2 x) (fun h' => tA sc iX10_sheet 61 ls (vR (some h.2.1) :: st) h' Q) := (tA_hp mB_X10_sheet dX10_sheet_59 (fun _ _ _ _ => rfl) (fun _ _ _ => rfl) rfl (fun _ _ => rfl) rfl).trans (oz_map _ _ _)
theorem rX10_sheet_61 : tA sc iX10_sheet 61 ls [vR n1, vI p0, vR (some o), s0, s1, s2] h Q = tA sc iX5_init 0 [vR (some o), vI p0, vR n1] [] h (fun v h1 => tA sc iX10_sheet 64 ls (tpu v [s0, s1, s2]) h1 Q) := tA_cI mB_X10_sheet mO_X10_sheet dX10_sheet_61 cT_10_274 rfl (Nat.le_of_ble_eq_true rfl) rfl rfl rfl
theorem rX10_sheet_64 : tA sc iX10_sheet 64 ls (vR r :: vI j :: vR (some a) :: st) h Q = oz (tasr h a j r) (fun h' => tA sc iX10_sheet 65 ls st h' Q) := tA_aast mB_X10_sheet dX10_sheet_64
theorem rX10_sheet_65 : tA sc iX10_sheet 65 ls st h Q = tA sc iX10_sheet 66 ls (vI (1) :: st) h Q := tA_pure mB_X10_sheet dX10_sheet_65 rfl
theorem rX10_sheet_66 : tA sc iX10_sheet 66 ls [vI x] h Q = Q (some (vI x)) h := tA_ret mB_X10_sheet dX10_sheet_66 (fun _ _ _ _ => rfl) (fun _ _ _ => rfl) (fun _ _ _ _ _ => rfl) rfl rfl
theorem mB_X10_put : mB iX10_put = cX10_put := rfl
theorem mO_X10_put : mO iX10_put = 10 := rfl
theorem rX10_put_0 : tA sc iX10_put 0 [l0, vI x, l2, l3, l4] st h Q = tA sc iX10_put 1 [l0, vI x, l2, l3, l4] (vI x :: st) h Q := tA_pure mB_X10_put dX10_put_0 rfl
theorem rX10_put_1 : tA sc iX10_put 1 ls [vI p0] h Q = tA sc iX10_isSheet 0 [vI p0] [] h (fun v h1 => tA sc iX10_put 4 ls (tpu v []) h1 Q) := tA_cS mB_X10_put mO_X10_put dX10_put_1 cT_10_264 ⟨Nat.le_of_ble_eq_true rfl, Nat.le_of_ble_eq_true rfl⟩ rfl rfl rfl rfl
theorem rX10_put_4 : tA sc iX10_put 4 ls (vI x :: st) h Q = (if ¬ x = 0 then tA sc iX10_put 9 ls st h Q else tA sc iX10_put 7 ls st h Q) := tA_if mB_X10_put dX10_put_4 (fun _ _ _ _ => rfl) rfl
theorem rX10_put_7 : tA sc iX10_put 7 ls st h Q = tA sc iX10_put 8 ls (vI (-1) :: st) h Q := tA_pure mB_X10_put dX10_put_7 rfl
theorem rX10_put_8 : tA sc iX10_put 8 ls [vI x] h Q = Q (some (vI x)) h := tA_ret mB_X10_put dX10_put_8 (fun _ _ _ _ => rfl) (fun _ _ _ => rfl) (fun _ _ _ _ _ => rfl) rfl rfl
theorem rX10_put_9 : tA sc iX10_put 9 [vR r, l1, l2, l3, l4] st h Q = tA sc iX10_put 10 [vR r, l1, l2, l3, l4] (vR r :: st) h Q := tA_pure mB_X10_put dX10_put_9 rfl
theorem rX10_put_10 : tA sc iX10_put 10 ls (vR (some o) :: st) h Q = oz (tget h o [10] 7) (fun v => tA sc iX10_put 13 ls (v :: st) h Q) := tA_get mB_X10_put mO_X10_put dX10_put_10 fT_10_35
theorem rX10_put_13 : tA sc iX10_put 13 [l0, vI x, l2, l3, l4] st h Q = tA sc iX10_put 14 [l0, vI x, l2, l3, l4] (vI x :: st) h Q := tA_pure mB_X10_put dX10_put_13 rfl
theorem rX10_put_14 : tA sc iX10_put 14 ls (vI j :: vR (some a) :: st) h Q = oz (tldr h a j) (fun v => tA sc iX10_put 15 ls (vR v :: st) h Q) := tA_aald mB_X10_put dX10_put_14
theorem rX10_put_15 : tA sc iX10_put 15 [l0, l1, l2, l3, l4] (vR r :: st) h Q = tA sc iX10_put 17 [l0, l1, l2, tclr l3, vR r] st h Q := tA_pure mB_X10_put dX10_put_15 rfl
theorem rX10_put_17 : tA sc iX10_put 17 [l0, l1, l2, l3, vR r] st h Q = tA sc iX10_put 19 [l0, l1, l2, l3, vR r] (vR r :: st) h Q := tA_pure mB_X10_put dX10_put_17 rfl
theorem rX10_put_19n : tA sc iX10_put 19 ls (vR none :: st) h Q = tA sc iX10_put 22 ls st h Q := tA_jump mB_X10_put dX10_put_19 (fun _ _ _ _ => rfl) rfl
theorem rX10_put_19s : tA sc iX10_put 19 ls (vR (some o) :: st) h Q = tA sc iX10_put 25 ls st h Q := tA_jump mB_X10_put dX10_put_19 (fun _ _ _ _ => rfl) rfl
theorem rX10_put_22 : tA sc iX10_put 22 ls st h Q = tA sc iX10_put 24 ls (vI (-11) :: st) h Q := tA_pure mB_X10_put dX10_put_22 rfl
theorem rX10_put_24 : tA sc iX10_put 24 ls [vI x] h Q = Q (some (vI x)) h := tA_ret mB_X10_put dX10_put_24 (fun _ _ _ _ => rfl) (fun _ _ _ => rfl) (fun _ _ _ _ _ => rfl) rfl rfl
theorem rX10_put_25 : tA sc iX10_put 25 [l0, l1, vI x, l3, l4] st h Q = tA sc iX10_put 26 [l0, l1, vI x, l3, l4] (vI x :: st) h Q := tA_pure mB_X10_put dX10_put_25 rfl
theorem rX10_put_26 : tA sc iX10_put 26 ls (vI x :: st) h Q = (if x < 0 then tA sc iX10_put 39 ls st h Q else tA sc iX10_put 29 ls st h Q) := tA_if mB_X10_put dX10_put_26 (fun _ _ _ _ => rfl) rfl
theorem rX10_put_29 : tA sc iX10_put 29 [l0, l1, vI x, l3, l4] st h Q = tA sc iX10_put 30 [l0, l1, vI x, l3, l4] (vI x :: st) h Q := tA_pure mB_X10_put dX10_put_29 rfl
theorem rX10_put_30 : tA sc iX10_put 30 [l0, l1, l2, l3, vR r] st h Q = tA sc iX10_put 32 [l0, l1, l2, l3, vR r] (vR r :: st) h Q := tA_pure mB_X10_put dX10_put_30 rfl
theorem rX10_put_32 : tA sc iX10_put 32 ls (vR (some o) :: st) h Q = oz (tget h o [5] 1) (fun v => tA sc iX10_put 35 ls (v :: st) h Q) := tA_get mB_X10_put mO_X10_put dX10_put_32 fT_10_270
theorem rX10_put_35 : tA sc iX10_put 35 ls (vR (some a) :: st) h Q = oz (tlen sc h a) (fun v => tA sc iX10_put 36 ls (vI v :: st) h Q) := tA_alen mB_X10_put dX10_put_35
theorem rX10_put_36 : tA sc iX10_put 36 ls (vI y :: vI x :: st) h Q = (if x < y then tA sc iX10_put 42 ls st h Q else tA sc iX10_put 39 ls st h Q) := tA_if mB_X10_put dX10_put_36 (fun _ _ _ _ => rfl) rfl
theorem rX10_put_39 : tA sc iX10_put 39 ls st h Q = tA sc iX10_put 41 ls (vI (-12) :: st) h Q := tA_pure mB_X10_put dX10_put_39 rfl
theorem rX10_put_41 : tA sc iX10_put 41 ls [vI x] h Q = Q (some (vI x)) h := tA_ret mB_X10_put dX10_put_41 (fun _ _ _ _ => rfl) (fun _ _ _ => rfl) (fun _ _ _ _ _ => rfl) rfl rfl
theorem rX10_put_42 : tA sc iX10_put 42 [l0, l1, l2, l3, vR r] st h Q = tA sc iX10_put 44 [l0, l1, l2, l3, vR r] (vR r :: st) h Q := tA_pure mB_X10_put dX10_put_42 rfl
theorem rX10_put_44 : tA sc iX10_put 44 ls (vR (some o) :: st) h Q = oz (tget h o [5] 1) (fun v => tA sc iX10_put 47 ls (v :: st) h Q) := tA_get mB_X10_put mO_X10_put dX10_put_44 fT_10_270
theorem rX10_put_47 : tA sc iX10_put 47 [l0, l1, vI x, l3, l4] st h Q = tA sc iX10_put 48 [l0, l1, vI x, l3, l4] (vI x :: st) h Q := tA_pure mB_X10_put dX10_put_47 rfl
theorem rX10_put_48 : tA sc iX10_put 48 [l0, l1, l2, l3, vR r] st h Q = tA sc iX10_put 50 [l0, l1, l2, l3, vR r] (vR r :: st) h Q := tA_pure mB_X10_put dX10_put_48 rfl
theorem rX10_put_50 : tA sc iX10_put 50 [l0, l1, l2, vI x, l4] st h Q = tA sc iX10_put 51 [l0, l1, l2, vI x, l4] (vI x :: st) h Q := tA_pure mB_X10_put dX10_put_50 rfl
theorem rX10_put_51 (hci : tcl h o = some 5) : tA sc iX10_put 51 ls [vI p0, vR (some o), s0, s1] h Q = tA sc iX5_narrowed 0 [vR (some o), vI p0] [] h (fun v h1 => tA sc iX10_put 54 ls (tpu v [s0, s1]) h1 Q) := tA_cV mB_X10_put mO_X10_put dX10_put_51 cT_10_277 rfl (Nat.le_of_ble_eq_true rfl) rfl rfl rfl hci
theorem rX10_put_54 : tA sc iX10_put 54 ls (vL u :: vI j :: vR (some a) :: st) h Q = oz (tasl h a j u) (fun h' => tA sc iX10_put 55 ls st h' Q) := tA_last mB_X10_put dX10_put_54
theorem rX10_put_55 : tA sc iX10_put 55 ls st h Q = tA sc iX10_put 56 ls (vI (1) :: st) h Q := tA_pure mB_X10_put dX10_put_55 rfl
theorem rX10_put_56 : tA sc iX10_put 56 ls [vI x] h Q = Q (some (vI x)) h := tA_ret mB_X10_put dX10_put_56 (fun _ _ _ _ => rfl) (fun _ _ _ => rfl) (fun _ _ _ _ _ => rfl) rfl rfl
theorem mB_X10_item : mB iX10_item = cX10_item := rfl
theorem mO_X10_item : mO iX10_item = 10 := rfl
theorem rX10_item_0 : tA sc iX10_item 0 [l0, vI x, l2, l3, l4] st h Q = tA sc iX10_item 1 [l0, vI x, l2, l3, l4] (vI x :: st) h Q := tA_pure mB_X10_item dX10_item_0 rfl
theorem rX10_item_1 : tA sc iX10_item 1 ls [vI p0] h Q = tA sc iX10_isSheet 0 [vI p0] [] h (fun v h1 => tA sc iX10_item 4 ls (tpu v []) h1 Q) := tA_cS mB_X10_item mO_X10_item dX10_item_1 cT_10_264 ⟨Nat.le_of_ble_eq_true rfl, Nat.le_of_ble_eq_true rfl⟩ rfl rfl rfl rfl
theorem rX10_item_4 : tA sc iX10_item 4 ls (vI x :: st) h Q = (if x = 0 then tA sc iX10_item 16 ls st h Q else tA sc iX10_item 7 ls st h Q) := tA_if mB_X10_item dX10_item_4 (fun _ _ _ _ => rfl) rfl
theorem rX10_item_7 : tA sc iX10_item 7 [l0, l1, vI x, l3, l4] st h Q = tA sc iX10_item 8 [l0, l1, vI x, l3, l4] (vI x :: st) h Q := tA_pure mB_X10_item dX10_item_7 rfl
theorem rX10_item_8 : tA sc iX10_item 8 ls (vI x :: st) h Q = (if x < 0 then tA sc iX10_item 16 ls st h Q else tA sc iX10_item 11 ls st h Q) := tA_if mB_X10_item dX10_item_8 (fun _ _ _ _ => rfl) rfl
theorem rX10_item_11 : tA sc iX10_item 11 [l0, l1, vI x, l3, l4] st h Q = tA sc iX10_item 12 [l0, l1, vI x, l3, l4] (vI x :: st) h Q := tA_pure mB_X10_item dX10_item_11 rfl
theorem rX10_item_12 : tA sc iX10_item 12 ls st h Q = tA sc iX10_item 13 ls (vI (4) :: st) h Q := tA_pure mB_X10_item dX10_item_12 rfl
theorem rX10_item_13 : tA sc iX10_item 13 ls (vI y :: vI x :: st) h Q = (if x < y then tA sc iX10_item 18 ls st h Q else tA sc iX10_item 16 ls st h Q) := tA_if mB_X10_item dX10_item_13 (fun _ _ _ _ => rfl) rfl
theorem rX10_item_16 : tA sc iX10_item 16 ls st h Q = tA sc iX10_item 17 ls (vI (-1) :: st) h Q := tA_pure mB_X10_item dX10_item_16 rfl
theorem rX10_item_17 : tA sc iX10_item 17 ls [vI x] h Q = Q (some (vI x)) h := tA_ret mB_X10_item dX10_item_17 (fun _ _ _ _ => rfl) (fun _ _ _ => rfl) (fun _ _ _ _ _ => rfl) rfl rfl
theorem rX10_item_18 : tA sc iX10_item 18 [vR r, l1, l2, l3, l4] st h Q = tA sc iX10_item 19 [vR r, l1, l2, l3, l4] (vR r :: st) h Q := tA_pure mB_X10_item dX10_item_18 rfl
theorem rX10_item_19 : tA sc iX10_item 19 ls (vR (some o) :: st) h Q = oz (tget h o [10] 7) (fun v => tA sc iX10_item 22 ls (v :: st) h Q) := tA_get mB_X10_item mO_X10_item dX10_item_19 fT_10_35
theorem rX10_item_22 : tA sc iX10_item 22 [l0, vI x, l2, l3, l4] st h Q = tA sc iX10_item 23 [l0, vI x, l2, l3, l4] (vI x :: st) h Q := tA_pure mB_X10_item dX10_item_22 rfl
theorem rX10_item_23 : tA sc iX10_item 23 ls (vI j :: vR (some a) :: st) h Q = oz (tldr h a j) (fun v => tA sc iX10_item 24 ls (vR v :: st) h Q) := tA_aald mB_X10_item dX10_item_23
theorem rX10_item_24 : tA sc iX10_item 24 [l0, l1, l2, l3, l4] (vR r :: st) h Q = tA sc iX10_item 26 [l0, l1, l2, tclr l3, vR r] st h Q := tA_pure mB_X10_item dX10_item_24 rfl
theorem rX10_item_26 : tA sc iX10_item 26 [l0, l1, l2, l3, vR r] st h Q = tA sc iX10_item 28 [l0, l1, l2, l3, vR r] (vR r :: st) h Q := tA_pure mB_X10_item dX10_item_26 rfl
theorem rX10_item_28n : tA sc iX10_item 28 ls (vR none :: st) h Q = tA sc iX10_item 31 ls st h Q := tA_jump mB_X10_item dX10_item_28 (fun _ _ _ _ => rfl) rfl
theorem rX10_item_28s : tA sc iX10_item 28 ls (vR (some o) :: st) h Q = tA sc iX10_item 34 ls st h Q := tA_jump mB_X10_item dX10_item_28 (fun _ _ _ _ => rfl) rfl
theorem rX10_item_31 : tA sc iX10_item 31 ls st h Q = tA sc iX10_item 33 ls (vI (-11) :: st) h Q := tA_pure mB_X10_item dX10_item_31 rfl
theorem rX10_item_33 : tA sc iX10_item 33 ls [vI x] h Q = Q (some (vI x)) h := tA_ret mB_X10_item dX10_item_33 (fun _ _ _ _ => rfl) (fun _ _ _ => rfl) (fun _ _ _ _ _ => rfl) rfl rfl
theorem rX10_item_34 : tA sc iX10_item 34 [l0, l1, l2, l3, vR r] st h Q = tA sc iX10_item 36 [l0, l1, l2, l3, vR r] (vR r :: st) h Q := tA_pure mB_X10_item dX10_item_34 rfl
theorem rX10_item_36 : tA sc iX10_item 36 ls (vR (some o) :: st) h Q = oz (tget h o [5] 0) (fun v => tA sc iX10_item 39 ls (v :: st) h Q) := tA_get mB_X10_item mO_X10_item dX10_item_36 fT_10_267
theorem rX10_item_39 : tA sc iX10_item 39 [l0, l1, vI x, l3, l4] st h Q = tA sc iX10_item 40 [l0, l1, vI x, l3, l4] (vI x :: st) h Q := tA_pure mB_X10_item dX10_item_39 rfl
theorem rX10_item_40 : tA sc iX10_item 40 ls (vI y :: vI x :: st) h Q = (if x = y then tA sc iX10_item 46 ls st h Q else tA sc iX10_item 43 ls st h Q) := tA_if mB_X10_item dX10_item_40 (fun _ _ _ _ => rfl) rfl
theorem rX10_item_43 : tA sc iX10_item 43 ls st h Q = tA sc iX10_item 45 ls (vI (-13) :: st) h Q := tA_pure mB_X10_item dX10_item_43 rfl
theorem rX10_item_45 : tA sc iX10_item 45 ls [vI x] h Q = Q (some (vI x)) h := tA_ret mB_X10_item dX10_item_45 (fun _ _ _ _ => rfl) (fun _ _ _ => rfl) (fun _ _ _ _ _ => rfl) rfl rfl
theorem rX10_item_46 : tA sc iX10_item 46 [l0, l1, l2, vI x, l4] st h Q = tA sc iX10_item 47 [l0, l1, l2, vI x, l4] (vI x :: st) h Q := tA_pure mB_X10_item dX10_item_46 rfl
theorem rX10_item_47 : tA sc iX10_item 47 ls (vI x :: st) h Q = (if x < 0 then tA sc iX10_item 60 ls st h Q else tA sc iX10_item 50 ls st h Q) := tA_if mB_X10_item dX10_item_47 (fun _ _ _ _ => rfl) rfl
theorem rX10_item_50 : tA sc iX10_item 50 [l0, l1, l2, vI x, l4] st h Q = tA sc iX10_item 51 [l0, l1, l2, vI x, l4] (vI x :: st) h Q := tA_pure mB_X10_item dX10_item_50 rfl
theorem rX10_item_51 : tA sc iX10_item 51 [l0, l1, l2, l3, vR r] st h Q = tA sc iX10_item 53 [l0, l1, l2, l3, vR r] (vR r :: st) h Q := tA_pure mB_X10_item dX10_item_51 rfl
theorem rX10_item_53 : tA sc iX10_item 53 ls (vR (some o) :: st) h Q = oz (tget h o [5] 1) (fun v => tA sc iX10_item 56 ls (v :: st) h Q) := tA_get mB_X10_item mO_X10_item dX10_item_53 fT_10_270
theorem rX10_item_56 : tA sc iX10_item 56 ls (vR (some a) :: st) h Q = oz (tlen sc h a) (fun v => tA sc iX10_item 57 ls (vI v :: st) h Q) := tA_alen mB_X10_item dX10_item_56
theorem rX10_item_57 : tA sc iX10_item 57 ls (vI y :: vI x :: st) h Q = (if x < y then tA sc iX10_item 63 ls st h Q else tA sc iX10_item 60 ls st h Q) := tA_if mB_X10_item dX10_item_57 (fun _ _ _ _ => rfl) rfl
theorem rX10_item_60 : tA sc iX10_item 60 ls st h Q = tA sc iX10_item 62 ls (vI (-12) :: st) h Q := tA_pure mB_X10_item dX10_item_60 rfl
theorem rX10_item_62 : tA sc iX10_item 62 ls [vI x] h Q = Q (some (vI x)) h := tA_ret mB_X10_item dX10_item_62 (fun _ _ _ _ => rfl) (fun _ _ _ => rfl) (fun _ _ _ _ _ => rfl) rfl rfl
theorem rX10_item_63 : tA sc iX10_item 63 [l0, l1, l2, l3, vR r] st h Q = tA sc iX10_item 65 [l0, l1, l2, l3, vR r] (vR r :: st) h Q := tA_pure mB_X10_item dX10_item_63 rfl
theorem rX10_item_65 : tA sc iX10_item 65 ls (vR (some o) :: st) h Q = oz (tget h o [5] 1) (fun v => tA sc iX10_item 68 ls (v :: st) h Q) := tA_get mB_X10_item mO_X10_item dX10_item_65 fT_10_270
theorem rX10_item_68 : tA sc iX10_item 68 [l0, l1, l2, vI x, l4] st h Q = tA sc iX10_item 69 [l0, l1, l2, vI x, l4] (vI x :: st) h Q := tA_pure mB_X10_item dX10_item_68 rfl
theorem rX10_item_69 : tA sc iX10_item 69 ls (vI j :: vR (some a) :: st) h Q = oz (tldl h a j) (fun v => tA sc iX10_item 70 ls (vL v :: st) h Q) := tA_lald mB_X10_item dX10_item_69
theorem rX10_item_70 : tA sc iX10_item 70 ls (vL u :: st) h Q = tA sc iX10_item 71 ls (vI u.toInt32 :: st) h Q := tA_pure mB_X10_item dX10_item_70 rfl
theorem rX10_item_71 : tA sc iX10_item 71 ls [vI x] h Q = Q (some (vI x)) h := tA_ret mB_X10_item dX10_item_71 (fun _ _ _ _ => rfl) (fun _ _ _ => rfl) (fun _ _ _ _ _ => rfl) rfl rfl
theorem mB_X10_shelf : mB iX10_shelf = cX10_shelf := rfl
theorem mO_X10_shelf : mO iX10_shelf = 10 := rfl
theorem rX10_shelf_0 : tA sc iX10_shelf 0 [l0, vI x, l2, l3] st h Q = tA sc iX10_shelf 1 [l0, vI x, l2, l3] (vI x :: st) h Q := tA_pure mB_X10_shelf dX10_shelf_0 rfl
theorem rX10_shelf_1 : tA sc iX10_shelf 1 ls [vI p0] h Q = tA sc iX10_isShelf 0 [vI p0] [] h (fun v h1 => tA sc iX10_shelf 4 ls (tpu v []) h1 Q) := tA_cS mB_X10_shelf mO_X10_shelf dX10_shelf_1 cT_10_280 ⟨Nat.le_of_ble_eq_true rfl, Nat.le_of_ble_eq_true rfl⟩ rfl rfl rfl rfl
theorem rX10_shelf_4 : tA sc iX10_shelf 4 ls (vI x :: st) h Q = (if x = 0 then tA sc iX10_shelf 16 ls st h Q else tA sc iX10_shelf 7 ls st h Q) := tA_if mB_X10_shelf dX10_shelf_4 (fun _ _ _ _ => rfl) rfl
theorem rX10_shelf_7 : tA sc iX10_shelf 7 [l0, l1, vI x, l3] st h Q = tA sc iX10_shelf 8 [l0, l1, vI x, l3] (vI x :: st) h Q := tA_pure mB_X10_shelf dX10_shelf_7 rfl
theorem rX10_shelf_8 : tA sc iX10_shelf 8 ls (vI x :: st) h Q = (if x < 0 then tA sc iX10_shelf 16 ls st h Q else tA sc iX10_shelf 11 ls st h Q) := tA_if mB_X10_shelf dX10_shelf_8 (fun _ _ _ _ => rfl) rfl
theorem rX10_shelf_11 : tA sc iX10_shelf 11 [l0, l1, vI x, l3] st h Q = tA sc iX10_shelf 12 [l0, l1, vI x, l3] (vI x :: st) h Q := tA_pure mB_X10_shelf dX10_shelf_11 rfl
theorem rX10_shelf_12 : tA sc iX10_shelf 12 ls st h Q = tA sc iX10_shelf 13 ls (vI (2) :: st) h Q := tA_pure mB_X10_shelf dX10_shelf_12 rfl
theorem rX10_shelf_13 : tA sc iX10_shelf 13 ls (vI y :: vI x :: st) h Q = (if x ≤ y then tA sc iX10_shelf 18 ls st h Q else tA sc iX10_shelf 16 ls st h Q) := tA_if mB_X10_shelf dX10_shelf_13 (fun _ _ _ _ => rfl) rfl
theorem rX10_shelf_16 : tA sc iX10_shelf 16 ls st h Q = tA sc iX10_shelf 17 ls (vI (-1) :: st) h Q := tA_pure mB_X10_shelf dX10_shelf_16 rfl
theorem rX10_shelf_17 : tA sc iX10_shelf 17 ls [vI x] h Q = Q (some (vI x)) h := tA_ret mB_X10_shelf dX10_shelf_17 (fun _ _ _ _ => rfl) (fun _ _ _ => rfl) (fun _ _ _ _ _ => rfl) rfl rfl
theorem rX10_shelf_18 : tA sc iX10_shelf 18 [l0, l1, vI x, l3] st h Q = tA sc iX10_shelf 19 [l0, l1, vI x, l3] (vI x :: st) h Q := tA_pure mB_X10_shelf dX10_shelf_18 rfl
theorem rX10_shelf_19 : tA sc iX10_shelf 19 ls (vI x :: st) h Q = (if ¬ x = 0 then tA sc iX10_shelf 35 ls st h Q else tA sc iX10_shelf 22 ls st h Q) := tA_if mB_X10_shelf dX10_shelf_19 (fun _ _ _ _ => rfl) rfl
theorem rX10_shelf_22 : tA sc iX10_shelf 22 [vR r, l1, l2, l3] st h Q = tA sc iX10_shelf 23 [vR r, l1, l2, l3] (vR r :: st) h Q := tA_pure mB_X10_shelf dX10_shelf_22 rfl
theorem rX10_shelf_23 : tA sc iX10_shelf 23 ls (vR (some o) :: st) h Q = oz (tget h o [10] 0) (fun v => tA sc iX10_shelf 26 ls (v :: st) h Q) := tA_get mB_X10_shelf mO_X10_shelf dX10_shelf_23 fT_10_10
theorem rX10_shelf_26 : tA sc iX10_shelf 26 [l0, l1, l2, vI x] st h Q = tA sc iX10_shelf 27 [l0, l1, l2, vI x] (vI x :: st) h Q := tA_pure mB_X10_shelf dX10_shelf_26 rfl
theorem rX10_shelf_27 (hci : tcl h o = some 9) : tA sc iX10_shelf 27 ls [vI p0, vR (some o)] h Q = tA sc iX9_sayerAt 0 [vR (some o), vI p0] [] h (fun v h1 => tA sc iX10_shelf 30 ls (tpu v []) h1 Q) := tA_cV mB_X10_shelf mO_X10_shelf dX10_shelf_27 cT_10_136 rfl (Nat.le_of_ble_eq_true rfl) rfl rfl rfl hci
theorem rX10_shelf_30n : tA sc iX10_shelf 30 ls (vR none :: st) h Q = tA sc iX10_shelf 33 ls st h Q := tA_jump mB_X10_shelf dX10_shelf_30 (fun _ _ _ _ => rfl) rfl
theorem rX10_shelf_30s : tA sc iX10_shelf 30 ls (vR (some o) :: st) h Q = tA sc iX10_shelf 35 ls st h Q := tA_jump mB_X10_shelf dX10_shelf_30 (fun _ _ _ _ => rfl) rfl
theorem rX10_shelf_33 : tA sc iX10_shelf 33 ls st h Q = tA sc iX10_shelf 34 ls (vI (-1) :: st) h Q := tA_pure mB_X10_shelf dX10_shelf_33 rfl
theorem rX10_shelf_34 : tA sc iX10_shelf 34 ls [vI x] h Q = Q (some (vI x)) h := tA_ret mB_X10_shelf dX10_shelf_34 (fun _ _ _ _ => rfl) (fun _ _ _ => rfl) (fun _ _ _ _ _ => rfl) rfl rfl
theorem rX10_shelf_35 : tA sc iX10_shelf 35 [l0, l1, vI x, l3] st h Q = tA sc iX10_shelf 36 [l0, l1, vI x, l3] (vI x :: st) h Q := tA_pure mB_X10_shelf dX10_shelf_35 rfl
theorem rX10_shelf_36 : tA sc iX10_shelf 36 ls st h Q = tA sc iX10_shelf 37 ls (vI (1) :: st) h Q := tA_pure mB_X10_shelf dX10_shelf_36 rfl
theorem rX10_shelf_37 : tA sc iX10_shelf 37 ls (vI y :: vI x :: st) h Q = (if ¬ x = y then tA sc iX10_shelf 49 ls st h Q else tA sc iX10_shelf 40 ls st h Q) := tA_if mB_X10_shelf dX10_shelf_37 (fun _ _ _ _ => rfl) rfl
theorem rX10_shelf_40 : tA sc iX10_shelf 40 [l0, l1, l2, vI x] st h Q = tA sc iX10_shelf 41 [l0, l1, l2, vI x] (vI x :: st) h Q := tA_pure mB_X10_shelf dX10_shelf_40 rfl
theorem rX10_shelf_41 : tA sc iX10_shelf 41 ls [vI p0] h Q = tA sc iX10_isSheet 0 [vI p0] [] h (fun v h1 => tA sc iX10_shelf 44 ls (tpu v []) h1 Q) := tA_cS mB_X10_shelf mO_X10_shelf dX10_shelf_41 cT_10_264 ⟨Nat.le_of_ble_eq_true rfl, Nat.le_of_ble_eq_true rfl⟩ rfl rfl rfl rfl
theorem rX10_shelf_44 : tA sc iX10_shelf 44 ls (vI x :: st) h Q = (if ¬ x = 0 then tA sc iX10_shelf 49 ls st h Q else tA sc iX10_shelf 47 ls st h Q) := tA_if mB_X10_shelf dX10_shelf_44 (fun _ _ _ _ => rfl) rfl
theorem rX10_shelf_47 : tA sc iX10_shelf 47 ls st h Q = tA sc iX10_shelf 48 ls (vI (-1) :: st) h Q := tA_pure mB_X10_shelf dX10_shelf_47 rfl
theorem rX10_shelf_48 : tA sc iX10_shelf 48 ls [vI x] h Q = Q (some (vI x)) h := tA_ret mB_X10_shelf dX10_shelf_48 (fun _ _ _ _ => rfl) (fun _ _ _ => rfl) (fun _ _ _ _ _ => rfl) rfl rfl
theorem rX10_shelf_49 : tA sc iX10_shelf 49 [vR r, l1, l2, l3] st h Q = tA sc iX10_shelf 50 [vR r, l1, l2, l3] (vR r :: st) h Q := tA_pure mB_X10_shelf dX10_shelf_49 rfl
theorem rX10_shelf_50 : tA sc iX10_shelf 50 ls (vR (some o) :: st) h Q = oz (tget h o [10] 9) (fun v => tA sc iX10_shelf 53 ls (v :: st) h Q) := tA_get mB_X10_shelf mO_X10_shelf dX10_shelf_50 fT_10_42
theorem rX10_shelf_53 : tA sc iX10_shelf 53 [l0, vI x, l2, l3] st h Q = tA sc iX10_shelf 54 [l0, vI x, l2, l3] (vI x :: st) h Q := tA_pure mB_X10_shelf dX10_shelf_53 rfl
theorem rX10_shelf_54 : tA sc iX10_shelf 54 [l0, l1, vI x, l3] st h Q = tA sc iX10_shelf 55 [l0, l1, vI x, l3] (vI x :: st) h Q := tA_pure mB_X10_shelf dX10_shelf_54 rfl
theorem rX10_shelf_55 : tA sc iX10_shelf 55 ls (vI x :: st) h Q = (if ¬ x = 0 then tA sc iX10_shelf 62 ls st h Q else tA sc iX10_shelf 58 ls st h Q) := tA_if mB_X10_shelf dX10_shelf_55 (fun _ _ _ _ => rfl) rfl
theorem rX10_shelf_58 : tA sc iX10_shelf 58 [l0, l1, l2, vI x] st h Q = tA sc iX10_shelf 59 [l0, l1, l2, vI x] (vI x :: st) h Q := tA_pure mB_X10_shelf dX10_shelf_58 rfl
theorem rX10_shelf_59 : tA sc iX10_shelf 59 ls st h Q = tA sc iX10_shelf 63 ls st h Q := tA_jump mB_X10_shelf dX10_shelf_59 (fun _ _ _ _ => rfl) rfl
theorem rX10_shelf_62 : tA sc iX10_shelf 62 ls st h Q = tA sc iX10_shelf 63 ls (vI (-1) :: st) h Q := tA_pure mB_X10_shelf dX10_shelf_62 rfl
theorem rX10_shelf_63 : tA sc iX10_shelf 63 ls (vI x :: vI j :: vR (some a) :: st) h Q = oz (tasi h a j x) (fun h' => tA sc iX10_shelf 64 ls st h' Q) := tA_iast mB_X10_shelf dX10_shelf_63
theorem rX10_shelf_64 : tA sc iX10_shelf 64 [vR r, l1, l2, l3] st h Q = tA sc iX10_shelf 65 [vR r, l1, l2, l3] (vR r :: st) h Q := tA_pure mB_X10_shelf dX10_shelf_64 rfl
theorem rX10_shelf_65 : tA sc iX10_shelf 65 ls (vR (some o) :: st) h Q = oz (tget h o [10] 8) (fun v => tA sc iX10_shelf 68 ls (v :: st) h Q) := tA_get mB_X10_shelf mO_X10_shelf dX10_shelf_65 fT_10_39
theorem rX10_shelf_68 : tA sc iX10_shelf 68 [l0, vI x, l2, l3] st h Q = tA sc iX10_shelf 69 [l0, vI x, l2, l3] (vI x :: st) h Q := tA_pure mB_X10_shelf dX10_shelf_68 rfl
theorem rX10_shelf_69 : tA sc iX10_shelf 69 [l0, l1, vI x, l3] st h Q = tA sc iX10_shelf 70 [l0, l1, vI x, l3] (vI x :: st) h Q := tA_pure mB_X10_shelf dX10_shelf_69 rfl
theorem rX10_shelf_70 : tA sc iX10_shelf 70 ls st h Q = tA sc iX10_shelf 71 ls (vI (1) :: st) h Q := tA_pure mB_X10_shelf dX10_shelf_70 rfl
theorem rX10_shelf_71 : tA sc iX10_shelf 71 ls (vI y :: vI x :: st) h Q = (if ¬ x = y then tA sc iX10_shelf 90 ls st h Q else tA sc iX10_shelf 74 ls st h Q) := tA_if mB_X10_shelf dX10_shelf_71 (fun _ _ _ _ => rfl) rfl
theorem rX10_shelf_74 : tA sc iX10_shelf 74 [l0, l1, l2, vI x] st h Q = tA sc iX10_shelf 75 [l0, l1, l2, vI x] (vI x :: st) h Q := tA_pure mB_X10_shelf dX10_shelf_74 rfl
theorem rX10_shelf_75 : tA sc iX10_shelf 75 ls [vI p0, s0, s1] h Q = tA sc iX10_isSheet 0 [vI p0] [] h (fun v h1 => tA sc iX10_shelf 78 ls (tpu v [s0, s1]) h1 Q) := tA_cS mB_X10_shelf mO_X10_shelf dX10_shelf_75 cT_10_264 ⟨Nat.le_of_ble_eq_true rfl, Nat.le_of_ble_eq_true rfl⟩ rfl rfl rfl rfl
theorem rX10_shelf_78 : tA sc iX10_shelf 78 ls (vI x :: st) h Q = (if x = 0 then tA sc iX10_shelf 90 ls st h Q else tA sc iX10_shelf 81 ls st h Q) := tA_if mB_X10_shelf dX10_shelf_78 (fun _ _ _ _ => rfl) rfl
theorem rX10_shelf_81 : tA sc iX10_shelf 81 [vR r, l1, l2, l3] st h Q = tA sc iX10_shelf 82 [vR r, l1, l2, l3] (vR r :: st) h Q := tA_pure mB_X10_shelf dX10_shelf_81 rfl
theorem rX10_shelf_82 : tA sc iX10_shelf 82 ls (vR (some o) :: st) h Q = oz (tget h o [10] 7) (fun v => tA sc iX10_shelf 85 ls (v :: st) h Q) := tA_get mB_X10_shelf mO_X10_shelf dX10_shelf_82 fT_10_35
theorem rX10_shelf_85 : tA sc iX10_shelf 85 [l0, l1, l2, vI x] st h Q = tA sc iX10_shelf 86 [l0, l1, l2, vI x] (vI x :: st) h Q := tA_pure mB_X10_shelf dX10_shelf_85 rfl
theorem rX10_shelf_86 : tA sc iX10_shelf 86 ls (vI j :: vR (some a) :: st) h Q = oz (tldr h a j) (fun v => tA sc iX10_shelf 87 ls (vR v :: st) h Q) := tA_aald mB_X10_shelf dX10_shelf_86
theorem rX10_shelf_87 : tA sc iX10_shelf 87 ls st h Q = tA sc iX10_shelf 91 ls st h Q := tA_jump mB_X10_shelf dX10_shelf_87 (fun _ _ _ _ => rfl) rfl
theorem rX10_shelf_90 : tA sc iX10_shelf 90 ls st h Q = tA sc iX10_shelf 91 ls (vR none :: st) h Q := tA_pure mB_X10_shelf dX10_shelf_90 rfl
theorem rX10_shelf_91 : tA sc iX10_shelf 91 ls (vR r :: vI j :: vR (some a) :: st) h Q = oz (tasr h a j r) (fun h' => tA sc iX10_shelf 92 ls st h' Q) := tA_aast mB_X10_shelf dX10_shelf_91
theorem rX10_shelf_92 : tA sc iX10_shelf 92 ls st h Q = tA sc iX10_shelf 93 ls (vI (1) :: st) h Q := tA_pure mB_X10_shelf dX10_shelf_92 rfl
theorem rX10_shelf_93 : tA sc iX10_shelf 93 ls [vI x] h Q = Q (some (vI x)) h := tA_ret mB_X10_shelf dX10_shelf_93 (fun _ _ _ _ => rfl) (fun _ _ _ => rfl) (fun _ _ _ _ _ => rfl) rfl rfl
theorem mB_X10_taken : mB iX10_taken = cX10_taken := rfl
theorem mO_X10_taken : mO iX10_taken = 10 := rfl
theorem rX10_taken_0 : tA sc iX10_taken 0 [l0, l1, vI x, l3, l4, l5, l6] st h Q = tA sc iX10_taken 1 [l0, l1, vI x, l3, l4, l5, l6] (vI x :: st) h Q := tA_pure mB_X10_taken dX10_taken_0 rfl
theorem rX10_taken_1 : tA sc iX10_taken 1 ls [vI p0] h Q = tA sc iX10_isKind 0 [vI p0] [] h (fun v h1 => tA sc iX10_taken 4 ls (tpu v []) h1 Q) := tA_cS mB_X10_taken mO_X10_taken dX10_taken_1 cT_10_122 ⟨Nat.le_of_ble_eq_true rfl, Nat.le_of_ble_eq_true rfl⟩ rfl rfl rfl rfl
theorem rX10_taken_4 : tA sc iX10_taken 4 [l0, l1, l2, l3, l4, l5, l6] (vI x :: st) h Q = tA sc iX10_taken 5 [l0, l1, tclr l2, vI x, l4, l5, l6] st h Q := tA_pure mB_X10_taken dX10_taken_4 rfl
theorem rX10_taken_5 : tA sc iX10_taken 5 [l0, l1, vI x, l3, l4, l5, l6] st h Q = tA sc iX10_taken 6 [l0, l1, vI x, l3, l4, l5, l6] (vI x :: st) h Q := tA_pure mB_X10_taken dX10_taken_5 rfl
theorem rX10_taken_6 : tA sc iX10_taken 6 ls st h Q = tA sc iX10_taken 8 ls (vI (10) :: st) h Q := tA_pure mB_X10_taken dX10_taken_6 rfl
theorem rX10_taken_8 : tA sc iX10_taken 8 ls (vI y :: vI x :: st) h Q = (if x < y then tA sc iX10_taken 21 ls st h Q else tA sc iX10_taken 11 ls st h Q) := tA_if mB_X10_taken dX10_taken_8 (fun _ _ _ _ => rfl) rfl
theorem rX10_taken_11 : tA sc iX10_taken 11 [l0, l1, vI x, l3, l4, l5, l6] st h Q = tA sc iX10_taken 12 [l0, l1, vI x, l3, l4, l5, l6] (vI x :: st) h Q := tA_pure mB_X10_taken dX10_taken_11 rfl
theorem rX10_taken_12 : tA sc iX10_taken 12 ls st h Q = tA sc iX10_taken 14 ls (vI (14) :: st) h Q := tA_pure mB_X10_taken dX10_taken_12 rfl
theorem rX10_taken_14 : tA sc iX10_taken 14 ls (vI y :: vI x :: st) h Q = (if y ≤ x then tA sc iX10_taken 21 ls st h Q else tA sc iX10_taken 17 ls st h Q) := tA_if mB_X10_taken dX10_taken_14 (fun _ _ _ _ => rfl) rfl
theorem rX10_taken_17 : tA sc iX10_taken 17 ls st h Q = tA sc iX10_taken 18 ls (vI (1) :: st) h Q := tA_pure mB_X10_taken dX10_taken_17 rfl
theorem rX10_taken_18 : tA sc iX10_taken 18 ls st h Q = tA sc iX10_taken 22 ls st h Q := tA_jump mB_X10_taken dX10_taken_18 (fun _ _ _ _ => rfl) rfl
theorem rX10_taken_21 : tA sc iX10_taken 21 ls st h Q = tA sc iX10_taken 22 ls (vI (0) :: st) h Q := tA_pure mB_X10_taken dX10_taken_21 rfl
theorem rX10_taken_22 : tA sc iX10_taken 22 [l0, l1, l2, l3, l4, l5, l6] (vI x :: st) h Q = tA sc iX10_taken 24 [l0, l1, l2, tclr l3, vI x, l5, l6] st h Q := tA_pure mB_X10_taken dX10_taken_22 rfl
theorem rX10_taken_24 : tA sc iX10_taken 24 [l0, vI x, l2, l3, l4, l5, l6] st h Q = tA sc iX10_taken 25 [l0, vI x, l2, l3, l4, l5, l6] (vI x :: st) h Q := tA_pure mB_X10_taken dX10_taken_24 rfl
theorem rX10_taken_25 : tA sc iX10_taken 25 ls [vI p0] h Q = tA sc iX10_isShelf 0 [vI p0] [] h (fun v h1 => tA sc iX10_taken 28 ls (tpu v []) h1 Q) := tA_cS mB_X10_taken mO_X10_taken dX10_taken_25 cT_10_280 ⟨Nat.le_of_ble_eq_true rfl, Nat.le_of_ble_eq_true rfl⟩ rfl rfl rfl rfl
theorem rX10_taken_28 : tA sc iX10_taken 28 ls (vI x :: st) h Q = (if x = 0 then tA sc iX10_taken 40 ls st h Q else tA sc iX10_taken 31 ls st h Q) := tA_if mB_X10_taken dX10_taken_28 (fun _ _ _ _ => rfl) rfl
theorem rX10_taken_31 : tA sc iX10_taken 31 [l0, l1, l2, vI x, l4, l5, l6] st h Q = tA sc iX10_taken 32 [l0, l1, l2, vI x, l4, l5, l6] (vI x :: st) h Q := tA_pure mB_X10_taken dX10_taken_31 rfl
theorem rX10_taken_32 : tA sc iX10_taken 32 ls (vI x :: st) h Q = (if ¬ x = 0 then tA sc iX10_taken 42 ls st h Q else tA sc iX10_taken 35 ls st h Q) := tA_if mB_X10_taken dX10_taken_32 (fun _ _ _ _ => rfl) rfl
theorem rX10_taken_35 : tA sc iX10_taken 35 [l0, l1, l2, l3, vI x, l5, l6] st h Q = tA sc iX10_taken 37 [l0, l1, l2, l3, vI x, l5, l6] (vI x :: st) h Q := tA_pure mB_X10_taken dX10_taken_35 rfl
theorem rX10_taken_37 : tA sc iX10_taken 37 ls (vI x :: st) h Q = (if ¬ x = 0 then tA sc iX10_taken 42 ls st h Q else tA sc iX10_taken 40 ls st h Q) := tA_if mB_X10_taken dX10_taken_37 (fun _ _ _ _ => rfl) rfl
theorem rX10_taken_40 : tA sc iX10_taken 40 ls st h Q = tA sc iX10_taken 41 ls (vI (-1) :: st) h Q := tA_pure mB_X10_taken dX10_taken_40 rfl
theorem rX10_taken_41 : tA sc iX10_taken 41 ls [vI x] h Q = Q (some (vI x)) h := tA_ret mB_X10_taken dX10_taken_41 (fun _ _ _ _ => rfl) (fun _ _ _ => rfl) (fun _ _ _ _ _ => rfl) rfl rfl
theorem rX10_taken_42 : tA sc iX10_taken 42 [vR r, l1, l2, l3, l4, l5, l6] st h Q = tA sc iX10_taken 43 [vR r, l1, l2, l3, l4, l5, l6] (vR r :: st) h Q := tA_pure mB_X10_taken dX10_taken_42 rfl
theorem rX10_taken_43 : tA sc iX10_taken 43 ls (vR (some o) :: st) h Q = oz (tget h o [10] 0) (fun v => tA sc iX10_taken 46 ls (v :: st) h Q) := tA_get mB_X10_taken mO_X10_taken dX10_taken_43 fT_10_10
theorem rX10_taken_46 : tA sc iX10_taken 46 [vR r, l1, l2, l3, l4, l5, l6] st h Q = tA sc iX10_taken 47 [vR r, l1, l2, l3, l4, l5, l6] (vR r :: st) h Q := tA_pure mB_X10_taken dX10_taken_46 rfl
theorem rX10_taken_47 : tA sc iX10_taken 47 ls (vR (some o) :: st) h Q = oz (tget h o [10] 9) (fun v => tA sc iX10_taken 50 ls (v :: st) h Q) := tA_get mB_X10_taken mO_X10_taken dX10_taken_47 fT_10_42
theorem rX10_taken_50 : tA sc iX10_taken 50 [l0, vI x, l2, l3, l4, l5, l6] st h Q = tA sc iX10_taken 51 [l0, vI x, l2, l3, l4, l5, l6] (vI x :: st) h Q := tA_pure mB_X10_taken dX10_taken_50 rfl
theorem rX10_taken_51 : tA sc iX10_taken 51 ls (vI j :: vR (some a) :: st) h Q = oz (tald sc h 0 a j) (fun v => tA sc iX10_taken 52 ls (vI v :: st) h Q) := tA_iald mB_X10_taken dX10_taken_51
theorem rX10_taken_52 (hci : tcl h o = some 9) : tA sc iX10_taken 52 ls [vI p0, vR (some o)] h Q = tA sc iX9_sayerAt 0 [vR (some o), vI p0] [] h (fun v h1 => tA sc iX10_taken 55 ls (tpu v []) h1 Q) := tA_cV mB_X10_taken mO_X10_taken dX10_taken_52 cT_10_136 rfl (Nat.le_of_ble_eq_true rfl) rfl rfl rfl hci
theorem rX10_taken_55 : tA sc iX10_taken 55 [l0, l1, l2, l3, l4, l5, l6] (vR r :: st) h Q = tA sc iX10_taken 57 [l0, l1, l2, l3, tclr l4, vR r, l6] st h Q := tA_pure mB_X10_taken dX10_taken_55 rfl
theorem rX10_taken_57 : tA sc iX10_taken 57 [vR r, l1, l2, l3, l4, l5, l6] st h Q = tA sc iX10_taken 58 [vR r, l1, l2, l3, l4, l5, l6] (vR r :: st) h Q := tA_pure mB_X10_taken dX10_taken_57 rfl
theorem rX10_taken_58 : tA sc iX10_taken 58 ls (vR (some o) :: st) h Q = oz (tget h o [10] 8) (fun v => tA sc iX10_taken 61 ls (v :: st) h Q) := tA_get mB_X10_taken mO_X10_taken dX10_taken_58 fT_10_39
theorem rX10_taken_61 : tA sc iX10_taken 61 [l0, vI x, l2, l3, l4, l5, l6] st h Q = tA sc iX10_taken 62 [l0, vI x, l2, l3, l4, l5, l6] (vI x :: st) h Q := tA_pure mB_X10_taken dX10_taken_61 rfl
theorem rX10_taken_62 : tA sc iX10_taken 62 ls (vI j :: vR (some a) :: st) h Q = oz (tldr h a j) (fun v => tA sc iX10_taken 63 ls (vR v :: st) h Q) := tA_aald mB_X10_taken dX10_taken_62
theorem rX10_taken_63 : tA sc iX10_taken 63 [l0, l1, l2, l3, l4, l5, l6] (vR r :: st) h Q = tA sc iX10_taken 65 [l0, l1, l2, l3, l4, tclr l5, vR r] st h Q := tA_pure mB_X10_taken dX10_taken_63 rfl
theorem rX10_taken_65 : tA sc iX10_taken 65 [l0, l1, l2, l3, l4, vR r, l6] st h Q = tA sc iX10_taken 67 [l0, l1, l2, l3, l4, vR r, l6] (vR r :: st) h Q := tA_pure mB_X10_taken dX10_taken_65 rfl
theorem rX10_taken_67n : tA sc iX10_taken 67 ls (vR none :: st) h Q = tA sc iX10_taken 94 ls st h Q := tA_jump mB_X10_taken dX10_taken_67 (fun _ _ _ _ => rfl) rfl
theorem rX10_taken_67s : tA sc iX10_taken 67 ls (vR (some o) :: st) h Q = tA sc iX10_taken 70 ls st h Q := tA_jump mB_X10_taken dX10_taken_67 (fun _ _ _ _ => rfl) rfl
theorem rX10_taken_70 : tA sc iX10_taken 70 [l0, l1, l2, vI x, l4, l5, l6] st h Q = tA sc iX10_taken 71 [l0, l1, l2, vI x, l4, l5, l6] (vI x :: st) h Q := tA_pure mB_X10_taken dX10_taken_70 rfl
theorem rX10_taken_71 : tA sc iX10_taken 71 ls (vI x :: st) h Q = (if x = 0 then tA sc iX10_taken 91 ls st h Q else tA sc iX10_taken 74 ls st h Q) := tA_if mB_X10_taken dX10_taken_71 (fun _ _ _ _ => rfl) rfl
theorem rX10_taken_74 : tA sc iX10_taken 74 [l0, l1, l2, l3, l4, vR r, l6] st h Q = tA sc iX10_taken 76 [l0, l1, l2, l3, l4, vR r, l6] (vR r :: st) h Q := tA_pure mB_X10_taken dX10_taken_74 rfl
theorem rX10_taken_76 : tA sc iX10_taken 76 [l0, l1, vI x, l3, l4, l5, l6] st h Q = tA sc iX10_taken 77 [l0, l1, vI x, l3, l4, l5, l6] (vI x :: st) h Q := tA_pure mB_X10_taken dX10_taken_76 rfl
theorem rX10_taken_77 : tA sc iX10_taken 77 ls [vI p1, vR n0] h Q = tA sc iX10_isUnder 0 [vR n0, vI p1] [] h (fun v h1 => tA sc iX10_taken 80 ls (tpu v []) h1 Q) := tA_cS mB_X10_taken mO_X10_taken dX10_taken_77 cT_10_283 ⟨Nat.le_of_ble_eq_true rfl, Nat.le_of_ble_eq_true rfl⟩ rfl rfl rfl rfl
theorem rX10_taken_80 : tA sc iX10_taken 80 ls (vI x :: st) h Q = (if x = 0 then tA sc iX10_taken 91 ls st h Q else tA sc iX10_taken 83 ls st h Q) := tA_if mB_X10_taken dX10_taken_80 (fun _ _ _ _ => rfl) rfl
theorem rX10_taken_83 : tA sc iX10_taken 83 [l0, l1, l2, l3, l4, vR r, l6] st h Q = tA sc iX10_taken 85 [l0, l1, l2, l3, l4, vR r, l6] (vR r :: st) h Q := tA_pure mB_X10_taken dX10_taken_83 rfl
theorem rX10_taken_85 : tA sc iX10_taken 85 ls (vR (some o) :: st) h Q = oz (tget h o [0, 2, 3, 4, 6, 7] 1) (fun v => tA sc iX10_taken 88 ls (v :: st) h Q) := tA_get mB_X10_taken mO_X10_taken dX10_taken_85 fT_10_287
theorem rX10_taken_88 : tA sc iX10_taken 88 ls st h Q = tA sc iX10_taken 93 ls st h Q := tA_jump mB_X10_taken dX10_taken_88 (fun _ _ _ _ => rfl) rfl
theorem rX10_taken_91 : tA sc iX10_taken 91 ls st h Q = tA sc iX10_taken 93 ls (vI (-13) :: st) h Q := tA_pure mB_X10_taken dX10_taken_91 rfl
theorem rX10_taken_93 : tA sc iX10_taken 93 ls [vI x] h Q = Q (some (vI x)) h := tA_ret mB_X10_taken dX10_taken_93 (fun _ _ _ _ => rfl) (fun _ _ _ => rfl) (fun _ _ _ _ _ => rfl) rfl rfl
theorem rX10_taken_94 : tA sc iX10_taken 94 [l0, l1, l2, l3, l4, l5, vR r] st h Q = tA sc iX10_taken 96 [l0, l1, l2, l3, l4, l5, vR r] (vR r :: st) h Q := tA_pure mB_X10_taken dX10_taken_94 rfl
theorem rX10_taken_96n : tA sc iX10_taken 96 ls (vR none :: st) h Q = tA sc iX10_taken 128 ls st h Q := tA_jump mB_X10_taken dX10_taken_96 (fun _ _ _ _ => rfl) rfl
theorem rX10_taken_96s : tA sc iX10_taken 96 ls (vR (some o) :: st) h Q = tA sc iX10_taken 99 ls st h Q := tA_jump mB_X10_taken dX10_taken_96 (fun _ _ _ _ => rfl) rfl
theorem rX10_taken_99 : tA sc iX10_taken 99 [l0, l1, l2, l3, vI x, l5, l6] st h Q = tA sc iX10_taken 101 [l0, l1, l2, l3, vI x, l5, l6] (vI x :: st) h Q := tA_pure mB_X10_taken dX10_taken_99 rfl
theorem rX10_taken_101 : tA sc iX10_taken 101 ls (vI x :: st) h Q = (if x = 0 then tA sc iX10_taken 125 ls st h Q else tA sc iX10_taken 104 ls st h Q) := tA_if mB_X10_taken dX10_taken_101 (fun _ _ _ _ => rfl) rfl
theorem rX10_taken_104 : tA sc iX10_taken 104 [l0, l1, l2, l3, l4, l5, vR r] st h Q = tA sc iX10_taken 106 [l0, l1, l2, l3, l4, l5, vR r] (vR r :: st) h Q := tA_pure mB_X10_taken dX10_taken_104 rfl
theorem rX10_taken_106 : tA sc iX10_taken 106 ls (vR (some o) :: st) h Q = oz (tget h o [5] 0) (fun v => tA sc iX10_taken 109 ls (v :: st) h Q) := tA_get mB_X10_taken mO_X10_taken dX10_taken_106 fT_10_267
theorem rX10_taken_109 : tA sc iX10_taken 109 [l0, l1, vI x, l3, l4, l5, l6] st h Q = tA sc iX10_taken 110 [l0, l1, vI x, l3, l4, l5, l6] (vI x :: st) h Q := tA_pure mB_X10_taken dX10_taken_109 rfl
theorem rX10_taken_110 : tA sc iX10_taken 110 ls st h Q = tA sc iX10_taken 112 ls (vI (10) :: st) h Q := tA_pure mB_X10_taken dX10_taken_110 rfl
theorem rX10_taken_112 : tA sc iX10_taken 112 ls (vI y :: vI x :: st) h Q = tA sc iX10_taken 113 ls (vI (x - y) :: st) h Q := tA_pure mB_X10_taken dX10_taken_112 rfl
theorem rX10_taken_113 : tA sc iX10_taken 113 ls (vI y :: vI x :: st) h Q = (if ¬ x = y then tA sc iX10_taken 125 ls st h Q else tA sc iX10_taken 116 ls st h Q) := tA_if mB_X10_taken dX10_taken_113 (fun _ _ _ _ => rfl) rfl
theorem rX10_taken_116 : tA sc iX10_taken 116 [l0, l1, l2, l3, l4, l5, vR r] st h Q = tA sc iX10_taken 118 [l0, l1, l2, l3, l4, l5, vR r] (vR r :: st) h Q := tA_pure mB_X10_taken dX10_taken_116 rfl
theorem rX10_taken_118 : tA sc iX10_taken 118 ls (vR (some o) :: st) h Q = oz (tget h o [5] 1) (fun v => tA sc iX10_taken 121 ls (v :: st) h Q) := tA_get mB_X10_taken mO_X10_taken dX10_taken_118 fT_10_270
theorem rX10_taken_121 : tA sc iX10_taken 121 ls (vR (some a) :: st) h Q = oz (tlen sc h a) (fun v => tA sc iX10_taken 122 ls (vI v :: st) h Q) := tA_alen mB_X10_taken dX10_taken_121
theorem rX10_taken_122 : tA sc iX10_taken 122 ls st h Q = tA sc iX10_taken 127 ls st h Q := tA_jump mB_X10_taken dX10_taken_122 (fun _ _ _ _ => rfl) rfl
theorem rX10_taken_125 : tA sc iX10_taken 125 ls st h Q = tA sc iX10_taken 127 ls (vI (-13) :: st) h Q := tA_pure mB_X10_taken dX10_taken_125 rfl
theorem rX10_taken_127 : tA sc iX10_taken 127 ls [vI x] h Q = Q (some (vI x)) h := tA_ret mB_X10_taken dX10_taken_127 (fun _ _ _ _ => rfl) (fun _ _ _ => rfl) (fun _ _ _ _ _ => rfl) rfl rfl
theorem rX10_taken_128 : tA sc iX10_taken 128 ls st h Q = tA sc iX10_taken 130 ls (vI (-11) :: st) h Q := tA_pure mB_X10_taken dX10_taken_128 rfl
theorem rX10_taken_130 : tA sc iX10_taken 130 ls [vI x] h Q = Q (some (vI x)) h := tA_ret mB_X10_taken dX10_taken_130 (fun _ _ _ _ => rfl) (fun _ _ _ => rfl) (fun _ _ _ _ _ => rfl) rfl rfl
theorem mB_X10_act : mB iX10_act = cX10_act := rfl
theorem mO_X10_act : mO iX10_act = 10 := rfl
theorem rX10_act_0 : tA sc iX10_act 0 [vR r, l1, l2, l3, l4, l5] st h Q = tA sc iX10_act 1 [vR r, l1, l2, l3, l4, l5] (vR r :: st) h Q := tA_pure mB_X10_act dX10_act_0 rfl
theorem rX10_act_1 : tA sc iX10_act 1 ls (vR (some o) :: st) h Q = oz (tget h o [10] 10) (fun v => tA sc iX10_act 4 ls (v :: st) h Q) := tA_get mB_X10_act mO_X10_act dX10_act_1 fT_10_48
theorem rX10_act_4 (hci : tcl h o = some 8) : tA sc iX10_act 4 ls [vR (some o)] h Q = tA sc iX8_clear 0 [vR (some o)] [] h (fun v h1 => tA sc iX10_act 7 ls (tpu v []) h1 Q) := tA_cV mB_X10_act mO_X10_act dX10_act_4 cT_10_290 rfl (Nat.le_of_ble_eq_true rfl) rfl rfl rfl hci
theorem rX10_act_7 : tA sc iX10_act 7 [l0, vI x, l2, l3, l4, l5] st h Q = tA sc iX10_act 8 [l0, vI x, l2, l3, l4, l5] (vI x :: st) h Q := tA_pure mB_X10_act dX10_act_7 rfl
theorem rX10_act_8 : tA sc iX10_act 8 ls [vI p0] h Q = tA sc iX10_isShelf 0 [vI p0] [] h (fun v h1 => tA sc iX10_act 11 ls (tpu v []) h1 Q) := tA_cS mB_X10_act mO_X10_act dX10_act_8 cT_10_280 ⟨Nat.le_of_ble_eq_true rfl, Nat.le_of_ble_eq_true rfl⟩ rfl rfl rfl rfl
theorem rX10_act_11 : tA sc iX10_act 11 ls (vI x :: st) h Q = (if x = 0 then tA sc iX10_act 30 ls st h Q else tA sc iX10_act 14 ls st h Q) := tA_if mB_X10_act dX10_act_11 (fun _ _ _ _ => rfl) rfl
theorem rX10_act_14 : tA sc iX10_act 14 [vR r, l1, l2, l3, l4, l5] st h Q = tA sc iX10_act 15 [vR r, l1, l2, l3, l4, l5] (vR r :: st) h Q := tA_pure mB_X10_act dX10_act_14 rfl
theorem rX10_act_15 : tA sc iX10_act 15 ls (vR (some o) :: st) h Q = oz (tget h o [10] 0) (fun v => tA sc iX10_act 18 ls (v :: st) h Q) := tA_get mB_X10_act mO_X10_act dX10_act_15 fT_10_10
theorem rX10_act_18 : tA sc iX10_act 18 [vR r, l1, l2, l3, l4, l5] st h Q = tA sc iX10_act 19 [vR r, l1, l2, l3, l4, l5] (vR r :: st) h Q := tA_pure mB_X10_act dX10_act_18 rfl
theorem rX10_act_19 : tA sc iX10_act 19 ls (vR (some o) :: st) h Q = oz (tget h o [10] 9) (fun v => tA sc iX10_act 22 ls (v :: st) h Q) := tA_get mB_X10_act mO_X10_act dX10_act_19 fT_10_42
theorem rX10_act_22 : tA sc iX10_act 22 [l0, vI x, l2, l3, l4, l5] st h Q = tA sc iX10_act 23 [l0, vI x, l2, l3, l4, l5] (vI x :: st) h Q := tA_pure mB_X10_act dX10_act_22 rfl
theorem rX10_act_23 : tA sc iX10_act 23 ls (vI j :: vR (some a) :: st) h Q = oz (tald sc h 0 a j) (fun v => tA sc iX10_act 24 ls (vI v :: st) h Q) := tA_iald mB_X10_act dX10_act_23
theorem rX10_act_24 (hci : tcl h o = some 9) : tA sc iX10_act 24 ls [vI p0, vR (some o)] h Q = tA sc iX9_sayerAt 0 [vR (some o), vI p0] [] h (fun v h1 => tA sc iX10_act 27 ls (tpu v []) h1 Q) := tA_cV mB_X10_act mO_X10_act dX10_act_24 cT_10_136 rfl (Nat.le_of_ble_eq_true rfl) rfl rfl rfl hci
theorem rX10_act_27 : tA sc iX10_act 27 ls st h Q = tA sc iX10_act 31 ls st h Q := tA_jump mB_X10_act dX10_act_27 (fun _ _ _ _ => rfl) rfl
theorem rX10_act_30 : tA sc iX10_act 30 ls st h Q = tA sc iX10_act 31 ls (vR none :: st) h Q := tA_pure mB_X10_act dX10_act_30 rfl
theorem rX10_act_31 : tA sc iX10_act 31 [l0, l1, l2, l3, l4, l5] (vR r :: st) h Q = tA sc iX10_act 33 [l0, l1, l2, tclr l3, vR r, l5] st h Q := tA_pure mB_X10_act dX10_act_31 rfl
theorem rX10_act_33 : tA sc iX10_act 33 [l0, l1, l2, l3, vR r, l5] st h Q = tA sc iX10_act 35 [l0, l1, l2, l3, vR r, l5] (vR r :: st) h Q := tA_pure mB_X10_act dX10_act_33 rfl
theorem rX10_act_35n : tA sc iX10_act 35 ls (vR none :: st) h Q = tA sc iX10_act 38 ls st h Q := tA_jump mB_X10_act dX10_act_35 (fun _ _ _ _ => rfl) rfl
theorem rX10_act_35s : tA sc iX10_act 35 ls (vR (some o) :: st) h Q = tA sc iX10_act 40 ls st h Q := tA_jump mB_X10_act dX10_act_35 (fun _ _ _ _ => rfl) rfl
theorem rX10_act_38 : tA sc iX10_act 38 ls st h Q = tA sc iX10_act 39 ls (vI (0) :: st) h Q := tA_pure mB_X10_act dX10_act_38 rfl
theorem rX10_act_39 : tA sc iX10_act 39 ls [vI x] h Q = Q (some (vI x)) h := tA_ret mB_X10_act dX10_act_39 (fun _ _ _ _ => rfl) (fun _ _ _ => rfl) (fun _ _ _ _ _ => rfl) rfl rfl
theorem rX10_act_40 : tA sc iX10_act 40 ls st h Q = tA sc iX10_act 41 ls (vI (0) :: st) h Q := tA_pure mB_X10_act dX10_act_40 rfl
theorem rX10_act_41 : tA sc iX10_act 41 [l0, l1, l2, l3, l4, l5] (vI x :: st) h Q = tA sc iX10_act 43 [l0, l1, l2, l3, tclr l4, vI x] st h Q := tA_pure mB_X10_act dX10_act_41 rfl
theorem rX10_act_43 : tA sc iX10_act 43 [l0, l1, vI x, l3, l4, l5] st h Q = tA sc iX10_act 44 [l0, l1, vI x, l3, l4, l5] (vI x :: st) h Q := tA_pure mB_X10_act dX10_act_43 rfl
theorem rX10_act_44 : tA sc iX10_act 44 ls (vI x :: st) h Q = tA sc iX10_act (tswp x 0 [76, 91, 106, 121] 136) ls st h Q := tA_sw mB_X10_act dX10_act_44 rfl rfl rfl
theorem rX10_act_76 : tA sc iX10_act 76 [l0, l1, l2, l3, vR r, l5] st h Q = tA sc iX10_act 78 [l0, l1, l2, l3, vR r, l5] (vR r :: st) h Q := tA_pure mB_X10_act dX10_act_76 rfl
theorem rX10_act_78 : tA sc iX10_act 78 [l0, l1, l2, vI x, l4, l5] st h Q = tA sc iX10_act 79 [l0, l1, l2, vI x, l4, l5] (vI x :: st) h Q := tA_pure mB_X10_act dX10_act_78 rfl
theorem rX10_act_79 : tA sc iX10_act 79 [vR r, l1, l2, l3, l4, l5] st h Q = tA sc iX10_act 80 [vR r, l1, l2, l3, l4, l5] (vR r :: st) h Q := tA_pure mB_X10_act dX10_act_79 rfl
theorem rX10_act_80 : tA sc iX10_act 80 ls (vR (some o) :: st) h Q = oz (tget h o [10] 10) (fun v => tA sc iX10_act 83 ls (v :: st) h Q) := tA_get mB_X10_act mO_X10_act dX10_act_80 fT_10_48
theorem rX10_act_83_0 (hci : tcl h o = some 0) : tA sc iX10_act 83 ls [vR n1, vI p0, vR (some o)] h Q = tA sc iX0_says 0 [vR (some o), vI p0, vR n1] [] h (fun v h1 => tA sc iX10_act 86 ls (tpu v []) h1 Q) := tA_cV mB_X10_act mO_X10_act dX10_act_83 cT_10_293 rfl (Nat.le_of_ble_eq_true rfl) rfl rfl rfl hci
theorem rX10_act_83_2 (hci : tcl h o = some 2) : tA sc iX10_act 83 ls [vR n1, vI p0, vR (some o)] h Q = tA sc iX4_says 0 [vR (some o), vI p0, vR n1] [] h (fun v h1 => tA sc iX10_act 86 ls (tpu v []) h1 Q) := tA_cV mB_X10_act mO_X10_act dX10_act_83 cT_10_293 rfl (Nat.le_of_ble_eq_true rfl) rfl rfl rfl hci
theorem rX10_act_83_3 (hci : tcl h o = some 3) : tA sc iX10_act 83 ls [vR n1, vI p0, vR (some o)] h Q = tA sc iX3_says 0 [vR (some o), vI p0, vR n1] [] h (fun v h1 => tA sc iX10_act 86 ls (tpu v []) h1 Q) := tA_cV mB_X10_act mO_X10_act dX10_act_83 cT_10_293 rfl (Nat.le_of_ble_eq_true rfl) rfl rfl rfl hci
theorem rX10_act_83_4 (hci : tcl h o = some 4) : tA sc iX10_act 83 ls [vR n1, vI p0, vR (some o)] h Q = tA sc iX4_says 0 [vR (some o), vI p0, vR n1] [] h (fun v h1 => tA sc iX10_act 86 ls (tpu v []) h1 Q) := tA_cV mB_X10_act mO_X10_act dX10_act_83 cT_10_293 rfl (Nat.le_of_ble_eq_true rfl) rfl rfl rfl hci
theorem rX10_act_83_6 (hci : tcl h o = some 6) : tA sc iX10_act 83 ls [vR n1, vI p0, vR (some o)] h Q = tA sc iX6_says 0 [vR (some o), vI p0, vR n1] [] h (fun v h1 => tA sc iX10_act 86 ls (tpu v []) h1 Q) := tA_cV mB_X10_act mO_X10_act dX10_act_83 cT_10_293 rfl (Nat.le_of_ble_eq_true rfl) rfl rfl rfl hci
theorem rX10_act_83_7 (hci : tcl h o = some 7) : tA sc iX10_act 83 ls [vR n1, vI p0, vR (some o)] h Q = tA sc iX4_says 0 [vR (some o), vI p0, vR n1] [] h (fun v h1 => tA sc iX10_act 86 ls (tpu v []) h1 Q) := tA_cV mB_X10_act mO_X10_act dX10_act_83 cT_10_293 rfl (Nat.le_of_ble_eq_true rfl) rfl rfl rfl hci
theorem rX10_act_86 : tA sc iX10_act 86 [l0, l1, l2, l3, l4, l5] (vI x :: st) h Q = tA sc iX10_act 88 [l0, l1, l2, l3, tclr l4, vI x] st h Q := tA_pure mB_X10_act dX10_act_86 rfl
theorem rX10_act_88 : tA sc iX10_act 88 ls st h Q = tA sc iX10_act 136 ls st h Q := tA_jump mB_X10_act dX10_act_88 (fun _ _ _ _ => rfl) rfl
theorem rX10_act_91 : tA sc iX10_act 91 [l0, l1, l2, l3, vR r, l5] st h Q = tA sc iX10_act 93 [l0, l1, l2, l3, vR r, l5] (vR r :: st) h Q := tA_pure mB_X10_act dX10_act_91 rfl
theorem rX10_act_93 : tA sc iX10_act 93 [l0, l1, l2, vI x, l4, l5] st h Q = tA sc iX10_act 94 [l0, l1, l2, vI x, l4, l5] (vI x :: st) h Q := tA_pure mB_X10_act dX10_act_93 rfl
theorem rX10_act_94 : tA sc iX10_act 94 [vR r, l1, l2, l3, l4, l5] st h Q = tA sc iX10_act 95 [vR r, l1, l2, l3, l4, l5] (vR r :: st) h Q := tA_pure mB_X10_act dX10_act_94 rfl
theorem rX10_act_95 : tA sc iX10_act 95 ls (vR (some o) :: st) h Q = oz (tget h o [10] 10) (fun v => tA sc iX10_act 98 ls (v :: st) h Q) := tA_get mB_X10_act mO_X10_act dX10_act_95 fT_10_48
theorem rX10_act_98_0 (hci : tcl h o = some 0) : tA sc iX10_act 98 ls [vR n1, vI p0, vR (some o)] h Q = tA sc iX2_waits 0 [vR (some o), vI p0, vR n1] [] h (fun v h1 => tA sc iX10_act 101 ls (tpu v []) h1 Q) := tA_cV mB_X10_act mO_X10_act dX10_act_98 cT_10_297 rfl (Nat.le_of_ble_eq_true rfl) rfl rfl rfl hci
theorem rX10_act_98_2 (hci : tcl h o = some 2) : tA sc iX10_act 98 ls [vR n1, vI p0, vR (some o)] h Q = tA sc iX2_waits 0 [vR (some o), vI p0, vR n1] [] h (fun v h1 => tA sc iX10_act 101 ls (tpu v []) h1 Q) := tA_cV mB_X10_act mO_X10_act dX10_act_98 cT_10_297 rfl (Nat.le_of_ble_eq_true rfl) rfl rfl rfl hci
theorem rX10_act_98_3 (hci : tcl h o = some 3) : tA sc iX10_act 98 ls [vR n1, vI p0, vR (some o)] h Q = tA sc iX4_waits 0 [vR (some o), vI p0, vR n1] [] h (fun v h1 => tA sc iX10_act 101 ls (tpu v []) h1 Q) := tA_cV mB_X10_act mO_X10_act dX10_act_98 cT_10_297 rfl (Nat.le_of_ble_eq_true rfl) rfl rfl rfl hci
theorem rX10_act_98_4 (hci : tcl h o = some 4) : tA sc iX10_act 98 ls [vR n1, vI p0, vR (some o)] h Q = tA sc iX4_waits 0 [vR (some o), vI p0, vR n1] [] h (fun v h1 => tA sc iX10_act 101 ls (tpu v []) h1 Q) := tA_cV mB_X10_act mO_X10_act dX10_act_98 cT_10_297 rfl (Nat.le_of_ble_eq_true rfl) rfl rfl rfl hci
theorem rX10_act_98_6 (hci : tcl h o = some 6) : tA sc iX10_act 98 ls [vR n1, vI p0, vR (some o)] h Q = tA sc iX6_waits 0 [vR (some o), vI p0, vR n1] [] h (fun v h1 => tA sc iX10_act 101 ls (tpu v []) h1 Q) := tA_cV mB_X10_act mO_X10_act dX10_act_98 cT_10_297 rfl (Nat.le_of_ble_eq_true rfl) rfl rfl rfl hci
theorem rX10_act_98_7 (hci : tcl h o = some 7) : tA sc iX10_act 98 ls [vR n1, vI p0, vR (some o)] h Q = tA sc iX4_waits 0 [vR (some o), vI p0, vR n1] [] h (fun v h1 => tA sc iX10_act 101 ls (tpu v []) h1 Q) := tA_cV mB_X10_act mO_X10_act dX10_act_98 cT_10_297 rfl (Nat.le_of_ble_eq_true rfl) rfl rfl rfl hci
theorem rX10_act_101 : tA sc iX10_act 101 [l0, l1, l2, l3, l4, l5] (vI x :: st) h Q = tA sc iX10_act 103 [l0, l1, l2, l3, tclr l4, vI x] st h Q := tA_pure mB_X10_act dX10_act_101 rfl
theorem rX10_act_103 : tA sc iX10_act 103 ls st h Q = tA sc iX10_act 136 ls st h Q := tA_jump mB_X10_act dX10_act_103 (fun _ _ _ _ => rfl) rfl
theorem rX10_act_106 : tA sc iX10_act 106 [l0, l1, l2, l3, vR r, l5] st h Q = tA sc iX10_act 108 [l0, l1, l2, l3, vR r, l5] (vR r :: st) h Q := tA_pure mB_X10_act dX10_act_106 rfl
theorem rX10_act_108 : tA sc iX10_act 108 [l0, l1, l2, vI x, l4, l5] st h Q = tA sc iX10_act 109 [l0, l1, l2, vI x, l4, l5] (vI x :: st) h Q := tA_pure mB_X10_act dX10_act_108 rfl
theorem rX10_act_109 : tA sc iX10_act 109 [vR r, l1, l2, l3, l4, l5] st h Q = tA sc iX10_act 110 [vR r, l1, l2, l3, l4, l5] (vR r :: st) h Q := tA_pure mB_X10_act dX10_act_109 rfl
theorem rX10_act_110 : tA sc iX10_act 110 ls (vR (some o) :: st) h Q = oz (tget h o [10] 10) (fun v => tA sc iX10_act 113 ls (v :: st) h Q) := tA_get mB_X10_act mO_X10_act dX10_act_110 fT_10_48
theorem rX10_act_113_0 (hci : tcl h o = some 0) : tA sc iX10_act 113 ls [vR n1, vI p0, vR (some o)] h Q = tA sc iX0_shares 0 [vR (some o), vI p0, vR n1] [] h (fun v h1 => tA sc iX10_act 116 ls (tpu v []) h1 Q) := tA_cV mB_X10_act mO_X10_act dX10_act_113 cT_10_300 rfl (Nat.le_of_ble_eq_true rfl) rfl rfl rfl hci
theorem rX10_act_113_2 (hci : tcl h o = some 2) : tA sc iX10_act 113 ls [vR n1, vI p0, vR (some o)] h Q = tA sc iX4_shares 0 [vR (some o), vI p0, vR n1, vU] [] h (fun v h1 => tA sc iX10_act 116 ls (tpu v []) h1 Q) := tA_cV mB_X10_act mO_X10_act dX10_act_113 cT_10_300 rfl (Nat.le_of_ble_eq_true rfl) rfl rfl rfl hci
theorem rX10_act_113_3 (hci : tcl h o = some 3) : tA sc iX10_act 113 ls [vR n1, vI p0, vR (some o)] h Q = tA sc iX4_shares 0 [vR (some o), vI p0, vR n1, vU] [] h (fun v h1 => tA sc iX10_act 116 ls (tpu v []) h1 Q) := tA_cV mB_X10_act mO_X10_act dX10_act_113 cT_10_300 rfl (Nat.le_of_ble_eq_true rfl) rfl rfl rfl hci
theorem rX10_act_113_4 (hci : tcl h o = some 4) : tA sc iX10_act 113 ls [vR n1, vI p0, vR (some o)] h Q = tA sc iX4_shares 0 [vR (some o), vI p0, vR n1, vU] [] h (fun v h1 => tA sc iX10_act 116 ls (tpu v []) h1 Q) := tA_cV mB_X10_act mO_X10_act dX10_act_113 cT_10_300 rfl (Nat.le_of_ble_eq_true rfl) rfl rfl rfl hci
theorem rX10_act_113_6 (hci : tcl h o = some 6) : tA sc iX10_act 113 ls [vR n1, vI p0, vR (some o)] h Q = tA sc iX4_shares 0 [vR (some o), vI p0, vR n1, vU] [] h (fun v h1 => tA sc iX10_act 116 ls (tpu v []) h1 Q) := tA_cV mB_X10_act mO_X10_act dX10_act_113 cT_10_300 rfl (Nat.le_of_ble_eq_true rfl) rfl rfl rfl hci
theorem rX10_act_113_7 (hci : tcl h o = some 7) : tA sc iX10_act 113 ls [vR n1, vI p0, vR (some o)] h Q = tA sc iX7_shares 0 [vR (some o), vI p0, vR n1] [] h (fun v h1 => tA sc iX10_act 116 ls (tpu v []) h1 Q) := tA_cV mB_X10_act mO_X10_act dX10_act_113 cT_10_300 rfl (Nat.le_of_ble_eq_true rfl) rfl rfl rfl hci
theorem rX10_act_116 : tA sc iX10_act 116 [l0, l1, l2, l3, l4, l5] (vI x :: st) h Q = tA sc iX10_act 118 [l0, l1, l2, l3, tclr l4, vI x] st h Q := tA_pure mB_X10_act dX10_act_116 rfl
theorem rX10_act_118 : tA sc iX10_act 118 ls st h Q = tA sc iX10_act 136 ls st h Q := tA_jump mB_X10_act dX10_act_118 (fun _ _ _ _ => rfl) rfl
theorem rX10_act_121 : tA sc iX10_act 121 [l0, l1, l2, l3, vR r, l5] st h Q = tA sc iX10_act 123 [l0, l1, l2, l3, vR r, l5] (vR r :: st) h Q := tA_pure mB_X10_act dX10_act_121 rfl
theorem rX10_act_123 : tA sc iX10_act 123 [l0, l1, l2, vI x, l4, l5] st h Q = tA sc iX10_act 124 [l0, l1, l2, vI x, l4, l5] (vI x :: st) h Q := tA_pure mB_X10_act dX10_act_123 rfl
theorem rX10_act_124 : tA sc iX10_act 124 [vR r, l1, l2, l3, l4, l5] st h Q = tA sc iX10_act 125 [vR r, l1, l2, l3, l4, l5] (vR r :: st) h Q := tA_pure mB_X10_act dX10_act_124 rfl
theorem rX10_act_125 : tA sc iX10_act 125 ls (vR (some o) :: st) h Q = oz (tget h o [10] 10) (fun v => tA sc iX10_act 128 ls (v :: st) h Q) := tA_get mB_X10_act mO_X10_act dX10_act_125 fT_10_48
theorem rX10_act_128_0 (hci : tcl h o = some 0) : tA sc iX10_act 128 ls [vR n1, vI p0, vR (some o)] h Q = tA sc iX4_tells 0 [vR (some o), vI p0, vR n1] [] h (fun v h1 => tA sc iX10_act 131 ls (tpu v []) h1 Q) := tA_cV mB_X10_act mO_X10_act dX10_act_128 cT_10_303 rfl (Nat.le_of_ble_eq_true rfl) rfl rfl rfl hci
theorem rX10_act_128_2 (hci : tcl h o = some 2) : tA sc iX10_act 128 ls [vR n1, vI p0, vR (some o)] h Q = tA sc iX4_tells 0 [vR (some o), vI p0, vR n1] [] h (fun v h1 => tA sc iX10_act 131 ls (tpu v []) h1 Q) := tA_cV mB_X10_act mO_X10_act dX10_act_128 cT_10_303 rfl (Nat.le_of_ble_eq_true rfl) rfl rfl rfl hci
theorem rX10_act_128_3 (hci : tcl h o = some 3) : tA sc iX10_act 128 ls [vR n1, vI p0, vR (some o)] h Q = tA sc iX3_tells 0 [vR (some o), vI p0, vR n1] [] h (fun v h1 => tA sc iX10_act 131 ls (tpu v []) h1 Q) := tA_cV mB_X10_act mO_X10_act dX10_act_128 cT_10_303 rfl (Nat.le_of_ble_eq_true rfl) rfl rfl rfl hci
theorem rX10_act_128_4 (hci : tcl h o = some 4) : tA sc iX10_act 128 ls [vR n1, vI p0, vR (some o)] h Q = tA sc iX4_tells 0 [vR (some o), vI p0, vR n1] [] h (fun v h1 => tA sc iX10_act 131 ls (tpu v []) h1 Q) := tA_cV mB_X10_act mO_X10_act dX10_act_128 cT_10_303 rfl (Nat.le_of_ble_eq_true rfl) rfl rfl rfl hci
theorem rX10_act_128_6 (hci : tcl h o = some 6) : tA sc iX10_act 128 ls [vR n1, vI p0, vR (some o)] h Q = tA sc iX3_tells 0 [vR (some o), vI p0, vR n1] [] h (fun v h1 => tA sc iX10_act 131 ls (tpu v []) h1 Q) := tA_cV mB_X10_act mO_X10_act dX10_act_128 cT_10_303 rfl (Nat.le_of_ble_eq_true rfl) rfl rfl rfl hci
theorem rX10_act_128_7 (hci : tcl h o = some 7) : tA sc iX10_act 128 ls [vR n1, vI p0, vR (some o)] h Q = tA sc iX7_tells 0 [vR (some o), vI p0, vR n1] [] h (fun v h1 => tA sc iX10_act 131 ls (tpu v []) h1 Q) := tA_cV mB_X10_act mO_X10_act dX10_act_128 cT_10_303 rfl (Nat.le_of_ble_eq_true rfl) rfl rfl rfl hci
theorem rX10_act_131 : tA sc iX10_act 131 [l0, l1, l2, l3, l4, l5] (vI x :: st) h Q = tA sc iX10_act 133 [l0, l1, l2, l3, tclr l4, vI x] st h Q := tA_pure mB_X10_act dX10_act_131 rfl
theorem rX10_act_133 : tA sc iX10_act 133 ls st h Q = tA sc iX10_act 136 ls st h Q := tA_jump mB_X10_act dX10_act_133 (fun _ _ _ _ => rfl) rfl
theorem rX10_act_136 : tA sc iX10_act 136 [vR r, l1, l2, l3, l4, l5] st h Q = tA sc iX10_act 137 [vR r, l1, l2, l3, l4, l5] (vR r :: st) h Q := tA_pure mB_X10_act dX10_act_136 rfl
theorem rX10_act_137 : tA sc iX10_act 137 ls (vR (some o) :: st) h Q = oz (tget h o [10] 10) (fun v => tA sc iX10_act 140 ls (v :: st) h Q) := tA_get mB_X10_act mO_X10_act dX10_act_137 fT_10_48
theorem rX10_act_140 : tA sc iX10_act 140 ls (vR (some o) :: st) h Q = oz (tget h o [8] 2) (fun v => tA sc iX10_act 143 ls (v :: st) h Q) := tA_get mB_X10_act mO_X10_act dX10_act_140 fT_10_306
theorem rX10_act_143 : tA sc iX10_act 143 ls (vI x :: st) h Q = (if x = 0 then tA sc iX10_act 151 ls st h Q else tA sc iX10_act 146 ls st h Q) := tA_if mB_X10_act dX10_act_143 (fun _ _ _ _ => rfl) rfl
theorem rX10_act_146 : tA sc iX10_act 146 ls st h Q = tA sc iX10_act 148 ls (vI (-15) :: st) h Q := tA_pure mB_X10_act dX10_act_146 rfl
theorem rX10_act_148 : tA sc iX10_act 148 ls st h Q = tA sc iX10_act 153 ls st h Q := tA_jump mB_X10_act dX10_act_148 (fun _ _ _ _ => rfl) rfl
theorem rX10_act_151 : tA sc iX10_act 151 [l0, l1, l2, l3, l4, vI x] st h Q = tA sc iX10_act 153 [l0, l1, l2, l3, l4, vI x] (vI x :: st) h Q := tA_pure mB_X10_act dX10_act_151 rfl
theorem rX10_act_153 : tA sc iX10_act 153 ls [vI x] h Q = Q (some (vI x)) h := tA_ret mB_X10_act dX10_act_153 (fun _ _ _ _ => rfl) (fun _ _ _ => rfl) (fun _ _ _ _ _ => rfl) rfl rfl
theorem mB_X10_trace : mB iX10_trace = cX10_trace := rfl
theorem mO_X10_trace : mO iX10_trace = 10 := rfl
theorem rX10_trace_0 : tA sc iX10_trace 0 [l0, vI x] st h Q = tA sc iX10_trace 1 [l0, vI x] (vI x :: st) h Q := tA_pure mB_X10_trace dX10_trace_0 rfl
theorem rX10_trace_1 : tA sc iX10_trace 1 ls (vI x :: st) h Q = (if x < 0 then tA sc iX10_trace 27 ls st h Q else tA sc iX10_trace 4 ls st h Q) := tA_if mB_X10_trace dX10_trace_1 (fun _ _ _ _ => rfl) rfl
theorem rX10_trace_4 : tA sc iX10_trace 4 [l0, vI x] st h Q = tA sc iX10_trace 5 [l0, vI x] (vI x :: st) h Q := tA_pure mB_X10_trace dX10_trace_4 rfl
theorem rX10_trace_5 : tA sc iX10_trace 5 [vR r, l1] st h Q = tA sc iX10_trace 6 [vR r, l1] (vR r :: st) h Q := tA_pure mB_X10_trace dX10_trace_5 rfl
theorem rX10_trace_6 : tA sc iX10_trace 6 ls (vR (some o) :: st) h Q = oz (tget h o [10] 10) (fun v => tA sc iX10_trace 9 ls (v :: st) h Q) := tA_get mB_X10_trace mO_X10_trace dX10_trace_6 fT_10_48
theorem rX10_trace_9 : tA sc iX10_trace 9 ls (vR (some o) :: st) h Q = oz (tget h o [8] 1) (fun v => tA sc iX10_trace 12 ls (v :: st) h Q) := tA_get mB_X10_trace mO_X10_trace dX10_trace_9 fT_10_310
theorem rX10_trace_12 : tA sc iX10_trace 12 ls (vI y :: vI x :: st) h Q = (if y ≤ x then tA sc iX10_trace 27 ls st h Q else tA sc iX10_trace 15 ls st h Q) := tA_if mB_X10_trace dX10_trace_12 (fun _ _ _ _ => rfl) rfl
theorem rX10_trace_15 : tA sc iX10_trace 15 [vR r, l1] st h Q = tA sc iX10_trace 16 [vR r, l1] (vR r :: st) h Q := tA_pure mB_X10_trace dX10_trace_15 rfl
theorem rX10_trace_16 : tA sc iX10_trace 16 ls (vR (some o) :: st) h Q = oz (tget h o [10] 10) (fun v => tA sc iX10_trace 19 ls (v :: st) h Q) := tA_get mB_X10_trace mO_X10_trace dX10_trace_16 fT_10_48
theorem rX10_trace_19 : tA sc iX10_trace 19 ls (vR (some o) :: st) h Q = oz (tget h o [8] 0) (fun v => tA sc iX10_trace 22 ls (v :: st) h Q) := tA_get mB_X10_trace mO_X10_trace dX10_trace_19 fT_10_313
theorem rX10_trace_22 : tA sc iX10_trace 22 [l0, vI x] st h Q = tA sc iX10_trace 23 [l0, vI x] (vI x :: st) h Q := tA_pure mB_X10_trace dX10_trace_22 rfl
theorem rX10_trace_23 : tA sc iX10_trace 23 ls (vI j :: vR (some a) :: st) h Q = oz (tald sc h 0 a j) (fun v => tA sc iX10_trace 24 ls (vI v :: st) h Q) := tA_iald mB_X10_trace dX10_trace_23
theorem rX10_trace_24 : tA sc iX10_trace 24 ls st h Q = tA sc iX10_trace 29 ls st h Q := tA_jump mB_X10_trace dX10_trace_24 (fun _ _ _ _ => rfl) rfl
theorem rX10_trace_27 : tA sc iX10_trace 27 ls st h Q = tA sc iX10_trace 29 ls (vI (-3) :: st) h Q := tA_pure mB_X10_trace dX10_trace_27 rfl
theorem rX10_trace_29 : tA sc iX10_trace 29 ls [vI x] h Q = Q (some (vI x)) h := tA_ret mB_X10_trace dX10_trace_29 (fun _ _ _ _ => rfl) (fun _ _ _ => rfl) (fun _ _ _ _ _ => rfl) rfl rfl
theorem mB_X10_many : mB iX10_many = cX10_many := rfl
theorem mO_X10_many : mO iX10_many = 10 := rfl
theorem rX10_many_0 : tA sc iX10_many 0 [l0, vI x] st h Q = tA sc iX10_many 1 [l0, vI x] (vI x :: st) h Q := tA_pure mB_X10_many dX10_many_0 rfl
theorem rX10_many_1 : tA sc iX10_many 1 ls (vI x :: st) h Q = tA sc iX10_many (tswp x 0 [40, 48, 56, 64, 69, 77] 85) ls st h Q := tA_sw mB_X10_many dX10_many_1 rfl rfl rfl
theorem rX10_many_40 : tA sc iX10_many 40 [vR r, l1] st h Q = tA sc iX10_many 41 [vR r, l1] (vR r :: st) h Q := tA_pure mB_X10_many dX10_many_40 rfl
theorem rX10_many_41 : tA sc iX10_many 41 ls (vR (some o) :: st) h Q = oz (tget h o [10] 0) (fun v => tA sc iX10_many 44 ls (v :: st) h Q) := tA_get mB_X10_many mO_X10_many dX10_many_41 fT_10_10
theorem rX10_many_44 : tA sc iX10_many 44 ls (vR (some o) :: st) h Q = oz (tget h o [9] 10) (fun v => tA sc iX10_many 47 ls (v :: st) h Q) := tA_get mB_X10_many mO_X10_many dX10_many_44 fT_10_74
theorem rX10_many_47 : tA sc iX10_many 47 ls [vI x] h Q = Q (some (vI x)) h := tA_ret mB_X10_many dX10_many_47 (fun _ _ _ _ => rfl) (fun _ _ _ => rfl) (fun _ _ _ _ _ => rfl) rfl rfl
theorem rX10_many_48 : tA sc iX10_many 48 [vR r, l1] st h Q = tA sc iX10_many 49 [vR r, l1] (vR r :: st) h Q := tA_pure mB_X10_many dX10_many_48 rfl
theorem rX10_many_49 : tA sc iX10_many 49 ls (vR (some o) :: st) h Q = oz (tget h o [10] 0) (fun v => tA sc iX10_many 52 ls (v :: st) h Q) := tA_get mB_X10_many mO_X10_many dX10_many_49 fT_10_10
theorem rX10_many_52 : tA sc iX10_many 52 ls (vR (some o) :: st) h Q = oz (tget h o [9] 14) (fun v => tA sc iX10_many 55 ls (v :: st) h Q) := tA_get mB_X10_many mO_X10_many dX10_many_52 fT_10_174
theorem rX10_many_55 : tA sc iX10_many 55 ls [vI x] h Q = Q (some (vI x)) h := tA_ret mB_X10_many dX10_many_55 (fun _ _ _ _ => rfl) (fun _ _ _ => rfl) (fun _ _ _ _ _ => rfl) rfl rfl
theorem rX10_many_56 : tA sc iX10_many 56 [vR r, l1] st h Q = tA sc iX10_many 57 [vR r, l1] (vR r :: st) h Q := tA_pure mB_X10_many dX10_many_56 rfl
theorem rX10_many_57 : tA sc iX10_many 57 ls (vR (some o) :: st) h Q = oz (tget h o [10] 0) (fun v => tA sc iX10_many 60 ls (v :: st) h Q) := tA_get mB_X10_many mO_X10_many dX10_many_57 fT_10_10
theorem rX10_many_60 : tA sc iX10_many 60 ls (vR (some o) :: st) h Q = oz (tget h o [9] 6) (fun v => tA sc iX10_many 63 ls (v :: st) h Q) := tA_get mB_X10_many mO_X10_many dX10_many_60 fT_10_205
theorem rX10_many_63 : tA sc iX10_many 63 ls [vI x] h Q = Q (some (vI x)) h := tA_ret mB_X10_many dX10_many_63 (fun _ _ _ _ => rfl) (fun _ _ _ => rfl) (fun _ _ _ _ _ => rfl) rfl rfl
theorem rX10_many_64 : tA sc iX10_many 64 [vR r, l1] st h Q = tA sc iX10_many 65 [vR r, l1] (vR r :: st) h Q := tA_pure mB_X10_many dX10_many_64 rfl
theorem rX10_many_65 : tA sc iX10_many 65 ls (vR (some o) :: st) h Q = oz (tget h o [10] 6) (fun v => tA sc iX10_many 68 ls (v :: st) h Q) := tA_get mB_X10_many mO_X10_many dX10_many_65 fT_10_71
theorem rX10_many_68 : tA sc iX10_many 68 ls [vI x] h Q = Q (some (vI x)) h := tA_ret mB_X10_many dX10_many_68 (fun _ _ _ _ => rfl) (fun _ _ _ => rfl) (fun _ _ _ _ _ => rfl) rfl rfl
theorem rX10_many_69 : tA sc iX10_many 69 [vR r, l1] st h Q = tA sc iX10_many 70 [vR r, l1] (vR r :: st) h Q := tA_pure mB_X10_many dX10_many_69 rfl
theorem rX10_many_70 : tA sc iX10_many 70 ls (vR (some o) :: st) h Q = oz (tget h o [10] 4) (fun v => tA sc iX10_many 73 ls (v :: st) h Q) := tA_get mB_X10_many mO_X10_many dX10_many_70 fT_10_25
theorem rX10_many_73 : tA sc iX10_many 73 ls (vR (some o) :: st) h Q = oz (tget h o [1] 1) (fun v => tA sc iX10_many 76 ls (v :: st) h Q) := tA_get mB_X10_many mO_X10_many dX10_many_73 fT_10_52
theorem rX10_many_76 : tA sc iX10_many 76 ls [vI x] h Q = Q (some (vI x)) h := tA_ret mB_X10_many dX10_many_76 (fun _ _ _ _ => rfl) (fun _ _ _ => rfl) (fun _ _ _ _ _ => rfl) rfl rfl
theorem rX10_many_77 : tA sc iX10_many 77 [vR r, l1] st h Q = tA sc iX10_many 78 [vR r, l1] (vR r :: st) h Q := tA_pure mB_X10_many dX10_many_77 rfl
theorem rX10_many_78 : tA sc iX10_many 78 ls (vR (some o) :: st) h Q = oz (tget h o [10] 10) (fun v => tA sc iX10_many 81 ls (v :: st) h Q) := tA_get mB_X10_many mO_X10_many dX10_many_78 fT_10_48
theorem rX10_many_81 : tA sc iX10_many 81 ls (vR (some o) :: st) h Q = oz (tget h o [8] 1) (fun v => tA sc iX10_many 84 ls (v :: st) h Q) := tA_get mB_X10_many mO_X10_many dX10_many_81 fT_10_310
theorem rX10_many_84 : tA sc iX10_many 84 ls [vI x] h Q = Q (some (vI x)) h := tA_ret mB_X10_many dX10_many_84 (fun _ _ _ _ => rfl) (fun _ _ _ => rfl) (fun _ _ _ _ _ => rfl) rfl rfl
theorem rX10_many_85 : tA sc iX10_many 85 ls st h Q = tA sc iX10_many 86 ls (vI (-1) :: st) h Q := tA_pure mB_X10_many dX10_many_85 rfl
theorem rX10_many_86 : tA sc iX10_many 86 ls [vI x] h Q = Q (some (vI x)) h := tA_ret mB_X10_many dX10_many_86 (fun _ _ _ _ => rfl) (fun _ _ _ => rfl) (fun _ _ _ _ _ => rfl) rfl rfl
theorem mB_X10_keep : mB iX10_keep = cX10_keep := rfl
theorem mO_X10_keep : mO iX10_keep = 10 := rfl
theorem rX10_keep_0 : tA sc iX10_keep 0 [vR r] st h Q = tA sc iX10_keep 1 [vR r] (vR r :: st) h Q := tA_pure mB_X10_keep dX10_keep_0 rfl
theorem rX10_keep_1 : tA sc iX10_keep 1 ls (vR (some o) :: st) h Q = oz (tget h o [10] 2) (fun v => tA sc iX10_keep 4 ls (v :: st) h Q) := tA_get mB_X10_keep mO_X10_keep dX10_keep_1 fT_10_19
theorem rX10_keep_4 : tA sc iX10_keep 4 [vR r] st h Q = tA sc iX10_keep 5 [vR r] (vR r :: st) h Q := tA_pure mB_X10_keep dX10_keep_4 rfl
theorem rX10_keep_5 : tA sc iX10_keep 5 ls (vR (some o) :: st) h Q = oz (tget h o [10] 0) (fun v => tA sc iX10_keep 8 ls (v :: st) h Q) := tA_get mB_X10_keep mO_X10_keep dX10_keep_5 fT_10_10
theorem rX10_keep_8 (hci : tcl h o = some 9) : tA sc iX10_keep 8 ls [vR n0, vR (some o)] h Q = tA sc iX9_become 0 [vR (some o), vR n0, vU] [] h (fun v h1 => tA sc iX10_keep 11 ls (tpu v []) h1 Q) := tA_cV mB_X10_keep mO_X10_keep dX10_keep_8 cT_10_60 rfl (Nat.le_of_ble_eq_true rfl) rfl rfl rfl hci
theorem rX10_keep_11 : tA sc iX10_keep 11 [vR r] st h Q = tA sc iX10_keep 12 [vR r] (vR r :: st) h Q := tA_pure mB_X10_keep dX10_keep_11 rfl
theorem rX10_keep_12 : tA sc iX10_keep 12 ls st h Q = tA sc iX10_keep 13 ls (vI (1) :: st) h Q := tA_pure mB_X10_keep dX10_keep_12 rfl
theorem rX10_keep_13 : tA sc iX10_keep 13 ls (v :: vR (some o) :: st) h Q = oz (tput h o [10] 3 1 v) (fun h' => tA sc iX10_keep 16 ls st h' Q) := tA_put mB_X10_keep mO_X10_keep dX10_keep_13 fT_10_316 (Or.inl (by decide))
theorem rX10_keep_16 : tA sc iX10_keep 16 ls st h Q = tA sc iX10_keep 17 ls (vI (1) :: st) h Q := tA_pure mB_X10_keep dX10_keep_16 rfl
theorem rX10_keep_17 : tA sc iX10_keep 17 ls [vI x] h Q = Q (some (vI x)) h := tA_ret mB_X10_keep dX10_keep_17 (fun _ _ _ _ => rfl) (fun _ _ _ => rfl) (fun _ _ _ _ _ => rfl) rfl rfl
theorem mB_X10_again : mB iX10_again = cX10_again := rfl
theorem mO_X10_again : mO iX10_again = 10 := rfl
theorem rX10_again_0 : tA sc iX10_again 0 [vR r] st h Q = tA sc iX10_again 1 [vR r] (vR r :: st) h Q := tA_pure mB_X10_again dX10_again_0 rfl
theorem rX10_again_1 : tA sc iX10_again 1 ls (vR (some o) :: st) h Q = oz (tget h o [10] 3) (fun v => tA sc iX10_again 4 ls (v :: st) h Q) := tA_get mB_X10_again mO_X10_again dX10_again_1 fT_10_316
theorem rX10_again_4 : tA sc iX10_again 4 ls (vI x :: st) h Q = (if ¬ x = 0 then tA sc iX10_again 10 ls st h Q else tA sc iX10_again 7 ls st h Q) := tA_if mB_X10_again dX10_again_4 (fun _ _ _ _ => rfl) rfl
theorem rX10_again_7 : tA sc iX10_again 7 ls st h Q = tA sc iX10_again 9 ls (vI (-3) :: st) h Q := tA_pure mB_X10_again dX10_again_7 rfl
theorem rX10_again_9 : tA sc iX10_again 9 ls [vI x] h Q = Q (some (vI x)) h := tA_ret mB_X10_again dX10_again_9 (fun _ _ _ _ => rfl) (fun _ _ _ => rfl) (fun _ _ _ _ _ => rfl) rfl rfl
theorem rX10_again_10 : tA sc iX10_again 10 [vR r] st h Q = tA sc iX10_again 11 [vR r] (vR r :: st) h Q := tA_pure mB_X10_again dX10_again_10 rfl
theorem rX10_again_11 : tA sc iX10_again 11 ls (vR (some o) :: st) h Q = oz (tget h o [10] 0) (fun v => tA sc iX10_again 14 ls (v :: st) h Q) := tA_get mB_X10_again mO_X10_again dX10_again_11 fT_10_10
theorem rX10_again_14 : tA sc iX10_again 14 [vR r] st h Q = tA sc iX10_again 15 [vR r] (vR r :: st) h Q := tA_pure mB_X10_again dX10_again_14 rfl
theorem rX10_again_15 : tA sc iX10_again 15 ls (vR (some o) :: st) h Q = oz (tget h o [10] 2) (fun v => tA sc iX10_again 18 ls (v :: st) h Q) := tA_get mB_X10_again mO_X10_again dX10_again_15 fT_10_19
theorem rX10_again_18 (hci : tcl h o = some 9) : tA sc iX10_again 18 ls [vR n0, vR (some o)] h Q = tA sc iX9_become 0 [vR (some o), vR n0, vU] [] h (fun v h1 => tA sc iX10_again 21 ls (tpu v []) h1 Q) := tA_cV mB_X10_again mO_X10_again dX10_again_18 cT_10_60 rfl (Nat.le_of_ble_eq_true rfl) rfl rfl rfl hci
theorem rX10_again_21 : tA sc iX10_again 21 [vR r] st h Q = tA sc iX10_again 22 [vR r] (vR r :: st) h Q := tA_pure mB_X10_again dX10_again_21 rfl
theorem rX10_again_22 : tA sc iX10_again 22 ls (vR (some o) :: st) h Q = oz (tget h o [10] 0) (fun v => tA sc iX10_again 25 ls (v :: st) h Q) := tA_get mB_X10_again mO_X10_again dX10_again_22 fT_10_10
theorem rX10_again_25 : tA sc iX10_again 25 ls (vR (some o) :: st) h Q = oz (tget h o [9] 6) (fun v => tA sc iX10_again 28 ls (v :: st) h Q) := tA_get mB_X10_again mO_X10_again dX10_again_25 fT_10_205
theorem rX10_again_28 : tA sc iX10_again 28 ls [vI x] h Q = Q (some (vI x)) h := tA_ret mB_X10_again dX10_again_28 (fun _ _ _ _ => rfl) (fun _ _ _ => rfl) (fun _ _ _ _ _ => rfl) rfl rfl
theorem mB_X10_isDay : mB iX10_isDay = cX10_isDay := rfl
theorem mO_X10_isDay : mO iX10_isDay = 10 := rfl
theorem rX10_isDay_0 : tA sc iX10_isDay 0 [vI x] st h Q = tA sc iX10_isDay 1 [vI x] (vI x :: st) h Q := tA_pure mB_X10_isDay dX10_isDay_0 rfl
theorem rX10_isDay_1 : tA sc iX10_isDay 1 ls (vI x :: st) h Q = (if x < 0 then tA sc iX10_isDay 14 ls st h Q else tA sc iX10_isDay 4 ls st h Q) := tA_if mB_X10_isDay dX10_isDay_1 (fun _ _ _ _ => rfl) rfl
theorem rX10_isDay_4 : tA sc iX10_isDay 4 [vI x] st h Q = tA sc iX10_isDay 5 [vI x] (vI x :: st) h Q := tA_pure mB_X10_isDay dX10_isDay_4 rfl
theorem rX10_isDay_5 : tA sc iX10_isDay 5 ls st h Q = tA sc iX10_isDay 7 ls (vI (20) :: st) h Q := tA_pure mB_X10_isDay dX10_isDay_5 rfl
theorem rX10_isDay_7 : tA sc iX10_isDay 7 ls (vI y :: vI x :: st) h Q = (if y ≤ x then tA sc iX10_isDay 14 ls st h Q else tA sc iX10_isDay 10 ls st h Q) := tA_if mB_X10_isDay dX10_isDay_7 (fun _ _ _ _ => rfl) rfl
theorem rX10_isDay_10 : tA sc iX10_isDay 10 ls st h Q = tA sc iX10_isDay 11 ls (vI (1) :: st) h Q := tA_pure mB_X10_isDay dX10_isDay_10 rfl
theorem rX10_isDay_11 : tA sc iX10_isDay 11 ls st h Q = tA sc iX10_isDay 15 ls st h Q := tA_jump mB_X10_isDay dX10_isDay_11 (fun _ _ _ _ => rfl) rfl
theorem rX10_isDay_14 : tA sc iX10_isDay 14 ls st h Q = tA sc iX10_isDay 15 ls (vI (0) :: st) h Q := tA_pure mB_X10_isDay dX10_isDay_14 rfl
theorem rX10_isDay_15 : tA sc iX10_isDay 15 ls [vI x] h Q = ((x = 0 ∨ x = 1) ∧ Q (some (vI x)) h) := tA_retz mB_X10_isDay dX10_isDay_15 rfl
theorem mB_X10_isComing : mB iX10_isComing = cX10_isComing := rfl
theorem mO_X10_isComing : mO iX10_isComing = 10 := rfl
theorem rX10_isComing_0 : tA sc iX10_isComing 0 [l0, vI x] st h Q = tA sc iX10_isComing 1 [l0, vI x] (vI x :: st) h Q := tA_pure mB_X10_isComing dX10_isComing_0 rfl
theorem rX10_isComing_1 : tA sc iX10_isComing 1 ls [vI p0] h Q = tA sc iX10_isDay 0 [vI p0] [] h (fun v h1 => tA sc iX10_isComing 4 ls (tpu v []) h1 Q) := tA_cS mB_X10_isComing mO_X10_isComing dX10_isComing_1 cT_10_77 ⟨Nat.le_of_ble_eq_true rfl, Nat.le_of_ble_eq_true rfl⟩ rfl rfl rfl rfl
theorem rX10_isComing_4 : tA sc iX10_isComing 4 ls (vI x :: st) h Q = (if x = 0 then tA sc iX10_isComing 22 ls st h Q else tA sc iX10_isComing 7 ls st h Q) := tA_if mB_X10_isComing dX10_isComing_4 (fun _ _ _ _ => rfl) rfl
theorem rX10_isComing_7 : tA sc iX10_isComing 7 [vR r, l1] st h Q = tA sc iX10_isComing 8 [vR r, l1] (vR r :: st) h Q := tA_pure mB_X10_isComing dX10_isComing_7 rfl
theorem rX10_isComing_8 : tA sc iX10_isComing 8 ls (vR (some o) :: st) h Q = oz (tget h o [10] 0) (fun v => tA sc iX10_isComing 11 ls (v :: st) h Q) := tA_get mB_X10_isComing mO_X10_isComing dX10_isComing_8 fT_10_10
theorem rX10_isComing_11 : tA sc iX10_isComing 11 [l0, vI x] st h Q = tA sc iX10_isComing 12 [l0, vI x] (vI x :: st) h Q := tA_pure mB_X10_isComing dX10_isComing_11 rfl
theorem rX10_isComing_12 (hci : tcl h o = some 9) : tA sc iX10_isComing 12 ls [vI p0, vR (some o)] h Q = tA sc iX9_isOver 0 [vR (some o), vI p0] [] h (fun v h1 => tA sc iX10_isComing 15 ls (tpu v []) h1 Q) := tA_cV mB_X10_isComing mO_X10_isComing dX10_isComing_12 cT_10_186 rfl (Nat.le_of_ble_eq_true rfl) rfl rfl rfl hci
theorem rX10_isComing_15 : tA sc iX10_isComing 15 ls (vI x :: st) h Q = (if ¬ x = 0 then tA sc iX10_isComing 22 ls st h Q else tA sc iX10_isComing 18 ls st h Q) := tA_if mB_X10_isComing dX10_isComing_15 (fun _ _ _ _ => rfl) rfl
theorem rX10_isComing_18 : tA sc iX10_isComing 18 ls st h Q = tA sc iX10_isComing 19 ls (vI (1) :: st) h Q := tA_pure mB_X10_isComing dX10_isComing_18 rfl
theorem rX10_isComing_19 : tA sc iX10_isComing 19 ls st h Q = tA sc iX10_isComing 23 ls st h Q := tA_jump mB_X10_isComing dX10_isComing_19 (fun _ _ _ _ => rfl) rfl
theorem rX10_isComing_22 : tA sc iX10_isComing 22 ls st h Q = tA sc iX10_isComing 23 ls (vI (0) :: st) h Q := tA_pure mB_X10_isComing dX10_isComing_22 rfl
theorem rX10_isComing_23 : tA sc iX10_isComing 23 ls [vI x] h Q = ((x = 0 ∨ x = 1) ∧ Q (some (vI x)) h) := tA_retz mB_X10_isComing dX10_isComing_23 rfl
theorem mB_X10_isWeather : mB iX10_isWeather = cX10_isWeather := rfl
theorem mO_X10_isWeather : mO iX10_isWeather = 10 := rfl
theorem rX10_isWeather_0 : tA sc iX10_isWeather 0 [vI x] st h Q = tA sc iX10_isWeather 1 [vI x] (vI x :: st) h Q := tA_pure mB_X10_isWeather dX10_isWeather_0 rfl
theorem rX10_isWeather_1 : tA sc iX10_isWeather 1 ls (vI x :: st) h Q = (if x < 0 then tA sc iX10_isWeather 13 ls st h Q else tA sc iX10_isWeather 4 ls st h Q) := tA_if mB_X10_isWeather dX10_isWeather_1 (fun _ _ _ _ => rfl) rfl
theorem rX10_isWeather_4 : tA sc iX10_isWeather 4 [vI x] st h Q = tA sc iX10_isWeather 5 [vI x] (vI x :: st) h Q := tA_pure mB_X10_isWeather dX10_isWeather_4 rfl
theorem rX10_isWeather_5 : tA sc iX10_isWeather 5 ls st h Q = tA sc iX10_isWeather 6 ls (vI (4) :: st) h Q := tA_pure mB_X10_isWeather dX10_isWeather_5 rfl
theorem rX10_isWeather_6 : tA sc iX10_isWeather 6 ls (vI y :: vI x :: st) h Q = (if y ≤ x then tA sc iX10_isWeather 13 ls st h Q else tA sc iX10_isWeather 9 ls st h Q) := tA_if mB_X10_isWeather dX10_isWeather_6 (fun _ _ _ _ => rfl) rfl
theorem rX10_isWeather_9 : tA sc iX10_isWeather 9 ls st h Q = tA sc iX10_isWeather 10 ls (vI (1) :: st) h Q := tA_pure mB_X10_isWeather dX10_isWeather_9 rfl
theorem rX10_isWeather_10 : tA sc iX10_isWeather 10 ls st h Q = tA sc iX10_isWeather 14 ls st h Q := tA_jump mB_X10_isWeather dX10_isWeather_10 (fun _ _ _ _ => rfl) rfl
theorem rX10_isWeather_13 : tA sc iX10_isWeather 13 ls st h Q = tA sc iX10_isWeather 14 ls (vI (0) :: st) h Q := tA_pure mB_X10_isWeather dX10_isWeather_13 rfl
theorem rX10_isWeather_14 : tA sc iX10_isWeather 14 ls [vI x] h Q = ((x = 0 ∨ x = 1) ∧ Q (some (vI x)) h) := tA_retz mB_X10_isWeather dX10_isWeather_14 rfl
theorem mB_X10_isKind : mB iX10_isKind = cX10_isKind := rfl
theorem mO_X10_isKind : mO iX10_isKind = 10 := rfl
theorem rX10_isKind_0 : tA sc iX10_isKind 0 [vI x] st h Q = tA sc iX10_isKind 1 [vI x] (vI x :: st) h Q := tA_pure mB_X10_isKind dX10_isKind_0 rfl
theorem rX10_isKind_1 : tA sc iX10_isKind 1 ls (vI x :: st) h Q = (if x < 0 then tA sc iX10_isKind 14 ls st h Q else tA sc iX10_isKind 4 ls st h Q) := tA_if mB_X10_isKind dX10_isKind_1 (fun _ _ _ _ => rfl) rfl
theorem rX10_isKind_4 : tA sc iX10_isKind 4 [vI x] st h Q = tA sc iX10_isKind 5 [vI x] (vI x :: st) h Q := tA_pure mB_X10_isKind dX10_isKind_4 rfl
theorem rX10_isKind_5 : tA sc iX10_isKind 5 ls st h Q = tA sc iX10_isKind 7 ls (vI (6) :: st) h Q := tA_pure mB_X10_isKind dX10_isKind_5 rfl
theorem rX10_isKind_7 : tA sc iX10_isKind 7 ls (vI y :: vI x :: st) h Q = (if y ≤ x then tA sc iX10_isKind 14 ls st h Q else tA sc iX10_isKind 10 ls st h Q) := tA_if mB_X10_isKind dX10_isKind_7 (fun _ _ _ _ => rfl) rfl
theorem rX10_isKind_10 : tA sc iX10_isKind 10 ls st h Q = tA sc iX10_isKind 11 ls (vI (1) :: st) h Q := tA_pure mB_X10_isKind dX10_isKind_10 rfl
theorem rX10_isKind_11 : tA sc iX10_isKind 11 ls st h Q = tA sc iX10_isKind 15 ls st h Q := tA_jump mB_X10_isKind dX10_isKind_11 (fun _ _ _ _ => rfl) rfl
theorem rX10_isKind_14 : tA sc iX10_isKind 14 ls st h Q = tA sc iX10_isKind 15 ls (vI (0) :: st) h Q := tA_pure mB_X10_isKind dX10_isKind_14 rfl
theorem rX10_isKind_15 : tA sc iX10_isKind 15 ls [vI x] h Q = ((x = 0 ∨ x = 1) ∧ Q (some (vI x)) h) := tA_retz mB_X10_isKind dX10_isKind_15 rfl
theorem mB_X10_isA : mB iX10_isA = cX10_isA := rfl
theorem mO_X10_isA : mO iX10_isA = 10 := rfl
theorem rX10_isA_0 : tA sc iX10_isA 0 [vI x] st h Q = tA sc iX10_isA 1 [vI x] (vI x :: st) h Q := tA_pure mB_X10_isA dX10_isA_0 rfl
theorem rX10_isA_1 : tA sc iX10_isA 1 ls (vI x :: st) h Q = (if x < 0 then tA sc iX10_isA 14 ls st h Q else tA sc iX10_isA 4 ls st h Q) := tA_if mB_X10_isA dX10_isA_1 (fun _ _ _ _ => rfl) rfl
theorem rX10_isA_4 : tA sc iX10_isA 4 [vI x] st h Q = tA sc iX10_isA 5 [vI x] (vI x :: st) h Q := tA_pure mB_X10_isA dX10_isA_4 rfl
theorem rX10_isA_5 : tA sc iX10_isA 5 ls st h Q = tA sc iX10_isA 7 ls (vI (9) :: st) h Q := tA_pure mB_X10_isA dX10_isA_5 rfl
theorem rX10_isA_7 : tA sc iX10_isA 7 ls (vI y :: vI x :: st) h Q = (if y < x then tA sc iX10_isA 14 ls st h Q else tA sc iX10_isA 10 ls st h Q) := tA_if mB_X10_isA dX10_isA_7 (fun _ _ _ _ => rfl) rfl
theorem rX10_isA_10 : tA sc iX10_isA 10 ls st h Q = tA sc iX10_isA 11 ls (vI (1) :: st) h Q := tA_pure mB_X10_isA dX10_isA_10 rfl
theorem rX10_isA_11 : tA sc iX10_isA 11 ls st h Q = tA sc iX10_isA 15 ls st h Q := tA_jump mB_X10_isA dX10_isA_11 (fun _ _ _ _ => rfl) rfl
theorem rX10_isA_14 : tA sc iX10_isA 14 ls st h Q = tA sc iX10_isA 15 ls (vI (0) :: st) h Q := tA_pure mB_X10_isA dX10_isA_14 rfl
theorem rX10_isA_15 : tA sc iX10_isA 15 ls [vI x] h Q = ((x = 0 ∨ x = 1) ∧ Q (some (vI x)) h) := tA_retz mB_X10_isA dX10_isA_15 rfl
theorem mB_X10_isPart : mB iX10_isPart = cX10_isPart := rfl
theorem mO_X10_isPart : mO iX10_isPart = 10 := rfl
theorem rX10_isPart_0 : tA sc iX10_isPart 0 [vI x] st h Q = tA sc iX10_isPart 1 [vI x] (vI x :: st) h Q := tA_pure mB_X10_isPart dX10_isPart_0 rfl
theorem rX10_isPart_1 : tA sc iX10_isPart 1 ls (vI x :: st) h Q = (if x = 0 then tA sc iX10_isPart 9 ls st h Q else tA sc iX10_isPart 4 ls st h Q) := tA_if mB_X10_isPart dX10_isPart_1 (fun _ _ _ _ => rfl) rfl
theorem rX10_isPart_4 : tA sc iX10_isPart 4 [vI x] st h Q = tA sc iX10_isPart 5 [vI x] (vI x :: st) h Q := tA_pure mB_X10_isPart dX10_isPart_4 rfl
theorem rX10_isPart_5 : tA sc iX10_isPart 5 ls st h Q = tA sc iX10_isPart 6 ls (vI (1) :: st) h Q := tA_pure mB_X10_isPart dX10_isPart_5 rfl
theorem rX10_isPart_6 : tA sc iX10_isPart 6 ls (vI y :: vI x :: st) h Q = (if ¬ x = y then tA sc iX10_isPart 13 ls st h Q else tA sc iX10_isPart 9 ls st h Q) := tA_if mB_X10_isPart dX10_isPart_6 (fun _ _ _ _ => rfl) rfl
theorem rX10_isPart_9 : tA sc iX10_isPart 9 ls st h Q = tA sc iX10_isPart 10 ls (vI (1) :: st) h Q := tA_pure mB_X10_isPart dX10_isPart_9 rfl
theorem rX10_isPart_10 : tA sc iX10_isPart 10 ls st h Q = tA sc iX10_isPart 14 ls st h Q := tA_jump mB_X10_isPart dX10_isPart_10 (fun _ _ _ _ => rfl) rfl
theorem rX10_isPart_13 : tA sc iX10_isPart 13 ls st h Q = tA sc iX10_isPart 14 ls (vI (0) :: st) h Q := tA_pure mB_X10_isPart dX10_isPart_13 rfl
theorem rX10_isPart_14 : tA sc iX10_isPart 14 ls [vI x] h Q = ((x = 0 ∨ x = 1) ∧ Q (some (vI x)) h) := tA_retz mB_X10_isPart dX10_isPart_14 rfl
theorem mB_X10_isSheet : mB iX10_isSheet = cX10_isSheet := rfl
theorem mO_X10_isSheet : mO iX10_isSheet = 10 := rfl
theorem rX10_isSheet_0 : tA sc iX10_isSheet 0 [vI x] st h Q = tA sc iX10_isSheet 1 [vI x] (vI x :: st) h Q := tA_pure mB_X10_isSheet dX10_isSheet_0 rfl
theorem rX10_isSheet_1 : tA sc iX10_isSheet 1 ls (vI x :: st) h Q = (if x < 0 then tA sc iX10_isSheet 13 ls st h Q else tA sc iX10_isSheet 4 ls st h Q) := tA_if mB_X10_isSheet dX10_isSheet_1 (fun _ _ _ _ => rfl) rfl
theorem rX10_isSheet_4 : tA sc iX10_isSheet 4 [vI x] st h Q = tA sc iX10_isSheet 5 [vI x] (vI x :: st) h Q := tA_pure mB_X10_isSheet dX10_isSheet_4 rfl
theorem rX10_isSheet_5 : tA sc iX10_isSheet 5 ls st h Q = tA sc iX10_isSheet 6 ls (vI (4) :: st) h Q := tA_pure mB_X10_isSheet dX10_isSheet_5 rfl
theorem rX10_isSheet_6 : tA sc iX10_isSheet 6 ls (vI y :: vI x :: st) h Q = (if y ≤ x then tA sc iX10_isSheet 13 ls st h Q else tA sc iX10_isSheet 9 ls st h Q) := tA_if mB_X10_isSheet dX10_isSheet_6 (fun _ _ _ _ => rfl) rfl
theorem rX10_isSheet_9 : tA sc iX10_isSheet 9 ls st h Q = tA sc iX10_isSheet 10 ls (vI (1) :: st) h Q := tA_pure mB_X10_isSheet dX10_isSheet_9 rfl
theorem rX10_isSheet_10 : tA sc iX10_isSheet 10 ls st h Q = tA sc iX10_isSheet 14 ls st h Q := tA_jump mB_X10_isSheet dX10_isSheet_10 (fun _ _ _ _ => rfl) rfl
theorem rX10_isSheet_13 : tA sc iX10_isSheet 13 ls st h Q = tA sc iX10_isSheet 14 ls (vI (0) :: st) h Q := tA_pure mB_X10_isSheet dX10_isSheet_13 rfl
theorem rX10_isSheet_14 : tA sc iX10_isSheet 14 ls [vI x] h Q = ((x = 0 ∨ x = 1) ∧ Q (some (vI x)) h) := tA_retz mB_X10_isSheet dX10_isSheet_14 rfl
theorem mB_X10_isShelf : mB iX10_isShelf = cX10_isShelf := rfl
theorem mO_X10_isShelf : mO iX10_isShelf = 10 := rfl
theorem rX10_isShelf_0 : tA sc iX10_isShelf 0 [vI x] st h Q = tA sc iX10_isShelf 1 [vI x] (vI x :: st) h Q := tA_pure mB_X10_isShelf dX10_isShelf_0 rfl
theorem rX10_isShelf_1 : tA sc iX10_isShelf 1 ls (vI x :: st) h Q = (if x < 0 then tA sc iX10_isShelf 13 ls st h Q else tA sc iX10_isShelf 4 ls st h Q) := tA_if mB_X10_isShelf dX10_isShelf_1 (fun _ _ _ _ => rfl) rfl
theorem rX10_isShelf_4 : tA sc iX10_isShelf 4 [vI x] st h Q = tA sc iX10_isShelf 5 [vI x] (vI x :: st) h Q := tA_pure mB_X10_isShelf dX10_isShelf_4 rfl
theorem rX10_isShelf_5 : tA sc iX10_isShelf 5 ls st h Q = tA sc iX10_isShelf 6 ls (vI (4) :: st) h Q := tA_pure mB_X10_isShelf dX10_isShelf_5 rfl
theorem rX10_isShelf_6 : tA sc iX10_isShelf 6 ls (vI y :: vI x :: st) h Q = (if y ≤ x then tA sc iX10_isShelf 13 ls st h Q else tA sc iX10_isShelf 9 ls st h Q) := tA_if mB_X10_isShelf dX10_isShelf_6 (fun _ _ _ _ => rfl) rfl
theorem rX10_isShelf_9 : tA sc iX10_isShelf 9 ls st h Q = tA sc iX10_isShelf 10 ls (vI (1) :: st) h Q := tA_pure mB_X10_isShelf dX10_isShelf_9 rfl
theorem rX10_isShelf_10 : tA sc iX10_isShelf 10 ls st h Q = tA sc iX10_isShelf 14 ls st h Q := tA_jump mB_X10_isShelf dX10_isShelf_10 (fun _ _ _ _ => rfl) rfl
theorem rX10_isShelf_13 : tA sc iX10_isShelf 13 ls st h Q = tA sc iX10_isShelf 14 ls (vI (0) :: st) h Q := tA_pure mB_X10_isShelf dX10_isShelf_13 rfl
theorem rX10_isShelf_14 : tA sc iX10_isShelf 14 ls [vI x] h Q = ((x = 0 ∨ x = 1) ∧ Q (some (vI x)) h) := tA_retz mB_X10_isShelf dX10_isShelf_14 rfl
theorem mB_X10_isInRow : mB iX10_isInRow = cX10_isInRow := rfl
theorem mO_X10_isInRow : mO iX10_isInRow = 10 := rfl
theorem rX10_isInRow_0 : tA sc iX10_isInRow 0 [l0, vI x, l2] st h Q = tA sc iX10_isInRow 1 [l0, vI x, l2] (vI x :: st) h Q := tA_pure mB_X10_isInRow dX10_isInRow_0 rfl
theorem rX10_isInRow_1 : tA sc iX10_isInRow 1 ls (vI x :: st) h Q = (if x < 0 then tA sc iX10_isInRow 25 ls st h Q else tA sc iX10_isInRow 4 ls st h Q) := tA_if mB_X10_isInRow dX10_isInRow_1 (fun _ _ _ _ => rfl) rfl
theorem rX10_isInRow_4 : tA sc iX10_isInRow 4 [l0, vI x, l2] st h Q = tA sc iX10_isInRow 5 [l0, vI x, l2] (vI x :: st) h Q := tA_pure mB_X10_isInRow dX10_isInRow_4 rfl
theorem rX10_isInRow_5 : tA sc iX10_isInRow 5 [vR r, l1, l2] st h Q = tA sc iX10_isInRow 6 [vR r, l1, l2] (vR r :: st) h Q := tA_pure mB_X10_isInRow dX10_isInRow_5 rfl
theorem rX10_isInRow_6 : tA sc iX10_isInRow 6 ls (vR (some o) :: st) h Q = oz (tget h o [10] 6) (fun v => tA sc iX10_isInRow 9 ls (v :: st) h Q) := tA_get mB_X10_isInRow mO_X10_isInRow dX10_isInRow_6 fT_10_71
theorem rX10_isInRow_9 : tA sc iX10_isInRow 9 ls (vI y :: vI x :: st) h Q = (if y ≤ x then tA sc iX10_isInRow 25 ls st h Q else tA sc iX10_isInRow 12 ls st h Q) := tA_if mB_X10_isInRow dX10_isInRow_9 (fun _ _ _ _ => rfl) rfl
theorem rX10_isInRow_12 : tA sc iX10_isInRow 12 [l0, l1, vI x] st h Q = tA sc iX10_isInRow 13 [l0, l1, vI x] (vI x :: st) h Q := tA_pure mB_X10_isInRow dX10_isInRow_12 rfl
theorem rX10_isInRow_13 : tA sc iX10_isInRow 13 ls (vI x :: st) h Q = (if x < 0 then tA sc iX10_isInRow 25 ls st h Q else tA sc iX10_isInRow 16 ls st h Q) := tA_if mB_X10_isInRow dX10_isInRow_13 (fun _ _ _ _ => rfl) rfl
theorem rX10_isInRow_16 : tA sc iX10_isInRow 16 [l0, l1, vI x] st h Q = tA sc iX10_isInRow 17 [l0, l1, vI x] (vI x :: st) h Q := tA_pure mB_X10_isInRow dX10_isInRow_16 rfl
theorem rX10_isInRow_17 : tA sc iX10_isInRow 17 ls st h Q = tA sc iX10_isInRow 18 ls (vI (3) :: st) h Q := tA_pure mB_X10_isInRow dX10_isInRow_17 rfl
theorem rX10_isInRow_18 : tA sc iX10_isInRow 18 ls (vI y :: vI x :: st) h Q = (if y ≤ x then tA sc iX10_isInRow 25 ls st h Q else tA sc iX10_isInRow 21 ls st h Q) := tA_if mB_X10_isInRow dX10_isInRow_18 (fun _ _ _ _ => rfl) rfl
theorem rX10_isInRow_21 : tA sc iX10_isInRow 21 ls st h Q = tA sc iX10_isInRow 22 ls (vI (1) :: st) h Q := tA_pure mB_X10_isInRow dX10_isInRow_21 rfl
theorem rX10_isInRow_22 : tA sc iX10_isInRow 22 ls st h Q = tA sc iX10_isInRow 26 ls st h Q := tA_jump mB_X10_isInRow dX10_isInRow_22 (fun _ _ _ _ => rfl) rfl
theorem rX10_isInRow_25 : tA sc iX10_isInRow 25 ls st h Q = tA sc iX10_isInRow 26 ls (vI (0) :: st) h Q := tA_pure mB_X10_isInRow dX10_isInRow_25 rfl
theorem rX10_isInRow_26 : tA sc iX10_isInRow 26 ls [vI x] h Q = ((x = 0 ∨ x = 1) ∧ Q (some (vI x)) h) := tA_retz mB_X10_isInRow dX10_isInRow_26 rfl
theorem mB_X10_orNotYet : mB iX10_orNotYet = cX10_orNotYet := rfl
theorem mO_X10_orNotYet : mO iX10_orNotYet = 10 := rfl
theorem rX10_orNotYet_0 : tA sc iX10_orNotYet 0 [vI x] st h Q = tA sc iX10_orNotYet 1 [vI x] (vI x :: st) h Q := tA_pure mB_X10_orNotYet dX10_orNotYet_0 rfl
theorem rX10_orNotYet_1 : tA sc iX10_orNotYet 1 ls (vI x :: st) h Q = (if 0 ≤ x then tA sc iX10_orNotYet 9 ls st h Q else tA sc iX10_orNotYet 4 ls st h Q) := tA_if mB_X10_orNotYet dX10_orNotYet_1 (fun _ _ _ _ => rfl) rfl
theorem rX10_orNotYet_4 : tA sc iX10_orNotYet 4 ls st h Q = tA sc iX10_orNotYet 6 ls (vI (-9) :: st) h Q := tA_pure mB_X10_orNotYet dX10_orNotYet_4 rfl
theorem rX10_orNotYet_6 : tA sc iX10_orNotYet 6 ls st h Q = tA sc iX10_orNotYet 10 ls st h Q := tA_jump mB_X10_orNotYet dX10_orNotYet_6 (fun _ _ _ _ => rfl) rfl
theorem rX10_orNotYet_9 : tA sc iX10_orNotYet 9 [vI x] st h Q = tA sc iX10_orNotYet 10 [vI x] (vI x :: st) h Q := tA_pure mB_X10_orNotYet dX10_orNotYet_9 rfl
theorem rX10_orNotYet_10 : tA sc iX10_orNotYet 10 ls [vI x] h Q = Q (some (vI x)) h := tA_ret mB_X10_orNotYet dX10_orNotYet_10 (fun _ _ _ _ => rfl) (fun _ _ _ => rfl) (fun _ _ _ _ _ => rfl) rfl rfl
theorem mB_X10_partOf : mB iX10_partOf = cX10_partOf := rfl
theorem mO_X10_partOf : mO iX10_partOf = 10 := rfl
theorem rX10_partOf_0 : tA sc iX10_partOf 0 [vL u, l1, l2, l3, l4, l5, l6] st h Q = tA sc iX10_partOf 1 [vL u, l1, l2, l3, l4, l5, l6] (vL u :: st) h Q := tA_pure mB_X10_partOf dX10_partOf_0 rfl
theorem rX10_partOf_1 : tA sc iX10_partOf 1 ls [vL q0] h Q = tA sc iX10_partOf 4 ls (vL (if 0 < q0 then q0 else -q0) :: []) h Q := tA_cN mB_X10_partOf mO_X10_partOf dX10_partOf_1 (fun _ _ _ _ => rfl) (fun _ _ _ => rfl) (fun _ _ _ _ _ => rfl) rfl cT_10_319 rfl rfl
theorem rX10_partOf_4 : tA sc iX10_partOf 4 [l0, l1, vL u, l3, l4, l5, l6] st h Q = tA sc iX10_partOf 5 [l0, l1, vL u, l3, l4, l5, l6] (vL u :: st) h Q := tA_pure mB_X10_partOf dX10_partOf_4 rfl
theorem rX10_partOf_5 : tA sc iX10_partOf 5 ls [vL q1, vL q0] h Q = tA sc iX10_commonDivisor 0 [vL q0, vU, vL q1, vU, vU, vU, vU, vU, vU, vU, vU] [] h (fun v h1 => tA sc iX10_partOf 8 ls (tpu v []) h1 Q) := tA_cS mB_X10_partOf mO_X10_partOf dX10_partOf_5 cT_10_323 ⟨Nat.le_of_ble_eq_true rfl, Nat.le_of_ble_eq_true rfl⟩ rfl rfl rfl rfl
theorem rX10_partOf_8 : tA sc iX10_partOf 8 [l0, l1, l2, l3, l4, l5, l6] (vL u :: st) h Q = tA sc iX10_partOf 10 [l0, l1, l2, l3, tclr l4, vL u, vU] st h Q := tA_pure mB_X10_partOf dX10_partOf_8 rfl
theorem rX10_partOf_10 : tA sc iX10_partOf 10 [l0, l1, l2, l3, l4, vL u, l6] st h Q = tA sc iX10_partOf 12 [l0, l1, l2, l3, l4, vL u, l6] (vL u :: st) h Q := tA_pure mB_X10_partOf dX10_partOf_10 rfl
theorem rX10_partOf_12 : tA sc iX10_partOf 12 ls st h Q = tA sc iX10_partOf 13 ls (vL 0 :: st) h Q := tA_pure mB_X10_partOf dX10_partOf_12 rfl
theorem rX10_partOf_13 : tA sc iX10_partOf 13 ls (vL w :: vL u :: st) h Q = tA sc iX10_partOf 14 ls (vI (lg_cmp u w) :: st) h Q := tA_pure mB_X10_partOf dX10_partOf_13 rfl
theorem rX10_partOf_14 : tA sc iX10_partOf 14 ls (vI x :: st) h Q = (if ¬ x = 0 then tA sc iX10_partOf 21 ls st h Q else tA sc iX10_partOf 17 ls st h Q) := tA_if mB_X10_partOf dX10_partOf_14 (fun _ _ _ _ => rfl) rfl
theorem rX10_partOf_17 : tA sc iX10_partOf 17 [l0, l1, l2, l3, vI x, l5, l6] st h Q = tA sc iX10_partOf 19 [l0, l1, l2, l3, vI x, l5, l6] (vI x :: st) h Q := tA_pure mB_X10_partOf dX10_partOf_17 rfl
theorem rX10_partOf_19 : tA sc iX10_partOf 19 ls (vI x :: st) h Q = tA sc iX10_partOf 20 ls (vL x.toInt64 :: st) h Q := tA_pure mB_X10_partOf dX10_partOf_19 rfl
theorem rX10_partOf_20 : tA sc iX10_partOf 20 ls [vL u] h Q = Q (some (vL u)) h := tA_ret mB_X10_partOf dX10_partOf_20 (fun _ _ _ _ => rfl) (fun _ _ _ => rfl) (fun _ _ _ _ _ => rfl) rfl rfl
theorem rX10_partOf_21 : tA sc iX10_partOf 21 [l0, l1, l2, l3, vI x, l5, l6] st h Q = tA sc iX10_partOf 23 [l0, l1, l2, l3, vI x, l5, l6] (vI x :: st) h Q := tA_pure mB_X10_partOf dX10_partOf_21 rfl
theorem rX10_partOf_23 : tA sc iX10_partOf 23 ls (vI x :: st) h Q = (if ¬ x = 0 then tA sc iX10_partOf 30 ls st h Q else tA sc iX10_partOf 26 ls st h Q) := tA_if mB_X10_partOf dX10_partOf_23 (fun _ _ _ _ => rfl) rfl
theorem rX10_partOf_26 : tA sc iX10_partOf 26 [vL u, l1, l2, l3, l4, l5, l6] st h Q = tA sc iX10_partOf 27 [vL u, l1, l2, l3, l4, l5, l6] (vL u :: st) h Q := tA_pure mB_X10_partOf dX10_partOf_26 rfl
theorem rX10_partOf_27 : tA sc iX10_partOf 27 ls st h Q = tA sc iX10_partOf 31 ls st h Q := tA_jump mB_X10_partOf dX10_partOf_27 (fun _ _ _ _ => rfl) rfl
theorem rX10_partOf_30 : tA sc iX10_partOf 30 [l0, l1, vL u, l3, l4, l5, l6] st h Q = tA sc iX10_partOf 31 [l0, l1, vL u, l3, l4, l5, l6] (vL u :: st) h Q := tA_pure mB_X10_partOf dX10_partOf_30 rfl
theorem rX10_partOf_31 : tA sc iX10_partOf 31 [l0, l1, l2, l3, l4, vL u, l6] st h Q = tA sc iX10_partOf 33 [l0, l1, l2, l3, l4, vL u, l6] (vL u :: st) h Q := tA_pure mB_X10_partOf dX10_partOf_31 rfl
theorem rX10_partOf_33 : tA sc iX10_partOf 33 ls (vL w :: vL u :: st) h Q = (¬ w = 0 ∧ tA sc iX10_partOf 34 ls (vL (u / w) :: st) h Q) := tA_divl mB_X10_partOf dX10_partOf_33 (fun _ _ _ => rfl) (fun _ _ _ _ _ => rfl) rfl (fun _ _ => rfl) rfl
theorem rX10_partOf_34 : tA sc iX10_partOf 34 ls [vL u] h Q = Q (some (vL u)) h := tA_ret mB_X10_partOf dX10_partOf_34 (fun _ _ _ _ => rfl) (fun _ _ _ => rfl) (fun _ _ _ _ _ => rfl) rfl rfl
theorem mB_X10_commonDivisor : mB iX10_commonDivisor = cX10_commonDivisor := rfl
theorem mO_X10_commonDivisor : mO iX10_commonDivisor = 10 := rfl
theorem rX10_commonDivisor_0 : tA sc iX10_commonDivisor 0 [vL u, l1, l2, l3, l4, l5, l6, l7, l8, l9, l10] st h Q = tA sc iX10_commonDivisor 1 [vL u, l1, l2, l3, l4, l5, l6, l7, l8, l9, l10] (vL u :: st) h Q := tA_pure mB_X10_commonDivisor dX10_commonDivisor_0 rfl
theorem rX10_commonDivisor_1 : tA sc iX10_commonDivisor 1 [l0, l1, l2, l3, l4, l5, l6, l7, l8, l9, l10] (vL u :: st) h Q = tA sc iX10_commonDivisor 3 [l0, l1, l2, tclr l3, vL u, vU, l6, l7, l8, l9, l10] st h Q := tA_pure mB_X10_commonDivisor dX10_commonDivisor_1 rfl
theorem rX10_commonDivisor_3 : tA sc iX10_commonDivisor 3 [l0, l1, vL u, l3, l4, l5, l6, l7, l8, l9, l10] st h Q = tA sc iX10_commonDivisor 4 [l0, l1, vL u, l3, l4, l5, l6, l7, l8, l9, l10] (vL u :: st) h Q := tA_pure mB_X10_commonDivisor dX10_commonDivisor_3 rfl
theorem rX10_commonDivisor_4 : tA sc iX10_commonDivisor 4 [l0, l1, l2, l3, l4, l5, l6, l7, l8, l9, l10] (vL u :: st) h Q = tA sc iX10_commonDivisor 6 [l0, l1, l2, l3, l4, tclr l5, vL u, vU, l8, l9, l10] st h Q := tA_pure mB_X10_commonDivisor dX10_commonDivisor_4 rfl
theorem rX10_commonDivisor_6 : tA sc iX10_commonDivisor 6 ls st h Q = tA sc iX10_commonDivisor 7 ls (vI (0) :: st) h Q := tA_pure mB_X10_commonDivisor dX10_commonDivisor_6 rfl
theorem rX10_commonDivisor_7 : tA sc iX10_commonDivisor 7 [l0, l1, l2, l3, l4, l5, l6, l7, l8, l9, l10] (vI x :: st) h Q = tA sc iX10_commonDivisor 9 [l0, l1, l2, l3, l4, l5, l6, tclr l7, vI x, l9, l10] st h Q := tA_pure mB_X10_commonDivisor dX10_commonDivisor_7 rfl
theorem rX10_commonDivisor_9 : tA sc iX10_commonDivisor 9 [l0, l1, l2, l3, l4, l5, l6, l7, vI x, l9, l10] st h Q = tA sc iX10_commonDivisor 11 [l0, l1, l2, l3, l4, l5, l6, l7, vI x, l9, l10] (vI x :: st) h Q := tA_pure mB_X10_commonDivisor dX10_commonDivisor_9 rfl
theorem rX10_commonDivisor_11 : tA sc iX10_commonDivisor 11 ls st h Q = tA sc iX10_commonDivisor 13 ls (vI (100) :: st) h Q := tA_pure mB_X10_commonDivisor dX10_commonDivisor_11 rfl
theorem rX10_commonDivisor_13 : tA sc iX10_commonDivisor 13 ls (vI y :: vI x :: st) h Q = (if y ≤ x then tA sc iX10_commonDivisor 44 ls st h Q else tA sc iX10_commonDivisor 16 ls st h Q) := tA_if mB_X10_commonDivisor dX10_commonDivisor_13 (fun _ _ _ _ => rfl) rfl
theorem rX10_commonDivisor_16 : tA sc iX10_commonDivisor 16 [l0, l1, l2, l3, l4, l5, vL u, l7, l8, l9, l10] st h Q = tA sc iX10_commonDivisor 18 [l0, l1, l2, l3, l4, l5, vL u, l7, l8, l9, l10] (vL u :: st) h Q := tA_pure mB_X10_commonDivisor dX10_commonDivisor_16 rfl
theorem rX10_commonDivisor_18 : tA sc iX10_commonDivisor 18 ls st h Q = tA sc iX10_commonDivisor 19 ls (vL 0 :: st) h Q := tA_pure mB_X10_commonDivisor dX10_commonDivisor_18 rfl
theorem rX10_commonDivisor_19 : tA sc iX10_commonDivisor 19 ls (vL w :: vL u :: st) h Q = tA sc iX10_commonDivisor 20 ls (vI (lg_cmp u w) :: st) h Q := tA_pure mB_X10_commonDivisor dX10_commonDivisor_19 rfl
theorem rX10_commonDivisor_20 : tA sc iX10_commonDivisor 20 ls (vI x :: st) h Q = (if x = 0 then tA sc iX10_commonDivisor 44 ls st h Q else tA sc iX10_commonDivisor 23 ls st h Q) := tA_if mB_X10_commonDivisor dX10_commonDivisor_20 (fun _ _ _ _ => rfl) rfl
theorem rX10_commonDivisor_23 : tA sc iX10_commonDivisor 23 [l0, l1, l2, l3, vL u, l5, l6, l7, l8, l9, l10] st h Q = tA sc iX10_commonDivisor 25 [l0, l1, l2, l3, vL u, l5, l6, l7, l8, l9, l10] (vL u :: st) h Q := tA_pure mB_X10_commonDivisor dX10_commonDivisor_23 rfl
theorem rX10_commonDivisor_25 : tA sc iX10_commonDivisor 25 [l0, l1, l2, l3, l4, l5, vL u, l7, l8, l9, l10] st h Q = tA sc iX10_commonDivisor 27 [l0, l1, l2, l3, l4, l5, vL u, l7, l8, l9, l10] (vL u :: st) h Q := tA_pure mB_X10_commonDivisor dX10_commonDivisor_25 rfl
theorem rX10_commonDivisor_27 : tA sc iX10_commonDivisor 27 ls (vL w :: vL u :: st) h Q = (¬ w = 0 ∧ tA sc iX10_commonDivisor 28 ls (vL (u - u / w * w) :: st) h Q) := tA_divl mB_X10_commonDivisor dX10_commonDivisor_27 (fun _ _ _ => rfl) (fun _ _ _ _ _ => rfl) rfl (fun _ _ => rfl) rfl
theorem rX10_commonDivisor_28 : tA sc iX10_commonDivisor 28 [l0, l1, l2, l3, l4, l5, l6, l7, l8, l9, l10] (vL u :: st) h Q = tA sc iX10_commonDivisor 30 [l0, l1, l2, l3, l4, l5, l6, l7, tclr l8, vL u, vU] st h Q := tA_pure mB_X10_commonDivisor dX10_commonDivisor_28 rfl
theorem rX10_commonDivisor_30 : tA sc iX10_commonDivisor 30 [l0, l1, l2, l3, l4, l5, vL u, l7, l8, l9, l10] st h Q = tA sc iX10_commonDivisor 32 [l0, l1, l2, l3, l4, l5, vL u, l7, l8, l9, l10] (vL u :: st) h Q := tA_pure mB_X10_commonDivisor dX10_commonDivisor_30 rfl
theorem rX10_commonDivisor_32 : tA sc iX10_commonDivisor 32 [l0, l1, l2, l3, l4, l5, l6, l7, l8, l9, l10] (vL u :: st) h Q = tA sc iX10_commonDivisor 34 [l0, l1, l2, tclr l3, vL u, vU, l6, l7, l8, l9, l10] st h Q := tA_pure mB_X10_commonDivisor dX10_commonDivisor_32 rfl
theorem rX10_commonDivisor_34 : tA sc iX10_commonDivisor 34 [l0, l1, l2, l3, l4, l5, l6, l7, l8, vL u, l10] st h Q = tA sc iX10_commonDivisor 36 [l0, l1, l2, l3, l4, l5, l6, l7, l8, vL u, l10] (vL u :: st) h Q := tA_pure mB_X10_commonDivisor dX10_commonDivisor_34 rfl
theorem rX10_commonDivisor_36 : tA sc iX10_commonDivisor 36 [l0, l1, l2, l3, l4, l5, l6, l7, l8, l9, l10] (vL u :: st) h Q = tA sc iX10_commonDivisor 38 [l0, l1, l2, l3, l4, tclr l5, vL u, vU, l8, l9, l10] st h Q := tA_pure mB_X10_commonDivisor dX10_commonDivisor_36 rfl
theorem rX10_commonDivisor_38 : tA sc iX10_commonDivisor 38 [l0, l1, l2, l3, l4, l5, l6, l7, vI x, l9, l10] st h Q = tA sc iX10_commonDivisor 41 [l0, l1, l2, l3, l4, l5, l6, tclr l7, vI (x + 1), l9, l10] st h Q := tA_pure mB_X10_commonDivisor dX10_commonDivisor_38 rfl
theorem rX10_commonDivisor_41 : tA sc iX10_commonDivisor 41 ls st h Q = tA sc iX10_commonDivisor 9 ls st h Q := tA_jump mB_X10_commonDivisor dX10_commonDivisor_41 (fun _ _ _ _ => rfl) rfl
theorem rX10_commonDivisor_44 : tA sc iX10_commonDivisor 44 [l0, l1, l2, l3, vL u, l5, l6, l7, l8, l9, l10] st h Q = tA sc iX10_commonDivisor 46 [l0, l1, l2, l3, vL u, l5, l6, l7, l8, l9, l10] (vL u :: st) h Q := tA_pure mB_X10_commonDivisor dX10_commonDivisor_44 rfl
theorem rX10_commonDivisor_46 : tA sc iX10_commonDivisor 46 ls [vL u] h Q = Q (some (vL u)) h := tA_ret mB_X10_commonDivisor dX10_commonDivisor_46 (fun _ _ _ _ => rfl) (fun _ _ _ => rfl) (fun _ _ _ _ _ => rfl) rfl rfl
theorem mB_X10_isUnder : mB iX10_isUnder = cX10_isUnder := rfl
theorem mO_X10_isUnder : mO iX10_isUnder = 10 := rfl
theorem rX10_isUnder_0 : tA sc iX10_isUnder 0 [l0, vI x] st h Q = tA sc iX10_isUnder 1 [l0, vI x] (vI x :: st) h Q := tA_pure mB_X10_isUnder dX10_isUnder_0 rfl
theorem rX10_isUnder_1 : tA sc iX10_isUnder 1 ls (vI x :: st) h Q = tA sc iX10_isUnder (tswp x 0 [40, 42, 47, 52, 57, 62] 67) ls st h Q := tA_sw mB_X10_isUnder dX10_isUnder_1 rfl rfl rfl
theorem rX10_isUnder_40 : tA sc iX10_isUnder 40 ls st h Q = tA sc iX10_isUnder 41 ls (vI (1) :: st) h Q := tA_pure mB_X10_isUnder dX10_isUnder_40 rfl
theorem rX10_isUnder_41 : tA sc iX10_isUnder 41 ls [vI x] h Q = ((x = 0 ∨ x = 1) ∧ Q (some (vI x)) h) := tA_retz mB_X10_isUnder dX10_isUnder_41 rfl
theorem rX10_isUnder_42 : tA sc iX10_isUnder 42 [vR r, l1] st h Q = tA sc iX10_isUnder 43 [vR r, l1] (vR r :: st) h Q := tA_pure mB_X10_isUnder dX10_isUnder_42 rfl
theorem rX10_isUnder_43 : tA sc iX10_isUnder 43 ls (vR (some o) :: st) h Q = oz (theap sc iX10_isUnder (.instanceof 327) 3 (vR (some o) :: st) h) (fun z => tA sc iX10_isUnder 46 ls z.1 z.2 Q) := tA_hp mB_X10_isUnder dX10_isUnder_43 (fun _ _ _ _ => rfl) (fun _ _ _ => rfl) rfl (fun _ _ => rfl) rfl
theorem rX10_isUnder_46 : tA sc iX10_isUnder 46 ls [vI x] h Q = ((x = 0 ∨ x = 1) ∧ Q (some (vI x)) h) := tA_retz mB_X10_isUnder dX10_isUnder_46 rfl
theorem rX10_isUnder_47 : tA sc iX10_isUnder 47 [vR r, l1] st h Q = tA sc iX10_isUnder 48 [vR r, l1] (vR r :: st) h Q := tA_pure mB_X10_isUnder dX10_isUnder_47 rfl
theorem rX10_isUnder_48 : tA sc iX10_isUnder 48 ls (vR (some o) :: st) h Q = oz (theap sc iX10_isUnder (.instanceof 329) 3 (vR (some o) :: st) h) (fun z => tA sc iX10_isUnder 51 ls z.1 z.2 Q) := tA_hp mB_X10_isUnder dX10_isUnder_48 (fun _ _ _ _ => rfl) (fun _ _ _ => rfl) rfl (fun _ _ => rfl) rfl
theorem rX10_isUnder_51 : tA sc iX10_isUnder 51 ls [vI x] h Q = ((x = 0 ∨ x = 1) ∧ Q (some (vI x)) h) := tA_retz mB_X10_isUnder dX10_isUnder_51 rfl
theorem rX10_isUnder_52 : tA sc iX10_isUnder 52 [vR r, l1] st h Q = tA sc iX10_isUnder 53 [vR r, l1] (vR r :: st) h Q := tA_pure mB_X10_isUnder dX10_isUnder_52 rfl
theorem rX10_isUnder_53 : tA sc iX10_isUnder 53 ls (vR (some o) :: st) h Q = oz (theap sc iX10_isUnder (.instanceof 331) 3 (vR (some o) :: st) h) (fun z => tA sc iX10_isUnder 56 ls z.1 z.2 Q) := tA_hp mB_X10_isUnder dX10_isUnder_53 (fun _ _ _ _ => rfl) (fun _ _ _ => rfl) rfl (fun _ _ => rfl) rfl
theorem rX10_isUnder_56 : tA sc iX10_isUnder 56 ls [vI x] h Q = ((x = 0 ∨ x = 1) ∧ Q (some (vI x)) h) := tA_retz mB_X10_isUnder dX10_isUnder_56 rfl
theorem rX10_isUnder_57 : tA sc iX10_isUnder 57 [vR r, l1] st h Q = tA sc iX10_isUnder 58 [vR r, l1] (vR r :: st) h Q := tA_pure mB_X10_isUnder dX10_isUnder_57 rfl
theorem rX10_isUnder_58 : tA sc iX10_isUnder 58 ls (vR (some o) :: st) h Q = oz (theap sc iX10_isUnder (.instanceof 333) 3 (vR (some o) :: st) h) (fun z => tA sc iX10_isUnder 61 ls z.1 z.2 Q) := tA_hp mB_X10_isUnder dX10_isUnder_58 (fun _ _ _ _ => rfl) (fun _ _ _ => rfl) rfl (fun _ _ => rfl) rfl
theorem rX10_isUnder_61 : tA sc iX10_isUnder 61 ls [vI x] h Q = ((x = 0 ∨ x = 1) ∧ Q (some (vI x)) h) := tA_retz mB_X10_isUnder dX10_isUnder_61 rfl
theorem rX10_isUnder_62 : tA sc iX10_isUnder 62 [vR r, l1] st h Q = tA sc iX10_isUnder 63 [vR r, l1] (vR r :: st) h Q := tA_pure mB_X10_isUnder dX10_isUnder_62 rfl
theorem rX10_isUnder_63 : tA sc iX10_isUnder 63 ls (vR (some o) :: st) h Q = oz (theap sc iX10_isUnder (.instanceof 335) 3 (vR (some o) :: st) h) (fun z => tA sc iX10_isUnder 66 ls z.1 z.2 Q) := tA_hp mB_X10_isUnder dX10_isUnder_63 (fun _ _ _ _ => rfl) (fun _ _ _ => rfl) rfl (fun _ _ => rfl) rfl
theorem rX10_isUnder_66 : tA sc iX10_isUnder 66 ls [vI x] h Q = ((x = 0 ∨ x = 1) ∧ Q (some (vI x)) h) := tA_retz mB_X10_isUnder dX10_isUnder_66 rfl
theorem rX10_isUnder_67 : tA sc iX10_isUnder 67 ls st h Q = tA sc iX10_isUnder 68 ls (vI (0) :: st) h Q := tA_pure mB_X10_isUnder dX10_isUnder_67 rfl
theorem rX10_isUnder_68 : tA sc iX10_isUnder 68 ls [vI x] h Q = ((x = 0 ∨ x = 1) ∧ Q (some (vI x)) h) := tA_retz mB_X10_isUnder dX10_isUnder_68 rfl
theorem mB_X10_thingOf : mB iX10_thingOf = cX10_thingOf := rfl
theorem mO_X10_thingOf : mO iX10_thingOf = 10 := rfl
theorem rX10_thingOf_0 : tA sc iX10_thingOf 0 [vI x, l1, l2] st h Q = tA sc iX10_thingOf 1 [vI x, l1, l2] (vI x :: st) h Q := tA_pure mB_X10_thingOf dX10_thingOf_0 rfl
theorem rX10_thingOf_1 : tA sc iX10_thingOf 1 ls (vI x :: st) h Q = tA sc iX10_thingOf (tswp x 1 [36, 47, 58, 68, 78] 88) ls st h Q := tA_sw mB_X10_thingOf dX10_thingOf_1 rfl rfl rfl
theorem rX10_thingOf_36 : tA sc iX10_thingOf 36 ls st h Q = oz (tnew h (.inr (2, tdf 2)) 3) (fun h' => tA sc iX10_thingOf 39 ls (vR (some h.2.1) :: st) h' Q) := (tA_hp mB_X10_thingOf dX10_thingOf_36 (fun _ _ _ _ => rfl) (fun _ _ _ => rfl) rfl (fun _ _ => rfl) rfl).trans (oz_map _ _ _)
theorem rX10_thingOf_39 : tA sc iX10_thingOf 39 ls (vR r :: st) h Q = tA sc iX10_thingOf 40 ls (vR r :: vR r :: st) h Q := tA_pure mB_X10_thingOf dX10_thingOf_39 rfl
theorem rX10_thingOf_40 : tA sc iX10_thingOf 40 ls st h Q = tA sc iX10_thingOf 41 ls (vI (1) :: st) h Q := tA_pure mB_X10_thingOf dX10_thingOf_40 rfl
theorem rX10_thingOf_41 : tA sc iX10_thingOf 41 [l0, vI x, l2] st h Q = tA sc iX10_thingOf 42 [l0, vI x, l2] (vI x :: st) h Q := tA_pure mB_X10_thingOf dX10_thingOf_41 rfl
theorem rX10_thingOf_42 : tA sc iX10_thingOf 42 [l0, l1, vI x] st h Q = tA sc iX10_thingOf 43 [l0, l1, vI x] (vI x :: st) h Q := tA_pure mB_X10_thingOf dX10_thingOf_42 rfl
theorem rX10_thingOf_43 : tA sc iX10_thingOf 43 ls [vI p2, vI p1, vI p0, vR (some o), s0] h Q = tA sc iX2_init 0 [vR (some o), vI p0, vI p1, vI p2] [] h (fun v h1 => tA sc iX10_thingOf 46 ls (tpu v [s0]) h1 Q) := tA_cI mB_X10_thingOf mO_X10_thingOf dX10_thingOf_43 cT_10_337 rfl (Nat.le_of_ble_eq_true rfl) rfl rfl rfl
theorem rX10_thingOf_46 : tA sc iX10_thingOf 46 ls [vR r] h Q = Q (some (vR r)) h := tA_ret mB_X10_thingOf dX10_thingOf_46 (fun _ _ _ _ => rfl) (fun _ _ _ => rfl) (fun _ _ _ _ _ => rfl) rfl rfl
theorem rX10_thingOf_47 : tA sc iX10_thingOf 47 ls st h Q = oz (tnew h (.inr (3, tdf 3)) 3) (fun h' => tA sc iX10_thingOf 50 ls (vR (some h.2.1) :: st) h' Q) := (tA_hp mB_X10_thingOf dX10_thingOf_47 (fun _ _ _ _ => rfl) (fun _ _ _ => rfl) rfl (fun _ _ => rfl) rfl).trans (oz_map _ _ _)
theorem rX10_thingOf_50 : tA sc iX10_thingOf 50 ls (vR r :: st) h Q = tA sc iX10_thingOf 51 ls (vR r :: vR r :: st) h Q := tA_pure mB_X10_thingOf dX10_thingOf_50 rfl
theorem rX10_thingOf_51 : tA sc iX10_thingOf 51 ls st h Q = tA sc iX10_thingOf 52 ls (vI (2) :: st) h Q := tA_pure mB_X10_thingOf dX10_thingOf_51 rfl
theorem rX10_thingOf_52 : tA sc iX10_thingOf 52 [l0, vI x, l2] st h Q = tA sc iX10_thingOf 53 [l0, vI x, l2] (vI x :: st) h Q := tA_pure mB_X10_thingOf dX10_thingOf_52 rfl
theorem rX10_thingOf_53 : tA sc iX10_thingOf 53 [l0, l1, vI x] st h Q = tA sc iX10_thingOf 54 [l0, l1, vI x] (vI x :: st) h Q := tA_pure mB_X10_thingOf dX10_thingOf_53 rfl
theorem rX10_thingOf_54 : tA sc iX10_thingOf 54 ls [vI p2, vI p1, vI p0, vR (some o), s0] h Q = tA sc iX3_init 0 [vR (some o), vI p0, vI p1, vI p2] [] h (fun v h1 => tA sc iX10_thingOf 57 ls (tpu v [s0]) h1 Q) := tA_cI mB_X10_thingOf mO_X10_thingOf dX10_thingOf_54 cT_10_340 rfl (Nat.le_of_ble_eq_true rfl) rfl rfl rfl
theorem rX10_thingOf_57 : tA sc iX10_thingOf 57 ls [vR r] h Q = Q (some (vR r)) h := tA_ret mB_X10_thingOf dX10_thingOf_57 (fun _ _ _ _ => rfl) (fun _ _ _ => rfl) (fun _ _ _ _ _ => rfl) rfl rfl
theorem rX10_thingOf_58 : tA sc iX10_thingOf 58 ls st h Q = oz (tnew h (.inr (6, tdf 6)) 3) (fun h' => tA sc iX10_thingOf 61 ls (vR (some h.2.1) :: st) h' Q) := (tA_hp mB_X10_thingOf dX10_thingOf_58 (fun _ _ _ _ => rfl) (fun _ _ _ => rfl) rfl (fun _ _ => rfl) rfl).trans (oz_map _ _ _)
theorem rX10_thingOf_61 : tA sc iX10_thingOf 61 ls (vR r :: st) h Q = tA sc iX10_thingOf 62 ls (vR r :: vR r :: st) h Q := tA_pure mB_X10_thingOf dX10_thingOf_61 rfl
theorem rX10_thingOf_62 : tA sc iX10_thingOf 62 [l0, vI x, l2] st h Q = tA sc iX10_thingOf 63 [l0, vI x, l2] (vI x :: st) h Q := tA_pure mB_X10_thingOf dX10_thingOf_62 rfl
theorem rX10_thingOf_63 : tA sc iX10_thingOf 63 [l0, l1, vI x] st h Q = tA sc iX10_thingOf 64 [l0, l1, vI x] (vI x :: st) h Q := tA_pure mB_X10_thingOf dX10_thingOf_63 rfl
theorem rX10_thingOf_64 : tA sc iX10_thingOf 64 ls [vI p1, vI p0, vR (some o), s0] h Q = tA sc iX6_init 0 [vR (some o), vI p0, vI p1] [] h (fun v h1 => tA sc iX10_thingOf 67 ls (tpu v [s0]) h1 Q) := tA_cI mB_X10_thingOf mO_X10_thingOf dX10_thingOf_64 cT_10_341 rfl (Nat.le_of_ble_eq_true rfl) rfl rfl rfl
theorem rX10_thingOf_67 : tA sc iX10_thingOf 67 ls [vR r] h Q = Q (some (vR r)) h := tA_ret mB_X10_thingOf dX10_thingOf_67 (fun _ _ _ _ => rfl) (fun _ _ _ => rfl) (fun _ _ _ _ _ => rfl) rfl rfl
theorem rX10_thingOf_68 : tA sc iX10_thingOf 68 ls st h Q = oz (tnew h (.inr (0, tdf 0)) 3) (fun h' => tA sc iX10_thingOf 71 ls (vR (some h.2.1) :: st) h' Q) := (tA_hp mB_X10_thingOf dX10_thingOf_68 (fun _ _ _ _ => rfl) (fun _ _ _ => rfl) rfl (fun _ _ => rfl) rfl).trans (oz_map _ _ _)
theorem rX10_thingOf_71 : tA sc iX10_thingOf 71 ls (vR r :: st) h Q = tA sc iX10_thingOf 72 ls (vR r :: vR r :: st) h Q := tA_pure mB_X10_thingOf dX10_thingOf_71 rfl
theorem rX10_thingOf_72 : tA sc iX10_thingOf 72 [l0, vI x, l2] st h Q = tA sc iX10_thingOf 73 [l0, vI x, l2] (vI x :: st) h Q := tA_pure mB_X10_thingOf dX10_thingOf_72 rfl
theorem rX10_thingOf_73 : tA sc iX10_thingOf 73 [l0, l1, vI x] st h Q = tA sc iX10_thingOf 74 [l0, l1, vI x] (vI x :: st) h Q := tA_pure mB_X10_thingOf dX10_thingOf_73 rfl
theorem rX10_thingOf_74 : tA sc iX10_thingOf 74 ls [vI p1, vI p0, vR (some o), s0] h Q = tA sc iX0_init 0 [vR (some o), vI p0, vI p1] [] h (fun v h1 => tA sc iX10_thingOf 77 ls (tpu v [s0]) h1 Q) := tA_cI mB_X10_thingOf mO_X10_thingOf dX10_thingOf_74 cT_10_344 rfl (Nat.le_of_ble_eq_true rfl) rfl rfl rfl
theorem rX10_thingOf_77 : tA sc iX10_thingOf 77 ls [vR r] h Q = Q (some (vR r)) h := tA_ret mB_X10_thingOf dX10_thingOf_77 (fun _ _ _ _ => rfl) (fun _ _ _ => rfl) (fun _ _ _ _ _ => rfl) rfl rfl
theorem rX10_thingOf_78 : tA sc iX10_thingOf 78 ls st h Q = oz (tnew h (.inr (7, tdf 7)) 3) (fun h' => tA sc iX10_thingOf 81 ls (vR (some h.2.1) :: st) h' Q) := (tA_hp mB_X10_thingOf dX10_thingOf_78 (fun _ _ _ _ => rfl) (fun _ _ _ => rfl) rfl (fun _ _ => rfl) rfl).trans (oz_map _ _ _)
theorem rX10_thingOf_81 : tA sc iX10_thingOf 81 ls (vR r :: st) h Q = tA sc iX10_thingOf 82 ls (vR r :: vR r :: st) h Q := tA_pure mB_X10_thingOf dX10_thingOf_81 rfl
theorem rX10_thingOf_82 : tA sc iX10_thingOf 82 [l0, vI x, l2] st h Q = tA sc iX10_thingOf 83 [l0, vI x, l2] (vI x :: st) h Q := tA_pure mB_X10_thingOf dX10_thingOf_82 rfl
theorem rX10_thingOf_83 : tA sc iX10_thingOf 83 [l0, l1, vI x] st h Q = tA sc iX10_thingOf 84 [l0, l1, vI x] (vI x :: st) h Q := tA_pure mB_X10_thingOf dX10_thingOf_83 rfl
theorem rX10_thingOf_84 : tA sc iX10_thingOf 84 ls [vI p1, vI p0, vR (some o), s0] h Q = tA sc iX7_init 0 [vR (some o), vI p0, vI p1] [] h (fun v h1 => tA sc iX10_thingOf 87 ls (tpu v [s0]) h1 Q) := tA_cI mB_X10_thingOf mO_X10_thingOf dX10_thingOf_84 cT_10_345 rfl (Nat.le_of_ble_eq_true rfl) rfl rfl rfl
theorem rX10_thingOf_87 : tA sc iX10_thingOf 87 ls [vR r] h Q = Q (some (vR r)) h := tA_ret mB_X10_thingOf dX10_thingOf_87 (fun _ _ _ _ => rfl) (fun _ _ _ => rfl) (fun _ _ _ _ _ => rfl) rfl rfl
theorem rX10_thingOf_88 : tA sc iX10_thingOf 88 ls st h Q = oz (tnew h (.inr (4, tdf 4)) 3) (fun h' => tA sc iX10_thingOf 91 ls (vR (some h.2.1) :: st) h' Q) := (tA_hp mB_X10_thingOf dX10_thingOf_88 (fun _ _ _ _ => rfl) (fun _ _ _ => rfl) rfl (fun _ _ => rfl) rfl).trans (oz_map _ _ _)
theorem rX10_thingOf_91 : tA sc iX10_thingOf 91 ls (vR r :: st) h Q = tA sc iX10_thingOf 92 ls (vR r :: vR r :: st) h Q := tA_pure mB_X10_thingOf dX10_thingOf_91 rfl
theorem rX10_thingOf_92 : tA sc iX10_thingOf 92 ls st h Q = tA sc iX10_thingOf 93 ls (vI (0) :: st) h Q := tA_pure mB_X10_thingOf dX10_thingOf_92 rfl
theorem rX10_thingOf_93 : tA sc iX10_thingOf 93 [l0, vI x, l2] st h Q = tA sc iX10_thingOf 94 [l0, vI x, l2] (vI x :: st) h Q := tA_pure mB_X10_thingOf dX10_thingOf_93 rfl
theorem rX10_thingOf_94 : tA sc iX10_thingOf 94 [l0, l1, vI x] st h Q = tA sc iX10_thingOf 95 [l0, l1, vI x] (vI x :: st) h Q := tA_pure mB_X10_thingOf dX10_thingOf_94 rfl
theorem rX10_thingOf_95 : tA sc iX10_thingOf 95 ls [vI p2, vI p1, vI p0, vR (some o), s0] h Q = tA sc iX4_init 0 [vR (some o), vI p0, vI p1, vI p2] [] h (fun v h1 => tA sc iX10_thingOf 98 ls (tpu v [s0]) h1 Q) := tA_cI mB_X10_thingOf mO_X10_thingOf dX10_thingOf_95 cT_10_346 rfl (Nat.le_of_ble_eq_true rfl) rfl rfl rfl
theorem rX10_thingOf_98 : tA sc iX10_thingOf 98 ls [vR r] h Q = Q (some (vR r)) h := tA_ret mB_X10_thingOf dX10_thingOf_98 (fun _ _ _ _ => rfl) (fun _ _ _ => rfl) (fun _ _ _ _ _ => rfl) rfl rfl
end S17
