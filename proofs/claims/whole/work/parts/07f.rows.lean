/-! instructions, by program (wip/whole/gen_rows.py) -/
section S17
variable {sc : Nat × (Nat → Int32)} {h : TH} {Q : Option TV → TH → Prop} {st ls : List TV} {l0 l1 l2 l3 l4 l5 l6 l7 l8 l9 l10 l11 l12 l13 l14 : TV} {x y j : Int32} {u w : Int64} {o a : Nat} {r : Option Nat} {v s0 s1 s2 s3 : TV} {p0 p1 p2 p3 p4 : Int32} {q0 q1 q2 q3 : Int64} {n0 n1 n2 n3 : Option Nat}

theorem mB_X11_init : mB iX11_init = cX11_init := rfl
theorem mO_X11_init : mO iX11_init = 11 := rfl
theorem rX11_init_0 : tA sc iX11_init 0 [vR r, l1] st h Q = tA sc iX11_init 1 [vR r, l1] (vR r :: st) h Q := tA_pure mB_X11_init dX11_init_0 rfl
theorem rX11_init_1 : tA sc iX11_init 1 ls [vR (some o)] h Q = tA sc iX11_init 4 ls [] h Q := tA_cN mB_X11_init mO_X11_init dX11_init_1 (fun _ _ _ _ => rfl) (fun _ _ _ => rfl) (fun _ _ _ _ _ => rfl) rfl cT_11_1 rfl rfl
theorem rX11_init_4 : tA sc iX11_init 4 [vR r, l1] st h Q = tA sc iX11_init 5 [vR r, l1] (vR r :: st) h Q := tA_pure mB_X11_init dX11_init_4 rfl
theorem rX11_init_5 : tA sc iX11_init 5 ls st h Q = tA sc iX11_init 8 ls (vI (336) :: st) h Q := tA_pure mB_X11_init dX11_init_5 rfl
theorem rX11_init_8 : tA sc iX11_init 8 ls (vI x :: st) h Q = oz (tna h 0 x) (fun h' => tA sc iX11_init 10 ls (vR (some h.2.1) :: st) h' Q) := (tA_hp mB_X11_init dX11_init_8 (fun _ _ _ _ => rfl) (fun _ _ _ => rfl) rfl (fun _ _ => rfl) rfl).trans (oz_map _ _ _)
theorem rX11_init_10 : tA sc iX11_init 10 ls (v :: vR (some o) :: st) h Q = oz (tput h o [11] 0 3 v) (fun h' => tA sc iX11_init 13 ls st h' Q) := tA_put mB_X11_init mO_X11_init dX11_init_10 fT_11_7 (Or.inr ⟨by decide, rfl⟩)
theorem rX11_init_13 : tA sc iX11_init 13 [vR r, l1] st h Q = tA sc iX11_init 14 [vR r, l1] (vR r :: st) h Q := tA_pure mB_X11_init dX11_init_13 rfl
theorem rX11_init_14 : tA sc iX11_init 14 ls st h Q = tA sc iX11_init 16 ls (vI (20) :: st) h Q := tA_pure mB_X11_init dX11_init_14 rfl
theorem rX11_init_16 : tA sc iX11_init 16 ls (vI x :: st) h Q = oz (tna h 0 x) (fun h' => tA sc iX11_init 18 ls (vR (some h.2.1) :: st) h' Q) := (tA_hp mB_X11_init dX11_init_16 (fun _ _ _ _ => rfl) (fun _ _ _ => rfl) rfl (fun _ _ => rfl) rfl).trans (oz_map _ _ _)
theorem rX11_init_18 : tA sc iX11_init 18 ls (vR r :: st) h Q = tA sc iX11_init 19 ls (vR r :: vR r :: st) h Q := tA_pure mB_X11_init dX11_init_18 rfl
theorem rX11_init_19 : tA sc iX11_init 19 ls st h Q = tA sc iX11_init 20 ls (vI (0) :: st) h Q := tA_pure mB_X11_init dX11_init_19 rfl
theorem rX11_init_20 : tA sc iX11_init 20 ls st h Q = tA sc iX11_init 22 ls (vI (10) :: st) h Q := tA_pure mB_X11_init dX11_init_20 rfl
theorem rX11_init_22 : tA sc iX11_init 22 ls (vI x :: vI j :: vR (some a) :: st) h Q = oz (tasi h a j x) (fun h' => tA sc iX11_init 23 ls st h' Q) := tA_iast mB_X11_init dX11_init_22
theorem rX11_init_23 : tA sc iX11_init 23 ls (vR r :: st) h Q = tA sc iX11_init 24 ls (vR r :: vR r :: st) h Q := tA_pure mB_X11_init dX11_init_23 rfl
theorem rX11_init_24 : tA sc iX11_init 24 ls st h Q = tA sc iX11_init 25 ls (vI (1) :: st) h Q := tA_pure mB_X11_init dX11_init_24 rfl
theorem rX11_init_25 : tA sc iX11_init 25 ls st h Q = tA sc iX11_init 27 ls (vI (10) :: st) h Q := tA_pure mB_X11_init dX11_init_25 rfl
theorem rX11_init_27 : tA sc iX11_init 27 ls (vI x :: vI j :: vR (some a) :: st) h Q = oz (tasi h a j x) (fun h' => tA sc iX11_init 28 ls st h' Q) := tA_iast mB_X11_init dX11_init_27
theorem rX11_init_28 : tA sc iX11_init 28 ls (vR r :: st) h Q = tA sc iX11_init 29 ls (vR r :: vR r :: st) h Q := tA_pure mB_X11_init dX11_init_28 rfl
theorem rX11_init_29 : tA sc iX11_init 29 ls st h Q = tA sc iX11_init 30 ls (vI (2) :: st) h Q := tA_pure mB_X11_init dX11_init_29 rfl
theorem rX11_init_30 : tA sc iX11_init 30 ls st h Q = tA sc iX11_init 32 ls (vI (10) :: st) h Q := tA_pure mB_X11_init dX11_init_30 rfl
theorem rX11_init_32 : tA sc iX11_init 32 ls (vI x :: vI j :: vR (some a) :: st) h Q = oz (tasi h a j x) (fun h' => tA sc iX11_init 33 ls st h' Q) := tA_iast mB_X11_init dX11_init_32
theorem rX11_init_33 : tA sc iX11_init 33 ls (vR r :: st) h Q = tA sc iX11_init 34 ls (vR r :: vR r :: st) h Q := tA_pure mB_X11_init dX11_init_33 rfl
theorem rX11_init_34 : tA sc iX11_init 34 ls st h Q = tA sc iX11_init 35 ls (vI (3) :: st) h Q := tA_pure mB_X11_init dX11_init_34 rfl
theorem rX11_init_35 : tA sc iX11_init 35 ls st h Q = tA sc iX11_init 37 ls (vI (10) :: st) h Q := tA_pure mB_X11_init dX11_init_35 rfl
theorem rX11_init_37 : tA sc iX11_init 37 ls (vI x :: vI j :: vR (some a) :: st) h Q = oz (tasi h a j x) (fun h' => tA sc iX11_init 38 ls st h' Q) := tA_iast mB_X11_init dX11_init_37
theorem rX11_init_38 : tA sc iX11_init 38 ls (vR r :: st) h Q = tA sc iX11_init 39 ls (vR r :: vR r :: st) h Q := tA_pure mB_X11_init dX11_init_38 rfl
theorem rX11_init_39 : tA sc iX11_init 39 ls st h Q = tA sc iX11_init 40 ls (vI (4) :: st) h Q := tA_pure mB_X11_init dX11_init_39 rfl
theorem rX11_init_40 : tA sc iX11_init 40 ls st h Q = tA sc iX11_init 42 ls (vI (10) :: st) h Q := tA_pure mB_X11_init dX11_init_40 rfl
theorem rX11_init_42 : tA sc iX11_init 42 ls (vI x :: vI j :: vR (some a) :: st) h Q = oz (tasi h a j x) (fun h' => tA sc iX11_init 43 ls st h' Q) := tA_iast mB_X11_init dX11_init_42
theorem rX11_init_43 : tA sc iX11_init 43 ls (vR r :: st) h Q = tA sc iX11_init 44 ls (vR r :: vR r :: st) h Q := tA_pure mB_X11_init dX11_init_43 rfl
theorem rX11_init_44 : tA sc iX11_init 44 ls st h Q = tA sc iX11_init 45 ls (vI (5) :: st) h Q := tA_pure mB_X11_init dX11_init_44 rfl
theorem rX11_init_45 : tA sc iX11_init 45 ls st h Q = tA sc iX11_init 47 ls (vI (10) :: st) h Q := tA_pure mB_X11_init dX11_init_45 rfl
theorem rX11_init_47 : tA sc iX11_init 47 ls (vI x :: vI j :: vR (some a) :: st) h Q = oz (tasi h a j x) (fun h' => tA sc iX11_init 48 ls st h' Q) := tA_iast mB_X11_init dX11_init_47
theorem rX11_init_48 : tA sc iX11_init 48 ls (vR r :: st) h Q = tA sc iX11_init 49 ls (vR r :: vR r :: st) h Q := tA_pure mB_X11_init dX11_init_48 rfl
theorem rX11_init_49 : tA sc iX11_init 49 ls st h Q = tA sc iX11_init 51 ls (vI (6) :: st) h Q := tA_pure mB_X11_init dX11_init_49 rfl
theorem rX11_init_51 : tA sc iX11_init 51 ls st h Q = tA sc iX11_init 53 ls (vI (10) :: st) h Q := tA_pure mB_X11_init dX11_init_51 rfl
theorem rX11_init_53 : tA sc iX11_init 53 ls (vI x :: vI j :: vR (some a) :: st) h Q = oz (tasi h a j x) (fun h' => tA sc iX11_init 54 ls st h' Q) := tA_iast mB_X11_init dX11_init_53
theorem rX11_init_54 : tA sc iX11_init 54 ls (vR r :: st) h Q = tA sc iX11_init 55 ls (vR r :: vR r :: st) h Q := tA_pure mB_X11_init dX11_init_54 rfl
theorem rX11_init_55 : tA sc iX11_init 55 ls st h Q = tA sc iX11_init 57 ls (vI (7) :: st) h Q := tA_pure mB_X11_init dX11_init_55 rfl
theorem rX11_init_57 : tA sc iX11_init 57 ls st h Q = tA sc iX11_init 59 ls (vI (10) :: st) h Q := tA_pure mB_X11_init dX11_init_57 rfl
theorem rX11_init_59 : tA sc iX11_init 59 ls (vI x :: vI j :: vR (some a) :: st) h Q = oz (tasi h a j x) (fun h' => tA sc iX11_init 60 ls st h' Q) := tA_iast mB_X11_init dX11_init_59
theorem rX11_init_60 : tA sc iX11_init 60 ls (vR r :: st) h Q = tA sc iX11_init 61 ls (vR r :: vR r :: st) h Q := tA_pure mB_X11_init dX11_init_60 rfl
theorem rX11_init_61 : tA sc iX11_init 61 ls st h Q = tA sc iX11_init 63 ls (vI (8) :: st) h Q := tA_pure mB_X11_init dX11_init_61 rfl
theorem rX11_init_63 : tA sc iX11_init 63 ls st h Q = tA sc iX11_init 65 ls (vI (10) :: st) h Q := tA_pure mB_X11_init dX11_init_63 rfl
theorem rX11_init_65 : tA sc iX11_init 65 ls (vI x :: vI j :: vR (some a) :: st) h Q = oz (tasi h a j x) (fun h' => tA sc iX11_init 66 ls st h' Q) := tA_iast mB_X11_init dX11_init_65
theorem rX11_init_66 : tA sc iX11_init 66 ls (vR r :: st) h Q = tA sc iX11_init 67 ls (vR r :: vR r :: st) h Q := tA_pure mB_X11_init dX11_init_66 rfl
theorem rX11_init_67 : tA sc iX11_init 67 ls st h Q = tA sc iX11_init 69 ls (vI (9) :: st) h Q := tA_pure mB_X11_init dX11_init_67 rfl
theorem rX11_init_69 : tA sc iX11_init 69 ls st h Q = tA sc iX11_init 71 ls (vI (10) :: st) h Q := tA_pure mB_X11_init dX11_init_69 rfl
theorem rX11_init_71 : tA sc iX11_init 71 ls (vI x :: vI j :: vR (some a) :: st) h Q = oz (tasi h a j x) (fun h' => tA sc iX11_init 72 ls st h' Q) := tA_iast mB_X11_init dX11_init_71
theorem rX11_init_72 : tA sc iX11_init 72 ls (vR r :: st) h Q = tA sc iX11_init 73 ls (vR r :: vR r :: st) h Q := tA_pure mB_X11_init dX11_init_72 rfl
theorem rX11_init_73 : tA sc iX11_init 73 ls st h Q = tA sc iX11_init 75 ls (vI (10) :: st) h Q := tA_pure mB_X11_init dX11_init_73 rfl
theorem rX11_init_75 : tA sc iX11_init 75 ls st h Q = tA sc iX11_init 77 ls (vI (10) :: st) h Q := tA_pure mB_X11_init dX11_init_75 rfl
theorem rX11_init_77 : tA sc iX11_init 77 ls (vI x :: vI j :: vR (some a) :: st) h Q = oz (tasi h a j x) (fun h' => tA sc iX11_init 78 ls st h' Q) := tA_iast mB_X11_init dX11_init_77
theorem rX11_init_78 : tA sc iX11_init 78 ls (vR r :: st) h Q = tA sc iX11_init 79 ls (vR r :: vR r :: st) h Q := tA_pure mB_X11_init dX11_init_78 rfl
theorem rX11_init_79 : tA sc iX11_init 79 ls st h Q = tA sc iX11_init 81 ls (vI (11) :: st) h Q := tA_pure mB_X11_init dX11_init_79 rfl
theorem rX11_init_81 : tA sc iX11_init 81 ls st h Q = tA sc iX11_init 83 ls (vI (10) :: st) h Q := tA_pure mB_X11_init dX11_init_81 rfl
theorem rX11_init_83 : tA sc iX11_init 83 ls (vI x :: vI j :: vR (some a) :: st) h Q = oz (tasi h a j x) (fun h' => tA sc iX11_init 84 ls st h' Q) := tA_iast mB_X11_init dX11_init_83
theorem rX11_init_84 : tA sc iX11_init 84 ls (vR r :: st) h Q = tA sc iX11_init 85 ls (vR r :: vR r :: st) h Q := tA_pure mB_X11_init dX11_init_84 rfl
theorem rX11_init_85 : tA sc iX11_init 85 ls st h Q = tA sc iX11_init 87 ls (vI (12) :: st) h Q := tA_pure mB_X11_init dX11_init_85 rfl
theorem rX11_init_87 : tA sc iX11_init 87 ls st h Q = tA sc iX11_init 89 ls (vI (10) :: st) h Q := tA_pure mB_X11_init dX11_init_87 rfl
theorem rX11_init_89 : tA sc iX11_init 89 ls (vI x :: vI j :: vR (some a) :: st) h Q = oz (tasi h a j x) (fun h' => tA sc iX11_init 90 ls st h' Q) := tA_iast mB_X11_init dX11_init_89
theorem rX11_init_90 : tA sc iX11_init 90 ls (vR r :: st) h Q = tA sc iX11_init 91 ls (vR r :: vR r :: st) h Q := tA_pure mB_X11_init dX11_init_90 rfl
theorem rX11_init_91 : tA sc iX11_init 91 ls st h Q = tA sc iX11_init 93 ls (vI (13) :: st) h Q := tA_pure mB_X11_init dX11_init_91 rfl
theorem rX11_init_93 : tA sc iX11_init 93 ls st h Q = tA sc iX11_init 95 ls (vI (10) :: st) h Q := tA_pure mB_X11_init dX11_init_93 rfl
theorem rX11_init_95 : tA sc iX11_init 95 ls (vI x :: vI j :: vR (some a) :: st) h Q = oz (tasi h a j x) (fun h' => tA sc iX11_init 96 ls st h' Q) := tA_iast mB_X11_init dX11_init_95
theorem rX11_init_96 : tA sc iX11_init 96 ls (vR r :: st) h Q = tA sc iX11_init 97 ls (vR r :: vR r :: st) h Q := tA_pure mB_X11_init dX11_init_96 rfl
theorem rX11_init_97 : tA sc iX11_init 97 ls st h Q = tA sc iX11_init 99 ls (vI (14) :: st) h Q := tA_pure mB_X11_init dX11_init_97 rfl
theorem rX11_init_99 : tA sc iX11_init 99 ls st h Q = tA sc iX11_init 101 ls (vI (10) :: st) h Q := tA_pure mB_X11_init dX11_init_99 rfl
theorem rX11_init_101 : tA sc iX11_init 101 ls (vI x :: vI j :: vR (some a) :: st) h Q = oz (tasi h a j x) (fun h' => tA sc iX11_init 102 ls st h' Q) := tA_iast mB_X11_init dX11_init_101
theorem rX11_init_102 : tA sc iX11_init 102 ls (vR r :: st) h Q = tA sc iX11_init 103 ls (vR r :: vR r :: st) h Q := tA_pure mB_X11_init dX11_init_102 rfl
theorem rX11_init_103 : tA sc iX11_init 103 ls st h Q = tA sc iX11_init 105 ls (vI (15) :: st) h Q := tA_pure mB_X11_init dX11_init_103 rfl
theorem rX11_init_105 : tA sc iX11_init 105 ls st h Q = tA sc iX11_init 107 ls (vI (10) :: st) h Q := tA_pure mB_X11_init dX11_init_105 rfl
theorem rX11_init_107 : tA sc iX11_init 107 ls (vI x :: vI j :: vR (some a) :: st) h Q = oz (tasi h a j x) (fun h' => tA sc iX11_init 108 ls st h' Q) := tA_iast mB_X11_init dX11_init_107
theorem rX11_init_108 : tA sc iX11_init 108 ls (vR r :: st) h Q = tA sc iX11_init 109 ls (vR r :: vR r :: st) h Q := tA_pure mB_X11_init dX11_init_108 rfl
theorem rX11_init_109 : tA sc iX11_init 109 ls st h Q = tA sc iX11_init 111 ls (vI (16) :: st) h Q := tA_pure mB_X11_init dX11_init_109 rfl
theorem rX11_init_111 : tA sc iX11_init 111 ls st h Q = tA sc iX11_init 113 ls (vI (10) :: st) h Q := tA_pure mB_X11_init dX11_init_111 rfl
theorem rX11_init_113 : tA sc iX11_init 113 ls (vI x :: vI j :: vR (some a) :: st) h Q = oz (tasi h a j x) (fun h' => tA sc iX11_init 114 ls st h' Q) := tA_iast mB_X11_init dX11_init_113
theorem rX11_init_114 : tA sc iX11_init 114 ls (vR r :: st) h Q = tA sc iX11_init 115 ls (vR r :: vR r :: st) h Q := tA_pure mB_X11_init dX11_init_114 rfl
theorem rX11_init_115 : tA sc iX11_init 115 ls st h Q = tA sc iX11_init 117 ls (vI (17) :: st) h Q := tA_pure mB_X11_init dX11_init_115 rfl
theorem rX11_init_117 : tA sc iX11_init 117 ls st h Q = tA sc iX11_init 119 ls (vI (10) :: st) h Q := tA_pure mB_X11_init dX11_init_117 rfl
theorem rX11_init_119 : tA sc iX11_init 119 ls (vI x :: vI j :: vR (some a) :: st) h Q = oz (tasi h a j x) (fun h' => tA sc iX11_init 120 ls st h' Q) := tA_iast mB_X11_init dX11_init_119
theorem rX11_init_120 : tA sc iX11_init 120 ls (vR r :: st) h Q = tA sc iX11_init 121 ls (vR r :: vR r :: st) h Q := tA_pure mB_X11_init dX11_init_120 rfl
theorem rX11_init_121 : tA sc iX11_init 121 ls st h Q = tA sc iX11_init 123 ls (vI (18) :: st) h Q := tA_pure mB_X11_init dX11_init_121 rfl
theorem rX11_init_123 : tA sc iX11_init 123 ls st h Q = tA sc iX11_init 125 ls (vI (10) :: st) h Q := tA_pure mB_X11_init dX11_init_123 rfl
theorem rX11_init_125 : tA sc iX11_init 125 ls (vI x :: vI j :: vR (some a) :: st) h Q = oz (tasi h a j x) (fun h' => tA sc iX11_init 126 ls st h' Q) := tA_iast mB_X11_init dX11_init_125
theorem rX11_init_126 : tA sc iX11_init 126 ls (vR r :: st) h Q = tA sc iX11_init 127 ls (vR r :: vR r :: st) h Q := tA_pure mB_X11_init dX11_init_126 rfl
theorem rX11_init_127 : tA sc iX11_init 127 ls st h Q = tA sc iX11_init 129 ls (vI (19) :: st) h Q := tA_pure mB_X11_init dX11_init_127 rfl
theorem rX11_init_129 : tA sc iX11_init 129 ls st h Q = tA sc iX11_init 131 ls (vI (10) :: st) h Q := tA_pure mB_X11_init dX11_init_129 rfl
theorem rX11_init_131 : tA sc iX11_init 131 ls (vI x :: vI j :: vR (some a) :: st) h Q = oz (tasi h a j x) (fun h' => tA sc iX11_init 132 ls st h' Q) := tA_iast mB_X11_init dX11_init_131
theorem rX11_init_132 : tA sc iX11_init 132 ls (v :: vR (some o) :: st) h Q = oz (tput h o [11] 2 3 v) (fun h' => tA sc iX11_init 135 ls st h' Q) := tA_put mB_X11_init mO_X11_init dX11_init_132 fT_11_13 (Or.inr ⟨by decide, rfl⟩)
theorem rX11_init_135 : tA sc iX11_init 135 [vR r, l1] st h Q = tA sc iX11_init 136 [vR r, l1] (vR r :: st) h Q := tA_pure mB_X11_init dX11_init_135 rfl
theorem rX11_init_136 : tA sc iX11_init 136 ls st h Q = tA sc iX11_init 138 ls (vI (80) :: st) h Q := tA_pure mB_X11_init dX11_init_136 rfl
theorem rX11_init_138 : tA sc iX11_init 138 ls (vI x :: st) h Q = oz (tna h 0 x) (fun h' => tA sc iX11_init 140 ls (vR (some h.2.1) :: st) h' Q) := (tA_hp mB_X11_init dX11_init_138 (fun _ _ _ _ => rfl) (fun _ _ _ => rfl) rfl (fun _ _ => rfl) rfl).trans (oz_map _ _ _)
theorem rX11_init_140 : tA sc iX11_init 140 ls (v :: vR (some o) :: st) h Q = oz (tput h o [11] 3 3 v) (fun h' => tA sc iX11_init 143 ls st h' Q) := tA_put mB_X11_init mO_X11_init dX11_init_140 fT_11_16 (Or.inr ⟨by decide, rfl⟩)
theorem rX11_init_143 : tA sc iX11_init 143 [vR r, l1] st h Q = tA sc iX11_init 144 [vR r, l1] (vR r :: st) h Q := tA_pure mB_X11_init dX11_init_143 rfl
theorem rX11_init_144 : tA sc iX11_init 144 ls st h Q = tA sc iX11_init 146 ls (vI (10) :: st) h Q := tA_pure mB_X11_init dX11_init_144 rfl
theorem rX11_init_146 : tA sc iX11_init 146 ls (vI x :: st) h Q = oz (tna h 0 x) (fun h' => tA sc iX11_init 148 ls (vR (some h.2.1) :: st) h' Q) := (tA_hp mB_X11_init dX11_init_146 (fun _ _ _ _ => rfl) (fun _ _ _ => rfl) rfl (fun _ _ => rfl) rfl).trans (oz_map _ _ _)
theorem rX11_init_148 : tA sc iX11_init 148 ls (v :: vR (some o) :: st) h Q = oz (tput h o [11] 5 3 v) (fun h' => tA sc iX11_init 151 ls st h' Q) := tA_put mB_X11_init mO_X11_init dX11_init_148 fT_11_19 (Or.inr ⟨by decide, rfl⟩)
theorem rX11_init_151 : tA sc iX11_init 151 [vR r, l1] st h Q = tA sc iX11_init 152 [vR r, l1] (vR r :: st) h Q := tA_pure mB_X11_init dX11_init_151 rfl
theorem rX11_init_152 : tA sc iX11_init 152 ls st h Q = tA sc iX11_init 153 ls (vI (4) :: st) h Q := tA_pure mB_X11_init dX11_init_152 rfl
theorem rX11_init_153 : tA sc iX11_init 153 ls (vI x :: st) h Q = oz (tna h 0 x) (fun h' => tA sc iX11_init 155 ls (vR (some h.2.1) :: st) h' Q) := (tA_hp mB_X11_init dX11_init_153 (fun _ _ _ _ => rfl) (fun _ _ _ => rfl) rfl (fun _ _ => rfl) rfl).trans (oz_map _ _ _)
theorem rX11_init_155 : tA sc iX11_init 155 ls (vR r :: st) h Q = tA sc iX11_init 156 ls (vR r :: vR r :: st) h Q := tA_pure mB_X11_init dX11_init_155 rfl
theorem rX11_init_156 : tA sc iX11_init 156 ls st h Q = tA sc iX11_init 157 ls (vI (0) :: st) h Q := tA_pure mB_X11_init dX11_init_156 rfl
theorem rX11_init_157 : tA sc iX11_init 157 ls st h Q = tA sc iX11_init 159 ls (vI (10) :: st) h Q := tA_pure mB_X11_init dX11_init_157 rfl
theorem rX11_init_159 : tA sc iX11_init 159 ls (vI x :: vI j :: vR (some a) :: st) h Q = oz (tasi h a j x) (fun h' => tA sc iX11_init 160 ls st h' Q) := tA_iast mB_X11_init dX11_init_159
theorem rX11_init_160 : tA sc iX11_init 160 ls (vR r :: st) h Q = tA sc iX11_init 161 ls (vR r :: vR r :: st) h Q := tA_pure mB_X11_init dX11_init_160 rfl
theorem rX11_init_161 : tA sc iX11_init 161 ls st h Q = tA sc iX11_init 162 ls (vI (1) :: st) h Q := tA_pure mB_X11_init dX11_init_161 rfl
theorem rX11_init_162 : tA sc iX11_init 162 ls st h Q = tA sc iX11_init 163 ls (vI (2) :: st) h Q := tA_pure mB_X11_init dX11_init_162 rfl
theorem rX11_init_163 : tA sc iX11_init 163 ls (vI x :: vI j :: vR (some a) :: st) h Q = oz (tasi h a j x) (fun h' => tA sc iX11_init 164 ls st h' Q) := tA_iast mB_X11_init dX11_init_163
theorem rX11_init_164 : tA sc iX11_init 164 ls (vR r :: st) h Q = tA sc iX11_init 165 ls (vR r :: vR r :: st) h Q := tA_pure mB_X11_init dX11_init_164 rfl
theorem rX11_init_165 : tA sc iX11_init 165 ls st h Q = tA sc iX11_init 166 ls (vI (2) :: st) h Q := tA_pure mB_X11_init dX11_init_165 rfl
theorem rX11_init_166 : tA sc iX11_init 166 ls st h Q = tA sc iX11_init 167 ls (vI (1) :: st) h Q := tA_pure mB_X11_init dX11_init_166 rfl
theorem rX11_init_167 : tA sc iX11_init 167 ls (vI x :: vI j :: vR (some a) :: st) h Q = oz (tasi h a j x) (fun h' => tA sc iX11_init 168 ls st h' Q) := tA_iast mB_X11_init dX11_init_167
theorem rX11_init_168 : tA sc iX11_init 168 ls (vR r :: st) h Q = tA sc iX11_init 169 ls (vR r :: vR r :: st) h Q := tA_pure mB_X11_init dX11_init_168 rfl
theorem rX11_init_169 : tA sc iX11_init 169 ls st h Q = tA sc iX11_init 170 ls (vI (3) :: st) h Q := tA_pure mB_X11_init dX11_init_169 rfl
theorem rX11_init_170 : tA sc iX11_init 170 ls st h Q = tA sc iX11_init 172 ls (vI (6) :: st) h Q := tA_pure mB_X11_init dX11_init_170 rfl
theorem rX11_init_172 : tA sc iX11_init 172 ls (vI x :: vI j :: vR (some a) :: st) h Q = oz (tasi h a j x) (fun h' => tA sc iX11_init 173 ls st h' Q) := tA_iast mB_X11_init dX11_init_172
theorem rX11_init_173 : tA sc iX11_init 173 ls (v :: vR (some o) :: st) h Q = oz (tput h o [11] 6 3 v) (fun h' => tA sc iX11_init 176 ls st h' Q) := tA_put mB_X11_init mO_X11_init dX11_init_173 fT_11_22 (Or.inr ⟨by decide, rfl⟩)
theorem rX11_init_176 : tA sc iX11_init 176 [vR r, l1] st h Q = tA sc iX11_init 177 [vR r, l1] (vR r :: st) h Q := tA_pure mB_X11_init dX11_init_176 rfl
theorem rX11_init_177 : tA sc iX11_init 177 ls st h Q = tA sc iX11_init 178 ls (vI (4) :: st) h Q := tA_pure mB_X11_init dX11_init_177 rfl
theorem rX11_init_178 : tA sc iX11_init 178 ls (vI x :: st) h Q = oz (tna h 0 x) (fun h' => tA sc iX11_init 180 ls (vR (some h.2.1) :: st) h' Q) := (tA_hp mB_X11_init dX11_init_178 (fun _ _ _ _ => rfl) (fun _ _ _ => rfl) rfl (fun _ _ => rfl) rfl).trans (oz_map _ _ _)
theorem rX11_init_180 : tA sc iX11_init 180 ls (vR r :: st) h Q = tA sc iX11_init 181 ls (vR r :: vR r :: st) h Q := tA_pure mB_X11_init dX11_init_180 rfl
theorem rX11_init_181 : tA sc iX11_init 181 ls st h Q = tA sc iX11_init 182 ls (vI (0) :: st) h Q := tA_pure mB_X11_init dX11_init_181 rfl
theorem rX11_init_182 : tA sc iX11_init 182 ls st h Q = tA sc iX11_init 184 ls (vI (100) :: st) h Q := tA_pure mB_X11_init dX11_init_182 rfl
theorem rX11_init_184 : tA sc iX11_init 184 ls (vI x :: vI j :: vR (some a) :: st) h Q = oz (tasi h a j x) (fun h' => tA sc iX11_init 185 ls st h' Q) := tA_iast mB_X11_init dX11_init_184
theorem rX11_init_185 : tA sc iX11_init 185 ls (vR r :: st) h Q = tA sc iX11_init 186 ls (vR r :: vR r :: st) h Q := tA_pure mB_X11_init dX11_init_185 rfl
theorem rX11_init_186 : tA sc iX11_init 186 ls st h Q = tA sc iX11_init 187 ls (vI (1) :: st) h Q := tA_pure mB_X11_init dX11_init_186 rfl
theorem rX11_init_187 : tA sc iX11_init 187 ls st h Q = tA sc iX11_init 189 ls (vI (99) :: st) h Q := tA_pure mB_X11_init dX11_init_187 rfl
theorem rX11_init_189 : tA sc iX11_init 189 ls (vI x :: vI j :: vR (some a) :: st) h Q = oz (tasi h a j x) (fun h' => tA sc iX11_init 190 ls st h' Q) := tA_iast mB_X11_init dX11_init_189
theorem rX11_init_190 : tA sc iX11_init 190 ls (vR r :: st) h Q = tA sc iX11_init 191 ls (vR r :: vR r :: st) h Q := tA_pure mB_X11_init dX11_init_190 rfl
theorem rX11_init_191 : tA sc iX11_init 191 ls st h Q = tA sc iX11_init 192 ls (vI (2) :: st) h Q := tA_pure mB_X11_init dX11_init_191 rfl
theorem rX11_init_192 : tA sc iX11_init 192 ls st h Q = tA sc iX11_init 194 ls (vI (99) :: st) h Q := tA_pure mB_X11_init dX11_init_192 rfl
theorem rX11_init_194 : tA sc iX11_init 194 ls (vI x :: vI j :: vR (some a) :: st) h Q = oz (tasi h a j x) (fun h' => tA sc iX11_init 195 ls st h' Q) := tA_iast mB_X11_init dX11_init_194
theorem rX11_init_195 : tA sc iX11_init 195 ls (vR r :: st) h Q = tA sc iX11_init 196 ls (vR r :: vR r :: st) h Q := tA_pure mB_X11_init dX11_init_195 rfl
theorem rX11_init_196 : tA sc iX11_init 196 ls st h Q = tA sc iX11_init 197 ls (vI (3) :: st) h Q := tA_pure mB_X11_init dX11_init_196 rfl
theorem rX11_init_197 : tA sc iX11_init 197 ls st h Q = tA sc iX11_init 199 ls (vI (20) :: st) h Q := tA_pure mB_X11_init dX11_init_197 rfl
theorem rX11_init_199 : tA sc iX11_init 199 ls (vI x :: vI j :: vR (some a) :: st) h Q = oz (tasi h a j x) (fun h' => tA sc iX11_init 200 ls st h' Q) := tA_iast mB_X11_init dX11_init_199
theorem rX11_init_200 : tA sc iX11_init 200 ls (v :: vR (some o) :: st) h Q = oz (tput h o [11] 7 3 v) (fun h' => tA sc iX11_init 203 ls st h' Q) := tA_put mB_X11_init mO_X11_init dX11_init_200 fT_11_25 (Or.inr ⟨by decide, rfl⟩)
theorem rX11_init_203 : tA sc iX11_init 203 [vR r, l1] st h Q = tA sc iX11_init 204 [vR r, l1] (vR r :: st) h Q := tA_pure mB_X11_init dX11_init_203 rfl
theorem rX11_init_204 : tA sc iX11_init 204 ls st h Q = tA sc iX11_init 207 ls (vI (240) :: st) h Q := tA_pure mB_X11_init dX11_init_204 rfl
theorem rX11_init_207 : tA sc iX11_init 207 ls (vI x :: st) h Q = oz (tna h 0 x) (fun h' => tA sc iX11_init 209 ls (vR (some h.2.1) :: st) h' Q) := (tA_hp mB_X11_init dX11_init_207 (fun _ _ _ _ => rfl) (fun _ _ _ => rfl) rfl (fun _ _ => rfl) rfl).trans (oz_map _ _ _)
theorem rX11_init_209 : tA sc iX11_init 209 ls (v :: vR (some o) :: st) h Q = oz (tput h o [11] 8 3 v) (fun h' => tA sc iX11_init 212 ls st h' Q) := tA_put mB_X11_init mO_X11_init dX11_init_209 fT_11_28 (Or.inr ⟨by decide, rfl⟩)
theorem rX11_init_212 : tA sc iX11_init 212 [vR r, l1] st h Q = tA sc iX11_init 213 [vR r, l1] (vR r :: st) h Q := tA_pure mB_X11_init dX11_init_212 rfl
theorem rX11_init_213 : tA sc iX11_init 213 ls st h Q = tA sc iX11_init 215 ls (vI (20) :: st) h Q := tA_pure mB_X11_init dX11_init_213 rfl
theorem rX11_init_215 : tA sc iX11_init 215 ls (vI x :: st) h Q = oz (tna h 0 x) (fun h' => tA sc iX11_init 217 ls (vR (some h.2.1) :: st) h' Q) := (tA_hp mB_X11_init dX11_init_215 (fun _ _ _ _ => rfl) (fun _ _ _ => rfl) rfl (fun _ _ => rfl) rfl).trans (oz_map _ _ _)
theorem rX11_init_217 : tA sc iX11_init 217 ls (v :: vR (some o) :: st) h Q = oz (tput h o [11] 19 3 v) (fun h' => tA sc iX11_init 220 ls st h' Q) := tA_put mB_X11_init mO_X11_init dX11_init_217 fT_11_31 (Or.inr ⟨by decide, rfl⟩)
theorem rX11_init_220 : tA sc iX11_init 220 [vR r, l1] st h Q = tA sc iX11_init 221 [vR r, l1] (vR r :: st) h Q := tA_pure mB_X11_init dX11_init_220 rfl
theorem rX11_init_221 : tA sc iX11_init 221 ls st h Q = tA sc iX11_init 223 ls (vI (80) :: st) h Q := tA_pure mB_X11_init dX11_init_221 rfl
theorem rX11_init_223 : tA sc iX11_init 223 ls (vI x :: st) h Q = oz (tna h 0 x) (fun h' => tA sc iX11_init 225 ls (vR (some h.2.1) :: st) h' Q) := (tA_hp mB_X11_init dX11_init_223 (fun _ _ _ _ => rfl) (fun _ _ _ => rfl) rfl (fun _ _ => rfl) rfl).trans (oz_map _ _ _)
theorem rX11_init_225 : tA sc iX11_init 225 ls (v :: vR (some o) :: st) h Q = oz (tput h o [11] 20 3 v) (fun h' => tA sc iX11_init 228 ls st h' Q) := tA_put mB_X11_init mO_X11_init dX11_init_225 fT_11_34 (Or.inr ⟨by decide, rfl⟩)
theorem rX11_init_228 : tA sc iX11_init 228 [vR r, l1] st h Q = tA sc iX11_init 229 [vR r, l1] (vR r :: st) h Q := tA_pure mB_X11_init dX11_init_228 rfl
theorem rX11_init_229 : tA sc iX11_init 229 ls st h Q = tA sc iX11_init 231 ls (vI (20) :: st) h Q := tA_pure mB_X11_init dX11_init_229 rfl
theorem rX11_init_231 : tA sc iX11_init 231 ls (vI x :: st) h Q = oz (tna h 0 x) (fun h' => tA sc iX11_init 233 ls (vR (some h.2.1) :: st) h' Q) := (tA_hp mB_X11_init dX11_init_231 (fun _ _ _ _ => rfl) (fun _ _ _ => rfl) rfl (fun _ _ => rfl) rfl).trans (oz_map _ _ _)
theorem rX11_init_233 : tA sc iX11_init 233 ls (v :: vR (some o) :: st) h Q = oz (tput h o [11] 21 3 v) (fun h' => tA sc iX11_init 236 ls st h' Q) := tA_put mB_X11_init mO_X11_init dX11_init_233 fT_11_37 (Or.inr ⟨by decide, rfl⟩)
theorem rX11_init_236 : tA sc iX11_init 236 [vR r, l1] st h Q = tA sc iX11_init 237 [vR r, l1] (vR r :: st) h Q := tA_pure mB_X11_init dX11_init_236 rfl
theorem rX11_init_237 : tA sc iX11_init 237 ls st h Q = tA sc iX11_init 239 ls (vI (10) :: st) h Q := tA_pure mB_X11_init dX11_init_237 rfl
theorem rX11_init_239 : tA sc iX11_init 239 ls (vI x :: st) h Q = oz (tna h 0 x) (fun h' => tA sc iX11_init 241 ls (vR (some h.2.1) :: st) h' Q) := (tA_hp mB_X11_init dX11_init_239 (fun _ _ _ _ => rfl) (fun _ _ _ => rfl) rfl (fun _ _ => rfl) rfl).trans (oz_map _ _ _)
theorem rX11_init_241 : tA sc iX11_init 241 ls (v :: vR (some o) :: st) h Q = oz (tput h o [11] 22 3 v) (fun h' => tA sc iX11_init 244 ls st h' Q) := tA_put mB_X11_init mO_X11_init dX11_init_241 fT_11_40 (Or.inr ⟨by decide, rfl⟩)
theorem rX11_init_244 : tA sc iX11_init 244 [vR r, l1] st h Q = tA sc iX11_init 245 [vR r, l1] (vR r :: st) h Q := tA_pure mB_X11_init dX11_init_244 rfl
theorem rX11_init_245 : tA sc iX11_init 245 ls st h Q = tA sc iX11_init 247 ls (vI (120) :: st) h Q := tA_pure mB_X11_init dX11_init_245 rfl
theorem rX11_init_247 : tA sc iX11_init 247 ls (vI x :: st) h Q = oz (tna h 0 x) (fun h' => tA sc iX11_init 249 ls (vR (some h.2.1) :: st) h' Q) := (tA_hp mB_X11_init dX11_init_247 (fun _ _ _ _ => rfl) (fun _ _ _ => rfl) rfl (fun _ _ => rfl) rfl).trans (oz_map _ _ _)
theorem rX11_init_249 : tA sc iX11_init 249 ls (v :: vR (some o) :: st) h Q = oz (tput h o [11] 23 3 v) (fun h' => tA sc iX11_init 252 ls st h' Q) := tA_put mB_X11_init mO_X11_init dX11_init_249 fT_11_43 (Or.inr ⟨by decide, rfl⟩)
theorem rX11_init_252 : tA sc iX11_init 252 [vR r, l1] st h Q = tA sc iX11_init 253 [vR r, l1] (vR r :: st) h Q := tA_pure mB_X11_init dX11_init_252 rfl
theorem rX11_init_253 : tA sc iX11_init 253 ls st h Q = tA sc iX11_init 254 ls (vI (4) :: st) h Q := tA_pure mB_X11_init dX11_init_253 rfl
theorem rX11_init_254 : tA sc iX11_init 254 ls (vI x :: st) h Q = oz (tna h 0 x) (fun h' => tA sc iX11_init 256 ls (vR (some h.2.1) :: st) h' Q) := (tA_hp mB_X11_init dX11_init_254 (fun _ _ _ _ => rfl) (fun _ _ _ => rfl) rfl (fun _ _ => rfl) rfl).trans (oz_map _ _ _)
theorem rX11_init_256 : tA sc iX11_init 256 ls (v :: vR (some o) :: st) h Q = oz (tput h o [11] 24 3 v) (fun h' => tA sc iX11_init 259 ls st h' Q) := tA_put mB_X11_init mO_X11_init dX11_init_256 fT_11_46 (Or.inr ⟨by decide, rfl⟩)
theorem rX11_init_259 : tA sc iX11_init 259 [vR r, l1] st h Q = tA sc iX11_init 260 [vR r, l1] (vR r :: st) h Q := tA_pure mB_X11_init dX11_init_259 rfl
theorem rX11_init_260 : tA sc iX11_init 260 ls st h Q = tA sc iX11_init 262 ls (vI (60) :: st) h Q := tA_pure mB_X11_init dX11_init_260 rfl
theorem rX11_init_262 : tA sc iX11_init 262 ls (vI x :: st) h Q = oz (tna h 0 x) (fun h' => tA sc iX11_init 264 ls (vR (some h.2.1) :: st) h' Q) := (tA_hp mB_X11_init dX11_init_262 (fun _ _ _ _ => rfl) (fun _ _ _ => rfl) rfl (fun _ _ => rfl) rfl).trans (oz_map _ _ _)
theorem rX11_init_264 : tA sc iX11_init 264 ls (v :: vR (some o) :: st) h Q = oz (tput h o [11] 33 3 v) (fun h' => tA sc iX11_init 267 ls st h' Q) := tA_put mB_X11_init mO_X11_init dX11_init_264 fT_11_49 (Or.inr ⟨by decide, rfl⟩)
theorem rX11_init_267 : tA sc iX11_init 267 [vR r, l1] st h Q = tA sc iX11_init 268 [vR r, l1] (vR r :: st) h Q := tA_pure mB_X11_init dX11_init_267 rfl
theorem rX11_init_268 : tA sc iX11_init 268 ls st h Q = tA sc iX11_init 270 ls (vI (60) :: st) h Q := tA_pure mB_X11_init dX11_init_268 rfl
theorem rX11_init_270 : tA sc iX11_init 270 ls (vI x :: st) h Q = oz (tna h 0 x) (fun h' => tA sc iX11_init 272 ls (vR (some h.2.1) :: st) h' Q) := (tA_hp mB_X11_init dX11_init_270 (fun _ _ _ _ => rfl) (fun _ _ _ => rfl) rfl (fun _ _ => rfl) rfl).trans (oz_map _ _ _)
theorem rX11_init_272 : tA sc iX11_init 272 ls (v :: vR (some o) :: st) h Q = oz (tput h o [11] 34 3 v) (fun h' => tA sc iX11_init 275 ls st h' Q) := tA_put mB_X11_init mO_X11_init dX11_init_272 fT_11_52 (Or.inr ⟨by decide, rfl⟩)
theorem rX11_init_275 : tA sc iX11_init 275 [vR r, l1] st h Q = tA sc iX11_init 276 [vR r, l1] (vR r :: st) h Q := tA_pure mB_X11_init dX11_init_275 rfl
theorem rX11_init_276 : tA sc iX11_init 276 ls st h Q = tA sc iX11_init 277 ls (vI (4) :: st) h Q := tA_pure mB_X11_init dX11_init_276 rfl
theorem rX11_init_277 : tA sc iX11_init 277 ls (vI x :: st) h Q = oz (tna h 0 x) (fun h' => tA sc iX11_init 279 ls (vR (some h.2.1) :: st) h' Q) := (tA_hp mB_X11_init dX11_init_277 (fun _ _ _ _ => rfl) (fun _ _ _ => rfl) rfl (fun _ _ => rfl) rfl).trans (oz_map _ _ _)
theorem rX11_init_279 : tA sc iX11_init 279 ls (vR r :: st) h Q = tA sc iX11_init 280 ls (vR r :: vR r :: st) h Q := tA_pure mB_X11_init dX11_init_279 rfl
theorem rX11_init_280 : tA sc iX11_init 280 ls st h Q = tA sc iX11_init 281 ls (vI (0) :: st) h Q := tA_pure mB_X11_init dX11_init_280 rfl
theorem rX11_init_281 : tA sc iX11_init 281 ls st h Q = tA sc iX11_init 282 ls (vI (-1) :: st) h Q := tA_pure mB_X11_init dX11_init_281 rfl
theorem rX11_init_282 : tA sc iX11_init 282 ls (vI x :: vI j :: vR (some a) :: st) h Q = oz (tasi h a j x) (fun h' => tA sc iX11_init 283 ls st h' Q) := tA_iast mB_X11_init dX11_init_282
theorem rX11_init_283 : tA sc iX11_init 283 ls (vR r :: st) h Q = tA sc iX11_init 284 ls (vR r :: vR r :: st) h Q := tA_pure mB_X11_init dX11_init_283 rfl
theorem rX11_init_284 : tA sc iX11_init 284 ls st h Q = tA sc iX11_init 285 ls (vI (1) :: st) h Q := tA_pure mB_X11_init dX11_init_284 rfl
theorem rX11_init_285 : tA sc iX11_init 285 ls st h Q = tA sc iX11_init 286 ls (vI (-1) :: st) h Q := tA_pure mB_X11_init dX11_init_285 rfl
theorem rX11_init_286 : tA sc iX11_init 286 ls (vI x :: vI j :: vR (some a) :: st) h Q = oz (tasi h a j x) (fun h' => tA sc iX11_init 287 ls st h' Q) := tA_iast mB_X11_init dX11_init_286
theorem rX11_init_287 : tA sc iX11_init 287 ls (vR r :: st) h Q = tA sc iX11_init 288 ls (vR r :: vR r :: st) h Q := tA_pure mB_X11_init dX11_init_287 rfl
theorem rX11_init_288 : tA sc iX11_init 288 ls st h Q = tA sc iX11_init 289 ls (vI (2) :: st) h Q := tA_pure mB_X11_init dX11_init_288 rfl
theorem rX11_init_289 : tA sc iX11_init 289 ls st h Q = tA sc iX11_init 290 ls (vI (-1) :: st) h Q := tA_pure mB_X11_init dX11_init_289 rfl
theorem rX11_init_290 : tA sc iX11_init 290 ls (vI x :: vI j :: vR (some a) :: st) h Q = oz (tasi h a j x) (fun h' => tA sc iX11_init 291 ls st h' Q) := tA_iast mB_X11_init dX11_init_290
theorem rX11_init_291 : tA sc iX11_init 291 ls (vR r :: st) h Q = tA sc iX11_init 292 ls (vR r :: vR r :: st) h Q := tA_pure mB_X11_init dX11_init_291 rfl
theorem rX11_init_292 : tA sc iX11_init 292 ls st h Q = tA sc iX11_init 293 ls (vI (3) :: st) h Q := tA_pure mB_X11_init dX11_init_292 rfl
theorem rX11_init_293 : tA sc iX11_init 293 ls st h Q = tA sc iX11_init 294 ls (vI (-1) :: st) h Q := tA_pure mB_X11_init dX11_init_293 rfl
theorem rX11_init_294 : tA sc iX11_init 294 ls (vI x :: vI j :: vR (some a) :: st) h Q = oz (tasi h a j x) (fun h' => tA sc iX11_init 295 ls st h' Q) := tA_iast mB_X11_init dX11_init_294
theorem rX11_init_295 : tA sc iX11_init 295 ls (v :: vR (some o) :: st) h Q = oz (tput h o [11] 37 3 v) (fun h' => tA sc iX11_init 298 ls st h' Q) := tA_put mB_X11_init mO_X11_init dX11_init_295 fT_11_55 (Or.inr ⟨by decide, rfl⟩)
theorem rX11_init_298 : tA sc iX11_init 298 [vR r, l1] st h Q = tA sc iX11_init 299 [vR r, l1] (vR r :: st) h Q := tA_pure mB_X11_init dX11_init_298 rfl
theorem rX11_init_299 : tA sc iX11_init 299 ls st h Q = tA sc iX11_init 300 ls (vI (4) :: st) h Q := tA_pure mB_X11_init dX11_init_299 rfl
theorem rX11_init_300 : tA sc iX11_init 300 ls (vI x :: st) h Q = oz (tna h 0 x) (fun h' => tA sc iX11_init 302 ls (vR (some h.2.1) :: st) h' Q) := (tA_hp mB_X11_init dX11_init_300 (fun _ _ _ _ => rfl) (fun _ _ _ => rfl) rfl (fun _ _ => rfl) rfl).trans (oz_map _ _ _)
theorem rX11_init_302 : tA sc iX11_init 302 ls (v :: vR (some o) :: st) h Q = oz (tput h o [11] 38 3 v) (fun h' => tA sc iX11_init 305 ls st h' Q) := tA_put mB_X11_init mO_X11_init dX11_init_302 fT_11_58 (Or.inr ⟨by decide, rfl⟩)
theorem rX11_init_305 : tA sc iX11_init 305 [vR r, l1] st h Q = tA sc iX11_init 306 [vR r, l1] (vR r :: st) h Q := tA_pure mB_X11_init dX11_init_305 rfl
theorem rX11_init_306 : tA sc iX11_init 306 ls st h Q = tA sc iX11_init 309 ls (vI (160) :: st) h Q := tA_pure mB_X11_init dX11_init_306 rfl
theorem rX11_init_309 : tA sc iX11_init 309 ls (vI x :: st) h Q = oz (tna h 2 x) (fun h' => tA sc iX11_init 311 ls (vR (some h.2.1) :: st) h' Q) := (tA_hp mB_X11_init dX11_init_309 (fun _ _ _ _ => rfl) (fun _ _ _ => rfl) rfl (fun _ _ => rfl) rfl).trans (oz_map _ _ _)
theorem rX11_init_311 : tA sc iX11_init 311 ls (v :: vR (some o) :: st) h Q = oz (tput h o [11] 39 3 v) (fun h' => tA sc iX11_init 314 ls st h' Q) := tA_put mB_X11_init mO_X11_init dX11_init_311 fT_11_61 (Or.inr ⟨by decide, rfl⟩)
theorem rX11_init_314 : tA sc iX11_init 314 [vR r, l1] st h Q = tA sc iX11_init 315 [vR r, l1] (vR r :: st) h Q := tA_pure mB_X11_init dX11_init_314 rfl
theorem rX11_init_315 : tA sc iX11_init 315 ls st h Q = tA sc iX11_init 316 ls (vI (4) :: st) h Q := tA_pure mB_X11_init dX11_init_315 rfl
theorem rX11_init_316 : tA sc iX11_init 316 ls (vI x :: st) h Q = oz (tna h 0 x) (fun h' => tA sc iX11_init 318 ls (vR (some h.2.1) :: st) h' Q) := (tA_hp mB_X11_init dX11_init_316 (fun _ _ _ _ => rfl) (fun _ _ _ => rfl) rfl (fun _ _ => rfl) rfl).trans (oz_map _ _ _)
theorem rX11_init_318 : tA sc iX11_init 318 ls (vR r :: st) h Q = tA sc iX11_init 319 ls (vR r :: vR r :: st) h Q := tA_pure mB_X11_init dX11_init_318 rfl
theorem rX11_init_319 : tA sc iX11_init 319 ls st h Q = tA sc iX11_init 320 ls (vI (0) :: st) h Q := tA_pure mB_X11_init dX11_init_319 rfl
theorem rX11_init_320 : tA sc iX11_init 320 ls st h Q = tA sc iX11_init 321 ls (vI (-1) :: st) h Q := tA_pure mB_X11_init dX11_init_320 rfl
theorem rX11_init_321 : tA sc iX11_init 321 ls (vI x :: vI j :: vR (some a) :: st) h Q = oz (tasi h a j x) (fun h' => tA sc iX11_init 322 ls st h' Q) := tA_iast mB_X11_init dX11_init_321
theorem rX11_init_322 : tA sc iX11_init 322 ls (vR r :: st) h Q = tA sc iX11_init 323 ls (vR r :: vR r :: st) h Q := tA_pure mB_X11_init dX11_init_322 rfl
theorem rX11_init_323 : tA sc iX11_init 323 ls st h Q = tA sc iX11_init 324 ls (vI (1) :: st) h Q := tA_pure mB_X11_init dX11_init_323 rfl
theorem rX11_init_324 : tA sc iX11_init 324 ls st h Q = tA sc iX11_init 325 ls (vI (-1) :: st) h Q := tA_pure mB_X11_init dX11_init_324 rfl
theorem rX11_init_325 : tA sc iX11_init 325 ls (vI x :: vI j :: vR (some a) :: st) h Q = oz (tasi h a j x) (fun h' => tA sc iX11_init 326 ls st h' Q) := tA_iast mB_X11_init dX11_init_325
theorem rX11_init_326 : tA sc iX11_init 326 ls (vR r :: st) h Q = tA sc iX11_init 327 ls (vR r :: vR r :: st) h Q := tA_pure mB_X11_init dX11_init_326 rfl
theorem rX11_init_327 : tA sc iX11_init 327 ls st h Q = tA sc iX11_init 328 ls (vI (2) :: st) h Q := tA_pure mB_X11_init dX11_init_327 rfl
theorem rX11_init_328 : tA sc iX11_init 328 ls st h Q = tA sc iX11_init 329 ls (vI (-1) :: st) h Q := tA_pure mB_X11_init dX11_init_328 rfl
theorem rX11_init_329 : tA sc iX11_init 329 ls (vI x :: vI j :: vR (some a) :: st) h Q = oz (tasi h a j x) (fun h' => tA sc iX11_init 330 ls st h' Q) := tA_iast mB_X11_init dX11_init_329
theorem rX11_init_330 : tA sc iX11_init 330 ls (vR r :: st) h Q = tA sc iX11_init 331 ls (vR r :: vR r :: st) h Q := tA_pure mB_X11_init dX11_init_330 rfl
theorem rX11_init_331 : tA sc iX11_init 331 ls st h Q = tA sc iX11_init 332 ls (vI (3) :: st) h Q := tA_pure mB_X11_init dX11_init_331 rfl
theorem rX11_init_332 : tA sc iX11_init 332 ls st h Q = tA sc iX11_init 333 ls (vI (-1) :: st) h Q := tA_pure mB_X11_init dX11_init_332 rfl
theorem rX11_init_333 : tA sc iX11_init 333 ls (vI x :: vI j :: vR (some a) :: st) h Q = oz (tasi h a j x) (fun h' => tA sc iX11_init 334 ls st h' Q) := tA_iast mB_X11_init dX11_init_333
theorem rX11_init_334 : tA sc iX11_init 334 ls (v :: vR (some o) :: st) h Q = oz (tput h o [11] 40 3 v) (fun h' => tA sc iX11_init 337 ls st h' Q) := tA_put mB_X11_init mO_X11_init dX11_init_334 fT_11_65 (Or.inr ⟨by decide, rfl⟩)
theorem rX11_init_337 : tA sc iX11_init 337 [vR r, l1] st h Q = tA sc iX11_init 338 [vR r, l1] (vR r :: st) h Q := tA_pure mB_X11_init dX11_init_337 rfl
theorem rX11_init_338 : tA sc iX11_init 338 ls st h Q = tA sc iX11_init 339 ls (vI (4) :: st) h Q := tA_pure mB_X11_init dX11_init_338 rfl
theorem rX11_init_339 : tA sc iX11_init 339 ls (vI x :: st) h Q = oz (tna h 0 x) (fun h' => tA sc iX11_init 341 ls (vR (some h.2.1) :: st) h' Q) := (tA_hp mB_X11_init dX11_init_339 (fun _ _ _ _ => rfl) (fun _ _ _ => rfl) rfl (fun _ _ => rfl) rfl).trans (oz_map _ _ _)
theorem rX11_init_341 : tA sc iX11_init 341 ls (v :: vR (some o) :: st) h Q = oz (tput h o [11] 41 3 v) (fun h' => tA sc iX11_init 344 ls st h' Q) := tA_put mB_X11_init mO_X11_init dX11_init_341 fT_11_68 (Or.inr ⟨by decide, rfl⟩)
theorem rX11_init_344 : tA sc iX11_init 344 [vR r, l1] st h Q = tA sc iX11_init 345 [vR r, l1] (vR r :: st) h Q := tA_pure mB_X11_init dX11_init_344 rfl
theorem rX11_init_345 : tA sc iX11_init 345 ls st h Q = tA sc iX11_init 346 ls (vI (4) :: st) h Q := tA_pure mB_X11_init dX11_init_345 rfl
theorem rX11_init_346 : tA sc iX11_init 346 ls (vI x :: st) h Q = oz (tna h 0 x) (fun h' => tA sc iX11_init 348 ls (vR (some h.2.1) :: st) h' Q) := (tA_hp mB_X11_init dX11_init_346 (fun _ _ _ _ => rfl) (fun _ _ _ => rfl) rfl (fun _ _ => rfl) rfl).trans (oz_map _ _ _)
theorem rX11_init_348 : tA sc iX11_init 348 ls (v :: vR (some o) :: st) h Q = oz (tput h o [11] 42 3 v) (fun h' => tA sc iX11_init 351 ls st h' Q) := tA_put mB_X11_init mO_X11_init dX11_init_348 fT_11_71 (Or.inr ⟨by decide, rfl⟩)
theorem rX11_init_351 : tA sc iX11_init 351 [vR r, l1] st h Q = tA sc iX11_init 352 [vR r, l1] (vR r :: st) h Q := tA_pure mB_X11_init dX11_init_351 rfl
theorem rX11_init_352 : tA sc iX11_init 352 ls st h Q = tA sc iX11_init 354 ls (vI (30) :: st) h Q := tA_pure mB_X11_init dX11_init_352 rfl
theorem rX11_init_354 : tA sc iX11_init 354 ls (vI x :: st) h Q = oz (tna h 0 x) (fun h' => tA sc iX11_init 356 ls (vR (some h.2.1) :: st) h' Q) := (tA_hp mB_X11_init dX11_init_354 (fun _ _ _ _ => rfl) (fun _ _ _ => rfl) rfl (fun _ _ => rfl) rfl).trans (oz_map _ _ _)
theorem rX11_init_356 : tA sc iX11_init 356 ls (v :: vR (some o) :: st) h Q = oz (tput h o [11] 46 3 v) (fun h' => tA sc iX11_init 359 ls st h' Q) := tA_put mB_X11_init mO_X11_init dX11_init_356 fT_11_74 (Or.inr ⟨by decide, rfl⟩)
theorem rX11_init_359 : tA sc iX11_init 359 [vR r, l1] st h Q = tA sc iX11_init 360 [vR r, l1] (vR r :: st) h Q := tA_pure mB_X11_init dX11_init_359 rfl
theorem rX11_init_360 : tA sc iX11_init 360 ls st h Q = tA sc iX11_init 363 ls (vI (290) :: st) h Q := tA_pure mB_X11_init dX11_init_360 rfl
theorem rX11_init_363 : tA sc iX11_init 363 ls (vI x :: st) h Q = oz (tna h 0 x) (fun h' => tA sc iX11_init 365 ls (vR (some h.2.1) :: st) h' Q) := (tA_hp mB_X11_init dX11_init_363 (fun _ _ _ _ => rfl) (fun _ _ _ => rfl) rfl (fun _ _ => rfl) rfl).trans (oz_map _ _ _)
theorem rX11_init_365 : tA sc iX11_init 365 ls (v :: vR (some o) :: st) h Q = oz (tput h o [11] 50 3 v) (fun h' => tA sc iX11_init 368 ls st h' Q) := tA_put mB_X11_init mO_X11_init dX11_init_365 fT_11_77 (Or.inr ⟨by decide, rfl⟩)
theorem rX11_init_368 : tA sc iX11_init 368 [vR r, l1] st h Q = tA sc iX11_init 369 [vR r, l1] (vR r :: st) h Q := tA_pure mB_X11_init dX11_init_368 rfl
theorem rX11_init_369 : tA sc iX11_init 369 ls st h Q = tA sc iX11_init 370 ls (vI (1) :: st) h Q := tA_pure mB_X11_init dX11_init_369 rfl
theorem rX11_init_370 : tA sc iX11_init 370 ls (vI x :: st) h Q = oz (tna h 0 x) (fun h' => tA sc iX11_init 372 ls (vR (some h.2.1) :: st) h' Q) := (tA_hp mB_X11_init dX11_init_370 (fun _ _ _ _ => rfl) (fun _ _ _ => rfl) rfl (fun _ _ => rfl) rfl).trans (oz_map _ _ _)
theorem rX11_init_372 : tA sc iX11_init 372 ls (v :: vR (some o) :: st) h Q = oz (tput h o [11] 52 3 v) (fun h' => tA sc iX11_init 375 ls st h' Q) := tA_put mB_X11_init mO_X11_init dX11_init_372 fT_11_80 (Or.inr ⟨by decide, rfl⟩)
theorem rX11_init_375 : tA sc iX11_init 375 [vR r, l1] st h Q = tA sc iX11_init 376 [vR r, l1] (vR r :: st) h Q := tA_pure mB_X11_init dX11_init_375 rfl
theorem rX11_init_376 : tA sc iX11_init 376 ls (vR (some o) :: st) h Q = oz (tget h o [11] 0) (fun v => tA sc iX11_init 379 ls (v :: st) h Q) := tA_get mB_X11_init mO_X11_init dX11_init_376 fT_11_7
theorem rX11_init_379 : tA sc iX11_init 379 ls st h Q = tA sc iX11_init 380 ls (vI (1) :: st) h Q := tA_pure mB_X11_init dX11_init_379 rfl
theorem rX11_init_380 : tA sc iX11_init 380 ls st h Q = tA sc iX11_init 381 ls (vI (1) :: st) h Q := tA_pure mB_X11_init dX11_init_380 rfl
theorem rX11_init_381 : tA sc iX11_init 381 ls (vI x :: vI j :: vR (some a) :: st) h Q = oz (tasi h a j x) (fun h' => tA sc iX11_init 382 ls st h' Q) := tA_iast mB_X11_init dX11_init_381
theorem rX11_init_382 : tA sc iX11_init 382 ls st h Q = tA sc iX11_init 383 ls (vI (0) :: st) h Q := tA_pure mB_X11_init dX11_init_382 rfl
theorem rX11_init_383 : tA sc iX11_init 383 [l0, l1] (vI x :: st) h Q = tA sc iX11_init 384 [tclr l0, vI x] st h Q := tA_pure mB_X11_init dX11_init_383 rfl
theorem rX11_init_384 : tA sc iX11_init 384 [l0, vI x] st h Q = tA sc iX11_init 385 [l0, vI x] (vI x :: st) h Q := tA_pure mB_X11_init dX11_init_384 rfl
theorem rX11_init_385 : tA sc iX11_init 385 ls st h Q = tA sc iX11_init 387 ls (vI (20) :: st) h Q := tA_pure mB_X11_init dX11_init_385 rfl
theorem rX11_init_387 : tA sc iX11_init 387 ls (vI y :: vI x :: st) h Q = (if y ≤ x then tA sc iX11_init 415 ls st h Q else tA sc iX11_init 390 ls st h Q) := tA_if mB_X11_init dX11_init_387 (fun _ _ _ _ => rfl) rfl
theorem rX11_init_390 : tA sc iX11_init 390 [vR r, l1] st h Q = tA sc iX11_init 391 [vR r, l1] (vR r :: st) h Q := tA_pure mB_X11_init dX11_init_390 rfl
theorem rX11_init_391 : tA sc iX11_init 391 ls (vR (some o) :: st) h Q = oz (tget h o [11] 0) (fun v => tA sc iX11_init 394 ls (v :: st) h Q) := tA_get mB_X11_init mO_X11_init dX11_init_391 fT_11_7
theorem rX11_init_394 : tA sc iX11_init 394 ls st h Q = tA sc iX11_init 395 ls (vI (3) :: st) h Q := tA_pure mB_X11_init dX11_init_394 rfl
theorem rX11_init_395 : tA sc iX11_init 395 [l0, vI x] st h Q = tA sc iX11_init 396 [l0, vI x] (vI x :: st) h Q := tA_pure mB_X11_init dX11_init_395 rfl
theorem rX11_init_396 : tA sc iX11_init 396 ls (vI y :: vI x :: st) h Q = tA sc iX11_init 397 ls (vI (x + y) :: st) h Q := tA_pure mB_X11_init dX11_init_396 rfl
theorem rX11_init_397 : tA sc iX11_init 397 ls st h Q = tA sc iX11_init 398 ls (vI (-1) :: st) h Q := tA_pure mB_X11_init dX11_init_397 rfl
theorem rX11_init_398 : tA sc iX11_init 398 ls (vI x :: vI j :: vR (some a) :: st) h Q = oz (tasi h a j x) (fun h' => tA sc iX11_init 399 ls st h' Q) := tA_iast mB_X11_init dX11_init_398
theorem rX11_init_399 : tA sc iX11_init 399 [vR r, l1] st h Q = tA sc iX11_init 400 [vR r, l1] (vR r :: st) h Q := tA_pure mB_X11_init dX11_init_399 rfl
theorem rX11_init_400 : tA sc iX11_init 400 ls (vR (some o) :: st) h Q = oz (tget h o [11] 0) (fun v => tA sc iX11_init 403 ls (v :: st) h Q) := tA_get mB_X11_init mO_X11_init dX11_init_400 fT_11_7
theorem rX11_init_403 : tA sc iX11_init 403 ls st h Q = tA sc iX11_init 405 ls (vI (23) :: st) h Q := tA_pure mB_X11_init dX11_init_403 rfl
theorem rX11_init_405 : tA sc iX11_init 405 [l0, vI x] st h Q = tA sc iX11_init 406 [l0, vI x] (vI x :: st) h Q := tA_pure mB_X11_init dX11_init_405 rfl
theorem rX11_init_406 : tA sc iX11_init 406 ls (vI y :: vI x :: st) h Q = tA sc iX11_init 407 ls (vI (x + y) :: st) h Q := tA_pure mB_X11_init dX11_init_406 rfl
theorem rX11_init_407 : tA sc iX11_init 407 ls st h Q = tA sc iX11_init 408 ls (vI (-1) :: st) h Q := tA_pure mB_X11_init dX11_init_407 rfl
theorem rX11_init_408 : tA sc iX11_init 408 ls (vI x :: vI j :: vR (some a) :: st) h Q = oz (tasi h a j x) (fun h' => tA sc iX11_init 409 ls st h' Q) := tA_iast mB_X11_init dX11_init_408
theorem rX11_init_409 : tA sc iX11_init 409 [l0, vI x] st h Q = tA sc iX11_init 412 [tclr l0, vI (x + 1)] st h Q := tA_pure mB_X11_init dX11_init_409 rfl
theorem rX11_init_412 : tA sc iX11_init 412 ls st h Q = tA sc iX11_init 384 ls st h Q := tA_jump mB_X11_init dX11_init_412 (fun _ _ _ _ => rfl) rfl
theorem rX11_init_415 : tA sc iX11_init 415 ls st h Q = tA sc iX11_init 416 ls (vI (0) :: st) h Q := tA_pure mB_X11_init dX11_init_415 rfl
theorem rX11_init_416 : tA sc iX11_init 416 [l0, l1] (vI x :: st) h Q = tA sc iX11_init 417 [tclr l0, vI x] st h Q := tA_pure mB_X11_init dX11_init_416 rfl
theorem rX11_init_417 : tA sc iX11_init 417 [l0, vI x] st h Q = tA sc iX11_init 418 [l0, vI x] (vI x :: st) h Q := tA_pure mB_X11_init dX11_init_417 rfl
theorem rX11_init_418 : tA sc iX11_init 418 ls st h Q = tA sc iX11_init 420 ls (vI (80) :: st) h Q := tA_pure mB_X11_init dX11_init_418 rfl
theorem rX11_init_420 : tA sc iX11_init 420 ls (vI y :: vI x :: st) h Q = (if y ≤ x then tA sc iX11_init 436 ls st h Q else tA sc iX11_init 423 ls st h Q) := tA_if mB_X11_init dX11_init_420 (fun _ _ _ _ => rfl) rfl
theorem rX11_init_423 : tA sc iX11_init 423 [vR r, l1] st h Q = tA sc iX11_init 424 [vR r, l1] (vR r :: st) h Q := tA_pure mB_X11_init dX11_init_423 rfl
theorem rX11_init_424 : tA sc iX11_init 424 ls (vR (some o) :: st) h Q = oz (tget h o [11] 3) (fun v => tA sc iX11_init 427 ls (v :: st) h Q) := tA_get mB_X11_init mO_X11_init dX11_init_424 fT_11_16
theorem rX11_init_427 : tA sc iX11_init 427 [l0, vI x] st h Q = tA sc iX11_init 428 [l0, vI x] (vI x :: st) h Q := tA_pure mB_X11_init dX11_init_427 rfl
theorem rX11_init_428 : tA sc iX11_init 428 ls st h Q = tA sc iX11_init 429 ls (vI (1) :: st) h Q := tA_pure mB_X11_init dX11_init_428 rfl
theorem rX11_init_429 : tA sc iX11_init 429 ls (vI x :: vI j :: vR (some a) :: st) h Q = oz (tasi h a j x) (fun h' => tA sc iX11_init 430 ls st h' Q) := tA_iast mB_X11_init dX11_init_429
theorem rX11_init_430 : tA sc iX11_init 430 [l0, vI x] st h Q = tA sc iX11_init 433 [tclr l0, vI (x + 1)] st h Q := tA_pure mB_X11_init dX11_init_430 rfl
theorem rX11_init_433 : tA sc iX11_init 433 ls st h Q = tA sc iX11_init 417 ls st h Q := tA_jump mB_X11_init dX11_init_433 (fun _ _ _ _ => rfl) rfl
theorem rX11_init_436 : tA sc iX11_init 436 ls [] h Q = Q (none) h := tA_ret mB_X11_init dX11_init_436 (fun _ _ _ _ => rfl) (fun _ _ _ => rfl) (fun _ _ _ _ _ => rfl) rfl rfl
theorem mB_X11_in : mB iX11_in = cX11_in := rfl
theorem mO_X11_in : mO iX11_in = 11 := rfl
theorem rX11_in_0 : tA sc iX11_in 0 [vI x, l1, l2] st h Q = tA sc iX11_in 1 [vI x, l1, l2] (vI x :: st) h Q := tA_pure mB_X11_in dX11_in_0 rfl
theorem rX11_in_1 : tA sc iX11_in 1 [l0, vI x, l2] st h Q = tA sc iX11_in 2 [l0, vI x, l2] (vI x :: st) h Q := tA_pure mB_X11_in dX11_in_1 rfl
theorem rX11_in_2 : tA sc iX11_in 2 ls (vI y :: vI x :: st) h Q = (if x < y then tA sc iX11_in 14 ls st h Q else tA sc iX11_in 5 ls st h Q) := tA_if mB_X11_in dX11_in_2 (fun _ _ _ _ => rfl) rfl
theorem rX11_in_5 : tA sc iX11_in 5 [vI x, l1, l2] st h Q = tA sc iX11_in 6 [vI x, l1, l2] (vI x :: st) h Q := tA_pure mB_X11_in dX11_in_5 rfl
theorem rX11_in_6 : tA sc iX11_in 6 [l0, l1, vI x] st h Q = tA sc iX11_in 7 [l0, l1, vI x] (vI x :: st) h Q := tA_pure mB_X11_in dX11_in_6 rfl
theorem rX11_in_7 : tA sc iX11_in 7 ls (vI y :: vI x :: st) h Q = (if y < x then tA sc iX11_in 14 ls st h Q else tA sc iX11_in 10 ls st h Q) := tA_if mB_X11_in dX11_in_7 (fun _ _ _ _ => rfl) rfl
theorem rX11_in_10 : tA sc iX11_in 10 ls st h Q = tA sc iX11_in 11 ls (vI (1) :: st) h Q := tA_pure mB_X11_in dX11_in_10 rfl
theorem rX11_in_11 : tA sc iX11_in 11 ls st h Q = tA sc iX11_in 15 ls st h Q := tA_jump mB_X11_in dX11_in_11 (fun _ _ _ _ => rfl) rfl
theorem rX11_in_14 : tA sc iX11_in 14 ls st h Q = tA sc iX11_in 15 ls (vI (0) :: st) h Q := tA_pure mB_X11_in dX11_in_14 rfl
theorem rX11_in_15 : tA sc iX11_in 15 ls [vI x] h Q = ((x = 0 ∨ x = 1) ∧ Q (some (vI x)) h) := tA_retz mB_X11_in dX11_in_15 rfl
theorem mB_X11_isDay : mB iX11_isDay = cX11_isDay := rfl
theorem mO_X11_isDay : mO iX11_isDay = 11 := rfl
theorem rX11_isDay_0 : tA sc iX11_isDay 0 [vI x] st h Q = tA sc iX11_isDay 1 [vI x] (vI x :: st) h Q := tA_pure mB_X11_isDay dX11_isDay_0 rfl
theorem rX11_isDay_1 : tA sc iX11_isDay 1 ls st h Q = tA sc iX11_isDay 2 ls (vI (0) :: st) h Q := tA_pure mB_X11_isDay dX11_isDay_1 rfl
theorem rX11_isDay_2 : tA sc iX11_isDay 2 ls st h Q = tA sc iX11_isDay 4 ls (vI (19) :: st) h Q := tA_pure mB_X11_isDay dX11_isDay_2 rfl
theorem rX11_isDay_4 : tA sc iX11_isDay 4 ls [vI p2, vI p1, vI p0] h Q = tA sc iX11_in 0 [vI p0, vI p1, vI p2] [] h (fun v h1 => tA sc iX11_isDay 7 ls (tpu v []) h1 Q) := tA_cS mB_X11_isDay mO_X11_isDay dX11_isDay_4 cT_11_83 ⟨Nat.le_of_ble_eq_true rfl, Nat.le_of_ble_eq_true rfl⟩ rfl rfl rfl rfl
theorem rX11_isDay_7 : tA sc iX11_isDay 7 ls [vI x] h Q = ((x = 0 ∨ x = 1) ∧ Q (some (vI x)) h) := tA_retz mB_X11_isDay dX11_isDay_7 rfl
theorem mB_X11_isWeather : mB iX11_isWeather = cX11_isWeather := rfl
theorem mO_X11_isWeather : mO iX11_isWeather = 11 := rfl
theorem rX11_isWeather_0 : tA sc iX11_isWeather 0 [vI x] st h Q = tA sc iX11_isWeather 1 [vI x] (vI x :: st) h Q := tA_pure mB_X11_isWeather dX11_isWeather_0 rfl
theorem rX11_isWeather_1 : tA sc iX11_isWeather 1 ls st h Q = tA sc iX11_isWeather 2 ls (vI (0) :: st) h Q := tA_pure mB_X11_isWeather dX11_isWeather_1 rfl
theorem rX11_isWeather_2 : tA sc iX11_isWeather 2 ls st h Q = tA sc iX11_isWeather 3 ls (vI (3) :: st) h Q := tA_pure mB_X11_isWeather dX11_isWeather_2 rfl
theorem rX11_isWeather_3 : tA sc iX11_isWeather 3 ls [vI p2, vI p1, vI p0] h Q = tA sc iX11_in 0 [vI p0, vI p1, vI p2] [] h (fun v h1 => tA sc iX11_isWeather 6 ls (tpu v []) h1 Q) := tA_cS mB_X11_isWeather mO_X11_isWeather dX11_isWeather_3 cT_11_83 ⟨Nat.le_of_ble_eq_true rfl, Nat.le_of_ble_eq_true rfl⟩ rfl rfl rfl rfl
theorem rX11_isWeather_6 : tA sc iX11_isWeather 6 ls [vI x] h Q = ((x = 0 ∨ x = 1) ∧ Q (some (vI x)) h) := tA_retz mB_X11_isWeather dX11_isWeather_6 rfl
theorem mB_X11_isSayer : mB iX11_isSayer = cX11_isSayer := rfl
theorem mO_X11_isSayer : mO iX11_isSayer = 11 := rfl
theorem rX11_isSayer_0 : tA sc iX11_isSayer 0 [l0, vI x] st h Q = tA sc iX11_isSayer 1 [l0, vI x] (vI x :: st) h Q := tA_pure mB_X11_isSayer dX11_isSayer_0 rfl
theorem rX11_isSayer_1 : tA sc iX11_isSayer 1 ls st h Q = tA sc iX11_isSayer 2 ls (vI (0) :: st) h Q := tA_pure mB_X11_isSayer dX11_isSayer_1 rfl
theorem rX11_isSayer_2 : tA sc iX11_isSayer 2 [vR r, l1] st h Q = tA sc iX11_isSayer 3 [vR r, l1] (vR r :: st) h Q := tA_pure mB_X11_isSayer dX11_isSayer_2 rfl
theorem rX11_isSayer_3 : tA sc iX11_isSayer 3 ls (vR (some o) :: st) h Q = oz (tget h o [11] 4) (fun v => tA sc iX11_isSayer 6 ls (v :: st) h Q) := tA_get mB_X11_isSayer mO_X11_isSayer dX11_isSayer_3 fT_11_87
theorem rX11_isSayer_6 : tA sc iX11_isSayer 6 ls st h Q = tA sc iX11_isSayer 7 ls (vI (1) :: st) h Q := tA_pure mB_X11_isSayer dX11_isSayer_6 rfl
theorem rX11_isSayer_7 : tA sc iX11_isSayer 7 ls (vI y :: vI x :: st) h Q = tA sc iX11_isSayer 8 ls (vI (x - y) :: st) h Q := tA_pure mB_X11_isSayer dX11_isSayer_7 rfl
theorem rX11_isSayer_8 : tA sc iX11_isSayer 8 ls [vI p2, vI p1, vI p0] h Q = tA sc iX11_in 0 [vI p0, vI p1, vI p2] [] h (fun v h1 => tA sc iX11_isSayer 11 ls (tpu v []) h1 Q) := tA_cS mB_X11_isSayer mO_X11_isSayer dX11_isSayer_8 cT_11_83 ⟨Nat.le_of_ble_eq_true rfl, Nat.le_of_ble_eq_true rfl⟩ rfl rfl rfl rfl
theorem rX11_isSayer_11 : tA sc iX11_isSayer 11 ls [vI x] h Q = ((x = 0 ∨ x = 1) ∧ Q (some (vI x)) h) := tA_retz mB_X11_isSayer dX11_isSayer_11 rfl
theorem mB_X11_isSide : mB iX11_isSide = cX11_isSide := rfl
theorem mO_X11_isSide : mO iX11_isSide = 11 := rfl
theorem rX11_isSide_0 : tA sc iX11_isSide 0 [vI x] st h Q = tA sc iX11_isSide 1 [vI x] (vI x :: st) h Q := tA_pure mB_X11_isSide dX11_isSide_0 rfl
theorem rX11_isSide_1 : tA sc iX11_isSide 1 ls st h Q = tA sc iX11_isSide 2 ls (vI (0) :: st) h Q := tA_pure mB_X11_isSide dX11_isSide_1 rfl
theorem rX11_isSide_2 : tA sc iX11_isSide 2 ls st h Q = tA sc iX11_isSide 3 ls (vI (1) :: st) h Q := tA_pure mB_X11_isSide dX11_isSide_2 rfl
theorem rX11_isSide_3 : tA sc iX11_isSide 3 ls [vI p2, vI p1, vI p0] h Q = tA sc iX11_in 0 [vI p0, vI p1, vI p2] [] h (fun v h1 => tA sc iX11_isSide 6 ls (tpu v []) h1 Q) := tA_cS mB_X11_isSide mO_X11_isSide dX11_isSide_3 cT_11_83 ⟨Nat.le_of_ble_eq_true rfl, Nat.le_of_ble_eq_true rfl⟩ rfl rfl rfl rfl
theorem rX11_isSide_6 : tA sc iX11_isSide 6 ls [vI x] h Q = ((x = 0 ∨ x = 1) ∧ Q (some (vI x)) h) := tA_retz mB_X11_isSide dX11_isSide_6 rfl
theorem mB_X11_its : mB iX11_its = cX11_its := rfl
theorem mO_X11_its : mO iX11_its = 11 := rfl
theorem rX11_its_0 : tA sc iX11_its 0 [vR r, l1] st h Q = tA sc iX11_its 1 [vR r, l1] (vR r :: st) h Q := tA_pure mB_X11_its dX11_its_0 rfl
theorem rX11_its_1 : tA sc iX11_its 1 ls (vR (some o) :: st) h Q = oz (tget h o [11] 0) (fun v => tA sc iX11_its 4 ls (v :: st) h Q) := tA_get mB_X11_its mO_X11_its dX11_its_1 fT_11_7
theorem rX11_its_4 : tA sc iX11_its 4 [vR r, l1] st h Q = tA sc iX11_its 5 [vR r, l1] (vR r :: st) h Q := tA_pure mB_X11_its dX11_its_4 rfl
theorem rX11_its_5 : tA sc iX11_its 5 ls (vR (some o) :: st) h Q = oz (tget h o [11] 1) (fun v => tA sc iX11_its 8 ls (v :: st) h Q) := tA_get mB_X11_its mO_X11_its dX11_its_5 fT_11_91
theorem rX11_its_8 : tA sc iX11_its 8 [l0, vI x] st h Q = tA sc iX11_its 9 [l0, vI x] (vI x :: st) h Q := tA_pure mB_X11_its dX11_its_8 rfl
theorem rX11_its_9 : tA sc iX11_its 9 ls (vI y :: vI x :: st) h Q = tA sc iX11_its 10 ls (vI (x + y) :: st) h Q := tA_pure mB_X11_its dX11_its_9 rfl
theorem rX11_its_10 : tA sc iX11_its 10 ls (vI j :: vR (some a) :: st) h Q = oz (tald sc h 0 a j) (fun v => tA sc iX11_its 11 ls (vI v :: st) h Q) := tA_iald mB_X11_its dX11_its_10
theorem rX11_its_11 : tA sc iX11_its 11 ls [vI x] h Q = Q (some (vI x)) h := tA_ret mB_X11_its dX11_its_11 (fun _ _ _ _ => rfl) (fun _ _ _ => rfl) (fun _ _ _ _ _ => rfl) rfl rfl
theorem mB_X11_saying : mB iX11_saying = cX11_saying := rfl
theorem mO_X11_saying : mO iX11_saying = 11 := rfl
theorem rX11_saying_0 : tA sc iX11_saying 0 [vR r, l1, l2] st h Q = tA sc iX11_saying 1 [vR r, l1, l2] (vR r :: st) h Q := tA_pure mB_X11_saying dX11_saying_0 rfl
theorem rX11_saying_1 : tA sc iX11_saying 1 ls (vR (some o) :: st) h Q = oz (tget h o [11] 0) (fun v => tA sc iX11_saying 4 ls (v :: st) h Q) := tA_get mB_X11_saying mO_X11_saying dX11_saying_1 fT_11_7
theorem rX11_saying_4 : tA sc iX11_saying 4 [vR r, l1, l2] st h Q = tA sc iX11_saying 5 [vR r, l1, l2] (vR r :: st) h Q := tA_pure mB_X11_saying dX11_saying_4 rfl
theorem rX11_saying_5 : tA sc iX11_saying 5 ls (vR (some o) :: st) h Q = oz (tget h o [11] 1) (fun v => tA sc iX11_saying 8 ls (v :: st) h Q) := tA_get mB_X11_saying mO_X11_saying dX11_saying_5 fT_11_91
theorem rX11_saying_8 : tA sc iX11_saying 8 ls st h Q = tA sc iX11_saying 10 ls (vI (48) :: st) h Q := tA_pure mB_X11_saying dX11_saying_8 rfl
theorem rX11_saying_10 : tA sc iX11_saying 10 ls (vI y :: vI x :: st) h Q = tA sc iX11_saying 11 ls (vI (x + y) :: st) h Q := tA_pure mB_X11_saying dX11_saying_10 rfl
theorem rX11_saying_11 : tA sc iX11_saying 11 ls st h Q = tA sc iX11_saying 12 ls (vI (3) :: st) h Q := tA_pure mB_X11_saying dX11_saying_11 rfl
theorem rX11_saying_12 : tA sc iX11_saying 12 [l0, vI x, l2] st h Q = tA sc iX11_saying 13 [l0, vI x, l2] (vI x :: st) h Q := tA_pure mB_X11_saying dX11_saying_12 rfl
theorem rX11_saying_13 : tA sc iX11_saying 13 ls (vI y :: vI x :: st) h Q = tA sc iX11_saying 14 ls (vI (x * y) :: st) h Q := tA_pure mB_X11_saying dX11_saying_13 rfl
theorem rX11_saying_14 : tA sc iX11_saying 14 ls (vI y :: vI x :: st) h Q = tA sc iX11_saying 15 ls (vI (x + y) :: st) h Q := tA_pure mB_X11_saying dX11_saying_14 rfl
theorem rX11_saying_15 : tA sc iX11_saying 15 [l0, l1, vI x] st h Q = tA sc iX11_saying 16 [l0, l1, vI x] (vI x :: st) h Q := tA_pure mB_X11_saying dX11_saying_15 rfl
theorem rX11_saying_16 : tA sc iX11_saying 16 ls (vI y :: vI x :: st) h Q = tA sc iX11_saying 17 ls (vI (x + y) :: st) h Q := tA_pure mB_X11_saying dX11_saying_16 rfl
theorem rX11_saying_17 : tA sc iX11_saying 17 ls (vI j :: vR (some a) :: st) h Q = oz (tald sc h 0 a j) (fun v => tA sc iX11_saying 18 ls (vI v :: st) h Q) := tA_iald mB_X11_saying dX11_saying_17
theorem rX11_saying_18 : tA sc iX11_saying 18 ls [vI x] h Q = Q (some (vI x)) h := tA_ret mB_X11_saying dX11_saying_18 (fun _ _ _ _ => rfl) (fun _ _ _ => rfl) (fun _ _ _ _ _ => rfl) rfl rfl
theorem mB_X11_kindOf : mB iX11_kindOf = cX11_kindOf := rfl
theorem mO_X11_kindOf : mO iX11_kindOf = 11 := rfl
theorem rX11_kindOf_0 : tA sc iX11_kindOf 0 [vR r, l1] st h Q = tA sc iX11_kindOf 1 [vR r, l1] (vR r :: st) h Q := tA_pure mB_X11_kindOf dX11_kindOf_0 rfl
theorem rX11_kindOf_1 : tA sc iX11_kindOf 1 ls (vR (some o) :: st) h Q = oz (tget h o [11] 5) (fun v => tA sc iX11_kindOf 4 ls (v :: st) h Q) := tA_get mB_X11_kindOf mO_X11_kindOf dX11_kindOf_1 fT_11_19
theorem rX11_kindOf_4 : tA sc iX11_kindOf 4 ls st h Q = tA sc iX11_kindOf 5 ls (vI (2) :: st) h Q := tA_pure mB_X11_kindOf dX11_kindOf_4 rfl
theorem rX11_kindOf_5 : tA sc iX11_kindOf 5 [l0, vI x] st h Q = tA sc iX11_kindOf 6 [l0, vI x] (vI x :: st) h Q := tA_pure mB_X11_kindOf dX11_kindOf_5 rfl
theorem rX11_kindOf_6 : tA sc iX11_kindOf 6 ls (vI y :: vI x :: st) h Q = tA sc iX11_kindOf 7 ls (vI (x * y) :: st) h Q := tA_pure mB_X11_kindOf dX11_kindOf_6 rfl
theorem rX11_kindOf_7 : tA sc iX11_kindOf 7 ls (vI j :: vR (some a) :: st) h Q = oz (tald sc h 0 a j) (fun v => tA sc iX11_kindOf 8 ls (vI v :: st) h Q) := tA_iald mB_X11_kindOf dX11_kindOf_7
theorem rX11_kindOf_8 : tA sc iX11_kindOf 8 ls [vI x] h Q = Q (some (vI x)) h := tA_ret mB_X11_kindOf dX11_kindOf_8 (fun _ _ _ _ => rfl) (fun _ _ _ => rfl) (fun _ _ _ _ _ => rfl) rfl rfl
theorem mB_X11_aOf : mB iX11_aOf = cX11_aOf := rfl
theorem mO_X11_aOf : mO iX11_aOf = 11 := rfl
theorem rX11_aOf_0 : tA sc iX11_aOf 0 [vR r, l1] st h Q = tA sc iX11_aOf 1 [vR r, l1] (vR r :: st) h Q := tA_pure mB_X11_aOf dX11_aOf_0 rfl
theorem rX11_aOf_1 : tA sc iX11_aOf 1 ls (vR (some o) :: st) h Q = oz (tget h o [11] 5) (fun v => tA sc iX11_aOf 4 ls (v :: st) h Q) := tA_get mB_X11_aOf mO_X11_aOf dX11_aOf_1 fT_11_19
theorem rX11_aOf_4 : tA sc iX11_aOf 4 ls st h Q = tA sc iX11_aOf 5 ls (vI (2) :: st) h Q := tA_pure mB_X11_aOf dX11_aOf_4 rfl
theorem rX11_aOf_5 : tA sc iX11_aOf 5 [l0, vI x] st h Q = tA sc iX11_aOf 6 [l0, vI x] (vI x :: st) h Q := tA_pure mB_X11_aOf dX11_aOf_5 rfl
theorem rX11_aOf_6 : tA sc iX11_aOf 6 ls (vI y :: vI x :: st) h Q = tA sc iX11_aOf 7 ls (vI (x * y) :: st) h Q := tA_pure mB_X11_aOf dX11_aOf_6 rfl
theorem rX11_aOf_7 : tA sc iX11_aOf 7 ls st h Q = tA sc iX11_aOf 8 ls (vI (1) :: st) h Q := tA_pure mB_X11_aOf dX11_aOf_7 rfl
theorem rX11_aOf_8 : tA sc iX11_aOf 8 ls (vI y :: vI x :: st) h Q = tA sc iX11_aOf 9 ls (vI (x + y) :: st) h Q := tA_pure mB_X11_aOf dX11_aOf_8 rfl
theorem rX11_aOf_9 : tA sc iX11_aOf 9 ls (vI j :: vR (some a) :: st) h Q = oz (tald sc h 0 a j) (fun v => tA sc iX11_aOf 10 ls (vI v :: st) h Q) := tA_iald mB_X11_aOf dX11_aOf_9
theorem rX11_aOf_10 : tA sc iX11_aOf 10 ls [vI x] h Q = Q (some (vI x)) h := tA_ret mB_X11_aOf dX11_aOf_10 (fun _ _ _ _ => rfl) (fun _ _ _ => rfl) (fun _ _ _ _ _ => rfl) rfl rfl
theorem mB_X11_feed : mB iX11_feed = cX11_feed := rfl
theorem mO_X11_feed : mO iX11_feed = 11 := rfl
theorem rX11_feed_0 : tA sc iX11_feed 0 [l0, l1, l2, vI x, l4] st h Q = tA sc iX11_feed 1 [l0, l1, l2, vI x, l4] (vI x :: st) h Q := tA_pure mB_X11_feed dX11_feed_0 rfl
theorem rX11_feed_1 : tA sc iX11_feed 1 ls st h Q = tA sc iX11_feed 2 ls (vI (1) :: st) h Q := tA_pure mB_X11_feed dX11_feed_1 rfl
theorem rX11_feed_2 : tA sc iX11_feed 2 ls st h Q = tA sc iX11_feed 4 ls (vI (8) :: st) h Q := tA_pure mB_X11_feed dX11_feed_2 rfl
theorem rX11_feed_4 : tA sc iX11_feed 4 ls [vI p2, vI p1, vI p0] h Q = tA sc iX11_in 0 [vI p0, vI p1, vI p2] [] h (fun v h1 => tA sc iX11_feed 7 ls (tpu v []) h1 Q) := tA_cS mB_X11_feed mO_X11_feed dX11_feed_4 cT_11_83 ⟨Nat.le_of_ble_eq_true rfl, Nat.le_of_ble_eq_true rfl⟩ rfl rfl rfl rfl
theorem rX11_feed_7 : tA sc iX11_feed 7 ls (vI x :: st) h Q = (if ¬ x = 0 then tA sc iX11_feed 12 ls st h Q else tA sc iX11_feed 10 ls st h Q) := tA_if mB_X11_feed dX11_feed_7 (fun _ _ _ _ => rfl) rfl
theorem rX11_feed_10 : tA sc iX11_feed 10 ls st h Q = tA sc iX11_feed 11 ls (vI (-1) :: st) h Q := tA_pure mB_X11_feed dX11_feed_10 rfl
theorem rX11_feed_11 : tA sc iX11_feed 11 ls [vI x] h Q = Q (some (vI x)) h := tA_ret mB_X11_feed dX11_feed_11 (fun _ _ _ _ => rfl) (fun _ _ _ => rfl) (fun _ _ _ _ _ => rfl) rfl rfl
theorem rX11_feed_12 : tA sc iX11_feed 12 [vR r, l1, l2, l3, l4] st h Q = tA sc iX11_feed 13 [vR r, l1, l2, l3, l4] (vR r :: st) h Q := tA_pure mB_X11_feed dX11_feed_12 rfl
theorem rX11_feed_13 : tA sc iX11_feed 13 ls (vR (some o) :: st) h Q = oz (tget h o [11] 9) (fun v => tA sc iX11_feed 16 ls (v :: st) h Q) := tA_get mB_X11_feed mO_X11_feed dX11_feed_13 fT_11_94
theorem rX11_feed_16 : tA sc iX11_feed 16 [l0, l1, l2, vI x, l4] st h Q = tA sc iX11_feed 17 [l0, l1, l2, vI x, l4] (vI x :: st) h Q := tA_pure mB_X11_feed dX11_feed_16 rfl
theorem rX11_feed_17 : tA sc iX11_feed 17 ls (vI y :: vI x :: st) h Q = tA sc iX11_feed 18 ls (vI (x + y) :: st) h Q := tA_pure mB_X11_feed dX11_feed_17 rfl
theorem rX11_feed_18 : tA sc iX11_feed 18 ls st h Q = tA sc iX11_feed 21 ls (vI (240) :: st) h Q := tA_pure mB_X11_feed dX11_feed_18 rfl
theorem rX11_feed_21 : tA sc iX11_feed 21 ls (vI y :: vI x :: st) h Q = (if x ≤ y then tA sc iX11_feed 27 ls st h Q else tA sc iX11_feed 24 ls st h Q) := tA_if mB_X11_feed dX11_feed_21 (fun _ _ _ _ => rfl) rfl
theorem rX11_feed_24 : tA sc iX11_feed 24 ls st h Q = tA sc iX11_feed 26 ls (vI (-2) :: st) h Q := tA_pure mB_X11_feed dX11_feed_24 rfl
theorem rX11_feed_26 : tA sc iX11_feed 26 ls [vI x] h Q = Q (some (vI x)) h := tA_ret mB_X11_feed dX11_feed_26 (fun _ _ _ _ => rfl) (fun _ _ _ => rfl) (fun _ _ _ _ _ => rfl) rfl rfl
theorem rX11_feed_27 : tA sc iX11_feed 27 ls st h Q = tA sc iX11_feed 28 ls (vI (0) :: st) h Q := tA_pure mB_X11_feed dX11_feed_27 rfl
theorem rX11_feed_28 : tA sc iX11_feed 28 [l0, l1, l2, l3, l4] (vI x :: st) h Q = tA sc iX11_feed 30 [l0, l1, l2, tclr l3, vI x] st h Q := tA_pure mB_X11_feed dX11_feed_28 rfl
theorem rX11_feed_30 : tA sc iX11_feed 30 [l0, l1, l2, l3, vI x] st h Q = tA sc iX11_feed 32 [l0, l1, l2, l3, vI x] (vI x :: st) h Q := tA_pure mB_X11_feed dX11_feed_30 rfl
theorem rX11_feed_32 : tA sc iX11_feed 32 [l0, l1, l2, vI x, l4] st h Q = tA sc iX11_feed 33 [l0, l1, l2, vI x, l4] (vI x :: st) h Q := tA_pure mB_X11_feed dX11_feed_32 rfl
theorem rX11_feed_33 : tA sc iX11_feed 33 ls (vI y :: vI x :: st) h Q = (if y ≤ x then tA sc iX11_feed 73 ls st h Q else tA sc iX11_feed 36 ls st h Q) := tA_if mB_X11_feed dX11_feed_33 (fun _ _ _ _ => rfl) rfl
theorem rX11_feed_36 : tA sc iX11_feed 36 [vR r, l1, l2, l3, l4] st h Q = tA sc iX11_feed 37 [vR r, l1, l2, l3, l4] (vR r :: st) h Q := tA_pure mB_X11_feed dX11_feed_36 rfl
theorem rX11_feed_37 : tA sc iX11_feed 37 ls (vR (some o) :: st) h Q = oz (tget h o [11] 8) (fun v => tA sc iX11_feed 40 ls (v :: st) h Q) := tA_get mB_X11_feed mO_X11_feed dX11_feed_37 fT_11_28
theorem rX11_feed_40 : tA sc iX11_feed 40 [vR r, l1, l2, l3, l4] st h Q = tA sc iX11_feed 41 [vR r, l1, l2, l3, l4] (vR r :: st) h Q := tA_pure mB_X11_feed dX11_feed_40 rfl
theorem rX11_feed_41 : tA sc iX11_feed 41 ls (vR (some o) :: st) h Q = oz (tget h o [11] 9) (fun v => tA sc iX11_feed 44 ls (v :: st) h Q) := tA_get mB_X11_feed mO_X11_feed dX11_feed_41 fT_11_94
theorem rX11_feed_44 : tA sc iX11_feed 44 [l0, vL u, l2, l3, l4] st h Q = tA sc iX11_feed 45 [l0, vL u, l2, l3, l4] (vL u :: st) h Q := tA_pure mB_X11_feed dX11_feed_44 rfl
theorem rX11_feed_45 : tA sc iX11_feed 45 ls st h Q = tA sc iX11_feed 47 ls (vI (8) :: st) h Q := tA_pure mB_X11_feed dX11_feed_45 rfl
theorem rX11_feed_47 : tA sc iX11_feed 47 [l0, l1, l2, l3, vI x] st h Q = tA sc iX11_feed 49 [l0, l1, l2, l3, vI x] (vI x :: st) h Q := tA_pure mB_X11_feed dX11_feed_47 rfl
theorem rX11_feed_49 : tA sc iX11_feed 49 ls (vI y :: vI x :: st) h Q = tA sc iX11_feed 50 ls (vI (x * y) :: st) h Q := tA_pure mB_X11_feed dX11_feed_49 rfl
theorem rX11_feed_50 : tA sc iX11_feed 50 ls (vI y :: vL u :: st) h Q = tA sc iX11_feed 51 ls (vL (u >>> (y.toInt64 &&& 63)) :: st) h Q := tA_pure mB_X11_feed dX11_feed_50 rfl
theorem rX11_feed_51 : tA sc iX11_feed 51 ls st h Q = tA sc iX11_feed 54 ls (vL (255) :: st) h Q := tA_pure mB_X11_feed dX11_feed_51 rfl
theorem rX11_feed_54 : tA sc iX11_feed 54 ls (vL w :: vL u :: st) h Q = tA sc iX11_feed 55 ls (vL (u &&& w) :: st) h Q := tA_pure mB_X11_feed dX11_feed_54 rfl
theorem rX11_feed_55 : tA sc iX11_feed 55 ls (vL u :: st) h Q = tA sc iX11_feed 56 ls (vI u.toInt32 :: st) h Q := tA_pure mB_X11_feed dX11_feed_55 rfl
theorem rX11_feed_56 : tA sc iX11_feed 56 ls (vI x :: vI j :: vR (some a) :: st) h Q = oz (tasi h a j x) (fun h' => tA sc iX11_feed 57 ls st h' Q) := tA_iast mB_X11_feed dX11_feed_56
theorem rX11_feed_57 : tA sc iX11_feed 57 [vR r, l1, l2, l3, l4] st h Q = tA sc iX11_feed 58 [vR r, l1, l2, l3, l4] (vR r :: st) h Q := tA_pure mB_X11_feed dX11_feed_57 rfl
theorem rX11_feed_58 : tA sc iX11_feed 58 ls (vR r :: st) h Q = tA sc iX11_feed 59 ls (vR r :: vR r :: st) h Q := tA_pure mB_X11_feed dX11_feed_58 rfl
theorem rX11_feed_59 : tA sc iX11_feed 59 ls (vR (some o) :: st) h Q = oz (tget h o [11] 9) (fun v => tA sc iX11_feed 62 ls (v :: st) h Q) := tA_get mB_X11_feed mO_X11_feed dX11_feed_59 fT_11_94
theorem rX11_feed_62 : tA sc iX11_feed 62 ls st h Q = tA sc iX11_feed 63 ls (vI (1) :: st) h Q := tA_pure mB_X11_feed dX11_feed_62 rfl
theorem rX11_feed_63 : tA sc iX11_feed 63 ls (vI y :: vI x :: st) h Q = tA sc iX11_feed 64 ls (vI (x + y) :: st) h Q := tA_pure mB_X11_feed dX11_feed_63 rfl
theorem rX11_feed_64 : tA sc iX11_feed 64 ls (v :: vR (some o) :: st) h Q = oz (tput h o [11] 9 0 v) (fun h' => tA sc iX11_feed 67 ls st h' Q) := tA_put mB_X11_feed mO_X11_feed dX11_feed_64 fT_11_94 (Or.inl (by decide))
theorem rX11_feed_67 : tA sc iX11_feed 67 [l0, l1, l2, l3, vI x] st h Q = tA sc iX11_feed 70 [l0, l1, l2, tclr l3, vI (x + 1)] st h Q := tA_pure mB_X11_feed dX11_feed_67 rfl
theorem rX11_feed_70 : tA sc iX11_feed 70 ls st h Q = tA sc iX11_feed 30 ls st h Q := tA_jump mB_X11_feed dX11_feed_70 (fun _ _ _ _ => rfl) rfl
theorem rX11_feed_73 : tA sc iX11_feed 73 [vR r, l1, l2, l3, l4] st h Q = tA sc iX11_feed 74 [vR r, l1, l2, l3, l4] (vR r :: st) h Q := tA_pure mB_X11_feed dX11_feed_73 rfl
theorem rX11_feed_74 : tA sc iX11_feed 74 ls (vR (some o) :: st) h Q = oz (tget h o [11] 9) (fun v => tA sc iX11_feed 77 ls (v :: st) h Q) := tA_get mB_X11_feed mO_X11_feed dX11_feed_74 fT_11_94
theorem rX11_feed_77 : tA sc iX11_feed 77 ls [vI x] h Q = Q (some (vI x)) h := tA_ret mB_X11_feed dX11_feed_77 (fun _ _ _ _ => rfl) (fun _ _ _ => rfl) (fun _ _ _ _ _ => rfl) rfl rfl
theorem mB_X11_byteAt : mB iX11_byteAt = cX11_byteAt := rfl
theorem mO_X11_byteAt : mO iX11_byteAt = 11 := rfl
theorem rX11_byteAt_0 : tA sc iX11_byteAt 0 [l0, vI x] st h Q = tA sc iX11_byteAt 1 [l0, vI x] (vI x :: st) h Q := tA_pure mB_X11_byteAt dX11_byteAt_0 rfl
theorem rX11_byteAt_1 : tA sc iX11_byteAt 1 [vR r, l1] st h Q = tA sc iX11_byteAt 2 [vR r, l1] (vR r :: st) h Q := tA_pure mB_X11_byteAt dX11_byteAt_1 rfl
theorem rX11_byteAt_2 : tA sc iX11_byteAt 2 ls (vR (some o) :: st) h Q = oz (tget h o [11] 9) (fun v => tA sc iX11_byteAt 5 ls (v :: st) h Q) := tA_get mB_X11_byteAt mO_X11_byteAt dX11_byteAt_2 fT_11_94
theorem rX11_byteAt_5 : tA sc iX11_byteAt 5 ls (vI y :: vI x :: st) h Q = (if y ≤ x then tA sc iX11_byteAt 17 ls st h Q else tA sc iX11_byteAt 8 ls st h Q) := tA_if mB_X11_byteAt dX11_byteAt_5 (fun _ _ _ _ => rfl) rfl
theorem rX11_byteAt_8 : tA sc iX11_byteAt 8 [vR r, l1] st h Q = tA sc iX11_byteAt 9 [vR r, l1] (vR r :: st) h Q := tA_pure mB_X11_byteAt dX11_byteAt_8 rfl
theorem rX11_byteAt_9 : tA sc iX11_byteAt 9 ls (vR (some o) :: st) h Q = oz (tget h o [11] 8) (fun v => tA sc iX11_byteAt 12 ls (v :: st) h Q) := tA_get mB_X11_byteAt mO_X11_byteAt dX11_byteAt_9 fT_11_28
theorem rX11_byteAt_12 : tA sc iX11_byteAt 12 [l0, vI x] st h Q = tA sc iX11_byteAt 13 [l0, vI x] (vI x :: st) h Q := tA_pure mB_X11_byteAt dX11_byteAt_12 rfl
theorem rX11_byteAt_13 : tA sc iX11_byteAt 13 ls (vI j :: vR (some a) :: st) h Q = oz (tald sc h 0 a j) (fun v => tA sc iX11_byteAt 14 ls (vI v :: st) h Q) := tA_iald mB_X11_byteAt dX11_byteAt_13
theorem rX11_byteAt_14 : tA sc iX11_byteAt 14 ls st h Q = tA sc iX11_byteAt 18 ls st h Q := tA_jump mB_X11_byteAt dX11_byteAt_14 (fun _ _ _ _ => rfl) rfl
theorem rX11_byteAt_17 : tA sc iX11_byteAt 17 ls st h Q = tA sc iX11_byteAt 18 ls (vI (-1) :: st) h Q := tA_pure mB_X11_byteAt dX11_byteAt_17 rfl
theorem rX11_byteAt_18 : tA sc iX11_byteAt 18 ls [vI x] h Q = Q (some (vI x)) h := tA_ret mB_X11_byteAt dX11_byteAt_18 (fun _ _ _ _ => rfl) (fun _ _ _ => rfl) (fun _ _ _ _ _ => rfl) rfl rfl
theorem mB_X11_isLetter : mB iX11_isLetter = cX11_isLetter := rfl
theorem mO_X11_isLetter : mO iX11_isLetter = 11 := rfl
theorem rX11_isLetter_0 : tA sc iX11_isLetter 0 [vI x] st h Q = tA sc iX11_isLetter 1 [vI x] (vI x :: st) h Q := tA_pure mB_X11_isLetter dX11_isLetter_0 rfl
theorem rX11_isLetter_1 : tA sc iX11_isLetter 1 ls st h Q = tA sc iX11_isLetter 3 ls (vI (97) :: st) h Q := tA_pure mB_X11_isLetter dX11_isLetter_1 rfl
theorem rX11_isLetter_3 : tA sc iX11_isLetter 3 ls st h Q = tA sc iX11_isLetter 5 ls (vI (122) :: st) h Q := tA_pure mB_X11_isLetter dX11_isLetter_3 rfl
theorem rX11_isLetter_5 : tA sc iX11_isLetter 5 ls [vI p2, vI p1, vI p0] h Q = tA sc iX11_in 0 [vI p0, vI p1, vI p2] [] h (fun v h1 => tA sc iX11_isLetter 8 ls (tpu v []) h1 Q) := tA_cS mB_X11_isLetter mO_X11_isLetter dX11_isLetter_5 cT_11_83 ⟨Nat.le_of_ble_eq_true rfl, Nat.le_of_ble_eq_true rfl⟩ rfl rfl rfl rfl
theorem rX11_isLetter_8 : tA sc iX11_isLetter 8 ls [vI x] h Q = ((x = 0 ∨ x = 1) ∧ Q (some (vI x)) h) := tA_retz mB_X11_isLetter dX11_isLetter_8 rfl
theorem mB_X11_isDigit : mB iX11_isDigit = cX11_isDigit := rfl
theorem mO_X11_isDigit : mO iX11_isDigit = 11 := rfl
theorem rX11_isDigit_0 : tA sc iX11_isDigit 0 [vI x] st h Q = tA sc iX11_isDigit 1 [vI x] (vI x :: st) h Q := tA_pure mB_X11_isDigit dX11_isDigit_0 rfl
theorem rX11_isDigit_1 : tA sc iX11_isDigit 1 ls st h Q = tA sc iX11_isDigit 3 ls (vI (48) :: st) h Q := tA_pure mB_X11_isDigit dX11_isDigit_1 rfl
theorem rX11_isDigit_3 : tA sc iX11_isDigit 3 ls st h Q = tA sc iX11_isDigit 5 ls (vI (57) :: st) h Q := tA_pure mB_X11_isDigit dX11_isDigit_3 rfl
theorem rX11_isDigit_5 : tA sc iX11_isDigit 5 ls [vI p2, vI p1, vI p0] h Q = tA sc iX11_in 0 [vI p0, vI p1, vI p2] [] h (fun v h1 => tA sc iX11_isDigit 8 ls (tpu v []) h1 Q) := tA_cS mB_X11_isDigit mO_X11_isDigit dX11_isDigit_5 cT_11_83 ⟨Nat.le_of_ble_eq_true rfl, Nat.le_of_ble_eq_true rfl⟩ rfl rfl rfl rfl
theorem rX11_isDigit_8 : tA sc iX11_isDigit 8 ls [vI x] h Q = ((x = 0 ∨ x = 1) ∧ Q (some (vI x)) h) := tA_retz mB_X11_isDigit dX11_isDigit_8 rfl
theorem mB_X11_advance : mB iX11_advance = cX11_advance := rfl
theorem mO_X11_advance : mO iX11_advance = 11 := rfl
theorem rX11_advance_0 : tA sc iX11_advance 0 [vR r, l1] st h Q = tA sc iX11_advance 1 [vR r, l1] (vR r :: st) h Q := tA_pure mB_X11_advance dX11_advance_0 rfl
theorem rX11_advance_1 : tA sc iX11_advance 1 [vR r, l1] st h Q = tA sc iX11_advance 2 [vR r, l1] (vR r :: st) h Q := tA_pure mB_X11_advance dX11_advance_1 rfl
theorem rX11_advance_2 : tA sc iX11_advance 2 ls (vR (some o) :: st) h Q = oz (tget h o [11] 12) (fun v => tA sc iX11_advance 5 ls (v :: st) h Q) := tA_get mB_X11_advance mO_X11_advance dX11_advance_2 fT_11_99
theorem rX11_advance_5 : tA sc iX11_advance 5 ls (v :: vR (some o) :: st) h Q = oz (tput h o [11] 11 0 v) (fun h' => tA sc iX11_advance 8 ls st h' Q) := tA_put mB_X11_advance mO_X11_advance dX11_advance_5 fT_11_102 (Or.inl (by decide))
theorem rX11_advance_8 : tA sc iX11_advance 8 [vR r, l1] st h Q = tA sc iX11_advance 9 [vR r, l1] (vR r :: st) h Q := tA_pure mB_X11_advance dX11_advance_8 rfl
theorem rX11_advance_9 : tA sc iX11_advance 9 [vR r, l1] st h Q = tA sc iX11_advance 10 [vR r, l1] (vR r :: st) h Q := tA_pure mB_X11_advance dX11_advance_9 rfl
theorem rX11_advance_10 : tA sc iX11_advance 10 ls (vR (some o) :: st) h Q = oz (tget h o [11] 11) (fun v => tA sc iX11_advance 13 ls (v :: st) h Q) := tA_get mB_X11_advance mO_X11_advance dX11_advance_10 fT_11_102
theorem rX11_advance_13 (hci : tcl h o = some 11) : tA sc iX11_advance 13 ls [vI p0, vR (some o)] h Q = tA sc iX11_byteAt 0 [vR (some o), vI p0] [] h (fun v h1 => tA sc iX11_advance 16 ls (tpu v []) h1 Q) := tA_cV mB_X11_advance mO_X11_advance dX11_advance_13 cT_11_105 rfl (Nat.le_of_ble_eq_true rfl) rfl rfl rfl hci
theorem rX11_advance_16 : tA sc iX11_advance 16 ls st h Q = tA sc iX11_advance 18 ls (vI (32) :: st) h Q := tA_pure mB_X11_advance dX11_advance_16 rfl
theorem rX11_advance_18 : tA sc iX11_advance 18 ls (vI y :: vI x :: st) h Q = (if ¬ x = y then tA sc iX11_advance 34 ls st h Q else tA sc iX11_advance 21 ls st h Q) := tA_if mB_X11_advance dX11_advance_18 (fun _ _ _ _ => rfl) rfl
theorem rX11_advance_21 : tA sc iX11_advance 21 [vR r, l1] st h Q = tA sc iX11_advance 22 [vR r, l1] (vR r :: st) h Q := tA_pure mB_X11_advance dX11_advance_21 rfl
theorem rX11_advance_22 : tA sc iX11_advance 22 ls (vR r :: st) h Q = tA sc iX11_advance 23 ls (vR r :: vR r :: st) h Q := tA_pure mB_X11_advance dX11_advance_22 rfl
theorem rX11_advance_23 : tA sc iX11_advance 23 ls (vR (some o) :: st) h Q = oz (tget h o [11] 11) (fun v => tA sc iX11_advance 26 ls (v :: st) h Q) := tA_get mB_X11_advance mO_X11_advance dX11_advance_23 fT_11_102
theorem rX11_advance_26 : tA sc iX11_advance 26 ls st h Q = tA sc iX11_advance 27 ls (vI (1) :: st) h Q := tA_pure mB_X11_advance dX11_advance_26 rfl
theorem rX11_advance_27 : tA sc iX11_advance 27 ls (vI y :: vI x :: st) h Q = tA sc iX11_advance 28 ls (vI (x + y) :: st) h Q := tA_pure mB_X11_advance dX11_advance_27 rfl
theorem rX11_advance_28 : tA sc iX11_advance 28 ls (v :: vR (some o) :: st) h Q = oz (tput h o [11] 11 0 v) (fun h' => tA sc iX11_advance 31 ls st h' Q) := tA_put mB_X11_advance mO_X11_advance dX11_advance_28 fT_11_102 (Or.inl (by decide))
theorem rX11_advance_31 : tA sc iX11_advance 31 ls st h Q = tA sc iX11_advance 8 ls st h Q := tA_jump mB_X11_advance dX11_advance_31 (fun _ _ _ _ => rfl) rfl
theorem rX11_advance_34 : tA sc iX11_advance 34 [vR r, l1] st h Q = tA sc iX11_advance 35 [vR r, l1] (vR r :: st) h Q := tA_pure mB_X11_advance dX11_advance_34 rfl
theorem rX11_advance_35 : tA sc iX11_advance 35 [vR r, l1] st h Q = tA sc iX11_advance 36 [vR r, l1] (vR r :: st) h Q := tA_pure mB_X11_advance dX11_advance_35 rfl
theorem rX11_advance_36 : tA sc iX11_advance 36 ls (vR (some o) :: st) h Q = oz (tget h o [11] 11) (fun v => tA sc iX11_advance 39 ls (v :: st) h Q) := tA_get mB_X11_advance mO_X11_advance dX11_advance_36 fT_11_102
theorem rX11_advance_39 : tA sc iX11_advance 39 ls (v :: vR (some o) :: st) h Q = oz (tput h o [11] 12 0 v) (fun h' => tA sc iX11_advance 42 ls st h' Q) := tA_put mB_X11_advance mO_X11_advance dX11_advance_39 fT_11_99 (Or.inl (by decide))
theorem rX11_advance_42 : tA sc iX11_advance 42 [vR r, l1] st h Q = tA sc iX11_advance 43 [vR r, l1] (vR r :: st) h Q := tA_pure mB_X11_advance dX11_advance_42 rfl
theorem rX11_advance_43 : tA sc iX11_advance 43 [vR r, l1] st h Q = tA sc iX11_advance 44 [vR r, l1] (vR r :: st) h Q := tA_pure mB_X11_advance dX11_advance_43 rfl
theorem rX11_advance_44 : tA sc iX11_advance 44 ls (vR (some o) :: st) h Q = oz (tget h o [11] 11) (fun v => tA sc iX11_advance 47 ls (v :: st) h Q) := tA_get mB_X11_advance mO_X11_advance dX11_advance_44 fT_11_102
theorem rX11_advance_47 (hci : tcl h o = some 11) : tA sc iX11_advance 47 ls [vI p0, vR (some o)] h Q = tA sc iX11_byteAt 0 [vR (some o), vI p0] [] h (fun v h1 => tA sc iX11_advance 50 ls (tpu v []) h1 Q) := tA_cV mB_X11_advance mO_X11_advance dX11_advance_47 cT_11_105 rfl (Nat.le_of_ble_eq_true rfl) rfl rfl rfl hci
theorem rX11_advance_50 : tA sc iX11_advance 50 [l0, l1] (vI x :: st) h Q = tA sc iX11_advance 51 [tclr l0, vI x] st h Q := tA_pure mB_X11_advance dX11_advance_50 rfl
theorem rX11_advance_51 : tA sc iX11_advance 51 [vR r, l1] st h Q = tA sc iX11_advance 52 [vR r, l1] (vR r :: st) h Q := tA_pure mB_X11_advance dX11_advance_51 rfl
theorem rX11_advance_52 : tA sc iX11_advance 52 [l0, vI x] st h Q = tA sc iX11_advance 53 [l0, vI x] (vI x :: st) h Q := tA_pure mB_X11_advance dX11_advance_52 rfl
theorem rX11_advance_53 : tA sc iX11_advance 53 ls (vI x :: st) h Q = (if 0 ≤ x then tA sc iX11_advance 60 ls st h Q else tA sc iX11_advance 56 ls st h Q) := tA_if mB_X11_advance dX11_advance_53 (fun _ _ _ _ => rfl) rfl
theorem rX11_advance_56 : tA sc iX11_advance 56 ls st h Q = tA sc iX11_advance 57 ls (vI (0) :: st) h Q := tA_pure mB_X11_advance dX11_advance_56 rfl
theorem rX11_advance_57 : tA sc iX11_advance 57 ls st h Q = tA sc iX11_advance 83 ls st h Q := tA_jump mB_X11_advance dX11_advance_57 (fun _ _ _ _ => rfl) rfl
theorem rX11_advance_60 : tA sc iX11_advance 60 [l0, vI x] st h Q = tA sc iX11_advance 61 [l0, vI x] (vI x :: st) h Q := tA_pure mB_X11_advance dX11_advance_60 rfl
theorem rX11_advance_61 : tA sc iX11_advance 61 ls [vI p0, s0] h Q = tA sc iX11_isLetter 0 [vI p0] [] h (fun v h1 => tA sc iX11_advance 64 ls (tpu v [s0]) h1 Q) := tA_cS mB_X11_advance mO_X11_advance dX11_advance_61 cT_11_109 ⟨Nat.le_of_ble_eq_true rfl, Nat.le_of_ble_eq_true rfl⟩ rfl rfl rfl rfl
theorem rX11_advance_64 : tA sc iX11_advance 64 ls (vI x :: st) h Q = (if x = 0 then tA sc iX11_advance 71 ls st h Q else tA sc iX11_advance 67 ls st h Q) := tA_if mB_X11_advance dX11_advance_64 (fun _ _ _ _ => rfl) rfl
theorem rX11_advance_67 : tA sc iX11_advance 67 ls st h Q = tA sc iX11_advance 68 ls (vI (1) :: st) h Q := tA_pure mB_X11_advance dX11_advance_67 rfl
theorem rX11_advance_68 : tA sc iX11_advance 68 ls st h Q = tA sc iX11_advance 83 ls st h Q := tA_jump mB_X11_advance dX11_advance_68 (fun _ _ _ _ => rfl) rfl
theorem rX11_advance_71 : tA sc iX11_advance 71 [l0, vI x] st h Q = tA sc iX11_advance 72 [l0, vI x] (vI x :: st) h Q := tA_pure mB_X11_advance dX11_advance_71 rfl
theorem rX11_advance_72 : tA sc iX11_advance 72 ls [vI p0, s0] h Q = tA sc iX11_isDigit 0 [vI p0] [] h (fun v h1 => tA sc iX11_advance 75 ls (tpu v [s0]) h1 Q) := tA_cS mB_X11_advance mO_X11_advance dX11_advance_72 cT_11_113 ⟨Nat.le_of_ble_eq_true rfl, Nat.le_of_ble_eq_true rfl⟩ rfl rfl rfl rfl
theorem rX11_advance_75 : tA sc iX11_advance 75 ls (vI x :: st) h Q = (if x = 0 then tA sc iX11_advance 82 ls st h Q else tA sc iX11_advance 78 ls st h Q) := tA_if mB_X11_advance dX11_advance_75 (fun _ _ _ _ => rfl) rfl
theorem rX11_advance_78 : tA sc iX11_advance 78 ls st h Q = tA sc iX11_advance 79 ls (vI (2) :: st) h Q := tA_pure mB_X11_advance dX11_advance_78 rfl
theorem rX11_advance_79 : tA sc iX11_advance 79 ls st h Q = tA sc iX11_advance 83 ls st h Q := tA_jump mB_X11_advance dX11_advance_79 (fun _ _ _ _ => rfl) rfl
theorem rX11_advance_82 : tA sc iX11_advance 82 ls st h Q = tA sc iX11_advance 83 ls (vI (3) :: st) h Q := tA_pure mB_X11_advance dX11_advance_82 rfl
theorem rX11_advance_83 : tA sc iX11_advance 83 ls (v :: vR (some o) :: st) h Q = oz (tput h o [11] 10 0 v) (fun h' => tA sc iX11_advance 86 ls st h' Q) := tA_put mB_X11_advance mO_X11_advance dX11_advance_83 fT_11_116 (Or.inl (by decide))
theorem rX11_advance_86 : tA sc iX11_advance 86 [vR r, l1] st h Q = tA sc iX11_advance 87 [vR r, l1] (vR r :: st) h Q := tA_pure mB_X11_advance dX11_advance_86 rfl
theorem rX11_advance_87 : tA sc iX11_advance 87 ls st h Q = tA sc iX11_advance 88 ls (vL 0 :: st) h Q := tA_pure mB_X11_advance dX11_advance_87 rfl
theorem rX11_advance_88 : tA sc iX11_advance 88 ls (v :: vR (some o) :: st) h Q = oz (tput h o [11] 13 2 v) (fun h' => tA sc iX11_advance 91 ls st h' Q) := tA_put mB_X11_advance mO_X11_advance dX11_advance_88 fT_11_119 (Or.inl (by decide))
theorem rX11_advance_91 : tA sc iX11_advance 91 [vR r, l1] st h Q = tA sc iX11_advance 92 [vR r, l1] (vR r :: st) h Q := tA_pure mB_X11_advance dX11_advance_91 rfl
theorem rX11_advance_92 : tA sc iX11_advance 92 [vR r, l1] st h Q = tA sc iX11_advance 93 [vR r, l1] (vR r :: st) h Q := tA_pure mB_X11_advance dX11_advance_92 rfl
theorem rX11_advance_93 : tA sc iX11_advance 93 ls (vR (some o) :: st) h Q = oz (tget h o [11] 10) (fun v => tA sc iX11_advance 96 ls (v :: st) h Q) := tA_get mB_X11_advance mO_X11_advance dX11_advance_93 fT_11_116
theorem rX11_advance_96 : tA sc iX11_advance 96 ls st h Q = tA sc iX11_advance 97 ls (vI (2) :: st) h Q := tA_pure mB_X11_advance dX11_advance_96 rfl
theorem rX11_advance_97 : tA sc iX11_advance 97 ls (vI y :: vI x :: st) h Q = (if ¬ x = y then tA sc iX11_advance 104 ls st h Q else tA sc iX11_advance 100 ls st h Q) := tA_if mB_X11_advance dX11_advance_97 (fun _ _ _ _ => rfl) rfl
theorem rX11_advance_100 : tA sc iX11_advance 100 ls st h Q = tA sc iX11_advance 101 ls (vI (0) :: st) h Q := tA_pure mB_X11_advance dX11_advance_100 rfl
theorem rX11_advance_101 : tA sc iX11_advance 101 ls st h Q = tA sc iX11_advance 105 ls st h Q := tA_jump mB_X11_advance dX11_advance_101 (fun _ _ _ _ => rfl) rfl
theorem rX11_advance_104 : tA sc iX11_advance 104 [l0, vI x] st h Q = tA sc iX11_advance 105 [l0, vI x] (vI x :: st) h Q := tA_pure mB_X11_advance dX11_advance_104 rfl
theorem rX11_advance_105 : tA sc iX11_advance 105 ls (v :: vR (some o) :: st) h Q = oz (tput h o [11] 14 0 v) (fun h' => tA sc iX11_advance 108 ls st h' Q) := tA_put mB_X11_advance mO_X11_advance dX11_advance_105 fT_11_123 (Or.inl (by decide))
theorem rX11_advance_108 : tA sc iX11_advance 108 [vR r, l1] st h Q = tA sc iX11_advance 109 [vR r, l1] (vR r :: st) h Q := tA_pure mB_X11_advance dX11_advance_108 rfl
theorem rX11_advance_109 : tA sc iX11_advance 109 ls (vR (some o) :: st) h Q = oz (tget h o [11] 10) (fun v => tA sc iX11_advance 112 ls (v :: st) h Q) := tA_get mB_X11_advance mO_X11_advance dX11_advance_109 fT_11_116
theorem rX11_advance_112 : tA sc iX11_advance 112 ls st h Q = tA sc iX11_advance 113 ls (vI (3) :: st) h Q := tA_pure mB_X11_advance dX11_advance_112 rfl
theorem rX11_advance_113 : tA sc iX11_advance 113 ls (vI y :: vI x :: st) h Q = (if ¬ x = y then tA sc iX11_advance 126 ls st h Q else tA sc iX11_advance 116 ls st h Q) := tA_if mB_X11_advance dX11_advance_113 (fun _ _ _ _ => rfl) rfl
theorem rX11_advance_116 : tA sc iX11_advance 116 [vR r, l1] st h Q = tA sc iX11_advance 117 [vR r, l1] (vR r :: st) h Q := tA_pure mB_X11_advance dX11_advance_116 rfl
theorem rX11_advance_117 : tA sc iX11_advance 117 ls (vR r :: st) h Q = tA sc iX11_advance 118 ls (vR r :: vR r :: st) h Q := tA_pure mB_X11_advance dX11_advance_117 rfl
theorem rX11_advance_118 : tA sc iX11_advance 118 ls (vR (some o) :: st) h Q = oz (tget h o [11] 12) (fun v => tA sc iX11_advance 121 ls (v :: st) h Q) := tA_get mB_X11_advance mO_X11_advance dX11_advance_118 fT_11_99
theorem rX11_advance_121 : tA sc iX11_advance 121 ls st h Q = tA sc iX11_advance 122 ls (vI (1) :: st) h Q := tA_pure mB_X11_advance dX11_advance_121 rfl
theorem rX11_advance_122 : tA sc iX11_advance 122 ls (vI y :: vI x :: st) h Q = tA sc iX11_advance 123 ls (vI (x + y) :: st) h Q := tA_pure mB_X11_advance dX11_advance_122 rfl
theorem rX11_advance_123 : tA sc iX11_advance 123 ls (v :: vR (some o) :: st) h Q = oz (tput h o [11] 12 0 v) (fun h' => tA sc iX11_advance 126 ls st h' Q) := tA_put mB_X11_advance mO_X11_advance dX11_advance_123 fT_11_99 (Or.inl (by decide))
theorem rX11_advance_126 : tA sc iX11_advance 126 [vR r, l1] st h Q = tA sc iX11_advance 127 [vR r, l1] (vR r :: st) h Q := tA_pure mB_X11_advance dX11_advance_126 rfl
theorem rX11_advance_127 : tA sc iX11_advance 127 ls (vR (some o) :: st) h Q = oz (tget h o [11] 10) (fun v => tA sc iX11_advance 130 ls (v :: st) h Q) := tA_get mB_X11_advance mO_X11_advance dX11_advance_127 fT_11_116
theorem rX11_advance_130 : tA sc iX11_advance 130 ls st h Q = tA sc iX11_advance 131 ls (vI (1) :: st) h Q := tA_pure mB_X11_advance dX11_advance_130 rfl
theorem rX11_advance_131 : tA sc iX11_advance 131 ls (vI y :: vI x :: st) h Q = (if ¬ x = y then tA sc iX11_advance 207 ls st h Q else tA sc iX11_advance 134 ls st h Q) := tA_if mB_X11_advance dX11_advance_131 (fun _ _ _ _ => rfl) rfl
theorem rX11_advance_134 : tA sc iX11_advance 134 [vR r, l1] st h Q = tA sc iX11_advance 135 [vR r, l1] (vR r :: st) h Q := tA_pure mB_X11_advance dX11_advance_134 rfl
theorem rX11_advance_135 : tA sc iX11_advance 135 [vR r, l1] st h Q = tA sc iX11_advance 136 [vR r, l1] (vR r :: st) h Q := tA_pure mB_X11_advance dX11_advance_135 rfl
theorem rX11_advance_136 : tA sc iX11_advance 136 ls (vR (some o) :: st) h Q = oz (tget h o [11] 12) (fun v => tA sc iX11_advance 139 ls (v :: st) h Q) := tA_get mB_X11_advance mO_X11_advance dX11_advance_136 fT_11_99
theorem rX11_advance_139 (hci : tcl h o = some 11) : tA sc iX11_advance 139 ls [vI p0, vR (some o)] h Q = tA sc iX11_byteAt 0 [vR (some o), vI p0] [] h (fun v h1 => tA sc iX11_advance 142 ls (tpu v []) h1 Q) := tA_cV mB_X11_advance mO_X11_advance dX11_advance_139 cT_11_105 rfl (Nat.le_of_ble_eq_true rfl) rfl rfl rfl hci
theorem rX11_advance_142 : tA sc iX11_advance 142 ls [vI p0] h Q = tA sc iX11_isLetter 0 [vI p0] [] h (fun v h1 => tA sc iX11_advance 145 ls (tpu v []) h1 Q) := tA_cS mB_X11_advance mO_X11_advance dX11_advance_142 cT_11_109 ⟨Nat.le_of_ble_eq_true rfl, Nat.le_of_ble_eq_true rfl⟩ rfl rfl rfl rfl
theorem rX11_advance_145 : tA sc iX11_advance 145 ls (vI x :: st) h Q = (if x = 0 then tA sc iX11_advance 207 ls st h Q else tA sc iX11_advance 148 ls st h Q) := tA_if mB_X11_advance dX11_advance_145 (fun _ _ _ _ => rfl) rfl
theorem rX11_advance_148 : tA sc iX11_advance 148 [vR r, l1] st h Q = tA sc iX11_advance 149 [vR r, l1] (vR r :: st) h Q := tA_pure mB_X11_advance dX11_advance_148 rfl
theorem rX11_advance_149 : tA sc iX11_advance 149 [vR r, l1] st h Q = tA sc iX11_advance 150 [vR r, l1] (vR r :: st) h Q := tA_pure mB_X11_advance dX11_advance_149 rfl
theorem rX11_advance_150 : tA sc iX11_advance 150 ls (vR (some o) :: st) h Q = oz (tget h o [11] 12) (fun v => tA sc iX11_advance 153 ls (v :: st) h Q) := tA_get mB_X11_advance mO_X11_advance dX11_advance_150 fT_11_99
theorem rX11_advance_153 : tA sc iX11_advance 153 [vR r, l1] st h Q = tA sc iX11_advance 154 [vR r, l1] (vR r :: st) h Q := tA_pure mB_X11_advance dX11_advance_153 rfl
theorem rX11_advance_154 : tA sc iX11_advance 154 ls (vR (some o) :: st) h Q = oz (tget h o [11] 11) (fun v => tA sc iX11_advance 157 ls (v :: st) h Q) := tA_get mB_X11_advance mO_X11_advance dX11_advance_154 fT_11_102
theorem rX11_advance_157 : tA sc iX11_advance 157 ls (vI y :: vI x :: st) h Q = tA sc iX11_advance 158 ls (vI (x - y) :: st) h Q := tA_pure mB_X11_advance dX11_advance_157 rfl
theorem rX11_advance_158 : tA sc iX11_advance 158 ls st h Q = tA sc iX11_advance 160 ls (vI (8) :: st) h Q := tA_pure mB_X11_advance dX11_advance_158 rfl
theorem rX11_advance_160 : tA sc iX11_advance 160 ls (vI y :: vI x :: st) h Q = (if y ≤ x then tA sc iX11_advance 188 ls st h Q else tA sc iX11_advance 163 ls st h Q) := tA_if mB_X11_advance dX11_advance_160 (fun _ _ _ _ => rfl) rfl
theorem rX11_advance_163 : tA sc iX11_advance 163 ls st h Q = tA sc iX11_advance 166 ls (vL (27) :: st) h Q := tA_pure mB_X11_advance dX11_advance_163 rfl
theorem rX11_advance_166 : tA sc iX11_advance 166 [vR r, l1] st h Q = tA sc iX11_advance 167 [vR r, l1] (vR r :: st) h Q := tA_pure mB_X11_advance dX11_advance_166 rfl
theorem rX11_advance_167 : tA sc iX11_advance 167 ls (vR (some o) :: st) h Q = oz (tget h o [11] 13) (fun v => tA sc iX11_advance 170 ls (v :: st) h Q) := tA_get mB_X11_advance mO_X11_advance dX11_advance_167 fT_11_119
theorem rX11_advance_170 : tA sc iX11_advance 170 ls (vL w :: vL u :: st) h Q = tA sc iX11_advance 171 ls (vL (u * w) :: st) h Q := tA_pure mB_X11_advance dX11_advance_170 rfl
theorem rX11_advance_171 : tA sc iX11_advance 171 [vR r, l1] st h Q = tA sc iX11_advance 172 [vR r, l1] (vR r :: st) h Q := tA_pure mB_X11_advance dX11_advance_171 rfl
theorem rX11_advance_172 : tA sc iX11_advance 172 [vR r, l1] st h Q = tA sc iX11_advance 173 [vR r, l1] (vR r :: st) h Q := tA_pure mB_X11_advance dX11_advance_172 rfl
theorem rX11_advance_173 : tA sc iX11_advance 173 ls (vR (some o) :: st) h Q = oz (tget h o [11] 12) (fun v => tA sc iX11_advance 176 ls (v :: st) h Q) := tA_get mB_X11_advance mO_X11_advance dX11_advance_173 fT_11_99
theorem rX11_advance_176 (hci : tcl h o = some 11) : tA sc iX11_advance 176 ls [vI p0, vR (some o), s0, s1] h Q = tA sc iX11_byteAt 0 [vR (some o), vI p0] [] h (fun v h1 => tA sc iX11_advance 179 ls (tpu v [s0, s1]) h1 Q) := tA_cV mB_X11_advance mO_X11_advance dX11_advance_176 cT_11_105 rfl (Nat.le_of_ble_eq_true rfl) rfl rfl rfl hci
theorem rX11_advance_179 : tA sc iX11_advance 179 ls (vI x :: st) h Q = tA sc iX11_advance 180 ls (vL x.toInt64 :: st) h Q := tA_pure mB_X11_advance dX11_advance_179 rfl
theorem rX11_advance_180 : tA sc iX11_advance 180 ls (vL w :: vL u :: st) h Q = tA sc iX11_advance 181 ls (vL (u + w) :: st) h Q := tA_pure mB_X11_advance dX11_advance_180 rfl
theorem rX11_advance_181 : tA sc iX11_advance 181 ls st h Q = tA sc iX11_advance 184 ls (vL (96) :: st) h Q := tA_pure mB_X11_advance dX11_advance_181 rfl
theorem rX11_advance_184 : tA sc iX11_advance 184 ls (vL w :: vL u :: st) h Q = tA sc iX11_advance 185 ls (vL (u - w) :: st) h Q := tA_pure mB_X11_advance dX11_advance_184 rfl
theorem rX11_advance_185 : tA sc iX11_advance 185 ls st h Q = tA sc iX11_advance 191 ls st h Q := tA_jump mB_X11_advance dX11_advance_185 (fun _ _ _ _ => rfl) rfl
theorem rX11_advance_188 : tA sc iX11_advance 188 ls st h Q = tA sc iX11_advance 191 ls (vL (-1) :: st) h Q := tA_pure mB_X11_advance dX11_advance_188 rfl
theorem rX11_advance_191 : tA sc iX11_advance 191 ls (v :: vR (some o) :: st) h Q = oz (tput h o [11] 13 2 v) (fun h' => tA sc iX11_advance 194 ls st h' Q) := tA_put mB_X11_advance mO_X11_advance dX11_advance_191 fT_11_119 (Or.inl (by decide))
theorem rX11_advance_194 : tA sc iX11_advance 194 [vR r, l1] st h Q = tA sc iX11_advance 195 [vR r, l1] (vR r :: st) h Q := tA_pure mB_X11_advance dX11_advance_194 rfl
theorem rX11_advance_195 : tA sc iX11_advance 195 ls (vR r :: st) h Q = tA sc iX11_advance 196 ls (vR r :: vR r :: st) h Q := tA_pure mB_X11_advance dX11_advance_195 rfl
theorem rX11_advance_196 : tA sc iX11_advance 196 ls (vR (some o) :: st) h Q = oz (tget h o [11] 12) (fun v => tA sc iX11_advance 199 ls (v :: st) h Q) := tA_get mB_X11_advance mO_X11_advance dX11_advance_196 fT_11_99
theorem rX11_advance_199 : tA sc iX11_advance 199 ls st h Q = tA sc iX11_advance 200 ls (vI (1) :: st) h Q := tA_pure mB_X11_advance dX11_advance_199 rfl
theorem rX11_advance_200 : tA sc iX11_advance 200 ls (vI y :: vI x :: st) h Q = tA sc iX11_advance 201 ls (vI (x + y) :: st) h Q := tA_pure mB_X11_advance dX11_advance_200 rfl
theorem rX11_advance_201 : tA sc iX11_advance 201 ls (v :: vR (some o) :: st) h Q = oz (tput h o [11] 12 0 v) (fun h' => tA sc iX11_advance 204 ls st h' Q) := tA_put mB_X11_advance mO_X11_advance dX11_advance_201 fT_11_99 (Or.inl (by decide))
theorem rX11_advance_204 : tA sc iX11_advance 204 ls st h Q = tA sc iX11_advance 126 ls st h Q := tA_jump mB_X11_advance dX11_advance_204 (fun _ _ _ _ => rfl) rfl
theorem rX11_advance_207 : tA sc iX11_advance 207 [vR r, l1] st h Q = tA sc iX11_advance 208 [vR r, l1] (vR r :: st) h Q := tA_pure mB_X11_advance dX11_advance_207 rfl
theorem rX11_advance_208 : tA sc iX11_advance 208 ls (vR (some o) :: st) h Q = oz (tget h o [11] 10) (fun v => tA sc iX11_advance 211 ls (v :: st) h Q) := tA_get mB_X11_advance mO_X11_advance dX11_advance_208 fT_11_116
theorem rX11_advance_211 : tA sc iX11_advance 211 ls st h Q = tA sc iX11_advance 212 ls (vI (2) :: st) h Q := tA_pure mB_X11_advance dX11_advance_211 rfl
theorem rX11_advance_212 : tA sc iX11_advance 212 ls (vI y :: vI x :: st) h Q = (if ¬ x = y then tA sc iX11_advance 282 ls st h Q else tA sc iX11_advance 215 ls st h Q) := tA_if mB_X11_advance dX11_advance_212 (fun _ _ _ _ => rfl) rfl
theorem rX11_advance_215 : tA sc iX11_advance 215 [vR r, l1] st h Q = tA sc iX11_advance 216 [vR r, l1] (vR r :: st) h Q := tA_pure mB_X11_advance dX11_advance_215 rfl
theorem rX11_advance_216 : tA sc iX11_advance 216 [vR r, l1] st h Q = tA sc iX11_advance 217 [vR r, l1] (vR r :: st) h Q := tA_pure mB_X11_advance dX11_advance_216 rfl
theorem rX11_advance_217 : tA sc iX11_advance 217 ls (vR (some o) :: st) h Q = oz (tget h o [11] 12) (fun v => tA sc iX11_advance 220 ls (v :: st) h Q) := tA_get mB_X11_advance mO_X11_advance dX11_advance_217 fT_11_99
theorem rX11_advance_220 (hci : tcl h o = some 11) : tA sc iX11_advance 220 ls [vI p0, vR (some o)] h Q = tA sc iX11_byteAt 0 [vR (some o), vI p0] [] h (fun v h1 => tA sc iX11_advance 223 ls (tpu v []) h1 Q) := tA_cV mB_X11_advance mO_X11_advance dX11_advance_220 cT_11_105 rfl (Nat.le_of_ble_eq_true rfl) rfl rfl rfl hci
theorem rX11_advance_223 : tA sc iX11_advance 223 ls [vI p0] h Q = tA sc iX11_isDigit 0 [vI p0] [] h (fun v h1 => tA sc iX11_advance 226 ls (tpu v []) h1 Q) := tA_cS mB_X11_advance mO_X11_advance dX11_advance_223 cT_11_113 ⟨Nat.le_of_ble_eq_true rfl, Nat.le_of_ble_eq_true rfl⟩ rfl rfl rfl rfl
theorem rX11_advance_226 : tA sc iX11_advance 226 ls (vI x :: st) h Q = (if x = 0 then tA sc iX11_advance 282 ls st h Q else tA sc iX11_advance 229 ls st h Q) := tA_if mB_X11_advance dX11_advance_226 (fun _ _ _ _ => rfl) rfl
theorem rX11_advance_229 : tA sc iX11_advance 229 [vR r, l1] st h Q = tA sc iX11_advance 230 [vR r, l1] (vR r :: st) h Q := tA_pure mB_X11_advance dX11_advance_229 rfl
theorem rX11_advance_230 : tA sc iX11_advance 230 [vR r, l1] st h Q = tA sc iX11_advance 231 [vR r, l1] (vR r :: st) h Q := tA_pure mB_X11_advance dX11_advance_230 rfl
theorem rX11_advance_231 : tA sc iX11_advance 231 ls (vR (some o) :: st) h Q = oz (tget h o [11] 12) (fun v => tA sc iX11_advance 234 ls (v :: st) h Q) := tA_get mB_X11_advance mO_X11_advance dX11_advance_231 fT_11_99
theorem rX11_advance_234 : tA sc iX11_advance 234 [vR r, l1] st h Q = tA sc iX11_advance 235 [vR r, l1] (vR r :: st) h Q := tA_pure mB_X11_advance dX11_advance_234 rfl
theorem rX11_advance_235 : tA sc iX11_advance 235 ls (vR (some o) :: st) h Q = oz (tget h o [11] 11) (fun v => tA sc iX11_advance 238 ls (v :: st) h Q) := tA_get mB_X11_advance mO_X11_advance dX11_advance_235 fT_11_102
theorem rX11_advance_238 : tA sc iX11_advance 238 ls (vI y :: vI x :: st) h Q = tA sc iX11_advance 239 ls (vI (x - y) :: st) h Q := tA_pure mB_X11_advance dX11_advance_238 rfl
theorem rX11_advance_239 : tA sc iX11_advance 239 ls st h Q = tA sc iX11_advance 240 ls (vI (2) :: st) h Q := tA_pure mB_X11_advance dX11_advance_239 rfl
theorem rX11_advance_240 : tA sc iX11_advance 240 ls (vI y :: vI x :: st) h Q = (if y ≤ x then tA sc iX11_advance 265 ls st h Q else tA sc iX11_advance 243 ls st h Q) := tA_if mB_X11_advance dX11_advance_240 (fun _ _ _ _ => rfl) rfl
theorem rX11_advance_243 : tA sc iX11_advance 243 ls st h Q = tA sc iX11_advance 245 ls (vI (10) :: st) h Q := tA_pure mB_X11_advance dX11_advance_243 rfl
theorem rX11_advance_245 : tA sc iX11_advance 245 [vR r, l1] st h Q = tA sc iX11_advance 246 [vR r, l1] (vR r :: st) h Q := tA_pure mB_X11_advance dX11_advance_245 rfl
theorem rX11_advance_246 : tA sc iX11_advance 246 ls (vR (some o) :: st) h Q = oz (tget h o [11] 14) (fun v => tA sc iX11_advance 249 ls (v :: st) h Q) := tA_get mB_X11_advance mO_X11_advance dX11_advance_246 fT_11_123
theorem rX11_advance_249 : tA sc iX11_advance 249 ls (vI y :: vI x :: st) h Q = tA sc iX11_advance 250 ls (vI (x * y) :: st) h Q := tA_pure mB_X11_advance dX11_advance_249 rfl
theorem rX11_advance_250 : tA sc iX11_advance 250 [vR r, l1] st h Q = tA sc iX11_advance 251 [vR r, l1] (vR r :: st) h Q := tA_pure mB_X11_advance dX11_advance_250 rfl
theorem rX11_advance_251 : tA sc iX11_advance 251 [vR r, l1] st h Q = tA sc iX11_advance 252 [vR r, l1] (vR r :: st) h Q := tA_pure mB_X11_advance dX11_advance_251 rfl
theorem rX11_advance_252 : tA sc iX11_advance 252 ls (vR (some o) :: st) h Q = oz (tget h o [11] 12) (fun v => tA sc iX11_advance 255 ls (v :: st) h Q) := tA_get mB_X11_advance mO_X11_advance dX11_advance_252 fT_11_99
theorem rX11_advance_255 (hci : tcl h o = some 11) : tA sc iX11_advance 255 ls [vI p0, vR (some o), s0, s1] h Q = tA sc iX11_byteAt 0 [vR (some o), vI p0] [] h (fun v h1 => tA sc iX11_advance 258 ls (tpu v [s0, s1]) h1 Q) := tA_cV mB_X11_advance mO_X11_advance dX11_advance_255 cT_11_105 rfl (Nat.le_of_ble_eq_true rfl) rfl rfl rfl hci
theorem rX11_advance_258 : tA sc iX11_advance 258 ls (vI y :: vI x :: st) h Q = tA sc iX11_advance 259 ls (vI (x + y) :: st) h Q := tA_pure mB_X11_advance dX11_advance_258 rfl
theorem rX11_advance_259 : tA sc iX11_advance 259 ls st h Q = tA sc iX11_advance 261 ls (vI (48) :: st) h Q := tA_pure mB_X11_advance dX11_advance_259 rfl
theorem rX11_advance_261 : tA sc iX11_advance 261 ls (vI y :: vI x :: st) h Q = tA sc iX11_advance 262 ls (vI (x - y) :: st) h Q := tA_pure mB_X11_advance dX11_advance_261 rfl
theorem rX11_advance_262 : tA sc iX11_advance 262 ls st h Q = tA sc iX11_advance 266 ls st h Q := tA_jump mB_X11_advance dX11_advance_262 (fun _ _ _ _ => rfl) rfl
theorem rX11_advance_265 : tA sc iX11_advance 265 ls st h Q = tA sc iX11_advance 266 ls (vI (-1) :: st) h Q := tA_pure mB_X11_advance dX11_advance_265 rfl
theorem rX11_advance_266 : tA sc iX11_advance 266 ls (v :: vR (some o) :: st) h Q = oz (tput h o [11] 14 0 v) (fun h' => tA sc iX11_advance 269 ls st h' Q) := tA_put mB_X11_advance mO_X11_advance dX11_advance_266 fT_11_123 (Or.inl (by decide))
theorem rX11_advance_269 : tA sc iX11_advance 269 [vR r, l1] st h Q = tA sc iX11_advance 270 [vR r, l1] (vR r :: st) h Q := tA_pure mB_X11_advance dX11_advance_269 rfl
theorem rX11_advance_270 : tA sc iX11_advance 270 ls (vR r :: st) h Q = tA sc iX11_advance 271 ls (vR r :: vR r :: st) h Q := tA_pure mB_X11_advance dX11_advance_270 rfl
theorem rX11_advance_271 : tA sc iX11_advance 271 ls (vR (some o) :: st) h Q = oz (tget h o [11] 12) (fun v => tA sc iX11_advance 274 ls (v :: st) h Q) := tA_get mB_X11_advance mO_X11_advance dX11_advance_271 fT_11_99
theorem rX11_advance_274 : tA sc iX11_advance 274 ls st h Q = tA sc iX11_advance 275 ls (vI (1) :: st) h Q := tA_pure mB_X11_advance dX11_advance_274 rfl
theorem rX11_advance_275 : tA sc iX11_advance 275 ls (vI y :: vI x :: st) h Q = tA sc iX11_advance 276 ls (vI (x + y) :: st) h Q := tA_pure mB_X11_advance dX11_advance_275 rfl
theorem rX11_advance_276 : tA sc iX11_advance 276 ls (v :: vR (some o) :: st) h Q = oz (tput h o [11] 12 0 v) (fun h' => tA sc iX11_advance 279 ls st h' Q) := tA_put mB_X11_advance mO_X11_advance dX11_advance_276 fT_11_99 (Or.inl (by decide))
theorem rX11_advance_279 : tA sc iX11_advance 279 ls st h Q = tA sc iX11_advance 207 ls st h Q := tA_jump mB_X11_advance dX11_advance_279 (fun _ _ _ _ => rfl) rfl
theorem rX11_advance_282 : tA sc iX11_advance 282 ls [] h Q = Q (none) h := tA_ret mB_X11_advance dX11_advance_282 (fun _ _ _ _ => rfl) (fun _ _ _ => rfl) (fun _ _ _ _ _ => rfl) rfl rfl
theorem mB_X11_isWord : mB iX11_isWord = cX11_isWord := rfl
theorem mO_X11_isWord : mO iX11_isWord = 11 := rfl
theorem rX11_isWord_0 : tA sc iX11_isWord 0 [vR r, l1, l2] st h Q = tA sc iX11_isWord 1 [vR r, l1, l2] (vR r :: st) h Q := tA_pure mB_X11_isWord dX11_isWord_0 rfl
theorem rX11_isWord_1 : tA sc iX11_isWord 1 ls (vR (some o) :: st) h Q = oz (tget h o [11] 10) (fun v => tA sc iX11_isWord 4 ls (v :: st) h Q) := tA_get mB_X11_isWord mO_X11_isWord dX11_isWord_1 fT_11_116
theorem rX11_isWord_4 : tA sc iX11_isWord 4 ls st h Q = tA sc iX11_isWord 5 ls (vI (1) :: st) h Q := tA_pure mB_X11_isWord dX11_isWord_4 rfl
theorem rX11_isWord_5 : tA sc iX11_isWord 5 ls (vI y :: vI x :: st) h Q = (if ¬ x = y then tA sc iX11_isWord 21 ls st h Q else tA sc iX11_isWord 8 ls st h Q) := tA_if mB_X11_isWord dX11_isWord_5 (fun _ _ _ _ => rfl) rfl
theorem rX11_isWord_8 : tA sc iX11_isWord 8 [vR r, l1, l2] st h Q = tA sc iX11_isWord 9 [vR r, l1, l2] (vR r :: st) h Q := tA_pure mB_X11_isWord dX11_isWord_8 rfl
theorem rX11_isWord_9 : tA sc iX11_isWord 9 ls (vR (some o) :: st) h Q = oz (tget h o [11] 13) (fun v => tA sc iX11_isWord 12 ls (v :: st) h Q) := tA_get mB_X11_isWord mO_X11_isWord dX11_isWord_9 fT_11_119
theorem rX11_isWord_12 : tA sc iX11_isWord 12 [l0, vL u, l2] st h Q = tA sc iX11_isWord 13 [l0, vL u, l2] (vL u :: st) h Q := tA_pure mB_X11_isWord dX11_isWord_12 rfl
theorem rX11_isWord_13 : tA sc iX11_isWord 13 ls (vL w :: vL u :: st) h Q = tA sc iX11_isWord 14 ls (vI (lg_cmp u w) :: st) h Q := tA_pure mB_X11_isWord dX11_isWord_13 rfl
theorem rX11_isWord_14 : tA sc iX11_isWord 14 ls (vI x :: st) h Q = (if ¬ x = 0 then tA sc iX11_isWord 21 ls st h Q else tA sc iX11_isWord 17 ls st h Q) := tA_if mB_X11_isWord dX11_isWord_14 (fun _ _ _ _ => rfl) rfl
theorem rX11_isWord_17 : tA sc iX11_isWord 17 ls st h Q = tA sc iX11_isWord 18 ls (vI (1) :: st) h Q := tA_pure mB_X11_isWord dX11_isWord_17 rfl
theorem rX11_isWord_18 : tA sc iX11_isWord 18 ls st h Q = tA sc iX11_isWord 22 ls st h Q := tA_jump mB_X11_isWord dX11_isWord_18 (fun _ _ _ _ => rfl) rfl
theorem rX11_isWord_21 : tA sc iX11_isWord 21 ls st h Q = tA sc iX11_isWord 22 ls (vI (0) :: st) h Q := tA_pure mB_X11_isWord dX11_isWord_21 rfl
theorem rX11_isWord_22 : tA sc iX11_isWord 22 ls [vI x] h Q = ((x = 0 ∨ x = 1) ∧ Q (some (vI x)) h) := tA_retz mB_X11_isWord dX11_isWord_22 rfl
theorem mB_X11_isMark : mB iX11_isMark = cX11_isMark := rfl
theorem mO_X11_isMark : mO iX11_isMark = 11 := rfl
theorem rX11_isMark_0 : tA sc iX11_isMark 0 [vR r, l1] st h Q = tA sc iX11_isMark 1 [vR r, l1] (vR r :: st) h Q := tA_pure mB_X11_isMark dX11_isMark_0 rfl
theorem rX11_isMark_1 : tA sc iX11_isMark 1 ls (vR (some o) :: st) h Q = oz (tget h o [11] 10) (fun v => tA sc iX11_isMark 4 ls (v :: st) h Q) := tA_get mB_X11_isMark mO_X11_isMark dX11_isMark_1 fT_11_116
theorem rX11_isMark_4 : tA sc iX11_isMark 4 ls st h Q = tA sc iX11_isMark 5 ls (vI (3) :: st) h Q := tA_pure mB_X11_isMark dX11_isMark_4 rfl
theorem rX11_isMark_5 : tA sc iX11_isMark 5 ls (vI y :: vI x :: st) h Q = (if ¬ x = y then tA sc iX11_isMark 20 ls st h Q else tA sc iX11_isMark 8 ls st h Q) := tA_if mB_X11_isMark dX11_isMark_5 (fun _ _ _ _ => rfl) rfl
theorem rX11_isMark_8 : tA sc iX11_isMark 8 [vR r, l1] st h Q = tA sc iX11_isMark 9 [vR r, l1] (vR r :: st) h Q := tA_pure mB_X11_isMark dX11_isMark_8 rfl
theorem rX11_isMark_9 : tA sc iX11_isMark 9 ls (vR (some o) :: st) h Q = oz (tget h o [11] 14) (fun v => tA sc iX11_isMark 12 ls (v :: st) h Q) := tA_get mB_X11_isMark mO_X11_isMark dX11_isMark_9 fT_11_123
theorem rX11_isMark_12 : tA sc iX11_isMark 12 [l0, vI x] st h Q = tA sc iX11_isMark 13 [l0, vI x] (vI x :: st) h Q := tA_pure mB_X11_isMark dX11_isMark_12 rfl
theorem rX11_isMark_13 : tA sc iX11_isMark 13 ls (vI y :: vI x :: st) h Q = (if ¬ x = y then tA sc iX11_isMark 20 ls st h Q else tA sc iX11_isMark 16 ls st h Q) := tA_if mB_X11_isMark dX11_isMark_13 (fun _ _ _ _ => rfl) rfl
theorem rX11_isMark_16 : tA sc iX11_isMark 16 ls st h Q = tA sc iX11_isMark 17 ls (vI (1) :: st) h Q := tA_pure mB_X11_isMark dX11_isMark_16 rfl
theorem rX11_isMark_17 : tA sc iX11_isMark 17 ls st h Q = tA sc iX11_isMark 21 ls st h Q := tA_jump mB_X11_isMark dX11_isMark_17 (fun _ _ _ _ => rfl) rfl
theorem rX11_isMark_20 : tA sc iX11_isMark 20 ls st h Q = tA sc iX11_isMark 21 ls (vI (0) :: st) h Q := tA_pure mB_X11_isMark dX11_isMark_20 rfl
theorem rX11_isMark_21 : tA sc iX11_isMark 21 ls [vI x] h Q = ((x = 0 ∨ x = 1) ∧ Q (some (vI x)) h) := tA_retz mB_X11_isMark dX11_isMark_21 rfl
theorem mB_X11_kindHere : mB iX11_kindHere = cX11_kindHere := rfl
theorem mO_X11_kindHere : mO iX11_kindHere = 11 := rfl
theorem rX11_kindHere_0 : tA sc iX11_kindHere 0 [vR r] st h Q = tA sc iX11_kindHere 1 [vR r] (vR r :: st) h Q := tA_pure mB_X11_kindHere dX11_kindHere_0 rfl
theorem rX11_kindHere_1 : tA sc iX11_kindHere 1 ls st h Q = tA sc iX11_kindHere 4 ls (vL (10135440) :: st) h Q := tA_pure mB_X11_kindHere dX11_kindHere_1 rfl
theorem rX11_kindHere_4 (hci : tcl h o = some 11) : tA sc iX11_kindHere 4 ls [vL q0, vR (some o)] h Q = tA sc iX11_isWord 0 [vR (some o), vL q0, vU] [] h (fun v h1 => tA sc iX11_kindHere 7 ls (tpu v []) h1 Q) := tA_cV mB_X11_kindHere mO_X11_kindHere dX11_kindHere_4 cT_11_134 rfl (Nat.le_of_ble_eq_true rfl) rfl rfl rfl hci
theorem rX11_kindHere_7 : tA sc iX11_kindHere 7 ls (vI x :: st) h Q = (if x = 0 then tA sc iX11_kindHere 14 ls st h Q else tA sc iX11_kindHere 10 ls st h Q) := tA_if mB_X11_kindHere dX11_kindHere_7 (fun _ _ _ _ => rfl) rfl
theorem rX11_kindHere_10 : tA sc iX11_kindHere 10 ls st h Q = tA sc iX11_kindHere 11 ls (vI (0) :: st) h Q := tA_pure mB_X11_kindHere dX11_kindHere_10 rfl
theorem rX11_kindHere_11 : tA sc iX11_kindHere 11 ls st h Q = tA sc iX11_kindHere 85 ls st h Q := tA_jump mB_X11_kindHere dX11_kindHere_11 (fun _ _ _ _ => rfl) rfl
theorem rX11_kindHere_14 : tA sc iX11_kindHere 14 [vR r] st h Q = tA sc iX11_kindHere 15 [vR r] (vR r :: st) h Q := tA_pure mB_X11_kindHere dX11_kindHere_14 rfl
theorem rX11_kindHere_15 : tA sc iX11_kindHere 15 ls st h Q = tA sc iX11_kindHere 18 ls (vL (2690359) :: st) h Q := tA_pure mB_X11_kindHere dX11_kindHere_15 rfl
theorem rX11_kindHere_18 (hci : tcl h o = some 11) : tA sc iX11_kindHere 18 ls [vL q0, vR (some o)] h Q = tA sc iX11_isWord 0 [vR (some o), vL q0, vU] [] h (fun v h1 => tA sc iX11_kindHere 21 ls (tpu v []) h1 Q) := tA_cV mB_X11_kindHere mO_X11_kindHere dX11_kindHere_18 cT_11_134 rfl (Nat.le_of_ble_eq_true rfl) rfl rfl rfl hci
theorem rX11_kindHere_21 : tA sc iX11_kindHere 21 ls (vI x :: st) h Q = (if x = 0 then tA sc iX11_kindHere 28 ls st h Q else tA sc iX11_kindHere 24 ls st h Q) := tA_if mB_X11_kindHere dX11_kindHere_21 (fun _ _ _ _ => rfl) rfl
theorem rX11_kindHere_24 : tA sc iX11_kindHere 24 ls st h Q = tA sc iX11_kindHere 25 ls (vI (1) :: st) h Q := tA_pure mB_X11_kindHere dX11_kindHere_24 rfl
theorem rX11_kindHere_25 : tA sc iX11_kindHere 25 ls st h Q = tA sc iX11_kindHere 85 ls st h Q := tA_jump mB_X11_kindHere dX11_kindHere_25 (fun _ _ _ _ => rfl) rfl
theorem rX11_kindHere_28 : tA sc iX11_kindHere 28 [vR r] st h Q = tA sc iX11_kindHere 29 [vR r] (vR r :: st) h Q := tA_pure mB_X11_kindHere dX11_kindHere_28 rfl
theorem rX11_kindHere_29 : tA sc iX11_kindHere 29 ls st h Q = tA sc iX11_kindHere 32 ls (vL (237470) :: st) h Q := tA_pure mB_X11_kindHere dX11_kindHere_29 rfl
theorem rX11_kindHere_32 (hci : tcl h o = some 11) : tA sc iX11_kindHere 32 ls [vL q0, vR (some o)] h Q = tA sc iX11_isWord 0 [vR (some o), vL q0, vU] [] h (fun v h1 => tA sc iX11_kindHere 35 ls (tpu v []) h1 Q) := tA_cV mB_X11_kindHere mO_X11_kindHere dX11_kindHere_32 cT_11_134 rfl (Nat.le_of_ble_eq_true rfl) rfl rfl rfl hci
theorem rX11_kindHere_35 : tA sc iX11_kindHere 35 ls (vI x :: st) h Q = (if x = 0 then tA sc iX11_kindHere 42 ls st h Q else tA sc iX11_kindHere 38 ls st h Q) := tA_if mB_X11_kindHere dX11_kindHere_35 (fun _ _ _ _ => rfl) rfl
theorem rX11_kindHere_38 : tA sc iX11_kindHere 38 ls st h Q = tA sc iX11_kindHere 39 ls (vI (2) :: st) h Q := tA_pure mB_X11_kindHere dX11_kindHere_38 rfl
theorem rX11_kindHere_39 : tA sc iX11_kindHere 39 ls st h Q = tA sc iX11_kindHere 85 ls st h Q := tA_jump mB_X11_kindHere dX11_kindHere_39 (fun _ _ _ _ => rfl) rfl
theorem rX11_kindHere_42 : tA sc iX11_kindHere 42 [vR r] st h Q = tA sc iX11_kindHere 43 [vR r] (vR r :: st) h Q := tA_pure mB_X11_kindHere dX11_kindHere_42 rfl
theorem rX11_kindHere_43 : tA sc iX11_kindHere 43 ls st h Q = tA sc iX11_kindHere 46 ls (vL (389777) :: st) h Q := tA_pure mB_X11_kindHere dX11_kindHere_43 rfl
theorem rX11_kindHere_46 (hci : tcl h o = some 11) : tA sc iX11_kindHere 46 ls [vL q0, vR (some o)] h Q = tA sc iX11_isWord 0 [vR (some o), vL q0, vU] [] h (fun v h1 => tA sc iX11_kindHere 49 ls (tpu v []) h1 Q) := tA_cV mB_X11_kindHere mO_X11_kindHere dX11_kindHere_46 cT_11_134 rfl (Nat.le_of_ble_eq_true rfl) rfl rfl rfl hci
theorem rX11_kindHere_49 : tA sc iX11_kindHere 49 ls (vI x :: st) h Q = (if x = 0 then tA sc iX11_kindHere 56 ls st h Q else tA sc iX11_kindHere 52 ls st h Q) := tA_if mB_X11_kindHere dX11_kindHere_49 (fun _ _ _ _ => rfl) rfl
theorem rX11_kindHere_52 : tA sc iX11_kindHere 52 ls st h Q = tA sc iX11_kindHere 53 ls (vI (3) :: st) h Q := tA_pure mB_X11_kindHere dX11_kindHere_52 rfl
theorem rX11_kindHere_53 : tA sc iX11_kindHere 53 ls st h Q = tA sc iX11_kindHere 85 ls st h Q := tA_jump mB_X11_kindHere dX11_kindHere_53 (fun _ _ _ _ => rfl) rfl
theorem rX11_kindHere_56 : tA sc iX11_kindHere 56 [vR r] st h Q = tA sc iX11_kindHere 57 [vR r] (vR r :: st) h Q := tA_pure mB_X11_kindHere dX11_kindHere_56 rfl
theorem rX11_kindHere_57 : tA sc iX11_kindHere 57 ls st h Q = tA sc iX11_kindHere 60 ls (vL (1065) :: st) h Q := tA_pure mB_X11_kindHere dX11_kindHere_57 rfl
theorem rX11_kindHere_60 (hci : tcl h o = some 11) : tA sc iX11_kindHere 60 ls [vL q0, vR (some o)] h Q = tA sc iX11_isWord 0 [vR (some o), vL q0, vU] [] h (fun v h1 => tA sc iX11_kindHere 63 ls (tpu v []) h1 Q) := tA_cV mB_X11_kindHere mO_X11_kindHere dX11_kindHere_60 cT_11_134 rfl (Nat.le_of_ble_eq_true rfl) rfl rfl rfl hci
theorem rX11_kindHere_63 : tA sc iX11_kindHere 63 ls (vI x :: st) h Q = (if x = 0 then tA sc iX11_kindHere 70 ls st h Q else tA sc iX11_kindHere 66 ls st h Q) := tA_if mB_X11_kindHere dX11_kindHere_63 (fun _ _ _ _ => rfl) rfl
theorem rX11_kindHere_66 : tA sc iX11_kindHere 66 ls st h Q = tA sc iX11_kindHere 67 ls (vI (4) :: st) h Q := tA_pure mB_X11_kindHere dX11_kindHere_66 rfl
theorem rX11_kindHere_67 : tA sc iX11_kindHere 67 ls st h Q = tA sc iX11_kindHere 85 ls st h Q := tA_jump mB_X11_kindHere dX11_kindHere_67 (fun _ _ _ _ => rfl) rfl
theorem rX11_kindHere_70 : tA sc iX11_kindHere 70 [vR r] st h Q = tA sc iX11_kindHere 71 [vR r] (vR r :: st) h Q := tA_pure mB_X11_kindHere dX11_kindHere_70 rfl
theorem rX11_kindHere_71 : tA sc iX11_kindHere 71 ls st h Q = tA sc iX11_kindHere 74 ls (vL (404923) :: st) h Q := tA_pure mB_X11_kindHere dX11_kindHere_71 rfl
theorem rX11_kindHere_74 (hci : tcl h o = some 11) : tA sc iX11_kindHere 74 ls [vL q0, vR (some o)] h Q = tA sc iX11_isWord 0 [vR (some o), vL q0, vU] [] h (fun v h1 => tA sc iX11_kindHere 77 ls (tpu v []) h1 Q) := tA_cV mB_X11_kindHere mO_X11_kindHere dX11_kindHere_74 cT_11_134 rfl (Nat.le_of_ble_eq_true rfl) rfl rfl rfl hci
theorem rX11_kindHere_77 : tA sc iX11_kindHere 77 ls (vI x :: st) h Q = (if x = 0 then tA sc iX11_kindHere 84 ls st h Q else tA sc iX11_kindHere 80 ls st h Q) := tA_if mB_X11_kindHere dX11_kindHere_77 (fun _ _ _ _ => rfl) rfl
theorem rX11_kindHere_80 : tA sc iX11_kindHere 80 ls st h Q = tA sc iX11_kindHere 81 ls (vI (5) :: st) h Q := tA_pure mB_X11_kindHere dX11_kindHere_80 rfl
theorem rX11_kindHere_81 : tA sc iX11_kindHere 81 ls st h Q = tA sc iX11_kindHere 85 ls st h Q := tA_jump mB_X11_kindHere dX11_kindHere_81 (fun _ _ _ _ => rfl) rfl
theorem rX11_kindHere_84 : tA sc iX11_kindHere 84 ls st h Q = tA sc iX11_kindHere 85 ls (vI (-1) :: st) h Q := tA_pure mB_X11_kindHere dX11_kindHere_84 rfl
theorem rX11_kindHere_85 : tA sc iX11_kindHere 85 ls [vI x] h Q = Q (some (vI x)) h := tA_ret mB_X11_kindHere dX11_kindHere_85 (fun _ _ _ _ => rfl) (fun _ _ _ => rfl) (fun _ _ _ _ _ => rfl) rfl rfl
theorem mB_X11_wantNumber : mB iX11_wantNumber = cX11_wantNumber := rfl
theorem mO_X11_wantNumber : mO iX11_wantNumber = 11 := rfl
theorem rX11_wantNumber_0 : tA sc iX11_wantNumber 0 [vR r, l1, l2] st h Q = tA sc iX11_wantNumber 1 [vR r, l1, l2] (vR r :: st) h Q := tA_pure mB_X11_wantNumber dX11_wantNumber_0 rfl
theorem rX11_wantNumber_1 : tA sc iX11_wantNumber 1 ls (vR (some o) :: st) h Q = oz (tget h o [11] 14) (fun v => tA sc iX11_wantNumber 4 ls (v :: st) h Q) := tA_get mB_X11_wantNumber mO_X11_wantNumber dX11_wantNumber_1 fT_11_123
theorem rX11_wantNumber_4 : tA sc iX11_wantNumber 4 [l0, l1, l2] (vI x :: st) h Q = tA sc iX11_wantNumber 5 [l0, tclr l1, vI x] st h Q := tA_pure mB_X11_wantNumber dX11_wantNumber_4 rfl
theorem rX11_wantNumber_5 : tA sc iX11_wantNumber 5 [vR r, l1, l2] st h Q = tA sc iX11_wantNumber 6 [vR r, l1, l2] (vR r :: st) h Q := tA_pure mB_X11_wantNumber dX11_wantNumber_5 rfl
theorem rX11_wantNumber_6 : tA sc iX11_wantNumber 6 [vR r, l1, l2] st h Q = tA sc iX11_wantNumber 7 [vR r, l1, l2] (vR r :: st) h Q := tA_pure mB_X11_wantNumber dX11_wantNumber_6 rfl
theorem rX11_wantNumber_7 : tA sc iX11_wantNumber 7 ls (vR (some o) :: st) h Q = oz (tget h o [11] 15) (fun v => tA sc iX11_wantNumber 10 ls (v :: st) h Q) := tA_get mB_X11_wantNumber mO_X11_wantNumber dX11_wantNumber_7 fT_11_148
theorem rX11_wantNumber_10 : tA sc iX11_wantNumber 10 ls (vI x :: st) h Q = (if x = 0 then tA sc iX11_wantNumber 34 ls st h Q else tA sc iX11_wantNumber 13 ls st h Q) := tA_if mB_X11_wantNumber dX11_wantNumber_10 (fun _ _ _ _ => rfl) rfl
theorem rX11_wantNumber_13 : tA sc iX11_wantNumber 13 [vR r, l1, l2] st h Q = tA sc iX11_wantNumber 14 [vR r, l1, l2] (vR r :: st) h Q := tA_pure mB_X11_wantNumber dX11_wantNumber_13 rfl
theorem rX11_wantNumber_14 : tA sc iX11_wantNumber 14 ls (vR (some o) :: st) h Q = oz (tget h o [11] 10) (fun v => tA sc iX11_wantNumber 17 ls (v :: st) h Q) := tA_get mB_X11_wantNumber mO_X11_wantNumber dX11_wantNumber_14 fT_11_116
theorem rX11_wantNumber_17 : tA sc iX11_wantNumber 17 ls st h Q = tA sc iX11_wantNumber 18 ls (vI (2) :: st) h Q := tA_pure mB_X11_wantNumber dX11_wantNumber_17 rfl
theorem rX11_wantNumber_18 : tA sc iX11_wantNumber 18 ls (vI y :: vI x :: st) h Q = (if ¬ x = y then tA sc iX11_wantNumber 34 ls st h Q else tA sc iX11_wantNumber 21 ls st h Q) := tA_if mB_X11_wantNumber dX11_wantNumber_18 (fun _ _ _ _ => rfl) rfl
theorem rX11_wantNumber_21 : tA sc iX11_wantNumber 21 [l0, l1, vI x] st h Q = tA sc iX11_wantNumber 22 [l0, l1, vI x] (vI x :: st) h Q := tA_pure mB_X11_wantNumber dX11_wantNumber_21 rfl
theorem rX11_wantNumber_22 : tA sc iX11_wantNumber 22 ls st h Q = tA sc iX11_wantNumber 23 ls (vI (0) :: st) h Q := tA_pure mB_X11_wantNumber dX11_wantNumber_22 rfl
theorem rX11_wantNumber_23 : tA sc iX11_wantNumber 23 [l0, vI x, l2] st h Q = tA sc iX11_wantNumber 24 [l0, vI x, l2] (vI x :: st) h Q := tA_pure mB_X11_wantNumber dX11_wantNumber_23 rfl
theorem rX11_wantNumber_24 : tA sc iX11_wantNumber 24 ls [vI p2, vI p1, vI p0, s0] h Q = tA sc iX11_in 0 [vI p0, vI p1, vI p2] [] h (fun v h1 => tA sc iX11_wantNumber 27 ls (tpu v [s0]) h1 Q) := tA_cS mB_X11_wantNumber mO_X11_wantNumber dX11_wantNumber_24 cT_11_83 ⟨Nat.le_of_ble_eq_true rfl, Nat.le_of_ble_eq_true rfl⟩ rfl rfl rfl rfl
theorem rX11_wantNumber_27 : tA sc iX11_wantNumber 27 ls (vI x :: st) h Q = (if x = 0 then tA sc iX11_wantNumber 34 ls st h Q else tA sc iX11_wantNumber 30 ls st h Q) := tA_if mB_X11_wantNumber dX11_wantNumber_27 (fun _ _ _ _ => rfl) rfl
theorem rX11_wantNumber_30 : tA sc iX11_wantNumber 30 ls st h Q = tA sc iX11_wantNumber 31 ls (vI (1) :: st) h Q := tA_pure mB_X11_wantNumber dX11_wantNumber_30 rfl
theorem rX11_wantNumber_31 : tA sc iX11_wantNumber 31 ls st h Q = tA sc iX11_wantNumber 35 ls st h Q := tA_jump mB_X11_wantNumber dX11_wantNumber_31 (fun _ _ _ _ => rfl) rfl
theorem rX11_wantNumber_34 : tA sc iX11_wantNumber 34 ls st h Q = tA sc iX11_wantNumber 35 ls (vI (0) :: st) h Q := tA_pure mB_X11_wantNumber dX11_wantNumber_34 rfl
theorem rX11_wantNumber_35 : tA sc iX11_wantNumber 35 ls (v :: vR (some o) :: st) h Q = oz (tput h o [11] 15 1 v) (fun h' => tA sc iX11_wantNumber 38 ls st h' Q) := tA_put mB_X11_wantNumber mO_X11_wantNumber dX11_wantNumber_35 fT_11_148 (Or.inl (by decide))
theorem rX11_wantNumber_38 : tA sc iX11_wantNumber 38 [vR r, l1, l2] st h Q = tA sc iX11_wantNumber 39 [vR r, l1, l2] (vR r :: st) h Q := tA_pure mB_X11_wantNumber dX11_wantNumber_38 rfl
theorem rX11_wantNumber_39 : tA sc iX11_wantNumber 39 ls (vR (some o) :: st) h Q = oz (tget h o [11] 15) (fun v => tA sc iX11_wantNumber 42 ls (v :: st) h Q) := tA_get mB_X11_wantNumber mO_X11_wantNumber dX11_wantNumber_39 fT_11_148
theorem rX11_wantNumber_42 : tA sc iX11_wantNumber 42 ls (vI x :: st) h Q = (if x = 0 then tA sc iX11_wantNumber 49 ls st h Q else tA sc iX11_wantNumber 45 ls st h Q) := tA_if mB_X11_wantNumber dX11_wantNumber_42 (fun _ _ _ _ => rfl) rfl
theorem rX11_wantNumber_45 : tA sc iX11_wantNumber 45 [vR r, l1, l2] st h Q = tA sc iX11_wantNumber 46 [vR r, l1, l2] (vR r :: st) h Q := tA_pure mB_X11_wantNumber dX11_wantNumber_45 rfl
theorem rX11_wantNumber_46 (hci : tcl h o = some 11) : tA sc iX11_wantNumber 46 ls [vR (some o)] h Q = tA sc iX11_advance 0 [vR (some o), vU] [] h (fun v h1 => tA sc iX11_wantNumber 49 ls (tpu v []) h1 Q) := tA_cV mB_X11_wantNumber mO_X11_wantNumber dX11_wantNumber_46 cT_11_152 rfl (Nat.le_of_ble_eq_true rfl) rfl rfl rfl hci
theorem rX11_wantNumber_49 : tA sc iX11_wantNumber 49 [l0, l1, vI x] st h Q = tA sc iX11_wantNumber 50 [l0, l1, vI x] (vI x :: st) h Q := tA_pure mB_X11_wantNumber dX11_wantNumber_49 rfl
theorem rX11_wantNumber_50 : tA sc iX11_wantNumber 50 ls [vI x] h Q = Q (some (vI x)) h := tA_ret mB_X11_wantNumber dX11_wantNumber_50 (fun _ _ _ _ => rfl) (fun _ _ _ => rfl) (fun _ _ _ _ _ => rfl) rfl rfl
theorem mB_X11_wantWord : mB iX11_wantWord = cX11_wantWord := rfl
theorem mO_X11_wantWord : mO iX11_wantWord = 11 := rfl
theorem rX11_wantWord_0 : tA sc iX11_wantWord 0 [vR r, l1, l2] st h Q = tA sc iX11_wantWord 1 [vR r, l1, l2] (vR r :: st) h Q := tA_pure mB_X11_wantWord dX11_wantWord_0 rfl
theorem rX11_wantWord_1 : tA sc iX11_wantWord 1 [vR r, l1, l2] st h Q = tA sc iX11_wantWord 2 [vR r, l1, l2] (vR r :: st) h Q := tA_pure mB_X11_wantWord dX11_wantWord_1 rfl
theorem rX11_wantWord_2 : tA sc iX11_wantWord 2 ls (vR (some o) :: st) h Q = oz (tget h o [11] 15) (fun v => tA sc iX11_wantWord 5 ls (v :: st) h Q) := tA_get mB_X11_wantWord mO_X11_wantWord dX11_wantWord_2 fT_11_148
theorem rX11_wantWord_5 : tA sc iX11_wantWord 5 ls (vI x :: st) h Q = (if x = 0 then tA sc iX11_wantWord 20 ls st h Q else tA sc iX11_wantWord 8 ls st h Q) := tA_if mB_X11_wantWord dX11_wantWord_5 (fun _ _ _ _ => rfl) rfl
theorem rX11_wantWord_8 : tA sc iX11_wantWord 8 [vR r, l1, l2] st h Q = tA sc iX11_wantWord 9 [vR r, l1, l2] (vR r :: st) h Q := tA_pure mB_X11_wantWord dX11_wantWord_8 rfl
theorem rX11_wantWord_9 : tA sc iX11_wantWord 9 [l0, vL u, l2] st h Q = tA sc iX11_wantWord 10 [l0, vL u, l2] (vL u :: st) h Q := tA_pure mB_X11_wantWord dX11_wantWord_9 rfl
theorem rX11_wantWord_10 (hci : tcl h o = some 11) : tA sc iX11_wantWord 10 ls [vL q0, vR (some o), s0] h Q = tA sc iX11_isWord 0 [vR (some o), vL q0, vU] [] h (fun v h1 => tA sc iX11_wantWord 13 ls (tpu v [s0]) h1 Q) := tA_cV mB_X11_wantWord mO_X11_wantWord dX11_wantWord_10 cT_11_134 rfl (Nat.le_of_ble_eq_true rfl) rfl rfl rfl hci
theorem rX11_wantWord_13 : tA sc iX11_wantWord 13 ls (vI x :: st) h Q = (if x = 0 then tA sc iX11_wantWord 20 ls st h Q else tA sc iX11_wantWord 16 ls st h Q) := tA_if mB_X11_wantWord dX11_wantWord_13 (fun _ _ _ _ => rfl) rfl
theorem rX11_wantWord_16 : tA sc iX11_wantWord 16 ls st h Q = tA sc iX11_wantWord 17 ls (vI (1) :: st) h Q := tA_pure mB_X11_wantWord dX11_wantWord_16 rfl
theorem rX11_wantWord_17 : tA sc iX11_wantWord 17 ls st h Q = tA sc iX11_wantWord 21 ls st h Q := tA_jump mB_X11_wantWord dX11_wantWord_17 (fun _ _ _ _ => rfl) rfl
theorem rX11_wantWord_20 : tA sc iX11_wantWord 20 ls st h Q = tA sc iX11_wantWord 21 ls (vI (0) :: st) h Q := tA_pure mB_X11_wantWord dX11_wantWord_20 rfl
theorem rX11_wantWord_21 : tA sc iX11_wantWord 21 ls (v :: vR (some o) :: st) h Q = oz (tput h o [11] 15 1 v) (fun h' => tA sc iX11_wantWord 24 ls st h' Q) := tA_put mB_X11_wantWord mO_X11_wantWord dX11_wantWord_21 fT_11_148 (Or.inl (by decide))
theorem rX11_wantWord_24 : tA sc iX11_wantWord 24 [vR r, l1, l2] st h Q = tA sc iX11_wantWord 25 [vR r, l1, l2] (vR r :: st) h Q := tA_pure mB_X11_wantWord dX11_wantWord_24 rfl
theorem rX11_wantWord_25 : tA sc iX11_wantWord 25 ls (vR (some o) :: st) h Q = oz (tget h o [11] 15) (fun v => tA sc iX11_wantWord 28 ls (v :: st) h Q) := tA_get mB_X11_wantWord mO_X11_wantWord dX11_wantWord_25 fT_11_148
theorem rX11_wantWord_28 : tA sc iX11_wantWord 28 ls (vI x :: st) h Q = (if x = 0 then tA sc iX11_wantWord 35 ls st h Q else tA sc iX11_wantWord 31 ls st h Q) := tA_if mB_X11_wantWord dX11_wantWord_28 (fun _ _ _ _ => rfl) rfl
theorem rX11_wantWord_31 : tA sc iX11_wantWord 31 [vR r, l1, l2] st h Q = tA sc iX11_wantWord 32 [vR r, l1, l2] (vR r :: st) h Q := tA_pure mB_X11_wantWord dX11_wantWord_31 rfl
theorem rX11_wantWord_32 (hci : tcl h o = some 11) : tA sc iX11_wantWord 32 ls [vR (some o)] h Q = tA sc iX11_advance 0 [vR (some o), vU] [] h (fun v h1 => tA sc iX11_wantWord 35 ls (tpu v []) h1 Q) := tA_cV mB_X11_wantWord mO_X11_wantWord dX11_wantWord_32 cT_11_152 rfl (Nat.le_of_ble_eq_true rfl) rfl rfl rfl hci
theorem rX11_wantWord_35 : tA sc iX11_wantWord 35 ls [] h Q = Q (none) h := tA_ret mB_X11_wantWord dX11_wantWord_35 (fun _ _ _ _ => rfl) (fun _ _ _ => rfl) (fun _ _ _ _ _ => rfl) rfl rfl
theorem mB_X11_wantEnd : mB iX11_wantEnd = cX11_wantEnd := rfl
theorem mO_X11_wantEnd : mO iX11_wantEnd = 11 := rfl
theorem rX11_wantEnd_0 : tA sc iX11_wantEnd 0 [vR r] st h Q = tA sc iX11_wantEnd 1 [vR r] (vR r :: st) h Q := tA_pure mB_X11_wantEnd dX11_wantEnd_0 rfl
theorem rX11_wantEnd_1 : tA sc iX11_wantEnd 1 [vR r] st h Q = tA sc iX11_wantEnd 2 [vR r] (vR r :: st) h Q := tA_pure mB_X11_wantEnd dX11_wantEnd_1 rfl
theorem rX11_wantEnd_2 : tA sc iX11_wantEnd 2 ls (vR (some o) :: st) h Q = oz (tget h o [11] 15) (fun v => tA sc iX11_wantEnd 5 ls (v :: st) h Q) := tA_get mB_X11_wantEnd mO_X11_wantEnd dX11_wantEnd_2 fT_11_148
theorem rX11_wantEnd_5 : tA sc iX11_wantEnd 5 ls (vI x :: st) h Q = (if x = 0 then tA sc iX11_wantEnd 21 ls st h Q else tA sc iX11_wantEnd 8 ls st h Q) := tA_if mB_X11_wantEnd dX11_wantEnd_5 (fun _ _ _ _ => rfl) rfl
theorem rX11_wantEnd_8 : tA sc iX11_wantEnd 8 [vR r] st h Q = tA sc iX11_wantEnd 9 [vR r] (vR r :: st) h Q := tA_pure mB_X11_wantEnd dX11_wantEnd_8 rfl
theorem rX11_wantEnd_9 : tA sc iX11_wantEnd 9 ls st h Q = tA sc iX11_wantEnd 11 ls (vI (59) :: st) h Q := tA_pure mB_X11_wantEnd dX11_wantEnd_9 rfl
theorem rX11_wantEnd_11 (hci : tcl h o = some 11) : tA sc iX11_wantEnd 11 ls [vI p0, vR (some o), s0] h Q = tA sc iX11_isMark 0 [vR (some o), vI p0] [] h (fun v h1 => tA sc iX11_wantEnd 14 ls (tpu v [s0]) h1 Q) := tA_cV mB_X11_wantEnd mO_X11_wantEnd dX11_wantEnd_11 cT_11_155 rfl (Nat.le_of_ble_eq_true rfl) rfl rfl rfl hci
theorem rX11_wantEnd_14 : tA sc iX11_wantEnd 14 ls (vI x :: st) h Q = (if x = 0 then tA sc iX11_wantEnd 21 ls st h Q else tA sc iX11_wantEnd 17 ls st h Q) := tA_if mB_X11_wantEnd dX11_wantEnd_14 (fun _ _ _ _ => rfl) rfl
theorem rX11_wantEnd_17 : tA sc iX11_wantEnd 17 ls st h Q = tA sc iX11_wantEnd 18 ls (vI (1) :: st) h Q := tA_pure mB_X11_wantEnd dX11_wantEnd_17 rfl
theorem rX11_wantEnd_18 : tA sc iX11_wantEnd 18 ls st h Q = tA sc iX11_wantEnd 22 ls st h Q := tA_jump mB_X11_wantEnd dX11_wantEnd_18 (fun _ _ _ _ => rfl) rfl
theorem rX11_wantEnd_21 : tA sc iX11_wantEnd 21 ls st h Q = tA sc iX11_wantEnd 22 ls (vI (0) :: st) h Q := tA_pure mB_X11_wantEnd dX11_wantEnd_21 rfl
theorem rX11_wantEnd_22 : tA sc iX11_wantEnd 22 ls (v :: vR (some o) :: st) h Q = oz (tput h o [11] 15 1 v) (fun h' => tA sc iX11_wantEnd 25 ls st h' Q) := tA_put mB_X11_wantEnd mO_X11_wantEnd dX11_wantEnd_22 fT_11_148 (Or.inl (by decide))
theorem rX11_wantEnd_25 : tA sc iX11_wantEnd 25 [vR r] st h Q = tA sc iX11_wantEnd 26 [vR r] (vR r :: st) h Q := tA_pure mB_X11_wantEnd dX11_wantEnd_25 rfl
theorem rX11_wantEnd_26 : tA sc iX11_wantEnd 26 ls (vR (some o) :: st) h Q = oz (tget h o [11] 15) (fun v => tA sc iX11_wantEnd 29 ls (v :: st) h Q) := tA_get mB_X11_wantEnd mO_X11_wantEnd dX11_wantEnd_26 fT_11_148
theorem rX11_wantEnd_29 : tA sc iX11_wantEnd 29 ls (vI x :: st) h Q = (if x = 0 then tA sc iX11_wantEnd 36 ls st h Q else tA sc iX11_wantEnd 32 ls st h Q) := tA_if mB_X11_wantEnd dX11_wantEnd_29 (fun _ _ _ _ => rfl) rfl
theorem rX11_wantEnd_32 : tA sc iX11_wantEnd 32 [vR r] st h Q = tA sc iX11_wantEnd 33 [vR r] (vR r :: st) h Q := tA_pure mB_X11_wantEnd dX11_wantEnd_32 rfl
theorem rX11_wantEnd_33 (hci : tcl h o = some 11) : tA sc iX11_wantEnd 33 ls [vR (some o)] h Q = tA sc iX11_advance 0 [vR (some o), vU] [] h (fun v h1 => tA sc iX11_wantEnd 36 ls (tpu v []) h1 Q) := tA_cV mB_X11_wantEnd mO_X11_wantEnd dX11_wantEnd_33 cT_11_152 rfl (Nat.le_of_ble_eq_true rfl) rfl rfl rfl hci
theorem rX11_wantEnd_36 : tA sc iX11_wantEnd 36 ls [] h Q = Q (none) h := tA_ret mB_X11_wantEnd dX11_wantEnd_36 (fun _ _ _ _ => rfl) (fun _ _ _ => rfl) (fun _ _ _ _ _ => rfl) rfl rfl
theorem mB_X11_wantDay : mB iX11_wantDay = cX11_wantDay := rfl
theorem mO_X11_wantDay : mO iX11_wantDay = 11 := rfl
theorem rX11_wantDay_0 : tA sc iX11_wantDay 0 [vR r, l1, l2, l3, l4] st h Q = tA sc iX11_wantDay 1 [vR r, l1, l2, l3, l4] (vR r :: st) h Q := tA_pure mB_X11_wantDay dX11_wantDay_0 rfl
theorem rX11_wantDay_1 (hci : tcl h o = some 11) : tA sc iX11_wantDay 1 ls [vR (some o)] h Q = tA sc iX11_advance 0 [vR (some o), vU] [] h (fun v h1 => tA sc iX11_wantDay 4 ls (tpu v []) h1 Q) := tA_cV mB_X11_wantDay mO_X11_wantDay dX11_wantDay_1 cT_11_152 rfl (Nat.le_of_ble_eq_true rfl) rfl rfl rfl hci
theorem rX11_wantDay_4 : tA sc iX11_wantDay 4 [vR r, l1, l2, l3, l4] st h Q = tA sc iX11_wantDay 5 [vR r, l1, l2, l3, l4] (vR r :: st) h Q := tA_pure mB_X11_wantDay dX11_wantDay_4 rfl
theorem rX11_wantDay_5 : tA sc iX11_wantDay 5 ls st h Q = tA sc iX11_wantDay 7 ls (vI (19) :: st) h Q := tA_pure mB_X11_wantDay dX11_wantDay_5 rfl
theorem rX11_wantDay_7 (hci : tcl h o = some 11) : tA sc iX11_wantDay 7 ls [vI p0, vR (some o)] h Q = tA sc iX11_wantNumber 0 [vR (some o), vI p0, vU] [] h (fun v h1 => tA sc iX11_wantDay 10 ls (tpu v []) h1 Q) := tA_cV mB_X11_wantDay mO_X11_wantDay dX11_wantDay_7 cT_11_158 rfl (Nat.le_of_ble_eq_true rfl) rfl rfl rfl hci
theorem rX11_wantDay_10 : tA sc iX11_wantDay 10 [l0, l1, l2, l3, l4] (vI x :: st) h Q = tA sc iX11_wantDay 11 [tclr l0, vI x, l2, l3, l4] st h Q := tA_pure mB_X11_wantDay dX11_wantDay_10 rfl
theorem rX11_wantDay_11 : tA sc iX11_wantDay 11 [vR r, l1, l2, l3, l4] st h Q = tA sc iX11_wantDay 12 [vR r, l1, l2, l3, l4] (vR r :: st) h Q := tA_pure mB_X11_wantDay dX11_wantDay_11 rfl
theorem rX11_wantDay_12 : tA sc iX11_wantDay 12 ls st h Q = tA sc iX11_wantDay 15 ls (vL (12532058) :: st) h Q := tA_pure mB_X11_wantDay dX11_wantDay_12 rfl
theorem rX11_wantDay_15 (hci : tcl h o = some 11) : tA sc iX11_wantDay 15 ls [vL q0, vR (some o)] h Q = tA sc iX11_wantWord 0 [vR (some o), vL q0, vU] [] h (fun v h1 => tA sc iX11_wantDay 18 ls (tpu v []) h1 Q) := tA_cV mB_X11_wantDay mO_X11_wantDay dX11_wantDay_15 cT_11_163 rfl (Nat.le_of_ble_eq_true rfl) rfl rfl rfl hci
theorem rX11_wantDay_18 : tA sc iX11_wantDay 18 [vR r, l1, l2, l3, l4] st h Q = tA sc iX11_wantDay 19 [vR r, l1, l2, l3, l4] (vR r :: st) h Q := tA_pure mB_X11_wantDay dX11_wantDay_18 rfl
theorem rX11_wantDay_19 : tA sc iX11_wantDay 19 ls st h Q = tA sc iX11_wantDay 21 ls (vI (99) :: st) h Q := tA_pure mB_X11_wantDay dX11_wantDay_19 rfl
theorem rX11_wantDay_21 (hci : tcl h o = some 11) : tA sc iX11_wantDay 21 ls [vI p0, vR (some o)] h Q = tA sc iX11_wantNumber 0 [vR (some o), vI p0, vU] [] h (fun v h1 => tA sc iX11_wantDay 24 ls (tpu v []) h1 Q) := tA_cV mB_X11_wantDay mO_X11_wantDay dX11_wantDay_21 cT_11_158 rfl (Nat.le_of_ble_eq_true rfl) rfl rfl rfl hci
theorem rX11_wantDay_24 : tA sc iX11_wantDay 24 [l0, l1, l2, l3, l4] (vI x :: st) h Q = tA sc iX11_wantDay 25 [l0, tclr l1, vI x, l3, l4] st h Q := tA_pure mB_X11_wantDay dX11_wantDay_24 rfl
theorem rX11_wantDay_25 : tA sc iX11_wantDay 25 ls st h Q = tA sc iX11_wantDay 26 ls (vI (0) :: st) h Q := tA_pure mB_X11_wantDay dX11_wantDay_25 rfl
theorem rX11_wantDay_26 : tA sc iX11_wantDay 26 [l0, l1, l2, l3, l4] (vI x :: st) h Q = tA sc iX11_wantDay 27 [l0, l1, tclr l2, vI x, l4] st h Q := tA_pure mB_X11_wantDay dX11_wantDay_26 rfl
theorem rX11_wantDay_27 : tA sc iX11_wantDay 27 [l0, l1, l2, vI x, l4] st h Q = tA sc iX11_wantDay 28 [l0, l1, l2, vI x, l4] (vI x :: st) h Q := tA_pure mB_X11_wantDay dX11_wantDay_27 rfl
theorem rX11_wantDay_28 : tA sc iX11_wantDay 28 ls st h Q = tA sc iX11_wantDay 29 ls (vI (4) :: st) h Q := tA_pure mB_X11_wantDay dX11_wantDay_28 rfl
theorem rX11_wantDay_29 : tA sc iX11_wantDay 29 ls (vI y :: vI x :: st) h Q = (if y ≤ x then tA sc iX11_wantDay 45 ls st h Q else tA sc iX11_wantDay 32 ls st h Q) := tA_if mB_X11_wantDay dX11_wantDay_29 (fun _ _ _ _ => rfl) rfl
theorem rX11_wantDay_32 : tA sc iX11_wantDay 32 [vR r, l1, l2, l3, l4] st h Q = tA sc iX11_wantDay 33 [vR r, l1, l2, l3, l4] (vR r :: st) h Q := tA_pure mB_X11_wantDay dX11_wantDay_32 rfl
theorem rX11_wantDay_33 : tA sc iX11_wantDay 33 ls (vR (some o) :: st) h Q = oz (tget h o [11] 24) (fun v => tA sc iX11_wantDay 36 ls (v :: st) h Q) := tA_get mB_X11_wantDay mO_X11_wantDay dX11_wantDay_33 fT_11_46
theorem rX11_wantDay_36 : tA sc iX11_wantDay 36 [l0, l1, l2, vI x, l4] st h Q = tA sc iX11_wantDay 37 [l0, l1, l2, vI x, l4] (vI x :: st) h Q := tA_pure mB_X11_wantDay dX11_wantDay_36 rfl
theorem rX11_wantDay_37 : tA sc iX11_wantDay 37 ls st h Q = tA sc iX11_wantDay 38 ls (vI (1) :: st) h Q := tA_pure mB_X11_wantDay dX11_wantDay_37 rfl
theorem rX11_wantDay_38 : tA sc iX11_wantDay 38 ls (vI x :: vI j :: vR (some a) :: st) h Q = oz (tasi h a j x) (fun h' => tA sc iX11_wantDay 39 ls st h' Q) := tA_iast mB_X11_wantDay dX11_wantDay_38
theorem rX11_wantDay_39 : tA sc iX11_wantDay 39 [l0, l1, l2, vI x, l4] st h Q = tA sc iX11_wantDay 42 [l0, l1, tclr l2, vI (x + 1), l4] st h Q := tA_pure mB_X11_wantDay dX11_wantDay_39 rfl
theorem rX11_wantDay_42 : tA sc iX11_wantDay 42 ls st h Q = tA sc iX11_wantDay 27 ls st h Q := tA_jump mB_X11_wantDay dX11_wantDay_42 (fun _ _ _ _ => rfl) rfl
theorem rX11_wantDay_45 : tA sc iX11_wantDay 45 [vR r, l1, l2, l3, l4] st h Q = tA sc iX11_wantDay 46 [vR r, l1, l2, l3, l4] (vR r :: st) h Q := tA_pure mB_X11_wantDay dX11_wantDay_45 rfl
theorem rX11_wantDay_46 : tA sc iX11_wantDay 46 ls (vR (some o) :: st) h Q = oz (tget h o [11] 15) (fun v => tA sc iX11_wantDay 49 ls (v :: st) h Q) := tA_get mB_X11_wantDay mO_X11_wantDay dX11_wantDay_46 fT_11_148
theorem rX11_wantDay_49 : tA sc iX11_wantDay 49 ls (vI x :: st) h Q = (if x = 0 then tA sc iX11_wantDay 168 ls st h Q else tA sc iX11_wantDay 52 ls st h Q) := tA_if mB_X11_wantDay dX11_wantDay_49 (fun _ _ _ _ => rfl) rfl
theorem rX11_wantDay_52 : tA sc iX11_wantDay 52 [vR r, l1, l2, l3, l4] st h Q = tA sc iX11_wantDay 53 [vR r, l1, l2, l3, l4] (vR r :: st) h Q := tA_pure mB_X11_wantDay dX11_wantDay_52 rfl
theorem rX11_wantDay_53 : tA sc iX11_wantDay 53 ls st h Q = tA sc iX11_wantDay 56 ls (vL (411) :: st) h Q := tA_pure mB_X11_wantDay dX11_wantDay_53 rfl
theorem rX11_wantDay_56 (hci : tcl h o = some 11) : tA sc iX11_wantDay 56 ls [vL q0, vR (some o)] h Q = tA sc iX11_isWord 0 [vR (some o), vL q0, vU] [] h (fun v h1 => tA sc iX11_wantDay 59 ls (tpu v []) h1 Q) := tA_cV mB_X11_wantDay mO_X11_wantDay dX11_wantDay_56 cT_11_134 rfl (Nat.le_of_ble_eq_true rfl) rfl rfl rfl hci
theorem rX11_wantDay_59 : tA sc iX11_wantDay 59 ls (vI x :: st) h Q = (if x = 0 then tA sc iX11_wantDay 168 ls st h Q else tA sc iX11_wantDay 62 ls st h Q) := tA_if mB_X11_wantDay dX11_wantDay_59 (fun _ _ _ _ => rfl) rfl
theorem rX11_wantDay_62 : tA sc iX11_wantDay 62 [vR r, l1, l2, l3, l4] st h Q = tA sc iX11_wantDay 63 [vR r, l1, l2, l3, l4] (vR r :: st) h Q := tA_pure mB_X11_wantDay dX11_wantDay_62 rfl
theorem rX11_wantDay_63 (hci : tcl h o = some 11) : tA sc iX11_wantDay 63 ls [vR (some o)] h Q = tA sc iX11_advance 0 [vR (some o), vU] [] h (fun v h1 => tA sc iX11_wantDay 66 ls (tpu v []) h1 Q) := tA_cV mB_X11_wantDay mO_X11_wantDay dX11_wantDay_63 cT_11_152 rfl (Nat.le_of_ble_eq_true rfl) rfl rfl rfl hci
theorem rX11_wantDay_66 : tA sc iX11_wantDay 66 [vR r, l1, l2, l3, l4] st h Q = tA sc iX11_wantDay 67 [vR r, l1, l2, l3, l4] (vR r :: st) h Q := tA_pure mB_X11_wantDay dX11_wantDay_66 rfl
theorem rX11_wantDay_67 : tA sc iX11_wantDay 67 ls (vR (some o) :: st) h Q = oz (tget h o [11] 24) (fun v => tA sc iX11_wantDay 70 ls (v :: st) h Q) := tA_get mB_X11_wantDay mO_X11_wantDay dX11_wantDay_67 fT_11_46
theorem rX11_wantDay_70 : tA sc iX11_wantDay 70 ls st h Q = tA sc iX11_wantDay 71 ls (vI (0) :: st) h Q := tA_pure mB_X11_wantDay dX11_wantDay_70 rfl
theorem rX11_wantDay_71 : tA sc iX11_wantDay 71 [vR r, l1, l2, l3, l4] st h Q = tA sc iX11_wantDay 72 [vR r, l1, l2, l3, l4] (vR r :: st) h Q := tA_pure mB_X11_wantDay dX11_wantDay_71 rfl
theorem rX11_wantDay_72 : tA sc iX11_wantDay 72 ls st h Q = tA sc iX11_wantDay 74 ls (vI (9) :: st) h Q := tA_pure mB_X11_wantDay dX11_wantDay_72 rfl
theorem rX11_wantDay_74 (hci : tcl h o = some 11) : tA sc iX11_wantDay 74 ls [vI p0, vR (some o), s0, s1] h Q = tA sc iX11_wantNumber 0 [vR (some o), vI p0, vU] [] h (fun v h1 => tA sc iX11_wantDay 77 ls (tpu v [s0, s1]) h1 Q) := tA_cV mB_X11_wantDay mO_X11_wantDay dX11_wantDay_74 cT_11_158 rfl (Nat.le_of_ble_eq_true rfl) rfl rfl rfl hci
theorem rX11_wantDay_77 : tA sc iX11_wantDay 77 ls (vI x :: vI j :: vR (some a) :: st) h Q = oz (tasi h a j x) (fun h' => tA sc iX11_wantDay 78 ls st h' Q) := tA_iast mB_X11_wantDay dX11_wantDay_77
theorem rX11_wantDay_78 : tA sc iX11_wantDay 78 [vR r, l1, l2, l3, l4] st h Q = tA sc iX11_wantDay 79 [vR r, l1, l2, l3, l4] (vR r :: st) h Q := tA_pure mB_X11_wantDay dX11_wantDay_78 rfl
theorem rX11_wantDay_79 : tA sc iX11_wantDay 79 ls (vR (some o) :: st) h Q = oz (tget h o [11] 24) (fun v => tA sc iX11_wantDay 82 ls (v :: st) h Q) := tA_get mB_X11_wantDay mO_X11_wantDay dX11_wantDay_79 fT_11_46
theorem rX11_wantDay_82 : tA sc iX11_wantDay 82 ls st h Q = tA sc iX11_wantDay 83 ls (vI (1) :: st) h Q := tA_pure mB_X11_wantDay dX11_wantDay_82 rfl
theorem rX11_wantDay_83 : tA sc iX11_wantDay 83 [vR r, l1, l2, l3, l4] st h Q = tA sc iX11_wantDay 84 [vR r, l1, l2, l3, l4] (vR r :: st) h Q := tA_pure mB_X11_wantDay dX11_wantDay_83 rfl
theorem rX11_wantDay_84 : tA sc iX11_wantDay 84 ls st h Q = tA sc iX11_wantDay 86 ls (vI (9) :: st) h Q := tA_pure mB_X11_wantDay dX11_wantDay_84 rfl
theorem rX11_wantDay_86 (hci : tcl h o = some 11) : tA sc iX11_wantDay 86 ls [vI p0, vR (some o), s0, s1] h Q = tA sc iX11_wantNumber 0 [vR (some o), vI p0, vU] [] h (fun v h1 => tA sc iX11_wantDay 89 ls (tpu v [s0, s1]) h1 Q) := tA_cV mB_X11_wantDay mO_X11_wantDay dX11_wantDay_86 cT_11_158 rfl (Nat.le_of_ble_eq_true rfl) rfl rfl rfl hci
theorem rX11_wantDay_89 : tA sc iX11_wantDay 89 ls (vI x :: vI j :: vR (some a) :: st) h Q = oz (tasi h a j x) (fun h' => tA sc iX11_wantDay 90 ls st h' Q) := tA_iast mB_X11_wantDay dX11_wantDay_89
theorem rX11_wantDay_90 : tA sc iX11_wantDay 90 [vR r, l1, l2, l3, l4] st h Q = tA sc iX11_wantDay 91 [vR r, l1, l2, l3, l4] (vR r :: st) h Q := tA_pure mB_X11_wantDay dX11_wantDay_90 rfl
theorem rX11_wantDay_91 : tA sc iX11_wantDay 91 ls (vR (some o) :: st) h Q = oz (tget h o [11] 24) (fun v => tA sc iX11_wantDay 94 ls (v :: st) h Q) := tA_get mB_X11_wantDay mO_X11_wantDay dX11_wantDay_91 fT_11_46
theorem rX11_wantDay_94 : tA sc iX11_wantDay 94 ls st h Q = tA sc iX11_wantDay 95 ls (vI (2) :: st) h Q := tA_pure mB_X11_wantDay dX11_wantDay_94 rfl
theorem rX11_wantDay_95 : tA sc iX11_wantDay 95 [vR r, l1, l2, l3, l4] st h Q = tA sc iX11_wantDay 96 [vR r, l1, l2, l3, l4] (vR r :: st) h Q := tA_pure mB_X11_wantDay dX11_wantDay_95 rfl
theorem rX11_wantDay_96 : tA sc iX11_wantDay 96 ls st h Q = tA sc iX11_wantDay 98 ls (vI (9) :: st) h Q := tA_pure mB_X11_wantDay dX11_wantDay_96 rfl
theorem rX11_wantDay_98 (hci : tcl h o = some 11) : tA sc iX11_wantDay 98 ls [vI p0, vR (some o), s0, s1] h Q = tA sc iX11_wantNumber 0 [vR (some o), vI p0, vU] [] h (fun v h1 => tA sc iX11_wantDay 101 ls (tpu v [s0, s1]) h1 Q) := tA_cV mB_X11_wantDay mO_X11_wantDay dX11_wantDay_98 cT_11_158 rfl (Nat.le_of_ble_eq_true rfl) rfl rfl rfl hci
theorem rX11_wantDay_101 : tA sc iX11_wantDay 101 ls (vI x :: vI j :: vR (some a) :: st) h Q = oz (tasi h a j x) (fun h' => tA sc iX11_wantDay 102 ls st h' Q) := tA_iast mB_X11_wantDay dX11_wantDay_101
theorem rX11_wantDay_102 : tA sc iX11_wantDay 102 [vR r, l1, l2, l3, l4] st h Q = tA sc iX11_wantDay 103 [vR r, l1, l2, l3, l4] (vR r :: st) h Q := tA_pure mB_X11_wantDay dX11_wantDay_102 rfl
theorem rX11_wantDay_103 : tA sc iX11_wantDay 103 [vR r, l1, l2, l3, l4] st h Q = tA sc iX11_wantDay 104 [vR r, l1, l2, l3, l4] (vR r :: st) h Q := tA_pure mB_X11_wantDay dX11_wantDay_103 rfl
theorem rX11_wantDay_104 : tA sc iX11_wantDay 104 ls (vR (some o) :: st) h Q = oz (tget h o [11] 15) (fun v => tA sc iX11_wantDay 107 ls (v :: st) h Q) := tA_get mB_X11_wantDay mO_X11_wantDay dX11_wantDay_104 fT_11_148
theorem rX11_wantDay_107 : tA sc iX11_wantDay 107 ls (vI x :: st) h Q = (if x = 0 then tA sc iX11_wantDay 152 ls st h Q else tA sc iX11_wantDay 110 ls st h Q) := tA_if mB_X11_wantDay dX11_wantDay_107 (fun _ _ _ _ => rfl) rfl
theorem rX11_wantDay_110 : tA sc iX11_wantDay 110 [vR r, l1, l2, l3, l4] st h Q = tA sc iX11_wantDay 111 [vR r, l1, l2, l3, l4] (vR r :: st) h Q := tA_pure mB_X11_wantDay dX11_wantDay_110 rfl
theorem rX11_wantDay_111 : tA sc iX11_wantDay 111 ls (vR (some o) :: st) h Q = oz (tget h o [11] 10) (fun v => tA sc iX11_wantDay 114 ls (v :: st) h Q) := tA_get mB_X11_wantDay mO_X11_wantDay dX11_wantDay_111 fT_11_116
theorem rX11_wantDay_114 : tA sc iX11_wantDay 114 ls st h Q = tA sc iX11_wantDay 115 ls (vI (2) :: st) h Q := tA_pure mB_X11_wantDay dX11_wantDay_114 rfl
theorem rX11_wantDay_115 : tA sc iX11_wantDay 115 ls (vI y :: vI x :: st) h Q = (if ¬ x = y then tA sc iX11_wantDay 148 ls st h Q else tA sc iX11_wantDay 118 ls st h Q) := tA_if mB_X11_wantDay dX11_wantDay_115 (fun _ _ _ _ => rfl) rfl
theorem rX11_wantDay_118 : tA sc iX11_wantDay 118 [vR r, l1, l2, l3, l4] st h Q = tA sc iX11_wantDay 119 [vR r, l1, l2, l3, l4] (vR r :: st) h Q := tA_pure mB_X11_wantDay dX11_wantDay_118 rfl
theorem rX11_wantDay_119 : tA sc iX11_wantDay 119 ls (vR (some o) :: st) h Q = oz (tget h o [11] 14) (fun v => tA sc iX11_wantDay 122 ls (v :: st) h Q) := tA_get mB_X11_wantDay mO_X11_wantDay dX11_wantDay_119 fT_11_123
theorem rX11_wantDay_122 : tA sc iX11_wantDay 122 ls (vI x :: st) h Q = (if ¬ x = 0 then tA sc iX11_wantDay 148 ls st h Q else tA sc iX11_wantDay 125 ls st h Q) := tA_if mB_X11_wantDay dX11_wantDay_122 (fun _ _ _ _ => rfl) rfl
theorem rX11_wantDay_125 : tA sc iX11_wantDay 125 [vR r, l1, l2, l3, l4] st h Q = tA sc iX11_wantDay 126 [vR r, l1, l2, l3, l4] (vR r :: st) h Q := tA_pure mB_X11_wantDay dX11_wantDay_125 rfl
theorem rX11_wantDay_126 : tA sc iX11_wantDay 126 ls (vR (some o) :: st) h Q = oz (tget h o [11] 24) (fun v => tA sc iX11_wantDay 129 ls (v :: st) h Q) := tA_get mB_X11_wantDay mO_X11_wantDay dX11_wantDay_126 fT_11_46
theorem rX11_wantDay_129 : tA sc iX11_wantDay 129 ls st h Q = tA sc iX11_wantDay 130 ls (vI (0) :: st) h Q := tA_pure mB_X11_wantDay dX11_wantDay_129 rfl
theorem rX11_wantDay_130 : tA sc iX11_wantDay 130 ls (vI j :: vR (some a) :: st) h Q = oz (tald sc h 0 a j) (fun v => tA sc iX11_wantDay 131 ls (vI v :: st) h Q) := tA_iald mB_X11_wantDay dX11_wantDay_130
theorem rX11_wantDay_131 : tA sc iX11_wantDay 131 [vR r, l1, l2, l3, l4] st h Q = tA sc iX11_wantDay 132 [vR r, l1, l2, l3, l4] (vR r :: st) h Q := tA_pure mB_X11_wantDay dX11_wantDay_131 rfl
theorem rX11_wantDay_132 : tA sc iX11_wantDay 132 ls (vR (some o) :: st) h Q = oz (tget h o [11] 24) (fun v => tA sc iX11_wantDay 135 ls (v :: st) h Q) := tA_get mB_X11_wantDay mO_X11_wantDay dX11_wantDay_132 fT_11_46
theorem rX11_wantDay_135 : tA sc iX11_wantDay 135 ls st h Q = tA sc iX11_wantDay 136 ls (vI (1) :: st) h Q := tA_pure mB_X11_wantDay dX11_wantDay_135 rfl
theorem rX11_wantDay_136 : tA sc iX11_wantDay 136 ls (vI j :: vR (some a) :: st) h Q = oz (tald sc h 0 a j) (fun v => tA sc iX11_wantDay 137 ls (vI v :: st) h Q) := tA_iald mB_X11_wantDay dX11_wantDay_136
theorem rX11_wantDay_137 : tA sc iX11_wantDay 137 ls (vI y :: vI x :: st) h Q = tA sc iX11_wantDay 138 ls (vI (x + y) :: st) h Q := tA_pure mB_X11_wantDay dX11_wantDay_137 rfl
theorem rX11_wantDay_138 : tA sc iX11_wantDay 138 [vR r, l1, l2, l3, l4] st h Q = tA sc iX11_wantDay 139 [vR r, l1, l2, l3, l4] (vR r :: st) h Q := tA_pure mB_X11_wantDay dX11_wantDay_138 rfl
theorem rX11_wantDay_139 : tA sc iX11_wantDay 139 ls (vR (some o) :: st) h Q = oz (tget h o [11] 24) (fun v => tA sc iX11_wantDay 142 ls (v :: st) h Q) := tA_get mB_X11_wantDay mO_X11_wantDay dX11_wantDay_139 fT_11_46
theorem rX11_wantDay_142 : tA sc iX11_wantDay 142 ls st h Q = tA sc iX11_wantDay 143 ls (vI (2) :: st) h Q := tA_pure mB_X11_wantDay dX11_wantDay_142 rfl
theorem rX11_wantDay_143 : tA sc iX11_wantDay 143 ls (vI j :: vR (some a) :: st) h Q = oz (tald sc h 0 a j) (fun v => tA sc iX11_wantDay 144 ls (vI v :: st) h Q) := tA_iald mB_X11_wantDay dX11_wantDay_143
theorem rX11_wantDay_144 : tA sc iX11_wantDay 144 ls (vI y :: vI x :: st) h Q = tA sc iX11_wantDay 145 ls (vI (x + y) :: st) h Q := tA_pure mB_X11_wantDay dX11_wantDay_144 rfl
theorem rX11_wantDay_145 : tA sc iX11_wantDay 145 ls (vI x :: st) h Q = (if x = 0 then tA sc iX11_wantDay 152 ls st h Q else tA sc iX11_wantDay 148 ls st h Q) := tA_if mB_X11_wantDay dX11_wantDay_145 (fun _ _ _ _ => rfl) rfl
theorem rX11_wantDay_148 : tA sc iX11_wantDay 148 ls st h Q = tA sc iX11_wantDay 149 ls (vI (1) :: st) h Q := tA_pure mB_X11_wantDay dX11_wantDay_148 rfl
theorem rX11_wantDay_149 : tA sc iX11_wantDay 149 ls st h Q = tA sc iX11_wantDay 153 ls st h Q := tA_jump mB_X11_wantDay dX11_wantDay_149 (fun _ _ _ _ => rfl) rfl
theorem rX11_wantDay_152 : tA sc iX11_wantDay 152 ls st h Q = tA sc iX11_wantDay 153 ls (vI (0) :: st) h Q := tA_pure mB_X11_wantDay dX11_wantDay_152 rfl
theorem rX11_wantDay_153 : tA sc iX11_wantDay 153 ls (v :: vR (some o) :: st) h Q = oz (tput h o [11] 15 1 v) (fun h' => tA sc iX11_wantDay 156 ls st h' Q) := tA_put mB_X11_wantDay mO_X11_wantDay dX11_wantDay_153 fT_11_148 (Or.inl (by decide))
theorem rX11_wantDay_156 : tA sc iX11_wantDay 156 [vR r, l1, l2, l3, l4] st h Q = tA sc iX11_wantDay 157 [vR r, l1, l2, l3, l4] (vR r :: st) h Q := tA_pure mB_X11_wantDay dX11_wantDay_156 rfl
theorem rX11_wantDay_157 : tA sc iX11_wantDay 157 ls (vR (some o) :: st) h Q = oz (tget h o [11] 24) (fun v => tA sc iX11_wantDay 160 ls (v :: st) h Q) := tA_get mB_X11_wantDay mO_X11_wantDay dX11_wantDay_157 fT_11_46
theorem rX11_wantDay_160 : tA sc iX11_wantDay 160 ls st h Q = tA sc iX11_wantDay 161 ls (vI (3) :: st) h Q := tA_pure mB_X11_wantDay dX11_wantDay_160 rfl
theorem rX11_wantDay_161 : tA sc iX11_wantDay 161 [vR r, l1, l2, l3, l4] st h Q = tA sc iX11_wantDay 162 [vR r, l1, l2, l3, l4] (vR r :: st) h Q := tA_pure mB_X11_wantDay dX11_wantDay_161 rfl
theorem rX11_wantDay_162 : tA sc iX11_wantDay 162 ls st h Q = tA sc iX11_wantDay 164 ls (vI (9) :: st) h Q := tA_pure mB_X11_wantDay dX11_wantDay_162 rfl
theorem rX11_wantDay_164 (hci : tcl h o = some 11) : tA sc iX11_wantDay 164 ls [vI p0, vR (some o), s0, s1] h Q = tA sc iX11_wantNumber 0 [vR (some o), vI p0, vU] [] h (fun v h1 => tA sc iX11_wantDay 167 ls (tpu v [s0, s1]) h1 Q) := tA_cV mB_X11_wantDay mO_X11_wantDay dX11_wantDay_164 cT_11_158 rfl (Nat.le_of_ble_eq_true rfl) rfl rfl rfl hci
theorem rX11_wantDay_167 : tA sc iX11_wantDay 167 ls (vI x :: vI j :: vR (some a) :: st) h Q = oz (tasi h a j x) (fun h' => tA sc iX11_wantDay 168 ls st h' Q) := tA_iast mB_X11_wantDay dX11_wantDay_167
theorem rX11_wantDay_168 : tA sc iX11_wantDay 168 ls st h Q = tA sc iX11_wantDay 169 ls (vI (-1) :: st) h Q := tA_pure mB_X11_wantDay dX11_wantDay_168 rfl
theorem rX11_wantDay_169 : tA sc iX11_wantDay 169 [l0, l1, l2, l3, l4] (vI x :: st) h Q = tA sc iX11_wantDay 170 [l0, l1, tclr l2, vI x, l4] st h Q := tA_pure mB_X11_wantDay dX11_wantDay_169 rfl
theorem rX11_wantDay_170 : tA sc iX11_wantDay 170 [vR r, l1, l2, l3, l4] st h Q = tA sc iX11_wantDay 171 [vR r, l1, l2, l3, l4] (vR r :: st) h Q := tA_pure mB_X11_wantDay dX11_wantDay_170 rfl
theorem rX11_wantDay_171 : tA sc iX11_wantDay 171 ls (vR (some o) :: st) h Q = oz (tget h o [11] 15) (fun v => tA sc iX11_wantDay 174 ls (v :: st) h Q) := tA_get mB_X11_wantDay mO_X11_wantDay dX11_wantDay_171 fT_11_148
theorem rX11_wantDay_174 : tA sc iX11_wantDay 174 ls (vI x :: st) h Q = (if x = 0 then tA sc iX11_wantDay 197 ls st h Q else tA sc iX11_wantDay 177 ls st h Q) := tA_if mB_X11_wantDay dX11_wantDay_174 (fun _ _ _ _ => rfl) rfl
theorem rX11_wantDay_177 : tA sc iX11_wantDay 177 [vR r, l1, l2, l3, l4] st h Q = tA sc iX11_wantDay 178 [vR r, l1, l2, l3, l4] (vR r :: st) h Q := tA_pure mB_X11_wantDay dX11_wantDay_177 rfl
theorem rX11_wantDay_178 : tA sc iX11_wantDay 178 ls st h Q = tA sc iX11_wantDay 181 ls (vL (380741) :: st) h Q := tA_pure mB_X11_wantDay dX11_wantDay_178 rfl
theorem rX11_wantDay_181 (hci : tcl h o = some 11) : tA sc iX11_wantDay 181 ls [vL q0, vR (some o)] h Q = tA sc iX11_isWord 0 [vR (some o), vL q0, vU] [] h (fun v h1 => tA sc iX11_wantDay 184 ls (tpu v []) h1 Q) := tA_cV mB_X11_wantDay mO_X11_wantDay dX11_wantDay_181 cT_11_134 rfl (Nat.le_of_ble_eq_true rfl) rfl rfl rfl hci
theorem rX11_wantDay_184 : tA sc iX11_wantDay 184 ls (vI x :: st) h Q = (if x = 0 then tA sc iX11_wantDay 197 ls st h Q else tA sc iX11_wantDay 187 ls st h Q) := tA_if mB_X11_wantDay dX11_wantDay_184 (fun _ _ _ _ => rfl) rfl
theorem rX11_wantDay_187 : tA sc iX11_wantDay 187 [vR r, l1, l2, l3, l4] st h Q = tA sc iX11_wantDay 188 [vR r, l1, l2, l3, l4] (vR r :: st) h Q := tA_pure mB_X11_wantDay dX11_wantDay_187 rfl
theorem rX11_wantDay_188 (hci : tcl h o = some 11) : tA sc iX11_wantDay 188 ls [vR (some o)] h Q = tA sc iX11_advance 0 [vR (some o), vU] [] h (fun v h1 => tA sc iX11_wantDay 191 ls (tpu v []) h1 Q) := tA_cV mB_X11_wantDay mO_X11_wantDay dX11_wantDay_188 cT_11_152 rfl (Nat.le_of_ble_eq_true rfl) rfl rfl rfl hci
theorem rX11_wantDay_191 : tA sc iX11_wantDay 191 [vR r, l1, l2, l3, l4] st h Q = tA sc iX11_wantDay 192 [vR r, l1, l2, l3, l4] (vR r :: st) h Q := tA_pure mB_X11_wantDay dX11_wantDay_191 rfl
theorem rX11_wantDay_192 : tA sc iX11_wantDay 192 ls st h Q = tA sc iX11_wantDay 193 ls (vI (3) :: st) h Q := tA_pure mB_X11_wantDay dX11_wantDay_192 rfl
theorem rX11_wantDay_193 (hci : tcl h o = some 11) : tA sc iX11_wantDay 193 ls [vI p0, vR (some o)] h Q = tA sc iX11_wantNumber 0 [vR (some o), vI p0, vU] [] h (fun v h1 => tA sc iX11_wantDay 196 ls (tpu v []) h1 Q) := tA_cV mB_X11_wantDay mO_X11_wantDay dX11_wantDay_193 cT_11_158 rfl (Nat.le_of_ble_eq_true rfl) rfl rfl rfl hci
theorem rX11_wantDay_196 : tA sc iX11_wantDay 196 [l0, l1, l2, l3, l4] (vI x :: st) h Q = tA sc iX11_wantDay 197 [l0, l1, tclr l2, vI x, l4] st h Q := tA_pure mB_X11_wantDay dX11_wantDay_196 rfl
theorem rX11_wantDay_197 : tA sc iX11_wantDay 197 [vR r, l1, l2, l3, l4] st h Q = tA sc iX11_wantDay 198 [vR r, l1, l2, l3, l4] (vR r :: st) h Q := tA_pure mB_X11_wantDay dX11_wantDay_197 rfl
theorem rX11_wantDay_198 (hci : tcl h o = some 11) : tA sc iX11_wantDay 198 ls [vR (some o)] h Q = tA sc iX11_wantEnd 0 [vR (some o)] [] h (fun v h1 => tA sc iX11_wantDay 201 ls (tpu v []) h1 Q) := tA_cV mB_X11_wantDay mO_X11_wantDay dX11_wantDay_198 cT_11_171 rfl (Nat.le_of_ble_eq_true rfl) rfl rfl rfl hci
theorem rX11_wantDay_201 : tA sc iX11_wantDay 201 [vR r, l1, l2, l3, l4] st h Q = tA sc iX11_wantDay 202 [vR r, l1, l2, l3, l4] (vR r :: st) h Q := tA_pure mB_X11_wantDay dX11_wantDay_201 rfl
theorem rX11_wantDay_202 : tA sc iX11_wantDay 202 ls (vR (some o) :: st) h Q = oz (tget h o [11] 15) (fun v => tA sc iX11_wantDay 205 ls (v :: st) h Q) := tA_get mB_X11_wantDay mO_X11_wantDay dX11_wantDay_202 fT_11_148
theorem rX11_wantDay_205 : tA sc iX11_wantDay 205 ls (vI x :: st) h Q = (if x = 0 then tA sc iX11_wantDay 255 ls st h Q else tA sc iX11_wantDay 208 ls st h Q) := tA_if mB_X11_wantDay dX11_wantDay_205 (fun _ _ _ _ => rfl) rfl
theorem rX11_wantDay_208 : tA sc iX11_wantDay 208 [vR r, l1, l2, l3, l4] st h Q = tA sc iX11_wantDay 209 [vR r, l1, l2, l3, l4] (vR r :: st) h Q := tA_pure mB_X11_wantDay dX11_wantDay_208 rfl
theorem rX11_wantDay_209 : tA sc iX11_wantDay 209 ls (vR (some o) :: st) h Q = oz (tget h o [11] 19) (fun v => tA sc iX11_wantDay 212 ls (v :: st) h Q) := tA_get mB_X11_wantDay mO_X11_wantDay dX11_wantDay_209 fT_11_31
theorem rX11_wantDay_212 : tA sc iX11_wantDay 212 [l0, vI x, l2, l3, l4] st h Q = tA sc iX11_wantDay 213 [l0, vI x, l2, l3, l4] (vI x :: st) h Q := tA_pure mB_X11_wantDay dX11_wantDay_212 rfl
theorem rX11_wantDay_213 : tA sc iX11_wantDay 213 [l0, l1, vI x, l3, l4] st h Q = tA sc iX11_wantDay 214 [l0, l1, vI x, l3, l4] (vI x :: st) h Q := tA_pure mB_X11_wantDay dX11_wantDay_213 rfl
theorem rX11_wantDay_214 : tA sc iX11_wantDay 214 ls (vI x :: vI j :: vR (some a) :: st) h Q = oz (tasi h a j x) (fun h' => tA sc iX11_wantDay 215 ls st h' Q) := tA_iast mB_X11_wantDay dX11_wantDay_214
theorem rX11_wantDay_215 : tA sc iX11_wantDay 215 [vR r, l1, l2, l3, l4] st h Q = tA sc iX11_wantDay 216 [vR r, l1, l2, l3, l4] (vR r :: st) h Q := tA_pure mB_X11_wantDay dX11_wantDay_215 rfl
theorem rX11_wantDay_216 : tA sc iX11_wantDay 216 ls (vR (some o) :: st) h Q = oz (tget h o [11] 21) (fun v => tA sc iX11_wantDay 219 ls (v :: st) h Q) := tA_get mB_X11_wantDay mO_X11_wantDay dX11_wantDay_216 fT_11_37
theorem rX11_wantDay_219 : tA sc iX11_wantDay 219 [l0, vI x, l2, l3, l4] st h Q = tA sc iX11_wantDay 220 [l0, vI x, l2, l3, l4] (vI x :: st) h Q := tA_pure mB_X11_wantDay dX11_wantDay_219 rfl
theorem rX11_wantDay_220 : tA sc iX11_wantDay 220 [l0, l1, l2, vI x, l4] st h Q = tA sc iX11_wantDay 221 [l0, l1, l2, vI x, l4] (vI x :: st) h Q := tA_pure mB_X11_wantDay dX11_wantDay_220 rfl
theorem rX11_wantDay_221 : tA sc iX11_wantDay 221 ls (vI x :: vI j :: vR (some a) :: st) h Q = oz (tasi h a j x) (fun h' => tA sc iX11_wantDay 222 ls st h' Q) := tA_iast mB_X11_wantDay dX11_wantDay_221
theorem rX11_wantDay_222 : tA sc iX11_wantDay 222 ls st h Q = tA sc iX11_wantDay 223 ls (vI (0) :: st) h Q := tA_pure mB_X11_wantDay dX11_wantDay_222 rfl
theorem rX11_wantDay_223 : tA sc iX11_wantDay 223 [l0, l1, l2, l3, l4] (vI x :: st) h Q = tA sc iX11_wantDay 225 [l0, l1, l2, tclr l3, vI x] st h Q := tA_pure mB_X11_wantDay dX11_wantDay_223 rfl
theorem rX11_wantDay_225 : tA sc iX11_wantDay 225 [l0, l1, l2, l3, vI x] st h Q = tA sc iX11_wantDay 227 [l0, l1, l2, l3, vI x] (vI x :: st) h Q := tA_pure mB_X11_wantDay dX11_wantDay_225 rfl
theorem rX11_wantDay_227 : tA sc iX11_wantDay 227 ls st h Q = tA sc iX11_wantDay 228 ls (vI (4) :: st) h Q := tA_pure mB_X11_wantDay dX11_wantDay_227 rfl
theorem rX11_wantDay_228 : tA sc iX11_wantDay 228 ls (vI y :: vI x :: st) h Q = (if y ≤ x then tA sc iX11_wantDay 255 ls st h Q else tA sc iX11_wantDay 231 ls st h Q) := tA_if mB_X11_wantDay dX11_wantDay_228 (fun _ _ _ _ => rfl) rfl
theorem rX11_wantDay_231 : tA sc iX11_wantDay 231 [vR r, l1, l2, l3, l4] st h Q = tA sc iX11_wantDay 232 [vR r, l1, l2, l3, l4] (vR r :: st) h Q := tA_pure mB_X11_wantDay dX11_wantDay_231 rfl
theorem rX11_wantDay_232 : tA sc iX11_wantDay 232 ls (vR (some o) :: st) h Q = oz (tget h o [11] 20) (fun v => tA sc iX11_wantDay 235 ls (v :: st) h Q) := tA_get mB_X11_wantDay mO_X11_wantDay dX11_wantDay_232 fT_11_34
theorem rX11_wantDay_235 : tA sc iX11_wantDay 235 ls st h Q = tA sc iX11_wantDay 236 ls (vI (4) :: st) h Q := tA_pure mB_X11_wantDay dX11_wantDay_235 rfl
theorem rX11_wantDay_236 : tA sc iX11_wantDay 236 [l0, vI x, l2, l3, l4] st h Q = tA sc iX11_wantDay 237 [l0, vI x, l2, l3, l4] (vI x :: st) h Q := tA_pure mB_X11_wantDay dX11_wantDay_236 rfl
theorem rX11_wantDay_237 : tA sc iX11_wantDay 237 ls (vI y :: vI x :: st) h Q = tA sc iX11_wantDay 238 ls (vI (x * y) :: st) h Q := tA_pure mB_X11_wantDay dX11_wantDay_237 rfl
theorem rX11_wantDay_238 : tA sc iX11_wantDay 238 [l0, l1, l2, l3, vI x] st h Q = tA sc iX11_wantDay 240 [l0, l1, l2, l3, vI x] (vI x :: st) h Q := tA_pure mB_X11_wantDay dX11_wantDay_238 rfl
theorem rX11_wantDay_240 : tA sc iX11_wantDay 240 ls (vI y :: vI x :: st) h Q = tA sc iX11_wantDay 241 ls (vI (x + y) :: st) h Q := tA_pure mB_X11_wantDay dX11_wantDay_240 rfl
theorem rX11_wantDay_241 : tA sc iX11_wantDay 241 [vR r, l1, l2, l3, l4] st h Q = tA sc iX11_wantDay 242 [vR r, l1, l2, l3, l4] (vR r :: st) h Q := tA_pure mB_X11_wantDay dX11_wantDay_241 rfl
theorem rX11_wantDay_242 : tA sc iX11_wantDay 242 ls (vR (some o) :: st) h Q = oz (tget h o [11] 24) (fun v => tA sc iX11_wantDay 245 ls (v :: st) h Q) := tA_get mB_X11_wantDay mO_X11_wantDay dX11_wantDay_242 fT_11_46
theorem rX11_wantDay_245 : tA sc iX11_wantDay 245 [l0, l1, l2, l3, vI x] st h Q = tA sc iX11_wantDay 247 [l0, l1, l2, l3, vI x] (vI x :: st) h Q := tA_pure mB_X11_wantDay dX11_wantDay_245 rfl
theorem rX11_wantDay_247 : tA sc iX11_wantDay 247 ls (vI j :: vR (some a) :: st) h Q = oz (tald sc h 0 a j) (fun v => tA sc iX11_wantDay 248 ls (vI v :: st) h Q) := tA_iald mB_X11_wantDay dX11_wantDay_247
theorem rX11_wantDay_248 : tA sc iX11_wantDay 248 ls (vI x :: vI j :: vR (some a) :: st) h Q = oz (tasi h a j x) (fun h' => tA sc iX11_wantDay 249 ls st h' Q) := tA_iast mB_X11_wantDay dX11_wantDay_248
theorem rX11_wantDay_249 : tA sc iX11_wantDay 249 [l0, l1, l2, l3, vI x] st h Q = tA sc iX11_wantDay 252 [l0, l1, l2, tclr l3, vI (x + 1)] st h Q := tA_pure mB_X11_wantDay dX11_wantDay_249 rfl
theorem rX11_wantDay_252 : tA sc iX11_wantDay 252 ls st h Q = tA sc iX11_wantDay 225 ls st h Q := tA_jump mB_X11_wantDay dX11_wantDay_252 (fun _ _ _ _ => rfl) rfl
theorem rX11_wantDay_255 : tA sc iX11_wantDay 255 ls [] h Q = Q (none) h := tA_ret mB_X11_wantDay dX11_wantDay_255 (fun _ _ _ _ => rfl) (fun _ _ _ => rfl) (fun _ _ _ _ _ => rfl) rfl rfl
theorem mB_X11_isFreshSaid : mB iX11_isFreshSaid = cX11_isFreshSaid := rfl
theorem mO_X11_isFreshSaid : mO iX11_isFreshSaid = 11 := rfl
theorem rX11_isFreshSaid_0 : tA sc iX11_isFreshSaid 0 ls st h Q = tA sc iX11_isFreshSaid 1 ls (vI (0) :: st) h Q := tA_pure mB_X11_isFreshSaid dX11_isFreshSaid_0 rfl
theorem rX11_isFreshSaid_1 : tA sc iX11_isFreshSaid 1 [l0, l1, l2, l3, l4] (vI x :: st) h Q = tA sc iX11_isFreshSaid 2 [l0, l1, tclr l2, vI x, l4] st h Q := tA_pure mB_X11_isFreshSaid dX11_isFreshSaid_1 rfl
theorem rX11_isFreshSaid_2 : tA sc iX11_isFreshSaid 2 ls st h Q = tA sc iX11_isFreshSaid 3 ls (vI (0) :: st) h Q := tA_pure mB_X11_isFreshSaid dX11_isFreshSaid_2 rfl
theorem rX11_isFreshSaid_3 : tA sc iX11_isFreshSaid 3 [l0, l1, l2, l3, l4] (vI x :: st) h Q = tA sc iX11_isFreshSaid 5 [l0, l1, l2, tclr l3, vI x] st h Q := tA_pure mB_X11_isFreshSaid dX11_isFreshSaid_3 rfl
theorem rX11_isFreshSaid_5 : tA sc iX11_isFreshSaid 5 [l0, l1, l2, l3, vI x] st h Q = tA sc iX11_isFreshSaid 7 [l0, l1, l2, l3, vI x] (vI x :: st) h Q := tA_pure mB_X11_isFreshSaid dX11_isFreshSaid_5 rfl
theorem rX11_isFreshSaid_7 : tA sc iX11_isFreshSaid 7 [vR r, l1, l2, l3, l4] st h Q = tA sc iX11_isFreshSaid 8 [vR r, l1, l2, l3, l4] (vR r :: st) h Q := tA_pure mB_X11_isFreshSaid dX11_isFreshSaid_7 rfl
theorem rX11_isFreshSaid_8 : tA sc iX11_isFreshSaid 8 ls (vR (some o) :: st) h Q = oz (tget h o [11] 18) (fun v => tA sc iX11_isFreshSaid 11 ls (v :: st) h Q) := tA_get mB_X11_isFreshSaid mO_X11_isFreshSaid dX11_isFreshSaid_8 fT_11_174
theorem rX11_isFreshSaid_11 : tA sc iX11_isFreshSaid 11 ls (vI y :: vI x :: st) h Q = (if y ≤ x then tA sc iX11_isFreshSaid 60 ls st h Q else tA sc iX11_isFreshSaid 14 ls st h Q) := tA_if mB_X11_isFreshSaid dX11_isFreshSaid_11 (fun _ _ _ _ => rfl) rfl
theorem rX11_isFreshSaid_14 : tA sc iX11_isFreshSaid 14 [l0, l1, l2, vI x, l4] st h Q = tA sc iX11_isFreshSaid 15 [l0, l1, l2, vI x, l4] (vI x :: st) h Q := tA_pure mB_X11_isFreshSaid dX11_isFreshSaid_14 rfl
theorem rX11_isFreshSaid_15 : tA sc iX11_isFreshSaid 15 ls (vI x :: st) h Q = (if ¬ x = 0 then tA sc iX11_isFreshSaid 48 ls st h Q else tA sc iX11_isFreshSaid 18 ls st h Q) := tA_if mB_X11_isFreshSaid dX11_isFreshSaid_15 (fun _ _ _ _ => rfl) rfl
theorem rX11_isFreshSaid_18 : tA sc iX11_isFreshSaid 18 [vR r, l1, l2, l3, l4] st h Q = tA sc iX11_isFreshSaid 19 [vR r, l1, l2, l3, l4] (vR r :: st) h Q := tA_pure mB_X11_isFreshSaid dX11_isFreshSaid_18 rfl
theorem rX11_isFreshSaid_19 : tA sc iX11_isFreshSaid 19 ls (vR (some o) :: st) h Q = oz (tget h o [11] 23) (fun v => tA sc iX11_isFreshSaid 22 ls (v :: st) h Q) := tA_get mB_X11_isFreshSaid mO_X11_isFreshSaid dX11_isFreshSaid_19 fT_11_43
theorem rX11_isFreshSaid_22 : tA sc iX11_isFreshSaid 22 ls st h Q = tA sc iX11_isFreshSaid 23 ls (vI (3) :: st) h Q := tA_pure mB_X11_isFreshSaid dX11_isFreshSaid_22 rfl
theorem rX11_isFreshSaid_23 : tA sc iX11_isFreshSaid 23 [l0, l1, l2, l3, vI x] st h Q = tA sc iX11_isFreshSaid 25 [l0, l1, l2, l3, vI x] (vI x :: st) h Q := tA_pure mB_X11_isFreshSaid dX11_isFreshSaid_23 rfl
theorem rX11_isFreshSaid_25 : tA sc iX11_isFreshSaid 25 ls (vI y :: vI x :: st) h Q = tA sc iX11_isFreshSaid 26 ls (vI (x * y) :: st) h Q := tA_pure mB_X11_isFreshSaid dX11_isFreshSaid_25 rfl
theorem rX11_isFreshSaid_26 : tA sc iX11_isFreshSaid 26 ls st h Q = tA sc iX11_isFreshSaid 27 ls (vI (1) :: st) h Q := tA_pure mB_X11_isFreshSaid dX11_isFreshSaid_26 rfl
theorem rX11_isFreshSaid_27 : tA sc iX11_isFreshSaid 27 ls (vI y :: vI x :: st) h Q = tA sc iX11_isFreshSaid 28 ls (vI (x + y) :: st) h Q := tA_pure mB_X11_isFreshSaid dX11_isFreshSaid_27 rfl
theorem rX11_isFreshSaid_28 : tA sc iX11_isFreshSaid 28 ls (vI j :: vR (some a) :: st) h Q = oz (tald sc h 0 a j) (fun v => tA sc iX11_isFreshSaid 29 ls (vI v :: st) h Q) := tA_iald mB_X11_isFreshSaid dX11_isFreshSaid_28
theorem rX11_isFreshSaid_29 : tA sc iX11_isFreshSaid 29 [l0, vI x, l2, l3, l4] st h Q = tA sc iX11_isFreshSaid 30 [l0, vI x, l2, l3, l4] (vI x :: st) h Q := tA_pure mB_X11_isFreshSaid dX11_isFreshSaid_29 rfl
theorem rX11_isFreshSaid_30 : tA sc iX11_isFreshSaid 30 ls (vI y :: vI x :: st) h Q = (if ¬ x = y then tA sc iX11_isFreshSaid 52 ls st h Q else tA sc iX11_isFreshSaid 33 ls st h Q) := tA_if mB_X11_isFreshSaid dX11_isFreshSaid_30 (fun _ _ _ _ => rfl) rfl
theorem rX11_isFreshSaid_33 : tA sc iX11_isFreshSaid 33 [vR r, l1, l2, l3, l4] st h Q = tA sc iX11_isFreshSaid 34 [vR r, l1, l2, l3, l4] (vR r :: st) h Q := tA_pure mB_X11_isFreshSaid dX11_isFreshSaid_33 rfl
theorem rX11_isFreshSaid_34 : tA sc iX11_isFreshSaid 34 ls (vR (some o) :: st) h Q = oz (tget h o [11] 23) (fun v => tA sc iX11_isFreshSaid 37 ls (v :: st) h Q) := tA_get mB_X11_isFreshSaid mO_X11_isFreshSaid dX11_isFreshSaid_34 fT_11_43
theorem rX11_isFreshSaid_37 : tA sc iX11_isFreshSaid 37 ls st h Q = tA sc iX11_isFreshSaid 38 ls (vI (3) :: st) h Q := tA_pure mB_X11_isFreshSaid dX11_isFreshSaid_37 rfl
theorem rX11_isFreshSaid_38 : tA sc iX11_isFreshSaid 38 [l0, l1, l2, l3, vI x] st h Q = tA sc iX11_isFreshSaid 40 [l0, l1, l2, l3, vI x] (vI x :: st) h Q := tA_pure mB_X11_isFreshSaid dX11_isFreshSaid_38 rfl
theorem rX11_isFreshSaid_40 : tA sc iX11_isFreshSaid 40 ls (vI y :: vI x :: st) h Q = tA sc iX11_isFreshSaid 41 ls (vI (x * y) :: st) h Q := tA_pure mB_X11_isFreshSaid dX11_isFreshSaid_40 rfl
theorem rX11_isFreshSaid_41 : tA sc iX11_isFreshSaid 41 ls st h Q = tA sc iX11_isFreshSaid 42 ls (vI (2) :: st) h Q := tA_pure mB_X11_isFreshSaid dX11_isFreshSaid_41 rfl
theorem rX11_isFreshSaid_42 : tA sc iX11_isFreshSaid 42 ls (vI y :: vI x :: st) h Q = tA sc iX11_isFreshSaid 43 ls (vI (x + y) :: st) h Q := tA_pure mB_X11_isFreshSaid dX11_isFreshSaid_42 rfl
theorem rX11_isFreshSaid_43 : tA sc iX11_isFreshSaid 43 ls (vI j :: vR (some a) :: st) h Q = oz (tald sc h 0 a j) (fun v => tA sc iX11_isFreshSaid 44 ls (vI v :: st) h Q) := tA_iald mB_X11_isFreshSaid dX11_isFreshSaid_43
theorem rX11_isFreshSaid_44 : tA sc iX11_isFreshSaid 44 [l0, l1, vI x, l3, l4] st h Q = tA sc iX11_isFreshSaid 45 [l0, l1, vI x, l3, l4] (vI x :: st) h Q := tA_pure mB_X11_isFreshSaid dX11_isFreshSaid_44 rfl
theorem rX11_isFreshSaid_45 : tA sc iX11_isFreshSaid 45 ls (vI y :: vI x :: st) h Q = (if ¬ x = y then tA sc iX11_isFreshSaid 52 ls st h Q else tA sc iX11_isFreshSaid 48 ls st h Q) := tA_if mB_X11_isFreshSaid dX11_isFreshSaid_45 (fun _ _ _ _ => rfl) rfl
theorem rX11_isFreshSaid_48 : tA sc iX11_isFreshSaid 48 ls st h Q = tA sc iX11_isFreshSaid 49 ls (vI (1) :: st) h Q := tA_pure mB_X11_isFreshSaid dX11_isFreshSaid_48 rfl
theorem rX11_isFreshSaid_49 : tA sc iX11_isFreshSaid 49 ls st h Q = tA sc iX11_isFreshSaid 53 ls st h Q := tA_jump mB_X11_isFreshSaid dX11_isFreshSaid_49 (fun _ _ _ _ => rfl) rfl
theorem rX11_isFreshSaid_52 : tA sc iX11_isFreshSaid 52 ls st h Q = tA sc iX11_isFreshSaid 53 ls (vI (0) :: st) h Q := tA_pure mB_X11_isFreshSaid dX11_isFreshSaid_52 rfl
theorem rX11_isFreshSaid_53 : tA sc iX11_isFreshSaid 53 [l0, l1, l2, l3, l4] (vI x :: st) h Q = tA sc iX11_isFreshSaid 54 [l0, l1, tclr l2, vI x, l4] st h Q := tA_pure mB_X11_isFreshSaid dX11_isFreshSaid_53 rfl
theorem rX11_isFreshSaid_54 : tA sc iX11_isFreshSaid 54 [l0, l1, l2, l3, vI x] st h Q = tA sc iX11_isFreshSaid 57 [l0, l1, l2, tclr l3, vI (x + 1)] st h Q := tA_pure mB_X11_isFreshSaid dX11_isFreshSaid_54 rfl
theorem rX11_isFreshSaid_57 : tA sc iX11_isFreshSaid 57 ls st h Q = tA sc iX11_isFreshSaid 5 ls st h Q := tA_jump mB_X11_isFreshSaid dX11_isFreshSaid_57 (fun _ _ _ _ => rfl) rfl
theorem rX11_isFreshSaid_60 : tA sc iX11_isFreshSaid 60 [l0, l1, l2, vI x, l4] st h Q = tA sc iX11_isFreshSaid 61 [l0, l1, l2, vI x, l4] (vI x :: st) h Q := tA_pure mB_X11_isFreshSaid dX11_isFreshSaid_60 rfl
theorem rX11_isFreshSaid_61 : tA sc iX11_isFreshSaid 61 ls [vI x] h Q = ((x = 0 ∨ x = 1) ∧ Q (some (vI x)) h) := tA_retz mB_X11_isFreshSaid dX11_isFreshSaid_61 rfl
theorem mB_X11_wantSaying : mB iX11_wantSaying = cX11_wantSaying := rfl
theorem mO_X11_wantSaying : mO iX11_wantSaying = 11 := rfl
theorem rX11_wantSaying_0 : tA sc iX11_wantSaying 0 [vR r, l1, l2, l3] st h Q = tA sc iX11_wantSaying 1 [vR r, l1, l2, l3] (vR r :: st) h Q := tA_pure mB_X11_wantSaying dX11_wantSaying_0 rfl
theorem rX11_wantSaying_1 : tA sc iX11_wantSaying 1 [vR r, l1, l2, l3] st h Q = tA sc iX11_wantSaying 2 [vR r, l1, l2, l3] (vR r :: st) h Q := tA_pure mB_X11_wantSaying dX11_wantSaying_1 rfl
theorem rX11_wantSaying_2 : tA sc iX11_wantSaying 2 ls (vR (some o) :: st) h Q = oz (tget h o [11] 18) (fun v => tA sc iX11_wantSaying 5 ls (v :: st) h Q) := tA_get mB_X11_wantSaying mO_X11_wantSaying dX11_wantSaying_2 fT_11_174
theorem rX11_wantSaying_5 : tA sc iX11_wantSaying 5 ls st h Q = tA sc iX11_wantSaying 7 ls (vI (40) :: st) h Q := tA_pure mB_X11_wantSaying dX11_wantSaying_5 rfl
theorem rX11_wantSaying_7 : tA sc iX11_wantSaying 7 ls (vI y :: vI x :: st) h Q = (if y ≤ x then tA sc iX11_wantSaying 14 ls st h Q else tA sc iX11_wantSaying 10 ls st h Q) := tA_if mB_X11_wantSaying dX11_wantSaying_7 (fun _ _ _ _ => rfl) rfl
theorem rX11_wantSaying_10 : tA sc iX11_wantSaying 10 ls st h Q = tA sc iX11_wantSaying 11 ls (vI (1) :: st) h Q := tA_pure mB_X11_wantSaying dX11_wantSaying_10 rfl
theorem rX11_wantSaying_11 : tA sc iX11_wantSaying 11 ls st h Q = tA sc iX11_wantSaying 15 ls st h Q := tA_jump mB_X11_wantSaying dX11_wantSaying_11 (fun _ _ _ _ => rfl) rfl
theorem rX11_wantSaying_14 : tA sc iX11_wantSaying 14 ls st h Q = tA sc iX11_wantSaying 15 ls (vI (0) :: st) h Q := tA_pure mB_X11_wantSaying dX11_wantSaying_14 rfl
theorem rX11_wantSaying_15 : tA sc iX11_wantSaying 15 ls (v :: vR (some o) :: st) h Q = oz (tput h o [11] 15 1 v) (fun h' => tA sc iX11_wantSaying 18 ls st h' Q) := tA_put mB_X11_wantSaying mO_X11_wantSaying dX11_wantSaying_15 fT_11_148 (Or.inl (by decide))
theorem rX11_wantSaying_18 : tA sc iX11_wantSaying 18 [vR r, l1, l2, l3] st h Q = tA sc iX11_wantSaying 19 [vR r, l1, l2, l3] (vR r :: st) h Q := tA_pure mB_X11_wantSaying dX11_wantSaying_18 rfl
theorem rX11_wantSaying_19 : tA sc iX11_wantSaying 19 ls (vR (some o) :: st) h Q = oz (tget h o [11] 15) (fun v => tA sc iX11_wantSaying 22 ls (v :: st) h Q) := tA_get mB_X11_wantSaying mO_X11_wantSaying dX11_wantSaying_19 fT_11_148
theorem rX11_wantSaying_22 : tA sc iX11_wantSaying 22 ls (vI x :: st) h Q = (if x = 0 then tA sc iX11_wantSaying 29 ls st h Q else tA sc iX11_wantSaying 25 ls st h Q) := tA_if mB_X11_wantSaying dX11_wantSaying_22 (fun _ _ _ _ => rfl) rfl
theorem rX11_wantSaying_25 : tA sc iX11_wantSaying 25 [vR r, l1, l2, l3] st h Q = tA sc iX11_wantSaying 26 [vR r, l1, l2, l3] (vR r :: st) h Q := tA_pure mB_X11_wantSaying dX11_wantSaying_25 rfl
theorem rX11_wantSaying_26 (hci : tcl h o = some 11) : tA sc iX11_wantSaying 26 ls [vR (some o)] h Q = tA sc iX11_advance 0 [vR (some o), vU] [] h (fun v h1 => tA sc iX11_wantSaying 29 ls (tpu v []) h1 Q) := tA_cV mB_X11_wantSaying mO_X11_wantSaying dX11_wantSaying_26 cT_11_152 rfl (Nat.le_of_ble_eq_true rfl) rfl rfl rfl hci
theorem rX11_wantSaying_29 : tA sc iX11_wantSaying 29 [vR r, l1, l2, l3] st h Q = tA sc iX11_wantSaying 30 [vR r, l1, l2, l3] (vR r :: st) h Q := tA_pure mB_X11_wantSaying dX11_wantSaying_29 rfl
theorem rX11_wantSaying_30 : tA sc iX11_wantSaying 30 [vR r, l1, l2, l3] st h Q = tA sc iX11_wantSaying 31 [vR r, l1, l2, l3] (vR r :: st) h Q := tA_pure mB_X11_wantSaying dX11_wantSaying_30 rfl
theorem rX11_wantSaying_31 : tA sc iX11_wantSaying 31 ls (vR (some o) :: st) h Q = oz (tget h o [11] 17) (fun v => tA sc iX11_wantSaying 34 ls (v :: st) h Q) := tA_get mB_X11_wantSaying mO_X11_wantSaying dX11_wantSaying_31 fT_11_177
theorem rX11_wantSaying_34 : tA sc iX11_wantSaying 34 ls st h Q = tA sc iX11_wantSaying 35 ls (vI (1) :: st) h Q := tA_pure mB_X11_wantSaying dX11_wantSaying_34 rfl
theorem rX11_wantSaying_35 : tA sc iX11_wantSaying 35 ls (vI y :: vI x :: st) h Q = tA sc iX11_wantSaying 36 ls (vI (x - y) :: st) h Q := tA_pure mB_X11_wantSaying dX11_wantSaying_35 rfl
theorem rX11_wantSaying_36 (hci : tcl h o = some 11) : tA sc iX11_wantSaying 36 ls [vI p0, vR (some o)] h Q = tA sc iX11_wantNumber 0 [vR (some o), vI p0, vU] [] h (fun v h1 => tA sc iX11_wantSaying 39 ls (tpu v []) h1 Q) := tA_cV mB_X11_wantSaying mO_X11_wantSaying dX11_wantSaying_36 cT_11_158 rfl (Nat.le_of_ble_eq_true rfl) rfl rfl rfl hci
theorem rX11_wantSaying_39 : tA sc iX11_wantSaying 39 [l0, l1, l2, l3] (vI x :: st) h Q = tA sc iX11_wantSaying 40 [tclr l0, vI x, l2, l3] st h Q := tA_pure mB_X11_wantSaying dX11_wantSaying_39 rfl
theorem rX11_wantSaying_40 : tA sc iX11_wantSaying 40 [vR r, l1, l2, l3] st h Q = tA sc iX11_wantSaying 41 [vR r, l1, l2, l3] (vR r :: st) h Q := tA_pure mB_X11_wantSaying dX11_wantSaying_40 rfl
theorem rX11_wantSaying_41 : tA sc iX11_wantSaying 41 ls st h Q = tA sc iX11_wantSaying 43 ls (vI (19) :: st) h Q := tA_pure mB_X11_wantSaying dX11_wantSaying_41 rfl
theorem rX11_wantSaying_43 (hci : tcl h o = some 11) : tA sc iX11_wantSaying 43 ls [vI p0, vR (some o)] h Q = tA sc iX11_wantNumber 0 [vR (some o), vI p0, vU] [] h (fun v h1 => tA sc iX11_wantSaying 46 ls (tpu v []) h1 Q) := tA_cV mB_X11_wantSaying mO_X11_wantSaying dX11_wantSaying_43 cT_11_158 rfl (Nat.le_of_ble_eq_true rfl) rfl rfl rfl hci
theorem rX11_wantSaying_46 : tA sc iX11_wantSaying 46 [l0, l1, l2, l3] (vI x :: st) h Q = tA sc iX11_wantSaying 47 [l0, tclr l1, vI x, l3] st h Q := tA_pure mB_X11_wantSaying dX11_wantSaying_46 rfl
theorem rX11_wantSaying_47 : tA sc iX11_wantSaying 47 [vR r, l1, l2, l3] st h Q = tA sc iX11_wantSaying 48 [vR r, l1, l2, l3] (vR r :: st) h Q := tA_pure mB_X11_wantSaying dX11_wantSaying_47 rfl
theorem rX11_wantSaying_48 : tA sc iX11_wantSaying 48 [vR r, l1, l2, l3] st h Q = tA sc iX11_wantSaying 49 [vR r, l1, l2, l3] (vR r :: st) h Q := tA_pure mB_X11_wantSaying dX11_wantSaying_48 rfl
theorem rX11_wantSaying_49 : tA sc iX11_wantSaying 49 ls (vR (some o) :: st) h Q = oz (tget h o [11] 15) (fun v => tA sc iX11_wantSaying 52 ls (v :: st) h Q) := tA_get mB_X11_wantSaying mO_X11_wantSaying dX11_wantSaying_49 fT_11_148
theorem rX11_wantSaying_52 : tA sc iX11_wantSaying 52 ls (vI x :: st) h Q = (if x = 0 then tA sc iX11_wantSaying 79 ls st h Q else tA sc iX11_wantSaying 55 ls st h Q) := tA_if mB_X11_wantSaying dX11_wantSaying_52 (fun _ _ _ _ => rfl) rfl
theorem rX11_wantSaying_55 : tA sc iX11_wantSaying 55 [vR r, l1, l2, l3] st h Q = tA sc iX11_wantSaying 56 [vR r, l1, l2, l3] (vR r :: st) h Q := tA_pure mB_X11_wantSaying dX11_wantSaying_55 rfl
theorem rX11_wantSaying_56 : tA sc iX11_wantSaying 56 ls (vR (some o) :: st) h Q = oz (tget h o [11] 10) (fun v => tA sc iX11_wantSaying 59 ls (v :: st) h Q) := tA_get mB_X11_wantSaying mO_X11_wantSaying dX11_wantSaying_56 fT_11_116
theorem rX11_wantSaying_59 : tA sc iX11_wantSaying 59 ls st h Q = tA sc iX11_wantSaying 60 ls (vI (2) :: st) h Q := tA_pure mB_X11_wantSaying dX11_wantSaying_59 rfl
theorem rX11_wantSaying_60 : tA sc iX11_wantSaying 60 ls (vI y :: vI x :: st) h Q = (if ¬ x = y then tA sc iX11_wantSaying 75 ls st h Q else tA sc iX11_wantSaying 63 ls st h Q) := tA_if mB_X11_wantSaying dX11_wantSaying_60 (fun _ _ _ _ => rfl) rfl
theorem rX11_wantSaying_63 : tA sc iX11_wantSaying 63 [vR r, l1, l2, l3] st h Q = tA sc iX11_wantSaying 64 [vR r, l1, l2, l3] (vR r :: st) h Q := tA_pure mB_X11_wantSaying dX11_wantSaying_63 rfl
theorem rX11_wantSaying_64 : tA sc iX11_wantSaying 64 [l0, l1, vI x, l3] st h Q = tA sc iX11_wantSaying 65 [l0, l1, vI x, l3] (vI x :: st) h Q := tA_pure mB_X11_wantSaying dX11_wantSaying_64 rfl
theorem rX11_wantSaying_65 : tA sc iX11_wantSaying 65 [vR r, l1, l2, l3] st h Q = tA sc iX11_wantSaying 66 [vR r, l1, l2, l3] (vR r :: st) h Q := tA_pure mB_X11_wantSaying dX11_wantSaying_65 rfl
theorem rX11_wantSaying_66 : tA sc iX11_wantSaying 66 ls (vR (some o) :: st) h Q = oz (tget h o [11] 14) (fun v => tA sc iX11_wantSaying 69 ls (v :: st) h Q) := tA_get mB_X11_wantSaying mO_X11_wantSaying dX11_wantSaying_66 fT_11_123
theorem rX11_wantSaying_69 (hci : tcl h o = some 11) : tA sc iX11_wantSaying 69 ls [vI p1, vI p0, vR (some o), s0] h Q = tA sc iX11_isFreshSaid 0 [vR (some o), vI p0, vI p1, vU, vU] [] h (fun v h1 => tA sc iX11_wantSaying 72 ls (tpu v [s0]) h1 Q) := tA_cV mB_X11_wantSaying mO_X11_wantSaying dX11_wantSaying_69 cT_11_180 rfl (Nat.le_of_ble_eq_true rfl) rfl rfl rfl hci
theorem rX11_wantSaying_72 : tA sc iX11_wantSaying 72 ls (vI x :: st) h Q = (if ¬ x = 0 then tA sc iX11_wantSaying 79 ls st h Q else tA sc iX11_wantSaying 75 ls st h Q) := tA_if mB_X11_wantSaying dX11_wantSaying_72 (fun _ _ _ _ => rfl) rfl
theorem rX11_wantSaying_75 : tA sc iX11_wantSaying 75 ls st h Q = tA sc iX11_wantSaying 76 ls (vI (1) :: st) h Q := tA_pure mB_X11_wantSaying dX11_wantSaying_75 rfl
theorem rX11_wantSaying_76 : tA sc iX11_wantSaying 76 ls st h Q = tA sc iX11_wantSaying 80 ls st h Q := tA_jump mB_X11_wantSaying dX11_wantSaying_76 (fun _ _ _ _ => rfl) rfl
theorem rX11_wantSaying_79 : tA sc iX11_wantSaying 79 ls st h Q = tA sc iX11_wantSaying 80 ls (vI (0) :: st) h Q := tA_pure mB_X11_wantSaying dX11_wantSaying_79 rfl
theorem rX11_wantSaying_80 : tA sc iX11_wantSaying 80 ls (v :: vR (some o) :: st) h Q = oz (tput h o [11] 15 1 v) (fun h' => tA sc iX11_wantSaying 83 ls st h' Q) := tA_put mB_X11_wantSaying mO_X11_wantSaying dX11_wantSaying_80 fT_11_148 (Or.inl (by decide))
theorem rX11_wantSaying_83 : tA sc iX11_wantSaying 83 [vR r, l1, l2, l3] st h Q = tA sc iX11_wantSaying 84 [vR r, l1, l2, l3] (vR r :: st) h Q := tA_pure mB_X11_wantSaying dX11_wantSaying_83 rfl
theorem rX11_wantSaying_84 : tA sc iX11_wantSaying 84 ls st h Q = tA sc iX11_wantSaying 85 ls (vI (3) :: st) h Q := tA_pure mB_X11_wantSaying dX11_wantSaying_84 rfl
theorem rX11_wantSaying_85 (hci : tcl h o = some 11) : tA sc iX11_wantSaying 85 ls [vI p0, vR (some o)] h Q = tA sc iX11_wantNumber 0 [vR (some o), vI p0, vU] [] h (fun v h1 => tA sc iX11_wantSaying 88 ls (tpu v []) h1 Q) := tA_cV mB_X11_wantSaying mO_X11_wantSaying dX11_wantSaying_85 cT_11_158 rfl (Nat.le_of_ble_eq_true rfl) rfl rfl rfl hci
theorem rX11_wantSaying_88 : tA sc iX11_wantSaying 88 [l0, l1, l2, l3] (vI x :: st) h Q = tA sc iX11_wantSaying 89 [l0, l1, tclr l2, vI x] st h Q := tA_pure mB_X11_wantSaying dX11_wantSaying_88 rfl
theorem rX11_wantSaying_89 : tA sc iX11_wantSaying 89 [vR r, l1, l2, l3] st h Q = tA sc iX11_wantSaying 90 [vR r, l1, l2, l3] (vR r :: st) h Q := tA_pure mB_X11_wantSaying dX11_wantSaying_89 rfl
theorem rX11_wantSaying_90 (hci : tcl h o = some 11) : tA sc iX11_wantSaying 90 ls [vR (some o)] h Q = tA sc iX11_wantEnd 0 [vR (some o)] [] h (fun v h1 => tA sc iX11_wantSaying 93 ls (tpu v []) h1 Q) := tA_cV mB_X11_wantSaying mO_X11_wantSaying dX11_wantSaying_90 cT_11_171 rfl (Nat.le_of_ble_eq_true rfl) rfl rfl rfl hci
theorem rX11_wantSaying_93 : tA sc iX11_wantSaying 93 [vR r, l1, l2, l3] st h Q = tA sc iX11_wantSaying 94 [vR r, l1, l2, l3] (vR r :: st) h Q := tA_pure mB_X11_wantSaying dX11_wantSaying_93 rfl
theorem rX11_wantSaying_94 : tA sc iX11_wantSaying 94 ls (vR (some o) :: st) h Q = oz (tget h o [11] 15) (fun v => tA sc iX11_wantSaying 97 ls (v :: st) h Q) := tA_get mB_X11_wantSaying mO_X11_wantSaying dX11_wantSaying_94 fT_11_148
theorem rX11_wantSaying_97 : tA sc iX11_wantSaying 97 ls (vI x :: st) h Q = (if x = 0 then tA sc iX11_wantSaying 150 ls st h Q else tA sc iX11_wantSaying 100 ls st h Q) := tA_if mB_X11_wantSaying dX11_wantSaying_97 (fun _ _ _ _ => rfl) rfl
theorem rX11_wantSaying_100 : tA sc iX11_wantSaying 100 [vR r, l1, l2, l3] st h Q = tA sc iX11_wantSaying 101 [vR r, l1, l2, l3] (vR r :: st) h Q := tA_pure mB_X11_wantSaying dX11_wantSaying_100 rfl
theorem rX11_wantSaying_101 : tA sc iX11_wantSaying 101 ls (vR (some o) :: st) h Q = oz (tget h o [11] 23) (fun v => tA sc iX11_wantSaying 104 ls (v :: st) h Q) := tA_get mB_X11_wantSaying mO_X11_wantSaying dX11_wantSaying_101 fT_11_43
theorem rX11_wantSaying_104 : tA sc iX11_wantSaying 104 ls st h Q = tA sc iX11_wantSaying 105 ls (vI (3) :: st) h Q := tA_pure mB_X11_wantSaying dX11_wantSaying_104 rfl
theorem rX11_wantSaying_105 : tA sc iX11_wantSaying 105 [vR r, l1, l2, l3] st h Q = tA sc iX11_wantSaying 106 [vR r, l1, l2, l3] (vR r :: st) h Q := tA_pure mB_X11_wantSaying dX11_wantSaying_105 rfl
theorem rX11_wantSaying_106 : tA sc iX11_wantSaying 106 ls (vR (some o) :: st) h Q = oz (tget h o [11] 18) (fun v => tA sc iX11_wantSaying 109 ls (v :: st) h Q) := tA_get mB_X11_wantSaying mO_X11_wantSaying dX11_wantSaying_106 fT_11_174
theorem rX11_wantSaying_109 : tA sc iX11_wantSaying 109 ls (vI y :: vI x :: st) h Q = tA sc iX11_wantSaying 110 ls (vI (x * y) :: st) h Q := tA_pure mB_X11_wantSaying dX11_wantSaying_109 rfl
theorem rX11_wantSaying_110 : tA sc iX11_wantSaying 110 [l0, vI x, l2, l3] st h Q = tA sc iX11_wantSaying 111 [l0, vI x, l2, l3] (vI x :: st) h Q := tA_pure mB_X11_wantSaying dX11_wantSaying_110 rfl
theorem rX11_wantSaying_111 : tA sc iX11_wantSaying 111 ls (vI x :: vI j :: vR (some a) :: st) h Q = oz (tasi h a j x) (fun h' => tA sc iX11_wantSaying 112 ls st h' Q) := tA_iast mB_X11_wantSaying dX11_wantSaying_111
theorem rX11_wantSaying_112 : tA sc iX11_wantSaying 112 [vR r, l1, l2, l3] st h Q = tA sc iX11_wantSaying 113 [vR r, l1, l2, l3] (vR r :: st) h Q := tA_pure mB_X11_wantSaying dX11_wantSaying_112 rfl
theorem rX11_wantSaying_113 : tA sc iX11_wantSaying 113 ls (vR (some o) :: st) h Q = oz (tget h o [11] 23) (fun v => tA sc iX11_wantSaying 116 ls (v :: st) h Q) := tA_get mB_X11_wantSaying mO_X11_wantSaying dX11_wantSaying_113 fT_11_43
theorem rX11_wantSaying_116 : tA sc iX11_wantSaying 116 ls st h Q = tA sc iX11_wantSaying 117 ls (vI (3) :: st) h Q := tA_pure mB_X11_wantSaying dX11_wantSaying_116 rfl
theorem rX11_wantSaying_117 : tA sc iX11_wantSaying 117 [vR r, l1, l2, l3] st h Q = tA sc iX11_wantSaying 118 [vR r, l1, l2, l3] (vR r :: st) h Q := tA_pure mB_X11_wantSaying dX11_wantSaying_117 rfl
theorem rX11_wantSaying_118 : tA sc iX11_wantSaying 118 ls (vR (some o) :: st) h Q = oz (tget h o [11] 18) (fun v => tA sc iX11_wantSaying 121 ls (v :: st) h Q) := tA_get mB_X11_wantSaying mO_X11_wantSaying dX11_wantSaying_118 fT_11_174
theorem rX11_wantSaying_121 : tA sc iX11_wantSaying 121 ls (vI y :: vI x :: st) h Q = tA sc iX11_wantSaying 122 ls (vI (x * y) :: st) h Q := tA_pure mB_X11_wantSaying dX11_wantSaying_121 rfl
theorem rX11_wantSaying_122 : tA sc iX11_wantSaying 122 ls st h Q = tA sc iX11_wantSaying 123 ls (vI (1) :: st) h Q := tA_pure mB_X11_wantSaying dX11_wantSaying_122 rfl
theorem rX11_wantSaying_123 : tA sc iX11_wantSaying 123 ls (vI y :: vI x :: st) h Q = tA sc iX11_wantSaying 124 ls (vI (x + y) :: st) h Q := tA_pure mB_X11_wantSaying dX11_wantSaying_123 rfl
theorem rX11_wantSaying_124 : tA sc iX11_wantSaying 124 [l0, l1, vI x, l3] st h Q = tA sc iX11_wantSaying 125 [l0, l1, vI x, l3] (vI x :: st) h Q := tA_pure mB_X11_wantSaying dX11_wantSaying_124 rfl
theorem rX11_wantSaying_125 : tA sc iX11_wantSaying 125 ls (vI x :: vI j :: vR (some a) :: st) h Q = oz (tasi h a j x) (fun h' => tA sc iX11_wantSaying 126 ls st h' Q) := tA_iast mB_X11_wantSaying dX11_wantSaying_125
theorem rX11_wantSaying_126 : tA sc iX11_wantSaying 126 [vR r, l1, l2, l3] st h Q = tA sc iX11_wantSaying 127 [vR r, l1, l2, l3] (vR r :: st) h Q := tA_pure mB_X11_wantSaying dX11_wantSaying_126 rfl
theorem rX11_wantSaying_127 : tA sc iX11_wantSaying 127 ls (vR (some o) :: st) h Q = oz (tget h o [11] 23) (fun v => tA sc iX11_wantSaying 130 ls (v :: st) h Q) := tA_get mB_X11_wantSaying mO_X11_wantSaying dX11_wantSaying_127 fT_11_43
theorem rX11_wantSaying_130 : tA sc iX11_wantSaying 130 ls st h Q = tA sc iX11_wantSaying 131 ls (vI (3) :: st) h Q := tA_pure mB_X11_wantSaying dX11_wantSaying_130 rfl
theorem rX11_wantSaying_131 : tA sc iX11_wantSaying 131 [vR r, l1, l2, l3] st h Q = tA sc iX11_wantSaying 132 [vR r, l1, l2, l3] (vR r :: st) h Q := tA_pure mB_X11_wantSaying dX11_wantSaying_131 rfl
theorem rX11_wantSaying_132 : tA sc iX11_wantSaying 132 ls (vR (some o) :: st) h Q = oz (tget h o [11] 18) (fun v => tA sc iX11_wantSaying 135 ls (v :: st) h Q) := tA_get mB_X11_wantSaying mO_X11_wantSaying dX11_wantSaying_132 fT_11_174
theorem rX11_wantSaying_135 : tA sc iX11_wantSaying 135 ls (vI y :: vI x :: st) h Q = tA sc iX11_wantSaying 136 ls (vI (x * y) :: st) h Q := tA_pure mB_X11_wantSaying dX11_wantSaying_135 rfl
theorem rX11_wantSaying_136 : tA sc iX11_wantSaying 136 ls st h Q = tA sc iX11_wantSaying 137 ls (vI (2) :: st) h Q := tA_pure mB_X11_wantSaying dX11_wantSaying_136 rfl
theorem rX11_wantSaying_137 : tA sc iX11_wantSaying 137 ls (vI y :: vI x :: st) h Q = tA sc iX11_wantSaying 138 ls (vI (x + y) :: st) h Q := tA_pure mB_X11_wantSaying dX11_wantSaying_137 rfl
theorem rX11_wantSaying_138 : tA sc iX11_wantSaying 138 [l0, l1, l2, vI x] st h Q = tA sc iX11_wantSaying 139 [l0, l1, l2, vI x] (vI x :: st) h Q := tA_pure mB_X11_wantSaying dX11_wantSaying_138 rfl
theorem rX11_wantSaying_139 : tA sc iX11_wantSaying 139 ls (vI x :: vI j :: vR (some a) :: st) h Q = oz (tasi h a j x) (fun h' => tA sc iX11_wantSaying 140 ls st h' Q) := tA_iast mB_X11_wantSaying dX11_wantSaying_139
theorem rX11_wantSaying_140 : tA sc iX11_wantSaying 140 [vR r, l1, l2, l3] st h Q = tA sc iX11_wantSaying 141 [vR r, l1, l2, l3] (vR r :: st) h Q := tA_pure mB_X11_wantSaying dX11_wantSaying_140 rfl
theorem rX11_wantSaying_141 : tA sc iX11_wantSaying 141 ls (vR r :: st) h Q = tA sc iX11_wantSaying 142 ls (vR r :: vR r :: st) h Q := tA_pure mB_X11_wantSaying dX11_wantSaying_141 rfl
theorem rX11_wantSaying_142 : tA sc iX11_wantSaying 142 ls (vR (some o) :: st) h Q = oz (tget h o [11] 18) (fun v => tA sc iX11_wantSaying 145 ls (v :: st) h Q) := tA_get mB_X11_wantSaying mO_X11_wantSaying dX11_wantSaying_142 fT_11_174
theorem rX11_wantSaying_145 : tA sc iX11_wantSaying 145 ls st h Q = tA sc iX11_wantSaying 146 ls (vI (1) :: st) h Q := tA_pure mB_X11_wantSaying dX11_wantSaying_145 rfl
theorem rX11_wantSaying_146 : tA sc iX11_wantSaying 146 ls (vI y :: vI x :: st) h Q = tA sc iX11_wantSaying 147 ls (vI (x + y) :: st) h Q := tA_pure mB_X11_wantSaying dX11_wantSaying_146 rfl
theorem rX11_wantSaying_147 : tA sc iX11_wantSaying 147 ls (v :: vR (some o) :: st) h Q = oz (tput h o [11] 18 0 v) (fun h' => tA sc iX11_wantSaying 150 ls st h' Q) := tA_put mB_X11_wantSaying mO_X11_wantSaying dX11_wantSaying_147 fT_11_174 (Or.inl (by decide))
theorem rX11_wantSaying_150 : tA sc iX11_wantSaying 150 ls [] h Q = Q (none) h := tA_ret mB_X11_wantSaying dX11_wantSaying_150 (fun _ _ _ _ => rfl) (fun _ _ _ => rfl) (fun _ _ _ _ _ => rfl) rfl rfl
theorem mB_X11_wantSayer : mB iX11_wantSayer = cX11_wantSayer := rfl
theorem mO_X11_wantSayer : mO iX11_wantSayer = 11 := rfl
theorem rX11_wantSayer_0 : tA sc iX11_wantSayer 0 [vR r, l1, l2] st h Q = tA sc iX11_wantSayer 1 [vR r, l1, l2] (vR r :: st) h Q := tA_pure mB_X11_wantSayer dX11_wantSayer_0 rfl
theorem rX11_wantSayer_1 : tA sc iX11_wantSayer 1 [vR r, l1, l2] st h Q = tA sc iX11_wantSayer 2 [vR r, l1, l2] (vR r :: st) h Q := tA_pure mB_X11_wantSayer dX11_wantSayer_1 rfl
theorem rX11_wantSayer_2 : tA sc iX11_wantSayer 2 ls (vR (some o) :: st) h Q = oz (tget h o [11] 17) (fun v => tA sc iX11_wantSayer 5 ls (v :: st) h Q) := tA_get mB_X11_wantSayer mO_X11_wantSayer dX11_wantSayer_2 fT_11_177
theorem rX11_wantSayer_5 : tA sc iX11_wantSayer 5 ls st h Q = tA sc iX11_wantSayer 6 ls (vI (5) :: st) h Q := tA_pure mB_X11_wantSayer dX11_wantSayer_5 rfl
theorem rX11_wantSayer_6 : tA sc iX11_wantSayer 6 ls (vI y :: vI x :: st) h Q = (if y ≤ x then tA sc iX11_wantSayer 13 ls st h Q else tA sc iX11_wantSayer 9 ls st h Q) := tA_if mB_X11_wantSayer dX11_wantSayer_6 (fun _ _ _ _ => rfl) rfl
theorem rX11_wantSayer_9 : tA sc iX11_wantSayer 9 ls st h Q = tA sc iX11_wantSayer 10 ls (vI (1) :: st) h Q := tA_pure mB_X11_wantSayer dX11_wantSayer_9 rfl
theorem rX11_wantSayer_10 : tA sc iX11_wantSayer 10 ls st h Q = tA sc iX11_wantSayer 14 ls st h Q := tA_jump mB_X11_wantSayer dX11_wantSayer_10 (fun _ _ _ _ => rfl) rfl
theorem rX11_wantSayer_13 : tA sc iX11_wantSayer 13 ls st h Q = tA sc iX11_wantSayer 14 ls (vI (0) :: st) h Q := tA_pure mB_X11_wantSayer dX11_wantSayer_13 rfl
theorem rX11_wantSayer_14 : tA sc iX11_wantSayer 14 ls (v :: vR (some o) :: st) h Q = oz (tput h o [11] 15 1 v) (fun h' => tA sc iX11_wantSayer 17 ls st h' Q) := tA_put mB_X11_wantSayer mO_X11_wantSayer dX11_wantSayer_14 fT_11_148 (Or.inl (by decide))
theorem rX11_wantSayer_17 : tA sc iX11_wantSayer 17 [vR r, l1, l2] st h Q = tA sc iX11_wantSayer 18 [vR r, l1, l2] (vR r :: st) h Q := tA_pure mB_X11_wantSayer dX11_wantSayer_17 rfl
theorem rX11_wantSayer_18 : tA sc iX11_wantSayer 18 ls (vR (some o) :: st) h Q = oz (tget h o [11] 15) (fun v => tA sc iX11_wantSayer 21 ls (v :: st) h Q) := tA_get mB_X11_wantSayer mO_X11_wantSayer dX11_wantSayer_18 fT_11_148
theorem rX11_wantSayer_21 : tA sc iX11_wantSayer 21 ls (vI x :: st) h Q = (if x = 0 then tA sc iX11_wantSayer 28 ls st h Q else tA sc iX11_wantSayer 24 ls st h Q) := tA_if mB_X11_wantSayer dX11_wantSayer_21 (fun _ _ _ _ => rfl) rfl
theorem rX11_wantSayer_24 : tA sc iX11_wantSayer 24 [vR r, l1, l2] st h Q = tA sc iX11_wantSayer 25 [vR r, l1, l2] (vR r :: st) h Q := tA_pure mB_X11_wantSayer dX11_wantSayer_24 rfl
theorem rX11_wantSayer_25 (hci : tcl h o = some 11) : tA sc iX11_wantSayer 25 ls [vR (some o)] h Q = tA sc iX11_advance 0 [vR (some o), vU] [] h (fun v h1 => tA sc iX11_wantSayer 28 ls (tpu v []) h1 Q) := tA_cV mB_X11_wantSayer mO_X11_wantSayer dX11_wantSayer_25 cT_11_152 rfl (Nat.le_of_ble_eq_true rfl) rfl rfl rfl hci
theorem rX11_wantSayer_28 : tA sc iX11_wantSayer 28 [vR r, l1, l2] st h Q = tA sc iX11_wantSayer 29 [vR r, l1, l2] (vR r :: st) h Q := tA_pure mB_X11_wantSayer dX11_wantSayer_28 rfl
theorem rX11_wantSayer_29 : tA sc iX11_wantSayer 29 ls st h Q = tA sc iX11_wantSayer 31 ls (vI (9) :: st) h Q := tA_pure mB_X11_wantSayer dX11_wantSayer_29 rfl
theorem rX11_wantSayer_31 (hci : tcl h o = some 11) : tA sc iX11_wantSayer 31 ls [vI p0, vR (some o)] h Q = tA sc iX11_wantNumber 0 [vR (some o), vI p0, vU] [] h (fun v h1 => tA sc iX11_wantSayer 34 ls (tpu v []) h1 Q) := tA_cV mB_X11_wantSayer mO_X11_wantSayer dX11_wantSayer_31 cT_11_158 rfl (Nat.le_of_ble_eq_true rfl) rfl rfl rfl hci
theorem rX11_wantSayer_34 : tA sc iX11_wantSayer 34 [l0, l1, l2] (vI x :: st) h Q = tA sc iX11_wantSayer 35 [l0, tclr l1, vI x] st h Q := tA_pure mB_X11_wantSayer dX11_wantSayer_34 rfl
theorem rX11_wantSayer_35 : tA sc iX11_wantSayer 35 [vR r, l1, l2] st h Q = tA sc iX11_wantSayer 36 [vR r, l1, l2] (vR r :: st) h Q := tA_pure mB_X11_wantSayer dX11_wantSayer_35 rfl
theorem rX11_wantSayer_36 (hci : tcl h o = some 11) : tA sc iX11_wantSayer 36 ls [vR (some o)] h Q = tA sc iX11_wantEnd 0 [vR (some o)] [] h (fun v h1 => tA sc iX11_wantSayer 39 ls (tpu v []) h1 Q) := tA_cV mB_X11_wantSayer mO_X11_wantSayer dX11_wantSayer_36 cT_11_171 rfl (Nat.le_of_ble_eq_true rfl) rfl rfl rfl hci
theorem rX11_wantSayer_39 : tA sc iX11_wantSayer 39 [vR r, l1, l2] st h Q = tA sc iX11_wantSayer 40 [vR r, l1, l2] (vR r :: st) h Q := tA_pure mB_X11_wantSayer dX11_wantSayer_39 rfl
theorem rX11_wantSayer_40 : tA sc iX11_wantSayer 40 ls (vR (some o) :: st) h Q = oz (tget h o [11] 15) (fun v => tA sc iX11_wantSayer 43 ls (v :: st) h Q) := tA_get mB_X11_wantSayer mO_X11_wantSayer dX11_wantSayer_40 fT_11_148
theorem rX11_wantSayer_43 : tA sc iX11_wantSayer 43 ls (vI x :: st) h Q = (if x = 0 then tA sc iX11_wantSayer 82 ls st h Q else tA sc iX11_wantSayer 46 ls st h Q) := tA_if mB_X11_wantSayer dX11_wantSayer_43 (fun _ _ _ _ => rfl) rfl
theorem rX11_wantSayer_46 : tA sc iX11_wantSayer 46 [vR r, l1, l2] st h Q = tA sc iX11_wantSayer 47 [vR r, l1, l2] (vR r :: st) h Q := tA_pure mB_X11_wantSayer dX11_wantSayer_46 rfl
theorem rX11_wantSayer_47 : tA sc iX11_wantSayer 47 ls (vR (some o) :: st) h Q = oz (tget h o [11] 22) (fun v => tA sc iX11_wantSayer 50 ls (v :: st) h Q) := tA_get mB_X11_wantSayer mO_X11_wantSayer dX11_wantSayer_47 fT_11_40
theorem rX11_wantSayer_50 : tA sc iX11_wantSayer 50 ls st h Q = tA sc iX11_wantSayer 51 ls (vI (2) :: st) h Q := tA_pure mB_X11_wantSayer dX11_wantSayer_50 rfl
theorem rX11_wantSayer_51 : tA sc iX11_wantSayer 51 [vR r, l1, l2] st h Q = tA sc iX11_wantSayer 52 [vR r, l1, l2] (vR r :: st) h Q := tA_pure mB_X11_wantSayer dX11_wantSayer_51 rfl
theorem rX11_wantSayer_52 : tA sc iX11_wantSayer 52 ls (vR (some o) :: st) h Q = oz (tget h o [11] 17) (fun v => tA sc iX11_wantSayer 55 ls (v :: st) h Q) := tA_get mB_X11_wantSayer mO_X11_wantSayer dX11_wantSayer_52 fT_11_177
theorem rX11_wantSayer_55 : tA sc iX11_wantSayer 55 ls (vI y :: vI x :: st) h Q = tA sc iX11_wantSayer 56 ls (vI (x * y) :: st) h Q := tA_pure mB_X11_wantSayer dX11_wantSayer_55 rfl
theorem rX11_wantSayer_56 : tA sc iX11_wantSayer 56 [l0, vI x, l2] st h Q = tA sc iX11_wantSayer 57 [l0, vI x, l2] (vI x :: st) h Q := tA_pure mB_X11_wantSayer dX11_wantSayer_56 rfl
theorem rX11_wantSayer_57 : tA sc iX11_wantSayer 57 ls (vI x :: vI j :: vR (some a) :: st) h Q = oz (tasi h a j x) (fun h' => tA sc iX11_wantSayer 58 ls st h' Q) := tA_iast mB_X11_wantSayer dX11_wantSayer_57
theorem rX11_wantSayer_58 : tA sc iX11_wantSayer 58 [vR r, l1, l2] st h Q = tA sc iX11_wantSayer 59 [vR r, l1, l2] (vR r :: st) h Q := tA_pure mB_X11_wantSayer dX11_wantSayer_58 rfl
theorem rX11_wantSayer_59 : tA sc iX11_wantSayer 59 ls (vR (some o) :: st) h Q = oz (tget h o [11] 22) (fun v => tA sc iX11_wantSayer 62 ls (v :: st) h Q) := tA_get mB_X11_wantSayer mO_X11_wantSayer dX11_wantSayer_59 fT_11_40
theorem rX11_wantSayer_62 : tA sc iX11_wantSayer 62 ls st h Q = tA sc iX11_wantSayer 63 ls (vI (2) :: st) h Q := tA_pure mB_X11_wantSayer dX11_wantSayer_62 rfl
theorem rX11_wantSayer_63 : tA sc iX11_wantSayer 63 [vR r, l1, l2] st h Q = tA sc iX11_wantSayer 64 [vR r, l1, l2] (vR r :: st) h Q := tA_pure mB_X11_wantSayer dX11_wantSayer_63 rfl
theorem rX11_wantSayer_64 : tA sc iX11_wantSayer 64 ls (vR (some o) :: st) h Q = oz (tget h o [11] 17) (fun v => tA sc iX11_wantSayer 67 ls (v :: st) h Q) := tA_get mB_X11_wantSayer mO_X11_wantSayer dX11_wantSayer_64 fT_11_177
theorem rX11_wantSayer_67 : tA sc iX11_wantSayer 67 ls (vI y :: vI x :: st) h Q = tA sc iX11_wantSayer 68 ls (vI (x * y) :: st) h Q := tA_pure mB_X11_wantSayer dX11_wantSayer_67 rfl
theorem rX11_wantSayer_68 : tA sc iX11_wantSayer 68 ls st h Q = tA sc iX11_wantSayer 69 ls (vI (1) :: st) h Q := tA_pure mB_X11_wantSayer dX11_wantSayer_68 rfl
theorem rX11_wantSayer_69 : tA sc iX11_wantSayer 69 ls (vI y :: vI x :: st) h Q = tA sc iX11_wantSayer 70 ls (vI (x + y) :: st) h Q := tA_pure mB_X11_wantSayer dX11_wantSayer_69 rfl
theorem rX11_wantSayer_70 : tA sc iX11_wantSayer 70 [l0, l1, vI x] st h Q = tA sc iX11_wantSayer 71 [l0, l1, vI x] (vI x :: st) h Q := tA_pure mB_X11_wantSayer dX11_wantSayer_70 rfl
theorem rX11_wantSayer_71 : tA sc iX11_wantSayer 71 ls (vI x :: vI j :: vR (some a) :: st) h Q = oz (tasi h a j x) (fun h' => tA sc iX11_wantSayer 72 ls st h' Q) := tA_iast mB_X11_wantSayer dX11_wantSayer_71
theorem rX11_wantSayer_72 : tA sc iX11_wantSayer 72 [vR r, l1, l2] st h Q = tA sc iX11_wantSayer 73 [vR r, l1, l2] (vR r :: st) h Q := tA_pure mB_X11_wantSayer dX11_wantSayer_72 rfl
theorem rX11_wantSayer_73 : tA sc iX11_wantSayer 73 ls (vR r :: st) h Q = tA sc iX11_wantSayer 74 ls (vR r :: vR r :: st) h Q := tA_pure mB_X11_wantSayer dX11_wantSayer_73 rfl
theorem rX11_wantSayer_74 : tA sc iX11_wantSayer 74 ls (vR (some o) :: st) h Q = oz (tget h o [11] 17) (fun v => tA sc iX11_wantSayer 77 ls (v :: st) h Q) := tA_get mB_X11_wantSayer mO_X11_wantSayer dX11_wantSayer_74 fT_11_177
theorem rX11_wantSayer_77 : tA sc iX11_wantSayer 77 ls st h Q = tA sc iX11_wantSayer 78 ls (vI (1) :: st) h Q := tA_pure mB_X11_wantSayer dX11_wantSayer_77 rfl
theorem rX11_wantSayer_78 : tA sc iX11_wantSayer 78 ls (vI y :: vI x :: st) h Q = tA sc iX11_wantSayer 79 ls (vI (x + y) :: st) h Q := tA_pure mB_X11_wantSayer dX11_wantSayer_78 rfl
theorem rX11_wantSayer_79 : tA sc iX11_wantSayer 79 ls (v :: vR (some o) :: st) h Q = oz (tput h o [11] 17 0 v) (fun h' => tA sc iX11_wantSayer 82 ls st h' Q) := tA_put mB_X11_wantSayer mO_X11_wantSayer dX11_wantSayer_79 fT_11_177 (Or.inl (by decide))
theorem rX11_wantSayer_82 : tA sc iX11_wantSayer 82 ls [] h Q = Q (none) h := tA_ret mB_X11_wantSayer dX11_wantSayer_82 (fun _ _ _ _ => rfl) (fun _ _ _ => rfl) (fun _ _ _ _ _ => rfl) rfl rfl
theorem mB_X11_wantClause : mB iX11_wantClause = cX11_wantClause := rfl
theorem mO_X11_wantClause : mO iX11_wantClause = 11 := rfl
theorem rX11_wantClause_0 : tA sc iX11_wantClause 0 [vR r] st h Q = tA sc iX11_wantClause 1 [vR r] (vR r :: st) h Q := tA_pure mB_X11_wantClause dX11_wantClause_0 rfl
theorem rX11_wantClause_1 : tA sc iX11_wantClause 1 ls st h Q = tA sc iX11_wantClause 4 ls (vL (2968) :: st) h Q := tA_pure mB_X11_wantClause dX11_wantClause_1 rfl
theorem rX11_wantClause_4 (hci : tcl h o = some 11) : tA sc iX11_wantClause 4 ls [vL q0, vR (some o)] h Q = tA sc iX11_isWord 0 [vR (some o), vL q0, vU] [] h (fun v h1 => tA sc iX11_wantClause 7 ls (tpu v []) h1 Q) := tA_cV mB_X11_wantClause mO_X11_wantClause dX11_wantClause_4 cT_11_134 rfl (Nat.le_of_ble_eq_true rfl) rfl rfl rfl hci
theorem rX11_wantClause_7 : tA sc iX11_wantClause 7 ls (vI x :: st) h Q = (if x = 0 then tA sc iX11_wantClause 17 ls st h Q else tA sc iX11_wantClause 10 ls st h Q) := tA_if mB_X11_wantClause dX11_wantClause_7 (fun _ _ _ _ => rfl) rfl
theorem rX11_wantClause_10 : tA sc iX11_wantClause 10 [vR r] st h Q = tA sc iX11_wantClause 11 [vR r] (vR r :: st) h Q := tA_pure mB_X11_wantClause dX11_wantClause_10 rfl
theorem rX11_wantClause_11 (hci : tcl h o = some 11) : tA sc iX11_wantClause 11 ls [vR (some o)] h Q = tA sc iX11_wantDay 0 [vR (some o), vU, vU, vU, vU] [] h (fun v h1 => tA sc iX11_wantClause 14 ls (tpu v []) h1 Q) := tA_cV mB_X11_wantClause mO_X11_wantClause dX11_wantClause_11 cT_11_186 rfl (Nat.le_of_ble_eq_true rfl) rfl rfl rfl hci
theorem rX11_wantClause_14 : tA sc iX11_wantClause 14 ls st h Q = tA sc iX11_wantClause 88 ls st h Q := tA_jump mB_X11_wantClause dX11_wantClause_14 (fun _ _ _ _ => rfl) rfl
theorem rX11_wantClause_17 : tA sc iX11_wantClause 17 [vR r] st h Q = tA sc iX11_wantClause 18 [vR r] (vR r :: st) h Q := tA_pure mB_X11_wantClause dX11_wantClause_17 rfl
theorem rX11_wantClause_18 : tA sc iX11_wantClause 18 ls st h Q = tA sc iX11_wantClause 21 ls (vL (374953) :: st) h Q := tA_pure mB_X11_wantClause dX11_wantClause_18 rfl
theorem rX11_wantClause_21 (hci : tcl h o = some 11) : tA sc iX11_wantClause 21 ls [vL q0, vR (some o)] h Q = tA sc iX11_isWord 0 [vR (some o), vL q0, vU] [] h (fun v h1 => tA sc iX11_wantClause 24 ls (tpu v []) h1 Q) := tA_cV mB_X11_wantClause mO_X11_wantClause dX11_wantClause_21 cT_11_134 rfl (Nat.le_of_ble_eq_true rfl) rfl rfl rfl hci
theorem rX11_wantClause_24 : tA sc iX11_wantClause 24 ls (vI x :: st) h Q = (if x = 0 then tA sc iX11_wantClause 34 ls st h Q else tA sc iX11_wantClause 27 ls st h Q) := tA_if mB_X11_wantClause dX11_wantClause_24 (fun _ _ _ _ => rfl) rfl
theorem rX11_wantClause_27 : tA sc iX11_wantClause 27 [vR r] st h Q = tA sc iX11_wantClause 28 [vR r] (vR r :: st) h Q := tA_pure mB_X11_wantClause dX11_wantClause_27 rfl
theorem rX11_wantClause_28 (hci : tcl h o = some 11) : tA sc iX11_wantClause 28 ls [vR (some o)] h Q = tA sc iX11_wantSaying 0 [vR (some o), vU, vU, vU] [] h (fun v h1 => tA sc iX11_wantClause 31 ls (tpu v []) h1 Q) := tA_cV mB_X11_wantClause mO_X11_wantClause dX11_wantClause_28 cT_11_191 rfl (Nat.le_of_ble_eq_true rfl) rfl rfl rfl hci
theorem rX11_wantClause_31 : tA sc iX11_wantClause 31 ls st h Q = tA sc iX11_wantClause 88 ls st h Q := tA_jump mB_X11_wantClause dX11_wantClause_31 (fun _ _ _ _ => rfl) rfl
theorem rX11_wantClause_34 : tA sc iX11_wantClause 34 [vR r] st h Q = tA sc iX11_wantClause 35 [vR r] (vR r :: st) h Q := tA_pure mB_X11_wantClause dX11_wantClause_34 rfl
theorem rX11_wantClause_35 : tA sc iX11_wantClause 35 ls st h Q = tA sc iX11_wantClause 38 ls (vL (10634) :: st) h Q := tA_pure mB_X11_wantClause dX11_wantClause_35 rfl
theorem rX11_wantClause_38 (hci : tcl h o = some 11) : tA sc iX11_wantClause 38 ls [vL q0, vR (some o)] h Q = tA sc iX11_isWord 0 [vR (some o), vL q0, vU] [] h (fun v h1 => tA sc iX11_wantClause 41 ls (tpu v []) h1 Q) := tA_cV mB_X11_wantClause mO_X11_wantClause dX11_wantClause_38 cT_11_134 rfl (Nat.le_of_ble_eq_true rfl) rfl rfl rfl hci
theorem rX11_wantClause_41 : tA sc iX11_wantClause 41 ls (vI x :: st) h Q = (if x = 0 then tA sc iX11_wantClause 65 ls st h Q else tA sc iX11_wantClause 44 ls st h Q) := tA_if mB_X11_wantClause dX11_wantClause_41 (fun _ _ _ _ => rfl) rfl
theorem rX11_wantClause_44 : tA sc iX11_wantClause 44 [vR r] st h Q = tA sc iX11_wantClause 45 [vR r] (vR r :: st) h Q := tA_pure mB_X11_wantClause dX11_wantClause_44 rfl
theorem rX11_wantClause_45 (hci : tcl h o = some 11) : tA sc iX11_wantClause 45 ls [vR (some o)] h Q = tA sc iX11_advance 0 [vR (some o), vU] [] h (fun v h1 => tA sc iX11_wantClause 48 ls (tpu v []) h1 Q) := tA_cV mB_X11_wantClause mO_X11_wantClause dX11_wantClause_45 cT_11_152 rfl (Nat.le_of_ble_eq_true rfl) rfl rfl rfl hci
theorem rX11_wantClause_48 : tA sc iX11_wantClause 48 [vR r] st h Q = tA sc iX11_wantClause 49 [vR r] (vR r :: st) h Q := tA_pure mB_X11_wantClause dX11_wantClause_48 rfl
theorem rX11_wantClause_49 : tA sc iX11_wantClause 49 [vR r] st h Q = tA sc iX11_wantClause 50 [vR r] (vR r :: st) h Q := tA_pure mB_X11_wantClause dX11_wantClause_49 rfl
theorem rX11_wantClause_50 : tA sc iX11_wantClause 50 ls st h Q = tA sc iX11_wantClause 52 ls (vI (20) :: st) h Q := tA_pure mB_X11_wantClause dX11_wantClause_50 rfl
theorem rX11_wantClause_52 (hci : tcl h o = some 11) : tA sc iX11_wantClause 52 ls [vI p0, vR (some o), s0] h Q = tA sc iX11_wantNumber 0 [vR (some o), vI p0, vU] [] h (fun v h1 => tA sc iX11_wantClause 55 ls (tpu v [s0]) h1 Q) := tA_cV mB_X11_wantClause mO_X11_wantClause dX11_wantClause_52 cT_11_158 rfl (Nat.le_of_ble_eq_true rfl) rfl rfl rfl hci
theorem rX11_wantClause_55 : tA sc iX11_wantClause 55 ls (v :: vR (some o) :: st) h Q = oz (tput h o [11] 16 0 v) (fun h' => tA sc iX11_wantClause 58 ls st h' Q) := tA_put mB_X11_wantClause mO_X11_wantClause dX11_wantClause_55 fT_11_196 (Or.inl (by decide))
theorem rX11_wantClause_58 : tA sc iX11_wantClause 58 [vR r] st h Q = tA sc iX11_wantClause 59 [vR r] (vR r :: st) h Q := tA_pure mB_X11_wantClause dX11_wantClause_58 rfl
theorem rX11_wantClause_59 (hci : tcl h o = some 11) : tA sc iX11_wantClause 59 ls [vR (some o)] h Q = tA sc iX11_wantEnd 0 [vR (some o)] [] h (fun v h1 => tA sc iX11_wantClause 62 ls (tpu v []) h1 Q) := tA_cV mB_X11_wantClause mO_X11_wantClause dX11_wantClause_59 cT_11_171 rfl (Nat.le_of_ble_eq_true rfl) rfl rfl rfl hci
theorem rX11_wantClause_62 : tA sc iX11_wantClause 62 ls st h Q = tA sc iX11_wantClause 88 ls st h Q := tA_jump mB_X11_wantClause dX11_wantClause_62 (fun _ _ _ _ => rfl) rfl
theorem rX11_wantClause_65 : tA sc iX11_wantClause 65 [vR r] st h Q = tA sc iX11_wantClause 66 [vR r] (vR r :: st) h Q := tA_pure mB_X11_wantClause dX11_wantClause_65 rfl
theorem rX11_wantClause_66 (hci : tcl h o = some 11) : tA sc iX11_wantClause 66 ls [vR (some o)] h Q = tA sc iX11_kindHere 0 [vR (some o)] [] h (fun v h1 => tA sc iX11_wantClause 69 ls (tpu v []) h1 Q) := tA_cV mB_X11_wantClause mO_X11_wantClause dX11_wantClause_66 cT_11_199 rfl (Nat.le_of_ble_eq_true rfl) rfl rfl rfl hci
theorem rX11_wantClause_69 : tA sc iX11_wantClause 69 ls (vI x :: st) h Q = (if x < 0 then tA sc iX11_wantClause 83 ls st h Q else tA sc iX11_wantClause 72 ls st h Q) := tA_if mB_X11_wantClause dX11_wantClause_69 (fun _ _ _ _ => rfl) rfl
theorem rX11_wantClause_72 : tA sc iX11_wantClause 72 [vR r] st h Q = tA sc iX11_wantClause 73 [vR r] (vR r :: st) h Q := tA_pure mB_X11_wantClause dX11_wantClause_72 rfl
theorem rX11_wantClause_73 : tA sc iX11_wantClause 73 [vR r] st h Q = tA sc iX11_wantClause 74 [vR r] (vR r :: st) h Q := tA_pure mB_X11_wantClause dX11_wantClause_73 rfl
theorem rX11_wantClause_74 (hci : tcl h o = some 11) : tA sc iX11_wantClause 74 ls [vR (some o), s0] h Q = tA sc iX11_kindHere 0 [vR (some o)] [] h (fun v h1 => tA sc iX11_wantClause 77 ls (tpu v [s0]) h1 Q) := tA_cV mB_X11_wantClause mO_X11_wantClause dX11_wantClause_74 cT_11_199 rfl (Nat.le_of_ble_eq_true rfl) rfl rfl rfl hci
theorem rX11_wantClause_77 (hci : tcl h o = some 11) : tA sc iX11_wantClause 77 ls [vI p0, vR (some o)] h Q = tA sc iX11_wantSayer 0 [vR (some o), vI p0, vU] [] h (fun v h1 => tA sc iX11_wantClause 80 ls (tpu v []) h1 Q) := tA_cV mB_X11_wantClause mO_X11_wantClause dX11_wantClause_77 cT_11_203 rfl (Nat.le_of_ble_eq_true rfl) rfl rfl rfl hci
theorem rX11_wantClause_80 : tA sc iX11_wantClause 80 ls st h Q = tA sc iX11_wantClause 88 ls st h Q := tA_jump mB_X11_wantClause dX11_wantClause_80 (fun _ _ _ _ => rfl) rfl
theorem rX11_wantClause_83 : tA sc iX11_wantClause 83 [vR r] st h Q = tA sc iX11_wantClause 84 [vR r] (vR r :: st) h Q := tA_pure mB_X11_wantClause dX11_wantClause_83 rfl
theorem rX11_wantClause_84 : tA sc iX11_wantClause 84 ls st h Q = tA sc iX11_wantClause 85 ls (vI (0) :: st) h Q := tA_pure mB_X11_wantClause dX11_wantClause_84 rfl
theorem rX11_wantClause_85 : tA sc iX11_wantClause 85 ls (v :: vR (some o) :: st) h Q = oz (tput h o [11] 15 1 v) (fun h' => tA sc iX11_wantClause 88 ls st h' Q) := tA_put mB_X11_wantClause mO_X11_wantClause dX11_wantClause_85 fT_11_148 (Or.inl (by decide))
theorem rX11_wantClause_88 : tA sc iX11_wantClause 88 ls [] h Q = Q (none) h := tA_ret mB_X11_wantClause dX11_wantClause_88 (fun _ _ _ _ => rfl) (fun _ _ _ => rfl) (fun _ _ _ _ _ => rfl) rfl rfl
theorem mB_X11_clerk : mB iX11_clerk = cX11_clerk := rfl
theorem mO_X11_clerk : mO iX11_clerk = 11 := rfl
theorem rX11_clerk_0 : tA sc iX11_clerk 0 [vR r, l1] st h Q = tA sc iX11_clerk 1 [vR r, l1] (vR r :: st) h Q := tA_pure mB_X11_clerk dX11_clerk_0 rfl
theorem rX11_clerk_1 : tA sc iX11_clerk 1 ls st h Q = tA sc iX11_clerk 2 ls (vI (0) :: st) h Q := tA_pure mB_X11_clerk dX11_clerk_1 rfl
theorem rX11_clerk_2 : tA sc iX11_clerk 2 ls (v :: vR (some o) :: st) h Q = oz (tput h o [11] 12 0 v) (fun h' => tA sc iX11_clerk 5 ls st h' Q) := tA_put mB_X11_clerk mO_X11_clerk dX11_clerk_2 fT_11_99 (Or.inl (by decide))
theorem rX11_clerk_5 : tA sc iX11_clerk 5 [vR r, l1] st h Q = tA sc iX11_clerk 6 [vR r, l1] (vR r :: st) h Q := tA_pure mB_X11_clerk dX11_clerk_5 rfl
theorem rX11_clerk_6 : tA sc iX11_clerk 6 ls st h Q = tA sc iX11_clerk 7 ls (vI (1) :: st) h Q := tA_pure mB_X11_clerk dX11_clerk_6 rfl
theorem rX11_clerk_7 : tA sc iX11_clerk 7 ls (v :: vR (some o) :: st) h Q = oz (tput h o [11] 15 1 v) (fun h' => tA sc iX11_clerk 10 ls st h' Q) := tA_put mB_X11_clerk mO_X11_clerk dX11_clerk_7 fT_11_148 (Or.inl (by decide))
theorem rX11_clerk_10 : tA sc iX11_clerk 10 [vR r, l1] st h Q = tA sc iX11_clerk 11 [vR r, l1] (vR r :: st) h Q := tA_pure mB_X11_clerk dX11_clerk_10 rfl
theorem rX11_clerk_11 : tA sc iX11_clerk 11 ls st h Q = tA sc iX11_clerk 12 ls (vI (0) :: st) h Q := tA_pure mB_X11_clerk dX11_clerk_11 rfl
theorem rX11_clerk_12 : tA sc iX11_clerk 12 ls (v :: vR (some o) :: st) h Q = oz (tput h o [11] 16 0 v) (fun h' => tA sc iX11_clerk 15 ls st h' Q) := tA_put mB_X11_clerk mO_X11_clerk dX11_clerk_12 fT_11_196 (Or.inl (by decide))
theorem rX11_clerk_15 : tA sc iX11_clerk 15 [vR r, l1] st h Q = tA sc iX11_clerk 16 [vR r, l1] (vR r :: st) h Q := tA_pure mB_X11_clerk dX11_clerk_15 rfl
theorem rX11_clerk_16 : tA sc iX11_clerk 16 ls st h Q = tA sc iX11_clerk 17 ls (vI (0) :: st) h Q := tA_pure mB_X11_clerk dX11_clerk_16 rfl
theorem rX11_clerk_17 : tA sc iX11_clerk 17 ls (v :: vR (some o) :: st) h Q = oz (tput h o [11] 17 0 v) (fun h' => tA sc iX11_clerk 20 ls st h' Q) := tA_put mB_X11_clerk mO_X11_clerk dX11_clerk_17 fT_11_177 (Or.inl (by decide))
theorem rX11_clerk_20 : tA sc iX11_clerk 20 [vR r, l1] st h Q = tA sc iX11_clerk 21 [vR r, l1] (vR r :: st) h Q := tA_pure mB_X11_clerk dX11_clerk_20 rfl
theorem rX11_clerk_21 : tA sc iX11_clerk 21 ls st h Q = tA sc iX11_clerk 22 ls (vI (0) :: st) h Q := tA_pure mB_X11_clerk dX11_clerk_21 rfl
theorem rX11_clerk_22 : tA sc iX11_clerk 22 ls (v :: vR (some o) :: st) h Q = oz (tput h o [11] 18 0 v) (fun h' => tA sc iX11_clerk 25 ls st h' Q) := tA_put mB_X11_clerk mO_X11_clerk dX11_clerk_22 fT_11_174 (Or.inl (by decide))
theorem rX11_clerk_25 : tA sc iX11_clerk 25 ls st h Q = tA sc iX11_clerk 26 ls (vI (0) :: st) h Q := tA_pure mB_X11_clerk dX11_clerk_25 rfl
theorem rX11_clerk_26 : tA sc iX11_clerk 26 [l0, l1] (vI x :: st) h Q = tA sc iX11_clerk 27 [tclr l0, vI x] st h Q := tA_pure mB_X11_clerk dX11_clerk_26 rfl
theorem rX11_clerk_27 : tA sc iX11_clerk 27 [l0, vI x] st h Q = tA sc iX11_clerk 28 [l0, vI x] (vI x :: st) h Q := tA_pure mB_X11_clerk dX11_clerk_27 rfl
theorem rX11_clerk_28 : tA sc iX11_clerk 28 ls st h Q = tA sc iX11_clerk 30 ls (vI (20) :: st) h Q := tA_pure mB_X11_clerk dX11_clerk_28 rfl
theorem rX11_clerk_30 : tA sc iX11_clerk 30 ls (vI y :: vI x :: st) h Q = (if y ≤ x then tA sc iX11_clerk 54 ls st h Q else tA sc iX11_clerk 33 ls st h Q) := tA_if mB_X11_clerk dX11_clerk_30 (fun _ _ _ _ => rfl) rfl
theorem rX11_clerk_33 : tA sc iX11_clerk 33 [vR r, l1] st h Q = tA sc iX11_clerk 34 [vR r, l1] (vR r :: st) h Q := tA_pure mB_X11_clerk dX11_clerk_33 rfl
theorem rX11_clerk_34 : tA sc iX11_clerk 34 ls (vR (some o) :: st) h Q = oz (tget h o [11] 19) (fun v => tA sc iX11_clerk 37 ls (v :: st) h Q) := tA_get mB_X11_clerk mO_X11_clerk dX11_clerk_34 fT_11_31
theorem rX11_clerk_37 : tA sc iX11_clerk 37 [l0, vI x] st h Q = tA sc iX11_clerk 38 [l0, vI x] (vI x :: st) h Q := tA_pure mB_X11_clerk dX11_clerk_37 rfl
theorem rX11_clerk_38 : tA sc iX11_clerk 38 ls st h Q = tA sc iX11_clerk 40 ls (vI (10) :: st) h Q := tA_pure mB_X11_clerk dX11_clerk_38 rfl
theorem rX11_clerk_40 : tA sc iX11_clerk 40 ls (vI x :: vI j :: vR (some a) :: st) h Q = oz (tasi h a j x) (fun h' => tA sc iX11_clerk 41 ls st h' Q) := tA_iast mB_X11_clerk dX11_clerk_40
theorem rX11_clerk_41 : tA sc iX11_clerk 41 [vR r, l1] st h Q = tA sc iX11_clerk 42 [vR r, l1] (vR r :: st) h Q := tA_pure mB_X11_clerk dX11_clerk_41 rfl
theorem rX11_clerk_42 : tA sc iX11_clerk 42 ls (vR (some o) :: st) h Q = oz (tget h o [11] 21) (fun v => tA sc iX11_clerk 45 ls (v :: st) h Q) := tA_get mB_X11_clerk mO_X11_clerk dX11_clerk_42 fT_11_37
theorem rX11_clerk_45 : tA sc iX11_clerk 45 [l0, vI x] st h Q = tA sc iX11_clerk 46 [l0, vI x] (vI x :: st) h Q := tA_pure mB_X11_clerk dX11_clerk_45 rfl
theorem rX11_clerk_46 : tA sc iX11_clerk 46 ls st h Q = tA sc iX11_clerk 47 ls (vI (-1) :: st) h Q := tA_pure mB_X11_clerk dX11_clerk_46 rfl
theorem rX11_clerk_47 : tA sc iX11_clerk 47 ls (vI x :: vI j :: vR (some a) :: st) h Q = oz (tasi h a j x) (fun h' => tA sc iX11_clerk 48 ls st h' Q) := tA_iast mB_X11_clerk dX11_clerk_47
theorem rX11_clerk_48 : tA sc iX11_clerk 48 [l0, vI x] st h Q = tA sc iX11_clerk 51 [tclr l0, vI (x + 1)] st h Q := tA_pure mB_X11_clerk dX11_clerk_48 rfl
theorem rX11_clerk_51 : tA sc iX11_clerk 51 ls st h Q = tA sc iX11_clerk 27 ls st h Q := tA_jump mB_X11_clerk dX11_clerk_51 (fun _ _ _ _ => rfl) rfl
theorem rX11_clerk_54 : tA sc iX11_clerk 54 ls st h Q = tA sc iX11_clerk 55 ls (vI (0) :: st) h Q := tA_pure mB_X11_clerk dX11_clerk_54 rfl
theorem rX11_clerk_55 : tA sc iX11_clerk 55 [l0, l1] (vI x :: st) h Q = tA sc iX11_clerk 56 [tclr l0, vI x] st h Q := tA_pure mB_X11_clerk dX11_clerk_55 rfl
theorem rX11_clerk_56 : tA sc iX11_clerk 56 [l0, vI x] st h Q = tA sc iX11_clerk 57 [l0, vI x] (vI x :: st) h Q := tA_pure mB_X11_clerk dX11_clerk_56 rfl
theorem rX11_clerk_57 : tA sc iX11_clerk 57 ls st h Q = tA sc iX11_clerk 59 ls (vI (80) :: st) h Q := tA_pure mB_X11_clerk dX11_clerk_57 rfl
theorem rX11_clerk_59 : tA sc iX11_clerk 59 ls (vI y :: vI x :: st) h Q = (if y ≤ x then tA sc iX11_clerk 75 ls st h Q else tA sc iX11_clerk 62 ls st h Q) := tA_if mB_X11_clerk dX11_clerk_59 (fun _ _ _ _ => rfl) rfl
theorem rX11_clerk_62 : tA sc iX11_clerk 62 [vR r, l1] st h Q = tA sc iX11_clerk 63 [vR r, l1] (vR r :: st) h Q := tA_pure mB_X11_clerk dX11_clerk_62 rfl
theorem rX11_clerk_63 : tA sc iX11_clerk 63 ls (vR (some o) :: st) h Q = oz (tget h o [11] 20) (fun v => tA sc iX11_clerk 66 ls (v :: st) h Q) := tA_get mB_X11_clerk mO_X11_clerk dX11_clerk_63 fT_11_34
theorem rX11_clerk_66 : tA sc iX11_clerk 66 [l0, vI x] st h Q = tA sc iX11_clerk 67 [l0, vI x] (vI x :: st) h Q := tA_pure mB_X11_clerk dX11_clerk_66 rfl
theorem rX11_clerk_67 : tA sc iX11_clerk 67 ls st h Q = tA sc iX11_clerk 68 ls (vI (1) :: st) h Q := tA_pure mB_X11_clerk dX11_clerk_67 rfl
theorem rX11_clerk_68 : tA sc iX11_clerk 68 ls (vI x :: vI j :: vR (some a) :: st) h Q = oz (tasi h a j x) (fun h' => tA sc iX11_clerk 69 ls st h' Q) := tA_iast mB_X11_clerk dX11_clerk_68
theorem rX11_clerk_69 : tA sc iX11_clerk 69 [l0, vI x] st h Q = tA sc iX11_clerk 72 [tclr l0, vI (x + 1)] st h Q := tA_pure mB_X11_clerk dX11_clerk_69 rfl
theorem rX11_clerk_72 : tA sc iX11_clerk 72 ls st h Q = tA sc iX11_clerk 56 ls st h Q := tA_jump mB_X11_clerk dX11_clerk_72 (fun _ _ _ _ => rfl) rfl
theorem rX11_clerk_75 : tA sc iX11_clerk 75 [vR r, l1] st h Q = tA sc iX11_clerk 76 [vR r, l1] (vR r :: st) h Q := tA_pure mB_X11_clerk dX11_clerk_75 rfl
theorem rX11_clerk_76 (hci : tcl h o = some 11) : tA sc iX11_clerk 76 ls [vR (some o)] h Q = tA sc iX11_advance 0 [vR (some o), vU] [] h (fun v h1 => tA sc iX11_clerk 79 ls (tpu v []) h1 Q) := tA_cV mB_X11_clerk mO_X11_clerk dX11_clerk_76 cT_11_152 rfl (Nat.le_of_ble_eq_true rfl) rfl rfl rfl hci
theorem rX11_clerk_79 : tA sc iX11_clerk 79 [vR r, l1] st h Q = tA sc iX11_clerk 80 [vR r, l1] (vR r :: st) h Q := tA_pure mB_X11_clerk dX11_clerk_79 rfl
theorem rX11_clerk_80 : tA sc iX11_clerk 80 ls (vR (some o) :: st) h Q = oz (tget h o [11] 15) (fun v => tA sc iX11_clerk 83 ls (v :: st) h Q) := tA_get mB_X11_clerk mO_X11_clerk dX11_clerk_80 fT_11_148
theorem rX11_clerk_83 : tA sc iX11_clerk 83 ls (vI x :: st) h Q = (if x = 0 then tA sc iX11_clerk 100 ls st h Q else tA sc iX11_clerk 86 ls st h Q) := tA_if mB_X11_clerk dX11_clerk_83 (fun _ _ _ _ => rfl) rfl
theorem rX11_clerk_86 : tA sc iX11_clerk 86 [vR r, l1] st h Q = tA sc iX11_clerk 87 [vR r, l1] (vR r :: st) h Q := tA_pure mB_X11_clerk dX11_clerk_86 rfl
theorem rX11_clerk_87 : tA sc iX11_clerk 87 ls (vR (some o) :: st) h Q = oz (tget h o [11] 10) (fun v => tA sc iX11_clerk 90 ls (v :: st) h Q) := tA_get mB_X11_clerk mO_X11_clerk dX11_clerk_87 fT_11_116
theorem rX11_clerk_90 : tA sc iX11_clerk 90 ls (vI x :: st) h Q = (if x = 0 then tA sc iX11_clerk 100 ls st h Q else tA sc iX11_clerk 93 ls st h Q) := tA_if mB_X11_clerk dX11_clerk_90 (fun _ _ _ _ => rfl) rfl
theorem rX11_clerk_93 : tA sc iX11_clerk 93 [vR r, l1] st h Q = tA sc iX11_clerk 94 [vR r, l1] (vR r :: st) h Q := tA_pure mB_X11_clerk dX11_clerk_93 rfl
theorem rX11_clerk_94 (hci : tcl h o = some 11) : tA sc iX11_clerk 94 ls [vR (some o)] h Q = tA sc iX11_wantClause 0 [vR (some o)] [] h (fun v h1 => tA sc iX11_clerk 97 ls (tpu v []) h1 Q) := tA_cV mB_X11_clerk mO_X11_clerk dX11_clerk_94 cT_11_207 rfl (Nat.le_of_ble_eq_true rfl) rfl rfl rfl hci
theorem rX11_clerk_97 : tA sc iX11_clerk 97 ls st h Q = tA sc iX11_clerk 79 ls st h Q := tA_jump mB_X11_clerk dX11_clerk_97 (fun _ _ _ _ => rfl) rfl
theorem rX11_clerk_100 : tA sc iX11_clerk 100 [vR r, l1] st h Q = tA sc iX11_clerk 101 [vR r, l1] (vR r :: st) h Q := tA_pure mB_X11_clerk dX11_clerk_100 rfl
theorem rX11_clerk_101 : tA sc iX11_clerk 101 ls st h Q = tA sc iX11_clerk 102 ls (vI (0) :: st) h Q := tA_pure mB_X11_clerk dX11_clerk_101 rfl
theorem rX11_clerk_102 : tA sc iX11_clerk 102 ls (v :: vR (some o) :: st) h Q = oz (tput h o [11] 9 0 v) (fun h' => tA sc iX11_clerk 105 ls st h' Q) := tA_put mB_X11_clerk mO_X11_clerk dX11_clerk_102 fT_11_94 (Or.inl (by decide))
theorem rX11_clerk_105 : tA sc iX11_clerk 105 [vR r, l1] st h Q = tA sc iX11_clerk 106 [vR r, l1] (vR r :: st) h Q := tA_pure mB_X11_clerk dX11_clerk_105 rfl
theorem rX11_clerk_106 : tA sc iX11_clerk 106 ls (vR (some o) :: st) h Q = oz (tget h o [11] 15) (fun v => tA sc iX11_clerk 109 ls (v :: st) h Q) := tA_get mB_X11_clerk mO_X11_clerk dX11_clerk_106 fT_11_148
theorem rX11_clerk_109 : tA sc iX11_clerk 109 ls (vI x :: st) h Q = (if ¬ x = 0 then tA sc iX11_clerk 120 ls st h Q else tA sc iX11_clerk 112 ls st h Q) := tA_if mB_X11_clerk dX11_clerk_109 (fun _ _ _ _ => rfl) rfl
theorem rX11_clerk_112 : tA sc iX11_clerk 112 ls st h Q = tA sc iX11_clerk 114 ls (vI (-100) :: st) h Q := tA_pure mB_X11_clerk dX11_clerk_112 rfl
theorem rX11_clerk_114 : tA sc iX11_clerk 114 [vR r, l1] st h Q = tA sc iX11_clerk 115 [vR r, l1] (vR r :: st) h Q := tA_pure mB_X11_clerk dX11_clerk_114 rfl
theorem rX11_clerk_115 : tA sc iX11_clerk 115 ls (vR (some o) :: st) h Q = oz (tget h o [11] 11) (fun v => tA sc iX11_clerk 118 ls (v :: st) h Q) := tA_get mB_X11_clerk mO_X11_clerk dX11_clerk_115 fT_11_102
theorem rX11_clerk_118 : tA sc iX11_clerk 118 ls (vI y :: vI x :: st) h Q = tA sc iX11_clerk 119 ls (vI (x - y) :: st) h Q := tA_pure mB_X11_clerk dX11_clerk_118 rfl
theorem rX11_clerk_119 : tA sc iX11_clerk 119 ls [vI x] h Q = Q (some (vI x)) h := tA_ret mB_X11_clerk dX11_clerk_119 (fun _ _ _ _ => rfl) (fun _ _ _ => rfl) (fun _ _ _ _ _ => rfl) rfl rfl
theorem rX11_clerk_120 : tA sc iX11_clerk 120 [vR r, l1] st h Q = tA sc iX11_clerk 121 [vR r, l1] (vR r :: st) h Q := tA_pure mB_X11_clerk dX11_clerk_120 rfl
theorem rX11_clerk_121 (hci : tcl h o = some 11) : tA sc iX11_clerk 121 ls [vR (some o)] h Q = tA sc iX11_becomes 0 [vR (some o), vU] [] h (fun v h1 => tA sc iX11_clerk 124 ls (tpu v []) h1 Q) := tA_cV mB_X11_clerk mO_X11_clerk dX11_clerk_121 cT_11_210 rfl (Nat.le_of_ble_eq_true rfl) rfl rfl rfl hci
theorem rX11_clerk_124 : tA sc iX11_clerk 124 [vR r, l1] st h Q = tA sc iX11_clerk 125 [vR r, l1] (vR r :: st) h Q := tA_pure mB_X11_clerk dX11_clerk_124 rfl
theorem rX11_clerk_125 : tA sc iX11_clerk 125 ls st h Q = tA sc iX11_clerk 126 ls (vI (0) :: st) h Q := tA_pure mB_X11_clerk dX11_clerk_125 rfl
theorem rX11_clerk_126 : tA sc iX11_clerk 126 ls (v :: vR (some o) :: st) h Q = oz (tput h o [11] 35 0 v) (fun h' => tA sc iX11_clerk 129 ls st h' Q) := tA_put mB_X11_clerk mO_X11_clerk dX11_clerk_126 fT_11_213 (Or.inl (by decide))
theorem rX11_clerk_129 : tA sc iX11_clerk 129 [vR r, l1] st h Q = tA sc iX11_clerk 130 [vR r, l1] (vR r :: st) h Q := tA_pure mB_X11_clerk dX11_clerk_129 rfl
theorem rX11_clerk_130 : tA sc iX11_clerk 130 ls (vR (some o) :: st) h Q = oz (tget h o [11] 4) (fun v => tA sc iX11_clerk 133 ls (v :: st) h Q) := tA_get mB_X11_clerk mO_X11_clerk dX11_clerk_130 fT_11_87
theorem rX11_clerk_133 : tA sc iX11_clerk 133 ls [vI x] h Q = Q (some (vI x)) h := tA_ret mB_X11_clerk dX11_clerk_133 (fun _ _ _ _ => rfl) (fun _ _ _ => rfl) (fun _ _ _ _ _ => rfl) rfl rfl
theorem mB_X11_becomes : mB iX11_becomes = cX11_becomes := rfl
theorem mO_X11_becomes : mO iX11_becomes = 11 := rfl
theorem rX11_becomes_0 : tA sc iX11_becomes 0 [vR r, l1] st h Q = tA sc iX11_becomes 1 [vR r, l1] (vR r :: st) h Q := tA_pure mB_X11_becomes dX11_becomes_0 rfl
theorem rX11_becomes_1 : tA sc iX11_becomes 1 [vR r, l1] st h Q = tA sc iX11_becomes 2 [vR r, l1] (vR r :: st) h Q := tA_pure mB_X11_becomes dX11_becomes_1 rfl
theorem rX11_becomes_2 : tA sc iX11_becomes 2 ls (vR (some o) :: st) h Q = oz (tget h o [11] 17) (fun v => tA sc iX11_becomes 5 ls (v :: st) h Q) := tA_get mB_X11_becomes mO_X11_becomes dX11_becomes_2 fT_11_177
theorem rX11_becomes_5 : tA sc iX11_becomes 5 ls (v :: vR (some o) :: st) h Q = oz (tput h o [11] 4 0 v) (fun h' => tA sc iX11_becomes 8 ls st h' Q) := tA_put mB_X11_becomes mO_X11_becomes dX11_becomes_5 fT_11_87 (Or.inl (by decide))
theorem rX11_becomes_8 : tA sc iX11_becomes 8 [vR r, l1] st h Q = tA sc iX11_becomes 9 [vR r, l1] (vR r :: st) h Q := tA_pure mB_X11_becomes dX11_becomes_8 rfl
theorem rX11_becomes_9 : tA sc iX11_becomes 9 ls (vR (some o) :: st) h Q = oz (tget h o [11] 0) (fun v => tA sc iX11_becomes 12 ls (v :: st) h Q) := tA_get mB_X11_becomes mO_X11_becomes dX11_becomes_9 fT_11_7
theorem rX11_becomes_12 : tA sc iX11_becomes 12 ls st h Q = tA sc iX11_becomes 13 ls (vI (0) :: st) h Q := tA_pure mB_X11_becomes dX11_becomes_12 rfl
theorem rX11_becomes_13 : tA sc iX11_becomes 13 [vR r, l1] st h Q = tA sc iX11_becomes 14 [vR r, l1] (vR r :: st) h Q := tA_pure mB_X11_becomes dX11_becomes_13 rfl
theorem rX11_becomes_14 : tA sc iX11_becomes 14 ls (vR (some o) :: st) h Q = oz (tget h o [11] 16) (fun v => tA sc iX11_becomes 17 ls (v :: st) h Q) := tA_get mB_X11_becomes mO_X11_becomes dX11_becomes_14 fT_11_196
theorem rX11_becomes_17 : tA sc iX11_becomes 17 ls (vI x :: vI j :: vR (some a) :: st) h Q = oz (tasi h a j x) (fun h' => tA sc iX11_becomes 18 ls st h' Q) := tA_iast mB_X11_becomes dX11_becomes_17
theorem rX11_becomes_18 : tA sc iX11_becomes 18 [vR r, l1] st h Q = tA sc iX11_becomes 19 [vR r, l1] (vR r :: st) h Q := tA_pure mB_X11_becomes dX11_becomes_18 rfl
theorem rX11_becomes_19 : tA sc iX11_becomes 19 ls (vR (some o) :: st) h Q = oz (tget h o [11] 0) (fun v => tA sc iX11_becomes 22 ls (v :: st) h Q) := tA_get mB_X11_becomes mO_X11_becomes dX11_becomes_19 fT_11_7
theorem rX11_becomes_22 : tA sc iX11_becomes 22 ls st h Q = tA sc iX11_becomes 23 ls (vI (2) :: st) h Q := tA_pure mB_X11_becomes dX11_becomes_22 rfl
theorem rX11_becomes_23 : tA sc iX11_becomes 23 [vR r, l1] st h Q = tA sc iX11_becomes 24 [vR r, l1] (vR r :: st) h Q := tA_pure mB_X11_becomes dX11_becomes_23 rfl
theorem rX11_becomes_24 : tA sc iX11_becomes 24 ls (vR (some o) :: st) h Q = oz (tget h o [11] 18) (fun v => tA sc iX11_becomes 27 ls (v :: st) h Q) := tA_get mB_X11_becomes mO_X11_becomes dX11_becomes_24 fT_11_174
theorem rX11_becomes_27 : tA sc iX11_becomes 27 ls (vI x :: vI j :: vR (some a) :: st) h Q = oz (tasi h a j x) (fun h' => tA sc iX11_becomes 28 ls st h' Q) := tA_iast mB_X11_becomes dX11_becomes_27
theorem rX11_becomes_28 : tA sc iX11_becomes 28 ls st h Q = tA sc iX11_becomes 29 ls (vI (0) :: st) h Q := tA_pure mB_X11_becomes dX11_becomes_28 rfl
theorem rX11_becomes_29 : tA sc iX11_becomes 29 [l0, l1] (vI x :: st) h Q = tA sc iX11_becomes 30 [tclr l0, vI x] st h Q := tA_pure mB_X11_becomes dX11_becomes_29 rfl
theorem rX11_becomes_30 : tA sc iX11_becomes 30 [l0, vI x] st h Q = tA sc iX11_becomes 31 [l0, vI x] (vI x :: st) h Q := tA_pure mB_X11_becomes dX11_becomes_30 rfl
theorem rX11_becomes_31 : tA sc iX11_becomes 31 ls st h Q = tA sc iX11_becomes 33 ls (vI (10) :: st) h Q := tA_pure mB_X11_becomes dX11_becomes_31 rfl
theorem rX11_becomes_33 : tA sc iX11_becomes 33 ls (vI y :: vI x :: st) h Q = (if y ≤ x then tA sc iX11_becomes 54 ls st h Q else tA sc iX11_becomes 36 ls st h Q) := tA_if mB_X11_becomes dX11_becomes_33 (fun _ _ _ _ => rfl) rfl
theorem rX11_becomes_36 : tA sc iX11_becomes 36 [vR r, l1] st h Q = tA sc iX11_becomes 37 [vR r, l1] (vR r :: st) h Q := tA_pure mB_X11_becomes dX11_becomes_36 rfl
theorem rX11_becomes_37 : tA sc iX11_becomes 37 ls (vR (some o) :: st) h Q = oz (tget h o [11] 5) (fun v => tA sc iX11_becomes 40 ls (v :: st) h Q) := tA_get mB_X11_becomes mO_X11_becomes dX11_becomes_37 fT_11_19
theorem rX11_becomes_40 : tA sc iX11_becomes 40 [l0, vI x] st h Q = tA sc iX11_becomes 41 [l0, vI x] (vI x :: st) h Q := tA_pure mB_X11_becomes dX11_becomes_40 rfl
theorem rX11_becomes_41 : tA sc iX11_becomes 41 [vR r, l1] st h Q = tA sc iX11_becomes 42 [vR r, l1] (vR r :: st) h Q := tA_pure mB_X11_becomes dX11_becomes_41 rfl
theorem rX11_becomes_42 : tA sc iX11_becomes 42 ls (vR (some o) :: st) h Q = oz (tget h o [11] 22) (fun v => tA sc iX11_becomes 45 ls (v :: st) h Q) := tA_get mB_X11_becomes mO_X11_becomes dX11_becomes_42 fT_11_40
theorem rX11_becomes_45 : tA sc iX11_becomes 45 [l0, vI x] st h Q = tA sc iX11_becomes 46 [l0, vI x] (vI x :: st) h Q := tA_pure mB_X11_becomes dX11_becomes_45 rfl
theorem rX11_becomes_46 : tA sc iX11_becomes 46 ls (vI j :: vR (some a) :: st) h Q = oz (tald sc h 0 a j) (fun v => tA sc iX11_becomes 47 ls (vI v :: st) h Q) := tA_iald mB_X11_becomes dX11_becomes_46
theorem rX11_becomes_47 : tA sc iX11_becomes 47 ls (vI x :: vI j :: vR (some a) :: st) h Q = oz (tasi h a j x) (fun h' => tA sc iX11_becomes 48 ls st h' Q) := tA_iast mB_X11_becomes dX11_becomes_47
theorem rX11_becomes_48 : tA sc iX11_becomes 48 [l0, vI x] st h Q = tA sc iX11_becomes 51 [tclr l0, vI (x + 1)] st h Q := tA_pure mB_X11_becomes dX11_becomes_48 rfl
theorem rX11_becomes_51 : tA sc iX11_becomes 51 ls st h Q = tA sc iX11_becomes 30 ls st h Q := tA_jump mB_X11_becomes dX11_becomes_51 (fun _ _ _ _ => rfl) rfl
theorem rX11_becomes_54 : tA sc iX11_becomes 54 ls st h Q = tA sc iX11_becomes 55 ls (vI (0) :: st) h Q := tA_pure mB_X11_becomes dX11_becomes_54 rfl
theorem rX11_becomes_55 : tA sc iX11_becomes 55 [l0, l1] (vI x :: st) h Q = tA sc iX11_becomes 56 [tclr l0, vI x] st h Q := tA_pure mB_X11_becomes dX11_becomes_55 rfl
theorem rX11_becomes_56 : tA sc iX11_becomes 56 [l0, vI x] st h Q = tA sc iX11_becomes 57 [l0, vI x] (vI x :: st) h Q := tA_pure mB_X11_becomes dX11_becomes_56 rfl
theorem rX11_becomes_57 : tA sc iX11_becomes 57 ls st h Q = tA sc iX11_becomes 58 ls (vI (5) :: st) h Q := tA_pure mB_X11_becomes dX11_becomes_57 rfl
theorem rX11_becomes_58 : tA sc iX11_becomes 58 ls (vI y :: vI x :: st) h Q = (if y ≤ x then tA sc iX11_becomes 77 ls st h Q else tA sc iX11_becomes 61 ls st h Q) := tA_if mB_X11_becomes dX11_becomes_58 (fun _ _ _ _ => rfl) rfl
theorem rX11_becomes_61 : tA sc iX11_becomes 61 [vR r, l1] st h Q = tA sc iX11_becomes 62 [vR r, l1] (vR r :: st) h Q := tA_pure mB_X11_becomes dX11_becomes_61 rfl
theorem rX11_becomes_62 : tA sc iX11_becomes 62 ls (vR (some o) :: st) h Q = oz (tget h o [11] 0) (fun v => tA sc iX11_becomes 65 ls (v :: st) h Q) := tA_get mB_X11_becomes mO_X11_becomes dX11_becomes_62 fT_11_7
theorem rX11_becomes_65 : tA sc iX11_becomes 65 ls st h Q = tA sc iX11_becomes 67 ls (vI (43) :: st) h Q := tA_pure mB_X11_becomes dX11_becomes_65 rfl
theorem rX11_becomes_67 : tA sc iX11_becomes 67 [l0, vI x] st h Q = tA sc iX11_becomes 68 [l0, vI x] (vI x :: st) h Q := tA_pure mB_X11_becomes dX11_becomes_67 rfl
theorem rX11_becomes_68 : tA sc iX11_becomes 68 ls (vI y :: vI x :: st) h Q = tA sc iX11_becomes 69 ls (vI (x + y) :: st) h Q := tA_pure mB_X11_becomes dX11_becomes_68 rfl
theorem rX11_becomes_69 : tA sc iX11_becomes 69 ls st h Q = tA sc iX11_becomes 70 ls (vI (0) :: st) h Q := tA_pure mB_X11_becomes dX11_becomes_69 rfl
theorem rX11_becomes_70 : tA sc iX11_becomes 70 ls (vI x :: vI j :: vR (some a) :: st) h Q = oz (tasi h a j x) (fun h' => tA sc iX11_becomes 71 ls st h' Q) := tA_iast mB_X11_becomes dX11_becomes_70
theorem rX11_becomes_71 : tA sc iX11_becomes 71 [l0, vI x] st h Q = tA sc iX11_becomes 74 [tclr l0, vI (x + 1)] st h Q := tA_pure mB_X11_becomes dX11_becomes_71 rfl
theorem rX11_becomes_74 : tA sc iX11_becomes 74 ls st h Q = tA sc iX11_becomes 56 ls st h Q := tA_jump mB_X11_becomes dX11_becomes_74 (fun _ _ _ _ => rfl) rfl
theorem rX11_becomes_77 : tA sc iX11_becomes 77 ls st h Q = tA sc iX11_becomes 78 ls (vI (0) :: st) h Q := tA_pure mB_X11_becomes dX11_becomes_77 rfl
theorem rX11_becomes_78 : tA sc iX11_becomes 78 [l0, l1] (vI x :: st) h Q = tA sc iX11_becomes 79 [tclr l0, vI x] st h Q := tA_pure mB_X11_becomes dX11_becomes_78 rfl
theorem rX11_becomes_79 : tA sc iX11_becomes 79 [l0, vI x] st h Q = tA sc iX11_becomes 80 [l0, vI x] (vI x :: st) h Q := tA_pure mB_X11_becomes dX11_becomes_79 rfl
theorem rX11_becomes_80 : tA sc iX11_becomes 80 ls st h Q = tA sc iX11_becomes 82 ls (vI (20) :: st) h Q := tA_pure mB_X11_becomes dX11_becomes_80 rfl
theorem rX11_becomes_82 : tA sc iX11_becomes 82 ls (vI y :: vI x :: st) h Q = (if y ≤ x then tA sc iX11_becomes 127 ls st h Q else tA sc iX11_becomes 85 ls st h Q) := tA_if mB_X11_becomes dX11_becomes_82 (fun _ _ _ _ => rfl) rfl
theorem rX11_becomes_85 : tA sc iX11_becomes 85 [vR r, l1] st h Q = tA sc iX11_becomes 86 [vR r, l1] (vR r :: st) h Q := tA_pure mB_X11_becomes dX11_becomes_85 rfl
theorem rX11_becomes_86 : tA sc iX11_becomes 86 ls (vR (some o) :: st) h Q = oz (tget h o [11] 2) (fun v => tA sc iX11_becomes 89 ls (v :: st) h Q) := tA_get mB_X11_becomes mO_X11_becomes dX11_becomes_86 fT_11_13
theorem rX11_becomes_89 : tA sc iX11_becomes 89 [l0, vI x] st h Q = tA sc iX11_becomes 90 [l0, vI x] (vI x :: st) h Q := tA_pure mB_X11_becomes dX11_becomes_89 rfl
theorem rX11_becomes_90 : tA sc iX11_becomes 90 [vR r, l1] st h Q = tA sc iX11_becomes 91 [vR r, l1] (vR r :: st) h Q := tA_pure mB_X11_becomes dX11_becomes_90 rfl
theorem rX11_becomes_91 : tA sc iX11_becomes 91 ls (vR (some o) :: st) h Q = oz (tget h o [11] 19) (fun v => tA sc iX11_becomes 94 ls (v :: st) h Q) := tA_get mB_X11_becomes mO_X11_becomes dX11_becomes_91 fT_11_31
theorem rX11_becomes_94 : tA sc iX11_becomes 94 [l0, vI x] st h Q = tA sc iX11_becomes 95 [l0, vI x] (vI x :: st) h Q := tA_pure mB_X11_becomes dX11_becomes_94 rfl
theorem rX11_becomes_95 : tA sc iX11_becomes 95 ls (vI j :: vR (some a) :: st) h Q = oz (tald sc h 0 a j) (fun v => tA sc iX11_becomes 96 ls (vI v :: st) h Q) := tA_iald mB_X11_becomes dX11_becomes_95
theorem rX11_becomes_96 : tA sc iX11_becomes 96 ls (vI x :: vI j :: vR (some a) :: st) h Q = oz (tasi h a j x) (fun h' => tA sc iX11_becomes 97 ls st h' Q) := tA_iast mB_X11_becomes dX11_becomes_96
theorem rX11_becomes_97 : tA sc iX11_becomes 97 [vR r, l1] st h Q = tA sc iX11_becomes 98 [vR r, l1] (vR r :: st) h Q := tA_pure mB_X11_becomes dX11_becomes_97 rfl
theorem rX11_becomes_98 : tA sc iX11_becomes 98 ls (vR (some o) :: st) h Q = oz (tget h o [11] 0) (fun v => tA sc iX11_becomes 101 ls (v :: st) h Q) := tA_get mB_X11_becomes mO_X11_becomes dX11_becomes_98 fT_11_7
theorem rX11_becomes_101 : tA sc iX11_becomes 101 ls st h Q = tA sc iX11_becomes 102 ls (vI (3) :: st) h Q := tA_pure mB_X11_becomes dX11_becomes_101 rfl
theorem rX11_becomes_102 : tA sc iX11_becomes 102 [l0, vI x] st h Q = tA sc iX11_becomes 103 [l0, vI x] (vI x :: st) h Q := tA_pure mB_X11_becomes dX11_becomes_102 rfl
theorem rX11_becomes_103 : tA sc iX11_becomes 103 ls (vI y :: vI x :: st) h Q = tA sc iX11_becomes 104 ls (vI (x + y) :: st) h Q := tA_pure mB_X11_becomes dX11_becomes_103 rfl
theorem rX11_becomes_104 : tA sc iX11_becomes 104 [vR r, l1] st h Q = tA sc iX11_becomes 105 [vR r, l1] (vR r :: st) h Q := tA_pure mB_X11_becomes dX11_becomes_104 rfl
theorem rX11_becomes_105 : tA sc iX11_becomes 105 ls (vR (some o) :: st) h Q = oz (tget h o [11] 21) (fun v => tA sc iX11_becomes 108 ls (v :: st) h Q) := tA_get mB_X11_becomes mO_X11_becomes dX11_becomes_105 fT_11_37
theorem rX11_becomes_108 : tA sc iX11_becomes 108 [l0, vI x] st h Q = tA sc iX11_becomes 109 [l0, vI x] (vI x :: st) h Q := tA_pure mB_X11_becomes dX11_becomes_108 rfl
theorem rX11_becomes_109 : tA sc iX11_becomes 109 ls (vI j :: vR (some a) :: st) h Q = oz (tald sc h 0 a j) (fun v => tA sc iX11_becomes 110 ls (vI v :: st) h Q) := tA_iald mB_X11_becomes dX11_becomes_109
theorem rX11_becomes_110 : tA sc iX11_becomes 110 ls (vI x :: vI j :: vR (some a) :: st) h Q = oz (tasi h a j x) (fun h' => tA sc iX11_becomes 111 ls st h' Q) := tA_iast mB_X11_becomes dX11_becomes_110
theorem rX11_becomes_111 : tA sc iX11_becomes 111 [vR r, l1] st h Q = tA sc iX11_becomes 112 [vR r, l1] (vR r :: st) h Q := tA_pure mB_X11_becomes dX11_becomes_111 rfl
theorem rX11_becomes_112 : tA sc iX11_becomes 112 ls (vR (some o) :: st) h Q = oz (tget h o [11] 0) (fun v => tA sc iX11_becomes 115 ls (v :: st) h Q) := tA_get mB_X11_becomes mO_X11_becomes dX11_becomes_112 fT_11_7
theorem rX11_becomes_115 : tA sc iX11_becomes 115 ls st h Q = tA sc iX11_becomes 117 ls (vI (23) :: st) h Q := tA_pure mB_X11_becomes dX11_becomes_115 rfl
theorem rX11_becomes_117 : tA sc iX11_becomes 117 [l0, vI x] st h Q = tA sc iX11_becomes 118 [l0, vI x] (vI x :: st) h Q := tA_pure mB_X11_becomes dX11_becomes_117 rfl
theorem rX11_becomes_118 : tA sc iX11_becomes 118 ls (vI y :: vI x :: st) h Q = tA sc iX11_becomes 119 ls (vI (x + y) :: st) h Q := tA_pure mB_X11_becomes dX11_becomes_118 rfl
theorem rX11_becomes_119 : tA sc iX11_becomes 119 ls st h Q = tA sc iX11_becomes 120 ls (vI (-1) :: st) h Q := tA_pure mB_X11_becomes dX11_becomes_119 rfl
theorem rX11_becomes_120 : tA sc iX11_becomes 120 ls (vI x :: vI j :: vR (some a) :: st) h Q = oz (tasi h a j x) (fun h' => tA sc iX11_becomes 121 ls st h' Q) := tA_iast mB_X11_becomes dX11_becomes_120
theorem rX11_becomes_121 : tA sc iX11_becomes 121 [l0, vI x] st h Q = tA sc iX11_becomes 124 [tclr l0, vI (x + 1)] st h Q := tA_pure mB_X11_becomes dX11_becomes_121 rfl
theorem rX11_becomes_124 : tA sc iX11_becomes 124 ls st h Q = tA sc iX11_becomes 79 ls st h Q := tA_jump mB_X11_becomes dX11_becomes_124 (fun _ _ _ _ => rfl) rfl
theorem rX11_becomes_127 : tA sc iX11_becomes 127 ls st h Q = tA sc iX11_becomes 128 ls (vI (0) :: st) h Q := tA_pure mB_X11_becomes dX11_becomes_127 rfl
theorem rX11_becomes_128 : tA sc iX11_becomes 128 [l0, l1] (vI x :: st) h Q = tA sc iX11_becomes 129 [tclr l0, vI x] st h Q := tA_pure mB_X11_becomes dX11_becomes_128 rfl
theorem rX11_becomes_129 : tA sc iX11_becomes 129 [l0, vI x] st h Q = tA sc iX11_becomes 130 [l0, vI x] (vI x :: st) h Q := tA_pure mB_X11_becomes dX11_becomes_129 rfl
theorem rX11_becomes_130 : tA sc iX11_becomes 130 ls st h Q = tA sc iX11_becomes 132 ls (vI (80) :: st) h Q := tA_pure mB_X11_becomes dX11_becomes_130 rfl
theorem rX11_becomes_132 : tA sc iX11_becomes 132 ls (vI y :: vI x :: st) h Q = (if y ≤ x then tA sc iX11_becomes 153 ls st h Q else tA sc iX11_becomes 135 ls st h Q) := tA_if mB_X11_becomes dX11_becomes_132 (fun _ _ _ _ => rfl) rfl
theorem rX11_becomes_135 : tA sc iX11_becomes 135 [vR r, l1] st h Q = tA sc iX11_becomes 136 [vR r, l1] (vR r :: st) h Q := tA_pure mB_X11_becomes dX11_becomes_135 rfl
theorem rX11_becomes_136 : tA sc iX11_becomes 136 ls (vR (some o) :: st) h Q = oz (tget h o [11] 3) (fun v => tA sc iX11_becomes 139 ls (v :: st) h Q) := tA_get mB_X11_becomes mO_X11_becomes dX11_becomes_136 fT_11_16
theorem rX11_becomes_139 : tA sc iX11_becomes 139 [l0, vI x] st h Q = tA sc iX11_becomes 140 [l0, vI x] (vI x :: st) h Q := tA_pure mB_X11_becomes dX11_becomes_139 rfl
theorem rX11_becomes_140 : tA sc iX11_becomes 140 [vR r, l1] st h Q = tA sc iX11_becomes 141 [vR r, l1] (vR r :: st) h Q := tA_pure mB_X11_becomes dX11_becomes_140 rfl
theorem rX11_becomes_141 : tA sc iX11_becomes 141 ls (vR (some o) :: st) h Q = oz (tget h o [11] 20) (fun v => tA sc iX11_becomes 144 ls (v :: st) h Q) := tA_get mB_X11_becomes mO_X11_becomes dX11_becomes_141 fT_11_34
theorem rX11_becomes_144 : tA sc iX11_becomes 144 [l0, vI x] st h Q = tA sc iX11_becomes 145 [l0, vI x] (vI x :: st) h Q := tA_pure mB_X11_becomes dX11_becomes_144 rfl
theorem rX11_becomes_145 : tA sc iX11_becomes 145 ls (vI j :: vR (some a) :: st) h Q = oz (tald sc h 0 a j) (fun v => tA sc iX11_becomes 146 ls (vI v :: st) h Q) := tA_iald mB_X11_becomes dX11_becomes_145
theorem rX11_becomes_146 : tA sc iX11_becomes 146 ls (vI x :: vI j :: vR (some a) :: st) h Q = oz (tasi h a j x) (fun h' => tA sc iX11_becomes 147 ls st h' Q) := tA_iast mB_X11_becomes dX11_becomes_146
theorem rX11_becomes_147 : tA sc iX11_becomes 147 [l0, vI x] st h Q = tA sc iX11_becomes 150 [tclr l0, vI (x + 1)] st h Q := tA_pure mB_X11_becomes dX11_becomes_147 rfl
theorem rX11_becomes_150 : tA sc iX11_becomes 150 ls st h Q = tA sc iX11_becomes 129 ls st h Q := tA_jump mB_X11_becomes dX11_becomes_150 (fun _ _ _ _ => rfl) rfl
theorem rX11_becomes_153 : tA sc iX11_becomes 153 ls st h Q = tA sc iX11_becomes 154 ls (vI (0) :: st) h Q := tA_pure mB_X11_becomes dX11_becomes_153 rfl
theorem rX11_becomes_154 : tA sc iX11_becomes 154 [l0, l1] (vI x :: st) h Q = tA sc iX11_becomes 155 [tclr l0, vI x] st h Q := tA_pure mB_X11_becomes dX11_becomes_154 rfl
theorem rX11_becomes_155 : tA sc iX11_becomes 155 [l0, vI x] st h Q = tA sc iX11_becomes 156 [l0, vI x] (vI x :: st) h Q := tA_pure mB_X11_becomes dX11_becomes_155 rfl
theorem rX11_becomes_156 : tA sc iX11_becomes 156 ls st h Q = tA sc iX11_becomes 158 ls (vI (120) :: st) h Q := tA_pure mB_X11_becomes dX11_becomes_156 rfl
theorem rX11_becomes_158 : tA sc iX11_becomes 158 ls (vI y :: vI x :: st) h Q = (if y ≤ x then tA sc iX11_becomes 182 ls st h Q else tA sc iX11_becomes 161 ls st h Q) := tA_if mB_X11_becomes dX11_becomes_158 (fun _ _ _ _ => rfl) rfl
theorem rX11_becomes_161 : tA sc iX11_becomes 161 [vR r, l1] st h Q = tA sc iX11_becomes 162 [vR r, l1] (vR r :: st) h Q := tA_pure mB_X11_becomes dX11_becomes_161 rfl
theorem rX11_becomes_162 : tA sc iX11_becomes 162 ls (vR (some o) :: st) h Q = oz (tget h o [11] 0) (fun v => tA sc iX11_becomes 165 ls (v :: st) h Q) := tA_get mB_X11_becomes mO_X11_becomes dX11_becomes_162 fT_11_7
theorem rX11_becomes_165 : tA sc iX11_becomes 165 ls st h Q = tA sc iX11_becomes 167 ls (vI (48) :: st) h Q := tA_pure mB_X11_becomes dX11_becomes_165 rfl
theorem rX11_becomes_167 : tA sc iX11_becomes 167 [l0, vI x] st h Q = tA sc iX11_becomes 168 [l0, vI x] (vI x :: st) h Q := tA_pure mB_X11_becomes dX11_becomes_167 rfl
theorem rX11_becomes_168 : tA sc iX11_becomes 168 ls (vI y :: vI x :: st) h Q = tA sc iX11_becomes 169 ls (vI (x + y) :: st) h Q := tA_pure mB_X11_becomes dX11_becomes_168 rfl
theorem rX11_becomes_169 : tA sc iX11_becomes 169 [vR r, l1] st h Q = tA sc iX11_becomes 170 [vR r, l1] (vR r :: st) h Q := tA_pure mB_X11_becomes dX11_becomes_169 rfl
theorem rX11_becomes_170 : tA sc iX11_becomes 170 ls (vR (some o) :: st) h Q = oz (tget h o [11] 23) (fun v => tA sc iX11_becomes 173 ls (v :: st) h Q) := tA_get mB_X11_becomes mO_X11_becomes dX11_becomes_170 fT_11_43
theorem rX11_becomes_173 : tA sc iX11_becomes 173 [l0, vI x] st h Q = tA sc iX11_becomes 174 [l0, vI x] (vI x :: st) h Q := tA_pure mB_X11_becomes dX11_becomes_173 rfl
theorem rX11_becomes_174 : tA sc iX11_becomes 174 ls (vI j :: vR (some a) :: st) h Q = oz (tald sc h 0 a j) (fun v => tA sc iX11_becomes 175 ls (vI v :: st) h Q) := tA_iald mB_X11_becomes dX11_becomes_174
theorem rX11_becomes_175 : tA sc iX11_becomes 175 ls (vI x :: vI j :: vR (some a) :: st) h Q = oz (tasi h a j x) (fun h' => tA sc iX11_becomes 176 ls st h' Q) := tA_iast mB_X11_becomes dX11_becomes_175
theorem rX11_becomes_176 : tA sc iX11_becomes 176 [l0, vI x] st h Q = tA sc iX11_becomes 179 [tclr l0, vI (x + 1)] st h Q := tA_pure mB_X11_becomes dX11_becomes_176 rfl
theorem rX11_becomes_179 : tA sc iX11_becomes 179 ls st h Q = tA sc iX11_becomes 155 ls st h Q := tA_jump mB_X11_becomes dX11_becomes_179 (fun _ _ _ _ => rfl) rfl
theorem rX11_becomes_182 : tA sc iX11_becomes 182 ls [] h Q = Q (none) h := tA_ret mB_X11_becomes dX11_becomes_182 (fun _ _ _ _ => rfl) (fun _ _ _ => rfl) (fun _ _ _ _ _ => rfl) rfl rfl
theorem mB_X11_worth : mB iX11_worth = cX11_worth := rfl
theorem mO_X11_worth : mO iX11_worth = 11 := rfl
theorem rX11_worth_0 : tA sc iX11_worth 0 [l0, vI x, l2, l3] st h Q = tA sc iX11_worth 1 [l0, vI x, l2, l3] (vI x :: st) h Q := tA_pure mB_X11_worth dX11_worth_0 rfl
theorem rX11_worth_1 : tA sc iX11_worth 1 ls [vI p0] h Q = tA sc iX11_isDay 0 [vI p0] [] h (fun v h1 => tA sc iX11_worth 4 ls (tpu v []) h1 Q) := tA_cS mB_X11_worth mO_X11_worth dX11_worth_1 cT_11_216 ⟨Nat.le_of_ble_eq_true rfl, Nat.le_of_ble_eq_true rfl⟩ rfl rfl rfl rfl
theorem rX11_worth_4 : tA sc iX11_worth 4 ls (vI x :: st) h Q = (if x = 0 then tA sc iX11_worth 17 ls st h Q else tA sc iX11_worth 7 ls st h Q) := tA_if mB_X11_worth dX11_worth_4 (fun _ _ _ _ => rfl) rfl
theorem rX11_worth_7 : tA sc iX11_worth 7 [l0, l1, vI x, l3] st h Q = tA sc iX11_worth 8 [l0, l1, vI x, l3] (vI x :: st) h Q := tA_pure mB_X11_worth dX11_worth_7 rfl
theorem rX11_worth_8 : tA sc iX11_worth 8 ls st h Q = tA sc iX11_worth 9 ls (vI (0) :: st) h Q := tA_pure mB_X11_worth dX11_worth_8 rfl
theorem rX11_worth_9 : tA sc iX11_worth 9 ls st h Q = tA sc iX11_worth 11 ls (vI (99) :: st) h Q := tA_pure mB_X11_worth dX11_worth_9 rfl
theorem rX11_worth_11 : tA sc iX11_worth 11 ls [vI p2, vI p1, vI p0] h Q = tA sc iX11_in 0 [vI p0, vI p1, vI p2] [] h (fun v h1 => tA sc iX11_worth 14 ls (tpu v []) h1 Q) := tA_cS mB_X11_worth mO_X11_worth dX11_worth_11 cT_11_83 ⟨Nat.le_of_ble_eq_true rfl, Nat.le_of_ble_eq_true rfl⟩ rfl rfl rfl rfl
theorem rX11_worth_14 : tA sc iX11_worth 14 ls (vI x :: st) h Q = (if ¬ x = 0 then tA sc iX11_worth 19 ls st h Q else tA sc iX11_worth 17 ls st h Q) := tA_if mB_X11_worth dX11_worth_14 (fun _ _ _ _ => rfl) rfl
theorem rX11_worth_17 : tA sc iX11_worth 17 ls st h Q = tA sc iX11_worth 18 ls (vI (-1) :: st) h Q := tA_pure mB_X11_worth dX11_worth_17 rfl
theorem rX11_worth_18 : tA sc iX11_worth 18 ls [vI x] h Q = Q (some (vI x)) h := tA_ret mB_X11_worth dX11_worth_18 (fun _ _ _ _ => rfl) (fun _ _ _ => rfl) (fun _ _ _ _ _ => rfl) rfl rfl
theorem rX11_worth_19 : tA sc iX11_worth 19 [vR r, l1, l2, l3] st h Q = tA sc iX11_worth 20 [vR r, l1, l2, l3] (vR r :: st) h Q := tA_pure mB_X11_worth dX11_worth_19 rfl
theorem rX11_worth_20 : tA sc iX11_worth 20 ls (vR (some o) :: st) h Q = oz (tget h o [11] 2) (fun v => tA sc iX11_worth 23 ls (v :: st) h Q) := tA_get mB_X11_worth mO_X11_worth dX11_worth_20 fT_11_13
theorem rX11_worth_23 : tA sc iX11_worth 23 [l0, vI x, l2, l3] st h Q = tA sc iX11_worth 24 [l0, vI x, l2, l3] (vI x :: st) h Q := tA_pure mB_X11_worth dX11_worth_23 rfl
theorem rX11_worth_24 : tA sc iX11_worth 24 ls (vI j :: vR (some a) :: st) h Q = oz (tald sc h 0 a j) (fun v => tA sc iX11_worth 25 ls (vI v :: st) h Q) := tA_iald mB_X11_worth dX11_worth_24
theorem rX11_worth_25 : tA sc iX11_worth 25 [l0, l1, l2, l3] (vI x :: st) h Q = tA sc iX11_worth 26 [l0, l1, tclr l2, vI x] st h Q := tA_pure mB_X11_worth dX11_worth_25 rfl
theorem rX11_worth_26 : tA sc iX11_worth 26 [vR r, l1, l2, l3] st h Q = tA sc iX11_worth 27 [vR r, l1, l2, l3] (vR r :: st) h Q := tA_pure mB_X11_worth dX11_worth_26 rfl
theorem rX11_worth_27 : tA sc iX11_worth 27 ls (vR (some o) :: st) h Q = oz (tget h o [11] 2) (fun v => tA sc iX11_worth 30 ls (v :: st) h Q) := tA_get mB_X11_worth mO_X11_worth dX11_worth_27 fT_11_13
theorem rX11_worth_30 : tA sc iX11_worth 30 [l0, vI x, l2, l3] st h Q = tA sc iX11_worth 31 [l0, vI x, l2, l3] (vI x :: st) h Q := tA_pure mB_X11_worth dX11_worth_30 rfl
theorem rX11_worth_31 : tA sc iX11_worth 31 [l0, l1, vI x, l3] st h Q = tA sc iX11_worth 32 [l0, l1, vI x, l3] (vI x :: st) h Q := tA_pure mB_X11_worth dX11_worth_31 rfl
theorem rX11_worth_32 : tA sc iX11_worth 32 ls (vI x :: vI j :: vR (some a) :: st) h Q = oz (tasi h a j x) (fun h' => tA sc iX11_worth 33 ls st h' Q) := tA_iast mB_X11_worth dX11_worth_32
theorem rX11_worth_33 : tA sc iX11_worth 33 [l0, l1, l2, vI x] st h Q = tA sc iX11_worth 34 [l0, l1, l2, vI x] (vI x :: st) h Q := tA_pure mB_X11_worth dX11_worth_33 rfl
theorem rX11_worth_34 : tA sc iX11_worth 34 ls [vI x] h Q = Q (some (vI x)) h := tA_ret mB_X11_worth dX11_worth_34 (fun _ _ _ _ => rfl) (fun _ _ _ => rfl) (fun _ _ _ _ _ => rfl) rfl rfl
theorem mB_X11_weigh : mB iX11_weigh = cX11_weigh := rfl
theorem mO_X11_weigh : mO iX11_weigh = 11 := rfl
theorem rX11_weigh_0 : tA sc iX11_weigh 0 [l0, vI x, l2, l3, l4] st h Q = tA sc iX11_weigh 1 [l0, vI x, l2, l3, l4] (vI x :: st) h Q := tA_pure mB_X11_weigh dX11_weigh_0 rfl
theorem rX11_weigh_1 : tA sc iX11_weigh 1 ls [vI p0] h Q = tA sc iX11_isDay 0 [vI p0] [] h (fun v h1 => tA sc iX11_weigh 4 ls (tpu v []) h1 Q) := tA_cS mB_X11_weigh mO_X11_weigh dX11_weigh_1 cT_11_216 ⟨Nat.le_of_ble_eq_true rfl, Nat.le_of_ble_eq_true rfl⟩ rfl rfl rfl rfl
theorem rX11_weigh_4 : tA sc iX11_weigh 4 ls (vI x :: st) h Q = (if x = 0 then tA sc iX11_weigh 24 ls st h Q else tA sc iX11_weigh 7 ls st h Q) := tA_if mB_X11_weigh dX11_weigh_4 (fun _ _ _ _ => rfl) rfl
theorem rX11_weigh_7 : tA sc iX11_weigh 7 [l0, l1, vI x, l3, l4] st h Q = tA sc iX11_weigh 8 [l0, l1, vI x, l3, l4] (vI x :: st) h Q := tA_pure mB_X11_weigh dX11_weigh_7 rfl
theorem rX11_weigh_8 : tA sc iX11_weigh 8 ls [vI p0] h Q = tA sc iX11_isWeather 0 [vI p0] [] h (fun v h1 => tA sc iX11_weigh 11 ls (tpu v []) h1 Q) := tA_cS mB_X11_weigh mO_X11_weigh dX11_weigh_8 cT_11_219 ⟨Nat.le_of_ble_eq_true rfl, Nat.le_of_ble_eq_true rfl⟩ rfl rfl rfl rfl
theorem rX11_weigh_11 : tA sc iX11_weigh 11 ls (vI x :: st) h Q = (if x = 0 then tA sc iX11_weigh 24 ls st h Q else tA sc iX11_weigh 14 ls st h Q) := tA_if mB_X11_weigh dX11_weigh_11 (fun _ _ _ _ => rfl) rfl
theorem rX11_weigh_14 : tA sc iX11_weigh 14 [l0, l1, l2, vI x, l4] st h Q = tA sc iX11_weigh 15 [l0, l1, l2, vI x, l4] (vI x :: st) h Q := tA_pure mB_X11_weigh dX11_weigh_14 rfl
theorem rX11_weigh_15 : tA sc iX11_weigh 15 ls st h Q = tA sc iX11_weigh 16 ls (vI (0) :: st) h Q := tA_pure mB_X11_weigh dX11_weigh_15 rfl
theorem rX11_weigh_16 : tA sc iX11_weigh 16 ls st h Q = tA sc iX11_weigh 18 ls (vI (9) :: st) h Q := tA_pure mB_X11_weigh dX11_weigh_16 rfl
theorem rX11_weigh_18 : tA sc iX11_weigh 18 ls [vI p2, vI p1, vI p0] h Q = tA sc iX11_in 0 [vI p0, vI p1, vI p2] [] h (fun v h1 => tA sc iX11_weigh 21 ls (tpu v []) h1 Q) := tA_cS mB_X11_weigh mO_X11_weigh dX11_weigh_18 cT_11_83 ⟨Nat.le_of_ble_eq_true rfl, Nat.le_of_ble_eq_true rfl⟩ rfl rfl rfl rfl
theorem rX11_weigh_21 : tA sc iX11_weigh 21 ls (vI x :: st) h Q = (if ¬ x = 0 then tA sc iX11_weigh 26 ls st h Q else tA sc iX11_weigh 24 ls st h Q) := tA_if mB_X11_weigh dX11_weigh_21 (fun _ _ _ _ => rfl) rfl
theorem rX11_weigh_24 : tA sc iX11_weigh 24 ls st h Q = tA sc iX11_weigh 25 ls (vI (-1) :: st) h Q := tA_pure mB_X11_weigh dX11_weigh_24 rfl
theorem rX11_weigh_25 : tA sc iX11_weigh 25 ls [vI x] h Q = Q (some (vI x)) h := tA_ret mB_X11_weigh dX11_weigh_25 (fun _ _ _ _ => rfl) (fun _ _ _ => rfl) (fun _ _ _ _ _ => rfl) rfl rfl
theorem rX11_weigh_26 : tA sc iX11_weigh 26 [vR r, l1, l2, l3, l4] st h Q = tA sc iX11_weigh 27 [vR r, l1, l2, l3, l4] (vR r :: st) h Q := tA_pure mB_X11_weigh dX11_weigh_26 rfl
theorem rX11_weigh_27 : tA sc iX11_weigh 27 ls (vR (some o) :: st) h Q = oz (tget h o [11] 3) (fun v => tA sc iX11_weigh 30 ls (v :: st) h Q) := tA_get mB_X11_weigh mO_X11_weigh dX11_weigh_27 fT_11_16
theorem rX11_weigh_30 : tA sc iX11_weigh 30 ls st h Q = tA sc iX11_weigh 31 ls (vI (4) :: st) h Q := tA_pure mB_X11_weigh dX11_weigh_30 rfl
theorem rX11_weigh_31 : tA sc iX11_weigh 31 [l0, vI x, l2, l3, l4] st h Q = tA sc iX11_weigh 32 [l0, vI x, l2, l3, l4] (vI x :: st) h Q := tA_pure mB_X11_weigh dX11_weigh_31 rfl
theorem rX11_weigh_32 : tA sc iX11_weigh 32 ls (vI y :: vI x :: st) h Q = tA sc iX11_weigh 33 ls (vI (x * y) :: st) h Q := tA_pure mB_X11_weigh dX11_weigh_32 rfl
theorem rX11_weigh_33 : tA sc iX11_weigh 33 [l0, l1, vI x, l3, l4] st h Q = tA sc iX11_weigh 34 [l0, l1, vI x, l3, l4] (vI x :: st) h Q := tA_pure mB_X11_weigh dX11_weigh_33 rfl
theorem rX11_weigh_34 : tA sc iX11_weigh 34 ls (vI y :: vI x :: st) h Q = tA sc iX11_weigh 35 ls (vI (x + y) :: st) h Q := tA_pure mB_X11_weigh dX11_weigh_34 rfl
theorem rX11_weigh_35 : tA sc iX11_weigh 35 ls (vI j :: vR (some a) :: st) h Q = oz (tald sc h 0 a j) (fun v => tA sc iX11_weigh 36 ls (vI v :: st) h Q) := tA_iald mB_X11_weigh dX11_weigh_35
theorem rX11_weigh_36 : tA sc iX11_weigh 36 [l0, l1, l2, l3, l4] (vI x :: st) h Q = tA sc iX11_weigh 38 [l0, l1, l2, tclr l3, vI x] st h Q := tA_pure mB_X11_weigh dX11_weigh_36 rfl
theorem rX11_weigh_38 : tA sc iX11_weigh 38 [vR r, l1, l2, l3, l4] st h Q = tA sc iX11_weigh 39 [vR r, l1, l2, l3, l4] (vR r :: st) h Q := tA_pure mB_X11_weigh dX11_weigh_38 rfl
theorem rX11_weigh_39 : tA sc iX11_weigh 39 [l0, vI x, l2, l3, l4] st h Q = tA sc iX11_weigh 40 [l0, vI x, l2, l3, l4] (vI x :: st) h Q := tA_pure mB_X11_weigh dX11_weigh_39 rfl
theorem rX11_weigh_40 (hci : tcl h o = some 11) : tA sc iX11_weigh 40 ls [vI p0, vR (some o)] h Q = tA sc iX11_plainAll 0 [vR (some o), vI p0] [] h (fun v h1 => tA sc iX11_weigh 43 ls (tpu v []) h1 Q) := tA_cV mB_X11_weigh mO_X11_weigh dX11_weigh_40 cT_11_222 rfl (Nat.le_of_ble_eq_true rfl) rfl rfl rfl hci
theorem rX11_weigh_43 : tA sc iX11_weigh 43 [l0, l1, l2, l3, vI x] st h Q = tA sc iX11_weigh 45 [l0, l1, l2, l3, vI x] (vI x :: st) h Q := tA_pure mB_X11_weigh dX11_weigh_43 rfl
theorem rX11_weigh_45 : tA sc iX11_weigh 45 ls (vI y :: vI x :: st) h Q = tA sc iX11_weigh 46 ls (vI (x - y) :: st) h Q := tA_pure mB_X11_weigh dX11_weigh_45 rfl
theorem rX11_weigh_46 : tA sc iX11_weigh 46 [l0, l1, l2, vI x, l4] st h Q = tA sc iX11_weigh 47 [l0, l1, l2, vI x, l4] (vI x :: st) h Q := tA_pure mB_X11_weigh dX11_weigh_46 rfl
theorem rX11_weigh_47 : tA sc iX11_weigh 47 ls (vI y :: vI x :: st) h Q = tA sc iX11_weigh 48 ls (vI (x + y) :: st) h Q := tA_pure mB_X11_weigh dX11_weigh_47 rfl
theorem rX11_weigh_48 : tA sc iX11_weigh 48 ls (vI x :: st) h Q = (if ¬ x = 0 then tA sc iX11_weigh 54 ls st h Q else tA sc iX11_weigh 51 ls st h Q) := tA_if mB_X11_weigh dX11_weigh_48 (fun _ _ _ _ => rfl) rfl
theorem rX11_weigh_51 : tA sc iX11_weigh 51 ls st h Q = tA sc iX11_weigh 53 ls (vI (-4) :: st) h Q := tA_pure mB_X11_weigh dX11_weigh_51 rfl
theorem rX11_weigh_53 : tA sc iX11_weigh 53 ls [vI x] h Q = Q (some (vI x)) h := tA_ret mB_X11_weigh dX11_weigh_53 (fun _ _ _ _ => rfl) (fun _ _ _ => rfl) (fun _ _ _ _ _ => rfl) rfl rfl
theorem rX11_weigh_54 : tA sc iX11_weigh 54 [vR r, l1, l2, l3, l4] st h Q = tA sc iX11_weigh 55 [vR r, l1, l2, l3, l4] (vR r :: st) h Q := tA_pure mB_X11_weigh dX11_weigh_54 rfl
theorem rX11_weigh_55 : tA sc iX11_weigh 55 ls (vR (some o) :: st) h Q = oz (tget h o [11] 3) (fun v => tA sc iX11_weigh 58 ls (v :: st) h Q) := tA_get mB_X11_weigh mO_X11_weigh dX11_weigh_55 fT_11_16
theorem rX11_weigh_58 : tA sc iX11_weigh 58 ls st h Q = tA sc iX11_weigh 59 ls (vI (4) :: st) h Q := tA_pure mB_X11_weigh dX11_weigh_58 rfl
theorem rX11_weigh_59 : tA sc iX11_weigh 59 [l0, vI x, l2, l3, l4] st h Q = tA sc iX11_weigh 60 [l0, vI x, l2, l3, l4] (vI x :: st) h Q := tA_pure mB_X11_weigh dX11_weigh_59 rfl
theorem rX11_weigh_60 : tA sc iX11_weigh 60 ls (vI y :: vI x :: st) h Q = tA sc iX11_weigh 61 ls (vI (x * y) :: st) h Q := tA_pure mB_X11_weigh dX11_weigh_60 rfl
theorem rX11_weigh_61 : tA sc iX11_weigh 61 [l0, l1, vI x, l3, l4] st h Q = tA sc iX11_weigh 62 [l0, l1, vI x, l3, l4] (vI x :: st) h Q := tA_pure mB_X11_weigh dX11_weigh_61 rfl
theorem rX11_weigh_62 : tA sc iX11_weigh 62 ls (vI y :: vI x :: st) h Q = tA sc iX11_weigh 63 ls (vI (x + y) :: st) h Q := tA_pure mB_X11_weigh dX11_weigh_62 rfl
theorem rX11_weigh_63 : tA sc iX11_weigh 63 [l0, l1, l2, vI x, l4] st h Q = tA sc iX11_weigh 64 [l0, l1, l2, vI x, l4] (vI x :: st) h Q := tA_pure mB_X11_weigh dX11_weigh_63 rfl
theorem rX11_weigh_64 : tA sc iX11_weigh 64 ls (vI x :: vI j :: vR (some a) :: st) h Q = oz (tasi h a j x) (fun h' => tA sc iX11_weigh 65 ls st h' Q) := tA_iast mB_X11_weigh dX11_weigh_64
theorem rX11_weigh_65 : tA sc iX11_weigh 65 [l0, l1, l2, l3, vI x] st h Q = tA sc iX11_weigh 67 [l0, l1, l2, l3, vI x] (vI x :: st) h Q := tA_pure mB_X11_weigh dX11_weigh_65 rfl
theorem rX11_weigh_67 : tA sc iX11_weigh 67 ls [vI x] h Q = Q (some (vI x)) h := tA_ret mB_X11_weigh dX11_weigh_67 (fun _ _ _ _ => rfl) (fun _ _ _ => rfl) (fun _ _ _ _ _ => rfl) rfl rfl
theorem mB_X11_plainAll : mB iX11_plainAll = cX11_plainAll := rfl
theorem mO_X11_plainAll : mO iX11_plainAll = 11 := rfl
theorem rX11_plainAll_0 : tA sc iX11_plainAll 0 [vR r, l1] st h Q = tA sc iX11_plainAll 1 [vR r, l1] (vR r :: st) h Q := tA_pure mB_X11_plainAll dX11_plainAll_0 rfl
theorem rX11_plainAll_1 : tA sc iX11_plainAll 1 ls (vR (some o) :: st) h Q = oz (tget h o [11] 3) (fun v => tA sc iX11_plainAll 4 ls (v :: st) h Q) := tA_get mB_X11_plainAll mO_X11_plainAll dX11_plainAll_1 fT_11_16
theorem rX11_plainAll_4 : tA sc iX11_plainAll 4 ls st h Q = tA sc iX11_plainAll 5 ls (vI (4) :: st) h Q := tA_pure mB_X11_plainAll dX11_plainAll_4 rfl
theorem rX11_plainAll_5 : tA sc iX11_plainAll 5 [l0, vI x] st h Q = tA sc iX11_plainAll 6 [l0, vI x] (vI x :: st) h Q := tA_pure mB_X11_plainAll dX11_plainAll_5 rfl
theorem rX11_plainAll_6 : tA sc iX11_plainAll 6 ls (vI y :: vI x :: st) h Q = tA sc iX11_plainAll 7 ls (vI (x * y) :: st) h Q := tA_pure mB_X11_plainAll dX11_plainAll_6 rfl
theorem rX11_plainAll_7 : tA sc iX11_plainAll 7 ls (vI j :: vR (some a) :: st) h Q = oz (tald sc h 0 a j) (fun v => tA sc iX11_plainAll 8 ls (vI v :: st) h Q) := tA_iald mB_X11_plainAll dX11_plainAll_7
theorem rX11_plainAll_8 : tA sc iX11_plainAll 8 [vR r, l1] st h Q = tA sc iX11_plainAll 9 [vR r, l1] (vR r :: st) h Q := tA_pure mB_X11_plainAll dX11_plainAll_8 rfl
theorem rX11_plainAll_9 : tA sc iX11_plainAll 9 ls (vR (some o) :: st) h Q = oz (tget h o [11] 3) (fun v => tA sc iX11_plainAll 12 ls (v :: st) h Q) := tA_get mB_X11_plainAll mO_X11_plainAll dX11_plainAll_9 fT_11_16
theorem rX11_plainAll_12 : tA sc iX11_plainAll 12 ls st h Q = tA sc iX11_plainAll 13 ls (vI (4) :: st) h Q := tA_pure mB_X11_plainAll dX11_plainAll_12 rfl
theorem rX11_plainAll_13 : tA sc iX11_plainAll 13 [l0, vI x] st h Q = tA sc iX11_plainAll 14 [l0, vI x] (vI x :: st) h Q := tA_pure mB_X11_plainAll dX11_plainAll_13 rfl
theorem rX11_plainAll_14 : tA sc iX11_plainAll 14 ls (vI y :: vI x :: st) h Q = tA sc iX11_plainAll 15 ls (vI (x * y) :: st) h Q := tA_pure mB_X11_plainAll dX11_plainAll_14 rfl
theorem rX11_plainAll_15 : tA sc iX11_plainAll 15 ls st h Q = tA sc iX11_plainAll 16 ls (vI (1) :: st) h Q := tA_pure mB_X11_plainAll dX11_plainAll_15 rfl
theorem rX11_plainAll_16 : tA sc iX11_plainAll 16 ls (vI y :: vI x :: st) h Q = tA sc iX11_plainAll 17 ls (vI (x + y) :: st) h Q := tA_pure mB_X11_plainAll dX11_plainAll_16 rfl
theorem rX11_plainAll_17 : tA sc iX11_plainAll 17 ls (vI j :: vR (some a) :: st) h Q = oz (tald sc h 0 a j) (fun v => tA sc iX11_plainAll 18 ls (vI v :: st) h Q) := tA_iald mB_X11_plainAll dX11_plainAll_17
theorem rX11_plainAll_18 : tA sc iX11_plainAll 18 ls (vI y :: vI x :: st) h Q = tA sc iX11_plainAll 19 ls (vI (x + y) :: st) h Q := tA_pure mB_X11_plainAll dX11_plainAll_18 rfl
theorem rX11_plainAll_19 : tA sc iX11_plainAll 19 [vR r, l1] st h Q = tA sc iX11_plainAll 20 [vR r, l1] (vR r :: st) h Q := tA_pure mB_X11_plainAll dX11_plainAll_19 rfl
theorem rX11_plainAll_20 : tA sc iX11_plainAll 20 ls (vR (some o) :: st) h Q = oz (tget h o [11] 3) (fun v => tA sc iX11_plainAll 23 ls (v :: st) h Q) := tA_get mB_X11_plainAll mO_X11_plainAll dX11_plainAll_20 fT_11_16
theorem rX11_plainAll_23 : tA sc iX11_plainAll 23 ls st h Q = tA sc iX11_plainAll 24 ls (vI (4) :: st) h Q := tA_pure mB_X11_plainAll dX11_plainAll_23 rfl
theorem rX11_plainAll_24 : tA sc iX11_plainAll 24 [l0, vI x] st h Q = tA sc iX11_plainAll 25 [l0, vI x] (vI x :: st) h Q := tA_pure mB_X11_plainAll dX11_plainAll_24 rfl
theorem rX11_plainAll_25 : tA sc iX11_plainAll 25 ls (vI y :: vI x :: st) h Q = tA sc iX11_plainAll 26 ls (vI (x * y) :: st) h Q := tA_pure mB_X11_plainAll dX11_plainAll_25 rfl
theorem rX11_plainAll_26 : tA sc iX11_plainAll 26 ls st h Q = tA sc iX11_plainAll 27 ls (vI (2) :: st) h Q := tA_pure mB_X11_plainAll dX11_plainAll_26 rfl
theorem rX11_plainAll_27 : tA sc iX11_plainAll 27 ls (vI y :: vI x :: st) h Q = tA sc iX11_plainAll 28 ls (vI (x + y) :: st) h Q := tA_pure mB_X11_plainAll dX11_plainAll_27 rfl
theorem rX11_plainAll_28 : tA sc iX11_plainAll 28 ls (vI j :: vR (some a) :: st) h Q = oz (tald sc h 0 a j) (fun v => tA sc iX11_plainAll 29 ls (vI v :: st) h Q) := tA_iald mB_X11_plainAll dX11_plainAll_28
theorem rX11_plainAll_29 : tA sc iX11_plainAll 29 ls (vI y :: vI x :: st) h Q = tA sc iX11_plainAll 30 ls (vI (x + y) :: st) h Q := tA_pure mB_X11_plainAll dX11_plainAll_29 rfl
theorem rX11_plainAll_30 : tA sc iX11_plainAll 30 [vR r, l1] st h Q = tA sc iX11_plainAll 31 [vR r, l1] (vR r :: st) h Q := tA_pure mB_X11_plainAll dX11_plainAll_30 rfl
theorem rX11_plainAll_31 : tA sc iX11_plainAll 31 ls (vR (some o) :: st) h Q = oz (tget h o [11] 3) (fun v => tA sc iX11_plainAll 34 ls (v :: st) h Q) := tA_get mB_X11_plainAll mO_X11_plainAll dX11_plainAll_31 fT_11_16
theorem rX11_plainAll_34 : tA sc iX11_plainAll 34 ls st h Q = tA sc iX11_plainAll 35 ls (vI (4) :: st) h Q := tA_pure mB_X11_plainAll dX11_plainAll_34 rfl
theorem rX11_plainAll_35 : tA sc iX11_plainAll 35 [l0, vI x] st h Q = tA sc iX11_plainAll 36 [l0, vI x] (vI x :: st) h Q := tA_pure mB_X11_plainAll dX11_plainAll_35 rfl
theorem rX11_plainAll_36 : tA sc iX11_plainAll 36 ls (vI y :: vI x :: st) h Q = tA sc iX11_plainAll 37 ls (vI (x * y) :: st) h Q := tA_pure mB_X11_plainAll dX11_plainAll_36 rfl
theorem rX11_plainAll_37 : tA sc iX11_plainAll 37 ls st h Q = tA sc iX11_plainAll 38 ls (vI (3) :: st) h Q := tA_pure mB_X11_plainAll dX11_plainAll_37 rfl
theorem rX11_plainAll_38 : tA sc iX11_plainAll 38 ls (vI y :: vI x :: st) h Q = tA sc iX11_plainAll 39 ls (vI (x + y) :: st) h Q := tA_pure mB_X11_plainAll dX11_plainAll_38 rfl
theorem rX11_plainAll_39 : tA sc iX11_plainAll 39 ls (vI j :: vR (some a) :: st) h Q = oz (tald sc h 0 a j) (fun v => tA sc iX11_plainAll 40 ls (vI v :: st) h Q) := tA_iald mB_X11_plainAll dX11_plainAll_39
theorem rX11_plainAll_40 : tA sc iX11_plainAll 40 ls (vI y :: vI x :: st) h Q = tA sc iX11_plainAll 41 ls (vI (x + y) :: st) h Q := tA_pure mB_X11_plainAll dX11_plainAll_40 rfl
theorem rX11_plainAll_41 : tA sc iX11_plainAll 41 ls [vI x] h Q = Q (some (vI x)) h := tA_ret mB_X11_plainAll dX11_plainAll_41 (fun _ _ _ _ => rfl) (fun _ _ _ => rfl) (fun _ _ _ _ _ => rfl) rfl rfl
theorem mB_X11_sign : mB iX11_sign = cX11_sign := rfl
theorem mO_X11_sign : mO iX11_sign = 11 := rfl
theorem rX11_sign_0 : tA sc iX11_sign 0 [l0, vI x, l2, l3] st h Q = tA sc iX11_sign 1 [l0, vI x, l2, l3] (vI x :: st) h Q := tA_pure mB_X11_sign dX11_sign_0 rfl
theorem rX11_sign_1 : tA sc iX11_sign 1 ls [vI p0] h Q = tA sc iX11_isDay 0 [vI p0] [] h (fun v h1 => tA sc iX11_sign 4 ls (tpu v []) h1 Q) := tA_cS mB_X11_sign mO_X11_sign dX11_sign_1 cT_11_216 ⟨Nat.le_of_ble_eq_true rfl, Nat.le_of_ble_eq_true rfl⟩ rfl rfl rfl rfl
theorem rX11_sign_4 : tA sc iX11_sign 4 ls (vI x :: st) h Q = (if x = 0 then tA sc iX11_sign 16 ls st h Q else tA sc iX11_sign 7 ls st h Q) := tA_if mB_X11_sign dX11_sign_4 (fun _ _ _ _ => rfl) rfl
theorem rX11_sign_7 : tA sc iX11_sign 7 [l0, l1, vI x, l3] st h Q = tA sc iX11_sign 8 [l0, l1, vI x, l3] (vI x :: st) h Q := tA_pure mB_X11_sign dX11_sign_7 rfl
theorem rX11_sign_8 : tA sc iX11_sign 8 ls st h Q = tA sc iX11_sign 9 ls (vI (-1) :: st) h Q := tA_pure mB_X11_sign dX11_sign_8 rfl
theorem rX11_sign_9 : tA sc iX11_sign 9 ls st h Q = tA sc iX11_sign 10 ls (vI (3) :: st) h Q := tA_pure mB_X11_sign dX11_sign_9 rfl
theorem rX11_sign_10 : tA sc iX11_sign 10 ls [vI p2, vI p1, vI p0] h Q = tA sc iX11_in 0 [vI p0, vI p1, vI p2] [] h (fun v h1 => tA sc iX11_sign 13 ls (tpu v []) h1 Q) := tA_cS mB_X11_sign mO_X11_sign dX11_sign_10 cT_11_83 ⟨Nat.le_of_ble_eq_true rfl, Nat.le_of_ble_eq_true rfl⟩ rfl rfl rfl rfl
theorem rX11_sign_13 : tA sc iX11_sign 13 ls (vI x :: st) h Q = (if ¬ x = 0 then tA sc iX11_sign 18 ls st h Q else tA sc iX11_sign 16 ls st h Q) := tA_if mB_X11_sign dX11_sign_13 (fun _ _ _ _ => rfl) rfl
theorem rX11_sign_16 : tA sc iX11_sign 16 ls st h Q = tA sc iX11_sign 17 ls (vI (-1) :: st) h Q := tA_pure mB_X11_sign dX11_sign_16 rfl
theorem rX11_sign_17 : tA sc iX11_sign 17 ls [vI x] h Q = Q (some (vI x)) h := tA_ret mB_X11_sign dX11_sign_17 (fun _ _ _ _ => rfl) (fun _ _ _ => rfl) (fun _ _ _ _ _ => rfl) rfl rfl
theorem rX11_sign_18 : tA sc iX11_sign 18 [vR r, l1, l2, l3] st h Q = tA sc iX11_sign 19 [vR r, l1, l2, l3] (vR r :: st) h Q := tA_pure mB_X11_sign dX11_sign_18 rfl
theorem rX11_sign_19 : tA sc iX11_sign 19 ls (vR (some o) :: st) h Q = oz (tget h o [11] 0) (fun v => tA sc iX11_sign 22 ls (v :: st) h Q) := tA_get mB_X11_sign mO_X11_sign dX11_sign_19 fT_11_7
theorem rX11_sign_22 : tA sc iX11_sign 22 ls st h Q = tA sc iX11_sign 23 ls (vI (3) :: st) h Q := tA_pure mB_X11_sign dX11_sign_22 rfl
theorem rX11_sign_23 : tA sc iX11_sign 23 [l0, vI x, l2, l3] st h Q = tA sc iX11_sign 24 [l0, vI x, l2, l3] (vI x :: st) h Q := tA_pure mB_X11_sign dX11_sign_23 rfl
theorem rX11_sign_24 : tA sc iX11_sign 24 ls (vI y :: vI x :: st) h Q = tA sc iX11_sign 25 ls (vI (x + y) :: st) h Q := tA_pure mB_X11_sign dX11_sign_24 rfl
theorem rX11_sign_25 : tA sc iX11_sign 25 ls (vI j :: vR (some a) :: st) h Q = oz (tald sc h 0 a j) (fun v => tA sc iX11_sign 26 ls (vI v :: st) h Q) := tA_iald mB_X11_sign dX11_sign_25
theorem rX11_sign_26 : tA sc iX11_sign 26 [l0, l1, l2, l3] (vI x :: st) h Q = tA sc iX11_sign 27 [l0, l1, tclr l2, vI x] st h Q := tA_pure mB_X11_sign dX11_sign_26 rfl
theorem rX11_sign_27 : tA sc iX11_sign 27 [vR r, l1, l2, l3] st h Q = tA sc iX11_sign 28 [vR r, l1, l2, l3] (vR r :: st) h Q := tA_pure mB_X11_sign dX11_sign_27 rfl
theorem rX11_sign_28 : tA sc iX11_sign 28 ls (vR (some o) :: st) h Q = oz (tget h o [11] 0) (fun v => tA sc iX11_sign 31 ls (v :: st) h Q) := tA_get mB_X11_sign mO_X11_sign dX11_sign_28 fT_11_7
theorem rX11_sign_31 : tA sc iX11_sign 31 ls st h Q = tA sc iX11_sign 32 ls (vI (3) :: st) h Q := tA_pure mB_X11_sign dX11_sign_31 rfl
theorem rX11_sign_32 : tA sc iX11_sign 32 [l0, vI x, l2, l3] st h Q = tA sc iX11_sign 33 [l0, vI x, l2, l3] (vI x :: st) h Q := tA_pure mB_X11_sign dX11_sign_32 rfl
theorem rX11_sign_33 : tA sc iX11_sign 33 ls (vI y :: vI x :: st) h Q = tA sc iX11_sign 34 ls (vI (x + y) :: st) h Q := tA_pure mB_X11_sign dX11_sign_33 rfl
theorem rX11_sign_34 : tA sc iX11_sign 34 [l0, l1, vI x, l3] st h Q = tA sc iX11_sign 35 [l0, l1, vI x, l3] (vI x :: st) h Q := tA_pure mB_X11_sign dX11_sign_34 rfl
theorem rX11_sign_35 : tA sc iX11_sign 35 ls (vI x :: vI j :: vR (some a) :: st) h Q = oz (tasi h a j x) (fun h' => tA sc iX11_sign 36 ls st h' Q) := tA_iast mB_X11_sign dX11_sign_35
theorem rX11_sign_36 : tA sc iX11_sign 36 [l0, l1, l2, vI x] st h Q = tA sc iX11_sign 37 [l0, l1, l2, vI x] (vI x :: st) h Q := tA_pure mB_X11_sign dX11_sign_36 rfl
theorem rX11_sign_37 : tA sc iX11_sign 37 ls (vI x :: st) h Q = (if 0 ≤ x then tA sc iX11_sign 45 ls st h Q else tA sc iX11_sign 40 ls st h Q) := tA_if mB_X11_sign dX11_sign_37 (fun _ _ _ _ => rfl) rfl
theorem rX11_sign_40 : tA sc iX11_sign 40 ls st h Q = tA sc iX11_sign 42 ls (vI (-9) :: st) h Q := tA_pure mB_X11_sign dX11_sign_40 rfl
theorem rX11_sign_42 : tA sc iX11_sign 42 ls st h Q = tA sc iX11_sign 46 ls st h Q := tA_jump mB_X11_sign dX11_sign_42 (fun _ _ _ _ => rfl) rfl
theorem rX11_sign_45 : tA sc iX11_sign 45 [l0, l1, l2, vI x] st h Q = tA sc iX11_sign 46 [l0, l1, l2, vI x] (vI x :: st) h Q := tA_pure mB_X11_sign dX11_sign_45 rfl
theorem rX11_sign_46 : tA sc iX11_sign 46 ls [vI x] h Q = Q (some (vI x)) h := tA_ret mB_X11_sign dX11_sign_46 (fun _ _ _ _ => rfl) (fun _ _ _ => rfl) (fun _ _ _ _ _ => rfl) rfl rfl
theorem mB_X11_weightOf : mB iX11_weightOf = cX11_weightOf := rfl
theorem mO_X11_weightOf : mO iX11_weightOf = 11 := rfl
theorem rX11_weightOf_0 : tA sc iX11_weightOf 0 [vR r, l1, l2] st h Q = tA sc iX11_weightOf 1 [vR r, l1, l2] (vR r :: st) h Q := tA_pure mB_X11_weightOf dX11_weightOf_0 rfl
theorem rX11_weightOf_1 : tA sc iX11_weightOf 1 ls (vR (some o) :: st) h Q = oz (tget h o [11] 3) (fun v => tA sc iX11_weightOf 4 ls (v :: st) h Q) := tA_get mB_X11_weightOf mO_X11_weightOf dX11_weightOf_1 fT_11_16
theorem rX11_weightOf_4 : tA sc iX11_weightOf 4 ls st h Q = tA sc iX11_weightOf 5 ls (vI (4) :: st) h Q := tA_pure mB_X11_weightOf dX11_weightOf_4 rfl
theorem rX11_weightOf_5 : tA sc iX11_weightOf 5 [l0, vI x, l2] st h Q = tA sc iX11_weightOf 6 [l0, vI x, l2] (vI x :: st) h Q := tA_pure mB_X11_weightOf dX11_weightOf_5 rfl
theorem rX11_weightOf_6 : tA sc iX11_weightOf 6 ls (vI y :: vI x :: st) h Q = tA sc iX11_weightOf 7 ls (vI (x * y) :: st) h Q := tA_pure mB_X11_weightOf dX11_weightOf_6 rfl
theorem rX11_weightOf_7 : tA sc iX11_weightOf 7 [l0, l1, vI x] st h Q = tA sc iX11_weightOf 8 [l0, l1, vI x] (vI x :: st) h Q := tA_pure mB_X11_weightOf dX11_weightOf_7 rfl
theorem rX11_weightOf_8 : tA sc iX11_weightOf 8 ls (vI y :: vI x :: st) h Q = tA sc iX11_weightOf 9 ls (vI (x + y) :: st) h Q := tA_pure mB_X11_weightOf dX11_weightOf_8 rfl
theorem rX11_weightOf_9 : tA sc iX11_weightOf 9 ls (vI j :: vR (some a) :: st) h Q = oz (tald sc h 0 a j) (fun v => tA sc iX11_weightOf 10 ls (vI v :: st) h Q) := tA_iald mB_X11_weightOf dX11_weightOf_9
theorem rX11_weightOf_10 : tA sc iX11_weightOf 10 [vR r, l1, l2] st h Q = tA sc iX11_weightOf 11 [vR r, l1, l2] (vR r :: st) h Q := tA_pure mB_X11_weightOf dX11_weightOf_10 rfl
theorem rX11_weightOf_11 : tA sc iX11_weightOf 11 ls st h Q = tA sc iX11_weightOf 12 ls (vI (3) :: st) h Q := tA_pure mB_X11_weightOf dX11_weightOf_11 rfl
theorem rX11_weightOf_12 : tA sc iX11_weightOf 12 [l0, vI x, l2] st h Q = tA sc iX11_weightOf 13 [l0, vI x, l2] (vI x :: st) h Q := tA_pure mB_X11_weightOf dX11_weightOf_12 rfl
theorem rX11_weightOf_13 : tA sc iX11_weightOf 13 ls (vI y :: vI x :: st) h Q = tA sc iX11_weightOf 14 ls (vI (x + y) :: st) h Q := tA_pure mB_X11_weightOf dX11_weightOf_13 rfl
theorem rX11_weightOf_14 (hci : tcl h o = some 11) : tA sc iX11_weightOf 14 ls [vI p0, vR (some o), s0] h Q = tA sc iX11_its 0 [vR (some o), vI p0] [] h (fun v h1 => tA sc iX11_weightOf 17 ls (tpu v [s0]) h1 Q) := tA_cV mB_X11_weightOf mO_X11_weightOf dX11_weightOf_14 cT_11_225 rfl (Nat.le_of_ble_eq_true rfl) rfl rfl rfl hci
theorem rX11_weightOf_17 : tA sc iX11_weightOf 17 [l0, l1, vI x] st h Q = tA sc iX11_weightOf 18 [l0, l1, vI x] (vI x :: st) h Q := tA_pure mB_X11_weightOf dX11_weightOf_17 rfl
theorem rX11_weightOf_18 : tA sc iX11_weightOf 18 ls (vI y :: vI x :: st) h Q = (if ¬ x = y then tA sc iX11_weightOf 30 ls st h Q else tA sc iX11_weightOf 21 ls st h Q) := tA_if mB_X11_weightOf dX11_weightOf_18 (fun _ _ _ _ => rfl) rfl
theorem rX11_weightOf_21 : tA sc iX11_weightOf 21 [vR r, l1, l2] st h Q = tA sc iX11_weightOf 22 [vR r, l1, l2] (vR r :: st) h Q := tA_pure mB_X11_weightOf dX11_weightOf_21 rfl
theorem rX11_weightOf_22 : tA sc iX11_weightOf 22 ls (vR (some o) :: st) h Q = oz (tget h o [11] 6) (fun v => tA sc iX11_weightOf 25 ls (v :: st) h Q) := tA_get mB_X11_weightOf mO_X11_weightOf dX11_weightOf_22 fT_11_22
theorem rX11_weightOf_25 : tA sc iX11_weightOf 25 ls st h Q = tA sc iX11_weightOf 26 ls (vI (3) :: st) h Q := tA_pure mB_X11_weightOf dX11_weightOf_25 rfl
theorem rX11_weightOf_26 : tA sc iX11_weightOf 26 ls (vI j :: vR (some a) :: st) h Q = oz (tald sc h 0 a j) (fun v => tA sc iX11_weightOf 27 ls (vI v :: st) h Q) := tA_iald mB_X11_weightOf dX11_weightOf_26
theorem rX11_weightOf_27 : tA sc iX11_weightOf 27 ls st h Q = tA sc iX11_weightOf 31 ls st h Q := tA_jump mB_X11_weightOf dX11_weightOf_27 (fun _ _ _ _ => rfl) rfl
theorem rX11_weightOf_30 : tA sc iX11_weightOf 30 ls st h Q = tA sc iX11_weightOf 31 ls (vI (0) :: st) h Q := tA_pure mB_X11_weightOf dX11_weightOf_30 rfl
theorem rX11_weightOf_31 : tA sc iX11_weightOf 31 ls (vI y :: vI x :: st) h Q = tA sc iX11_weightOf 32 ls (vI (x + y) :: st) h Q := tA_pure mB_X11_weightOf dX11_weightOf_31 rfl
theorem rX11_weightOf_32 : tA sc iX11_weightOf 32 ls [vI x] h Q = Q (some (vI x)) h := tA_ret mB_X11_weightOf dX11_weightOf_32 (fun _ _ _ _ => rfl) (fun _ _ _ => rfl) (fun _ _ _ _ _ => rfl) rfl rfl
theorem mB_X11_allOf : mB iX11_allOf = cX11_allOf := rfl
theorem mO_X11_allOf : mO iX11_allOf = 11 := rfl
theorem rX11_allOf_0 : tA sc iX11_allOf 0 [vR r, l1] st h Q = tA sc iX11_allOf 1 [vR r, l1] (vR r :: st) h Q := tA_pure mB_X11_allOf dX11_allOf_0 rfl
theorem rX11_allOf_1 : tA sc iX11_allOf 1 [l0, vI x] st h Q = tA sc iX11_allOf 2 [l0, vI x] (vI x :: st) h Q := tA_pure mB_X11_allOf dX11_allOf_1 rfl
theorem rX11_allOf_2 (hci : tcl h o = some 11) : tA sc iX11_allOf 2 ls [vI p0, vR (some o)] h Q = tA sc iX11_plainAll 0 [vR (some o), vI p0] [] h (fun v h1 => tA sc iX11_allOf 5 ls (tpu v []) h1 Q) := tA_cV mB_X11_allOf mO_X11_allOf dX11_allOf_2 cT_11_222 rfl (Nat.le_of_ble_eq_true rfl) rfl rfl rfl hci
theorem rX11_allOf_5 : tA sc iX11_allOf 5 [vR r, l1] st h Q = tA sc iX11_allOf 6 [vR r, l1] (vR r :: st) h Q := tA_pure mB_X11_allOf dX11_allOf_5 rfl
theorem rX11_allOf_6 : tA sc iX11_allOf 6 ls st h Q = tA sc iX11_allOf 7 ls (vI (3) :: st) h Q := tA_pure mB_X11_allOf dX11_allOf_6 rfl
theorem rX11_allOf_7 : tA sc iX11_allOf 7 [l0, vI x] st h Q = tA sc iX11_allOf 8 [l0, vI x] (vI x :: st) h Q := tA_pure mB_X11_allOf dX11_allOf_7 rfl
theorem rX11_allOf_8 : tA sc iX11_allOf 8 ls (vI y :: vI x :: st) h Q = tA sc iX11_allOf 9 ls (vI (x + y) :: st) h Q := tA_pure mB_X11_allOf dX11_allOf_8 rfl
theorem rX11_allOf_9 (hci : tcl h o = some 11) : tA sc iX11_allOf 9 ls [vI p0, vR (some o), s0] h Q = tA sc iX11_its 0 [vR (some o), vI p0] [] h (fun v h1 => tA sc iX11_allOf 12 ls (tpu v [s0]) h1 Q) := tA_cV mB_X11_allOf mO_X11_allOf dX11_allOf_9 cT_11_225 rfl (Nat.le_of_ble_eq_true rfl) rfl rfl rfl hci
theorem rX11_allOf_12 : tA sc iX11_allOf 12 ls (vI x :: st) h Q = (if x < 0 then tA sc iX11_allOf 24 ls st h Q else tA sc iX11_allOf 15 ls st h Q) := tA_if mB_X11_allOf dX11_allOf_12 (fun _ _ _ _ => rfl) rfl
theorem rX11_allOf_15 : tA sc iX11_allOf 15 [vR r, l1] st h Q = tA sc iX11_allOf 16 [vR r, l1] (vR r :: st) h Q := tA_pure mB_X11_allOf dX11_allOf_15 rfl
theorem rX11_allOf_16 : tA sc iX11_allOf 16 ls (vR (some o) :: st) h Q = oz (tget h o [11] 6) (fun v => tA sc iX11_allOf 19 ls (v :: st) h Q) := tA_get mB_X11_allOf mO_X11_allOf dX11_allOf_16 fT_11_22
theorem rX11_allOf_19 : tA sc iX11_allOf 19 ls st h Q = tA sc iX11_allOf 20 ls (vI (3) :: st) h Q := tA_pure mB_X11_allOf dX11_allOf_19 rfl
theorem rX11_allOf_20 : tA sc iX11_allOf 20 ls (vI j :: vR (some a) :: st) h Q = oz (tald sc h 0 a j) (fun v => tA sc iX11_allOf 21 ls (vI v :: st) h Q) := tA_iald mB_X11_allOf dX11_allOf_20
theorem rX11_allOf_21 : tA sc iX11_allOf 21 ls st h Q = tA sc iX11_allOf 25 ls st h Q := tA_jump mB_X11_allOf dX11_allOf_21 (fun _ _ _ _ => rfl) rfl
theorem rX11_allOf_24 : tA sc iX11_allOf 24 ls st h Q = tA sc iX11_allOf 25 ls (vI (0) :: st) h Q := tA_pure mB_X11_allOf dX11_allOf_24 rfl
theorem rX11_allOf_25 : tA sc iX11_allOf 25 ls (vI y :: vI x :: st) h Q = tA sc iX11_allOf 26 ls (vI (x + y) :: st) h Q := tA_pure mB_X11_allOf dX11_allOf_25 rfl
theorem rX11_allOf_26 : tA sc iX11_allOf 26 ls [vI x] h Q = Q (some (vI x)) h := tA_ret mB_X11_allOf dX11_allOf_26 (fun _ _ _ _ => rfl) (fun _ _ _ => rfl) (fun _ _ _ _ _ => rfl) rfl rfl
theorem mB_X11_earn : mB iX11_earn = cX11_earn := rfl
theorem mO_X11_earn : mO iX11_earn = 11 := rfl
theorem rX11_earn_0 : tA sc iX11_earn 0 [vR r, l1] st h Q = tA sc iX11_earn 1 [vR r, l1] (vR r :: st) h Q := tA_pure mB_X11_earn dX11_earn_0 rfl
theorem rX11_earn_1 : tA sc iX11_earn 1 ls (vR (some o) :: st) h Q = oz (tget h o [11] 2) (fun v => tA sc iX11_earn 4 ls (v :: st) h Q) := tA_get mB_X11_earn mO_X11_earn dX11_earn_1 fT_11_13
theorem rX11_earn_4 : tA sc iX11_earn 4 [l0, vI x] st h Q = tA sc iX11_earn 5 [l0, vI x] (vI x :: st) h Q := tA_pure mB_X11_earn dX11_earn_4 rfl
theorem rX11_earn_5 : tA sc iX11_earn 5 ls (vI j :: vR (some a) :: st) h Q = oz (tald sc h 0 a j) (fun v => tA sc iX11_earn 6 ls (vI v :: st) h Q) := tA_iald mB_X11_earn dX11_earn_5
theorem rX11_earn_6 : tA sc iX11_earn 6 [vR r, l1] st h Q = tA sc iX11_earn 7 [vR r, l1] (vR r :: st) h Q := tA_pure mB_X11_earn dX11_earn_6 rfl
theorem rX11_earn_7 : tA sc iX11_earn 7 ls (vR (some o) :: st) h Q = oz (tget h o [11] 6) (fun v => tA sc iX11_earn 10 ls (v :: st) h Q) := tA_get mB_X11_earn mO_X11_earn dX11_earn_7 fT_11_22
theorem rX11_earn_10 : tA sc iX11_earn 10 ls st h Q = tA sc iX11_earn 11 ls (vI (0) :: st) h Q := tA_pure mB_X11_earn dX11_earn_10 rfl
theorem rX11_earn_11 : tA sc iX11_earn 11 ls (vI j :: vR (some a) :: st) h Q = oz (tald sc h 0 a j) (fun v => tA sc iX11_earn 12 ls (vI v :: st) h Q) := tA_iald mB_X11_earn dX11_earn_11
theorem rX11_earn_12 : tA sc iX11_earn 12 ls (vI y :: vI x :: st) h Q = tA sc iX11_earn 13 ls (vI (x * y) :: st) h Q := tA_pure mB_X11_earn dX11_earn_12 rfl
theorem rX11_earn_13 : tA sc iX11_earn 13 ls st h Q = tA sc iX11_earn 15 ls (vI (100) :: st) h Q := tA_pure mB_X11_earn dX11_earn_13 rfl
theorem rX11_earn_15 : tA sc iX11_earn 15 ls (vI y :: vI x :: st) h Q = (¬ y = 0 ∧ tA sc iX11_earn 16 ls (vI (x / y) :: st) h Q) := tA_div mB_X11_earn dX11_earn_15 (fun _ _ _ => rfl) (fun _ _ _ _ _ => rfl) rfl (fun _ _ => rfl) rfl
theorem rX11_earn_16 : tA sc iX11_earn 16 ls [vI x] h Q = Q (some (vI x)) h := tA_ret mB_X11_earn dX11_earn_16 (fun _ _ _ _ => rfl) (fun _ _ _ => rfl) (fun _ _ _ _ _ => rfl) rfl rfl
theorem mB_X11_likeliest : mB iX11_likeliest = cX11_likeliest := rfl
theorem mO_X11_likeliest : mO iX11_likeliest = 11 := rfl
theorem rX11_likeliest_0 : tA sc iX11_likeliest 0 ls st h Q = tA sc iX11_likeliest 1 ls (vI (0) :: st) h Q := tA_pure mB_X11_likeliest dX11_likeliest_0 rfl
theorem rX11_likeliest_1 : tA sc iX11_likeliest 1 [l0, l1, l2, l3] (vI x :: st) h Q = tA sc iX11_likeliest 2 [l0, tclr l1, vI x, l3] st h Q := tA_pure mB_X11_likeliest dX11_likeliest_1 rfl
theorem rX11_likeliest_2 : tA sc iX11_likeliest 2 ls st h Q = tA sc iX11_likeliest 3 ls (vI (1) :: st) h Q := tA_pure mB_X11_likeliest dX11_likeliest_2 rfl
theorem rX11_likeliest_3 : tA sc iX11_likeliest 3 [l0, l1, l2, l3] (vI x :: st) h Q = tA sc iX11_likeliest 4 [l0, l1, tclr l2, vI x] st h Q := tA_pure mB_X11_likeliest dX11_likeliest_3 rfl
theorem rX11_likeliest_4 : tA sc iX11_likeliest 4 [l0, l1, l2, vI x] st h Q = tA sc iX11_likeliest 5 [l0, l1, l2, vI x] (vI x :: st) h Q := tA_pure mB_X11_likeliest dX11_likeliest_4 rfl
theorem rX11_likeliest_5 : tA sc iX11_likeliest 5 ls st h Q = tA sc iX11_likeliest 6 ls (vI (4) :: st) h Q := tA_pure mB_X11_likeliest dX11_likeliest_5 rfl
theorem rX11_likeliest_6 : tA sc iX11_likeliest 6 ls (vI y :: vI x :: st) h Q = (if y ≤ x then tA sc iX11_likeliest 36 ls st h Q else tA sc iX11_likeliest 9 ls st h Q) := tA_if mB_X11_likeliest dX11_likeliest_6 (fun _ _ _ _ => rfl) rfl
theorem rX11_likeliest_9 : tA sc iX11_likeliest 9 [vR r, l1, l2, l3] st h Q = tA sc iX11_likeliest 10 [vR r, l1, l2, l3] (vR r :: st) h Q := tA_pure mB_X11_likeliest dX11_likeliest_9 rfl
theorem rX11_likeliest_10 : tA sc iX11_likeliest 10 [l0, vI x, l2, l3] st h Q = tA sc iX11_likeliest 11 [l0, vI x, l2, l3] (vI x :: st) h Q := tA_pure mB_X11_likeliest dX11_likeliest_10 rfl
theorem rX11_likeliest_11 : tA sc iX11_likeliest 11 [l0, l1, l2, vI x] st h Q = tA sc iX11_likeliest 12 [l0, l1, l2, vI x] (vI x :: st) h Q := tA_pure mB_X11_likeliest dX11_likeliest_11 rfl
theorem rX11_likeliest_12 (hci : tcl h o = some 11) : tA sc iX11_likeliest 12 ls [vI p1, vI p0, vR (some o)] h Q = tA sc iX11_weightOf 0 [vR (some o), vI p0, vI p1] [] h (fun v h1 => tA sc iX11_likeliest 15 ls (tpu v []) h1 Q) := tA_cV mB_X11_likeliest mO_X11_likeliest dX11_likeliest_12 cT_11_228 rfl (Nat.le_of_ble_eq_true rfl) rfl rfl rfl hci
theorem rX11_likeliest_15 : tA sc iX11_likeliest 15 [vR r, l1, l2, l3] st h Q = tA sc iX11_likeliest 16 [vR r, l1, l2, l3] (vR r :: st) h Q := tA_pure mB_X11_likeliest dX11_likeliest_15 rfl
theorem rX11_likeliest_16 : tA sc iX11_likeliest 16 [l0, vI x, l2, l3] st h Q = tA sc iX11_likeliest 17 [l0, vI x, l2, l3] (vI x :: st) h Q := tA_pure mB_X11_likeliest dX11_likeliest_16 rfl
theorem rX11_likeliest_17 : tA sc iX11_likeliest 17 [l0, l1, vI x, l3] st h Q = tA sc iX11_likeliest 18 [l0, l1, vI x, l3] (vI x :: st) h Q := tA_pure mB_X11_likeliest dX11_likeliest_17 rfl
theorem rX11_likeliest_18 (hci : tcl h o = some 11) : tA sc iX11_likeliest 18 ls [vI p1, vI p0, vR (some o), s0] h Q = tA sc iX11_weightOf 0 [vR (some o), vI p0, vI p1] [] h (fun v h1 => tA sc iX11_likeliest 21 ls (tpu v [s0]) h1 Q) := tA_cV mB_X11_likeliest mO_X11_likeliest dX11_likeliest_18 cT_11_228 rfl (Nat.le_of_ble_eq_true rfl) rfl rfl rfl hci
theorem rX11_likeliest_21 : tA sc iX11_likeliest 21 ls (vI y :: vI x :: st) h Q = (if x ≤ y then tA sc iX11_likeliest 28 ls st h Q else tA sc iX11_likeliest 24 ls st h Q) := tA_if mB_X11_likeliest dX11_likeliest_21 (fun _ _ _ _ => rfl) rfl
theorem rX11_likeliest_24 : tA sc iX11_likeliest 24 [l0, l1, l2, vI x] st h Q = tA sc iX11_likeliest 25 [l0, l1, l2, vI x] (vI x :: st) h Q := tA_pure mB_X11_likeliest dX11_likeliest_24 rfl
theorem rX11_likeliest_25 : tA sc iX11_likeliest 25 ls st h Q = tA sc iX11_likeliest 29 ls st h Q := tA_jump mB_X11_likeliest dX11_likeliest_25 (fun _ _ _ _ => rfl) rfl
theorem rX11_likeliest_28 : tA sc iX11_likeliest 28 [l0, l1, vI x, l3] st h Q = tA sc iX11_likeliest 29 [l0, l1, vI x, l3] (vI x :: st) h Q := tA_pure mB_X11_likeliest dX11_likeliest_28 rfl
theorem rX11_likeliest_29 : tA sc iX11_likeliest 29 [l0, l1, l2, l3] (vI x :: st) h Q = tA sc iX11_likeliest 30 [l0, tclr l1, vI x, l3] st h Q := tA_pure mB_X11_likeliest dX11_likeliest_29 rfl
theorem rX11_likeliest_30 : tA sc iX11_likeliest 30 [l0, l1, l2, vI x] st h Q = tA sc iX11_likeliest 33 [l0, l1, tclr l2, vI (x + 1)] st h Q := tA_pure mB_X11_likeliest dX11_likeliest_30 rfl
theorem rX11_likeliest_33 : tA sc iX11_likeliest 33 ls st h Q = tA sc iX11_likeliest 4 ls st h Q := tA_jump mB_X11_likeliest dX11_likeliest_33 (fun _ _ _ _ => rfl) rfl
theorem rX11_likeliest_36 : tA sc iX11_likeliest 36 [l0, l1, vI x, l3] st h Q = tA sc iX11_likeliest 37 [l0, l1, vI x, l3] (vI x :: st) h Q := tA_pure mB_X11_likeliest dX11_likeliest_36 rfl
theorem rX11_likeliest_37 : tA sc iX11_likeliest 37 ls [vI x] h Q = Q (some (vI x)) h := tA_ret mB_X11_likeliest dX11_likeliest_37 (fun _ _ _ _ => rfl) (fun _ _ _ => rfl) (fun _ _ _ _ _ => rfl) rfl rfl
theorem mB_X11_saidOf : mB iX11_saidOf = cX11_saidOf := rfl
theorem mO_X11_saidOf : mO iX11_saidOf = 11 := rfl
theorem rX11_saidOf_0 : tA sc iX11_saidOf 0 ls st h Q = tA sc iX11_saidOf 1 ls (vI (0) :: st) h Q := tA_pure mB_X11_saidOf dX11_saidOf_0 rfl
theorem rX11_saidOf_1 : tA sc iX11_saidOf 1 [l0, l1, l2, l3] (vI x :: st) h Q = tA sc iX11_saidOf 2 [l0, tclr l1, vI x, l3] st h Q := tA_pure mB_X11_saidOf dX11_saidOf_1 rfl
theorem rX11_saidOf_2 : tA sc iX11_saidOf 2 ls st h Q = tA sc iX11_saidOf 3 ls (vI (0) :: st) h Q := tA_pure mB_X11_saidOf dX11_saidOf_2 rfl
theorem rX11_saidOf_3 : tA sc iX11_saidOf 3 [l0, l1, l2, l3] (vI x :: st) h Q = tA sc iX11_saidOf 4 [l0, l1, tclr l2, vI x] st h Q := tA_pure mB_X11_saidOf dX11_saidOf_3 rfl
theorem rX11_saidOf_4 : tA sc iX11_saidOf 4 [l0, l1, l2, vI x] st h Q = tA sc iX11_saidOf 5 [l0, l1, l2, vI x] (vI x :: st) h Q := tA_pure mB_X11_saidOf dX11_saidOf_4 rfl
theorem rX11_saidOf_5 : tA sc iX11_saidOf 5 [vR r, l1, l2, l3] st h Q = tA sc iX11_saidOf 6 [vR r, l1, l2, l3] (vR r :: st) h Q := tA_pure mB_X11_saidOf dX11_saidOf_5 rfl
theorem rX11_saidOf_6 : tA sc iX11_saidOf 6 ls st h Q = tA sc iX11_saidOf 7 ls (vI (2) :: st) h Q := tA_pure mB_X11_saidOf dX11_saidOf_6 rfl
theorem rX11_saidOf_7 (hci : tcl h o = some 11) : tA sc iX11_saidOf 7 ls [vI p0, vR (some o), s0] h Q = tA sc iX11_its 0 [vR (some o), vI p0] [] h (fun v h1 => tA sc iX11_saidOf 10 ls (tpu v [s0]) h1 Q) := tA_cV mB_X11_saidOf mO_X11_saidOf dX11_saidOf_7 cT_11_225 rfl (Nat.le_of_ble_eq_true rfl) rfl rfl rfl hci
theorem rX11_saidOf_10 : tA sc iX11_saidOf 10 ls (vI y :: vI x :: st) h Q = (if y ≤ x then tA sc iX11_saidOf 44 ls st h Q else tA sc iX11_saidOf 13 ls st h Q) := tA_if mB_X11_saidOf dX11_saidOf_10 (fun _ _ _ _ => rfl) rfl
theorem rX11_saidOf_13 : tA sc iX11_saidOf 13 [l0, l1, vI x, l3] st h Q = tA sc iX11_saidOf 14 [l0, l1, vI x, l3] (vI x :: st) h Q := tA_pure mB_X11_saidOf dX11_saidOf_13 rfl
theorem rX11_saidOf_14 : tA sc iX11_saidOf 14 [vR r, l1, l2, l3] st h Q = tA sc iX11_saidOf 15 [vR r, l1, l2, l3] (vR r :: st) h Q := tA_pure mB_X11_saidOf dX11_saidOf_14 rfl
theorem rX11_saidOf_15 : tA sc iX11_saidOf 15 [l0, l1, l2, vI x] st h Q = tA sc iX11_saidOf 16 [l0, l1, l2, vI x] (vI x :: st) h Q := tA_pure mB_X11_saidOf dX11_saidOf_15 rfl
theorem rX11_saidOf_16 : tA sc iX11_saidOf 16 ls st h Q = tA sc iX11_saidOf 17 ls (vI (1) :: st) h Q := tA_pure mB_X11_saidOf dX11_saidOf_16 rfl
theorem rX11_saidOf_17 (hci : tcl h o = some 11) : tA sc iX11_saidOf 17 ls [vI p1, vI p0, vR (some o), s0] h Q = tA sc iX11_saying 0 [vR (some o), vI p0, vI p1] [] h (fun v h1 => tA sc iX11_saidOf 20 ls (tpu v [s0]) h1 Q) := tA_cV mB_X11_saidOf mO_X11_saidOf dX11_saidOf_17 cT_11_232 rfl (Nat.le_of_ble_eq_true rfl) rfl rfl rfl hci
theorem rX11_saidOf_20 : tA sc iX11_saidOf 20 [l0, vI x, l2, l3] st h Q = tA sc iX11_saidOf 21 [l0, vI x, l2, l3] (vI x :: st) h Q := tA_pure mB_X11_saidOf dX11_saidOf_20 rfl
theorem rX11_saidOf_21 : tA sc iX11_saidOf 21 ls (vI y :: vI x :: st) h Q = (if ¬ x = y then tA sc iX11_saidOf 35 ls st h Q else tA sc iX11_saidOf 24 ls st h Q) := tA_if mB_X11_saidOf dX11_saidOf_21 (fun _ _ _ _ => rfl) rfl
theorem rX11_saidOf_24 : tA sc iX11_saidOf 24 ls st h Q = tA sc iX11_saidOf 25 ls (vI (1) :: st) h Q := tA_pure mB_X11_saidOf dX11_saidOf_24 rfl
theorem rX11_saidOf_25 : tA sc iX11_saidOf 25 [vR r, l1, l2, l3] st h Q = tA sc iX11_saidOf 26 [vR r, l1, l2, l3] (vR r :: st) h Q := tA_pure mB_X11_saidOf dX11_saidOf_25 rfl
theorem rX11_saidOf_26 : tA sc iX11_saidOf 26 [l0, l1, l2, vI x] st h Q = tA sc iX11_saidOf 27 [l0, l1, l2, vI x] (vI x :: st) h Q := tA_pure mB_X11_saidOf dX11_saidOf_26 rfl
theorem rX11_saidOf_27 : tA sc iX11_saidOf 27 ls st h Q = tA sc iX11_saidOf 28 ls (vI (2) :: st) h Q := tA_pure mB_X11_saidOf dX11_saidOf_27 rfl
theorem rX11_saidOf_28 (hci : tcl h o = some 11) : tA sc iX11_saidOf 28 ls [vI p1, vI p0, vR (some o), s0, s1] h Q = tA sc iX11_saying 0 [vR (some o), vI p0, vI p1] [] h (fun v h1 => tA sc iX11_saidOf 31 ls (tpu v [s0, s1]) h1 Q) := tA_cV mB_X11_saidOf mO_X11_saidOf dX11_saidOf_28 cT_11_232 rfl (Nat.le_of_ble_eq_true rfl) rfl rfl rfl hci
theorem rX11_saidOf_31 : tA sc iX11_saidOf 31 ls (vI y :: vI x :: st) h Q = tA sc iX11_saidOf 32 ls (vI (x <<< (y &&& 31)) :: st) h Q := tA_pure mB_X11_saidOf dX11_saidOf_31 rfl
theorem rX11_saidOf_32 : tA sc iX11_saidOf 32 ls st h Q = tA sc iX11_saidOf 36 ls st h Q := tA_jump mB_X11_saidOf dX11_saidOf_32 (fun _ _ _ _ => rfl) rfl
theorem rX11_saidOf_35 : tA sc iX11_saidOf 35 ls st h Q = tA sc iX11_saidOf 36 ls (vI (0) :: st) h Q := tA_pure mB_X11_saidOf dX11_saidOf_35 rfl
theorem rX11_saidOf_36 : tA sc iX11_saidOf 36 ls (vI y :: vI x :: st) h Q = tA sc iX11_saidOf 37 ls (vI (x ||| y) :: st) h Q := tA_pure mB_X11_saidOf dX11_saidOf_36 rfl
theorem rX11_saidOf_37 : tA sc iX11_saidOf 37 [l0, l1, l2, l3] (vI x :: st) h Q = tA sc iX11_saidOf 38 [l0, tclr l1, vI x, l3] st h Q := tA_pure mB_X11_saidOf dX11_saidOf_37 rfl
theorem rX11_saidOf_38 : tA sc iX11_saidOf 38 [l0, l1, l2, vI x] st h Q = tA sc iX11_saidOf 41 [l0, l1, tclr l2, vI (x + 1)] st h Q := tA_pure mB_X11_saidOf dX11_saidOf_38 rfl
theorem rX11_saidOf_41 : tA sc iX11_saidOf 41 ls st h Q = tA sc iX11_saidOf 4 ls st h Q := tA_jump mB_X11_saidOf dX11_saidOf_41 (fun _ _ _ _ => rfl) rfl
theorem rX11_saidOf_44 : tA sc iX11_saidOf 44 [l0, l1, vI x, l3] st h Q = tA sc iX11_saidOf 45 [l0, l1, vI x, l3] (vI x :: st) h Q := tA_pure mB_X11_saidOf dX11_saidOf_44 rfl
theorem rX11_saidOf_45 : tA sc iX11_saidOf 45 ls [vI x] h Q = Q (some (vI x)) h := tA_ret mB_X11_saidOf dX11_saidOf_45 (fun _ _ _ _ => rfl) (fun _ _ _ => rfl) (fun _ _ _ _ _ => rfl) rfl rfl
theorem mB_X11_orNot : mB iX11_orNot = cX11_orNot := rfl
theorem mO_X11_orNot : mO iX11_orNot = 11 := rfl
theorem rX11_orNot_0 : tA sc iX11_orNot 0 [vI x] st h Q = tA sc iX11_orNot 1 [vI x] (vI x :: st) h Q := tA_pure mB_X11_orNot dX11_orNot_0 rfl
theorem rX11_orNot_1 : tA sc iX11_orNot 1 ls (vI x :: st) h Q = (if 0 ≤ x then tA sc iX11_orNot 9 ls st h Q else tA sc iX11_orNot 4 ls st h Q) := tA_if mB_X11_orNot dX11_orNot_1 (fun _ _ _ _ => rfl) rfl
theorem rX11_orNot_4 : tA sc iX11_orNot 4 ls st h Q = tA sc iX11_orNot 6 ls (vI (-9) :: st) h Q := tA_pure mB_X11_orNot dX11_orNot_4 rfl
theorem rX11_orNot_6 : tA sc iX11_orNot 6 ls st h Q = tA sc iX11_orNot 10 ls st h Q := tA_jump mB_X11_orNot dX11_orNot_6 (fun _ _ _ _ => rfl) rfl
theorem rX11_orNot_9 : tA sc iX11_orNot 9 [vI x] st h Q = tA sc iX11_orNot 10 [vI x] (vI x :: st) h Q := tA_pure mB_X11_orNot dX11_orNot_9 rfl
theorem rX11_orNot_10 : tA sc iX11_orNot 10 ls [vI x] h Q = Q (some (vI x)) h := tA_ret mB_X11_orNot dX11_orNot_10 (fun _ _ _ _ => rfl) (fun _ _ _ => rfl) (fun _ _ _ _ _ => rfl) rfl rfl
theorem mB_X11_dayOf : mB iX11_dayOf = cX11_dayOf := rfl
theorem mO_X11_dayOf : mO iX11_dayOf = 11 := rfl
theorem rX11_dayOf_0 : tA sc iX11_dayOf 0 [l0, vI x, l2] st h Q = tA sc iX11_dayOf 1 [l0, vI x, l2] (vI x :: st) h Q := tA_pure mB_X11_dayOf dX11_dayOf_0 rfl
theorem rX11_dayOf_1 : tA sc iX11_dayOf 1 ls [vI p0] h Q = tA sc iX11_isDay 0 [vI p0] [] h (fun v h1 => tA sc iX11_dayOf 4 ls (tpu v []) h1 Q) := tA_cS mB_X11_dayOf mO_X11_dayOf dX11_dayOf_1 cT_11_216 ⟨Nat.le_of_ble_eq_true rfl, Nat.le_of_ble_eq_true rfl⟩ rfl rfl rfl rfl
theorem rX11_dayOf_4 : tA sc iX11_dayOf 4 ls (vI x :: st) h Q = (if x = 0 then tA sc iX11_dayOf 17 ls st h Q else tA sc iX11_dayOf 7 ls st h Q) := tA_if mB_X11_dayOf dX11_dayOf_4 (fun _ _ _ _ => rfl) rfl
theorem rX11_dayOf_7 : tA sc iX11_dayOf 7 [l0, l1, vI x] st h Q = tA sc iX11_dayOf 8 [l0, l1, vI x] (vI x :: st) h Q := tA_pure mB_X11_dayOf dX11_dayOf_7 rfl
theorem rX11_dayOf_8 : tA sc iX11_dayOf 8 ls st h Q = tA sc iX11_dayOf 9 ls (vI (0) :: st) h Q := tA_pure mB_X11_dayOf dX11_dayOf_8 rfl
theorem rX11_dayOf_9 : tA sc iX11_dayOf 9 ls st h Q = tA sc iX11_dayOf 11 ls (vI (9) :: st) h Q := tA_pure mB_X11_dayOf dX11_dayOf_9 rfl
theorem rX11_dayOf_11 : tA sc iX11_dayOf 11 ls [vI p2, vI p1, vI p0] h Q = tA sc iX11_in 0 [vI p0, vI p1, vI p2] [] h (fun v h1 => tA sc iX11_dayOf 14 ls (tpu v []) h1 Q) := tA_cS mB_X11_dayOf mO_X11_dayOf dX11_dayOf_11 cT_11_83 ⟨Nat.le_of_ble_eq_true rfl, Nat.le_of_ble_eq_true rfl⟩ rfl rfl rfl rfl
theorem rX11_dayOf_14 : tA sc iX11_dayOf 14 ls (vI x :: st) h Q = (if ¬ x = 0 then tA sc iX11_dayOf 19 ls st h Q else tA sc iX11_dayOf 17 ls st h Q) := tA_if mB_X11_dayOf dX11_dayOf_14 (fun _ _ _ _ => rfl) rfl
theorem rX11_dayOf_17 : tA sc iX11_dayOf 17 ls st h Q = tA sc iX11_dayOf 18 ls (vI (-1) :: st) h Q := tA_pure mB_X11_dayOf dX11_dayOf_17 rfl
theorem rX11_dayOf_18 : tA sc iX11_dayOf 18 ls [vI x] h Q = Q (some (vI x)) h := tA_ret mB_X11_dayOf dX11_dayOf_18 (fun _ _ _ _ => rfl) (fun _ _ _ => rfl) (fun _ _ _ _ _ => rfl) rfl rfl
theorem rX11_dayOf_19 : tA sc iX11_dayOf 19 [l0, l1, vI x] st h Q = tA sc iX11_dayOf 20 [l0, l1, vI x] (vI x :: st) h Q := tA_pure mB_X11_dayOf dX11_dayOf_19 rfl
theorem rX11_dayOf_20 : tA sc iX11_dayOf 20 ls (vI x :: st) h Q = tA sc iX11_dayOf (tswp x 0 [60, 67, 79, 92, 98, 104] 110) ls st h Q := tA_sw mB_X11_dayOf dX11_dayOf_20 rfl rfl rfl
theorem rX11_dayOf_60 : tA sc iX11_dayOf 60 [vR r, l1, l2] st h Q = tA sc iX11_dayOf 61 [vR r, l1, l2] (vR r :: st) h Q := tA_pure mB_X11_dayOf dX11_dayOf_60 rfl
theorem rX11_dayOf_61 : tA sc iX11_dayOf 61 ls (vR (some o) :: st) h Q = oz (tget h o [11] 2) (fun v => tA sc iX11_dayOf 64 ls (v :: st) h Q) := tA_get mB_X11_dayOf mO_X11_dayOf dX11_dayOf_61 fT_11_13
theorem rX11_dayOf_64 : tA sc iX11_dayOf 64 [l0, vI x, l2] st h Q = tA sc iX11_dayOf 65 [l0, vI x, l2] (vI x :: st) h Q := tA_pure mB_X11_dayOf dX11_dayOf_64 rfl
theorem rX11_dayOf_65 : tA sc iX11_dayOf 65 ls (vI j :: vR (some a) :: st) h Q = oz (tald sc h 0 a j) (fun v => tA sc iX11_dayOf 66 ls (vI v :: st) h Q) := tA_iald mB_X11_dayOf dX11_dayOf_65
theorem rX11_dayOf_66 : tA sc iX11_dayOf 66 ls [vI x] h Q = Q (some (vI x)) h := tA_ret mB_X11_dayOf dX11_dayOf_66 (fun _ _ _ _ => rfl) (fun _ _ _ => rfl) (fun _ _ _ _ _ => rfl) rfl rfl
theorem rX11_dayOf_67 : tA sc iX11_dayOf 67 [vR r, l1, l2] st h Q = tA sc iX11_dayOf 68 [vR r, l1, l2] (vR r :: st) h Q := tA_pure mB_X11_dayOf dX11_dayOf_67 rfl
theorem rX11_dayOf_68 : tA sc iX11_dayOf 68 ls (vR (some o) :: st) h Q = oz (tget h o [11] 0) (fun v => tA sc iX11_dayOf 71 ls (v :: st) h Q) := tA_get mB_X11_dayOf mO_X11_dayOf dX11_dayOf_68 fT_11_7
theorem rX11_dayOf_71 : tA sc iX11_dayOf 71 ls st h Q = tA sc iX11_dayOf 72 ls (vI (3) :: st) h Q := tA_pure mB_X11_dayOf dX11_dayOf_71 rfl
theorem rX11_dayOf_72 : tA sc iX11_dayOf 72 [l0, vI x, l2] st h Q = tA sc iX11_dayOf 73 [l0, vI x, l2] (vI x :: st) h Q := tA_pure mB_X11_dayOf dX11_dayOf_72 rfl
theorem rX11_dayOf_73 : tA sc iX11_dayOf 73 ls (vI y :: vI x :: st) h Q = tA sc iX11_dayOf 74 ls (vI (x + y) :: st) h Q := tA_pure mB_X11_dayOf dX11_dayOf_73 rfl
theorem rX11_dayOf_74 : tA sc iX11_dayOf 74 ls (vI j :: vR (some a) :: st) h Q = oz (tald sc h 0 a j) (fun v => tA sc iX11_dayOf 75 ls (vI v :: st) h Q) := tA_iald mB_X11_dayOf dX11_dayOf_74
theorem rX11_dayOf_75 : tA sc iX11_dayOf 75 ls [vI p0] h Q = tA sc iX11_orNot 0 [vI p0] [] h (fun v h1 => tA sc iX11_dayOf 78 ls (tpu v []) h1 Q) := tA_cS mB_X11_dayOf mO_X11_dayOf dX11_dayOf_75 cT_11_235 ⟨Nat.le_of_ble_eq_true rfl, Nat.le_of_ble_eq_true rfl⟩ rfl rfl rfl rfl
theorem rX11_dayOf_78 : tA sc iX11_dayOf 78 ls [vI x] h Q = Q (some (vI x)) h := tA_ret mB_X11_dayOf dX11_dayOf_78 (fun _ _ _ _ => rfl) (fun _ _ _ => rfl) (fun _ _ _ _ _ => rfl) rfl rfl
theorem rX11_dayOf_79 : tA sc iX11_dayOf 79 [vR r, l1, l2] st h Q = tA sc iX11_dayOf 80 [vR r, l1, l2] (vR r :: st) h Q := tA_pure mB_X11_dayOf dX11_dayOf_79 rfl
theorem rX11_dayOf_80 : tA sc iX11_dayOf 80 ls (vR (some o) :: st) h Q = oz (tget h o [11] 0) (fun v => tA sc iX11_dayOf 83 ls (v :: st) h Q) := tA_get mB_X11_dayOf mO_X11_dayOf dX11_dayOf_80 fT_11_7
theorem rX11_dayOf_83 : tA sc iX11_dayOf 83 ls st h Q = tA sc iX11_dayOf 85 ls (vI (23) :: st) h Q := tA_pure mB_X11_dayOf dX11_dayOf_83 rfl
theorem rX11_dayOf_85 : tA sc iX11_dayOf 85 [l0, vI x, l2] st h Q = tA sc iX11_dayOf 86 [l0, vI x, l2] (vI x :: st) h Q := tA_pure mB_X11_dayOf dX11_dayOf_85 rfl
theorem rX11_dayOf_86 : tA sc iX11_dayOf 86 ls (vI y :: vI x :: st) h Q = tA sc iX11_dayOf 87 ls (vI (x + y) :: st) h Q := tA_pure mB_X11_dayOf dX11_dayOf_86 rfl
theorem rX11_dayOf_87 : tA sc iX11_dayOf 87 ls (vI j :: vR (some a) :: st) h Q = oz (tald sc h 0 a j) (fun v => tA sc iX11_dayOf 88 ls (vI v :: st) h Q) := tA_iald mB_X11_dayOf dX11_dayOf_87
theorem rX11_dayOf_88 : tA sc iX11_dayOf 88 ls [vI p0] h Q = tA sc iX11_orNot 0 [vI p0] [] h (fun v h1 => tA sc iX11_dayOf 91 ls (tpu v []) h1 Q) := tA_cS mB_X11_dayOf mO_X11_dayOf dX11_dayOf_88 cT_11_235 ⟨Nat.le_of_ble_eq_true rfl, Nat.le_of_ble_eq_true rfl⟩ rfl rfl rfl rfl
theorem rX11_dayOf_91 : tA sc iX11_dayOf 91 ls [vI x] h Q = Q (some (vI x)) h := tA_ret mB_X11_dayOf dX11_dayOf_91 (fun _ _ _ _ => rfl) (fun _ _ _ => rfl) (fun _ _ _ _ _ => rfl) rfl rfl
theorem rX11_dayOf_92 : tA sc iX11_dayOf 92 [vR r, l1, l2] st h Q = tA sc iX11_dayOf 93 [vR r, l1, l2] (vR r :: st) h Q := tA_pure mB_X11_dayOf dX11_dayOf_92 rfl
theorem rX11_dayOf_93 : tA sc iX11_dayOf 93 [l0, vI x, l2] st h Q = tA sc iX11_dayOf 94 [l0, vI x, l2] (vI x :: st) h Q := tA_pure mB_X11_dayOf dX11_dayOf_93 rfl
theorem rX11_dayOf_94 (hci : tcl h o = some 11) : tA sc iX11_dayOf 94 ls [vI p0, vR (some o)] h Q = tA sc iX11_earn 0 [vR (some o), vI p0] [] h (fun v h1 => tA sc iX11_dayOf 97 ls (tpu v []) h1 Q) := tA_cV mB_X11_dayOf mO_X11_dayOf dX11_dayOf_94 cT_11_238 rfl (Nat.le_of_ble_eq_true rfl) rfl rfl rfl hci
theorem rX11_dayOf_97 : tA sc iX11_dayOf 97 ls [vI x] h Q = Q (some (vI x)) h := tA_ret mB_X11_dayOf dX11_dayOf_97 (fun _ _ _ _ => rfl) (fun _ _ _ => rfl) (fun _ _ _ _ _ => rfl) rfl rfl
theorem rX11_dayOf_98 : tA sc iX11_dayOf 98 [vR r, l1, l2] st h Q = tA sc iX11_dayOf 99 [vR r, l1, l2] (vR r :: st) h Q := tA_pure mB_X11_dayOf dX11_dayOf_98 rfl
theorem rX11_dayOf_99 : tA sc iX11_dayOf 99 [l0, vI x, l2] st h Q = tA sc iX11_dayOf 100 [l0, vI x, l2] (vI x :: st) h Q := tA_pure mB_X11_dayOf dX11_dayOf_99 rfl
theorem rX11_dayOf_100 (hci : tcl h o = some 11) : tA sc iX11_dayOf 100 ls [vI p0, vR (some o)] h Q = tA sc iX11_likeliest 0 [vR (some o), vI p0, vU, vU] [] h (fun v h1 => tA sc iX11_dayOf 103 ls (tpu v []) h1 Q) := tA_cV mB_X11_dayOf mO_X11_dayOf dX11_dayOf_100 cT_11_241 rfl (Nat.le_of_ble_eq_true rfl) rfl rfl rfl hci
theorem rX11_dayOf_103 : tA sc iX11_dayOf 103 ls [vI x] h Q = Q (some (vI x)) h := tA_ret mB_X11_dayOf dX11_dayOf_103 (fun _ _ _ _ => rfl) (fun _ _ _ => rfl) (fun _ _ _ _ _ => rfl) rfl rfl
theorem rX11_dayOf_104 : tA sc iX11_dayOf 104 [vR r, l1, l2] st h Q = tA sc iX11_dayOf 105 [vR r, l1, l2] (vR r :: st) h Q := tA_pure mB_X11_dayOf dX11_dayOf_104 rfl
theorem rX11_dayOf_105 : tA sc iX11_dayOf 105 [l0, vI x, l2] st h Q = tA sc iX11_dayOf 106 [l0, vI x, l2] (vI x :: st) h Q := tA_pure mB_X11_dayOf dX11_dayOf_105 rfl
theorem rX11_dayOf_106 (hci : tcl h o = some 11) : tA sc iX11_dayOf 106 ls [vI p0, vR (some o)] h Q = tA sc iX11_saidOf 0 [vR (some o), vI p0, vU, vU] [] h (fun v h1 => tA sc iX11_dayOf 109 ls (tpu v []) h1 Q) := tA_cV mB_X11_dayOf mO_X11_dayOf dX11_dayOf_106 cT_11_244 rfl (Nat.le_of_ble_eq_true rfl) rfl rfl rfl hci
theorem rX11_dayOf_109 : tA sc iX11_dayOf 109 ls [vI x] h Q = Q (some (vI x)) h := tA_ret mB_X11_dayOf dX11_dayOf_109 (fun _ _ _ _ => rfl) (fun _ _ _ => rfl) (fun _ _ _ _ _ => rfl) rfl rfl
theorem rX11_dayOf_110 : tA sc iX11_dayOf 110 [vR r, l1, l2] st h Q = tA sc iX11_dayOf 111 [vR r, l1, l2] (vR r :: st) h Q := tA_pure mB_X11_dayOf dX11_dayOf_110 rfl
theorem rX11_dayOf_111 : tA sc iX11_dayOf 111 [l0, vI x, l2] st h Q = tA sc iX11_dayOf 112 [l0, vI x, l2] (vI x :: st) h Q := tA_pure mB_X11_dayOf dX11_dayOf_111 rfl
theorem rX11_dayOf_112 : tA sc iX11_dayOf 112 [l0, l1, vI x] st h Q = tA sc iX11_dayOf 113 [l0, l1, vI x] (vI x :: st) h Q := tA_pure mB_X11_dayOf dX11_dayOf_112 rfl
theorem rX11_dayOf_113 : tA sc iX11_dayOf 113 ls st h Q = tA sc iX11_dayOf 115 ls (vI (6) :: st) h Q := tA_pure mB_X11_dayOf dX11_dayOf_113 rfl
theorem rX11_dayOf_115 : tA sc iX11_dayOf 115 ls (vI y :: vI x :: st) h Q = tA sc iX11_dayOf 116 ls (vI (x - y) :: st) h Q := tA_pure mB_X11_dayOf dX11_dayOf_115 rfl
theorem rX11_dayOf_116 (hci : tcl h o = some 11) : tA sc iX11_dayOf 116 ls [vI p1, vI p0, vR (some o)] h Q = tA sc iX11_weightOf 0 [vR (some o), vI p0, vI p1] [] h (fun v h1 => tA sc iX11_dayOf 119 ls (tpu v []) h1 Q) := tA_cV mB_X11_dayOf mO_X11_dayOf dX11_dayOf_116 cT_11_228 rfl (Nat.le_of_ble_eq_true rfl) rfl rfl rfl hci
theorem rX11_dayOf_119 : tA sc iX11_dayOf 119 ls [vI x] h Q = Q (some (vI x)) h := tA_ret mB_X11_dayOf dX11_dayOf_119 (fun _ _ _ _ => rfl) (fun _ _ _ => rfl) (fun _ _ _ _ _ => rfl) rfl rfl
theorem mB_X11_set : mB iX11_set = cX11_set := rfl
theorem mO_X11_set : mO iX11_set = 11 := rfl
theorem rX11_set_0 : tA sc iX11_set 0 [l0, vI x, l2, l3, l4] st h Q = tA sc iX11_set 1 [l0, vI x, l2, l3, l4] (vI x :: st) h Q := tA_pure mB_X11_set dX11_set_0 rfl
theorem rX11_set_1 : tA sc iX11_set 1 ls st h Q = tA sc iX11_set 2 ls (vI (0) :: st) h Q := tA_pure mB_X11_set dX11_set_1 rfl
theorem rX11_set_2 : tA sc iX11_set 2 ls st h Q = tA sc iX11_set 3 ls (vI (3) :: st) h Q := tA_pure mB_X11_set dX11_set_2 rfl
theorem rX11_set_3 : tA sc iX11_set 3 ls [vI p2, vI p1, vI p0] h Q = tA sc iX11_in 0 [vI p0, vI p1, vI p2] [] h (fun v h1 => tA sc iX11_set 6 ls (tpu v []) h1 Q) := tA_cS mB_X11_set mO_X11_set dX11_set_3 cT_11_83 ⟨Nat.le_of_ble_eq_true rfl, Nat.le_of_ble_eq_true rfl⟩ rfl rfl rfl rfl
theorem rX11_set_6 : tA sc iX11_set 6 ls (vI x :: st) h Q = (if x = 0 then tA sc iX11_set 13 ls st h Q else tA sc iX11_set 9 ls st h Q) := tA_if mB_X11_set dX11_set_6 (fun _ _ _ _ => rfl) rfl
theorem rX11_set_9 : tA sc iX11_set 9 [l0, vI x, l2, l3, l4] st h Q = tA sc iX11_set 10 [l0, vI x, l2, l3, l4] (vI x :: st) h Q := tA_pure mB_X11_set dX11_set_9 rfl
theorem rX11_set_10 : tA sc iX11_set 10 ls st h Q = tA sc iX11_set 14 ls st h Q := tA_jump mB_X11_set dX11_set_10 (fun _ _ _ _ => rfl) rfl
theorem rX11_set_13 : tA sc iX11_set 13 ls st h Q = tA sc iX11_set 14 ls (vI (0) :: st) h Q := tA_pure mB_X11_set dX11_set_13 rfl
theorem rX11_set_14 : tA sc iX11_set 14 [l0, l1, l2, l3, l4] (vI x :: st) h Q = tA sc iX11_set 15 [l0, l1, tclr l2, vI x, l4] st h Q := tA_pure mB_X11_set dX11_set_14 rfl
theorem rX11_set_15 : tA sc iX11_set 15 [l0, l1, l2, vI x, l4] st h Q = tA sc iX11_set 16 [l0, l1, l2, vI x, l4] (vI x :: st) h Q := tA_pure mB_X11_set dX11_set_15 rfl
theorem rX11_set_16 : tA sc iX11_set 16 [l0, vI x, l2, l3, l4] st h Q = tA sc iX11_set 17 [l0, vI x, l2, l3, l4] (vI x :: st) h Q := tA_pure mB_X11_set dX11_set_16 rfl
theorem rX11_set_17 : tA sc iX11_set 17 ls (vI y :: vI x :: st) h Q = (if ¬ x = y then tA sc iX11_set 34 ls st h Q else tA sc iX11_set 20 ls st h Q) := tA_if mB_X11_set dX11_set_17 (fun _ _ _ _ => rfl) rfl
theorem rX11_set_20 : tA sc iX11_set 20 [l0, l1, vI x, l3, l4] st h Q = tA sc iX11_set 21 [l0, l1, vI x, l3, l4] (vI x :: st) h Q := tA_pure mB_X11_set dX11_set_20 rfl
theorem rX11_set_21 : tA sc iX11_set 21 ls st h Q = tA sc iX11_set 22 ls (vI (0) :: st) h Q := tA_pure mB_X11_set dX11_set_21 rfl
theorem rX11_set_22 : tA sc iX11_set 22 [vR r, l1, l2, l3, l4] st h Q = tA sc iX11_set 23 [vR r, l1, l2, l3, l4] (vR r :: st) h Q := tA_pure mB_X11_set dX11_set_22 rfl
theorem rX11_set_23 : tA sc iX11_set 23 ls (vR (some o) :: st) h Q = oz (tget h o [11] 7) (fun v => tA sc iX11_set 26 ls (v :: st) h Q) := tA_get mB_X11_set mO_X11_set dX11_set_23 fT_11_25
theorem rX11_set_26 : tA sc iX11_set 26 [l0, l1, l2, vI x, l4] st h Q = tA sc iX11_set 27 [l0, l1, l2, vI x, l4] (vI x :: st) h Q := tA_pure mB_X11_set dX11_set_26 rfl
theorem rX11_set_27 : tA sc iX11_set 27 ls (vI j :: vR (some a) :: st) h Q = oz (tald sc h 0 a j) (fun v => tA sc iX11_set 28 ls (vI v :: st) h Q) := tA_iald mB_X11_set dX11_set_27
theorem rX11_set_28 : tA sc iX11_set 28 ls [vI p2, vI p1, vI p0] h Q = tA sc iX11_in 0 [vI p0, vI p1, vI p2] [] h (fun v h1 => tA sc iX11_set 31 ls (tpu v []) h1 Q) := tA_cS mB_X11_set mO_X11_set dX11_set_28 cT_11_83 ⟨Nat.le_of_ble_eq_true rfl, Nat.le_of_ble_eq_true rfl⟩ rfl rfl rfl rfl
theorem rX11_set_31 : tA sc iX11_set 31 ls (vI x :: st) h Q = (if ¬ x = 0 then tA sc iX11_set 36 ls st h Q else tA sc iX11_set 34 ls st h Q) := tA_if mB_X11_set dX11_set_31 (fun _ _ _ _ => rfl) rfl
theorem rX11_set_34 : tA sc iX11_set 34 ls st h Q = tA sc iX11_set 35 ls (vI (-1) :: st) h Q := tA_pure mB_X11_set dX11_set_34 rfl
theorem rX11_set_35 : tA sc iX11_set 35 ls [vI x] h Q = Q (some (vI x)) h := tA_ret mB_X11_set dX11_set_35 (fun _ _ _ _ => rfl) (fun _ _ _ => rfl) (fun _ _ _ _ _ => rfl) rfl rfl
theorem rX11_set_36 : tA sc iX11_set 36 [vR r, l1, l2, l3, l4] st h Q = tA sc iX11_set 37 [vR r, l1, l2, l3, l4] (vR r :: st) h Q := tA_pure mB_X11_set dX11_set_36 rfl
theorem rX11_set_37 : tA sc iX11_set 37 ls (vR (some o) :: st) h Q = oz (tget h o [11] 6) (fun v => tA sc iX11_set 40 ls (v :: st) h Q) := tA_get mB_X11_set mO_X11_set dX11_set_37 fT_11_22
theorem rX11_set_40 : tA sc iX11_set 40 [l0, vI x, l2, l3, l4] st h Q = tA sc iX11_set 41 [l0, vI x, l2, l3, l4] (vI x :: st) h Q := tA_pure mB_X11_set dX11_set_40 rfl
theorem rX11_set_41 : tA sc iX11_set 41 ls (vI j :: vR (some a) :: st) h Q = oz (tald sc h 0 a j) (fun v => tA sc iX11_set 42 ls (vI v :: st) h Q) := tA_iald mB_X11_set dX11_set_41
theorem rX11_set_42 : tA sc iX11_set 42 [l0, l1, l2, l3, l4] (vI x :: st) h Q = tA sc iX11_set 44 [l0, l1, l2, tclr l3, vI x] st h Q := tA_pure mB_X11_set dX11_set_42 rfl
theorem rX11_set_44 : tA sc iX11_set 44 [vR r, l1, l2, l3, l4] st h Q = tA sc iX11_set 45 [vR r, l1, l2, l3, l4] (vR r :: st) h Q := tA_pure mB_X11_set dX11_set_44 rfl
theorem rX11_set_45 : tA sc iX11_set 45 ls (vR (some o) :: st) h Q = oz (tget h o [11] 6) (fun v => tA sc iX11_set 48 ls (v :: st) h Q) := tA_get mB_X11_set mO_X11_set dX11_set_45 fT_11_22
theorem rX11_set_48 : tA sc iX11_set 48 [l0, vI x, l2, l3, l4] st h Q = tA sc iX11_set 49 [l0, vI x, l2, l3, l4] (vI x :: st) h Q := tA_pure mB_X11_set dX11_set_48 rfl
theorem rX11_set_49 : tA sc iX11_set 49 [l0, l1, vI x, l3, l4] st h Q = tA sc iX11_set 50 [l0, l1, vI x, l3, l4] (vI x :: st) h Q := tA_pure mB_X11_set dX11_set_49 rfl
theorem rX11_set_50 : tA sc iX11_set 50 ls (vI x :: vI j :: vR (some a) :: st) h Q = oz (tasi h a j x) (fun h' => tA sc iX11_set 51 ls st h' Q) := tA_iast mB_X11_set dX11_set_50
theorem rX11_set_51 : tA sc iX11_set 51 [l0, l1, l2, l3, vI x] st h Q = tA sc iX11_set 53 [l0, l1, l2, l3, vI x] (vI x :: st) h Q := tA_pure mB_X11_set dX11_set_51 rfl
theorem rX11_set_53 : tA sc iX11_set 53 ls [vI x] h Q = Q (some (vI x)) h := tA_ret mB_X11_set dX11_set_53 (fun _ _ _ _ => rfl) (fun _ _ _ => rfl) (fun _ _ _ _ _ => rfl) rfl rfl
theorem mB_X11_sayer : mB iX11_sayer = cX11_sayer := rfl
theorem mO_X11_sayer : mO iX11_sayer = 11 := rfl
theorem rX11_sayer_0 : tA sc iX11_sayer 0 [l0, vI x, l2] st h Q = tA sc iX11_sayer 1 [l0, vI x, l2] (vI x :: st) h Q := tA_pure mB_X11_sayer dX11_sayer_0 rfl
theorem rX11_sayer_1 : tA sc iX11_sayer 1 ls st h Q = tA sc iX11_sayer 2 ls (vI (0) :: st) h Q := tA_pure mB_X11_sayer dX11_sayer_1 rfl
theorem rX11_sayer_2 : tA sc iX11_sayer 2 ls st h Q = tA sc iX11_sayer 3 ls (vI (5) :: st) h Q := tA_pure mB_X11_sayer dX11_sayer_2 rfl
theorem rX11_sayer_3 : tA sc iX11_sayer 3 ls [vI p2, vI p1, vI p0] h Q = tA sc iX11_in 0 [vI p0, vI p1, vI p2] [] h (fun v h1 => tA sc iX11_sayer 6 ls (tpu v []) h1 Q) := tA_cS mB_X11_sayer mO_X11_sayer dX11_sayer_3 cT_11_83 ⟨Nat.le_of_ble_eq_true rfl, Nat.le_of_ble_eq_true rfl⟩ rfl rfl rfl rfl
theorem rX11_sayer_6 : tA sc iX11_sayer 6 ls (vI x :: st) h Q = (if x = 0 then tA sc iX11_sayer 19 ls st h Q else tA sc iX11_sayer 9 ls st h Q) := tA_if mB_X11_sayer dX11_sayer_6 (fun _ _ _ _ => rfl) rfl
theorem rX11_sayer_9 : tA sc iX11_sayer 9 [l0, l1, vI x] st h Q = tA sc iX11_sayer 10 [l0, l1, vI x] (vI x :: st) h Q := tA_pure mB_X11_sayer dX11_sayer_9 rfl
theorem rX11_sayer_10 : tA sc iX11_sayer 10 ls st h Q = tA sc iX11_sayer 11 ls (vI (0) :: st) h Q := tA_pure mB_X11_sayer dX11_sayer_10 rfl
theorem rX11_sayer_11 : tA sc iX11_sayer 11 ls st h Q = tA sc iX11_sayer 13 ls (vI (9) :: st) h Q := tA_pure mB_X11_sayer dX11_sayer_11 rfl
theorem rX11_sayer_13 : tA sc iX11_sayer 13 ls [vI p2, vI p1, vI p0] h Q = tA sc iX11_in 0 [vI p0, vI p1, vI p2] [] h (fun v h1 => tA sc iX11_sayer 16 ls (tpu v []) h1 Q) := tA_cS mB_X11_sayer mO_X11_sayer dX11_sayer_13 cT_11_83 ⟨Nat.le_of_ble_eq_true rfl, Nat.le_of_ble_eq_true rfl⟩ rfl rfl rfl rfl
theorem rX11_sayer_16 : tA sc iX11_sayer 16 ls (vI x :: st) h Q = (if ¬ x = 0 then tA sc iX11_sayer 21 ls st h Q else tA sc iX11_sayer 19 ls st h Q) := tA_if mB_X11_sayer dX11_sayer_16 (fun _ _ _ _ => rfl) rfl
theorem rX11_sayer_19 : tA sc iX11_sayer 19 ls st h Q = tA sc iX11_sayer 20 ls (vI (-1) :: st) h Q := tA_pure mB_X11_sayer dX11_sayer_19 rfl
theorem rX11_sayer_20 : tA sc iX11_sayer 20 ls [vI x] h Q = Q (some (vI x)) h := tA_ret mB_X11_sayer dX11_sayer_20 (fun _ _ _ _ => rfl) (fun _ _ _ => rfl) (fun _ _ _ _ _ => rfl) rfl rfl
theorem rX11_sayer_21 : tA sc iX11_sayer 21 [vR r, l1, l2] st h Q = tA sc iX11_sayer 22 [vR r, l1, l2] (vR r :: st) h Q := tA_pure mB_X11_sayer dX11_sayer_21 rfl
theorem rX11_sayer_22 : tA sc iX11_sayer 22 ls (vR (some o) :: st) h Q = oz (tget h o [11] 4) (fun v => tA sc iX11_sayer 25 ls (v :: st) h Q) := tA_get mB_X11_sayer mO_X11_sayer dX11_sayer_22 fT_11_87
theorem rX11_sayer_25 : tA sc iX11_sayer 25 ls st h Q = tA sc iX11_sayer 26 ls (vI (5) :: st) h Q := tA_pure mB_X11_sayer dX11_sayer_25 rfl
theorem rX11_sayer_26 : tA sc iX11_sayer 26 ls (vI y :: vI x :: st) h Q = (if ¬ x = y then tA sc iX11_sayer 32 ls st h Q else tA sc iX11_sayer 29 ls st h Q) := tA_if mB_X11_sayer dX11_sayer_26 (fun _ _ _ _ => rfl) rfl
theorem rX11_sayer_29 : tA sc iX11_sayer 29 ls st h Q = tA sc iX11_sayer 31 ls (vI (-2) :: st) h Q := tA_pure mB_X11_sayer dX11_sayer_29 rfl
theorem rX11_sayer_31 : tA sc iX11_sayer 31 ls [vI x] h Q = Q (some (vI x)) h := tA_ret mB_X11_sayer dX11_sayer_31 (fun _ _ _ _ => rfl) (fun _ _ _ => rfl) (fun _ _ _ _ _ => rfl) rfl rfl
theorem rX11_sayer_32 : tA sc iX11_sayer 32 [vR r, l1, l2] st h Q = tA sc iX11_sayer 33 [vR r, l1, l2] (vR r :: st) h Q := tA_pure mB_X11_sayer dX11_sayer_32 rfl
theorem rX11_sayer_33 : tA sc iX11_sayer 33 ls (vR (some o) :: st) h Q = oz (tget h o [11] 5) (fun v => tA sc iX11_sayer 36 ls (v :: st) h Q) := tA_get mB_X11_sayer mO_X11_sayer dX11_sayer_33 fT_11_19
theorem rX11_sayer_36 : tA sc iX11_sayer 36 ls st h Q = tA sc iX11_sayer 37 ls (vI (2) :: st) h Q := tA_pure mB_X11_sayer dX11_sayer_36 rfl
theorem rX11_sayer_37 : tA sc iX11_sayer 37 [vR r, l1, l2] st h Q = tA sc iX11_sayer 38 [vR r, l1, l2] (vR r :: st) h Q := tA_pure mB_X11_sayer dX11_sayer_37 rfl
theorem rX11_sayer_38 : tA sc iX11_sayer 38 ls (vR (some o) :: st) h Q = oz (tget h o [11] 4) (fun v => tA sc iX11_sayer 41 ls (v :: st) h Q) := tA_get mB_X11_sayer mO_X11_sayer dX11_sayer_38 fT_11_87
theorem rX11_sayer_41 : tA sc iX11_sayer 41 ls (vI y :: vI x :: st) h Q = tA sc iX11_sayer 42 ls (vI (x * y) :: st) h Q := tA_pure mB_X11_sayer dX11_sayer_41 rfl
theorem rX11_sayer_42 : tA sc iX11_sayer 42 [l0, vI x, l2] st h Q = tA sc iX11_sayer 43 [l0, vI x, l2] (vI x :: st) h Q := tA_pure mB_X11_sayer dX11_sayer_42 rfl
theorem rX11_sayer_43 : tA sc iX11_sayer 43 ls (vI x :: vI j :: vR (some a) :: st) h Q = oz (tasi h a j x) (fun h' => tA sc iX11_sayer 44 ls st h' Q) := tA_iast mB_X11_sayer dX11_sayer_43
theorem rX11_sayer_44 : tA sc iX11_sayer 44 [vR r, l1, l2] st h Q = tA sc iX11_sayer 45 [vR r, l1, l2] (vR r :: st) h Q := tA_pure mB_X11_sayer dX11_sayer_44 rfl
theorem rX11_sayer_45 : tA sc iX11_sayer 45 ls (vR (some o) :: st) h Q = oz (tget h o [11] 5) (fun v => tA sc iX11_sayer 48 ls (v :: st) h Q) := tA_get mB_X11_sayer mO_X11_sayer dX11_sayer_45 fT_11_19
theorem rX11_sayer_48 : tA sc iX11_sayer 48 ls st h Q = tA sc iX11_sayer 49 ls (vI (2) :: st) h Q := tA_pure mB_X11_sayer dX11_sayer_48 rfl
theorem rX11_sayer_49 : tA sc iX11_sayer 49 [vR r, l1, l2] st h Q = tA sc iX11_sayer 50 [vR r, l1, l2] (vR r :: st) h Q := tA_pure mB_X11_sayer dX11_sayer_49 rfl
theorem rX11_sayer_50 : tA sc iX11_sayer 50 ls (vR (some o) :: st) h Q = oz (tget h o [11] 4) (fun v => tA sc iX11_sayer 53 ls (v :: st) h Q) := tA_get mB_X11_sayer mO_X11_sayer dX11_sayer_50 fT_11_87
theorem rX11_sayer_53 : tA sc iX11_sayer 53 ls (vI y :: vI x :: st) h Q = tA sc iX11_sayer 54 ls (vI (x * y) :: st) h Q := tA_pure mB_X11_sayer dX11_sayer_53 rfl
theorem rX11_sayer_54 : tA sc iX11_sayer 54 ls st h Q = tA sc iX11_sayer 55 ls (vI (1) :: st) h Q := tA_pure mB_X11_sayer dX11_sayer_54 rfl
theorem rX11_sayer_55 : tA sc iX11_sayer 55 ls (vI y :: vI x :: st) h Q = tA sc iX11_sayer 56 ls (vI (x + y) :: st) h Q := tA_pure mB_X11_sayer dX11_sayer_55 rfl
theorem rX11_sayer_56 : tA sc iX11_sayer 56 [l0, l1, vI x] st h Q = tA sc iX11_sayer 57 [l0, l1, vI x] (vI x :: st) h Q := tA_pure mB_X11_sayer dX11_sayer_56 rfl
theorem rX11_sayer_57 : tA sc iX11_sayer 57 ls (vI x :: vI j :: vR (some a) :: st) h Q = oz (tasi h a j x) (fun h' => tA sc iX11_sayer 58 ls st h' Q) := tA_iast mB_X11_sayer dX11_sayer_57
theorem rX11_sayer_58 : tA sc iX11_sayer 58 [vR r, l1, l2] st h Q = tA sc iX11_sayer 59 [vR r, l1, l2] (vR r :: st) h Q := tA_pure mB_X11_sayer dX11_sayer_58 rfl
theorem rX11_sayer_59 : tA sc iX11_sayer 59 ls (vR (some o) :: st) h Q = oz (tget h o [11] 0) (fun v => tA sc iX11_sayer 62 ls (v :: st) h Q) := tA_get mB_X11_sayer mO_X11_sayer dX11_sayer_59 fT_11_7
theorem rX11_sayer_62 : tA sc iX11_sayer 62 ls st h Q = tA sc iX11_sayer 64 ls (vI (43) :: st) h Q := tA_pure mB_X11_sayer dX11_sayer_62 rfl
theorem rX11_sayer_64 : tA sc iX11_sayer 64 [vR r, l1, l2] st h Q = tA sc iX11_sayer 65 [vR r, l1, l2] (vR r :: st) h Q := tA_pure mB_X11_sayer dX11_sayer_64 rfl
theorem rX11_sayer_65 : tA sc iX11_sayer 65 ls (vR (some o) :: st) h Q = oz (tget h o [11] 4) (fun v => tA sc iX11_sayer 68 ls (v :: st) h Q) := tA_get mB_X11_sayer mO_X11_sayer dX11_sayer_65 fT_11_87
theorem rX11_sayer_68 : tA sc iX11_sayer 68 ls (vI y :: vI x :: st) h Q = tA sc iX11_sayer 69 ls (vI (x + y) :: st) h Q := tA_pure mB_X11_sayer dX11_sayer_68 rfl
theorem rX11_sayer_69 : tA sc iX11_sayer 69 ls st h Q = tA sc iX11_sayer 70 ls (vI (0) :: st) h Q := tA_pure mB_X11_sayer dX11_sayer_69 rfl
theorem rX11_sayer_70 : tA sc iX11_sayer 70 ls (vI x :: vI j :: vR (some a) :: st) h Q = oz (tasi h a j x) (fun h' => tA sc iX11_sayer 71 ls st h' Q) := tA_iast mB_X11_sayer dX11_sayer_70
theorem rX11_sayer_71 : tA sc iX11_sayer 71 [vR r, l1, l2] st h Q = tA sc iX11_sayer 72 [vR r, l1, l2] (vR r :: st) h Q := tA_pure mB_X11_sayer dX11_sayer_71 rfl
theorem rX11_sayer_72 : tA sc iX11_sayer 72 ls (vR r :: st) h Q = tA sc iX11_sayer 73 ls (vR r :: vR r :: st) h Q := tA_pure mB_X11_sayer dX11_sayer_72 rfl
theorem rX11_sayer_73 : tA sc iX11_sayer 73 ls (vR (some o) :: st) h Q = oz (tget h o [11] 4) (fun v => tA sc iX11_sayer 76 ls (v :: st) h Q) := tA_get mB_X11_sayer mO_X11_sayer dX11_sayer_73 fT_11_87
theorem rX11_sayer_76 : tA sc iX11_sayer 76 ls st h Q = tA sc iX11_sayer 77 ls (vI (1) :: st) h Q := tA_pure mB_X11_sayer dX11_sayer_76 rfl
theorem rX11_sayer_77 : tA sc iX11_sayer 77 ls (vI y :: vI x :: st) h Q = tA sc iX11_sayer 78 ls (vI (x + y) :: st) h Q := tA_pure mB_X11_sayer dX11_sayer_77 rfl
theorem rX11_sayer_78 : tA sc iX11_sayer 78 ls (v :: vR (some o) :: st) h Q = oz (tput h o [11] 4 0 v) (fun h' => tA sc iX11_sayer 81 ls st h' Q) := tA_put mB_X11_sayer mO_X11_sayer dX11_sayer_78 fT_11_87 (Or.inl (by decide))
theorem rX11_sayer_81 : tA sc iX11_sayer 81 [vR r, l1, l2] st h Q = tA sc iX11_sayer 82 [vR r, l1, l2] (vR r :: st) h Q := tA_pure mB_X11_sayer dX11_sayer_81 rfl
theorem rX11_sayer_82 : tA sc iX11_sayer 82 ls (vR (some o) :: st) h Q = oz (tget h o [11] 4) (fun v => tA sc iX11_sayer 85 ls (v :: st) h Q) := tA_get mB_X11_sayer mO_X11_sayer dX11_sayer_82 fT_11_87
theorem rX11_sayer_85 : tA sc iX11_sayer 85 ls st h Q = tA sc iX11_sayer 86 ls (vI (1) :: st) h Q := tA_pure mB_X11_sayer dX11_sayer_85 rfl
theorem rX11_sayer_86 : tA sc iX11_sayer 86 ls (vI y :: vI x :: st) h Q = tA sc iX11_sayer 87 ls (vI (x - y) :: st) h Q := tA_pure mB_X11_sayer dX11_sayer_86 rfl
theorem rX11_sayer_87 : tA sc iX11_sayer 87 ls [vI x] h Q = Q (some (vI x)) h := tA_ret mB_X11_sayer dX11_sayer_87 (fun _ _ _ _ => rfl) (fun _ _ _ => rfl) (fun _ _ _ _ _ => rfl) rfl rfl
theorem mB_X11_sayerOf : mB iX11_sayerOf = cX11_sayerOf := rfl
theorem mO_X11_sayerOf : mO iX11_sayerOf = 11 := rfl
theorem rX11_sayerOf_0 : tA sc iX11_sayerOf 0 [vR r, l1, l2, l3, l4] st h Q = tA sc iX11_sayerOf 1 [vR r, l1, l2, l3, l4] (vR r :: st) h Q := tA_pure mB_X11_sayerOf dX11_sayerOf_0 rfl
theorem rX11_sayerOf_1 : tA sc iX11_sayerOf 1 [l0, vI x, l2, l3, l4] st h Q = tA sc iX11_sayerOf 2 [l0, vI x, l2, l3, l4] (vI x :: st) h Q := tA_pure mB_X11_sayerOf dX11_sayerOf_1 rfl
theorem rX11_sayerOf_2 (hci : tcl h o = some 11) : tA sc iX11_sayerOf 2 ls [vI p0, vR (some o)] h Q = tA sc iX11_isSayer 0 [vR (some o), vI p0] [] h (fun v h1 => tA sc iX11_sayerOf 5 ls (tpu v []) h1 Q) := tA_cV mB_X11_sayerOf mO_X11_sayerOf dX11_sayerOf_2 cT_11_247 rfl (Nat.le_of_ble_eq_true rfl) rfl rfl rfl hci
theorem rX11_sayerOf_5 : tA sc iX11_sayerOf 5 ls (vI x :: st) h Q = (if x = 0 then tA sc iX11_sayerOf 17 ls st h Q else tA sc iX11_sayerOf 8 ls st h Q) := tA_if mB_X11_sayerOf dX11_sayerOf_5 (fun _ _ _ _ => rfl) rfl
theorem rX11_sayerOf_8 : tA sc iX11_sayerOf 8 [l0, l1, vI x, l3, l4] st h Q = tA sc iX11_sayerOf 9 [l0, l1, vI x, l3, l4] (vI x :: st) h Q := tA_pure mB_X11_sayerOf dX11_sayerOf_8 rfl
theorem rX11_sayerOf_9 : tA sc iX11_sayerOf 9 ls st h Q = tA sc iX11_sayerOf 10 ls (vI (0) :: st) h Q := tA_pure mB_X11_sayerOf dX11_sayerOf_9 rfl
theorem rX11_sayerOf_10 : tA sc iX11_sayerOf 10 ls st h Q = tA sc iX11_sayerOf 11 ls (vI (3) :: st) h Q := tA_pure mB_X11_sayerOf dX11_sayerOf_10 rfl
theorem rX11_sayerOf_11 : tA sc iX11_sayerOf 11 ls [vI p2, vI p1, vI p0] h Q = tA sc iX11_in 0 [vI p0, vI p1, vI p2] [] h (fun v h1 => tA sc iX11_sayerOf 14 ls (tpu v []) h1 Q) := tA_cS mB_X11_sayerOf mO_X11_sayerOf dX11_sayerOf_11 cT_11_83 ⟨Nat.le_of_ble_eq_true rfl, Nat.le_of_ble_eq_true rfl⟩ rfl rfl rfl rfl
theorem rX11_sayerOf_14 : tA sc iX11_sayerOf 14 ls (vI x :: st) h Q = (if ¬ x = 0 then tA sc iX11_sayerOf 19 ls st h Q else tA sc iX11_sayerOf 17 ls st h Q) := tA_if mB_X11_sayerOf dX11_sayerOf_14 (fun _ _ _ _ => rfl) rfl
theorem rX11_sayerOf_17 : tA sc iX11_sayerOf 17 ls st h Q = tA sc iX11_sayerOf 18 ls (vI (-1) :: st) h Q := tA_pure mB_X11_sayerOf dX11_sayerOf_17 rfl
theorem rX11_sayerOf_18 : tA sc iX11_sayerOf 18 ls [vI x] h Q = Q (some (vI x)) h := tA_ret mB_X11_sayerOf dX11_sayerOf_18 (fun _ _ _ _ => rfl) (fun _ _ _ => rfl) (fun _ _ _ _ _ => rfl) rfl rfl
theorem rX11_sayerOf_19 : tA sc iX11_sayerOf 19 ls st h Q = tA sc iX11_sayerOf 20 ls (vI (0) :: st) h Q := tA_pure mB_X11_sayerOf dX11_sayerOf_19 rfl
theorem rX11_sayerOf_20 : tA sc iX11_sayerOf 20 [l0, l1, l2, l3, l4] (vI x :: st) h Q = tA sc iX11_sayerOf 21 [l0, l1, tclr l2, vI x, l4] st h Q := tA_pure mB_X11_sayerOf dX11_sayerOf_20 rfl
theorem rX11_sayerOf_21 : tA sc iX11_sayerOf 21 ls st h Q = tA sc iX11_sayerOf 22 ls (vI (0) :: st) h Q := tA_pure mB_X11_sayerOf dX11_sayerOf_21 rfl
theorem rX11_sayerOf_22 : tA sc iX11_sayerOf 22 [l0, l1, l2, l3, l4] (vI x :: st) h Q = tA sc iX11_sayerOf 24 [l0, l1, l2, tclr l3, vI x] st h Q := tA_pure mB_X11_sayerOf dX11_sayerOf_22 rfl
theorem rX11_sayerOf_24 : tA sc iX11_sayerOf 24 [l0, l1, l2, l3, vI x] st h Q = tA sc iX11_sayerOf 26 [l0, l1, l2, l3, vI x] (vI x :: st) h Q := tA_pure mB_X11_sayerOf dX11_sayerOf_24 rfl
theorem rX11_sayerOf_26 : tA sc iX11_sayerOf 26 [vR r, l1, l2, l3, l4] st h Q = tA sc iX11_sayerOf 27 [vR r, l1, l2, l3, l4] (vR r :: st) h Q := tA_pure mB_X11_sayerOf dX11_sayerOf_26 rfl
theorem rX11_sayerOf_27 : tA sc iX11_sayerOf 27 ls (vR (some o) :: st) h Q = oz (tget h o [11] 0) (fun v => tA sc iX11_sayerOf 30 ls (v :: st) h Q) := tA_get mB_X11_sayerOf mO_X11_sayerOf dX11_sayerOf_27 fT_11_7
theorem rX11_sayerOf_30 : tA sc iX11_sayerOf 30 ls st h Q = tA sc iX11_sayerOf 31 ls (vI (2) :: st) h Q := tA_pure mB_X11_sayerOf dX11_sayerOf_30 rfl
theorem rX11_sayerOf_31 : tA sc iX11_sayerOf 31 ls (vI j :: vR (some a) :: st) h Q = oz (tald sc h 0 a j) (fun v => tA sc iX11_sayerOf 32 ls (vI v :: st) h Q) := tA_iald mB_X11_sayerOf dX11_sayerOf_31
theorem rX11_sayerOf_32 : tA sc iX11_sayerOf 32 ls (vI y :: vI x :: st) h Q = (if y ≤ x then tA sc iX11_sayerOf 60 ls st h Q else tA sc iX11_sayerOf 35 ls st h Q) := tA_if mB_X11_sayerOf dX11_sayerOf_32 (fun _ _ _ _ => rfl) rfl
theorem rX11_sayerOf_35 : tA sc iX11_sayerOf 35 [l0, l1, l2, vI x, l4] st h Q = tA sc iX11_sayerOf 36 [l0, l1, l2, vI x, l4] (vI x :: st) h Q := tA_pure mB_X11_sayerOf dX11_sayerOf_35 rfl
theorem rX11_sayerOf_36 : tA sc iX11_sayerOf 36 [vR r, l1, l2, l3, l4] st h Q = tA sc iX11_sayerOf 37 [vR r, l1, l2, l3, l4] (vR r :: st) h Q := tA_pure mB_X11_sayerOf dX11_sayerOf_36 rfl
theorem rX11_sayerOf_37 : tA sc iX11_sayerOf 37 [l0, l1, l2, l3, vI x] st h Q = tA sc iX11_sayerOf 39 [l0, l1, l2, l3, vI x] (vI x :: st) h Q := tA_pure mB_X11_sayerOf dX11_sayerOf_37 rfl
theorem rX11_sayerOf_39 : tA sc iX11_sayerOf 39 ls st h Q = tA sc iX11_sayerOf 40 ls (vI (0) :: st) h Q := tA_pure mB_X11_sayerOf dX11_sayerOf_39 rfl
theorem rX11_sayerOf_40 (hci : tcl h o = some 11) : tA sc iX11_sayerOf 40 ls [vI p1, vI p0, vR (some o), s0] h Q = tA sc iX11_saying 0 [vR (some o), vI p0, vI p1] [] h (fun v h1 => tA sc iX11_sayerOf 43 ls (tpu v [s0]) h1 Q) := tA_cV mB_X11_sayerOf mO_X11_sayerOf dX11_sayerOf_40 cT_11_232 rfl (Nat.le_of_ble_eq_true rfl) rfl rfl rfl hci
theorem rX11_sayerOf_43 : tA sc iX11_sayerOf 43 [l0, vI x, l2, l3, l4] st h Q = tA sc iX11_sayerOf 44 [l0, vI x, l2, l3, l4] (vI x :: st) h Q := tA_pure mB_X11_sayerOf dX11_sayerOf_43 rfl
theorem rX11_sayerOf_44 : tA sc iX11_sayerOf 44 ls (vI y :: vI x :: st) h Q = (if ¬ x = y then tA sc iX11_sayerOf 51 ls st h Q else tA sc iX11_sayerOf 47 ls st h Q) := tA_if mB_X11_sayerOf dX11_sayerOf_44 (fun _ _ _ _ => rfl) rfl
theorem rX11_sayerOf_47 : tA sc iX11_sayerOf 47 ls st h Q = tA sc iX11_sayerOf 48 ls (vI (1) :: st) h Q := tA_pure mB_X11_sayerOf dX11_sayerOf_47 rfl
theorem rX11_sayerOf_48 : tA sc iX11_sayerOf 48 ls st h Q = tA sc iX11_sayerOf 52 ls st h Q := tA_jump mB_X11_sayerOf dX11_sayerOf_48 (fun _ _ _ _ => rfl) rfl
theorem rX11_sayerOf_51 : tA sc iX11_sayerOf 51 ls st h Q = tA sc iX11_sayerOf 52 ls (vI (0) :: st) h Q := tA_pure mB_X11_sayerOf dX11_sayerOf_51 rfl
theorem rX11_sayerOf_52 : tA sc iX11_sayerOf 52 ls (vI y :: vI x :: st) h Q = tA sc iX11_sayerOf 53 ls (vI (x + y) :: st) h Q := tA_pure mB_X11_sayerOf dX11_sayerOf_52 rfl
theorem rX11_sayerOf_53 : tA sc iX11_sayerOf 53 [l0, l1, l2, l3, l4] (vI x :: st) h Q = tA sc iX11_sayerOf 54 [l0, l1, tclr l2, vI x, l4] st h Q := tA_pure mB_X11_sayerOf dX11_sayerOf_53 rfl
theorem rX11_sayerOf_54 : tA sc iX11_sayerOf 54 [l0, l1, l2, l3, vI x] st h Q = tA sc iX11_sayerOf 57 [l0, l1, l2, tclr l3, vI (x + 1)] st h Q := tA_pure mB_X11_sayerOf dX11_sayerOf_54 rfl
theorem rX11_sayerOf_57 : tA sc iX11_sayerOf 57 ls st h Q = tA sc iX11_sayerOf 24 ls st h Q := tA_jump mB_X11_sayerOf dX11_sayerOf_57 (fun _ _ _ _ => rfl) rfl
theorem rX11_sayerOf_60 : tA sc iX11_sayerOf 60 [l0, l1, vI x, l3, l4] st h Q = tA sc iX11_sayerOf 61 [l0, l1, vI x, l3, l4] (vI x :: st) h Q := tA_pure mB_X11_sayerOf dX11_sayerOf_60 rfl
theorem rX11_sayerOf_61 : tA sc iX11_sayerOf 61 ls (vI x :: st) h Q = (if ¬ x = 0 then tA sc iX11_sayerOf 72 ls st h Q else tA sc iX11_sayerOf 64 ls st h Q) := tA_if mB_X11_sayerOf dX11_sayerOf_61 (fun _ _ _ _ => rfl) rfl
theorem rX11_sayerOf_64 : tA sc iX11_sayerOf 64 [vR r, l1, l2, l3, l4] st h Q = tA sc iX11_sayerOf 65 [vR r, l1, l2, l3, l4] (vR r :: st) h Q := tA_pure mB_X11_sayerOf dX11_sayerOf_64 rfl
theorem rX11_sayerOf_65 : tA sc iX11_sayerOf 65 [l0, vI x, l2, l3, l4] st h Q = tA sc iX11_sayerOf 66 [l0, vI x, l2, l3, l4] (vI x :: st) h Q := tA_pure mB_X11_sayerOf dX11_sayerOf_65 rfl
theorem rX11_sayerOf_66 (hci : tcl h o = some 11) : tA sc iX11_sayerOf 66 ls [vI p0, vR (some o)] h Q = tA sc iX11_kindOf 0 [vR (some o), vI p0] [] h (fun v h1 => tA sc iX11_sayerOf 69 ls (tpu v []) h1 Q) := tA_cV mB_X11_sayerOf mO_X11_sayerOf dX11_sayerOf_66 cT_11_250 rfl (Nat.le_of_ble_eq_true rfl) rfl rfl rfl hci
theorem rX11_sayerOf_69 : tA sc iX11_sayerOf 69 ls st h Q = tA sc iX11_sayerOf 107 ls st h Q := tA_jump mB_X11_sayerOf dX11_sayerOf_69 (fun _ _ _ _ => rfl) rfl
theorem rX11_sayerOf_72 : tA sc iX11_sayerOf 72 [l0, l1, vI x, l3, l4] st h Q = tA sc iX11_sayerOf 73 [l0, l1, vI x, l3, l4] (vI x :: st) h Q := tA_pure mB_X11_sayerOf dX11_sayerOf_72 rfl
theorem rX11_sayerOf_73 : tA sc iX11_sayerOf 73 ls st h Q = tA sc iX11_sayerOf 74 ls (vI (1) :: st) h Q := tA_pure mB_X11_sayerOf dX11_sayerOf_73 rfl
theorem rX11_sayerOf_74 : tA sc iX11_sayerOf 74 ls (vI y :: vI x :: st) h Q = (if ¬ x = y then tA sc iX11_sayerOf 85 ls st h Q else tA sc iX11_sayerOf 77 ls st h Q) := tA_if mB_X11_sayerOf dX11_sayerOf_74 (fun _ _ _ _ => rfl) rfl
theorem rX11_sayerOf_77 : tA sc iX11_sayerOf 77 [vR r, l1, l2, l3, l4] st h Q = tA sc iX11_sayerOf 78 [vR r, l1, l2, l3, l4] (vR r :: st) h Q := tA_pure mB_X11_sayerOf dX11_sayerOf_77 rfl
theorem rX11_sayerOf_78 : tA sc iX11_sayerOf 78 [l0, vI x, l2, l3, l4] st h Q = tA sc iX11_sayerOf 79 [l0, vI x, l2, l3, l4] (vI x :: st) h Q := tA_pure mB_X11_sayerOf dX11_sayerOf_78 rfl
theorem rX11_sayerOf_79 (hci : tcl h o = some 11) : tA sc iX11_sayerOf 79 ls [vI p0, vR (some o)] h Q = tA sc iX11_aOf 0 [vR (some o), vI p0] [] h (fun v h1 => tA sc iX11_sayerOf 82 ls (tpu v []) h1 Q) := tA_cV mB_X11_sayerOf mO_X11_sayerOf dX11_sayerOf_79 cT_11_253 rfl (Nat.le_of_ble_eq_true rfl) rfl rfl rfl hci
theorem rX11_sayerOf_82 : tA sc iX11_sayerOf 82 ls st h Q = tA sc iX11_sayerOf 107 ls st h Q := tA_jump mB_X11_sayerOf dX11_sayerOf_82 (fun _ _ _ _ => rfl) rfl
theorem rX11_sayerOf_85 : tA sc iX11_sayerOf 85 [l0, l1, vI x, l3, l4] st h Q = tA sc iX11_sayerOf 86 [l0, l1, vI x, l3, l4] (vI x :: st) h Q := tA_pure mB_X11_sayerOf dX11_sayerOf_85 rfl
theorem rX11_sayerOf_86 : tA sc iX11_sayerOf 86 ls st h Q = tA sc iX11_sayerOf 87 ls (vI (2) :: st) h Q := tA_pure mB_X11_sayerOf dX11_sayerOf_86 rfl
theorem rX11_sayerOf_87 : tA sc iX11_sayerOf 87 ls (vI y :: vI x :: st) h Q = (if ¬ x = y then tA sc iX11_sayerOf 106 ls st h Q else tA sc iX11_sayerOf 90 ls st h Q) := tA_if mB_X11_sayerOf dX11_sayerOf_87 (fun _ _ _ _ => rfl) rfl
theorem rX11_sayerOf_90 : tA sc iX11_sayerOf 90 ls st h Q = tA sc iX11_sayerOf 93 ls (vI (100000) :: st) h Q := tA_pure mB_X11_sayerOf dX11_sayerOf_90 rfl
theorem rX11_sayerOf_93 : tA sc iX11_sayerOf 93 [vR r, l1, l2, l3, l4] st h Q = tA sc iX11_sayerOf 94 [vR r, l1, l2, l3, l4] (vR r :: st) h Q := tA_pure mB_X11_sayerOf dX11_sayerOf_93 rfl
theorem rX11_sayerOf_94 : tA sc iX11_sayerOf 94 ls (vR (some o) :: st) h Q = oz (tget h o [11] 0) (fun v => tA sc iX11_sayerOf 97 ls (v :: st) h Q) := tA_get mB_X11_sayerOf mO_X11_sayerOf dX11_sayerOf_94 fT_11_7
theorem rX11_sayerOf_97 : tA sc iX11_sayerOf 97 ls st h Q = tA sc iX11_sayerOf 99 ls (vI (43) :: st) h Q := tA_pure mB_X11_sayerOf dX11_sayerOf_97 rfl
theorem rX11_sayerOf_99 : tA sc iX11_sayerOf 99 [l0, vI x, l2, l3, l4] st h Q = tA sc iX11_sayerOf 100 [l0, vI x, l2, l3, l4] (vI x :: st) h Q := tA_pure mB_X11_sayerOf dX11_sayerOf_99 rfl
theorem rX11_sayerOf_100 : tA sc iX11_sayerOf 100 ls (vI y :: vI x :: st) h Q = tA sc iX11_sayerOf 101 ls (vI (x + y) :: st) h Q := tA_pure mB_X11_sayerOf dX11_sayerOf_100 rfl
theorem rX11_sayerOf_101 : tA sc iX11_sayerOf 101 ls (vI j :: vR (some a) :: st) h Q = oz (tald sc h 0 a j) (fun v => tA sc iX11_sayerOf 102 ls (vI v :: st) h Q) := tA_iald mB_X11_sayerOf dX11_sayerOf_101
theorem rX11_sayerOf_102 : tA sc iX11_sayerOf 102 ls (vI y :: vI x :: st) h Q = tA sc iX11_sayerOf 103 ls (vI (x + y) :: st) h Q := tA_pure mB_X11_sayerOf dX11_sayerOf_102 rfl
theorem rX11_sayerOf_103 : tA sc iX11_sayerOf 103 ls st h Q = tA sc iX11_sayerOf 107 ls st h Q := tA_jump mB_X11_sayerOf dX11_sayerOf_103 (fun _ _ _ _ => rfl) rfl
theorem rX11_sayerOf_106 : tA sc iX11_sayerOf 106 [l0, l1, l2, vI x, l4] st h Q = tA sc iX11_sayerOf 107 [l0, l1, l2, vI x, l4] (vI x :: st) h Q := tA_pure mB_X11_sayerOf dX11_sayerOf_106 rfl
theorem rX11_sayerOf_107 : tA sc iX11_sayerOf 107 ls [vI x] h Q = Q (some (vI x)) h := tA_ret mB_X11_sayerOf dX11_sayerOf_107 (fun _ _ _ _ => rfl) (fun _ _ _ => rfl) (fun _ _ _ _ _ => rfl) rfl rfl
theorem mB_X11_mind : mB iX11_mind = cX11_mind := rfl
theorem mO_X11_mind : mO iX11_mind = 11 := rfl
theorem rX11_mind_0 : tA sc iX11_mind 0 [vR r, l1, l2, l3, l4] st h Q = tA sc iX11_mind 1 [vR r, l1, l2, l3, l4] (vR r :: st) h Q := tA_pure mB_X11_mind dX11_mind_0 rfl
theorem rX11_mind_1 : tA sc iX11_mind 1 [l0, vI x, l2, l3, l4] st h Q = tA sc iX11_mind 2 [l0, vI x, l2, l3, l4] (vI x :: st) h Q := tA_pure mB_X11_mind dX11_mind_1 rfl
theorem rX11_mind_2 (hci : tcl h o = some 11) : tA sc iX11_mind 2 ls [vI p0, vR (some o)] h Q = tA sc iX11_isSayer 0 [vR (some o), vI p0] [] h (fun v h1 => tA sc iX11_mind 5 ls (tpu v []) h1 Q) := tA_cV mB_X11_mind mO_X11_mind dX11_mind_2 cT_11_247 rfl (Nat.le_of_ble_eq_true rfl) rfl rfl rfl hci
theorem rX11_mind_5 : tA sc iX11_mind 5 ls (vI x :: st) h Q = (if x = 0 then tA sc iX11_mind 27 ls st h Q else tA sc iX11_mind 8 ls st h Q) := tA_if mB_X11_mind dX11_mind_5 (fun _ _ _ _ => rfl) rfl
theorem rX11_mind_8 : tA sc iX11_mind 8 [l0, l1, vI x, l3, l4] st h Q = tA sc iX11_mind 9 [l0, l1, vI x, l3, l4] (vI x :: st) h Q := tA_pure mB_X11_mind dX11_mind_8 rfl
theorem rX11_mind_9 : tA sc iX11_mind 9 ls st h Q = tA sc iX11_mind 10 ls (vI (0) :: st) h Q := tA_pure mB_X11_mind dX11_mind_9 rfl
theorem rX11_mind_10 : tA sc iX11_mind 10 ls st h Q = tA sc iX11_mind 11 ls (vI (5) :: st) h Q := tA_pure mB_X11_mind dX11_mind_10 rfl
theorem rX11_mind_11 : tA sc iX11_mind 11 ls [vI p2, vI p1, vI p0] h Q = tA sc iX11_in 0 [vI p0, vI p1, vI p2] [] h (fun v h1 => tA sc iX11_mind 14 ls (tpu v []) h1 Q) := tA_cS mB_X11_mind mO_X11_mind dX11_mind_11 cT_11_83 ⟨Nat.le_of_ble_eq_true rfl, Nat.le_of_ble_eq_true rfl⟩ rfl rfl rfl rfl
theorem rX11_mind_14 : tA sc iX11_mind 14 ls (vI x :: st) h Q = (if x = 0 then tA sc iX11_mind 27 ls st h Q else tA sc iX11_mind 17 ls st h Q) := tA_if mB_X11_mind dX11_mind_14 (fun _ _ _ _ => rfl) rfl
theorem rX11_mind_17 : tA sc iX11_mind 17 [l0, l1, l2, vI x, l4] st h Q = tA sc iX11_mind 18 [l0, l1, l2, vI x, l4] (vI x :: st) h Q := tA_pure mB_X11_mind dX11_mind_17 rfl
theorem rX11_mind_18 : tA sc iX11_mind 18 ls st h Q = tA sc iX11_mind 19 ls (vI (0) :: st) h Q := tA_pure mB_X11_mind dX11_mind_18 rfl
theorem rX11_mind_19 : tA sc iX11_mind 19 ls st h Q = tA sc iX11_mind 21 ls (vI (9) :: st) h Q := tA_pure mB_X11_mind dX11_mind_19 rfl
theorem rX11_mind_21 : tA sc iX11_mind 21 ls [vI p2, vI p1, vI p0] h Q = tA sc iX11_in 0 [vI p0, vI p1, vI p2] [] h (fun v h1 => tA sc iX11_mind 24 ls (tpu v []) h1 Q) := tA_cS mB_X11_mind mO_X11_mind dX11_mind_21 cT_11_83 ⟨Nat.le_of_ble_eq_true rfl, Nat.le_of_ble_eq_true rfl⟩ rfl rfl rfl rfl
theorem rX11_mind_24 : tA sc iX11_mind 24 ls (vI x :: st) h Q = (if ¬ x = 0 then tA sc iX11_mind 29 ls st h Q else tA sc iX11_mind 27 ls st h Q) := tA_if mB_X11_mind dX11_mind_24 (fun _ _ _ _ => rfl) rfl
theorem rX11_mind_27 : tA sc iX11_mind 27 ls st h Q = tA sc iX11_mind 28 ls (vI (-1) :: st) h Q := tA_pure mB_X11_mind dX11_mind_27 rfl
theorem rX11_mind_28 : tA sc iX11_mind 28 ls [vI x] h Q = Q (some (vI x)) h := tA_ret mB_X11_mind dX11_mind_28 (fun _ _ _ _ => rfl) (fun _ _ _ => rfl) (fun _ _ _ _ _ => rfl) rfl rfl
theorem rX11_mind_29 : tA sc iX11_mind 29 [vR r, l1, l2, l3, l4] st h Q = tA sc iX11_mind 30 [vR r, l1, l2, l3, l4] (vR r :: st) h Q := tA_pure mB_X11_mind dX11_mind_29 rfl
theorem rX11_mind_30 : tA sc iX11_mind 30 [l0, vI x, l2, l3, l4] st h Q = tA sc iX11_mind 31 [l0, vI x, l2, l3, l4] (vI x :: st) h Q := tA_pure mB_X11_mind dX11_mind_30 rfl
theorem rX11_mind_31 (hci : tcl h o = some 11) : tA sc iX11_mind 31 ls [vI p0, vR (some o)] h Q = tA sc iX11_kindOf 0 [vR (some o), vI p0] [] h (fun v h1 => tA sc iX11_mind 34 ls (tpu v []) h1 Q) := tA_cV mB_X11_mind mO_X11_mind dX11_mind_31 cT_11_250 rfl (Nat.le_of_ble_eq_true rfl) rfl rfl rfl hci
theorem rX11_mind_34 : tA sc iX11_mind 34 [l0, l1, l2, l3, l4] (vI x :: st) h Q = tA sc iX11_mind 36 [l0, l1, l2, tclr l3, vI x] st h Q := tA_pure mB_X11_mind dX11_mind_34 rfl
theorem rX11_mind_36 : tA sc iX11_mind 36 [vR r, l1, l2, l3, l4] st h Q = tA sc iX11_mind 37 [vR r, l1, l2, l3, l4] (vR r :: st) h Q := tA_pure mB_X11_mind dX11_mind_36 rfl
theorem rX11_mind_37 : tA sc iX11_mind 37 ls (vR (some o) :: st) h Q = oz (tget h o [11] 5) (fun v => tA sc iX11_mind 40 ls (v :: st) h Q) := tA_get mB_X11_mind mO_X11_mind dX11_mind_37 fT_11_19
theorem rX11_mind_40 : tA sc iX11_mind 40 ls st h Q = tA sc iX11_mind 41 ls (vI (2) :: st) h Q := tA_pure mB_X11_mind dX11_mind_40 rfl
theorem rX11_mind_41 : tA sc iX11_mind 41 [l0, vI x, l2, l3, l4] st h Q = tA sc iX11_mind 42 [l0, vI x, l2, l3, l4] (vI x :: st) h Q := tA_pure mB_X11_mind dX11_mind_41 rfl
theorem rX11_mind_42 : tA sc iX11_mind 42 ls (vI y :: vI x :: st) h Q = tA sc iX11_mind 43 ls (vI (x * y) :: st) h Q := tA_pure mB_X11_mind dX11_mind_42 rfl
theorem rX11_mind_43 : tA sc iX11_mind 43 [l0, l1, vI x, l3, l4] st h Q = tA sc iX11_mind 44 [l0, l1, vI x, l3, l4] (vI x :: st) h Q := tA_pure mB_X11_mind dX11_mind_43 rfl
theorem rX11_mind_44 : tA sc iX11_mind 44 ls (vI x :: vI j :: vR (some a) :: st) h Q = oz (tasi h a j x) (fun h' => tA sc iX11_mind 45 ls st h' Q) := tA_iast mB_X11_mind dX11_mind_44
theorem rX11_mind_45 : tA sc iX11_mind 45 [vR r, l1, l2, l3, l4] st h Q = tA sc iX11_mind 46 [vR r, l1, l2, l3, l4] (vR r :: st) h Q := tA_pure mB_X11_mind dX11_mind_45 rfl
theorem rX11_mind_46 : tA sc iX11_mind 46 ls (vR (some o) :: st) h Q = oz (tget h o [11] 5) (fun v => tA sc iX11_mind 49 ls (v :: st) h Q) := tA_get mB_X11_mind mO_X11_mind dX11_mind_46 fT_11_19
theorem rX11_mind_49 : tA sc iX11_mind 49 ls st h Q = tA sc iX11_mind 50 ls (vI (2) :: st) h Q := tA_pure mB_X11_mind dX11_mind_49 rfl
theorem rX11_mind_50 : tA sc iX11_mind 50 [l0, vI x, l2, l3, l4] st h Q = tA sc iX11_mind 51 [l0, vI x, l2, l3, l4] (vI x :: st) h Q := tA_pure mB_X11_mind dX11_mind_50 rfl
theorem rX11_mind_51 : tA sc iX11_mind 51 ls (vI y :: vI x :: st) h Q = tA sc iX11_mind 52 ls (vI (x * y) :: st) h Q := tA_pure mB_X11_mind dX11_mind_51 rfl
theorem rX11_mind_52 : tA sc iX11_mind 52 ls st h Q = tA sc iX11_mind 53 ls (vI (1) :: st) h Q := tA_pure mB_X11_mind dX11_mind_52 rfl
theorem rX11_mind_53 : tA sc iX11_mind 53 ls (vI y :: vI x :: st) h Q = tA sc iX11_mind 54 ls (vI (x + y) :: st) h Q := tA_pure mB_X11_mind dX11_mind_53 rfl
theorem rX11_mind_54 : tA sc iX11_mind 54 [l0, l1, l2, vI x, l4] st h Q = tA sc iX11_mind 55 [l0, l1, l2, vI x, l4] (vI x :: st) h Q := tA_pure mB_X11_mind dX11_mind_54 rfl
theorem rX11_mind_55 : tA sc iX11_mind 55 ls (vI x :: vI j :: vR (some a) :: st) h Q = oz (tasi h a j x) (fun h' => tA sc iX11_mind 56 ls st h' Q) := tA_iast mB_X11_mind dX11_mind_55
theorem rX11_mind_56 : tA sc iX11_mind 56 [l0, l1, l2, l3, vI x] st h Q = tA sc iX11_mind 58 [l0, l1, l2, l3, vI x] (vI x :: st) h Q := tA_pure mB_X11_mind dX11_mind_56 rfl
theorem rX11_mind_58 : tA sc iX11_mind 58 ls [vI x] h Q = Q (some (vI x)) h := tA_ret mB_X11_mind dX11_mind_58 (fun _ _ _ _ => rfl) (fun _ _ _ => rfl) (fun _ _ _ _ _ => rfl) rfl rfl
theorem mB_X11_purse : mB iX11_purse = cX11_purse := rfl
theorem mO_X11_purse : mO iX11_purse = 11 := rfl
theorem rX11_purse_0 : tA sc iX11_purse 0 [vR r, l1, l2, l3] st h Q = tA sc iX11_purse 1 [vR r, l1, l2, l3] (vR r :: st) h Q := tA_pure mB_X11_purse dX11_purse_0 rfl
theorem rX11_purse_1 : tA sc iX11_purse 1 [l0, vI x, l2, l3] st h Q = tA sc iX11_purse 2 [l0, vI x, l2, l3] (vI x :: st) h Q := tA_pure mB_X11_purse dX11_purse_1 rfl
theorem rX11_purse_2 (hci : tcl h o = some 11) : tA sc iX11_purse 2 ls [vI p0, vR (some o)] h Q = tA sc iX11_isSayer 0 [vR (some o), vI p0] [] h (fun v h1 => tA sc iX11_purse 5 ls (tpu v []) h1 Q) := tA_cV mB_X11_purse mO_X11_purse dX11_purse_2 cT_11_247 rfl (Nat.le_of_ble_eq_true rfl) rfl rfl rfl hci
theorem rX11_purse_5 : tA sc iX11_purse 5 ls (vI x :: st) h Q = (if x = 0 then tA sc iX11_purse 21 ls st h Q else tA sc iX11_purse 8 ls st h Q) := tA_if mB_X11_purse dX11_purse_5 (fun _ _ _ _ => rfl) rfl
theorem rX11_purse_8 : tA sc iX11_purse 8 [l0, l1, vI x, l3] st h Q = tA sc iX11_purse 9 [l0, l1, vI x, l3] (vI x :: st) h Q := tA_pure mB_X11_purse dX11_purse_8 rfl
theorem rX11_purse_9 : tA sc iX11_purse 9 ls st h Q = tA sc iX11_purse 12 ls (vI (-9999) :: st) h Q := tA_pure mB_X11_purse dX11_purse_9 rfl
theorem rX11_purse_12 : tA sc iX11_purse 12 ls st h Q = tA sc iX11_purse 15 ls (vI (9999) :: st) h Q := tA_pure mB_X11_purse dX11_purse_12 rfl
theorem rX11_purse_15 : tA sc iX11_purse 15 ls [vI p2, vI p1, vI p0] h Q = tA sc iX11_in 0 [vI p0, vI p1, vI p2] [] h (fun v h1 => tA sc iX11_purse 18 ls (tpu v []) h1 Q) := tA_cS mB_X11_purse mO_X11_purse dX11_purse_15 cT_11_83 ⟨Nat.le_of_ble_eq_true rfl, Nat.le_of_ble_eq_true rfl⟩ rfl rfl rfl rfl
theorem rX11_purse_18 : tA sc iX11_purse 18 ls (vI x :: st) h Q = (if ¬ x = 0 then tA sc iX11_purse 23 ls st h Q else tA sc iX11_purse 21 ls st h Q) := tA_if mB_X11_purse dX11_purse_18 (fun _ _ _ _ => rfl) rfl
theorem rX11_purse_21 : tA sc iX11_purse 21 ls st h Q = tA sc iX11_purse 22 ls (vI (-1) :: st) h Q := tA_pure mB_X11_purse dX11_purse_21 rfl
theorem rX11_purse_22 : tA sc iX11_purse 22 ls [vI x] h Q = Q (some (vI x)) h := tA_ret mB_X11_purse dX11_purse_22 (fun _ _ _ _ => rfl) (fun _ _ _ => rfl) (fun _ _ _ _ _ => rfl) rfl rfl
theorem rX11_purse_23 : tA sc iX11_purse 23 [vR r, l1, l2, l3] st h Q = tA sc iX11_purse 24 [vR r, l1, l2, l3] (vR r :: st) h Q := tA_pure mB_X11_purse dX11_purse_23 rfl
theorem rX11_purse_24 : tA sc iX11_purse 24 ls (vR (some o) :: st) h Q = oz (tget h o [11] 0) (fun v => tA sc iX11_purse 27 ls (v :: st) h Q) := tA_get mB_X11_purse mO_X11_purse dX11_purse_24 fT_11_7
theorem rX11_purse_27 : tA sc iX11_purse 27 ls st h Q = tA sc iX11_purse 29 ls (vI (43) :: st) h Q := tA_pure mB_X11_purse dX11_purse_27 rfl
theorem rX11_purse_29 : tA sc iX11_purse 29 [l0, vI x, l2, l3] st h Q = tA sc iX11_purse 30 [l0, vI x, l2, l3] (vI x :: st) h Q := tA_pure mB_X11_purse dX11_purse_29 rfl
theorem rX11_purse_30 : tA sc iX11_purse 30 ls (vI y :: vI x :: st) h Q = tA sc iX11_purse 31 ls (vI (x + y) :: st) h Q := tA_pure mB_X11_purse dX11_purse_30 rfl
theorem rX11_purse_31 : tA sc iX11_purse 31 ls (vI j :: vR (some a) :: st) h Q = oz (tald sc h 0 a j) (fun v => tA sc iX11_purse 32 ls (vI v :: st) h Q) := tA_iald mB_X11_purse dX11_purse_31
theorem rX11_purse_32 : tA sc iX11_purse 32 [l0, l1, l2, l3] (vI x :: st) h Q = tA sc iX11_purse 33 [l0, l1, tclr l2, vI x] st h Q := tA_pure mB_X11_purse dX11_purse_32 rfl
theorem rX11_purse_33 : tA sc iX11_purse 33 [vR r, l1, l2, l3] st h Q = tA sc iX11_purse 34 [vR r, l1, l2, l3] (vR r :: st) h Q := tA_pure mB_X11_purse dX11_purse_33 rfl
theorem rX11_purse_34 : tA sc iX11_purse 34 ls (vR (some o) :: st) h Q = oz (tget h o [11] 0) (fun v => tA sc iX11_purse 37 ls (v :: st) h Q) := tA_get mB_X11_purse mO_X11_purse dX11_purse_34 fT_11_7
theorem rX11_purse_37 : tA sc iX11_purse 37 ls st h Q = tA sc iX11_purse 39 ls (vI (43) :: st) h Q := tA_pure mB_X11_purse dX11_purse_37 rfl
theorem rX11_purse_39 : tA sc iX11_purse 39 [l0, vI x, l2, l3] st h Q = tA sc iX11_purse 40 [l0, vI x, l2, l3] (vI x :: st) h Q := tA_pure mB_X11_purse dX11_purse_39 rfl
theorem rX11_purse_40 : tA sc iX11_purse 40 ls (vI y :: vI x :: st) h Q = tA sc iX11_purse 41 ls (vI (x + y) :: st) h Q := tA_pure mB_X11_purse dX11_purse_40 rfl
theorem rX11_purse_41 : tA sc iX11_purse 41 [l0, l1, vI x, l3] st h Q = tA sc iX11_purse 42 [l0, l1, vI x, l3] (vI x :: st) h Q := tA_pure mB_X11_purse dX11_purse_41 rfl
theorem rX11_purse_42 : tA sc iX11_purse 42 ls (vI x :: vI j :: vR (some a) :: st) h Q = oz (tasi h a j x) (fun h' => tA sc iX11_purse 43 ls st h' Q) := tA_iast mB_X11_purse dX11_purse_42
theorem rX11_purse_43 : tA sc iX11_purse 43 ls st h Q = tA sc iX11_purse 46 ls (vI (100000) :: st) h Q := tA_pure mB_X11_purse dX11_purse_43 rfl
theorem rX11_purse_46 : tA sc iX11_purse 46 [l0, l1, l2, vI x] st h Q = tA sc iX11_purse 47 [l0, l1, l2, vI x] (vI x :: st) h Q := tA_pure mB_X11_purse dX11_purse_46 rfl
theorem rX11_purse_47 : tA sc iX11_purse 47 ls (vI y :: vI x :: st) h Q = tA sc iX11_purse 48 ls (vI (x + y) :: st) h Q := tA_pure mB_X11_purse dX11_purse_47 rfl
theorem rX11_purse_48 : tA sc iX11_purse 48 ls [vI x] h Q = Q (some (vI x)) h := tA_ret mB_X11_purse dX11_purse_48 (fun _ _ _ _ => rfl) (fun _ _ _ => rfl) (fun _ _ _ _ _ => rfl) rfl rfl
theorem mB_X11_says : mB iX11_says = cX11_says := rfl
theorem mO_X11_says : mO iX11_says = 11 := rfl
theorem rX11_says_0 : tA sc iX11_says 0 [vR r, l1, l2, l3, l4] st h Q = tA sc iX11_says 1 [vR r, l1, l2, l3, l4] (vR r :: st) h Q := tA_pure mB_X11_says dX11_says_0 rfl
theorem rX11_says_1 : tA sc iX11_says 1 ls (vR (some o) :: st) h Q = oz (tget h o [11] 1) (fun v => tA sc iX11_says 4 ls (v :: st) h Q) := tA_get mB_X11_says mO_X11_says dX11_says_1 fT_11_91
theorem rX11_says_4 : tA sc iX11_says 4 ls st h Q = tA sc iX11_says 6 ls (vI (48) :: st) h Q := tA_pure mB_X11_says dX11_says_4 rfl
theorem rX11_says_6 : tA sc iX11_says 6 ls (vI y :: vI x :: st) h Q = tA sc iX11_says 7 ls (vI (x + y) :: st) h Q := tA_pure mB_X11_says dX11_says_6 rfl
theorem rX11_says_7 : tA sc iX11_says 7 ls st h Q = tA sc iX11_says 8 ls (vI (3) :: st) h Q := tA_pure mB_X11_says dX11_says_7 rfl
theorem rX11_says_8 : tA sc iX11_says 8 [vR r, l1, l2, l3, l4] st h Q = tA sc iX11_says 9 [vR r, l1, l2, l3, l4] (vR r :: st) h Q := tA_pure mB_X11_says dX11_says_8 rfl
theorem rX11_says_9 : tA sc iX11_says 9 ls st h Q = tA sc iX11_says 10 ls (vI (2) :: st) h Q := tA_pure mB_X11_says dX11_says_9 rfl
theorem rX11_says_10 (hci : tcl h o = some 11) : tA sc iX11_says 10 ls [vI p0, vR (some o), s0, s1] h Q = tA sc iX11_its 0 [vR (some o), vI p0] [] h (fun v h1 => tA sc iX11_says 13 ls (tpu v [s0, s1]) h1 Q) := tA_cV mB_X11_says mO_X11_says dX11_says_10 cT_11_225 rfl (Nat.le_of_ble_eq_true rfl) rfl rfl rfl hci
theorem rX11_says_13 : tA sc iX11_says 13 ls (vI y :: vI x :: st) h Q = tA sc iX11_says 14 ls (vI (x * y) :: st) h Q := tA_pure mB_X11_says dX11_says_13 rfl
theorem rX11_says_14 : tA sc iX11_says 14 ls (vI y :: vI x :: st) h Q = tA sc iX11_says 15 ls (vI (x + y) :: st) h Q := tA_pure mB_X11_says dX11_says_14 rfl
theorem rX11_says_15 : tA sc iX11_says 15 [l0, l1, l2, l3, l4] (vI x :: st) h Q = tA sc iX11_says 17 [l0, l1, l2, tclr l3, vI x] st h Q := tA_pure mB_X11_says dX11_says_15 rfl
theorem rX11_says_17 : tA sc iX11_says 17 [vR r, l1, l2, l3, l4] st h Q = tA sc iX11_says 18 [vR r, l1, l2, l3, l4] (vR r :: st) h Q := tA_pure mB_X11_says dX11_says_17 rfl
theorem rX11_says_18 : tA sc iX11_says 18 ls (vR (some o) :: st) h Q = oz (tget h o [11] 0) (fun v => tA sc iX11_says 21 ls (v :: st) h Q) := tA_get mB_X11_says mO_X11_says dX11_says_18 fT_11_7
theorem rX11_says_21 : tA sc iX11_says 21 [l0, l1, l2, l3, vI x] st h Q = tA sc iX11_says 23 [l0, l1, l2, l3, vI x] (vI x :: st) h Q := tA_pure mB_X11_says dX11_says_21 rfl
theorem rX11_says_23 : tA sc iX11_says 23 [l0, vI x, l2, l3, l4] st h Q = tA sc iX11_says 24 [l0, vI x, l2, l3, l4] (vI x :: st) h Q := tA_pure mB_X11_says dX11_says_23 rfl
theorem rX11_says_24 : tA sc iX11_says 24 ls (vI x :: vI j :: vR (some a) :: st) h Q = oz (tasi h a j x) (fun h' => tA sc iX11_says 25 ls st h' Q) := tA_iast mB_X11_says dX11_says_24
theorem rX11_says_25 : tA sc iX11_says 25 [vR r, l1, l2, l3, l4] st h Q = tA sc iX11_says 26 [vR r, l1, l2, l3, l4] (vR r :: st) h Q := tA_pure mB_X11_says dX11_says_25 rfl
theorem rX11_says_26 : tA sc iX11_says 26 ls (vR (some o) :: st) h Q = oz (tget h o [11] 0) (fun v => tA sc iX11_says 29 ls (v :: st) h Q) := tA_get mB_X11_says mO_X11_says dX11_says_26 fT_11_7
theorem rX11_says_29 : tA sc iX11_says 29 [l0, l1, l2, l3, vI x] st h Q = tA sc iX11_says 31 [l0, l1, l2, l3, vI x] (vI x :: st) h Q := tA_pure mB_X11_says dX11_says_29 rfl
theorem rX11_says_31 : tA sc iX11_says 31 ls st h Q = tA sc iX11_says 32 ls (vI (1) :: st) h Q := tA_pure mB_X11_says dX11_says_31 rfl
theorem rX11_says_32 : tA sc iX11_says 32 ls (vI y :: vI x :: st) h Q = tA sc iX11_says 33 ls (vI (x + y) :: st) h Q := tA_pure mB_X11_says dX11_says_32 rfl
theorem rX11_says_33 : tA sc iX11_says 33 [l0, l1, vI x, l3, l4] st h Q = tA sc iX11_says 34 [l0, l1, vI x, l3, l4] (vI x :: st) h Q := tA_pure mB_X11_says dX11_says_33 rfl
theorem rX11_says_34 : tA sc iX11_says 34 ls (vI x :: vI j :: vR (some a) :: st) h Q = oz (tasi h a j x) (fun h' => tA sc iX11_says 35 ls st h' Q) := tA_iast mB_X11_says dX11_says_34
theorem rX11_says_35 : tA sc iX11_says 35 [vR r, l1, l2, l3, l4] st h Q = tA sc iX11_says 36 [vR r, l1, l2, l3, l4] (vR r :: st) h Q := tA_pure mB_X11_says dX11_says_35 rfl
theorem rX11_says_36 : tA sc iX11_says 36 ls (vR (some o) :: st) h Q = oz (tget h o [11] 0) (fun v => tA sc iX11_says 39 ls (v :: st) h Q) := tA_get mB_X11_says mO_X11_says dX11_says_36 fT_11_7
theorem rX11_says_39 : tA sc iX11_says 39 [l0, l1, l2, l3, vI x] st h Q = tA sc iX11_says 41 [l0, l1, l2, l3, vI x] (vI x :: st) h Q := tA_pure mB_X11_says dX11_says_39 rfl
theorem rX11_says_41 : tA sc iX11_says 41 ls st h Q = tA sc iX11_says 42 ls (vI (2) :: st) h Q := tA_pure mB_X11_says dX11_says_41 rfl
theorem rX11_says_42 : tA sc iX11_says 42 ls (vI y :: vI x :: st) h Q = tA sc iX11_says 43 ls (vI (x + y) :: st) h Q := tA_pure mB_X11_says dX11_says_42 rfl
theorem rX11_says_43 : tA sc iX11_says 43 [l0, l1, l2, vI x, l4] st h Q = tA sc iX11_says 44 [l0, l1, l2, vI x, l4] (vI x :: st) h Q := tA_pure mB_X11_says dX11_says_43 rfl
theorem rX11_says_44 : tA sc iX11_says 44 ls (vI x :: vI j :: vR (some a) :: st) h Q = oz (tasi h a j x) (fun h' => tA sc iX11_says 45 ls st h' Q) := tA_iast mB_X11_says dX11_says_44
theorem rX11_says_45 : tA sc iX11_says 45 [vR r, l1, l2, l3, l4] st h Q = tA sc iX11_says 46 [vR r, l1, l2, l3, l4] (vR r :: st) h Q := tA_pure mB_X11_says dX11_says_45 rfl
theorem rX11_says_46 : tA sc iX11_says 46 ls (vR (some o) :: st) h Q = oz (tget h o [11] 0) (fun v => tA sc iX11_says 49 ls (v :: st) h Q) := tA_get mB_X11_says mO_X11_says dX11_says_46 fT_11_7
theorem rX11_says_49 : tA sc iX11_says 49 [vR r, l1, l2, l3, l4] st h Q = tA sc iX11_says 50 [vR r, l1, l2, l3, l4] (vR r :: st) h Q := tA_pure mB_X11_says dX11_says_49 rfl
theorem rX11_says_50 : tA sc iX11_says 50 ls (vR (some o) :: st) h Q = oz (tget h o [11] 1) (fun v => tA sc iX11_says 53 ls (v :: st) h Q) := tA_get mB_X11_says mO_X11_says dX11_says_50 fT_11_91
theorem rX11_says_53 : tA sc iX11_says 53 ls st h Q = tA sc iX11_says 54 ls (vI (2) :: st) h Q := tA_pure mB_X11_says dX11_says_53 rfl
theorem rX11_says_54 : tA sc iX11_says 54 ls (vI y :: vI x :: st) h Q = tA sc iX11_says 55 ls (vI (x + y) :: st) h Q := tA_pure mB_X11_says dX11_says_54 rfl
theorem rX11_says_55 : tA sc iX11_says 55 ls (vI x :: vR r :: st) h Q = tA sc iX11_says 56 ls (vI x :: vR r :: vI x :: vR r :: st) h Q := tA_pure mB_X11_says dX11_says_55 rfl
theorem rX11_says_56 : tA sc iX11_says 56 ls (vI j :: vR (some a) :: st) h Q = oz (tald sc h 0 a j) (fun v => tA sc iX11_says 57 ls (vI v :: st) h Q) := tA_iald mB_X11_says dX11_says_56
theorem rX11_says_57 : tA sc iX11_says 57 ls st h Q = tA sc iX11_says 58 ls (vI (1) :: st) h Q := tA_pure mB_X11_says dX11_says_57 rfl
theorem rX11_says_58 : tA sc iX11_says 58 ls (vI y :: vI x :: st) h Q = tA sc iX11_says 59 ls (vI (x + y) :: st) h Q := tA_pure mB_X11_says dX11_says_58 rfl
theorem rX11_says_59 : tA sc iX11_says 59 ls (vI x :: vI j :: vR (some a) :: st) h Q = oz (tasi h a j x) (fun h' => tA sc iX11_says 60 ls st h' Q) := tA_iast mB_X11_says dX11_says_59
theorem rX11_says_60 : tA sc iX11_says 60 [vR r, l1, l2, l3, l4] st h Q = tA sc iX11_says 61 [vR r, l1, l2, l3, l4] (vR r :: st) h Q := tA_pure mB_X11_says dX11_says_60 rfl
theorem rX11_says_61 : tA sc iX11_says 61 ls (vR (some o) :: st) h Q = oz (tget h o [11] 0) (fun v => tA sc iX11_says 64 ls (v :: st) h Q) := tA_get mB_X11_says mO_X11_says dX11_says_61 fT_11_7
theorem rX11_says_64 : tA sc iX11_says 64 [vR r, l1, l2, l3, l4] st h Q = tA sc iX11_says 65 [vR r, l1, l2, l3, l4] (vR r :: st) h Q := tA_pure mB_X11_says dX11_says_64 rfl
theorem rX11_says_65 : tA sc iX11_says 65 ls (vR (some o) :: st) h Q = oz (tget h o [11] 1) (fun v => tA sc iX11_says 68 ls (v :: st) h Q) := tA_get mB_X11_says mO_X11_says dX11_says_65 fT_11_91
theorem rX11_says_68 : tA sc iX11_says 68 ls st h Q = tA sc iX11_says 70 ls (vI (43) :: st) h Q := tA_pure mB_X11_says dX11_says_68 rfl
theorem rX11_says_70 : tA sc iX11_says 70 ls (vI y :: vI x :: st) h Q = tA sc iX11_says 71 ls (vI (x + y) :: st) h Q := tA_pure mB_X11_says dX11_says_70 rfl
theorem rX11_says_71 : tA sc iX11_says 71 [l0, vI x, l2, l3, l4] st h Q = tA sc iX11_says 72 [l0, vI x, l2, l3, l4] (vI x :: st) h Q := tA_pure mB_X11_says dX11_says_71 rfl
theorem rX11_says_72 : tA sc iX11_says 72 ls (vI y :: vI x :: st) h Q = tA sc iX11_says 73 ls (vI (x + y) :: st) h Q := tA_pure mB_X11_says dX11_says_72 rfl
theorem rX11_says_73 : tA sc iX11_says 73 ls (vI x :: vR r :: st) h Q = tA sc iX11_says 74 ls (vI x :: vR r :: vI x :: vR r :: st) h Q := tA_pure mB_X11_says dX11_says_73 rfl
theorem rX11_says_74 : tA sc iX11_says 74 ls (vI j :: vR (some a) :: st) h Q = oz (tald sc h 0 a j) (fun v => tA sc iX11_says 75 ls (vI v :: st) h Q) := tA_iald mB_X11_says dX11_says_74
theorem rX11_says_75 : tA sc iX11_says 75 [vR r, l1, l2, l3, l4] st h Q = tA sc iX11_says 76 [vR r, l1, l2, l3, l4] (vR r :: st) h Q := tA_pure mB_X11_says dX11_says_75 rfl
theorem rX11_says_76 : tA sc iX11_says 76 ls (vR (some o) :: st) h Q = oz (tget h o [11] 6) (fun v => tA sc iX11_says 79 ls (v :: st) h Q) := tA_get mB_X11_says mO_X11_says dX11_says_76 fT_11_22
theorem rX11_says_79 : tA sc iX11_says 79 ls st h Q = tA sc iX11_says 80 ls (vI (2) :: st) h Q := tA_pure mB_X11_says dX11_says_79 rfl
theorem rX11_says_80 : tA sc iX11_says 80 ls (vI j :: vR (some a) :: st) h Q = oz (tald sc h 0 a j) (fun v => tA sc iX11_says 81 ls (vI v :: st) h Q) := tA_iald mB_X11_says dX11_says_80
theorem rX11_says_81 : tA sc iX11_says 81 ls (vI y :: vI x :: st) h Q = tA sc iX11_says 82 ls (vI (x - y) :: st) h Q := tA_pure mB_X11_says dX11_says_81 rfl
theorem rX11_says_82 : tA sc iX11_says 82 ls (vI x :: vI j :: vR (some a) :: st) h Q = oz (tasi h a j x) (fun h' => tA sc iX11_says 83 ls st h' Q) := tA_iast mB_X11_says dX11_says_82
theorem rX11_says_83 : tA sc iX11_says 83 ls [] h Q = Q (none) h := tA_ret mB_X11_says dX11_says_83 (fun _ _ _ _ => rfl) (fun _ _ _ => rfl) (fun _ _ _ _ _ => rfl) rfl rfl
theorem mB_X11_say : mB iX11_say = cX11_say := rfl
theorem mO_X11_say : mO iX11_say = 11 := rfl
theorem rX11_say_0 : tA sc iX11_say 0 [vR r, l1, l2, l3] st h Q = tA sc iX11_say 1 [vR r, l1, l2, l3] (vR r :: st) h Q := tA_pure mB_X11_say dX11_say_0 rfl
theorem rX11_say_1 : tA sc iX11_say 1 [l0, vI x, l2, l3] st h Q = tA sc iX11_say 2 [l0, vI x, l2, l3] (vI x :: st) h Q := tA_pure mB_X11_say dX11_say_1 rfl
theorem rX11_say_2 (hci : tcl h o = some 11) : tA sc iX11_say 2 ls [vI p0, vR (some o)] h Q = tA sc iX11_isSayer 0 [vR (some o), vI p0] [] h (fun v h1 => tA sc iX11_say 5 ls (tpu v []) h1 Q) := tA_cV mB_X11_say mO_X11_say dX11_say_2 cT_11_247 rfl (Nat.le_of_ble_eq_true rfl) rfl rfl rfl hci
theorem rX11_say_5 : tA sc iX11_say 5 ls (vI x :: st) h Q = (if x = 0 then tA sc iX11_say 30 ls st h Q else tA sc iX11_say 8 ls st h Q) := tA_if mB_X11_say dX11_say_5 (fun _ _ _ _ => rfl) rfl
theorem rX11_say_8 : tA sc iX11_say 8 [l0, l1, vI x, l3] st h Q = tA sc iX11_say 9 [l0, l1, vI x, l3] (vI x :: st) h Q := tA_pure mB_X11_say dX11_say_8 rfl
theorem rX11_say_9 : tA sc iX11_say 9 [vR r, l1, l2, l3] st h Q = tA sc iX11_say 10 [vR r, l1, l2, l3] (vR r :: st) h Q := tA_pure mB_X11_say dX11_say_9 rfl
theorem rX11_say_10 : tA sc iX11_say 10 ls (vR (some o) :: st) h Q = oz (tget h o [11] 0) (fun v => tA sc iX11_say 13 ls (v :: st) h Q) := tA_get mB_X11_say mO_X11_say dX11_say_10 fT_11_7
theorem rX11_say_13 : tA sc iX11_say 13 ls st h Q = tA sc iX11_say 14 ls (vI (0) :: st) h Q := tA_pure mB_X11_say dX11_say_13 rfl
theorem rX11_say_14 : tA sc iX11_say 14 ls (vI j :: vR (some a) :: st) h Q = oz (tald sc h 0 a j) (fun v => tA sc iX11_say 15 ls (vI v :: st) h Q) := tA_iald mB_X11_say dX11_say_14
theorem rX11_say_15 : tA sc iX11_say 15 ls st h Q = tA sc iX11_say 17 ls (vI (19) :: st) h Q := tA_pure mB_X11_say dX11_say_15 rfl
theorem rX11_say_17 : tA sc iX11_say 17 ls [vI p2, vI p1, vI p0] h Q = tA sc iX11_in 0 [vI p0, vI p1, vI p2] [] h (fun v h1 => tA sc iX11_say 20 ls (tpu v []) h1 Q) := tA_cS mB_X11_say mO_X11_say dX11_say_17 cT_11_83 ⟨Nat.le_of_ble_eq_true rfl, Nat.le_of_ble_eq_true rfl⟩ rfl rfl rfl rfl
theorem rX11_say_20 : tA sc iX11_say 20 ls (vI x :: st) h Q = (if x = 0 then tA sc iX11_say 30 ls st h Q else tA sc iX11_say 23 ls st h Q) := tA_if mB_X11_say dX11_say_20 (fun _ _ _ _ => rfl) rfl
theorem rX11_say_23 : tA sc iX11_say 23 [l0, l1, l2, vI x] st h Q = tA sc iX11_say 24 [l0, l1, l2, vI x] (vI x :: st) h Q := tA_pure mB_X11_say dX11_say_23 rfl
theorem rX11_say_24 : tA sc iX11_say 24 ls [vI p0] h Q = tA sc iX11_isWeather 0 [vI p0] [] h (fun v h1 => tA sc iX11_say 27 ls (tpu v []) h1 Q) := tA_cS mB_X11_say mO_X11_say dX11_say_24 cT_11_219 ⟨Nat.le_of_ble_eq_true rfl, Nat.le_of_ble_eq_true rfl⟩ rfl rfl rfl rfl
theorem rX11_say_27 : tA sc iX11_say 27 ls (vI x :: st) h Q = (if ¬ x = 0 then tA sc iX11_say 32 ls st h Q else tA sc iX11_say 30 ls st h Q) := tA_if mB_X11_say dX11_say_27 (fun _ _ _ _ => rfl) rfl
theorem rX11_say_30 : tA sc iX11_say 30 ls st h Q = tA sc iX11_say 31 ls (vI (-1) :: st) h Q := tA_pure mB_X11_say dX11_say_30 rfl
theorem rX11_say_31 : tA sc iX11_say 31 ls [vI x] h Q = Q (some (vI x)) h := tA_ret mB_X11_say dX11_say_31 (fun _ _ _ _ => rfl) (fun _ _ _ => rfl) (fun _ _ _ _ _ => rfl) rfl rfl
theorem rX11_say_32 : tA sc iX11_say 32 [vR r, l1, l2, l3] st h Q = tA sc iX11_say 33 [vR r, l1, l2, l3] (vR r :: st) h Q := tA_pure mB_X11_say dX11_say_32 rfl
theorem rX11_say_33 : tA sc iX11_say 33 [l0, l1, vI x, l3] st h Q = tA sc iX11_say 34 [l0, l1, vI x, l3] (vI x :: st) h Q := tA_pure mB_X11_say dX11_say_33 rfl
theorem rX11_say_34 (hci : tcl h o = some 11) : tA sc iX11_say 34 ls [vI p0, vR (some o)] h Q = tA sc iX11_saidOf 0 [vR (some o), vI p0, vU, vU] [] h (fun v h1 => tA sc iX11_say 37 ls (tpu v []) h1 Q) := tA_cV mB_X11_say mO_X11_say dX11_say_34 cT_11_244 rfl (Nat.le_of_ble_eq_true rfl) rfl rfl rfl hci
theorem rX11_say_37 : tA sc iX11_say 37 [l0, l1, l2, vI x] st h Q = tA sc iX11_say 38 [l0, l1, l2, vI x] (vI x :: st) h Q := tA_pure mB_X11_say dX11_say_37 rfl
theorem rX11_say_38 : tA sc iX11_say 38 ls (vI y :: vI x :: st) h Q = tA sc iX11_say 39 ls (vI (x >>> (y &&& 31)) :: st) h Q := tA_pure mB_X11_say dX11_say_38 rfl
theorem rX11_say_39 : tA sc iX11_say 39 ls st h Q = tA sc iX11_say 40 ls (vI (1) :: st) h Q := tA_pure mB_X11_say dX11_say_39 rfl
theorem rX11_say_40 : tA sc iX11_say 40 ls (vI y :: vI x :: st) h Q = tA sc iX11_say 41 ls (vI (x &&& y) :: st) h Q := tA_pure mB_X11_say dX11_say_40 rfl
theorem rX11_say_41 : tA sc iX11_say 41 ls st h Q = tA sc iX11_say 42 ls (vI (1) :: st) h Q := tA_pure mB_X11_say dX11_say_41 rfl
theorem rX11_say_42 : tA sc iX11_say 42 ls (vI y :: vI x :: st) h Q = (if ¬ x = y then tA sc iX11_say 48 ls st h Q else tA sc iX11_say 45 ls st h Q) := tA_if mB_X11_say dX11_say_42 (fun _ _ _ _ => rfl) rfl
theorem rX11_say_45 : tA sc iX11_say 45 ls st h Q = tA sc iX11_say 47 ls (vI (-4) :: st) h Q := tA_pure mB_X11_say dX11_say_45 rfl
theorem rX11_say_47 : tA sc iX11_say 47 ls [vI x] h Q = Q (some (vI x)) h := tA_ret mB_X11_say dX11_say_47 (fun _ _ _ _ => rfl) (fun _ _ _ => rfl) (fun _ _ _ _ _ => rfl) rfl rfl
theorem rX11_say_48 : tA sc iX11_say 48 [vR r, l1, l2, l3] st h Q = tA sc iX11_say 49 [vR r, l1, l2, l3] (vR r :: st) h Q := tA_pure mB_X11_say dX11_say_48 rfl
theorem rX11_say_49 : tA sc iX11_say 49 ls (vR (some o) :: st) h Q = oz (tget h o [11] 0) (fun v => tA sc iX11_say 52 ls (v :: st) h Q) := tA_get mB_X11_say mO_X11_say dX11_say_49 fT_11_7
theorem rX11_say_52 : tA sc iX11_say 52 ls st h Q = tA sc iX11_say 53 ls (vI (2) :: st) h Q := tA_pure mB_X11_say dX11_say_52 rfl
theorem rX11_say_53 : tA sc iX11_say 53 ls (vI j :: vR (some a) :: st) h Q = oz (tald sc h 0 a j) (fun v => tA sc iX11_say 54 ls (vI v :: st) h Q) := tA_iald mB_X11_say dX11_say_53
theorem rX11_say_54 : tA sc iX11_say 54 ls st h Q = tA sc iX11_say 56 ls (vI (40) :: st) h Q := tA_pure mB_X11_say dX11_say_54 rfl
theorem rX11_say_56 : tA sc iX11_say 56 ls (vI y :: vI x :: st) h Q = (if ¬ x = y then tA sc iX11_say 62 ls st h Q else tA sc iX11_say 59 ls st h Q) := tA_if mB_X11_say dX11_say_56 (fun _ _ _ _ => rfl) rfl
theorem rX11_say_59 : tA sc iX11_say 59 ls st h Q = tA sc iX11_say 61 ls (vI (-2) :: st) h Q := tA_pure mB_X11_say dX11_say_59 rfl
theorem rX11_say_61 : tA sc iX11_say 61 ls [vI x] h Q = Q (some (vI x)) h := tA_ret mB_X11_say dX11_say_61 (fun _ _ _ _ => rfl) (fun _ _ _ => rfl) (fun _ _ _ _ _ => rfl) rfl rfl
theorem rX11_say_62 : tA sc iX11_say 62 [vR r, l1, l2, l3] st h Q = tA sc iX11_say 63 [vR r, l1, l2, l3] (vR r :: st) h Q := tA_pure mB_X11_say dX11_say_62 rfl
theorem rX11_say_63 : tA sc iX11_say 63 [l0, vI x, l2, l3] st h Q = tA sc iX11_say 64 [l0, vI x, l2, l3] (vI x :: st) h Q := tA_pure mB_X11_say dX11_say_63 rfl
theorem rX11_say_64 : tA sc iX11_say 64 [l0, l1, vI x, l3] st h Q = tA sc iX11_say 65 [l0, l1, vI x, l3] (vI x :: st) h Q := tA_pure mB_X11_say dX11_say_64 rfl
theorem rX11_say_65 : tA sc iX11_say 65 [l0, l1, l2, vI x] st h Q = tA sc iX11_say 66 [l0, l1, l2, vI x] (vI x :: st) h Q := tA_pure mB_X11_say dX11_say_65 rfl
theorem rX11_say_66 (hci : tcl h o = some 11) : tA sc iX11_say 66 ls [vI p2, vI p1, vI p0, vR (some o)] h Q = tA sc iX11_says 0 [vR (some o), vI p0, vI p1, vI p2, vU] [] h (fun v h1 => tA sc iX11_say 69 ls (tpu v []) h1 Q) := tA_cV mB_X11_say mO_X11_say dX11_say_66 cT_11_257 rfl (Nat.le_of_ble_eq_true rfl) rfl rfl rfl hci
theorem rX11_say_69 : tA sc iX11_say 69 [vR r, l1, l2, l3] st h Q = tA sc iX11_say 70 [vR r, l1, l2, l3] (vR r :: st) h Q := tA_pure mB_X11_say dX11_say_69 rfl
theorem rX11_say_70 : tA sc iX11_say 70 ls (vR (some o) :: st) h Q = oz (tget h o [11] 0) (fun v => tA sc iX11_say 73 ls (v :: st) h Q) := tA_get mB_X11_say mO_X11_say dX11_say_70 fT_11_7
theorem rX11_say_73 : tA sc iX11_say 73 ls st h Q = tA sc iX11_say 74 ls (vI (2) :: st) h Q := tA_pure mB_X11_say dX11_say_73 rfl
theorem rX11_say_74 : tA sc iX11_say 74 ls (vI j :: vR (some a) :: st) h Q = oz (tald sc h 0 a j) (fun v => tA sc iX11_say 75 ls (vI v :: st) h Q) := tA_iald mB_X11_say dX11_say_74
theorem rX11_say_75 : tA sc iX11_say 75 ls st h Q = tA sc iX11_say 76 ls (vI (1) :: st) h Q := tA_pure mB_X11_say dX11_say_75 rfl
theorem rX11_say_76 : tA sc iX11_say 76 ls (vI y :: vI x :: st) h Q = tA sc iX11_say 77 ls (vI (x - y) :: st) h Q := tA_pure mB_X11_say dX11_say_76 rfl
theorem rX11_say_77 : tA sc iX11_say 77 ls [vI x] h Q = Q (some (vI x)) h := tA_ret mB_X11_say dX11_say_77 (fun _ _ _ _ => rfl) (fun _ _ _ => rfl) (fun _ _ _ _ _ => rfl) rfl rfl
theorem mB_X11_sayingOf : mB iX11_sayingOf = cX11_sayingOf := rfl
theorem mO_X11_sayingOf : mO iX11_sayingOf = 11 := rfl
theorem rX11_sayingOf_0 : tA sc iX11_sayingOf 0 [l0, vI x, l2] st h Q = tA sc iX11_sayingOf 1 [l0, vI x, l2] (vI x :: st) h Q := tA_pure mB_X11_sayingOf dX11_sayingOf_0 rfl
theorem rX11_sayingOf_1 : tA sc iX11_sayingOf 1 ls st h Q = tA sc iX11_sayingOf 2 ls (vI (0) :: st) h Q := tA_pure mB_X11_sayingOf dX11_sayingOf_1 rfl
theorem rX11_sayingOf_2 : tA sc iX11_sayingOf 2 [vR r, l1, l2] st h Q = tA sc iX11_sayingOf 3 [vR r, l1, l2] (vR r :: st) h Q := tA_pure mB_X11_sayingOf dX11_sayingOf_2 rfl
theorem rX11_sayingOf_3 : tA sc iX11_sayingOf 3 ls (vR (some o) :: st) h Q = oz (tget h o [11] 0) (fun v => tA sc iX11_sayingOf 6 ls (v :: st) h Q) := tA_get mB_X11_sayingOf mO_X11_sayingOf dX11_sayingOf_3 fT_11_7
theorem rX11_sayingOf_6 : tA sc iX11_sayingOf 6 ls st h Q = tA sc iX11_sayingOf 7 ls (vI (2) :: st) h Q := tA_pure mB_X11_sayingOf dX11_sayingOf_6 rfl
theorem rX11_sayingOf_7 : tA sc iX11_sayingOf 7 ls (vI j :: vR (some a) :: st) h Q = oz (tald sc h 0 a j) (fun v => tA sc iX11_sayingOf 8 ls (vI v :: st) h Q) := tA_iald mB_X11_sayingOf dX11_sayingOf_7
theorem rX11_sayingOf_8 : tA sc iX11_sayingOf 8 ls st h Q = tA sc iX11_sayingOf 9 ls (vI (1) :: st) h Q := tA_pure mB_X11_sayingOf dX11_sayingOf_8 rfl
theorem rX11_sayingOf_9 : tA sc iX11_sayingOf 9 ls (vI y :: vI x :: st) h Q = tA sc iX11_sayingOf 10 ls (vI (x - y) :: st) h Q := tA_pure mB_X11_sayingOf dX11_sayingOf_9 rfl
theorem rX11_sayingOf_10 : tA sc iX11_sayingOf 10 ls [vI p2, vI p1, vI p0] h Q = tA sc iX11_in 0 [vI p0, vI p1, vI p2] [] h (fun v h1 => tA sc iX11_sayingOf 13 ls (tpu v []) h1 Q) := tA_cS mB_X11_sayingOf mO_X11_sayingOf dX11_sayingOf_10 cT_11_83 ⟨Nat.le_of_ble_eq_true rfl, Nat.le_of_ble_eq_true rfl⟩ rfl rfl rfl rfl
theorem rX11_sayingOf_13 : tA sc iX11_sayingOf 13 ls (vI x :: st) h Q = (if x = 0 then tA sc iX11_sayingOf 25 ls st h Q else tA sc iX11_sayingOf 16 ls st h Q) := tA_if mB_X11_sayingOf dX11_sayingOf_13 (fun _ _ _ _ => rfl) rfl
theorem rX11_sayingOf_16 : tA sc iX11_sayingOf 16 [l0, l1, vI x] st h Q = tA sc iX11_sayingOf 17 [l0, l1, vI x] (vI x :: st) h Q := tA_pure mB_X11_sayingOf dX11_sayingOf_16 rfl
theorem rX11_sayingOf_17 : tA sc iX11_sayingOf 17 ls st h Q = tA sc iX11_sayingOf 18 ls (vI (0) :: st) h Q := tA_pure mB_X11_sayingOf dX11_sayingOf_17 rfl
theorem rX11_sayingOf_18 : tA sc iX11_sayingOf 18 ls st h Q = tA sc iX11_sayingOf 19 ls (vI (3) :: st) h Q := tA_pure mB_X11_sayingOf dX11_sayingOf_18 rfl
theorem rX11_sayingOf_19 : tA sc iX11_sayingOf 19 ls [vI p2, vI p1, vI p0] h Q = tA sc iX11_in 0 [vI p0, vI p1, vI p2] [] h (fun v h1 => tA sc iX11_sayingOf 22 ls (tpu v []) h1 Q) := tA_cS mB_X11_sayingOf mO_X11_sayingOf dX11_sayingOf_19 cT_11_83 ⟨Nat.le_of_ble_eq_true rfl, Nat.le_of_ble_eq_true rfl⟩ rfl rfl rfl rfl
theorem rX11_sayingOf_22 : tA sc iX11_sayingOf 22 ls (vI x :: st) h Q = (if ¬ x = 0 then tA sc iX11_sayingOf 27 ls st h Q else tA sc iX11_sayingOf 25 ls st h Q) := tA_if mB_X11_sayingOf dX11_sayingOf_22 (fun _ _ _ _ => rfl) rfl
theorem rX11_sayingOf_25 : tA sc iX11_sayingOf 25 ls st h Q = tA sc iX11_sayingOf 26 ls (vI (-1) :: st) h Q := tA_pure mB_X11_sayingOf dX11_sayingOf_25 rfl
theorem rX11_sayingOf_26 : tA sc iX11_sayingOf 26 ls [vI x] h Q = Q (some (vI x)) h := tA_ret mB_X11_sayingOf dX11_sayingOf_26 (fun _ _ _ _ => rfl) (fun _ _ _ => rfl) (fun _ _ _ _ _ => rfl) rfl rfl
theorem rX11_sayingOf_27 : tA sc iX11_sayingOf 27 [l0, l1, vI x] st h Q = tA sc iX11_sayingOf 28 [l0, l1, vI x] (vI x :: st) h Q := tA_pure mB_X11_sayingOf dX11_sayingOf_27 rfl
theorem rX11_sayingOf_28 : tA sc iX11_sayingOf 28 ls st h Q = tA sc iX11_sayingOf 29 ls (vI (3) :: st) h Q := tA_pure mB_X11_sayingOf dX11_sayingOf_28 rfl
theorem rX11_sayingOf_29 : tA sc iX11_sayingOf 29 ls (vI y :: vI x :: st) h Q = (if y ≤ x then tA sc iX11_sayingOf 41 ls st h Q else tA sc iX11_sayingOf 32 ls st h Q) := tA_if mB_X11_sayingOf dX11_sayingOf_29 (fun _ _ _ _ => rfl) rfl
theorem rX11_sayingOf_32 : tA sc iX11_sayingOf 32 [vR r, l1, l2] st h Q = tA sc iX11_sayingOf 33 [vR r, l1, l2] (vR r :: st) h Q := tA_pure mB_X11_sayingOf dX11_sayingOf_32 rfl
theorem rX11_sayingOf_33 : tA sc iX11_sayingOf 33 [l0, vI x, l2] st h Q = tA sc iX11_sayingOf 34 [l0, vI x, l2] (vI x :: st) h Q := tA_pure mB_X11_sayingOf dX11_sayingOf_33 rfl
theorem rX11_sayingOf_34 : tA sc iX11_sayingOf 34 [l0, l1, vI x] st h Q = tA sc iX11_sayingOf 35 [l0, l1, vI x] (vI x :: st) h Q := tA_pure mB_X11_sayingOf dX11_sayingOf_34 rfl
theorem rX11_sayingOf_35 (hci : tcl h o = some 11) : tA sc iX11_sayingOf 35 ls [vI p1, vI p0, vR (some o)] h Q = tA sc iX11_saying 0 [vR (some o), vI p0, vI p1] [] h (fun v h1 => tA sc iX11_sayingOf 38 ls (tpu v []) h1 Q) := tA_cV mB_X11_sayingOf mO_X11_sayingOf dX11_sayingOf_35 cT_11_232 rfl (Nat.le_of_ble_eq_true rfl) rfl rfl rfl hci
theorem rX11_sayingOf_38 : tA sc iX11_sayingOf 38 ls st h Q = tA sc iX11_sayingOf 88 ls st h Q := tA_jump mB_X11_sayingOf dX11_sayingOf_38 (fun _ _ _ _ => rfl) rfl
theorem rX11_sayingOf_41 : tA sc iX11_sayingOf 41 [vR r, l1, l2] st h Q = tA sc iX11_sayingOf 42 [vR r, l1, l2] (vR r :: st) h Q := tA_pure mB_X11_sayingOf dX11_sayingOf_41 rfl
theorem rX11_sayingOf_42 : tA sc iX11_sayingOf 42 [l0, vI x, l2] st h Q = tA sc iX11_sayingOf 43 [l0, vI x, l2] (vI x :: st) h Q := tA_pure mB_X11_sayingOf dX11_sayingOf_42 rfl
theorem rX11_sayingOf_43 : tA sc iX11_sayingOf 43 ls st h Q = tA sc iX11_sayingOf 44 ls (vI (1) :: st) h Q := tA_pure mB_X11_sayingOf dX11_sayingOf_43 rfl
theorem rX11_sayingOf_44 (hci : tcl h o = some 11) : tA sc iX11_sayingOf 44 ls [vI p1, vI p0, vR (some o)] h Q = tA sc iX11_saying 0 [vR (some o), vI p0, vI p1] [] h (fun v h1 => tA sc iX11_sayingOf 47 ls (tpu v []) h1 Q) := tA_cV mB_X11_sayingOf mO_X11_sayingOf dX11_sayingOf_44 cT_11_232 rfl (Nat.le_of_ble_eq_true rfl) rfl rfl rfl hci
theorem rX11_sayingOf_47 : tA sc iX11_sayingOf 47 [vR r, l1, l2] st h Q = tA sc iX11_sayingOf 48 [vR r, l1, l2] (vR r :: st) h Q := tA_pure mB_X11_sayingOf dX11_sayingOf_47 rfl
theorem rX11_sayingOf_48 : tA sc iX11_sayingOf 48 ls (vR (some o) :: st) h Q = oz (tget h o [11] 0) (fun v => tA sc iX11_sayingOf 51 ls (v :: st) h Q) := tA_get mB_X11_sayingOf mO_X11_sayingOf dX11_sayingOf_48 fT_11_7
theorem rX11_sayingOf_51 : tA sc iX11_sayingOf 51 ls st h Q = tA sc iX11_sayingOf 52 ls (vI (0) :: st) h Q := tA_pure mB_X11_sayingOf dX11_sayingOf_51 rfl
theorem rX11_sayingOf_52 : tA sc iX11_sayingOf 52 ls (vI j :: vR (some a) :: st) h Q = oz (tald sc h 0 a j) (fun v => tA sc iX11_sayingOf 53 ls (vI v :: st) h Q) := tA_iald mB_X11_sayingOf dX11_sayingOf_52
theorem rX11_sayingOf_53 : tA sc iX11_sayingOf 53 ls (vI y :: vI x :: st) h Q = (if x < y then tA sc iX11_sayingOf 60 ls st h Q else tA sc iX11_sayingOf 56 ls st h Q) := tA_if mB_X11_sayingOf dX11_sayingOf_53 (fun _ _ _ _ => rfl) rfl
theorem rX11_sayingOf_56 : tA sc iX11_sayingOf 56 ls st h Q = tA sc iX11_sayingOf 57 ls (vI (0) :: st) h Q := tA_pure mB_X11_sayingOf dX11_sayingOf_56 rfl
theorem rX11_sayingOf_57 : tA sc iX11_sayingOf 57 ls st h Q = tA sc iX11_sayingOf 88 ls st h Q := tA_jump mB_X11_sayingOf dX11_sayingOf_57 (fun _ _ _ _ => rfl) rfl
theorem rX11_sayingOf_60 : tA sc iX11_sayingOf 60 [vR r, l1, l2] st h Q = tA sc iX11_sayingOf 61 [vR r, l1, l2] (vR r :: st) h Q := tA_pure mB_X11_sayingOf dX11_sayingOf_60 rfl
theorem rX11_sayingOf_61 : tA sc iX11_sayingOf 61 ls (vR (some o) :: st) h Q = oz (tget h o [11] 0) (fun v => tA sc iX11_sayingOf 64 ls (v :: st) h Q) := tA_get mB_X11_sayingOf mO_X11_sayingOf dX11_sayingOf_61 fT_11_7
theorem rX11_sayingOf_64 : tA sc iX11_sayingOf 64 ls st h Q = tA sc iX11_sayingOf 66 ls (vI (23) :: st) h Q := tA_pure mB_X11_sayingOf dX11_sayingOf_64 rfl
theorem rX11_sayingOf_66 : tA sc iX11_sayingOf 66 [vR r, l1, l2] st h Q = tA sc iX11_sayingOf 67 [vR r, l1, l2] (vR r :: st) h Q := tA_pure mB_X11_sayingOf dX11_sayingOf_66 rfl
theorem rX11_sayingOf_67 : tA sc iX11_sayingOf 67 [l0, vI x, l2] st h Q = tA sc iX11_sayingOf 68 [l0, vI x, l2] (vI x :: st) h Q := tA_pure mB_X11_sayingOf dX11_sayingOf_67 rfl
theorem rX11_sayingOf_68 : tA sc iX11_sayingOf 68 ls st h Q = tA sc iX11_sayingOf 69 ls (vI (1) :: st) h Q := tA_pure mB_X11_sayingOf dX11_sayingOf_68 rfl
theorem rX11_sayingOf_69 (hci : tcl h o = some 11) : tA sc iX11_sayingOf 69 ls [vI p1, vI p0, vR (some o), s0, s1] h Q = tA sc iX11_saying 0 [vR (some o), vI p0, vI p1] [] h (fun v h1 => tA sc iX11_sayingOf 72 ls (tpu v [s0, s1]) h1 Q) := tA_cV mB_X11_sayingOf mO_X11_sayingOf dX11_sayingOf_69 cT_11_232 rfl (Nat.le_of_ble_eq_true rfl) rfl rfl rfl hci
theorem rX11_sayingOf_72 : tA sc iX11_sayingOf 72 ls (vI y :: vI x :: st) h Q = tA sc iX11_sayingOf 73 ls (vI (x + y) :: st) h Q := tA_pure mB_X11_sayingOf dX11_sayingOf_72 rfl
theorem rX11_sayingOf_73 : tA sc iX11_sayingOf 73 ls (vI j :: vR (some a) :: st) h Q = oz (tald sc h 0 a j) (fun v => tA sc iX11_sayingOf 74 ls (vI v :: st) h Q) := tA_iald mB_X11_sayingOf dX11_sayingOf_73
theorem rX11_sayingOf_74 : tA sc iX11_sayingOf 74 [vR r, l1, l2] st h Q = tA sc iX11_sayingOf 75 [vR r, l1, l2] (vR r :: st) h Q := tA_pure mB_X11_sayingOf dX11_sayingOf_74 rfl
theorem rX11_sayingOf_75 : tA sc iX11_sayingOf 75 [l0, vI x, l2] st h Q = tA sc iX11_sayingOf 76 [l0, vI x, l2] (vI x :: st) h Q := tA_pure mB_X11_sayingOf dX11_sayingOf_75 rfl
theorem rX11_sayingOf_76 : tA sc iX11_sayingOf 76 ls st h Q = tA sc iX11_sayingOf 77 ls (vI (2) :: st) h Q := tA_pure mB_X11_sayingOf dX11_sayingOf_76 rfl
theorem rX11_sayingOf_77 (hci : tcl h o = some 11) : tA sc iX11_sayingOf 77 ls [vI p1, vI p0, vR (some o), s0] h Q = tA sc iX11_saying 0 [vR (some o), vI p0, vI p1] [] h (fun v h1 => tA sc iX11_sayingOf 80 ls (tpu v [s0]) h1 Q) := tA_cV mB_X11_sayingOf mO_X11_sayingOf dX11_sayingOf_77 cT_11_232 rfl (Nat.le_of_ble_eq_true rfl) rfl rfl rfl hci
theorem rX11_sayingOf_80 : tA sc iX11_sayingOf 80 ls (vI y :: vI x :: st) h Q = (if ¬ x = y then tA sc iX11_sayingOf 87 ls st h Q else tA sc iX11_sayingOf 83 ls st h Q) := tA_if mB_X11_sayingOf dX11_sayingOf_80 (fun _ _ _ _ => rfl) rfl
theorem rX11_sayingOf_83 : tA sc iX11_sayingOf 83 ls st h Q = tA sc iX11_sayingOf 84 ls (vI (1) :: st) h Q := tA_pure mB_X11_sayingOf dX11_sayingOf_83 rfl
theorem rX11_sayingOf_84 : tA sc iX11_sayingOf 84 ls st h Q = tA sc iX11_sayingOf 88 ls st h Q := tA_jump mB_X11_sayingOf dX11_sayingOf_84 (fun _ _ _ _ => rfl) rfl
theorem rX11_sayingOf_87 : tA sc iX11_sayingOf 87 ls st h Q = tA sc iX11_sayingOf 88 ls (vI (2) :: st) h Q := tA_pure mB_X11_sayingOf dX11_sayingOf_87 rfl
theorem rX11_sayingOf_88 : tA sc iX11_sayingOf 88 ls [vI x] h Q = Q (some (vI x)) h := tA_ret mB_X11_sayingOf dX11_sayingOf_88 (fun _ _ _ _ => rfl) (fun _ _ _ => rfl) (fun _ _ _ _ _ => rfl) rfl rfl
theorem mB_X11_one : mB iX11_one = cX11_one := rfl
theorem mO_X11_one : mO iX11_one = 11 := rfl
theorem rX11_one_0 : tA sc iX11_one 0 [vR r, l1, l2] st h Q = tA sc iX11_one 1 [vR r, l1, l2] (vR r :: st) h Q := tA_pure mB_X11_one dX11_one_0 rfl
theorem rX11_one_1 : tA sc iX11_one 1 [l0, vI x, l2] st h Q = tA sc iX11_one 2 [l0, vI x, l2] (vI x :: st) h Q := tA_pure mB_X11_one dX11_one_1 rfl
theorem rX11_one_2 : tA sc iX11_one 2 ls (v :: vR (some o) :: st) h Q = oz (tput h o [11] 25 0 v) (fun h' => tA sc iX11_one 5 ls st h' Q) := tA_put mB_X11_one mO_X11_one dX11_one_2 fT_11_261 (Or.inl (by decide))
theorem rX11_one_5 : tA sc iX11_one 5 [vR r, l1, l2] st h Q = tA sc iX11_one 6 [vR r, l1, l2] (vR r :: st) h Q := tA_pure mB_X11_one dX11_one_5 rfl
theorem rX11_one_6 : tA sc iX11_one 6 [l0, l1, vI x] st h Q = tA sc iX11_one 7 [l0, l1, vI x] (vI x :: st) h Q := tA_pure mB_X11_one dX11_one_6 rfl
theorem rX11_one_7 : tA sc iX11_one 7 ls (v :: vR (some o) :: st) h Q = oz (tput h o [11] 26 0 v) (fun h' => tA sc iX11_one 10 ls st h' Q) := tA_put mB_X11_one mO_X11_one dX11_one_7 fT_11_264 (Or.inl (by decide))
theorem rX11_one_10 : tA sc iX11_one 10 [vR r, l1, l2] st h Q = tA sc iX11_one 11 [vR r, l1, l2] (vR r :: st) h Q := tA_pure mB_X11_one dX11_one_10 rfl
theorem rX11_one_11 : tA sc iX11_one 11 [vR r, l1, l2] st h Q = tA sc iX11_one 12 [vR r, l1, l2] (vR r :: st) h Q := tA_pure mB_X11_one dX11_one_11 rfl
theorem rX11_one_12 : tA sc iX11_one 12 [l0, vI x, l2] st h Q = tA sc iX11_one 13 [l0, vI x, l2] (vI x :: st) h Q := tA_pure mB_X11_one dX11_one_12 rfl
theorem rX11_one_13 (hci : tcl h o = some 11) : tA sc iX11_one 13 ls [vI p0, vR (some o), s0] h Q = tA sc iX11_saidOf 0 [vR (some o), vI p0, vU, vU] [] h (fun v h1 => tA sc iX11_one 16 ls (tpu v [s0]) h1 Q) := tA_cV mB_X11_one mO_X11_one dX11_one_13 cT_11_244 rfl (Nat.le_of_ble_eq_true rfl) rfl rfl rfl hci
theorem rX11_one_16 : tA sc iX11_one 16 [l0, l1, vI x] st h Q = tA sc iX11_one 17 [l0, l1, vI x] (vI x :: st) h Q := tA_pure mB_X11_one dX11_one_16 rfl
theorem rX11_one_17 : tA sc iX11_one 17 ls (vI y :: vI x :: st) h Q = tA sc iX11_one 18 ls (vI (x >>> (y &&& 31)) :: st) h Q := tA_pure mB_X11_one dX11_one_17 rfl
theorem rX11_one_18 : tA sc iX11_one 18 ls st h Q = tA sc iX11_one 19 ls (vI (1) :: st) h Q := tA_pure mB_X11_one dX11_one_18 rfl
theorem rX11_one_19 : tA sc iX11_one 19 ls (vI y :: vI x :: st) h Q = tA sc iX11_one 20 ls (vI (x &&& y) :: st) h Q := tA_pure mB_X11_one dX11_one_19 rfl
theorem rX11_one_20 : tA sc iX11_one 20 ls st h Q = tA sc iX11_one 21 ls (vI (1) :: st) h Q := tA_pure mB_X11_one dX11_one_20 rfl
theorem rX11_one_21 : tA sc iX11_one 21 ls (vI y :: vI x :: st) h Q = (if x = y then tA sc iX11_one 34 ls st h Q else tA sc iX11_one 24 ls st h Q) := tA_if mB_X11_one dX11_one_21 (fun _ _ _ _ => rfl) rfl
theorem rX11_one_24 : tA sc iX11_one 24 [vR r, l1, l2] st h Q = tA sc iX11_one 25 [vR r, l1, l2] (vR r :: st) h Q := tA_pure mB_X11_one dX11_one_24 rfl
theorem rX11_one_25 : tA sc iX11_one 25 ls st h Q = tA sc iX11_one 26 ls (vI (2) :: st) h Q := tA_pure mB_X11_one dX11_one_25 rfl
theorem rX11_one_26 (hci : tcl h o = some 11) : tA sc iX11_one 26 ls [vI p0, vR (some o), s0] h Q = tA sc iX11_its 0 [vR (some o), vI p0] [] h (fun v h1 => tA sc iX11_one 29 ls (tpu v [s0]) h1 Q) := tA_cV mB_X11_one mO_X11_one dX11_one_26 cT_11_225 rfl (Nat.le_of_ble_eq_true rfl) rfl rfl rfl hci
theorem rX11_one_29 : tA sc iX11_one 29 ls st h Q = tA sc iX11_one 31 ls (vI (40) :: st) h Q := tA_pure mB_X11_one dX11_one_29 rfl
theorem rX11_one_31 : tA sc iX11_one 31 ls (vI y :: vI x :: st) h Q = (if ¬ x = y then tA sc iX11_one 38 ls st h Q else tA sc iX11_one 34 ls st h Q) := tA_if mB_X11_one dX11_one_31 (fun _ _ _ _ => rfl) rfl
theorem rX11_one_34 : tA sc iX11_one 34 ls st h Q = tA sc iX11_one 35 ls (vI (0) :: st) h Q := tA_pure mB_X11_one dX11_one_34 rfl
theorem rX11_one_35 : tA sc iX11_one 35 ls st h Q = tA sc iX11_one 39 ls st h Q := tA_jump mB_X11_one dX11_one_35 (fun _ _ _ _ => rfl) rfl
theorem rX11_one_38 : tA sc iX11_one 38 ls st h Q = tA sc iX11_one 39 ls (vI (1) :: st) h Q := tA_pure mB_X11_one dX11_one_38 rfl
theorem rX11_one_39 : tA sc iX11_one 39 ls (v :: vR (some o) :: st) h Q = oz (tput h o [11] 27 0 v) (fun h' => tA sc iX11_one 42 ls st h' Q) := tA_put mB_X11_one mO_X11_one dX11_one_39 fT_11_267 (Or.inl (by decide))
theorem rX11_one_42 : tA sc iX11_one 42 ls [] h Q = Q (none) h := tA_ret mB_X11_one dX11_one_42 (fun _ _ _ _ => rfl) (fun _ _ _ => rfl) (fun _ _ _ _ _ => rfl) rfl rfl
theorem mB_X11_lastOpen : mB iX11_lastOpen = cX11_lastOpen := rfl
theorem mO_X11_lastOpen : mO iX11_lastOpen = 11 := rfl
theorem rX11_lastOpen_0 : tA sc iX11_lastOpen 0 [l0, vI x, l2] st h Q = tA sc iX11_lastOpen 1 [l0, vI x, l2] (vI x :: st) h Q := tA_pure mB_X11_lastOpen dX11_lastOpen_0 rfl
theorem rX11_lastOpen_1 : tA sc iX11_lastOpen 1 ls st h Q = tA sc iX11_lastOpen 3 ls (vI (20) :: st) h Q := tA_pure mB_X11_lastOpen dX11_lastOpen_1 rfl
theorem rX11_lastOpen_3 : tA sc iX11_lastOpen 3 ls (vI y :: vI x :: st) h Q = (if y ≤ x then tA sc iX11_lastOpen 10 ls st h Q else tA sc iX11_lastOpen 6 ls st h Q) := tA_if mB_X11_lastOpen dX11_lastOpen_3 (fun _ _ _ _ => rfl) rfl
theorem rX11_lastOpen_6 : tA sc iX11_lastOpen 6 [l0, vI x, l2] st h Q = tA sc iX11_lastOpen 7 [l0, vI x, l2] (vI x :: st) h Q := tA_pure mB_X11_lastOpen dX11_lastOpen_6 rfl
theorem rX11_lastOpen_7 : tA sc iX11_lastOpen 7 ls st h Q = tA sc iX11_lastOpen 12 ls st h Q := tA_jump mB_X11_lastOpen dX11_lastOpen_7 (fun _ _ _ _ => rfl) rfl
theorem rX11_lastOpen_10 : tA sc iX11_lastOpen 10 ls st h Q = tA sc iX11_lastOpen 12 ls (vI (19) :: st) h Q := tA_pure mB_X11_lastOpen dX11_lastOpen_10 rfl
theorem rX11_lastOpen_12 : tA sc iX11_lastOpen 12 [l0, l1, l2] (vI x :: st) h Q = tA sc iX11_lastOpen 13 [l0, tclr l1, vI x] st h Q := tA_pure mB_X11_lastOpen dX11_lastOpen_12 rfl
theorem rX11_lastOpen_13 : tA sc iX11_lastOpen 13 [l0, l1, vI x] st h Q = tA sc iX11_lastOpen 14 [l0, l1, vI x] (vI x :: st) h Q := tA_pure mB_X11_lastOpen dX11_lastOpen_13 rfl
theorem rX11_lastOpen_14 : tA sc iX11_lastOpen 14 [vR r, l1, l2] st h Q = tA sc iX11_lastOpen 15 [vR r, l1, l2] (vR r :: st) h Q := tA_pure mB_X11_lastOpen dX11_lastOpen_14 rfl
theorem rX11_lastOpen_15 : tA sc iX11_lastOpen 15 ls st h Q = tA sc iX11_lastOpen 16 ls (vI (0) :: st) h Q := tA_pure mB_X11_lastOpen dX11_lastOpen_15 rfl
theorem rX11_lastOpen_16 (hci : tcl h o = some 11) : tA sc iX11_lastOpen 16 ls [vI p0, vR (some o), s0] h Q = tA sc iX11_its 0 [vR (some o), vI p0] [] h (fun v h1 => tA sc iX11_lastOpen 19 ls (tpu v [s0]) h1 Q) := tA_cV mB_X11_lastOpen mO_X11_lastOpen dX11_lastOpen_16 cT_11_225 rfl (Nat.le_of_ble_eq_true rfl) rfl rfl rfl hci
theorem rX11_lastOpen_19 : tA sc iX11_lastOpen 19 ls (vI y :: vI x :: st) h Q = (if x < y then tA sc iX11_lastOpen 36 ls st h Q else tA sc iX11_lastOpen 22 ls st h Q) := tA_if mB_X11_lastOpen dX11_lastOpen_19 (fun _ _ _ _ => rfl) rfl
theorem rX11_lastOpen_22 : tA sc iX11_lastOpen 22 [vR r, l1, l2] st h Q = tA sc iX11_lastOpen 23 [vR r, l1, l2] (vR r :: st) h Q := tA_pure mB_X11_lastOpen dX11_lastOpen_22 rfl
theorem rX11_lastOpen_23 : tA sc iX11_lastOpen 23 [l0, l1, vI x] st h Q = tA sc iX11_lastOpen 24 [l0, l1, vI x] (vI x :: st) h Q := tA_pure mB_X11_lastOpen dX11_lastOpen_23 rfl
theorem rX11_lastOpen_24 (hci : tcl h o = some 11) : tA sc iX11_lastOpen 24 ls [vI p0, vR (some o)] h Q = tA sc iX11_saidOf 0 [vR (some o), vI p0, vU, vU] [] h (fun v h1 => tA sc iX11_lastOpen 27 ls (tpu v []) h1 Q) := tA_cV mB_X11_lastOpen mO_X11_lastOpen dX11_lastOpen_24 cT_11_244 rfl (Nat.le_of_ble_eq_true rfl) rfl rfl rfl hci
theorem rX11_lastOpen_27 : tA sc iX11_lastOpen 27 ls (vI x :: st) h Q = (if x = 0 then tA sc iX11_lastOpen 36 ls st h Q else tA sc iX11_lastOpen 30 ls st h Q) := tA_if mB_X11_lastOpen dX11_lastOpen_27 (fun _ _ _ _ => rfl) rfl
theorem rX11_lastOpen_30 : tA sc iX11_lastOpen 30 [l0, l1, vI x] st h Q = tA sc iX11_lastOpen 33 [l0, tclr l1, vI (x + (-1))] st h Q := tA_pure mB_X11_lastOpen dX11_lastOpen_30 rfl
theorem rX11_lastOpen_33 : tA sc iX11_lastOpen 33 ls st h Q = tA sc iX11_lastOpen 13 ls st h Q := tA_jump mB_X11_lastOpen dX11_lastOpen_33 (fun _ _ _ _ => rfl) rfl
theorem rX11_lastOpen_36 : tA sc iX11_lastOpen 36 [l0, l1, vI x] st h Q = tA sc iX11_lastOpen 37 [l0, l1, vI x] (vI x :: st) h Q := tA_pure mB_X11_lastOpen dX11_lastOpen_36 rfl
theorem rX11_lastOpen_37 : tA sc iX11_lastOpen 37 [vR r, l1, l2] st h Q = tA sc iX11_lastOpen 38 [vR r, l1, l2] (vR r :: st) h Q := tA_pure mB_X11_lastOpen dX11_lastOpen_37 rfl
theorem rX11_lastOpen_38 : tA sc iX11_lastOpen 38 ls st h Q = tA sc iX11_lastOpen 39 ls (vI (0) :: st) h Q := tA_pure mB_X11_lastOpen dX11_lastOpen_38 rfl
theorem rX11_lastOpen_39 (hci : tcl h o = some 11) : tA sc iX11_lastOpen 39 ls [vI p0, vR (some o), s0] h Q = tA sc iX11_its 0 [vR (some o), vI p0] [] h (fun v h1 => tA sc iX11_lastOpen 42 ls (tpu v [s0]) h1 Q) := tA_cV mB_X11_lastOpen mO_X11_lastOpen dX11_lastOpen_39 cT_11_225 rfl (Nat.le_of_ble_eq_true rfl) rfl rfl rfl hci
theorem rX11_lastOpen_42 : tA sc iX11_lastOpen 42 ls (vI y :: vI x :: st) h Q = (if y ≤ x then tA sc iX11_lastOpen 49 ls st h Q else tA sc iX11_lastOpen 45 ls st h Q) := tA_if mB_X11_lastOpen dX11_lastOpen_42 (fun _ _ _ _ => rfl) rfl
theorem rX11_lastOpen_45 : tA sc iX11_lastOpen 45 ls st h Q = tA sc iX11_lastOpen 46 ls (vI (-1) :: st) h Q := tA_pure mB_X11_lastOpen dX11_lastOpen_45 rfl
theorem rX11_lastOpen_46 : tA sc iX11_lastOpen 46 ls st h Q = tA sc iX11_lastOpen 50 ls st h Q := tA_jump mB_X11_lastOpen dX11_lastOpen_46 (fun _ _ _ _ => rfl) rfl
theorem rX11_lastOpen_49 : tA sc iX11_lastOpen 49 [l0, l1, vI x] st h Q = tA sc iX11_lastOpen 50 [l0, l1, vI x] (vI x :: st) h Q := tA_pure mB_X11_lastOpen dX11_lastOpen_49 rfl
theorem rX11_lastOpen_50 : tA sc iX11_lastOpen 50 ls [vI x] h Q = Q (some (vI x)) h := tA_ret mB_X11_lastOpen dX11_lastOpen_50 (fun _ _ _ _ => rfl) (fun _ _ _ => rfl) (fun _ _ _ _ _ => rfl) rfl rfl
theorem mB_X11_findSaying : mB iX11_findSaying = cX11_findSaying := rfl
theorem mO_X11_findSaying : mO iX11_findSaying = 11 := rfl
theorem rX11_findSaying_0 : tA sc iX11_findSaying 0 [vR r, l1, l2, l3, l4, l5, l6] st h Q = tA sc iX11_findSaying 1 [vR r, l1, l2, l3, l4, l5, l6] (vR r :: st) h Q := tA_pure mB_X11_findSaying dX11_findSaying_0 rfl
theorem rX11_findSaying_1 : tA sc iX11_findSaying 1 ls st h Q = tA sc iX11_findSaying 2 ls (vI (0) :: st) h Q := tA_pure mB_X11_findSaying dX11_findSaying_1 rfl
theorem rX11_findSaying_2 : tA sc iX11_findSaying 2 ls (v :: vR (some o) :: st) h Q = oz (tput h o [11] 27 0 v) (fun h' => tA sc iX11_findSaying 5 ls st h' Q) := tA_put mB_X11_findSaying mO_X11_findSaying dX11_findSaying_2 fT_11_267 (Or.inl (by decide))
theorem rX11_findSaying_5 : tA sc iX11_findSaying 5 [vR r, l1, l2, l3, l4, l5, l6] st h Q = tA sc iX11_findSaying 6 [vR r, l1, l2, l3, l4, l5, l6] (vR r :: st) h Q := tA_pure mB_X11_findSaying dX11_findSaying_5 rfl
theorem rX11_findSaying_6 : tA sc iX11_findSaying 6 ls st h Q = tA sc iX11_findSaying 7 ls (vI (0) :: st) h Q := tA_pure mB_X11_findSaying dX11_findSaying_6 rfl
theorem rX11_findSaying_7 (hci : tcl h o = some 11) : tA sc iX11_findSaying 7 ls [vI p0, vR (some o)] h Q = tA sc iX11_its 0 [vR (some o), vI p0] [] h (fun v h1 => tA sc iX11_findSaying 10 ls (tpu v []) h1 Q) := tA_cV mB_X11_findSaying mO_X11_findSaying dX11_findSaying_7 cT_11_225 rfl (Nat.le_of_ble_eq_true rfl) rfl rfl rfl hci
theorem rX11_findSaying_10 : tA sc iX11_findSaying 10 [l0, l1, l2, l3, l4, l5, l6] (vI x :: st) h Q = tA sc iX11_findSaying 11 [l0, tclr l1, vI x, l3, l4, l5, l6] st h Q := tA_pure mB_X11_findSaying dX11_findSaying_10 rfl
theorem rX11_findSaying_11 : tA sc iX11_findSaying 11 [l0, l1, vI x, l3, l4, l5, l6] st h Q = tA sc iX11_findSaying 12 [l0, l1, vI x, l3, l4, l5, l6] (vI x :: st) h Q := tA_pure mB_X11_findSaying dX11_findSaying_11 rfl
theorem rX11_findSaying_12 : tA sc iX11_findSaying 12 ls st h Q = tA sc iX11_findSaying 14 ls (vI (20) :: st) h Q := tA_pure mB_X11_findSaying dX11_findSaying_12 rfl
theorem rX11_findSaying_14 : tA sc iX11_findSaying 14 ls (vI y :: vI x :: st) h Q = (if ¬ x = y then tA sc iX11_findSaying 18 ls st h Q else tA sc iX11_findSaying 17 ls st h Q) := tA_if mB_X11_findSaying dX11_findSaying_14 (fun _ _ _ _ => rfl) rfl
theorem rX11_findSaying_17 : tA sc iX11_findSaying 17 ls [] h Q = Q (none) h := tA_ret mB_X11_findSaying dX11_findSaying_17 (fun _ _ _ _ => rfl) (fun _ _ _ => rfl) (fun _ _ _ _ _ => rfl) rfl rfl
theorem rX11_findSaying_18 : tA sc iX11_findSaying 18 [vR r, l1, l2, l3, l4, l5, l6] st h Q = tA sc iX11_findSaying 19 [vR r, l1, l2, l3, l4, l5, l6] (vR r :: st) h Q := tA_pure mB_X11_findSaying dX11_findSaying_18 rfl
theorem rX11_findSaying_19 : tA sc iX11_findSaying 19 [l0, vI x, l2, l3, l4, l5, l6] st h Q = tA sc iX11_findSaying 20 [l0, vI x, l2, l3, l4, l5, l6] (vI x :: st) h Q := tA_pure mB_X11_findSaying dX11_findSaying_19 rfl
theorem rX11_findSaying_20 (hci : tcl h o = some 11) : tA sc iX11_findSaying 20 ls [vI p0, vR (some o)] h Q = tA sc iX11_kindOf 0 [vR (some o), vI p0] [] h (fun v h1 => tA sc iX11_findSaying 23 ls (tpu v []) h1 Q) := tA_cV mB_X11_findSaying mO_X11_findSaying dX11_findSaying_20 cT_11_250 rfl (Nat.le_of_ble_eq_true rfl) rfl rfl rfl hci
theorem rX11_findSaying_23 : tA sc iX11_findSaying 23 [l0, l1, l2, l3, l4, l5, l6] (vI x :: st) h Q = tA sc iX11_findSaying 24 [l0, l1, tclr l2, vI x, l4, l5, l6] st h Q := tA_pure mB_X11_findSaying dX11_findSaying_23 rfl
theorem rX11_findSaying_24 : tA sc iX11_findSaying 24 [vR r, l1, l2, l3, l4, l5, l6] st h Q = tA sc iX11_findSaying 25 [vR r, l1, l2, l3, l4, l5, l6] (vR r :: st) h Q := tA_pure mB_X11_findSaying dX11_findSaying_24 rfl
theorem rX11_findSaying_25 : tA sc iX11_findSaying 25 [l0, l1, vI x, l3, l4, l5, l6] st h Q = tA sc iX11_findSaying 26 [l0, l1, vI x, l3, l4, l5, l6] (vI x :: st) h Q := tA_pure mB_X11_findSaying dX11_findSaying_25 rfl
theorem rX11_findSaying_26 (hci : tcl h o = some 11) : tA sc iX11_findSaying 26 ls [vI p0, vR (some o)] h Q = tA sc iX11_likeliest 0 [vR (some o), vI p0, vU, vU] [] h (fun v h1 => tA sc iX11_findSaying 29 ls (tpu v []) h1 Q) := tA_cV mB_X11_findSaying mO_X11_findSaying dX11_findSaying_26 cT_11_241 rfl (Nat.le_of_ble_eq_true rfl) rfl rfl rfl hci
theorem rX11_findSaying_29 : tA sc iX11_findSaying 29 [l0, l1, l2, l3, l4, l5, l6] (vI x :: st) h Q = tA sc iX11_findSaying 31 [l0, l1, l2, tclr l3, vI x, l5, l6] st h Q := tA_pure mB_X11_findSaying dX11_findSaying_29 rfl
theorem rX11_findSaying_31 : tA sc iX11_findSaying 31 [l0, l1, l2, vI x, l4, l5, l6] st h Q = tA sc iX11_findSaying 32 [l0, l1, l2, vI x, l4, l5, l6] (vI x :: st) h Q := tA_pure mB_X11_findSaying dX11_findSaying_31 rfl
theorem rX11_findSaying_32 : tA sc iX11_findSaying 32 ls st h Q = tA sc iX11_findSaying 33 ls (vI (1) :: st) h Q := tA_pure mB_X11_findSaying dX11_findSaying_32 rfl
theorem rX11_findSaying_33 : tA sc iX11_findSaying 33 ls (vI y :: vI x :: st) h Q = (if x = y then tA sc iX11_findSaying 41 ls st h Q else tA sc iX11_findSaying 36 ls st h Q) := tA_if mB_X11_findSaying dX11_findSaying_33 (fun _ _ _ _ => rfl) rfl
theorem rX11_findSaying_36 : tA sc iX11_findSaying 36 [l0, l1, l2, vI x, l4, l5, l6] st h Q = tA sc iX11_findSaying 37 [l0, l1, l2, vI x, l4, l5, l6] (vI x :: st) h Q := tA_pure mB_X11_findSaying dX11_findSaying_36 rfl
theorem rX11_findSaying_37 : tA sc iX11_findSaying 37 ls st h Q = tA sc iX11_findSaying 38 ls (vI (4) :: st) h Q := tA_pure mB_X11_findSaying dX11_findSaying_37 rfl
theorem rX11_findSaying_38 : tA sc iX11_findSaying 38 ls (vI y :: vI x :: st) h Q = (if ¬ x = y then tA sc iX11_findSaying 121 ls st h Q else tA sc iX11_findSaying 41 ls st h Q) := tA_if mB_X11_findSaying dX11_findSaying_38 (fun _ _ _ _ => rfl) rfl
theorem rX11_findSaying_41 : tA sc iX11_findSaying 41 [vR r, l1, l2, l3, l4, l5, l6] st h Q = tA sc iX11_findSaying 42 [vR r, l1, l2, l3, l4, l5, l6] (vR r :: st) h Q := tA_pure mB_X11_findSaying dX11_findSaying_41 rfl
theorem rX11_findSaying_42 : tA sc iX11_findSaying 42 [l0, l1, vI x, l3, l4, l5, l6] st h Q = tA sc iX11_findSaying 43 [l0, l1, vI x, l3, l4, l5, l6] (vI x :: st) h Q := tA_pure mB_X11_findSaying dX11_findSaying_42 rfl
theorem rX11_findSaying_43 : tA sc iX11_findSaying 43 [vR r, l1, l2, l3, l4, l5, l6] st h Q = tA sc iX11_findSaying 44 [vR r, l1, l2, l3, l4, l5, l6] (vR r :: st) h Q := tA_pure mB_X11_findSaying dX11_findSaying_43 rfl
theorem rX11_findSaying_44 : tA sc iX11_findSaying 44 [l0, vI x, l2, l3, l4, l5, l6] st h Q = tA sc iX11_findSaying 45 [l0, vI x, l2, l3, l4, l5, l6] (vI x :: st) h Q := tA_pure mB_X11_findSaying dX11_findSaying_44 rfl
theorem rX11_findSaying_45 (hci : tcl h o = some 11) : tA sc iX11_findSaying 45 ls [vI p0, vR (some o), s0, s1] h Q = tA sc iX11_aOf 0 [vR (some o), vI p0] [] h (fun v h1 => tA sc iX11_findSaying 48 ls (tpu v [s0, s1]) h1 Q) := tA_cV mB_X11_findSaying mO_X11_findSaying dX11_findSaying_45 cT_11_253 rfl (Nat.le_of_ble_eq_true rfl) rfl rfl rfl hci
theorem rX11_findSaying_48 : tA sc iX11_findSaying 48 ls (vI y :: vI x :: st) h Q = tA sc iX11_findSaying 49 ls (vI (x + y) :: st) h Q := tA_pure mB_X11_findSaying dX11_findSaying_48 rfl
theorem rX11_findSaying_49 (hci : tcl h o = some 11) : tA sc iX11_findSaying 49 ls [vI p0, vR (some o)] h Q = tA sc iX11_lastOpen 0 [vR (some o), vI p0, vU] [] h (fun v h1 => tA sc iX11_findSaying 52 ls (tpu v []) h1 Q) := tA_cV mB_X11_findSaying mO_X11_findSaying dX11_findSaying_49 cT_11_270 rfl (Nat.le_of_ble_eq_true rfl) rfl rfl rfl hci
theorem rX11_findSaying_52 : tA sc iX11_findSaying 52 [l0, l1, l2, l3, l4, l5, l6] (vI x :: st) h Q = tA sc iX11_findSaying 54 [l0, l1, l2, l3, tclr l4, vI x, l6] st h Q := tA_pure mB_X11_findSaying dX11_findSaying_52 rfl
theorem rX11_findSaying_54 : tA sc iX11_findSaying 54 [l0, l1, l2, l3, l4, vI x, l6] st h Q = tA sc iX11_findSaying 56 [l0, l1, l2, l3, l4, vI x, l6] (vI x :: st) h Q := tA_pure mB_X11_findSaying dX11_findSaying_54 rfl
theorem rX11_findSaying_56 : tA sc iX11_findSaying 56 ls (vI x :: st) h Q = (if x < 0 then tA sc iX11_findSaying 118 ls st h Q else tA sc iX11_findSaying 59 ls st h Q) := tA_if mB_X11_findSaying dX11_findSaying_56 (fun _ _ _ _ => rfl) rfl
theorem rX11_findSaying_59 : tA sc iX11_findSaying 59 [vR r, l1, l2, l3, l4, l5, l6] st h Q = tA sc iX11_findSaying 60 [vR r, l1, l2, l3, l4, l5, l6] (vR r :: st) h Q := tA_pure mB_X11_findSaying dX11_findSaying_59 rfl
theorem rX11_findSaying_60 : tA sc iX11_findSaying 60 [l0, l1, l2, l3, l4, vI x, l6] st h Q = tA sc iX11_findSaying 62 [l0, l1, l2, l3, l4, vI x, l6] (vI x :: st) h Q := tA_pure mB_X11_findSaying dX11_findSaying_60 rfl
theorem rX11_findSaying_62 : tA sc iX11_findSaying 62 [l0, l1, l2, vI x, l4, l5, l6] st h Q = tA sc iX11_findSaying 63 [l0, l1, l2, vI x, l4, l5, l6] (vI x :: st) h Q := tA_pure mB_X11_findSaying dX11_findSaying_62 rfl
theorem rX11_findSaying_63 : tA sc iX11_findSaying 63 ls st h Q = tA sc iX11_findSaying 64 ls (vI (1) :: st) h Q := tA_pure mB_X11_findSaying dX11_findSaying_63 rfl
theorem rX11_findSaying_64 : tA sc iX11_findSaying 64 ls (vI y :: vI x :: st) h Q = (if ¬ x = y then tA sc iX11_findSaying 76 ls st h Q else tA sc iX11_findSaying 67 ls st h Q) := tA_if mB_X11_findSaying dX11_findSaying_64 (fun _ _ _ _ => rfl) rfl
theorem rX11_findSaying_67 : tA sc iX11_findSaying 67 [vR r, l1, l2, l3, l4, l5, l6] st h Q = tA sc iX11_findSaying 68 [vR r, l1, l2, l3, l4, l5, l6] (vR r :: st) h Q := tA_pure mB_X11_findSaying dX11_findSaying_67 rfl
theorem rX11_findSaying_68 : tA sc iX11_findSaying 68 [l0, l1, l2, l3, l4, vI x, l6] st h Q = tA sc iX11_findSaying 70 [l0, l1, l2, l3, l4, vI x, l6] (vI x :: st) h Q := tA_pure mB_X11_findSaying dX11_findSaying_68 rfl
theorem rX11_findSaying_70 (hci : tcl h o = some 11) : tA sc iX11_findSaying 70 ls [vI p0, vR (some o), s0, s1] h Q = tA sc iX11_likeliest 0 [vR (some o), vI p0, vU, vU] [] h (fun v h1 => tA sc iX11_findSaying 73 ls (tpu v [s0, s1]) h1 Q) := tA_cV mB_X11_findSaying mO_X11_findSaying dX11_findSaying_70 cT_11_241 rfl (Nat.le_of_ble_eq_true rfl) rfl rfl rfl hci
theorem rX11_findSaying_73 : tA sc iX11_findSaying 73 ls st h Q = tA sc iX11_findSaying 77 ls st h Q := tA_jump mB_X11_findSaying dX11_findSaying_73 (fun _ _ _ _ => rfl) rfl
theorem rX11_findSaying_76 : tA sc iX11_findSaying 76 ls st h Q = tA sc iX11_findSaying 77 ls (vI (0) :: st) h Q := tA_pure mB_X11_findSaying dX11_findSaying_76 rfl
theorem rX11_findSaying_77 (hci : tcl h o = some 11) : tA sc iX11_findSaying 77 ls [vI p1, vI p0, vR (some o)] h Q = tA sc iX11_one 0 [vR (some o), vI p0, vI p1] [] h (fun v h1 => tA sc iX11_findSaying 80 ls (tpu v []) h1 Q) := tA_cV mB_X11_findSaying mO_X11_findSaying dX11_findSaying_77 cT_11_273 rfl (Nat.le_of_ble_eq_true rfl) rfl rfl rfl hci
theorem rX11_findSaying_80 : tA sc iX11_findSaying 80 ls st h Q = tA sc iX11_findSaying 82 ls (vI (40) :: st) h Q := tA_pure mB_X11_findSaying dX11_findSaying_80 rfl
theorem rX11_findSaying_82 : tA sc iX11_findSaying 82 [vR r, l1, l2, l3, l4, l5, l6] st h Q = tA sc iX11_findSaying 83 [vR r, l1, l2, l3, l4, l5, l6] (vR r :: st) h Q := tA_pure mB_X11_findSaying dX11_findSaying_82 rfl
theorem rX11_findSaying_83 : tA sc iX11_findSaying 83 ls st h Q = tA sc iX11_findSaying 84 ls (vI (2) :: st) h Q := tA_pure mB_X11_findSaying dX11_findSaying_83 rfl
theorem rX11_findSaying_84 (hci : tcl h o = some 11) : tA sc iX11_findSaying 84 ls [vI p0, vR (some o), s0] h Q = tA sc iX11_its 0 [vR (some o), vI p0] [] h (fun v h1 => tA sc iX11_findSaying 87 ls (tpu v [s0]) h1 Q) := tA_cV mB_X11_findSaying mO_X11_findSaying dX11_findSaying_84 cT_11_225 rfl (Nat.le_of_ble_eq_true rfl) rfl rfl rfl hci
theorem rX11_findSaying_87 : tA sc iX11_findSaying 87 ls (vI y :: vI x :: st) h Q = tA sc iX11_findSaying 88 ls (vI (x - y) :: st) h Q := tA_pure mB_X11_findSaying dX11_findSaying_87 rfl
theorem rX11_findSaying_88 : tA sc iX11_findSaying 88 [l0, l1, l2, l3, l4, l5, l6] (vI x :: st) h Q = tA sc iX11_findSaying 90 [l0, l1, l2, l3, l4, tclr l5, vI x] st h Q := tA_pure mB_X11_findSaying dX11_findSaying_88 rfl
theorem rX11_findSaying_90 : tA sc iX11_findSaying 90 [vR r, l1, l2, l3, l4, l5, l6] st h Q = tA sc iX11_findSaying 91 [vR r, l1, l2, l3, l4, l5, l6] (vR r :: st) h Q := tA_pure mB_X11_findSaying dX11_findSaying_90 rfl
theorem rX11_findSaying_91 : tA sc iX11_findSaying 91 [l0, l1, l2, vI x, l4, l5, l6] st h Q = tA sc iX11_findSaying 92 [l0, l1, l2, vI x, l4, l5, l6] (vI x :: st) h Q := tA_pure mB_X11_findSaying dX11_findSaying_91 rfl
theorem rX11_findSaying_92 : tA sc iX11_findSaying 92 ls st h Q = tA sc iX11_findSaying 93 ls (vI (4) :: st) h Q := tA_pure mB_X11_findSaying dX11_findSaying_92 rfl
theorem rX11_findSaying_93 : tA sc iX11_findSaying 93 ls (vI y :: vI x :: st) h Q = (if ¬ x = y then tA sc iX11_findSaying 111 ls st h Q else tA sc iX11_findSaying 96 ls st h Q) := tA_if mB_X11_findSaying dX11_findSaying_93 (fun _ _ _ _ => rfl) rfl
theorem rX11_findSaying_96 : tA sc iX11_findSaying 96 [l0, l1, l2, l3, l4, l5, vI x] st h Q = tA sc iX11_findSaying 98 [l0, l1, l2, l3, l4, l5, vI x] (vI x :: st) h Q := tA_pure mB_X11_findSaying dX11_findSaying_96 rfl
theorem rX11_findSaying_98 : tA sc iX11_findSaying 98 ls st h Q = tA sc iX11_findSaying 99 ls (vI (4) :: st) h Q := tA_pure mB_X11_findSaying dX11_findSaying_98 rfl
theorem rX11_findSaying_99 : tA sc iX11_findSaying 99 ls (vI y :: vI x :: st) h Q = (if y ≤ x then tA sc iX11_findSaying 107 ls st h Q else tA sc iX11_findSaying 102 ls st h Q) := tA_if mB_X11_findSaying dX11_findSaying_99 (fun _ _ _ _ => rfl) rfl
theorem rX11_findSaying_102 : tA sc iX11_findSaying 102 [l0, l1, l2, l3, l4, l5, vI x] st h Q = tA sc iX11_findSaying 104 [l0, l1, l2, l3, l4, l5, vI x] (vI x :: st) h Q := tA_pure mB_X11_findSaying dX11_findSaying_102 rfl
theorem rX11_findSaying_104 : tA sc iX11_findSaying 104 ls st h Q = tA sc iX11_findSaying 115 ls st h Q := tA_jump mB_X11_findSaying dX11_findSaying_104 (fun _ _ _ _ => rfl) rfl
theorem rX11_findSaying_107 : tA sc iX11_findSaying 107 ls st h Q = tA sc iX11_findSaying 108 ls (vI (4) :: st) h Q := tA_pure mB_X11_findSaying dX11_findSaying_107 rfl
theorem rX11_findSaying_108 : tA sc iX11_findSaying 108 ls st h Q = tA sc iX11_findSaying 115 ls st h Q := tA_jump mB_X11_findSaying dX11_findSaying_108 (fun _ _ _ _ => rfl) rfl
theorem rX11_findSaying_111 : tA sc iX11_findSaying 111 [vR r, l1, l2, l3, l4, l5, l6] st h Q = tA sc iX11_findSaying 112 [vR r, l1, l2, l3, l4, l5, l6] (vR r :: st) h Q := tA_pure mB_X11_findSaying dX11_findSaying_111 rfl
theorem rX11_findSaying_112 : tA sc iX11_findSaying 112 ls (vR (some o) :: st) h Q = oz (tget h o [11] 27) (fun v => tA sc iX11_findSaying 115 ls (v :: st) h Q) := tA_get mB_X11_findSaying mO_X11_findSaying dX11_findSaying_112 fT_11_267
theorem rX11_findSaying_115 : tA sc iX11_findSaying 115 ls (v :: vR (some o) :: st) h Q = oz (tput h o [11] 27 0 v) (fun h' => tA sc iX11_findSaying 118 ls st h' Q) := tA_put mB_X11_findSaying mO_X11_findSaying dX11_findSaying_115 fT_11_267 (Or.inl (by decide))
theorem rX11_findSaying_118 : tA sc iX11_findSaying 118 ls st h Q = tA sc iX11_findSaying 182 ls st h Q := tA_jump mB_X11_findSaying dX11_findSaying_118 (fun _ _ _ _ => rfl) rfl
theorem rX11_findSaying_121 : tA sc iX11_findSaying 121 [l0, l1, l2, vI x, l4, l5, l6] st h Q = tA sc iX11_findSaying 122 [l0, l1, l2, vI x, l4, l5, l6] (vI x :: st) h Q := tA_pure mB_X11_findSaying dX11_findSaying_121 rfl
theorem rX11_findSaying_122 : tA sc iX11_findSaying 122 ls st h Q = tA sc iX11_findSaying 123 ls (vI (2) :: st) h Q := tA_pure mB_X11_findSaying dX11_findSaying_122 rfl
theorem rX11_findSaying_123 : tA sc iX11_findSaying 123 ls (vI y :: vI x :: st) h Q = (if x = y then tA sc iX11_findSaying 155 ls st h Q else tA sc iX11_findSaying 126 ls st h Q) := tA_if mB_X11_findSaying dX11_findSaying_123 (fun _ _ _ _ => rfl) rfl
theorem rX11_findSaying_126 : tA sc iX11_findSaying 126 [l0, l1, l2, vI x, l4, l5, l6] st h Q = tA sc iX11_findSaying 127 [l0, l1, l2, vI x, l4, l5, l6] (vI x :: st) h Q := tA_pure mB_X11_findSaying dX11_findSaying_126 rfl
theorem rX11_findSaying_127 : tA sc iX11_findSaying 127 ls st h Q = tA sc iX11_findSaying 128 ls (vI (3) :: st) h Q := tA_pure mB_X11_findSaying dX11_findSaying_127 rfl
theorem rX11_findSaying_128 : tA sc iX11_findSaying 128 ls (vI y :: vI x :: st) h Q = (if ¬ x = y then tA sc iX11_findSaying 165 ls st h Q else tA sc iX11_findSaying 131 ls st h Q) := tA_if mB_X11_findSaying dX11_findSaying_128 (fun _ _ _ _ => rfl) rfl
theorem rX11_findSaying_131 : tA sc iX11_findSaying 131 ls st h Q = tA sc iX11_findSaying 133 ls (vI (10) :: st) h Q := tA_pure mB_X11_findSaying dX11_findSaying_131 rfl
theorem rX11_findSaying_133 : tA sc iX11_findSaying 133 [vR r, l1, l2, l3, l4, l5, l6] st h Q = tA sc iX11_findSaying 134 [vR r, l1, l2, l3, l4, l5, l6] (vR r :: st) h Q := tA_pure mB_X11_findSaying dX11_findSaying_133 rfl
theorem rX11_findSaying_134 : tA sc iX11_findSaying 134 [l0, l1, vI x, l3, l4, l5, l6] st h Q = tA sc iX11_findSaying 135 [l0, l1, vI x, l3, l4, l5, l6] (vI x :: st) h Q := tA_pure mB_X11_findSaying dX11_findSaying_134 rfl
theorem rX11_findSaying_135 : tA sc iX11_findSaying 135 [l0, l1, l2, l3, vI x, l5, l6] st h Q = tA sc iX11_findSaying 137 [l0, l1, l2, l3, vI x, l5, l6] (vI x :: st) h Q := tA_pure mB_X11_findSaying dX11_findSaying_135 rfl
theorem rX11_findSaying_137 (hci : tcl h o = some 11) : tA sc iX11_findSaying 137 ls [vI p1, vI p0, vR (some o), s0] h Q = tA sc iX11_weightOf 0 [vR (some o), vI p0, vI p1] [] h (fun v h1 => tA sc iX11_findSaying 140 ls (tpu v [s0]) h1 Q) := tA_cV mB_X11_findSaying mO_X11_findSaying dX11_findSaying_137 cT_11_228 rfl (Nat.le_of_ble_eq_true rfl) rfl rfl rfl hci
theorem rX11_findSaying_140 : tA sc iX11_findSaying 140 ls (vI y :: vI x :: st) h Q = tA sc iX11_findSaying 141 ls (vI (x * y) :: st) h Q := tA_pure mB_X11_findSaying dX11_findSaying_140 rfl
theorem rX11_findSaying_141 : tA sc iX11_findSaying 141 [vR r, l1, l2, l3, l4, l5, l6] st h Q = tA sc iX11_findSaying 142 [vR r, l1, l2, l3, l4, l5, l6] (vR r :: st) h Q := tA_pure mB_X11_findSaying dX11_findSaying_141 rfl
theorem rX11_findSaying_142 : tA sc iX11_findSaying 142 [l0, vI x, l2, l3, l4, l5, l6] st h Q = tA sc iX11_findSaying 143 [l0, vI x, l2, l3, l4, l5, l6] (vI x :: st) h Q := tA_pure mB_X11_findSaying dX11_findSaying_142 rfl
theorem rX11_findSaying_143 (hci : tcl h o = some 11) : tA sc iX11_findSaying 143 ls [vI p0, vR (some o), s0] h Q = tA sc iX11_aOf 0 [vR (some o), vI p0] [] h (fun v h1 => tA sc iX11_findSaying 146 ls (tpu v [s0]) h1 Q) := tA_cV mB_X11_findSaying mO_X11_findSaying dX11_findSaying_143 cT_11_253 rfl (Nat.le_of_ble_eq_true rfl) rfl rfl rfl hci
theorem rX11_findSaying_146 : tA sc iX11_findSaying 146 [vR r, l1, l2, l3, l4, l5, l6] st h Q = tA sc iX11_findSaying 147 [vR r, l1, l2, l3, l4, l5, l6] (vR r :: st) h Q := tA_pure mB_X11_findSaying dX11_findSaying_146 rfl
theorem rX11_findSaying_147 : tA sc iX11_findSaying 147 [l0, l1, vI x, l3, l4, l5, l6] st h Q = tA sc iX11_findSaying 148 [l0, l1, vI x, l3, l4, l5, l6] (vI x :: st) h Q := tA_pure mB_X11_findSaying dX11_findSaying_147 rfl
theorem rX11_findSaying_148 (hci : tcl h o = some 11) : tA sc iX11_findSaying 148 ls [vI p0, vR (some o), s0, s1] h Q = tA sc iX11_allOf 0 [vR (some o), vI p0] [] h (fun v h1 => tA sc iX11_findSaying 151 ls (tpu v [s0, s1]) h1 Q) := tA_cV mB_X11_findSaying mO_X11_findSaying dX11_findSaying_148 cT_11_277 rfl (Nat.le_of_ble_eq_true rfl) rfl rfl rfl hci
theorem rX11_findSaying_151 : tA sc iX11_findSaying 151 ls (vI y :: vI x :: st) h Q = tA sc iX11_findSaying 152 ls (vI (x * y) :: st) h Q := tA_pure mB_X11_findSaying dX11_findSaying_151 rfl
theorem rX11_findSaying_152 : tA sc iX11_findSaying 152 ls (vI y :: vI x :: st) h Q = (if x < y then tA sc iX11_findSaying 165 ls st h Q else tA sc iX11_findSaying 155 ls st h Q) := tA_if mB_X11_findSaying dX11_findSaying_152 (fun _ _ _ _ => rfl) rfl
theorem rX11_findSaying_155 : tA sc iX11_findSaying 155 [vR r, l1, l2, l3, l4, l5, l6] st h Q = tA sc iX11_findSaying 156 [vR r, l1, l2, l3, l4, l5, l6] (vR r :: st) h Q := tA_pure mB_X11_findSaying dX11_findSaying_155 rfl
theorem rX11_findSaying_156 : tA sc iX11_findSaying 156 [l0, l1, vI x, l3, l4, l5, l6] st h Q = tA sc iX11_findSaying 157 [l0, l1, vI x, l3, l4, l5, l6] (vI x :: st) h Q := tA_pure mB_X11_findSaying dX11_findSaying_156 rfl
theorem rX11_findSaying_157 : tA sc iX11_findSaying 157 [l0, l1, l2, l3, vI x, l5, l6] st h Q = tA sc iX11_findSaying 159 [l0, l1, l2, l3, vI x, l5, l6] (vI x :: st) h Q := tA_pure mB_X11_findSaying dX11_findSaying_157 rfl
theorem rX11_findSaying_159 (hci : tcl h o = some 11) : tA sc iX11_findSaying 159 ls [vI p1, vI p0, vR (some o)] h Q = tA sc iX11_one 0 [vR (some o), vI p0, vI p1] [] h (fun v h1 => tA sc iX11_findSaying 162 ls (tpu v []) h1 Q) := tA_cV mB_X11_findSaying mO_X11_findSaying dX11_findSaying_159 cT_11_273 rfl (Nat.le_of_ble_eq_true rfl) rfl rfl rfl hci
theorem rX11_findSaying_162 : tA sc iX11_findSaying 162 ls st h Q = tA sc iX11_findSaying 182 ls st h Q := tA_jump mB_X11_findSaying dX11_findSaying_162 (fun _ _ _ _ => rfl) rfl
theorem rX11_findSaying_165 : tA sc iX11_findSaying 165 [l0, l1, l2, vI x, l4, l5, l6] st h Q = tA sc iX11_findSaying 166 [l0, l1, l2, vI x, l4, l5, l6] (vI x :: st) h Q := tA_pure mB_X11_findSaying dX11_findSaying_165 rfl
theorem rX11_findSaying_166 : tA sc iX11_findSaying 166 ls st h Q = tA sc iX11_findSaying 167 ls (vI (5) :: st) h Q := tA_pure mB_X11_findSaying dX11_findSaying_166 rfl
theorem rX11_findSaying_167 : tA sc iX11_findSaying 167 ls (vI y :: vI x :: st) h Q = (if ¬ x = y then tA sc iX11_findSaying 182 ls st h Q else tA sc iX11_findSaying 170 ls st h Q) := tA_if mB_X11_findSaying dX11_findSaying_167 (fun _ _ _ _ => rfl) rfl
theorem rX11_findSaying_170 : tA sc iX11_findSaying 170 [vR r, l1, l2, l3, l4, l5, l6] st h Q = tA sc iX11_findSaying 171 [vR r, l1, l2, l3, l4, l5, l6] (vR r :: st) h Q := tA_pure mB_X11_findSaying dX11_findSaying_170 rfl
theorem rX11_findSaying_171 : tA sc iX11_findSaying 171 [l0, l1, vI x, l3, l4, l5, l6] st h Q = tA sc iX11_findSaying 172 [l0, l1, vI x, l3, l4, l5, l6] (vI x :: st) h Q := tA_pure mB_X11_findSaying dX11_findSaying_171 rfl
theorem rX11_findSaying_172 : tA sc iX11_findSaying 172 [vR r, l1, l2, l3, l4, l5, l6] st h Q = tA sc iX11_findSaying 173 [vR r, l1, l2, l3, l4, l5, l6] (vR r :: st) h Q := tA_pure mB_X11_findSaying dX11_findSaying_172 rfl
theorem rX11_findSaying_173 : tA sc iX11_findSaying 173 [l0, vI x, l2, l3, l4, l5, l6] st h Q = tA sc iX11_findSaying 174 [l0, vI x, l2, l3, l4, l5, l6] (vI x :: st) h Q := tA_pure mB_X11_findSaying dX11_findSaying_173 rfl
theorem rX11_findSaying_174 (hci : tcl h o = some 11) : tA sc iX11_findSaying 174 ls [vI p0, vR (some o), s0, s1] h Q = tA sc iX11_aOf 0 [vR (some o), vI p0] [] h (fun v h1 => tA sc iX11_findSaying 177 ls (tpu v [s0, s1]) h1 Q) := tA_cV mB_X11_findSaying mO_X11_findSaying dX11_findSaying_174 cT_11_253 rfl (Nat.le_of_ble_eq_true rfl) rfl rfl rfl hci
theorem rX11_findSaying_177 : tA sc iX11_findSaying 177 ls st h Q = tA sc iX11_findSaying 178 ls (vI (4) :: st) h Q := tA_pure mB_X11_findSaying dX11_findSaying_177 rfl
theorem rX11_findSaying_178 : tA sc iX11_findSaying 178 ls (vI y :: vI x :: st) h Q = (¬ y = 0 ∧ tA sc iX11_findSaying 179 ls (vI (x - x / y * y) :: st) h Q) := tA_div mB_X11_findSaying dX11_findSaying_178 (fun _ _ _ => rfl) (fun _ _ _ _ _ => rfl) rfl (fun _ _ => rfl) rfl
theorem rX11_findSaying_179 (hci : tcl h o = some 11) : tA sc iX11_findSaying 179 ls [vI p1, vI p0, vR (some o)] h Q = tA sc iX11_one 0 [vR (some o), vI p0, vI p1] [] h (fun v h1 => tA sc iX11_findSaying 182 ls (tpu v []) h1 Q) := tA_cV mB_X11_findSaying mO_X11_findSaying dX11_findSaying_179 cT_11_273 rfl (Nat.le_of_ble_eq_true rfl) rfl rfl rfl hci
theorem rX11_findSaying_182 : tA sc iX11_findSaying 182 ls [] h Q = Q (none) h := tA_ret mB_X11_findSaying dX11_findSaying_182 (fun _ _ _ _ => rfl) (fun _ _ _ => rfl) (fun _ _ _ _ _ => rfl) rfl rfl
end S17
