/-! WHAT THE TABLES SAY, by program (wip/whole/gen_ok.py): each entry against the claim's words, by their places -/
def lw_good : List Cond := lw_tbl.filter goodWord
theorem lw_in {w : Cond} (i : Nat) (h : lw_tbl[i]? = some w) (g : goodWord w = true) : w ∈ lw_good := List.mem_filter.mpr ⟨List.mem_of_getElem? h, g⟩
theorem lw_ins {ws : List Cond} (ps : List Nat) (h : ws = ps.filterMap (fun i => lw_tbl[i]?)) (g : ws.all goodWord = true) : ∀ w ∈ ws, w ∈ lw_good := by
  intro w hw
  have g1 := List.all_eq_true.mp g w hw
  rw [h] at hw
  obtain ⟨i, -, hi⟩ := List.mem_filterMap.mp hw
  exact lw_in i hi g1
def tN (ci : Nat) : Nat := (fKT.getD ci []).length
/-- what travels through all calls: the classes' and arrays' tables, the script, the constant rows -/
def nwC : List Cond := [.methodLinkNest RX10 24 yX1_init RX10, .methodLinkNest RX10 47 yX8_init RX10, .methodLinkNest RX1 89 yX10_thingOf RX10, .fieldLinkNest RX9 27 RX10 "LAW_AT_FIRST" "[I" RX10, .castable "[I" "java/lang/Cloneable", .castable RX0 RX2, .castable RX6 RX3, .castable RX2 RX4, .castable RX3 RX4, .castable RX6 RX4, .castable RX0 RX4, .castable RX7 RX4]
def ncC : List (String × String) := [(RX3, RX2), (RX4, RX2), (RX6, RX2), (RX7, RX2), (RX0, RX3), (RX2, RX3), (RX4, RX3), (RX7, RX3), (RX0, RX6), (RX2, RX6), (RX3, RX6), (RX4, RX6), (RX7, RX6), (RX2, RX0), (RX3, RX0), (RX4, RX0), (RX6, RX0), (RX7, RX0), (RX0, RX7), (RX2, RX7), (RX3, RX7), (RX4, RX7), (RX6, RX7)]
def tkt (kind : Nat) (ty : FieldType) : Prop := match kind with
  | 0 => ty = .int
  | 1 => ty = .boolean
  | 2 => ty = .long
  | _ => (∃ n, ty = .object n) ∨ ∃ t, ty = .array t
def fOK (own k ci sl kind : Nat) : Prop := ∃ (C : String) (T : u_T) (N : Nat) (ty0 : Nat → FieldType) (ref : String), vwCl[ci]? = some (C, T, N) ∧ N = tN ci ∧ sl < N ∧ (∀ w ∈ u_ws C T N, w ∈ lw_good) ∧ (∀ j, j < N → parseFieldDescriptor (T j).2.2.1 = some (ty0 j)) ∧ (∀ a, a < N → ∀ b, b < N → a ≠ b → (T a).2.1 ≠ (T b).2.1) ∧ Cond.fieldLink (cNm own) k ref (T sl).2.1 (T sl).2.2.1 ∈ lw_good ∧ (ref = (T sl).1 ∨ Cond.sameField ref (T sl).1 (T sl).2.1 (T sl).2.2.1 ∈ lw_good) ∧ tkt (kind % 10) (ty0 sl) ∧ ((T sl).2.2.2 = false ∧ kind < 10 ∨ (T sl).2.2.2 = true ∧ 10 ≤ kind ∧ kind < 20 ∧ (T sl).1 = cNm own ∨ 20 ≤ kind)
theorem inG0 : ∀ w ∈ u_ws RX0 TX0 3, w ∈ lw_good := lw_ins [436, 437, 438] (by decide +kernel) (by decide +kernel)
theorem inG1 : ∀ w ∈ u_ws RX1 TX1 6, w ∈ lw_good := lw_ins [191, 193, 195, 197, 199, 201] (by decide +kernel) (by decide +kernel)
theorem inG2 : ∀ w ∈ u_ws RX2 TX2 3, w ∈ lw_good := lw_ins [403, 405, 407] (by decide +kernel) (by decide +kernel)
theorem inG3 : ∀ w ∈ u_ws RX3 TX3 3, w ∈ lw_good := lw_ins [416, 417, 418] (by decide +kernel) (by decide +kernel)
theorem inG4 : ∀ w ∈ u_ws RX4 TX4 3, w ∈ lw_good := lw_ins [453, 454, 455] (by decide +kernel) (by decide +kernel)
theorem inG5 : ∀ w ∈ u_ws RX5 TX5 2, w ∈ lw_good := lw_ins [873, 875] (by decide +kernel) (by decide +kernel)
theorem inG6 : ∀ w ∈ u_ws RX6 TX6 3, w ∈ lw_good := lw_ins [426, 427, 428] (by decide +kernel) (by decide +kernel)
theorem inG7 : ∀ w ∈ u_ws RX7 TX7 3, w ∈ lw_good := lw_ins [446, 447, 448] (by decide +kernel) (by decide +kernel)
theorem inG8 : ∀ w ∈ u_ws RX8 TX8 3, w ∈ lw_good := lw_ins [222, 224, 226] (by decide +kernel) (by decide +kernel)
theorem inG9 : ∀ w ∈ u_ws RX9 TX9 15, w ∈ lw_good := lw_ins [146, 148, 150, 152, 154, 156, 158, 160, 162, 164, 166, 168, 170, 172, 174] (by decide +kernel) (by decide +kernel)
theorem inG10 : ∀ w ∈ u_ws RX10 TX10 11, w ∈ lw_good := lw_ins [240, 242, 244, 246, 248, 250, 252, 254, 256, 258, 260] (by decide +kernel) (by decide +kernel)
theorem inG11 : ∀ w ∈ u_ws RX11 TX11 53, w ∈ lw_good := lw_ins [1080, 1082, 1084, 1086, 1088, 1090, 1092, 1094, 1096, 1098, 1100, 1102, 1104, 1106, 1108, 1110, 1112, 1114, 1116, 1118, 1120, 1122, 1124, 1126, 1128, 1130, 1132, 1134, 1136, 1138, 1140, 1142, 1144, 1146, 1148, 1150, 1152, 1154, 1156, 1158, 1160, 1162, 1164, 1166, 1168, 1170, 1172, 1174, 1176, 1178, 1180, 1182, 1184] (by decide +kernel) (by decide +kernel)
theorem fl_0_22 : Cond.fieldLink (cNm 0) 22 "SaidWeather$All" "number" "I" ∈ lw_good := lw_in 391 (by decide +kernel) (by decide +kernel)
theorem fo_0_22_0 : fOK 0 22 0 1 20 := ⟨RX0, TX0, 3, tyX0, "SaidWeather$All", rfl, rfl, by decide, inG0, tyX0_ok, nmX0, fl_0_22, Or.inr (lw_in 392 (by decide +kernel) (by decide +kernel)), rfl, Or.inr (Or.inr (by decide))⟩
theorem fo_0_22_2 : fOK 0 22 2 1 20 := ⟨RX2, TX2, 3, tyX2, "SaidWeather$All", rfl, rfl, by decide, inG2, tyX2_ok, nmX2, fl_0_22, Or.inr (lw_in 392 (by decide +kernel) (by decide +kernel)), rfl, Or.inr (Or.inr (by decide))⟩
theorem fo_0_22_3 : fOK 0 22 3 1 20 := ⟨RX3, TX3, 3, tyX3, "SaidWeather$All", rfl, rfl, by decide, inG3, tyX3_ok, nmX3, fl_0_22, Or.inr (lw_in 392 (by decide +kernel) (by decide +kernel)), rfl, Or.inr (Or.inr (by decide))⟩
theorem fo_0_22_4 : fOK 0 22 4 1 20 := ⟨RX4, TX4, 3, tyX4, "SaidWeather$All", rfl, rfl, by decide, inG4, tyX4_ok, nmX4, fl_0_22, Or.inr (lw_in 392 (by decide +kernel) (by decide +kernel)), rfl, Or.inr (Or.inr (by decide))⟩
theorem fo_0_22_6 : fOK 0 22 6 1 20 := ⟨RX6, TX6, 3, tyX6, "SaidWeather$All", rfl, rfl, by decide, inG6, tyX6_ok, nmX6, fl_0_22, Or.inr (lw_in 392 (by decide +kernel) (by decide +kernel)), rfl, Or.inr (Or.inr (by decide))⟩
theorem fo_0_22_7 : fOK 0 22 7 1 20 := ⟨RX7, TX7, 3, tyX7, "SaidWeather$All", rfl, rfl, by decide, inG7, tyX7_ok, nmX7, fl_0_22, Or.inr (lw_in 392 (by decide +kernel) (by decide +kernel)), rfl, Or.inr (Or.inr (by decide))⟩
theorem fa_0_22 : ∀ ci ∈ ([0, 2, 3, 4, 6, 7] : List Nat), fOK 0 22 ci 1 20 := List.forall_mem_cons.mpr ⟨fo_0_22_0, List.forall_mem_cons.mpr ⟨fo_0_22_2, List.forall_mem_cons.mpr ⟨fo_0_22_3, List.forall_mem_cons.mpr ⟨fo_0_22_4, List.forall_mem_cons.mpr ⟨fo_0_22_6, List.forall_mem_cons.mpr ⟨fo_0_22_7, fun _ h => absurd h List.not_mem_nil⟩⟩⟩⟩⟩⟩
theorem fl_1_9 : Cond.fieldLink (cNm 1) 9 "SaidWeather$Clerk" "tape" "[B" ∈ lw_good := lw_in 184 (by decide +kernel) (by decide +kernel)
theorem fo_1_9_1 : fOK 1 9 1 0 13 := ⟨RX1, TX1, 6, tyX1, "SaidWeather$Clerk", rfl, rfl, by decide, inG1, tyX1_ok, nmX1, fl_1_9, Or.inl rfl, Or.inr ⟨_, rfl⟩, Or.inr (Or.inl ⟨rfl, by decide, by decide, rfl⟩)⟩
theorem fa_1_9 : ∀ ci ∈ ([1] : List Nat), fOK 1 9 ci 0 13 := List.forall_mem_cons.mpr ⟨fo_1_9_1, fun _ h => absurd h List.not_mem_nil⟩
theorem fl_1_15 : Cond.fieldLink (cNm 1) 15 "SaidWeather$Clerk" "length" "I" ∈ lw_good := lw_in 185 (by decide +kernel) (by decide +kernel)
theorem fo_1_15_1 : fOK 1 15 1 1 0 := ⟨RX1, TX1, 6, tyX1, "SaidWeather$Clerk", rfl, rfl, by decide, inG1, tyX1_ok, nmX1, fl_1_15, Or.inl rfl, rfl, Or.inl ⟨rfl, by decide⟩⟩
theorem fa_1_15 : ∀ ci ∈ ([1] : List Nat), fOK 1 15 ci 1 0 := List.forall_mem_cons.mpr ⟨fo_1_15_1, fun _ h => absurd h List.not_mem_nil⟩
theorem fl_1_19 : Cond.fieldLink (cNm 1) 19 "SaidWeather$Clerk" "fault" "I" ∈ lw_good := lw_in 190 (by decide +kernel) (by decide +kernel)
theorem fo_1_19_1 : fOK 1 19 1 5 0 := ⟨RX1, TX1, 6, tyX1, "SaidWeather$Clerk", rfl, rfl, by decide, inG1, tyX1_ok, nmX1, fl_1_19, Or.inl rfl, rfl, Or.inl ⟨rfl, by decide⟩⟩
theorem fa_1_19 : ∀ ci ∈ ([1] : List Nat), fOK 1 19 ci 5 0 := List.forall_mem_cons.mpr ⟨fo_1_19_1, fun _ h => absurd h List.not_mem_nil⟩
theorem fl_1_22 : Cond.fieldLink (cNm 1) 22 "SaidWeather$Clerk" "to" "I" ∈ lw_good := lw_in 189 (by decide +kernel) (by decide +kernel)
theorem fo_1_22_1 : fOK 1 22 1 4 0 := ⟨RX1, TX1, 6, tyX1, "SaidWeather$Clerk", rfl, rfl, by decide, inG1, tyX1_ok, nmX1, fl_1_22, Or.inl rfl, rfl, Or.inl ⟨rfl, by decide⟩⟩
theorem fa_1_22 : ∀ ci ∈ ([1] : List Nat), fOK 1 22 ci 4 0 := List.forall_mem_cons.mpr ⟨fo_1_22_1, fun _ h => absurd h List.not_mem_nil⟩
theorem fl_1_28 : Cond.fieldLink (cNm 1) 28 "SaidWeather$Clerk" "sort" "I" ∈ lw_good := lw_in 187 (by decide +kernel) (by decide +kernel)
theorem fo_1_28_1 : fOK 1 28 1 2 0 := ⟨RX1, TX1, 6, tyX1, "SaidWeather$Clerk", rfl, rfl, by decide, inG1, tyX1_ok, nmX1, fl_1_28, Or.inl rfl, rfl, Or.inl ⟨rfl, by decide⟩⟩
theorem fa_1_28 : ∀ ci ∈ ([1] : List Nat), fOK 1 28 ci 2 0 := List.forall_mem_cons.mpr ⟨fo_1_28_1, fun _ h => absurd h List.not_mem_nil⟩
theorem fl_1_63 : Cond.fieldLink (cNm 1) 63 "SaidWeather$World" "today" "I" ∈ lw_good := lw_in 127 (by decide +kernel) (by decide +kernel)
theorem fo_1_63_9 : fOK 1 63 9 6 0 := ⟨RX9, TX9, 15, tyX9, "SaidWeather$World", rfl, rfl, by decide, inG9, tyX9_ok, nmX9, fl_1_63, Or.inl rfl, rfl, Or.inl ⟨rfl, by decide⟩⟩
theorem fa_1_63 : ∀ ci ∈ ([9] : List Nat), fOK 1 63 ci 6 0 := List.forall_mem_cons.mpr ⟨fo_1_63_9, fun _ h => absurd h List.not_mem_nil⟩
theorem fl_1_68 : Cond.fieldLink (cNm 1) 68 "SaidWeather$Clerk" "from" "I" ∈ lw_good := lw_in 188 (by decide +kernel) (by decide +kernel)
theorem fo_1_68_1 : fOK 1 68 1 3 0 := ⟨RX1, TX1, 6, tyX1, "SaidWeather$Clerk", rfl, rfl, by decide, inG1, tyX1_ok, nmX1, fl_1_68, Or.inl rfl, rfl, Or.inl ⟨rfl, by decide⟩⟩
theorem fa_1_68 : ∀ ci ∈ ([1] : List Nat), fOK 1 68 ci 3 0 := List.forall_mem_cons.mpr ⟨fo_1_68_1, fun _ h => absurd h List.not_mem_nil⟩
theorem fl_1_86 : Cond.fieldLink (cNm 1) 86 "SaidWeather$World" "sayerCount" "I" ∈ lw_good := lw_in 137 (by decide +kernel) (by decide +kernel)
theorem fo_1_86_9 : fOK 1 86 9 10 0 := ⟨RX9, TX9, 15, tyX9, "SaidWeather$World", rfl, rfl, by decide, inG9, tyX9_ok, nmX9, fl_1_86, Or.inl rfl, rfl, Or.inl ⟨rfl, by decide⟩⟩
theorem fa_1_86 : ∀ ci ∈ ([9] : List Nat), fOK 1 86 ci 10 0 := List.forall_mem_cons.mpr ⟨fo_1_86_9, fun _ h => absurd h List.not_mem_nil⟩
theorem fl_1_115 : Cond.fieldLink (cNm 1) 115 "SaidWeather$World" "worths" "[I" ∈ lw_good := lw_in 110 (by decide +kernel) (by decide +kernel)
theorem fo_1_115_9 : fOK 1 115 9 0 23 := ⟨RX9, TX9, 15, tyX9, "SaidWeather$World", rfl, rfl, by decide, inG9, tyX9_ok, nmX9, fl_1_115, Or.inl rfl, Or.inr ⟨_, rfl⟩, Or.inr (Or.inr (by decide))⟩
theorem fa_1_115 : ∀ ci ∈ ([9] : List Nat), fOK 1 115 ci 0 23 := List.forall_mem_cons.mpr ⟨fo_1_115_9, fun _ h => absurd h List.not_mem_nil⟩
theorem fl_1_126 : Cond.fieldLink (cNm 1) 126 "SaidWeather$World" "signs" "[I" ∈ lw_good := lw_in 116 (by decide +kernel) (by decide +kernel)
theorem fo_1_126_9 : fOK 1 126 9 2 23 := ⟨RX9, TX9, 15, tyX9, "SaidWeather$World", rfl, rfl, by decide, inG9, tyX9_ok, nmX9, fl_1_126, Or.inl rfl, Or.inr ⟨_, rfl⟩, Or.inr (Or.inr (by decide))⟩
theorem fa_1_126 : ∀ ci ∈ ([9] : List Nat), fOK 1 126 ci 2 23 := List.forall_mem_cons.mpr ⟨fo_1_126_9, fun _ h => absurd h List.not_mem_nil⟩
theorem fl_1_129 : Cond.fieldLink (cNm 1) 129 "SaidWeather$World" "weights" "[I" ∈ lw_good := lw_in 113 (by decide +kernel) (by decide +kernel)
theorem fo_1_129_9 : fOK 1 129 9 1 23 := ⟨RX9, TX9, 15, tyX9, "SaidWeather$World", rfl, rfl, by decide, inG9, tyX9_ok, nmX9, fl_1_129, Or.inl rfl, Or.inr ⟨_, rfl⟩, Or.inr (Or.inr (by decide))⟩
theorem fa_1_129 : ∀ ci ∈ ([9] : List Nat), fOK 1 129 ci 1 23 := List.forall_mem_cons.mpr ⟨fo_1_129_9, fun _ h => absurd h List.not_mem_nil⟩
theorem fl_2_7 : Cond.fieldLink (cNm 2) 7 "SaidWeather$Early" "a" "I" ∈ lw_good := lw_in 396 (by decide +kernel) (by decide +kernel)
theorem fo_2_7_0 : fOK 2 7 0 2 20 := ⟨RX0, TX0, 3, tyX0, "SaidWeather$Early", rfl, rfl, by decide, inG0, tyX0_ok, nmX0, fl_2_7, Or.inr (lw_in 397 (by decide +kernel) (by decide +kernel)), rfl, Or.inr (Or.inr (by decide))⟩
theorem fo_2_7_2 : fOK 2 7 2 2 20 := ⟨RX2, TX2, 3, tyX2, "SaidWeather$Early", rfl, rfl, by decide, inG2, tyX2_ok, nmX2, fl_2_7, Or.inr (lw_in 397 (by decide +kernel) (by decide +kernel)), rfl, Or.inr (Or.inr (by decide))⟩
theorem fo_2_7_3 : fOK 2 7 3 2 20 := ⟨RX3, TX3, 3, tyX3, "SaidWeather$Early", rfl, rfl, by decide, inG3, tyX3_ok, nmX3, fl_2_7, Or.inr (lw_in 397 (by decide +kernel) (by decide +kernel)), rfl, Or.inr (Or.inr (by decide))⟩
theorem fo_2_7_4 : fOK 2 7 4 2 20 := ⟨RX4, TX4, 3, tyX4, "SaidWeather$Early", rfl, rfl, by decide, inG4, tyX4_ok, nmX4, fl_2_7, Or.inr (lw_in 397 (by decide +kernel) (by decide +kernel)), rfl, Or.inr (Or.inr (by decide))⟩
theorem fo_2_7_6 : fOK 2 7 6 2 20 := ⟨RX6, TX6, 3, tyX6, "SaidWeather$Early", rfl, rfl, by decide, inG6, tyX6_ok, nmX6, fl_2_7, Or.inr (lw_in 397 (by decide +kernel) (by decide +kernel)), rfl, Or.inr (Or.inr (by decide))⟩
theorem fo_2_7_7 : fOK 2 7 7 2 20 := ⟨RX7, TX7, 3, tyX7, "SaidWeather$Early", rfl, rfl, by decide, inG7, tyX7_ok, nmX7, fl_2_7, Or.inr (lw_in 397 (by decide +kernel) (by decide +kernel)), rfl, Or.inr (Or.inr (by decide))⟩
theorem fa_2_7 : ∀ ci ∈ ([0, 2, 3, 4, 6, 7] : List Nat), fOK 2 7 ci 2 20 := List.forall_mem_cons.mpr ⟨fo_2_7_0, List.forall_mem_cons.mpr ⟨fo_2_7_2, List.forall_mem_cons.mpr ⟨fo_2_7_3, List.forall_mem_cons.mpr ⟨fo_2_7_4, List.forall_mem_cons.mpr ⟨fo_2_7_6, List.forall_mem_cons.mpr ⟨fo_2_7_7, fun _ h => absurd h List.not_mem_nil⟩⟩⟩⟩⟩⟩
theorem fl_3_7 : Cond.fieldLink (cNm 3) 7 "SaidWeather$World" "today" "I" ∈ lw_good := lw_in 124 (by decide +kernel) (by decide +kernel)
theorem fo_3_7_9 : fOK 3 7 9 6 0 := ⟨RX9, TX9, 15, tyX9, "SaidWeather$World", rfl, rfl, by decide, inG9, tyX9_ok, nmX9, fl_3_7, Or.inl rfl, rfl, Or.inl ⟨rfl, by decide⟩⟩
theorem fa_3_7 : ∀ ci ∈ ([9] : List Nat), fOK 3 7 ci 6 0 := List.forall_mem_cons.mpr ⟨fo_3_7_9, fun _ h => absurd h List.not_mem_nil⟩
theorem fl_3_34 : Cond.fieldLink (cNm 3) 34 "SaidWeather$Late" "number" "I" ∈ lw_good := lw_in 389 (by decide +kernel) (by decide +kernel)
theorem fo_3_34_0 : fOK 3 34 0 1 20 := ⟨RX0, TX0, 3, tyX0, "SaidWeather$Late", rfl, rfl, by decide, inG0, tyX0_ok, nmX0, fl_3_34, Or.inr (lw_in 390 (by decide +kernel) (by decide +kernel)), rfl, Or.inr (Or.inr (by decide))⟩
theorem fo_3_34_2 : fOK 3 34 2 1 20 := ⟨RX2, TX2, 3, tyX2, "SaidWeather$Late", rfl, rfl, by decide, inG2, tyX2_ok, nmX2, fl_3_34, Or.inr (lw_in 390 (by decide +kernel) (by decide +kernel)), rfl, Or.inr (Or.inr (by decide))⟩
theorem fo_3_34_3 : fOK 3 34 3 1 20 := ⟨RX3, TX3, 3, tyX3, "SaidWeather$Late", rfl, rfl, by decide, inG3, tyX3_ok, nmX3, fl_3_34, Or.inr (lw_in 390 (by decide +kernel) (by decide +kernel)), rfl, Or.inr (Or.inr (by decide))⟩
theorem fo_3_34_4 : fOK 3 34 4 1 20 := ⟨RX4, TX4, 3, tyX4, "SaidWeather$Late", rfl, rfl, by decide, inG4, tyX4_ok, nmX4, fl_3_34, Or.inr (lw_in 390 (by decide +kernel) (by decide +kernel)), rfl, Or.inr (Or.inr (by decide))⟩
theorem fo_3_34_6 : fOK 3 34 6 1 20 := ⟨RX6, TX6, 3, tyX6, "SaidWeather$Late", rfl, rfl, by decide, inG6, tyX6_ok, nmX6, fl_3_34, Or.inr (lw_in 390 (by decide +kernel) (by decide +kernel)), rfl, Or.inr (Or.inr (by decide))⟩
theorem fo_3_34_7 : fOK 3 34 7 1 20 := ⟨RX7, TX7, 3, tyX7, "SaidWeather$Late", rfl, rfl, by decide, inG7, tyX7_ok, nmX7, fl_3_34, Or.inr (lw_in 390 (by decide +kernel) (by decide +kernel)), rfl, Or.inr (Or.inr (by decide))⟩
theorem fa_3_34 : ∀ ci ∈ ([0, 2, 3, 4, 6, 7] : List Nat), fOK 3 34 ci 1 20 := List.forall_mem_cons.mpr ⟨fo_3_34_0, List.forall_mem_cons.mpr ⟨fo_3_34_2, List.forall_mem_cons.mpr ⟨fo_3_34_3, List.forall_mem_cons.mpr ⟨fo_3_34_4, List.forall_mem_cons.mpr ⟨fo_3_34_6, List.forall_mem_cons.mpr ⟨fo_3_34_7, fun _ h => absurd h List.not_mem_nil⟩⟩⟩⟩⟩⟩
theorem fl_4_9 : Cond.fieldLink (cNm 4) 9 "SaidWeather$Sayer" "kind" "I" ∈ lw_good := lw_in 384 (by decide +kernel) (by decide +kernel)
theorem fo_4_9_0 : fOK 4 9 0 0 10 := ⟨RX0, TX0, 3, tyX0, "SaidWeather$Sayer", rfl, rfl, by decide, inG0, tyX0_ok, nmX0, fl_4_9, Or.inl rfl, rfl, Or.inr (Or.inl ⟨rfl, by decide, by decide, rfl⟩)⟩
theorem fo_4_9_2 : fOK 4 9 2 0 10 := ⟨RX2, TX2, 3, tyX2, "SaidWeather$Sayer", rfl, rfl, by decide, inG2, tyX2_ok, nmX2, fl_4_9, Or.inl rfl, rfl, Or.inr (Or.inl ⟨rfl, by decide, by decide, rfl⟩)⟩
theorem fo_4_9_3 : fOK 4 9 3 0 10 := ⟨RX3, TX3, 3, tyX3, "SaidWeather$Sayer", rfl, rfl, by decide, inG3, tyX3_ok, nmX3, fl_4_9, Or.inl rfl, rfl, Or.inr (Or.inl ⟨rfl, by decide, by decide, rfl⟩)⟩
theorem fo_4_9_4 : fOK 4 9 4 0 10 := ⟨RX4, TX4, 3, tyX4, "SaidWeather$Sayer", rfl, rfl, by decide, inG4, tyX4_ok, nmX4, fl_4_9, Or.inl rfl, rfl, Or.inr (Or.inl ⟨rfl, by decide, by decide, rfl⟩)⟩
theorem fo_4_9_6 : fOK 4 9 6 0 10 := ⟨RX6, TX6, 3, tyX6, "SaidWeather$Sayer", rfl, rfl, by decide, inG6, tyX6_ok, nmX6, fl_4_9, Or.inl rfl, rfl, Or.inr (Or.inl ⟨rfl, by decide, by decide, rfl⟩)⟩
theorem fo_4_9_7 : fOK 4 9 7 0 10 := ⟨RX7, TX7, 3, tyX7, "SaidWeather$Sayer", rfl, rfl, by decide, inG7, tyX7_ok, nmX7, fl_4_9, Or.inl rfl, rfl, Or.inr (Or.inl ⟨rfl, by decide, by decide, rfl⟩)⟩
theorem fa_4_9 : ∀ ci ∈ ([0, 2, 3, 4, 6, 7] : List Nat), fOK 4 9 ci 0 10 := List.forall_mem_cons.mpr ⟨fo_4_9_0, List.forall_mem_cons.mpr ⟨fo_4_9_2, List.forall_mem_cons.mpr ⟨fo_4_9_3, List.forall_mem_cons.mpr ⟨fo_4_9_4, List.forall_mem_cons.mpr ⟨fo_4_9_6, List.forall_mem_cons.mpr ⟨fo_4_9_7, fun _ h => absurd h List.not_mem_nil⟩⟩⟩⟩⟩⟩
theorem fl_4_15 : Cond.fieldLink (cNm 4) 15 "SaidWeather$Sayer" "number" "I" ∈ lw_good := lw_in 386 (by decide +kernel) (by decide +kernel)
theorem fo_4_15_0 : fOK 4 15 0 1 10 := ⟨RX0, TX0, 3, tyX0, "SaidWeather$Sayer", rfl, rfl, by decide, inG0, tyX0_ok, nmX0, fl_4_15, Or.inl rfl, rfl, Or.inr (Or.inl ⟨rfl, by decide, by decide, rfl⟩)⟩
theorem fo_4_15_2 : fOK 4 15 2 1 10 := ⟨RX2, TX2, 3, tyX2, "SaidWeather$Sayer", rfl, rfl, by decide, inG2, tyX2_ok, nmX2, fl_4_15, Or.inl rfl, rfl, Or.inr (Or.inl ⟨rfl, by decide, by decide, rfl⟩)⟩
theorem fo_4_15_3 : fOK 4 15 3 1 10 := ⟨RX3, TX3, 3, tyX3, "SaidWeather$Sayer", rfl, rfl, by decide, inG3, tyX3_ok, nmX3, fl_4_15, Or.inl rfl, rfl, Or.inr (Or.inl ⟨rfl, by decide, by decide, rfl⟩)⟩
theorem fo_4_15_4 : fOK 4 15 4 1 10 := ⟨RX4, TX4, 3, tyX4, "SaidWeather$Sayer", rfl, rfl, by decide, inG4, tyX4_ok, nmX4, fl_4_15, Or.inl rfl, rfl, Or.inr (Or.inl ⟨rfl, by decide, by decide, rfl⟩)⟩
theorem fo_4_15_6 : fOK 4 15 6 1 10 := ⟨RX6, TX6, 3, tyX6, "SaidWeather$Sayer", rfl, rfl, by decide, inG6, tyX6_ok, nmX6, fl_4_15, Or.inl rfl, rfl, Or.inr (Or.inl ⟨rfl, by decide, by decide, rfl⟩)⟩
theorem fo_4_15_7 : fOK 4 15 7 1 10 := ⟨RX7, TX7, 3, tyX7, "SaidWeather$Sayer", rfl, rfl, by decide, inG7, tyX7_ok, nmX7, fl_4_15, Or.inl rfl, rfl, Or.inr (Or.inl ⟨rfl, by decide, by decide, rfl⟩)⟩
theorem fa_4_15 : ∀ ci ∈ ([0, 2, 3, 4, 6, 7] : List Nat), fOK 4 15 ci 1 10 := List.forall_mem_cons.mpr ⟨fo_4_15_0, List.forall_mem_cons.mpr ⟨fo_4_15_2, List.forall_mem_cons.mpr ⟨fo_4_15_3, List.forall_mem_cons.mpr ⟨fo_4_15_4, List.forall_mem_cons.mpr ⟨fo_4_15_6, List.forall_mem_cons.mpr ⟨fo_4_15_7, fun _ h => absurd h List.not_mem_nil⟩⟩⟩⟩⟩⟩
theorem fl_4_18 : Cond.fieldLink (cNm 4) 18 "SaidWeather$Sayer" "a" "I" ∈ lw_good := lw_in 395 (by decide +kernel) (by decide +kernel)
theorem fo_4_18_0 : fOK 4 18 0 2 10 := ⟨RX0, TX0, 3, tyX0, "SaidWeather$Sayer", rfl, rfl, by decide, inG0, tyX0_ok, nmX0, fl_4_18, Or.inl rfl, rfl, Or.inr (Or.inl ⟨rfl, by decide, by decide, rfl⟩)⟩
theorem fo_4_18_2 : fOK 4 18 2 2 10 := ⟨RX2, TX2, 3, tyX2, "SaidWeather$Sayer", rfl, rfl, by decide, inG2, tyX2_ok, nmX2, fl_4_18, Or.inl rfl, rfl, Or.inr (Or.inl ⟨rfl, by decide, by decide, rfl⟩)⟩
theorem fo_4_18_3 : fOK 4 18 3 2 10 := ⟨RX3, TX3, 3, tyX3, "SaidWeather$Sayer", rfl, rfl, by decide, inG3, tyX3_ok, nmX3, fl_4_18, Or.inl rfl, rfl, Or.inr (Or.inl ⟨rfl, by decide, by decide, rfl⟩)⟩
theorem fo_4_18_4 : fOK 4 18 4 2 10 := ⟨RX4, TX4, 3, tyX4, "SaidWeather$Sayer", rfl, rfl, by decide, inG4, tyX4_ok, nmX4, fl_4_18, Or.inl rfl, rfl, Or.inr (Or.inl ⟨rfl, by decide, by decide, rfl⟩)⟩
theorem fo_4_18_6 : fOK 4 18 6 2 10 := ⟨RX6, TX6, 3, tyX6, "SaidWeather$Sayer", rfl, rfl, by decide, inG6, tyX6_ok, nmX6, fl_4_18, Or.inl rfl, rfl, Or.inr (Or.inl ⟨rfl, by decide, by decide, rfl⟩)⟩
theorem fo_4_18_7 : fOK 4 18 7 2 10 := ⟨RX7, TX7, 3, tyX7, "SaidWeather$Sayer", rfl, rfl, by decide, inG7, tyX7_ok, nmX7, fl_4_18, Or.inl rfl, rfl, Or.inr (Or.inl ⟨rfl, by decide, by decide, rfl⟩)⟩
theorem fa_4_18 : ∀ ci ∈ ([0, 2, 3, 4, 6, 7] : List Nat), fOK 4 18 ci 2 10 := List.forall_mem_cons.mpr ⟨fo_4_18_0, List.forall_mem_cons.mpr ⟨fo_4_18_2, List.forall_mem_cons.mpr ⟨fo_4_18_3, List.forall_mem_cons.mpr ⟨fo_4_18_4, List.forall_mem_cons.mpr ⟨fo_4_18_6, List.forall_mem_cons.mpr ⟨fo_4_18_7, fun _ h => absurd h List.not_mem_nil⟩⟩⟩⟩⟩⟩
theorem fl_4_27 : Cond.fieldLink (cNm 4) 27 "SaidWeather$Trace" "isBroken" "Z" ∈ lw_good := lw_in 220 (by decide +kernel) (by decide +kernel)
theorem fo_4_27_8 : fOK 4 27 8 2 1 := ⟨RX8, TX8, 3, tyX8, "SaidWeather$Trace", rfl, rfl, by decide, inG8, tyX8_ok, nmX8, fl_4_27, Or.inl rfl, rfl, Or.inl ⟨rfl, by decide⟩⟩
theorem fa_4_27 : ∀ ci ∈ ([8] : List Nat), fOK 4 27 ci 2 1 := List.forall_mem_cons.mpr ⟨fo_4_27_8, fun _ h => absurd h List.not_mem_nil⟩
theorem fl_4_33 : Cond.fieldLink (cNm 4) 33 "SaidWeather$Trace" "count" "I" ∈ lw_good := lw_in 217 (by decide +kernel) (by decide +kernel)
theorem fo_4_33_8 : fOK 4 33 8 1 0 := ⟨RX8, TX8, 3, tyX8, "SaidWeather$Trace", rfl, rfl, by decide, inG8, tyX8_ok, nmX8, fl_4_33, Or.inl rfl, rfl, Or.inl ⟨rfl, by decide⟩⟩
theorem fa_4_33 : ∀ ci ∈ ([8] : List Nat), fOK 4 33 ci 1 0 := List.forall_mem_cons.mpr ⟨fo_4_33_8, fun _ h => absurd h List.not_mem_nil⟩
theorem fl_4_36 : Cond.fieldLink (cNm 4) 36 "SaidWeather$Trace" "numbers" "[I" ∈ lw_good := lw_in 214 (by decide +kernel) (by decide +kernel)
theorem fo_4_36_8 : fOK 4 36 8 0 23 := ⟨RX8, TX8, 3, tyX8, "SaidWeather$Trace", rfl, rfl, by decide, inG8, tyX8_ok, nmX8, fl_4_36, Or.inl rfl, Or.inr ⟨_, rfl⟩, Or.inr (Or.inr (by decide))⟩
theorem fa_4_36 : ∀ ci ∈ ([8] : List Nat), fOK 4 36 ci 0 23 := List.forall_mem_cons.mpr ⟨fo_4_36_8, fun _ h => absurd h List.not_mem_nil⟩
theorem fl_5_7 : Cond.fieldLink (cNm 5) 7 "SaidWeather$Sheet" "sort" "I" ∈ lw_good := lw_in 869 (by decide +kernel) (by decide +kernel)
theorem fo_5_7_5 : fOK 5 7 5 0 10 := ⟨RX5, TX5, 2, tyX5, "SaidWeather$Sheet", rfl, rfl, by decide, inG5, tyX5_ok, nmX5, fl_5_7, Or.inl rfl, rfl, Or.inr (Or.inl ⟨rfl, by decide, by decide, rfl⟩)⟩
theorem fa_5_7 : ∀ ci ∈ ([5] : List Nat), fOK 5 7 ci 0 10 := List.forall_mem_cons.mpr ⟨fo_5_7_5, fun _ h => absurd h List.not_mem_nil⟩
theorem fl_5_13 : Cond.fieldLink (cNm 5) 13 "SaidWeather$Sheet" "items" "[J" ∈ lw_good := lw_in 871 (by decide +kernel) (by decide +kernel)
theorem fo_5_13_5 : fOK 5 13 5 1 13 := ⟨RX5, TX5, 2, tyX5, "SaidWeather$Sheet", rfl, rfl, by decide, inG5, tyX5_ok, nmX5, fl_5_13, Or.inl rfl, Or.inr ⟨_, rfl⟩, Or.inr (Or.inl ⟨rfl, by decide, by decide, rfl⟩)⟩
theorem fa_5_13 : ∀ ci ∈ ([5] : List Nat), fOK 5 13 ci 1 13 := List.forall_mem_cons.mpr ⟨fo_5_13_5, fun _ h => absurd h List.not_mem_nil⟩
theorem fl_6_9 : Cond.fieldLink (cNm 6) 9 "SaidWeather$World" "today" "I" ∈ lw_good := lw_in 123 (by decide +kernel) (by decide +kernel)
theorem fo_6_9_9 : fOK 6 9 9 6 0 := ⟨RX9, TX9, 15, tyX9, "SaidWeather$World", rfl, rfl, by decide, inG9, tyX9_ok, nmX9, fl_6_9, Or.inl rfl, rfl, Or.inl ⟨rfl, by decide⟩⟩
theorem fa_6_9 : ∀ ci ∈ ([9] : List Nat), fOK 6 9 ci 6 0 := List.forall_mem_cons.mpr ⟨fo_6_9_9, fun _ h => absurd h List.not_mem_nil⟩
theorem fl_6_23 : Cond.fieldLink (cNm 6) 23 "SaidWeather$Sure" "a" "I" ∈ lw_good := lw_in 400 (by decide +kernel) (by decide +kernel)
theorem fo_6_23_0 : fOK 6 23 0 2 20 := ⟨RX0, TX0, 3, tyX0, "SaidWeather$Sure", rfl, rfl, by decide, inG0, tyX0_ok, nmX0, fl_6_23, Or.inr (lw_in 401 (by decide +kernel) (by decide +kernel)), rfl, Or.inr (Or.inr (by decide))⟩
theorem fo_6_23_2 : fOK 6 23 2 2 20 := ⟨RX2, TX2, 3, tyX2, "SaidWeather$Sure", rfl, rfl, by decide, inG2, tyX2_ok, nmX2, fl_6_23, Or.inr (lw_in 401 (by decide +kernel) (by decide +kernel)), rfl, Or.inr (Or.inr (by decide))⟩
theorem fo_6_23_3 : fOK 6 23 3 2 20 := ⟨RX3, TX3, 3, tyX3, "SaidWeather$Sure", rfl, rfl, by decide, inG3, tyX3_ok, nmX3, fl_6_23, Or.inr (lw_in 401 (by decide +kernel) (by decide +kernel)), rfl, Or.inr (Or.inr (by decide))⟩
theorem fo_6_23_4 : fOK 6 23 4 2 20 := ⟨RX4, TX4, 3, tyX4, "SaidWeather$Sure", rfl, rfl, by decide, inG4, tyX4_ok, nmX4, fl_6_23, Or.inr (lw_in 401 (by decide +kernel) (by decide +kernel)), rfl, Or.inr (Or.inr (by decide))⟩
theorem fo_6_23_6 : fOK 6 23 6 2 20 := ⟨RX6, TX6, 3, tyX6, "SaidWeather$Sure", rfl, rfl, by decide, inG6, tyX6_ok, nmX6, fl_6_23, Or.inr (lw_in 401 (by decide +kernel) (by decide +kernel)), rfl, Or.inr (Or.inr (by decide))⟩
theorem fo_6_23_7 : fOK 6 23 7 2 20 := ⟨RX7, TX7, 3, tyX7, "SaidWeather$Sure", rfl, rfl, by decide, inG7, tyX7_ok, nmX7, fl_6_23, Or.inr (lw_in 401 (by decide +kernel) (by decide +kernel)), rfl, Or.inr (Or.inr (by decide))⟩
theorem fa_6_23 : ∀ ci ∈ ([0, 2, 3, 4, 6, 7] : List Nat), fOK 6 23 ci 2 20 := List.forall_mem_cons.mpr ⟨fo_6_23_0, List.forall_mem_cons.mpr ⟨fo_6_23_2, List.forall_mem_cons.mpr ⟨fo_6_23_3, List.forall_mem_cons.mpr ⟨fo_6_23_4, List.forall_mem_cons.mpr ⟨fo_6_23_6, List.forall_mem_cons.mpr ⟨fo_6_23_7, fun _ h => absurd h List.not_mem_nil⟩⟩⟩⟩⟩⟩
theorem fl_6_48 : Cond.fieldLink (cNm 6) 48 "SaidWeather$Sure" "number" "I" ∈ lw_good := lw_in 387 (by decide +kernel) (by decide +kernel)
theorem fo_6_48_0 : fOK 6 48 0 1 20 := ⟨RX0, TX0, 3, tyX0, "SaidWeather$Sure", rfl, rfl, by decide, inG0, tyX0_ok, nmX0, fl_6_48, Or.inr (lw_in 388 (by decide +kernel) (by decide +kernel)), rfl, Or.inr (Or.inr (by decide))⟩
theorem fo_6_48_2 : fOK 6 48 2 1 20 := ⟨RX2, TX2, 3, tyX2, "SaidWeather$Sure", rfl, rfl, by decide, inG2, tyX2_ok, nmX2, fl_6_48, Or.inr (lw_in 388 (by decide +kernel) (by decide +kernel)), rfl, Or.inr (Or.inr (by decide))⟩
theorem fo_6_48_3 : fOK 6 48 3 1 20 := ⟨RX3, TX3, 3, tyX3, "SaidWeather$Sure", rfl, rfl, by decide, inG3, tyX3_ok, nmX3, fl_6_48, Or.inr (lw_in 388 (by decide +kernel) (by decide +kernel)), rfl, Or.inr (Or.inr (by decide))⟩
theorem fo_6_48_4 : fOK 6 48 4 1 20 := ⟨RX4, TX4, 3, tyX4, "SaidWeather$Sure", rfl, rfl, by decide, inG4, tyX4_ok, nmX4, fl_6_48, Or.inr (lw_in 388 (by decide +kernel) (by decide +kernel)), rfl, Or.inr (Or.inr (by decide))⟩
theorem fo_6_48_6 : fOK 6 48 6 1 20 := ⟨RX6, TX6, 3, tyX6, "SaidWeather$Sure", rfl, rfl, by decide, inG6, tyX6_ok, nmX6, fl_6_48, Or.inr (lw_in 388 (by decide +kernel) (by decide +kernel)), rfl, Or.inr (Or.inr (by decide))⟩
theorem fo_6_48_7 : fOK 6 48 7 1 20 := ⟨RX7, TX7, 3, tyX7, "SaidWeather$Sure", rfl, rfl, by decide, inG7, tyX7_ok, nmX7, fl_6_48, Or.inr (lw_in 388 (by decide +kernel) (by decide +kernel)), rfl, Or.inr (Or.inr (by decide))⟩
theorem fa_6_48 : ∀ ci ∈ ([0, 2, 3, 4, 6, 7] : List Nat), fOK 6 48 ci 1 20 := List.forall_mem_cons.mpr ⟨fo_6_48_0, List.forall_mem_cons.mpr ⟨fo_6_48_2, List.forall_mem_cons.mpr ⟨fo_6_48_3, List.forall_mem_cons.mpr ⟨fo_6_48_4, List.forall_mem_cons.mpr ⟨fo_6_48_6, List.forall_mem_cons.mpr ⟨fo_6_48_7, fun _ h => absurd h List.not_mem_nil⟩⟩⟩⟩⟩⟩
theorem fl_7_9 : Cond.fieldLink (cNm 7) 9 "SaidWeather$World" "today" "I" ∈ lw_good := lw_in 125 (by decide +kernel) (by decide +kernel)
theorem fo_7_9_9 : fOK 7 9 9 6 0 := ⟨RX9, TX9, 15, tyX9, "SaidWeather$World", rfl, rfl, by decide, inG9, tyX9_ok, nmX9, fl_7_9, Or.inl rfl, rfl, Or.inl ⟨rfl, by decide⟩⟩
theorem fa_7_9 : ∀ ci ∈ ([9] : List Nat), fOK 7 9 ci 6 0 := List.forall_mem_cons.mpr ⟨fo_7_9_9, fun _ h => absurd h List.not_mem_nil⟩
theorem fl_7_15 : Cond.fieldLink (cNm 7) 15 "SaidWeather$Told" "a" "I" ∈ lw_good := lw_in 398 (by decide +kernel) (by decide +kernel)
theorem fo_7_15_0 : fOK 7 15 0 2 20 := ⟨RX0, TX0, 3, tyX0, "SaidWeather$Told", rfl, rfl, by decide, inG0, tyX0_ok, nmX0, fl_7_15, Or.inr (lw_in 399 (by decide +kernel) (by decide +kernel)), rfl, Or.inr (Or.inr (by decide))⟩
theorem fo_7_15_2 : fOK 7 15 2 2 20 := ⟨RX2, TX2, 3, tyX2, "SaidWeather$Told", rfl, rfl, by decide, inG2, tyX2_ok, nmX2, fl_7_15, Or.inr (lw_in 399 (by decide +kernel) (by decide +kernel)), rfl, Or.inr (Or.inr (by decide))⟩
theorem fo_7_15_3 : fOK 7 15 3 2 20 := ⟨RX3, TX3, 3, tyX3, "SaidWeather$Told", rfl, rfl, by decide, inG3, tyX3_ok, nmX3, fl_7_15, Or.inr (lw_in 399 (by decide +kernel) (by decide +kernel)), rfl, Or.inr (Or.inr (by decide))⟩
theorem fo_7_15_4 : fOK 7 15 4 2 20 := ⟨RX4, TX4, 3, tyX4, "SaidWeather$Told", rfl, rfl, by decide, inG4, tyX4_ok, nmX4, fl_7_15, Or.inr (lw_in 399 (by decide +kernel) (by decide +kernel)), rfl, Or.inr (Or.inr (by decide))⟩
theorem fo_7_15_6 : fOK 7 15 6 2 20 := ⟨RX6, TX6, 3, tyX6, "SaidWeather$Told", rfl, rfl, by decide, inG6, tyX6_ok, nmX6, fl_7_15, Or.inr (lw_in 399 (by decide +kernel) (by decide +kernel)), rfl, Or.inr (Or.inr (by decide))⟩
theorem fo_7_15_7 : fOK 7 15 7 2 20 := ⟨RX7, TX7, 3, tyX7, "SaidWeather$Told", rfl, rfl, by decide, inG7, tyX7_ok, nmX7, fl_7_15, Or.inr (lw_in 399 (by decide +kernel) (by decide +kernel)), rfl, Or.inr (Or.inr (by decide))⟩
theorem fa_7_15 : ∀ ci ∈ ([0, 2, 3, 4, 6, 7] : List Nat), fOK 7 15 ci 2 20 := List.forall_mem_cons.mpr ⟨fo_7_15_0, List.forall_mem_cons.mpr ⟨fo_7_15_2, List.forall_mem_cons.mpr ⟨fo_7_15_3, List.forall_mem_cons.mpr ⟨fo_7_15_4, List.forall_mem_cons.mpr ⟨fo_7_15_6, List.forall_mem_cons.mpr ⟨fo_7_15_7, fun _ h => absurd h List.not_mem_nil⟩⟩⟩⟩⟩⟩
theorem fl_8_9 : Cond.fieldLink (cNm 8) 9 "SaidWeather$Trace" "numbers" "[I" ∈ lw_good := lw_in 213 (by decide +kernel) (by decide +kernel)
theorem fo_8_9_8 : fOK 8 9 8 0 13 := ⟨RX8, TX8, 3, tyX8, "SaidWeather$Trace", rfl, rfl, by decide, inG8, tyX8_ok, nmX8, fl_8_9, Or.inl rfl, Or.inr ⟨_, rfl⟩, Or.inr (Or.inl ⟨rfl, by decide, by decide, rfl⟩)⟩
theorem fa_8_9 : ∀ ci ∈ ([8] : List Nat), fOK 8 9 ci 0 13 := List.forall_mem_cons.mpr ⟨fo_8_9_8, fun _ h => absurd h List.not_mem_nil⟩
theorem fl_8_15 : Cond.fieldLink (cNm 8) 15 "SaidWeather$Trace" "count" "I" ∈ lw_good := lw_in 216 (by decide +kernel) (by decide +kernel)
theorem fo_8_15_8 : fOK 8 15 8 1 0 := ⟨RX8, TX8, 3, tyX8, "SaidWeather$Trace", rfl, rfl, by decide, inG8, tyX8_ok, nmX8, fl_8_15, Or.inl rfl, rfl, Or.inl ⟨rfl, by decide⟩⟩
theorem fa_8_15 : ∀ ci ∈ ([8] : List Nat), fOK 8 15 ci 1 0 := List.forall_mem_cons.mpr ⟨fo_8_15_8, fun _ h => absurd h List.not_mem_nil⟩
theorem fl_8_19 : Cond.fieldLink (cNm 8) 19 "SaidWeather$Trace" "isBroken" "Z" ∈ lw_good := lw_in 219 (by decide +kernel) (by decide +kernel)
theorem fo_8_19_8 : fOK 8 19 8 2 1 := ⟨RX8, TX8, 3, tyX8, "SaidWeather$Trace", rfl, rfl, by decide, inG8, tyX8_ok, nmX8, fl_8_19, Or.inl rfl, rfl, Or.inl ⟨rfl, by decide⟩⟩
theorem fa_8_19 : ∀ ci ∈ ([8] : List Nat), fOK 8 19 ci 2 1 := List.forall_mem_cons.mpr ⟨fo_8_19_8, fun _ h => absurd h List.not_mem_nil⟩
theorem fl_9_9 : Cond.fieldLink (cNm 9) 9 "SaidWeather$World" "worths" "[I" ∈ lw_good := lw_in 108 (by decide +kernel) (by decide +kernel)
theorem fo_9_9_9 : fOK 9 9 9 0 13 := ⟨RX9, TX9, 15, tyX9, "SaidWeather$World", rfl, rfl, by decide, inG9, tyX9_ok, nmX9, fl_9_9, Or.inl rfl, Or.inr ⟨_, rfl⟩, Or.inr (Or.inl ⟨rfl, by decide, by decide, rfl⟩)⟩
theorem fa_9_9 : ∀ ci ∈ ([9] : List Nat), fOK 9 9 ci 0 13 := List.forall_mem_cons.mpr ⟨fo_9_9_9, fun _ h => absurd h List.not_mem_nil⟩
theorem fl_9_15 : Cond.fieldLink (cNm 9) 15 "SaidWeather$World" "weights" "[I" ∈ lw_good := lw_in 111 (by decide +kernel) (by decide +kernel)
theorem fo_9_15_9 : fOK 9 15 9 1 13 := ⟨RX9, TX9, 15, tyX9, "SaidWeather$World", rfl, rfl, by decide, inG9, tyX9_ok, nmX9, fl_9_15, Or.inl rfl, Or.inr ⟨_, rfl⟩, Or.inr (Or.inl ⟨rfl, by decide, by decide, rfl⟩)⟩
theorem fa_9_15 : ∀ ci ∈ ([9] : List Nat), fOK 9 15 ci 1 13 := List.forall_mem_cons.mpr ⟨fo_9_15_9, fun _ h => absurd h List.not_mem_nil⟩
theorem fl_9_18 : Cond.fieldLink (cNm 9) 18 "SaidWeather$World" "signs" "[I" ∈ lw_good := lw_in 114 (by decide +kernel) (by decide +kernel)
theorem fo_9_18_9 : fOK 9 18 9 2 13 := ⟨RX9, TX9, 15, tyX9, "SaidWeather$World", rfl, rfl, by decide, inG9, tyX9_ok, nmX9, fl_9_18, Or.inl rfl, Or.inr ⟨_, rfl⟩, Or.inr (Or.inl ⟨rfl, by decide, by decide, rfl⟩)⟩
theorem fa_9_18 : ∀ ci ∈ ([9] : List Nat), fOK 9 18 ci 2 13 := List.forall_mem_cons.mpr ⟨fo_9_18_9, fun _ h => absurd h List.not_mem_nil⟩
theorem fl_9_21 : Cond.fieldLink (cNm 9) 21 "SaidWeather$World" "was" "[I" ∈ lw_good := lw_in 117 (by decide +kernel) (by decide +kernel)
theorem fo_9_21_9 : fOK 9 21 9 3 13 := ⟨RX9, TX9, 15, tyX9, "SaidWeather$World", rfl, rfl, by decide, inG9, tyX9_ok, nmX9, fl_9_21, Or.inl rfl, Or.inr ⟨_, rfl⟩, Or.inr (Or.inl ⟨rfl, by decide, by decide, rfl⟩)⟩
theorem fa_9_21 : ∀ ci ∈ ([9] : List Nat), fOK 9 21 ci 3 13 := List.forall_mem_cons.mpr ⟨fo_9_21_9, fun _ h => absurd h List.not_mem_nil⟩
theorem fl_9_24 : Cond.fieldLink (cNm 9) 24 "SaidWeather$World" "said" "[I" ∈ lw_good := lw_in 119 (by decide +kernel) (by decide +kernel)
theorem fo_9_24_9 : fOK 9 24 9 4 13 := ⟨RX9, TX9, 15, tyX9, "SaidWeather$World", rfl, rfl, by decide, inG9, tyX9_ok, nmX9, fl_9_24, Or.inl rfl, Or.inr ⟨_, rfl⟩, Or.inr (Or.inl ⟨rfl, by decide, by decide, rfl⟩)⟩
theorem fa_9_24 : ∀ ci ∈ ([9] : List Nat), fOK 9 24 ci 4 13 := List.forall_mem_cons.mpr ⟨fo_9_24_9, fun _ h => absurd h List.not_mem_nil⟩
theorem fl_9_35 : Cond.fieldLink (cNm 9) 35 "SaidWeather$World" "laws" "[I" ∈ lw_good := lw_in 121 (by decide +kernel) (by decide +kernel)
theorem fo_9_35_9 : fOK 9 35 9 5 13 := ⟨RX9, TX9, 15, tyX9, "SaidWeather$World", rfl, rfl, by decide, inG9, tyX9_ok, nmX9, fl_9_35, Or.inl rfl, Or.inr ⟨_, rfl⟩, Or.inr (Or.inl ⟨rfl, by decide, by decide, rfl⟩)⟩
theorem fa_9_35 : ∀ ci ∈ ([9] : List Nat), fOK 9 35 ci 5 13 := List.forall_mem_cons.mpr ⟨fo_9_35_9, fun _ h => absurd h List.not_mem_nil⟩
theorem fl_9_38 : Cond.fieldLink (cNm 9) 38 "SaidWeather$World" "z" "I" ∈ lw_good := lw_in 129 (by decide +kernel) (by decide +kernel)
theorem fo_9_38_9 : fOK 9 38 9 7 0 := ⟨RX9, TX9, 15, tyX9, "SaidWeather$World", rfl, rfl, by decide, inG9, tyX9_ok, nmX9, fl_9_38, Or.inl rfl, rfl, Or.inl ⟨rfl, by decide⟩⟩
theorem fa_9_38 : ∀ ci ∈ ([9] : List Nat), fOK 9 38 ci 7 0 := List.forall_mem_cons.mpr ⟨fo_9_38_9, fun _ h => absurd h List.not_mem_nil⟩
theorem fl_9_44 : Cond.fieldLink (cNm 9) 44 "SaidWeather$World" "sayers" "[LSaidWeather$Sayer;" ∈ lw_good := lw_in 131 (by decide +kernel) (by decide +kernel)
theorem fo_9_44_9 : fOK 9 44 9 8 13 := ⟨RX9, TX9, 15, tyX9, "SaidWeather$World", rfl, rfl, by decide, inG9, tyX9_ok, nmX9, fl_9_44, Or.inl rfl, Or.inr ⟨_, rfl⟩, Or.inr (Or.inl ⟨rfl, by decide, by decide, rfl⟩)⟩
theorem fa_9_44 : ∀ ci ∈ ([9] : List Nat), fOK 9 44 ci 8 13 := List.forall_mem_cons.mpr ⟨fo_9_44_9, fun _ h => absurd h List.not_mem_nil⟩
theorem fl_9_48 : Cond.fieldLink (cNm 9) 48 "SaidWeather$World" "purses" "[I" ∈ lw_good := lw_in 133 (by decide +kernel) (by decide +kernel)
theorem fo_9_48_9 : fOK 9 48 9 9 13 := ⟨RX9, TX9, 15, tyX9, "SaidWeather$World", rfl, rfl, by decide, inG9, tyX9_ok, nmX9, fl_9_48, Or.inl rfl, Or.inr ⟨_, rfl⟩, Or.inr (Or.inl ⟨rfl, by decide, by decide, rfl⟩)⟩
theorem fa_9_48 : ∀ ci ∈ ([9] : List Nat), fOK 9 48 ci 9 13 := List.forall_mem_cons.mpr ⟨fo_9_48_9, fun _ h => absurd h List.not_mem_nil⟩
theorem fl_9_51 : Cond.fieldLink (cNm 9) 51 "SaidWeather$World" "sayingWho" "[I" ∈ lw_good := lw_in 138 (by decide +kernel) (by decide +kernel)
theorem fo_9_51_9 : fOK 9 51 9 11 13 := ⟨RX9, TX9, 15, tyX9, "SaidWeather$World", rfl, rfl, by decide, inG9, tyX9_ok, nmX9, fl_9_51, Or.inl rfl, Or.inr ⟨_, rfl⟩, Or.inr (Or.inl ⟨rfl, by decide, by decide, rfl⟩)⟩
theorem fa_9_51 : ∀ ci ∈ ([9] : List Nat), fOK 9 51 ci 11 13 := List.forall_mem_cons.mpr ⟨fo_9_51_9, fun _ h => absurd h List.not_mem_nil⟩
theorem fl_9_54 : Cond.fieldLink (cNm 9) 54 "SaidWeather$World" "sayingDay" "[I" ∈ lw_good := lw_in 140 (by decide +kernel) (by decide +kernel)
theorem fo_9_54_9 : fOK 9 54 9 12 13 := ⟨RX9, TX9, 15, tyX9, "SaidWeather$World", rfl, rfl, by decide, inG9, tyX9_ok, nmX9, fl_9_54, Or.inl rfl, Or.inr ⟨_, rfl⟩, Or.inr (Or.inl ⟨rfl, by decide, by decide, rfl⟩)⟩
theorem fa_9_54 : ∀ ci ∈ ([9] : List Nat), fOK 9 54 ci 12 13 := List.forall_mem_cons.mpr ⟨fo_9_54_9, fun _ h => absurd h List.not_mem_nil⟩
theorem fl_9_57 : Cond.fieldLink (cNm 9) 57 "SaidWeather$World" "sayingWeather" "[I" ∈ lw_good := lw_in 142 (by decide +kernel) (by decide +kernel)
theorem fo_9_57_9 : fOK 9 57 9 13 13 := ⟨RX9, TX9, 15, tyX9, "SaidWeather$World", rfl, rfl, by decide, inG9, tyX9_ok, nmX9, fl_9_57, Or.inl rfl, Or.inr ⟨_, rfl⟩, Or.inr (Or.inl ⟨rfl, by decide, by decide, rfl⟩)⟩
theorem fa_9_57 : ∀ ci ∈ ([9] : List Nat), fOK 9 57 ci 13 13 := List.forall_mem_cons.mpr ⟨fo_9_57_9, fun _ h => absurd h List.not_mem_nil⟩
theorem fl_9_67 : Cond.fieldLink (cNm 9) 67 "SaidWeather$World" "today" "I" ∈ lw_good := lw_in 126 (by decide +kernel) (by decide +kernel)
theorem fo_9_67_9 : fOK 9 67 9 6 0 := ⟨RX9, TX9, 15, tyX9, "SaidWeather$World", rfl, rfl, by decide, inG9, tyX9_ok, nmX9, fl_9_67, Or.inl rfl, rfl, Or.inl ⟨rfl, by decide⟩⟩
theorem fa_9_67 : ∀ ci ∈ ([9] : List Nat), fOK 9 67 ci 6 0 := List.forall_mem_cons.mpr ⟨fo_9_67_9, fun _ h => absurd h List.not_mem_nil⟩
theorem fl_9_70 : Cond.fieldLink (cNm 9) 70 "SaidWeather$World" "sayerCount" "I" ∈ lw_good := lw_in 135 (by decide +kernel) (by decide +kernel)
theorem fo_9_70_9 : fOK 9 70 9 10 0 := ⟨RX9, TX9, 15, tyX9, "SaidWeather$World", rfl, rfl, by decide, inG9, tyX9_ok, nmX9, fl_9_70, Or.inl rfl, rfl, Or.inl ⟨rfl, by decide⟩⟩
theorem fa_9_70 : ∀ ci ∈ ([9] : List Nat), fOK 9 70 ci 10 0 := List.forall_mem_cons.mpr ⟨fo_9_70_9, fun _ h => absurd h List.not_mem_nil⟩
theorem fl_9_73 : Cond.fieldLink (cNm 9) 73 "SaidWeather$World" "sayingCount" "I" ∈ lw_good := lw_in 144 (by decide +kernel) (by decide +kernel)
theorem fo_9_73_9 : fOK 9 73 9 14 0 := ⟨RX9, TX9, 15, tyX9, "SaidWeather$World", rfl, rfl, by decide, inG9, tyX9_ok, nmX9, fl_9_73, Or.inl rfl, rfl, Or.inl ⟨rfl, by decide⟩⟩
theorem fa_9_73 : ∀ ci ∈ ([9] : List Nat), fOK 9 73 ci 14 0 := List.forall_mem_cons.mpr ⟨fo_9_73_9, fun _ h => absurd h List.not_mem_nil⟩
theorem fl_9_138 : Cond.fieldLink (cNm 9) 138 "SaidWeather$Sayer" "number" "I" ∈ lw_good := lw_in 393 (by decide +kernel) (by decide +kernel)
theorem fo_9_138_0 : fOK 9 138 0 1 20 := ⟨RX0, TX0, 3, tyX0, "SaidWeather$Sayer", rfl, rfl, by decide, inG0, tyX0_ok, nmX0, fl_9_138, Or.inl rfl, rfl, Or.inr (Or.inr (by decide))⟩
theorem fo_9_138_2 : fOK 9 138 2 1 20 := ⟨RX2, TX2, 3, tyX2, "SaidWeather$Sayer", rfl, rfl, by decide, inG2, tyX2_ok, nmX2, fl_9_138, Or.inl rfl, rfl, Or.inr (Or.inr (by decide))⟩
theorem fo_9_138_3 : fOK 9 138 3 1 20 := ⟨RX3, TX3, 3, tyX3, "SaidWeather$Sayer", rfl, rfl, by decide, inG3, tyX3_ok, nmX3, fl_9_138, Or.inl rfl, rfl, Or.inr (Or.inr (by decide))⟩
theorem fo_9_138_4 : fOK 9 138 4 1 20 := ⟨RX4, TX4, 3, tyX4, "SaidWeather$Sayer", rfl, rfl, by decide, inG4, tyX4_ok, nmX4, fl_9_138, Or.inl rfl, rfl, Or.inr (Or.inr (by decide))⟩
theorem fo_9_138_6 : fOK 9 138 6 1 20 := ⟨RX6, TX6, 3, tyX6, "SaidWeather$Sayer", rfl, rfl, by decide, inG6, tyX6_ok, nmX6, fl_9_138, Or.inl rfl, rfl, Or.inr (Or.inr (by decide))⟩
theorem fo_9_138_7 : fOK 9 138 7 1 20 := ⟨RX7, TX7, 3, tyX7, "SaidWeather$Sayer", rfl, rfl, by decide, inG7, tyX7_ok, nmX7, fl_9_138, Or.inl rfl, rfl, Or.inr (Or.inr (by decide))⟩
theorem fa_9_138 : ∀ ci ∈ ([0, 2, 3, 4, 6, 7] : List Nat), fOK 9 138 ci 1 20 := List.forall_mem_cons.mpr ⟨fo_9_138_0, List.forall_mem_cons.mpr ⟨fo_9_138_2, List.forall_mem_cons.mpr ⟨fo_9_138_3, List.forall_mem_cons.mpr ⟨fo_9_138_4, List.forall_mem_cons.mpr ⟨fo_9_138_6, List.forall_mem_cons.mpr ⟨fo_9_138_7, fun _ h => absurd h List.not_mem_nil⟩⟩⟩⟩⟩⟩
theorem fl_10_10 : Cond.fieldLink (cNm 10) 10 "SaidWeather" "world" "LSaidWeather$World;" ∈ lw_good := lw_in 229 (by decide +kernel) (by decide +kernel)
theorem fo_10_10_10 : fOK 10 10 10 0 13 := ⟨RX10, TX10, 11, tyX10, "SaidWeather", rfl, rfl, by decide, inG10, tyX10_ok, nmX10, fl_10_10, Or.inl rfl, Or.inl ⟨_, rfl⟩, Or.inr (Or.inl ⟨rfl, by decide, by decide, rfl⟩)⟩
theorem fa_10_10 : ∀ ci ∈ ([10] : List Nat), fOK 10 10 ci 0 13 := List.forall_mem_cons.mpr ⟨fo_10_10_10, fun _ h => absurd h List.not_mem_nil⟩
theorem fl_10_16 : Cond.fieldLink (cNm 10) 16 "SaidWeather" "draft" "LSaidWeather$World;" ∈ lw_good := lw_in 230 (by decide +kernel) (by decide +kernel)
theorem fo_10_16_10 : fOK 10 16 10 1 13 := ⟨RX10, TX10, 11, tyX10, "SaidWeather", rfl, rfl, by decide, inG10, tyX10_ok, nmX10, fl_10_16, Or.inl rfl, Or.inl ⟨_, rfl⟩, Or.inr (Or.inl ⟨rfl, by decide, by decide, rfl⟩)⟩
theorem fa_10_16 : ∀ ci ∈ ([10] : List Nat), fOK 10 16 ci 1 13 := List.forall_mem_cons.mpr ⟨fo_10_16_10, fun _ h => absurd h List.not_mem_nil⟩
theorem fl_10_19 : Cond.fieldLink (cNm 10) 19 "SaidWeather" "kept" "LSaidWeather$World;" ∈ lw_good := lw_in 231 (by decide +kernel) (by decide +kernel)
theorem fo_10_19_10 : fOK 10 19 10 2 13 := ⟨RX10, TX10, 11, tyX10, "SaidWeather", rfl, rfl, by decide, inG10, tyX10_ok, nmX10, fl_10_19, Or.inl rfl, Or.inl ⟨_, rfl⟩, Or.inr (Or.inl ⟨rfl, by decide, by decide, rfl⟩)⟩
theorem fa_10_19 : ∀ ci ∈ ([10] : List Nat), fOK 10 19 ci 2 13 := List.forall_mem_cons.mpr ⟨fo_10_19_10, fun _ h => absurd h List.not_mem_nil⟩
theorem fl_10_25 : Cond.fieldLink (cNm 10) 25 "SaidWeather" "reader" "LSaidWeather$Clerk;" ∈ lw_good := lw_in 233 (by decide +kernel) (by decide +kernel)
theorem fo_10_25_10 : fOK 10 25 10 4 13 := ⟨RX10, TX10, 11, tyX10, "SaidWeather", rfl, rfl, by decide, inG10, tyX10_ok, nmX10, fl_10_25, Or.inl rfl, Or.inl ⟨_, rfl⟩, Or.inr (Or.inl ⟨rfl, by decide, by decide, rfl⟩)⟩
theorem fa_10_25 : ∀ ci ∈ ([10] : List Nat), fOK 10 25 ci 4 13 := List.forall_mem_cons.mpr ⟨fo_10_25_10, fun _ h => absurd h List.not_mem_nil⟩
theorem fl_10_29 : Cond.fieldLink (cNm 10) 29 "SaidWeather" "rows" "[I" ∈ lw_good := lw_in 234 (by decide +kernel) (by decide +kernel)
theorem fo_10_29_10 : fOK 10 29 10 5 13 := ⟨RX10, TX10, 11, tyX10, "SaidWeather", rfl, rfl, by decide, inG10, tyX10_ok, nmX10, fl_10_29, Or.inl rfl, Or.inr ⟨_, rfl⟩, Or.inr (Or.inl ⟨rfl, by decide, by decide, rfl⟩)⟩
theorem fa_10_29 : ∀ ci ∈ ([10] : List Nat), fOK 10 29 ci 5 13 := List.forall_mem_cons.mpr ⟨fo_10_29_10, fun _ h => absurd h List.not_mem_nil⟩
theorem fl_10_35 : Cond.fieldLink (cNm 10) 35 "SaidWeather" "sheets" "[LSaidWeather$Sheet;" ∈ lw_good := lw_in 236 (by decide +kernel) (by decide +kernel)
theorem fo_10_35_10 : fOK 10 35 10 7 13 := ⟨RX10, TX10, 11, tyX10, "SaidWeather", rfl, rfl, by decide, inG10, tyX10_ok, nmX10, fl_10_35, Or.inl rfl, Or.inr ⟨_, rfl⟩, Or.inr (Or.inl ⟨rfl, by decide, by decide, rfl⟩)⟩
theorem fa_10_35 : ∀ ci ∈ ([10] : List Nat), fOK 10 35 ci 7 13 := List.forall_mem_cons.mpr ⟨fo_10_35_10, fun _ h => absurd h List.not_mem_nil⟩
theorem fl_10_39 : Cond.fieldLink (cNm 10) 39 "SaidWeather" "shelvedSheets" "[LSaidWeather$Sheet;" ∈ lw_good := lw_in 237 (by decide +kernel) (by decide +kernel)
theorem fo_10_39_10 : fOK 10 39 10 8 13 := ⟨RX10, TX10, 11, tyX10, "SaidWeather", rfl, rfl, by decide, inG10, tyX10_ok, nmX10, fl_10_39, Or.inl rfl, Or.inr ⟨_, rfl⟩, Or.inr (Or.inl ⟨rfl, by decide, by decide, rfl⟩)⟩
theorem fa_10_39 : ∀ ci ∈ ([10] : List Nat), fOK 10 39 ci 8 13 := List.forall_mem_cons.mpr ⟨fo_10_39_10, fun _ h => absurd h List.not_mem_nil⟩
theorem fl_10_42 : Cond.fieldLink (cNm 10) 42 "SaidWeather" "shelvedSayers" "[I" ∈ lw_good := lw_in 238 (by decide +kernel) (by decide +kernel)
theorem fo_10_42_10 : fOK 10 42 10 9 13 := ⟨RX10, TX10, 11, tyX10, "SaidWeather", rfl, rfl, by decide, inG10, tyX10_ok, nmX10, fl_10_42, Or.inl rfl, Or.inr ⟨_, rfl⟩, Or.inr (Or.inl ⟨rfl, by decide, by decide, rfl⟩)⟩
theorem fa_10_42 : ∀ ci ∈ ([10] : List Nat), fOK 10 42 ci 9 13 := List.forall_mem_cons.mpr ⟨fo_10_42_10, fun _ h => absurd h List.not_mem_nil⟩
theorem fl_10_48 : Cond.fieldLink (cNm 10) 48 "SaidWeather" "bodies" "LSaidWeather$Trace;" ∈ lw_good := lw_in 239 (by decide +kernel) (by decide +kernel)
theorem fo_10_48_10 : fOK 10 48 10 10 13 := ⟨RX10, TX10, 11, tyX10, "SaidWeather", rfl, rfl, by decide, inG10, tyX10_ok, nmX10, fl_10_48, Or.inl rfl, Or.inl ⟨_, rfl⟩, Or.inr (Or.inl ⟨rfl, by decide, by decide, rfl⟩)⟩
theorem fa_10_48 : ∀ ci ∈ ([10] : List Nat), fOK 10 48 ci 10 13 := List.forall_mem_cons.mpr ⟨fo_10_48_10, fun _ h => absurd h List.not_mem_nil⟩
theorem fl_10_52 : Cond.fieldLink (cNm 10) 52 "SaidWeather$Clerk" "length" "I" ∈ lw_good := lw_in 186 (by decide +kernel) (by decide +kernel)
theorem fo_10_52_1 : fOK 10 52 1 1 0 := ⟨RX1, TX1, 6, tyX1, "SaidWeather$Clerk", rfl, rfl, by decide, inG1, tyX1_ok, nmX1, fl_10_52, Or.inl rfl, rfl, Or.inl ⟨rfl, by decide⟩⟩
theorem fa_10_52 : ∀ ci ∈ ([1] : List Nat), fOK 10 52 ci 1 0 := List.forall_mem_cons.mpr ⟨fo_10_52_1, fun _ h => absurd h List.not_mem_nil⟩
theorem fl_10_71 : Cond.fieldLink (cNm 10) 71 "SaidWeather" "rowCount" "I" ∈ lw_good := lw_in 235 (by decide +kernel) (by decide +kernel)
theorem fo_10_71_10 : fOK 10 71 10 6 0 := ⟨RX10, TX10, 11, tyX10, "SaidWeather", rfl, rfl, by decide, inG10, tyX10_ok, nmX10, fl_10_71, Or.inl rfl, rfl, Or.inl ⟨rfl, by decide⟩⟩
theorem fa_10_71 : ∀ ci ∈ ([10] : List Nat), fOK 10 71 ci 6 0 := List.forall_mem_cons.mpr ⟨fo_10_71_10, fun _ h => absurd h List.not_mem_nil⟩
theorem fl_10_74 : Cond.fieldLink (cNm 10) 74 "SaidWeather$World" "sayerCount" "I" ∈ lw_good := lw_in 136 (by decide +kernel) (by decide +kernel)
theorem fo_10_74_9 : fOK 10 74 9 10 0 := ⟨RX9, TX9, 15, tyX9, "SaidWeather$World", rfl, rfl, by decide, inG9, tyX9_ok, nmX9, fl_10_74, Or.inl rfl, rfl, Or.inl ⟨rfl, by decide⟩⟩
theorem fa_10_74 : ∀ ci ∈ ([9] : List Nat), fOK 10 74 ci 10 0 := List.forall_mem_cons.mpr ⟨fo_10_74_9, fun _ h => absurd h List.not_mem_nil⟩
theorem fl_10_81 : Cond.fieldLink (cNm 10) 81 "SaidWeather$World" "worths" "[I" ∈ lw_good := lw_in 109 (by decide +kernel) (by decide +kernel)
theorem fo_10_81_9 : fOK 10 81 9 0 23 := ⟨RX9, TX9, 15, tyX9, "SaidWeather$World", rfl, rfl, by decide, inG9, tyX9_ok, nmX9, fl_10_81, Or.inl rfl, Or.inr ⟨_, rfl⟩, Or.inr (Or.inr (by decide))⟩
theorem fa_10_81 : ∀ ci ∈ ([9] : List Nat), fOK 10 81 ci 0 23 := List.forall_mem_cons.mpr ⟨fo_10_81_9, fun _ h => absurd h List.not_mem_nil⟩
theorem fl_10_87 : Cond.fieldLink (cNm 10) 87 "SaidWeather$World" "weights" "[I" ∈ lw_good := lw_in 112 (by decide +kernel) (by decide +kernel)
theorem fo_10_87_9 : fOK 10 87 9 1 23 := ⟨RX9, TX9, 15, tyX9, "SaidWeather$World", rfl, rfl, by decide, inG9, tyX9_ok, nmX9, fl_10_87, Or.inl rfl, Or.inr ⟨_, rfl⟩, Or.inr (Or.inr (by decide))⟩
theorem fa_10_87 : ∀ ci ∈ ([9] : List Nat), fOK 10 87 ci 1 23 := List.forall_mem_cons.mpr ⟨fo_10_87_9, fun _ h => absurd h List.not_mem_nil⟩
theorem fl_10_94 : Cond.fieldLink (cNm 10) 94 "SaidWeather$World" "signs" "[I" ∈ lw_good := lw_in 115 (by decide +kernel) (by decide +kernel)
theorem fo_10_94_9 : fOK 10 94 9 2 23 := ⟨RX9, TX9, 15, tyX9, "SaidWeather$World", rfl, rfl, by decide, inG9, tyX9_ok, nmX9, fl_10_94, Or.inl rfl, Or.inr ⟨_, rfl⟩, Or.inr (Or.inr (by decide))⟩
theorem fa_10_94 : ∀ ci ∈ ([9] : List Nat), fOK 10 94 ci 2 23 := List.forall_mem_cons.mpr ⟨fo_10_94_9, fun _ h => absurd h List.not_mem_nil⟩
theorem fl_10_101 : Cond.fieldLink (cNm 10) 101 "SaidWeather$World" "was" "[I" ∈ lw_good := lw_in 118 (by decide +kernel) (by decide +kernel)
theorem fo_10_101_9 : fOK 10 101 9 3 23 := ⟨RX9, TX9, 15, tyX9, "SaidWeather$World", rfl, rfl, by decide, inG9, tyX9_ok, nmX9, fl_10_101, Or.inl rfl, Or.inr ⟨_, rfl⟩, Or.inr (Or.inr (by decide))⟩
theorem fa_10_101 : ∀ ci ∈ ([9] : List Nat), fOK 10 101 ci 3 23 := List.forall_mem_cons.mpr ⟨fo_10_101_9, fun _ h => absurd h List.not_mem_nil⟩
theorem fl_10_110 : Cond.fieldLink (cNm 10) 110 "SaidWeather$World" "said" "[I" ∈ lw_good := lw_in 120 (by decide +kernel) (by decide +kernel)
theorem fo_10_110_9 : fOK 10 110 9 4 23 := ⟨RX9, TX9, 15, tyX9, "SaidWeather$World", rfl, rfl, by decide, inG9, tyX9_ok, nmX9, fl_10_110, Or.inl rfl, Or.inr ⟨_, rfl⟩, Or.inr (Or.inr (by decide))⟩
theorem fa_10_110 : ∀ ci ∈ ([9] : List Nat), fOK 10 110 ci 4 23 := List.forall_mem_cons.mpr ⟨fo_10_110_9, fun _ h => absurd h List.not_mem_nil⟩
theorem fl_10_119 : Cond.fieldLink (cNm 10) 119 "SaidWeather$World" "laws" "[I" ∈ lw_good := lw_in 122 (by decide +kernel) (by decide +kernel)
theorem fo_10_119_9 : fOK 10 119 9 5 23 := ⟨RX9, TX9, 15, tyX9, "SaidWeather$World", rfl, rfl, by decide, inG9, tyX9_ok, nmX9, fl_10_119, Or.inl rfl, Or.inr ⟨_, rfl⟩, Or.inr (Or.inr (by decide))⟩
theorem fa_10_119 : ∀ ci ∈ ([9] : List Nat), fOK 10 119 ci 5 23 := List.forall_mem_cons.mpr ⟨fo_10_119_9, fun _ h => absurd h List.not_mem_nil⟩
theorem fl_10_140 : Cond.fieldLink (cNm 10) 140 "SaidWeather$Sayer" "kind" "I" ∈ lw_good := lw_in 385 (by decide +kernel) (by decide +kernel)
theorem fo_10_140_0 : fOK 10 140 0 0 20 := ⟨RX0, TX0, 3, tyX0, "SaidWeather$Sayer", rfl, rfl, by decide, inG0, tyX0_ok, nmX0, fl_10_140, Or.inl rfl, rfl, Or.inr (Or.inr (by decide))⟩
theorem fo_10_140_2 : fOK 10 140 2 0 20 := ⟨RX2, TX2, 3, tyX2, "SaidWeather$Sayer", rfl, rfl, by decide, inG2, tyX2_ok, nmX2, fl_10_140, Or.inl rfl, rfl, Or.inr (Or.inr (by decide))⟩
theorem fo_10_140_3 : fOK 10 140 3 0 20 := ⟨RX3, TX3, 3, tyX3, "SaidWeather$Sayer", rfl, rfl, by decide, inG3, tyX3_ok, nmX3, fl_10_140, Or.inl rfl, rfl, Or.inr (Or.inr (by decide))⟩
theorem fo_10_140_4 : fOK 10 140 4 0 20 := ⟨RX4, TX4, 3, tyX4, "SaidWeather$Sayer", rfl, rfl, by decide, inG4, tyX4_ok, nmX4, fl_10_140, Or.inl rfl, rfl, Or.inr (Or.inr (by decide))⟩
theorem fo_10_140_6 : fOK 10 140 6 0 20 := ⟨RX6, TX6, 3, tyX6, "SaidWeather$Sayer", rfl, rfl, by decide, inG6, tyX6_ok, nmX6, fl_10_140, Or.inl rfl, rfl, Or.inr (Or.inr (by decide))⟩
theorem fo_10_140_7 : fOK 10 140 7 0 20 := ⟨RX7, TX7, 3, tyX7, "SaidWeather$Sayer", rfl, rfl, by decide, inG7, tyX7_ok, nmX7, fl_10_140, Or.inl rfl, rfl, Or.inr (Or.inr (by decide))⟩
theorem fa_10_140 : ∀ ci ∈ ([0, 2, 3, 4, 6, 7] : List Nat), fOK 10 140 ci 0 20 := List.forall_mem_cons.mpr ⟨fo_10_140_0, List.forall_mem_cons.mpr ⟨fo_10_140_2, List.forall_mem_cons.mpr ⟨fo_10_140_3, List.forall_mem_cons.mpr ⟨fo_10_140_4, List.forall_mem_cons.mpr ⟨fo_10_140_6, List.forall_mem_cons.mpr ⟨fo_10_140_7, fun _ h => absurd h List.not_mem_nil⟩⟩⟩⟩⟩⟩
theorem fl_10_145 : Cond.fieldLink (cNm 10) 145 "SaidWeather$Sayer" "a" "I" ∈ lw_good := lw_in 402 (by decide +kernel) (by decide +kernel)
theorem fo_10_145_0 : fOK 10 145 0 2 20 := ⟨RX0, TX0, 3, tyX0, "SaidWeather$Sayer", rfl, rfl, by decide, inG0, tyX0_ok, nmX0, fl_10_145, Or.inl rfl, rfl, Or.inr (Or.inr (by decide))⟩
theorem fo_10_145_2 : fOK 10 145 2 2 20 := ⟨RX2, TX2, 3, tyX2, "SaidWeather$Sayer", rfl, rfl, by decide, inG2, tyX2_ok, nmX2, fl_10_145, Or.inl rfl, rfl, Or.inr (Or.inr (by decide))⟩
theorem fo_10_145_3 : fOK 10 145 3 2 20 := ⟨RX3, TX3, 3, tyX3, "SaidWeather$Sayer", rfl, rfl, by decide, inG3, tyX3_ok, nmX3, fl_10_145, Or.inl rfl, rfl, Or.inr (Or.inr (by decide))⟩
theorem fo_10_145_4 : fOK 10 145 4 2 20 := ⟨RX4, TX4, 3, tyX4, "SaidWeather$Sayer", rfl, rfl, by decide, inG4, tyX4_ok, nmX4, fl_10_145, Or.inl rfl, rfl, Or.inr (Or.inr (by decide))⟩
theorem fo_10_145_6 : fOK 10 145 6 2 20 := ⟨RX6, TX6, 3, tyX6, "SaidWeather$Sayer", rfl, rfl, by decide, inG6, tyX6_ok, nmX6, fl_10_145, Or.inl rfl, rfl, Or.inr (Or.inr (by decide))⟩
theorem fo_10_145_7 : fOK 10 145 7 2 20 := ⟨RX7, TX7, 3, tyX7, "SaidWeather$Sayer", rfl, rfl, by decide, inG7, tyX7_ok, nmX7, fl_10_145, Or.inl rfl, rfl, Or.inr (Or.inr (by decide))⟩
theorem fa_10_145 : ∀ ci ∈ ([0, 2, 3, 4, 6, 7] : List Nat), fOK 10 145 ci 2 20 := List.forall_mem_cons.mpr ⟨fo_10_145_0, List.forall_mem_cons.mpr ⟨fo_10_145_2, List.forall_mem_cons.mpr ⟨fo_10_145_3, List.forall_mem_cons.mpr ⟨fo_10_145_4, List.forall_mem_cons.mpr ⟨fo_10_145_6, List.forall_mem_cons.mpr ⟨fo_10_145_7, fun _ h => absurd h List.not_mem_nil⟩⟩⟩⟩⟩⟩
theorem fl_10_148 : Cond.fieldLink (cNm 10) 148 "SaidWeather$World" "purses" "[I" ∈ lw_good := lw_in 134 (by decide +kernel) (by decide +kernel)
theorem fo_10_148_9 : fOK 10 148 9 9 23 := ⟨RX9, TX9, 15, tyX9, "SaidWeather$World", rfl, rfl, by decide, inG9, tyX9_ok, nmX9, fl_10_148, Or.inl rfl, Or.inr ⟨_, rfl⟩, Or.inr (Or.inr (by decide))⟩
theorem fa_10_148 : ∀ ci ∈ ([9] : List Nat), fOK 10 148 ci 9 23 := List.forall_mem_cons.mpr ⟨fo_10_148_9, fun _ h => absurd h List.not_mem_nil⟩
theorem fl_10_155 : Cond.fieldLink (cNm 10) 155 "SaidWeather$World" "sayers" "[LSaidWeather$Sayer;" ∈ lw_good := lw_in 132 (by decide +kernel) (by decide +kernel)
theorem fo_10_155_9 : fOK 10 155 9 8 23 := ⟨RX9, TX9, 15, tyX9, "SaidWeather$World", rfl, rfl, by decide, inG9, tyX9_ok, nmX9, fl_10_155, Or.inl rfl, Or.inr ⟨_, rfl⟩, Or.inr (Or.inr (by decide))⟩
theorem fa_10_155 : ∀ ci ∈ ([9] : List Nat), fOK 10 155 ci 8 23 := List.forall_mem_cons.mpr ⟨fo_10_155_9, fun _ h => absurd h List.not_mem_nil⟩
theorem fl_10_174 : Cond.fieldLink (cNm 10) 174 "SaidWeather$World" "sayingCount" "I" ∈ lw_good := lw_in 145 (by decide +kernel) (by decide +kernel)
theorem fo_10_174_9 : fOK 10 174 9 14 0 := ⟨RX9, TX9, 15, tyX9, "SaidWeather$World", rfl, rfl, by decide, inG9, tyX9_ok, nmX9, fl_10_174, Or.inl rfl, rfl, Or.inl ⟨rfl, by decide⟩⟩
theorem fa_10_174 : ∀ ci ∈ ([9] : List Nat), fOK 10 174 ci 14 0 := List.forall_mem_cons.mpr ⟨fo_10_174_9, fun _ h => absurd h List.not_mem_nil⟩
theorem fl_10_177 : Cond.fieldLink (cNm 10) 177 "SaidWeather$World" "sayingWho" "[I" ∈ lw_good := lw_in 139 (by decide +kernel) (by decide +kernel)
theorem fo_10_177_9 : fOK 10 177 9 11 23 := ⟨RX9, TX9, 15, tyX9, "SaidWeather$World", rfl, rfl, by decide, inG9, tyX9_ok, nmX9, fl_10_177, Or.inl rfl, Or.inr ⟨_, rfl⟩, Or.inr (Or.inr (by decide))⟩
theorem fa_10_177 : ∀ ci ∈ ([9] : List Nat), fOK 10 177 ci 11 23 := List.forall_mem_cons.mpr ⟨fo_10_177_9, fun _ h => absurd h List.not_mem_nil⟩
theorem fl_10_180 : Cond.fieldLink (cNm 10) 180 "SaidWeather$World" "sayingDay" "[I" ∈ lw_good := lw_in 141 (by decide +kernel) (by decide +kernel)
theorem fo_10_180_9 : fOK 10 180 9 12 23 := ⟨RX9, TX9, 15, tyX9, "SaidWeather$World", rfl, rfl, by decide, inG9, tyX9_ok, nmX9, fl_10_180, Or.inl rfl, Or.inr ⟨_, rfl⟩, Or.inr (Or.inr (by decide))⟩
theorem fa_10_180 : ∀ ci ∈ ([9] : List Nat), fOK 10 180 ci 12 23 := List.forall_mem_cons.mpr ⟨fo_10_180_9, fun _ h => absurd h List.not_mem_nil⟩
theorem fl_10_183 : Cond.fieldLink (cNm 10) 183 "SaidWeather$World" "sayingWeather" "[I" ∈ lw_good := lw_in 143 (by decide +kernel) (by decide +kernel)
theorem fo_10_183_9 : fOK 10 183 9 13 23 := ⟨RX9, TX9, 15, tyX9, "SaidWeather$World", rfl, rfl, by decide, inG9, tyX9_ok, nmX9, fl_10_183, Or.inl rfl, Or.inr ⟨_, rfl⟩, Or.inr (Or.inr (by decide))⟩
theorem fa_10_183 : ∀ ci ∈ ([9] : List Nat), fOK 10 183 ci 13 23 := List.forall_mem_cons.mpr ⟨fo_10_183_9, fun _ h => absurd h List.not_mem_nil⟩
theorem fl_10_205 : Cond.fieldLink (cNm 10) 205 "SaidWeather$World" "today" "I" ∈ lw_good := lw_in 128 (by decide +kernel) (by decide +kernel)
theorem fo_10_205_9 : fOK 10 205 9 6 0 := ⟨RX9, TX9, 15, tyX9, "SaidWeather$World", rfl, rfl, by decide, inG9, tyX9_ok, nmX9, fl_10_205, Or.inl rfl, rfl, Or.inl ⟨rfl, by decide⟩⟩
theorem fa_10_205 : ∀ ci ∈ ([9] : List Nat), fOK 10 205 ci 6 0 := List.forall_mem_cons.mpr ⟨fo_10_205_9, fun _ h => absurd h List.not_mem_nil⟩
theorem fl_10_251 : Cond.fieldLink (cNm 10) 251 "SaidWeather$World" "z" "I" ∈ lw_good := lw_in 130 (by decide +kernel) (by decide +kernel)
theorem fo_10_251_9 : fOK 10 251 9 7 0 := ⟨RX9, TX9, 15, tyX9, "SaidWeather$World", rfl, rfl, by decide, inG9, tyX9_ok, nmX9, fl_10_251, Or.inl rfl, rfl, Or.inl ⟨rfl, by decide⟩⟩
theorem fa_10_251 : ∀ ci ∈ ([9] : List Nat), fOK 10 251 ci 7 0 := List.forall_mem_cons.mpr ⟨fo_10_251_9, fun _ h => absurd h List.not_mem_nil⟩
theorem fl_10_267 : Cond.fieldLink (cNm 10) 267 "SaidWeather$Sheet" "sort" "I" ∈ lw_good := lw_in 870 (by decide +kernel) (by decide +kernel)
theorem fo_10_267_5 : fOK 10 267 5 0 20 := ⟨RX5, TX5, 2, tyX5, "SaidWeather$Sheet", rfl, rfl, by decide, inG5, tyX5_ok, nmX5, fl_10_267, Or.inl rfl, rfl, Or.inr (Or.inr (by decide))⟩
theorem fa_10_267 : ∀ ci ∈ ([5] : List Nat), fOK 10 267 ci 0 20 := List.forall_mem_cons.mpr ⟨fo_10_267_5, fun _ h => absurd h List.not_mem_nil⟩
theorem fl_10_270 : Cond.fieldLink (cNm 10) 270 "SaidWeather$Sheet" "items" "[J" ∈ lw_good := lw_in 872 (by decide +kernel) (by decide +kernel)
theorem fo_10_270_5 : fOK 10 270 5 1 23 := ⟨RX5, TX5, 2, tyX5, "SaidWeather$Sheet", rfl, rfl, by decide, inG5, tyX5_ok, nmX5, fl_10_270, Or.inl rfl, Or.inr ⟨_, rfl⟩, Or.inr (Or.inr (by decide))⟩
theorem fa_10_270 : ∀ ci ∈ ([5] : List Nat), fOK 10 270 ci 1 23 := List.forall_mem_cons.mpr ⟨fo_10_270_5, fun _ h => absurd h List.not_mem_nil⟩
theorem fl_10_287 : Cond.fieldLink (cNm 10) 287 "SaidWeather$Sayer" "number" "I" ∈ lw_good := lw_in 394 (by decide +kernel) (by decide +kernel)
theorem fo_10_287_0 : fOK 10 287 0 1 20 := ⟨RX0, TX0, 3, tyX0, "SaidWeather$Sayer", rfl, rfl, by decide, inG0, tyX0_ok, nmX0, fl_10_287, Or.inl rfl, rfl, Or.inr (Or.inr (by decide))⟩
theorem fo_10_287_2 : fOK 10 287 2 1 20 := ⟨RX2, TX2, 3, tyX2, "SaidWeather$Sayer", rfl, rfl, by decide, inG2, tyX2_ok, nmX2, fl_10_287, Or.inl rfl, rfl, Or.inr (Or.inr (by decide))⟩
theorem fo_10_287_3 : fOK 10 287 3 1 20 := ⟨RX3, TX3, 3, tyX3, "SaidWeather$Sayer", rfl, rfl, by decide, inG3, tyX3_ok, nmX3, fl_10_287, Or.inl rfl, rfl, Or.inr (Or.inr (by decide))⟩
theorem fo_10_287_4 : fOK 10 287 4 1 20 := ⟨RX4, TX4, 3, tyX4, "SaidWeather$Sayer", rfl, rfl, by decide, inG4, tyX4_ok, nmX4, fl_10_287, Or.inl rfl, rfl, Or.inr (Or.inr (by decide))⟩
theorem fo_10_287_6 : fOK 10 287 6 1 20 := ⟨RX6, TX6, 3, tyX6, "SaidWeather$Sayer", rfl, rfl, by decide, inG6, tyX6_ok, nmX6, fl_10_287, Or.inl rfl, rfl, Or.inr (Or.inr (by decide))⟩
theorem fo_10_287_7 : fOK 10 287 7 1 20 := ⟨RX7, TX7, 3, tyX7, "SaidWeather$Sayer", rfl, rfl, by decide, inG7, tyX7_ok, nmX7, fl_10_287, Or.inl rfl, rfl, Or.inr (Or.inr (by decide))⟩
theorem fa_10_287 : ∀ ci ∈ ([0, 2, 3, 4, 6, 7] : List Nat), fOK 10 287 ci 1 20 := List.forall_mem_cons.mpr ⟨fo_10_287_0, List.forall_mem_cons.mpr ⟨fo_10_287_2, List.forall_mem_cons.mpr ⟨fo_10_287_3, List.forall_mem_cons.mpr ⟨fo_10_287_4, List.forall_mem_cons.mpr ⟨fo_10_287_6, List.forall_mem_cons.mpr ⟨fo_10_287_7, fun _ h => absurd h List.not_mem_nil⟩⟩⟩⟩⟩⟩
theorem fl_10_306 : Cond.fieldLink (cNm 10) 306 "SaidWeather$Trace" "isBroken" "Z" ∈ lw_good := lw_in 221 (by decide +kernel) (by decide +kernel)
theorem fo_10_306_8 : fOK 10 306 8 2 1 := ⟨RX8, TX8, 3, tyX8, "SaidWeather$Trace", rfl, rfl, by decide, inG8, tyX8_ok, nmX8, fl_10_306, Or.inl rfl, rfl, Or.inl ⟨rfl, by decide⟩⟩
theorem fa_10_306 : ∀ ci ∈ ([8] : List Nat), fOK 10 306 ci 2 1 := List.forall_mem_cons.mpr ⟨fo_10_306_8, fun _ h => absurd h List.not_mem_nil⟩
theorem fl_10_310 : Cond.fieldLink (cNm 10) 310 "SaidWeather$Trace" "count" "I" ∈ lw_good := lw_in 218 (by decide +kernel) (by decide +kernel)
theorem fo_10_310_8 : fOK 10 310 8 1 0 := ⟨RX8, TX8, 3, tyX8, "SaidWeather$Trace", rfl, rfl, by decide, inG8, tyX8_ok, nmX8, fl_10_310, Or.inl rfl, rfl, Or.inl ⟨rfl, by decide⟩⟩
theorem fa_10_310 : ∀ ci ∈ ([8] : List Nat), fOK 10 310 ci 1 0 := List.forall_mem_cons.mpr ⟨fo_10_310_8, fun _ h => absurd h List.not_mem_nil⟩
theorem fl_10_313 : Cond.fieldLink (cNm 10) 313 "SaidWeather$Trace" "numbers" "[I" ∈ lw_good := lw_in 215 (by decide +kernel) (by decide +kernel)
theorem fo_10_313_8 : fOK 10 313 8 0 23 := ⟨RX8, TX8, 3, tyX8, "SaidWeather$Trace", rfl, rfl, by decide, inG8, tyX8_ok, nmX8, fl_10_313, Or.inl rfl, Or.inr ⟨_, rfl⟩, Or.inr (Or.inr (by decide))⟩
theorem fa_10_313 : ∀ ci ∈ ([8] : List Nat), fOK 10 313 ci 0 23 := List.forall_mem_cons.mpr ⟨fo_10_313_8, fun _ h => absurd h List.not_mem_nil⟩
theorem fl_10_316 : Cond.fieldLink (cNm 10) 316 "SaidWeather" "isKept" "Z" ∈ lw_good := lw_in 232 (by decide +kernel) (by decide +kernel)
theorem fo_10_316_10 : fOK 10 316 10 3 1 := ⟨RX10, TX10, 11, tyX10, "SaidWeather", rfl, rfl, by decide, inG10, tyX10_ok, nmX10, fl_10_316, Or.inl rfl, rfl, Or.inl ⟨rfl, by decide⟩⟩
theorem fa_10_316 : ∀ ci ∈ ([10] : List Nat), fOK 10 316 ci 3 1 := List.forall_mem_cons.mpr ⟨fo_10_316_10, fun _ h => absurd h List.not_mem_nil⟩
theorem fl_11_7 : Cond.fieldLink (cNm 11) 7 "SaidWeatherModel" "row" "[I" ∈ lw_good := lw_in 1027 (by decide +kernel) (by decide +kernel)
theorem fo_11_7_11 : fOK 11 7 11 0 13 := ⟨RX11, TX11, 53, tyX11, "SaidWeatherModel", rfl, rfl, by decide, inG11, tyX11_ok, nmX11, fl_11_7, Or.inl rfl, Or.inr ⟨_, rfl⟩, Or.inr (Or.inl ⟨rfl, by decide, by decide, rfl⟩)⟩
theorem fa_11_7 : ∀ ci ∈ ([11] : List Nat), fOK 11 7 ci 0 13 := List.forall_mem_cons.mpr ⟨fo_11_7_11, fun _ h => absurd h List.not_mem_nil⟩
theorem fl_11_13 : Cond.fieldLink (cNm 11) 13 "SaidWeatherModel" "worths" "[I" ∈ lw_good := lw_in 1029 (by decide +kernel) (by decide +kernel)
theorem fo_11_13_11 : fOK 11 13 11 2 13 := ⟨RX11, TX11, 53, tyX11, "SaidWeatherModel", rfl, rfl, by decide, inG11, tyX11_ok, nmX11, fl_11_13, Or.inl rfl, Or.inr ⟨_, rfl⟩, Or.inr (Or.inl ⟨rfl, by decide, by decide, rfl⟩)⟩
theorem fa_11_13 : ∀ ci ∈ ([11] : List Nat), fOK 11 13 ci 2 13 := List.forall_mem_cons.mpr ⟨fo_11_13_11, fun _ h => absurd h List.not_mem_nil⟩
theorem fl_11_16 : Cond.fieldLink (cNm 11) 16 "SaidWeatherModel" "weights" "[I" ∈ lw_good := lw_in 1030 (by decide +kernel) (by decide +kernel)
theorem fo_11_16_11 : fOK 11 16 11 3 13 := ⟨RX11, TX11, 53, tyX11, "SaidWeatherModel", rfl, rfl, by decide, inG11, tyX11_ok, nmX11, fl_11_16, Or.inl rfl, Or.inr ⟨_, rfl⟩, Or.inr (Or.inl ⟨rfl, by decide, by decide, rfl⟩)⟩
theorem fa_11_16 : ∀ ci ∈ ([11] : List Nat), fOK 11 16 ci 3 13 := List.forall_mem_cons.mpr ⟨fo_11_16_11, fun _ h => absurd h List.not_mem_nil⟩
theorem fl_11_19 : Cond.fieldLink (cNm 11) 19 "SaidWeatherModel" "sayer" "[I" ∈ lw_good := lw_in 1032 (by decide +kernel) (by decide +kernel)
theorem fo_11_19_11 : fOK 11 19 11 5 13 := ⟨RX11, TX11, 53, tyX11, "SaidWeatherModel", rfl, rfl, by decide, inG11, tyX11_ok, nmX11, fl_11_19, Or.inl rfl, Or.inr ⟨_, rfl⟩, Or.inr (Or.inl ⟨rfl, by decide, by decide, rfl⟩)⟩
theorem fa_11_19 : ∀ ci ∈ ([11] : List Nat), fOK 11 19 ci 5 13 := List.forall_mem_cons.mpr ⟨fo_11_19_11, fun _ h => absurd h List.not_mem_nil⟩
theorem fl_11_22 : Cond.fieldLink (cNm 11) 22 "SaidWeatherModel" "laws" "[I" ∈ lw_good := lw_in 1033 (by decide +kernel) (by decide +kernel)
theorem fo_11_22_11 : fOK 11 22 11 6 13 := ⟨RX11, TX11, 53, tyX11, "SaidWeatherModel", rfl, rfl, by decide, inG11, tyX11_ok, nmX11, fl_11_22, Or.inl rfl, Or.inr ⟨_, rfl⟩, Or.inr (Or.inl ⟨rfl, by decide, by decide, rfl⟩)⟩
theorem fa_11_22 : ∀ ci ∈ ([11] : List Nat), fOK 11 22 ci 6 13 := List.forall_mem_cons.mpr ⟨fo_11_22_11, fun _ h => absurd h List.not_mem_nil⟩
theorem fl_11_25 : Cond.fieldLink (cNm 11) 25 "SaidWeatherModel" "mostOf" "[I" ∈ lw_good := lw_in 1034 (by decide +kernel) (by decide +kernel)
theorem fo_11_25_11 : fOK 11 25 11 7 13 := ⟨RX11, TX11, 53, tyX11, "SaidWeatherModel", rfl, rfl, by decide, inG11, tyX11_ok, nmX11, fl_11_25, Or.inl rfl, Or.inr ⟨_, rfl⟩, Or.inr (Or.inl ⟨rfl, by decide, by decide, rfl⟩)⟩
theorem fa_11_25 : ∀ ci ∈ ([11] : List Nat), fOK 11 25 ci 7 13 := List.forall_mem_cons.mpr ⟨fo_11_25_11, fun _ h => absurd h List.not_mem_nil⟩
theorem fl_11_28 : Cond.fieldLink (cNm 11) 28 "SaidWeatherModel" "tape" "[I" ∈ lw_good := lw_in 1035 (by decide +kernel) (by decide +kernel)
theorem fo_11_28_11 : fOK 11 28 11 8 13 := ⟨RX11, TX11, 53, tyX11, "SaidWeatherModel", rfl, rfl, by decide, inG11, tyX11_ok, nmX11, fl_11_28, Or.inl rfl, Or.inr ⟨_, rfl⟩, Or.inr (Or.inl ⟨rfl, by decide, by decide, rfl⟩)⟩
theorem fa_11_28 : ∀ ci ∈ ([11] : List Nat), fOK 11 28 ci 8 13 := List.forall_mem_cons.mpr ⟨fo_11_28_11, fun _ h => absurd h List.not_mem_nil⟩
theorem fl_11_31 : Cond.fieldLink (cNm 11) 31 "SaidWeatherModel" "freshWorth" "[I" ∈ lw_good := lw_in 1046 (by decide +kernel) (by decide +kernel)
theorem fo_11_31_11 : fOK 11 31 11 19 13 := ⟨RX11, TX11, 53, tyX11, "SaidWeatherModel", rfl, rfl, by decide, inG11, tyX11_ok, nmX11, fl_11_31, Or.inl rfl, Or.inr ⟨_, rfl⟩, Or.inr (Or.inl ⟨rfl, by decide, by decide, rfl⟩)⟩
theorem fa_11_31 : ∀ ci ∈ ([11] : List Nat), fOK 11 31 ci 19 13 := List.forall_mem_cons.mpr ⟨fo_11_31_11, fun _ h => absurd h List.not_mem_nil⟩
theorem fl_11_34 : Cond.fieldLink (cNm 11) 34 "SaidWeatherModel" "freshWeights" "[I" ∈ lw_good := lw_in 1047 (by decide +kernel) (by decide +kernel)
theorem fo_11_34_11 : fOK 11 34 11 20 13 := ⟨RX11, TX11, 53, tyX11, "SaidWeatherModel", rfl, rfl, by decide, inG11, tyX11_ok, nmX11, fl_11_34, Or.inl rfl, Or.inr ⟨_, rfl⟩, Or.inr (Or.inl ⟨rfl, by decide, by decide, rfl⟩)⟩
theorem fa_11_34 : ∀ ci ∈ ([11] : List Nat), fOK 11 34 ci 20 13 := List.forall_mem_cons.mpr ⟨fo_11_34_11, fun _ h => absurd h List.not_mem_nil⟩
theorem fl_11_37 : Cond.fieldLink (cNm 11) 37 "SaidWeatherModel" "freshSign" "[I" ∈ lw_good := lw_in 1048 (by decide +kernel) (by decide +kernel)
theorem fo_11_37_11 : fOK 11 37 11 21 13 := ⟨RX11, TX11, 53, tyX11, "SaidWeatherModel", rfl, rfl, by decide, inG11, tyX11_ok, nmX11, fl_11_37, Or.inl rfl, Or.inr ⟨_, rfl⟩, Or.inr (Or.inl ⟨rfl, by decide, by decide, rfl⟩)⟩
theorem fa_11_37 : ∀ ci ∈ ([11] : List Nat), fOK 11 37 ci 21 13 := List.forall_mem_cons.mpr ⟨fo_11_37_11, fun _ h => absurd h List.not_mem_nil⟩
theorem fl_11_40 : Cond.fieldLink (cNm 11) 40 "SaidWeatherModel" "freshSayer" "[I" ∈ lw_good := lw_in 1049 (by decide +kernel) (by decide +kernel)
theorem fo_11_40_11 : fOK 11 40 11 22 13 := ⟨RX11, TX11, 53, tyX11, "SaidWeatherModel", rfl, rfl, by decide, inG11, tyX11_ok, nmX11, fl_11_40, Or.inl rfl, Or.inr ⟨_, rfl⟩, Or.inr (Or.inl ⟨rfl, by decide, by decide, rfl⟩)⟩
theorem fa_11_40 : ∀ ci ∈ ([11] : List Nat), fOK 11 40 ci 22 13 := List.forall_mem_cons.mpr ⟨fo_11_40_11, fun _ h => absurd h List.not_mem_nil⟩
theorem fl_11_43 : Cond.fieldLink (cNm 11) 43 "SaidWeatherModel" "freshSaying" "[I" ∈ lw_good := lw_in 1050 (by decide +kernel) (by decide +kernel)
theorem fo_11_43_11 : fOK 11 43 11 23 13 := ⟨RX11, TX11, 53, tyX11, "SaidWeatherModel", rfl, rfl, by decide, inG11, tyX11_ok, nmX11, fl_11_43, Or.inl rfl, Or.inr ⟨_, rfl⟩, Or.inr (Or.inl ⟨rfl, by decide, by decide, rfl⟩)⟩
theorem fa_11_43 : ∀ ci ∈ ([11] : List Nat), fOK 11 43 ci 23 13 := List.forall_mem_cons.mpr ⟨fo_11_43_11, fun _ h => absurd h List.not_mem_nil⟩
theorem fl_11_46 : Cond.fieldLink (cNm 11) 46 "SaidWeatherModel" "four" "[I" ∈ lw_good := lw_in 1051 (by decide +kernel) (by decide +kernel)
theorem fo_11_46_11 : fOK 11 46 11 24 13 := ⟨RX11, TX11, 53, tyX11, "SaidWeatherModel", rfl, rfl, by decide, inG11, tyX11_ok, nmX11, fl_11_46, Or.inl rfl, Or.inr ⟨_, rfl⟩, Or.inr (Or.inl ⟨rfl, by decide, by decide, rfl⟩)⟩
theorem fa_11_46 : ∀ ci ∈ ([11] : List Nat), fOK 11 46 ci 24 13 := List.forall_mem_cons.mpr ⟨fo_11_46_11, fun _ h => absurd h List.not_mem_nil⟩
theorem fl_11_49 : Cond.fieldLink (cNm 11) 49 "SaidWeatherModel" "rows" "[I" ∈ lw_good := lw_in 1060 (by decide +kernel) (by decide +kernel)
theorem fo_11_49_11 : fOK 11 49 11 33 13 := ⟨RX11, TX11, 53, tyX11, "SaidWeatherModel", rfl, rfl, by decide, inG11, tyX11_ok, nmX11, fl_11_49, Or.inl rfl, Or.inr ⟨_, rfl⟩, Or.inr (Or.inl ⟨rfl, by decide, by decide, rfl⟩)⟩
theorem fa_11_49 : ∀ ci ∈ ([11] : List Nat), fOK 11 49 ci 33 13 := List.forall_mem_cons.mpr ⟨fo_11_49_11, fun _ h => absurd h List.not_mem_nil⟩
theorem fl_11_52 : Cond.fieldLink (cNm 11) 52 "SaidWeatherModel" "must" "[I" ∈ lw_good := lw_in 1061 (by decide +kernel) (by decide +kernel)
theorem fo_11_52_11 : fOK 11 52 11 34 13 := ⟨RX11, TX11, 53, tyX11, "SaidWeatherModel", rfl, rfl, by decide, inG11, tyX11_ok, nmX11, fl_11_52, Or.inl rfl, Or.inr ⟨_, rfl⟩, Or.inr (Or.inl ⟨rfl, by decide, by decide, rfl⟩)⟩
theorem fa_11_52 : ∀ ci ∈ ([11] : List Nat), fOK 11 52 ci 34 13 := List.forall_mem_cons.mpr ⟨fo_11_52_11, fun _ h => absurd h List.not_mem_nil⟩
theorem fl_11_55 : Cond.fieldLink (cNm 11) 55 "SaidWeatherModel" "sorts" "[I" ∈ lw_good := lw_in 1064 (by decide +kernel) (by decide +kernel)
theorem fo_11_55_11 : fOK 11 55 11 37 13 := ⟨RX11, TX11, 53, tyX11, "SaidWeatherModel", rfl, rfl, by decide, inG11, tyX11_ok, nmX11, fl_11_55, Or.inl rfl, Or.inr ⟨_, rfl⟩, Or.inr (Or.inl ⟨rfl, by decide, by decide, rfl⟩)⟩
theorem fa_11_55 : ∀ ci ∈ ([11] : List Nat), fOK 11 55 ci 37 13 := List.forall_mem_cons.mpr ⟨fo_11_55_11, fun _ h => absurd h List.not_mem_nil⟩
theorem fl_11_58 : Cond.fieldLink (cNm 11) 58 "SaidWeatherModel" "sizes" "[I" ∈ lw_good := lw_in 1065 (by decide +kernel) (by decide +kernel)
theorem fo_11_58_11 : fOK 11 58 11 38 13 := ⟨RX11, TX11, 53, tyX11, "SaidWeatherModel", rfl, rfl, by decide, inG11, tyX11_ok, nmX11, fl_11_58, Or.inl rfl, Or.inr ⟨_, rfl⟩, Or.inr (Or.inl ⟨rfl, by decide, by decide, rfl⟩)⟩
theorem fa_11_58 : ∀ ci ∈ ([11] : List Nat), fOK 11 58 ci 38 13 := List.forall_mem_cons.mpr ⟨fo_11_58_11, fun _ h => absurd h List.not_mem_nil⟩
theorem fl_11_61 : Cond.fieldLink (cNm 11) 61 "SaidWeatherModel" "sheets" "[J" ∈ lw_good := lw_in 1066 (by decide +kernel) (by decide +kernel)
theorem fo_11_61_11 : fOK 11 61 11 39 13 := ⟨RX11, TX11, 53, tyX11, "SaidWeatherModel", rfl, rfl, by decide, inG11, tyX11_ok, nmX11, fl_11_61, Or.inl rfl, Or.inr ⟨_, rfl⟩, Or.inr (Or.inl ⟨rfl, by decide, by decide, rfl⟩)⟩
theorem fa_11_61 : ∀ ci ∈ ([11] : List Nat), fOK 11 61 ci 39 13 := List.forall_mem_cons.mpr ⟨fo_11_61_11, fun _ h => absurd h List.not_mem_nil⟩
theorem fl_11_65 : Cond.fieldLink (cNm 11) 65 "SaidWeatherModel" "held" "[I" ∈ lw_good := lw_in 1067 (by decide +kernel) (by decide +kernel)
theorem fo_11_65_11 : fOK 11 65 11 40 13 := ⟨RX11, TX11, 53, tyX11, "SaidWeatherModel", rfl, rfl, by decide, inG11, tyX11_ok, nmX11, fl_11_65, Or.inl rfl, Or.inr ⟨_, rfl⟩, Or.inr (Or.inl ⟨rfl, by decide, by decide, rfl⟩)⟩
theorem fa_11_65 : ∀ ci ∈ ([11] : List Nat), fOK 11 65 ci 40 13 := List.forall_mem_cons.mpr ⟨fo_11_65_11, fun _ h => absurd h List.not_mem_nil⟩
theorem fl_11_68 : Cond.fieldLink (cNm 11) 68 "SaidWeatherModel" "heldNumber" "[I" ∈ lw_good := lw_in 1068 (by decide +kernel) (by decide +kernel)
theorem fo_11_68_11 : fOK 11 68 11 41 13 := ⟨RX11, TX11, 53, tyX11, "SaidWeatherModel", rfl, rfl, by decide, inG11, tyX11_ok, nmX11, fl_11_68, Or.inl rfl, Or.inr ⟨_, rfl⟩, Or.inr (Or.inl ⟨rfl, by decide, by decide, rfl⟩)⟩
theorem fa_11_68 : ∀ ci ∈ ([11] : List Nat), fOK 11 68 ci 41 13 := List.forall_mem_cons.mpr ⟨fo_11_68_11, fun _ h => absurd h List.not_mem_nil⟩
theorem fl_11_71 : Cond.fieldLink (cNm 11) 71 "SaidWeatherModel" "heldSize" "[I" ∈ lw_good := lw_in 1069 (by decide +kernel) (by decide +kernel)
theorem fo_11_71_11 : fOK 11 71 11 42 13 := ⟨RX11, TX11, 53, tyX11, "SaidWeatherModel", rfl, rfl, by decide, inG11, tyX11_ok, nmX11, fl_11_71, Or.inl rfl, Or.inr ⟨_, rfl⟩, Or.inr (Or.inl ⟨rfl, by decide, by decide, rfl⟩)⟩
theorem fa_11_71 : ∀ ci ∈ ([11] : List Nat), fOK 11 71 ci 42 13 := List.forall_mem_cons.mpr ⟨fo_11_71_11, fun _ h => absurd h List.not_mem_nil⟩
theorem fl_11_74 : Cond.fieldLink (cNm 11) 74 "SaidWeatherModel" "traced" "[I" ∈ lw_good := lw_in 1073 (by decide +kernel) (by decide +kernel)
theorem fo_11_74_11 : fOK 11 74 11 46 13 := ⟨RX11, TX11, 53, tyX11, "SaidWeatherModel", rfl, rfl, by decide, inG11, tyX11_ok, nmX11, fl_11_74, Or.inl rfl, Or.inr ⟨_, rfl⟩, Or.inr (Or.inl ⟨rfl, by decide, by decide, rfl⟩)⟩
theorem fa_11_74 : ∀ ci ∈ ([11] : List Nat), fOK 11 74 ci 46 13 := List.forall_mem_cons.mpr ⟨fo_11_74_11, fun _ h => absurd h List.not_mem_nil⟩
theorem fl_11_77 : Cond.fieldLink (cNm 11) 77 "SaidWeatherModel" "keptRow" "[I" ∈ lw_good := lw_in 1077 (by decide +kernel) (by decide +kernel)
theorem fo_11_77_11 : fOK 11 77 11 50 13 := ⟨RX11, TX11, 53, tyX11, "SaidWeatherModel", rfl, rfl, by decide, inG11, tyX11_ok, nmX11, fl_11_77, Or.inl rfl, Or.inr ⟨_, rfl⟩, Or.inr (Or.inl ⟨rfl, by decide, by decide, rfl⟩)⟩
theorem fa_11_77 : ∀ ci ∈ ([11] : List Nat), fOK 11 77 ci 50 13 := List.forall_mem_cons.mpr ⟨fo_11_77_11, fun _ h => absurd h List.not_mem_nil⟩
theorem fl_11_80 : Cond.fieldLink (cNm 11) 80 "SaidWeatherModel" "single" "[I" ∈ lw_good := lw_in 1079 (by decide +kernel) (by decide +kernel)
theorem fo_11_80_11 : fOK 11 80 11 52 13 := ⟨RX11, TX11, 53, tyX11, "SaidWeatherModel", rfl, rfl, by decide, inG11, tyX11_ok, nmX11, fl_11_80, Or.inl rfl, Or.inr ⟨_, rfl⟩, Or.inr (Or.inl ⟨rfl, by decide, by decide, rfl⟩)⟩
theorem fa_11_80 : ∀ ci ∈ ([11] : List Nat), fOK 11 80 ci 52 13 := List.forall_mem_cons.mpr ⟨fo_11_80_11, fun _ h => absurd h List.not_mem_nil⟩
theorem fl_11_87 : Cond.fieldLink (cNm 11) 87 "SaidWeatherModel" "sayers" "I" ∈ lw_good := lw_in 1031 (by decide +kernel) (by decide +kernel)
theorem fo_11_87_11 : fOK 11 87 11 4 0 := ⟨RX11, TX11, 53, tyX11, "SaidWeatherModel", rfl, rfl, by decide, inG11, tyX11_ok, nmX11, fl_11_87, Or.inl rfl, rfl, Or.inl ⟨rfl, by decide⟩⟩
theorem fa_11_87 : ∀ ci ∈ ([11] : List Nat), fOK 11 87 ci 4 0 := List.forall_mem_cons.mpr ⟨fo_11_87_11, fun _ h => absurd h List.not_mem_nil⟩
theorem fl_11_91 : Cond.fieldLink (cNm 11) 91 "SaidWeatherModel" "at" "I" ∈ lw_good := lw_in 1028 (by decide +kernel) (by decide +kernel)
theorem fo_11_91_11 : fOK 11 91 11 1 0 := ⟨RX11, TX11, 53, tyX11, "SaidWeatherModel", rfl, rfl, by decide, inG11, tyX11_ok, nmX11, fl_11_91, Or.inl rfl, rfl, Or.inl ⟨rfl, by decide⟩⟩
theorem fa_11_91 : ∀ ci ∈ ([11] : List Nat), fOK 11 91 ci 1 0 := List.forall_mem_cons.mpr ⟨fo_11_91_11, fun _ h => absurd h List.not_mem_nil⟩
theorem fl_11_94 : Cond.fieldLink (cNm 11) 94 "SaidWeatherModel" "tapeMany" "I" ∈ lw_good := lw_in 1036 (by decide +kernel) (by decide +kernel)
theorem fo_11_94_11 : fOK 11 94 11 9 0 := ⟨RX11, TX11, 53, tyX11, "SaidWeatherModel", rfl, rfl, by decide, inG11, tyX11_ok, nmX11, fl_11_94, Or.inl rfl, rfl, Or.inl ⟨rfl, by decide⟩⟩
theorem fa_11_94 : ∀ ci ∈ ([11] : List Nat), fOK 11 94 ci 9 0 := List.forall_mem_cons.mpr ⟨fo_11_94_11, fun _ h => absurd h List.not_mem_nil⟩
theorem fl_11_99 : Cond.fieldLink (cNm 11) 99 "SaidWeatherModel" "tokenEnds" "I" ∈ lw_good := lw_in 1039 (by decide +kernel) (by decide +kernel)
theorem fo_11_99_11 : fOK 11 99 11 12 0 := ⟨RX11, TX11, 53, tyX11, "SaidWeatherModel", rfl, rfl, by decide, inG11, tyX11_ok, nmX11, fl_11_99, Or.inl rfl, rfl, Or.inl ⟨rfl, by decide⟩⟩
theorem fa_11_99 : ∀ ci ∈ ([11] : List Nat), fOK 11 99 ci 12 0 := List.forall_mem_cons.mpr ⟨fo_11_99_11, fun _ h => absurd h List.not_mem_nil⟩
theorem fl_11_102 : Cond.fieldLink (cNm 11) 102 "SaidWeatherModel" "begins" "I" ∈ lw_good := lw_in 1038 (by decide +kernel) (by decide +kernel)
theorem fo_11_102_11 : fOK 11 102 11 11 0 := ⟨RX11, TX11, 53, tyX11, "SaidWeatherModel", rfl, rfl, by decide, inG11, tyX11_ok, nmX11, fl_11_102, Or.inl rfl, rfl, Or.inl ⟨rfl, by decide⟩⟩
theorem fa_11_102 : ∀ ci ∈ ([11] : List Nat), fOK 11 102 ci 11 0 := List.forall_mem_cons.mpr ⟨fo_11_102_11, fun _ h => absurd h List.not_mem_nil⟩
theorem fl_11_116 : Cond.fieldLink (cNm 11) 116 "SaidWeatherModel" "sort" "I" ∈ lw_good := lw_in 1037 (by decide +kernel) (by decide +kernel)
theorem fo_11_116_11 : fOK 11 116 11 10 0 := ⟨RX11, TX11, 53, tyX11, "SaidWeatherModel", rfl, rfl, by decide, inG11, tyX11_ok, nmX11, fl_11_116, Or.inl rfl, rfl, Or.inl ⟨rfl, by decide⟩⟩
theorem fa_11_116 : ∀ ci ∈ ([11] : List Nat), fOK 11 116 ci 10 0 := List.forall_mem_cons.mpr ⟨fo_11_116_11, fun _ h => absurd h List.not_mem_nil⟩
theorem fl_11_119 : Cond.fieldLink (cNm 11) 119 "SaidWeatherModel" "word" "J" ∈ lw_good := lw_in 1040 (by decide +kernel) (by decide +kernel)
theorem fo_11_119_11 : fOK 11 119 11 13 2 := ⟨RX11, TX11, 53, tyX11, "SaidWeatherModel", rfl, rfl, by decide, inG11, tyX11_ok, nmX11, fl_11_119, Or.inl rfl, rfl, Or.inl ⟨rfl, by decide⟩⟩
theorem fa_11_119 : ∀ ci ∈ ([11] : List Nat), fOK 11 119 ci 13 2 := List.forall_mem_cons.mpr ⟨fo_11_119_11, fun _ h => absurd h List.not_mem_nil⟩
theorem fl_11_123 : Cond.fieldLink (cNm 11) 123 "SaidWeatherModel" "value" "I" ∈ lw_good := lw_in 1041 (by decide +kernel) (by decide +kernel)
theorem fo_11_123_11 : fOK 11 123 11 14 0 := ⟨RX11, TX11, 53, tyX11, "SaidWeatherModel", rfl, rfl, by decide, inG11, tyX11_ok, nmX11, fl_11_123, Or.inl rfl, rfl, Or.inl ⟨rfl, by decide⟩⟩
theorem fa_11_123 : ∀ ci ∈ ([11] : List Nat), fOK 11 123 ci 14 0 := List.forall_mem_cons.mpr ⟨fo_11_123_11, fun _ h => absurd h List.not_mem_nil⟩
theorem fl_11_148 : Cond.fieldLink (cNm 11) 148 "SaidWeatherModel" "good" "Z" ∈ lw_good := lw_in 1042 (by decide +kernel) (by decide +kernel)
theorem fo_11_148_11 : fOK 11 148 11 15 1 := ⟨RX11, TX11, 53, tyX11, "SaidWeatherModel", rfl, rfl, by decide, inG11, tyX11_ok, nmX11, fl_11_148, Or.inl rfl, rfl, Or.inl ⟨rfl, by decide⟩⟩
theorem fa_11_148 : ∀ ci ∈ ([11] : List Nat), fOK 11 148 ci 15 1 := List.forall_mem_cons.mpr ⟨fo_11_148_11, fun _ h => absurd h List.not_mem_nil⟩
theorem fl_11_174 : Cond.fieldLink (cNm 11) 174 "SaidWeatherModel" "freshSaid" "I" ∈ lw_good := lw_in 1045 (by decide +kernel) (by decide +kernel)
theorem fo_11_174_11 : fOK 11 174 11 18 0 := ⟨RX11, TX11, 53, tyX11, "SaidWeatherModel", rfl, rfl, by decide, inG11, tyX11_ok, nmX11, fl_11_174, Or.inl rfl, rfl, Or.inl ⟨rfl, by decide⟩⟩
theorem fa_11_174 : ∀ ci ∈ ([11] : List Nat), fOK 11 174 ci 18 0 := List.forall_mem_cons.mpr ⟨fo_11_174_11, fun _ h => absurd h List.not_mem_nil⟩
theorem fl_11_177 : Cond.fieldLink (cNm 11) 177 "SaidWeatherModel" "freshSayers" "I" ∈ lw_good := lw_in 1044 (by decide +kernel) (by decide +kernel)
theorem fo_11_177_11 : fOK 11 177 11 17 0 := ⟨RX11, TX11, 53, tyX11, "SaidWeatherModel", rfl, rfl, by decide, inG11, tyX11_ok, nmX11, fl_11_177, Or.inl rfl, rfl, Or.inl ⟨rfl, by decide⟩⟩
theorem fa_11_177 : ∀ ci ∈ ([11] : List Nat), fOK 11 177 ci 17 0 := List.forall_mem_cons.mpr ⟨fo_11_177_11, fun _ h => absurd h List.not_mem_nil⟩
theorem fl_11_196 : Cond.fieldLink (cNm 11) 196 "SaidWeatherModel" "freshNow" "I" ∈ lw_good := lw_in 1043 (by decide +kernel) (by decide +kernel)
theorem fo_11_196_11 : fOK 11 196 11 16 0 := ⟨RX11, TX11, 53, tyX11, "SaidWeatherModel", rfl, rfl, by decide, inG11, tyX11_ok, nmX11, fl_11_196, Or.inl rfl, rfl, Or.inl ⟨rfl, by decide⟩⟩
theorem fa_11_196 : ∀ ci ∈ ([11] : List Nat), fOK 11 196 ci 16 0 := List.forall_mem_cons.mpr ⟨fo_11_196_11, fun _ h => absurd h List.not_mem_nil⟩
theorem fl_11_213 : Cond.fieldLink (cNm 11) 213 "SaidWeatherModel" "rowMany" "I" ∈ lw_good := lw_in 1062 (by decide +kernel) (by decide +kernel)
theorem fo_11_213_11 : fOK 11 213 11 35 0 := ⟨RX11, TX11, 53, tyX11, "SaidWeatherModel", rfl, rfl, by decide, inG11, tyX11_ok, nmX11, fl_11_213, Or.inl rfl, rfl, Or.inl ⟨rfl, by decide⟩⟩
theorem fa_11_213 : ∀ ci ∈ ([11] : List Nat), fOK 11 213 ci 35 0 := List.forall_mem_cons.mpr ⟨fo_11_213_11, fun _ h => absurd h List.not_mem_nil⟩
theorem fl_11_261 : Cond.fieldLink (cNm 11) 261 "SaidWeatherModel" "ofDay" "I" ∈ lw_good := lw_in 1052 (by decide +kernel) (by decide +kernel)
theorem fo_11_261_11 : fOK 11 261 11 25 0 := ⟨RX11, TX11, 53, tyX11, "SaidWeatherModel", rfl, rfl, by decide, inG11, tyX11_ok, nmX11, fl_11_261, Or.inl rfl, rfl, Or.inl ⟨rfl, by decide⟩⟩
theorem fa_11_261 : ∀ ci ∈ ([11] : List Nat), fOK 11 261 ci 25 0 := List.forall_mem_cons.mpr ⟨fo_11_261_11, fun _ h => absurd h List.not_mem_nil⟩
theorem fl_11_264 : Cond.fieldLink (cNm 11) 264 "SaidWeatherModel" "ofWeather" "I" ∈ lw_good := lw_in 1053 (by decide +kernel) (by decide +kernel)
theorem fo_11_264_11 : fOK 11 264 11 26 0 := ⟨RX11, TX11, 53, tyX11, "SaidWeatherModel", rfl, rfl, by decide, inG11, tyX11_ok, nmX11, fl_11_264, Or.inl rfl, rfl, Or.inl ⟨rfl, by decide⟩⟩
theorem fa_11_264 : ∀ ci ∈ ([11] : List Nat), fOK 11 264 ci 26 0 := List.forall_mem_cons.mpr ⟨fo_11_264_11, fun _ h => absurd h List.not_mem_nil⟩
theorem fl_11_267 : Cond.fieldLink (cNm 11) 267 "SaidWeatherModel" "ofMany" "I" ∈ lw_good := lw_in 1054 (by decide +kernel) (by decide +kernel)
theorem fo_11_267_11 : fOK 11 267 11 27 0 := ⟨RX11, TX11, 53, tyX11, "SaidWeatherModel", rfl, rfl, by decide, inG11, tyX11_ok, nmX11, fl_11_267, Or.inl rfl, rfl, Or.inl ⟨rfl, by decide⟩⟩
theorem fa_11_267 : ∀ ci ∈ ([11] : List Nat), fOK 11 267 ci 27 0 := List.forall_mem_cons.mpr ⟨fo_11_267_11, fun _ h => absurd h List.not_mem_nil⟩
theorem fl_11_288 : Cond.fieldLink (cNm 11) 288 "SaidWeatherModel" "gets" "I" ∈ lw_good := lw_in 1055 (by decide +kernel) (by decide +kernel)
theorem fo_11_288_11 : fOK 11 288 11 28 0 := ⟨RX11, TX11, 53, tyX11, "SaidWeatherModel", rfl, rfl, by decide, inG11, tyX11_ok, nmX11, fl_11_288, Or.inl rfl, rfl, Or.inl ⟨rfl, by decide⟩⟩
theorem fa_11_288 : ∀ ci ∈ ([11] : List Nat), fOK 11 288 ci 28 0 := List.forall_mem_cons.mpr ⟨fo_11_288_11, fun _ h => absurd h List.not_mem_nil⟩
theorem fl_11_294 : Cond.fieldLink (cNm 11) 294 "SaidWeatherModel" "above" "J" ∈ lw_good := lw_in 1056 (by decide +kernel) (by decide +kernel)
theorem fo_11_294_11 : fOK 11 294 11 29 2 := ⟨RX11, TX11, 53, tyX11, "SaidWeatherModel", rfl, rfl, by decide, inG11, tyX11_ok, nmX11, fl_11_294, Or.inl rfl, rfl, Or.inl ⟨rfl, by decide⟩⟩
theorem fa_11_294 : ∀ ci ∈ ([11] : List Nat), fOK 11 294 ci 29 2 := List.forall_mem_cons.mpr ⟨fo_11_294_11, fun _ h => absurd h List.not_mem_nil⟩
theorem fl_11_297 : Cond.fieldLink (cNm 11) 297 "SaidWeatherModel" "below" "J" ∈ lw_good := lw_in 1057 (by decide +kernel) (by decide +kernel)
theorem fo_11_297_11 : fOK 11 297 11 30 2 := ⟨RX11, TX11, 53, tyX11, "SaidWeatherModel", rfl, rfl, by decide, inG11, tyX11_ok, nmX11, fl_11_297, Or.inl rfl, rfl, Or.inl ⟨rfl, by decide⟩⟩
theorem fa_11_297 : ∀ ci ∈ ([11] : List Nat), fOK 11 297 ci 30 2 := List.forall_mem_cons.mpr ⟨fo_11_297_11, fun _ h => absurd h List.not_mem_nil⟩
theorem fl_11_326 : Cond.fieldLink (cNm 11) 326 "SaidWeatherModel" "right" "I" ∈ lw_good := lw_in 1058 (by decide +kernel) (by decide +kernel)
theorem fo_11_326_11 : fOK 11 326 11 31 0 := ⟨RX11, TX11, 53, tyX11, "SaidWeatherModel", rfl, rfl, by decide, inG11, tyX11_ok, nmX11, fl_11_326, Or.inl rfl, rfl, Or.inl ⟨rfl, by decide⟩⟩
theorem fa_11_326 : ∀ ci ∈ ([11] : List Nat), fOK 11 326 ci 31 0 := List.forall_mem_cons.mpr ⟨fo_11_326_11, fun _ h => absurd h List.not_mem_nil⟩
theorem fl_11_329 : Cond.fieldLink (cNm 11) 329 "SaidWeatherModel" "over" "I" ∈ lw_good := lw_in 1059 (by decide +kernel) (by decide +kernel)
theorem fo_11_329_11 : fOK 11 329 11 32 0 := ⟨RX11, TX11, 53, tyX11, "SaidWeatherModel", rfl, rfl, by decide, inG11, tyX11_ok, nmX11, fl_11_329, Or.inl rfl, rfl, Or.inl ⟨rfl, by decide⟩⟩
theorem fa_11_329 : ∀ ci ∈ ([11] : List Nat), fOK 11 329 ci 32 0 := List.forall_mem_cons.mpr ⟨fo_11_329_11, fun _ h => absurd h List.not_mem_nil⟩
theorem fl_11_335 : Cond.fieldLink (cNm 11) 335 "SaidWeatherModel" "mustMany" "I" ∈ lw_good := lw_in 1063 (by decide +kernel) (by decide +kernel)
theorem fo_11_335_11 : fOK 11 335 11 36 0 := ⟨RX11, TX11, 53, tyX11, "SaidWeatherModel", rfl, rfl, by decide, inG11, tyX11_ok, nmX11, fl_11_335, Or.inl rfl, rfl, Or.inl ⟨rfl, by decide⟩⟩
theorem fa_11_335 : ∀ ci ∈ ([11] : List Nat), fOK 11 335 ci 36 0 := List.forall_mem_cons.mpr ⟨fo_11_335_11, fun _ h => absurd h List.not_mem_nil⟩
theorem fl_11_362 : Cond.fieldLink (cNm 11) 362 "SaidWeatherModel" "bodies" "I" ∈ lw_good := lw_in 1074 (by decide +kernel) (by decide +kernel)
theorem fo_11_362_11 : fOK 11 362 11 47 0 := ⟨RX11, TX11, 53, tyX11, "SaidWeatherModel", rfl, rfl, by decide, inG11, tyX11_ok, nmX11, fl_11_362, Or.inl rfl, rfl, Or.inl ⟨rfl, by decide⟩⟩
theorem fa_11_362 : ∀ ci ∈ ([11] : List Nat), fOK 11 362 ci 47 0 := List.forall_mem_cons.mpr ⟨fo_11_362_11, fun _ h => absurd h List.not_mem_nil⟩
theorem fl_11_368 : Cond.fieldLink (cNm 11) 368 "SaidWeatherModel" "number" "I" ∈ lw_good := lw_in 1071 (by decide +kernel) (by decide +kernel)
theorem fo_11_368_11 : fOK 11 368 11 44 0 := ⟨RX11, TX11, 53, tyX11, "SaidWeatherModel", rfl, rfl, by decide, inG11, tyX11_ok, nmX11, fl_11_368, Or.inl rfl, rfl, Or.inl ⟨rfl, by decide⟩⟩
theorem fa_11_368 : ∀ ci ∈ ([11] : List Nat), fOK 11 368 ci 44 0 := List.forall_mem_cons.mpr ⟨fo_11_368_11, fun _ h => absurd h List.not_mem_nil⟩
theorem fl_11_374 : Cond.fieldLink (cNm 11) 374 "SaidWeatherModel" "kind" "I" ∈ lw_good := lw_in 1070 (by decide +kernel) (by decide +kernel)
theorem fo_11_374_11 : fOK 11 374 11 43 0 := ⟨RX11, TX11, 53, tyX11, "SaidWeatherModel", rfl, rfl, by decide, inG11, tyX11_ok, nmX11, fl_11_374, Or.inl rfl, rfl, Or.inl ⟨rfl, by decide⟩⟩
theorem fa_11_374 : ∀ ci ∈ ([11] : List Nat), fOK 11 374 ci 43 0 := List.forall_mem_cons.mpr ⟨fo_11_374_11, fun _ h => absurd h List.not_mem_nil⟩
theorem fl_11_386 : Cond.fieldLink (cNm 11) 386 "SaidWeatherModel" "own" "I" ∈ lw_good := lw_in 1072 (by decide +kernel) (by decide +kernel)
theorem fo_11_386_11 : fOK 11 386 11 45 0 := ⟨RX11, TX11, 53, tyX11, "SaidWeatherModel", rfl, rfl, by decide, inG11, tyX11_ok, nmX11, fl_11_386, Or.inl rfl, rfl, Or.inl ⟨rfl, by decide⟩⟩
theorem fa_11_386 : ∀ ci ∈ ([11] : List Nat), fOK 11 386 ci 45 0 := List.forall_mem_cons.mpr ⟨fo_11_386_11, fun _ h => absurd h List.not_mem_nil⟩
theorem fl_11_389 : Cond.fieldLink (cNm 11) 389 "SaidWeatherModel" "isParted" "Z" ∈ lw_good := lw_in 1075 (by decide +kernel) (by decide +kernel)
theorem fo_11_389_11 : fOK 11 389 11 48 1 := ⟨RX11, TX11, 53, tyX11, "SaidWeatherModel", rfl, rfl, by decide, inG11, tyX11_ok, nmX11, fl_11_389, Or.inl rfl, rfl, Or.inl ⟨rfl, by decide⟩⟩
theorem fa_11_389 : ∀ ci ∈ ([11] : List Nat), fOK 11 389 ci 48 1 := List.forall_mem_cons.mpr ⟨fo_11_389_11, fun _ h => absurd h List.not_mem_nil⟩
theorem fl_11_407 : Cond.fieldLink (cNm 11) 407 "SaidWeatherModel" "movedTo" "I" ∈ lw_good := lw_in 1078 (by decide +kernel) (by decide +kernel)
theorem fo_11_407_11 : fOK 11 407 11 51 0 := ⟨RX11, TX11, 53, tyX11, "SaidWeatherModel", rfl, rfl, by decide, inG11, tyX11_ok, nmX11, fl_11_407, Or.inl rfl, rfl, Or.inl ⟨rfl, by decide⟩⟩
theorem fa_11_407 : ∀ ci ∈ ([11] : List Nat), fOK 11 407 ci 51 0 := List.forall_mem_cons.mpr ⟨fo_11_407_11, fun _ h => absurd h List.not_mem_nil⟩
theorem fl_11_418 : Cond.fieldLink (cNm 11) 418 "SaidWeatherModel" "isKept" "Z" ∈ lw_good := lw_in 1076 (by decide +kernel) (by decide +kernel)
theorem fo_11_418_11 : fOK 11 418 11 49 1 := ⟨RX11, TX11, 53, tyX11, "SaidWeatherModel", rfl, rfl, by decide, inG11, tyX11_ok, nmX11, fl_11_418, Or.inl rfl, rfl, Or.inl ⟨rfl, by decide⟩⟩
theorem fa_11_418 : ∀ ci ∈ ([11] : List Nat), fOK 11 418 ci 49 1 := List.forall_mem_cons.mpr ⟨fo_11_418_11, fun _ h => absurd h List.not_mem_nil⟩
set_option maxRecDepth 100000 in
theorem fDT_ok : ∀ e ∈ fDT, ∀ ci ∈ e.2.2.1, fOK e.1 e.2.1 ci e.2.2.2.1 e.2.2.2.2 := (List.forall_mem_cons.mpr ⟨fa_0_22, (List.forall_mem_cons.mpr ⟨fa_1_9, (List.forall_mem_cons.mpr ⟨fa_1_15, (List.forall_mem_cons.mpr ⟨fa_1_19, (List.forall_mem_cons.mpr ⟨fa_1_22, (List.forall_mem_cons.mpr ⟨fa_1_28, (List.forall_mem_cons.mpr ⟨fa_1_63, (List.forall_mem_cons.mpr ⟨fa_1_68, (List.forall_mem_cons.mpr ⟨fa_1_86, (List.forall_mem_cons.mpr ⟨fa_1_115, (List.forall_mem_cons.mpr ⟨fa_1_126, (List.forall_mem_cons.mpr ⟨fa_1_129, (List.forall_mem_cons.mpr ⟨fa_2_7, (List.forall_mem_cons.mpr ⟨fa_3_7, (List.forall_mem_cons.mpr ⟨fa_3_34, (List.forall_mem_cons.mpr ⟨fa_4_9, (List.forall_mem_cons.mpr ⟨fa_4_15, (List.forall_mem_cons.mpr ⟨fa_4_18, (List.forall_mem_cons.mpr ⟨fa_4_27, (List.forall_mem_cons.mpr ⟨fa_4_33, (List.forall_mem_cons.mpr ⟨fa_4_36, (List.forall_mem_cons.mpr ⟨fa_5_7, (List.forall_mem_cons.mpr ⟨fa_5_13, (List.forall_mem_cons.mpr ⟨fa_6_9, (List.forall_mem_cons.mpr ⟨fa_6_23, (List.forall_mem_cons.mpr ⟨fa_6_48, (List.forall_mem_cons.mpr ⟨fa_7_9, (List.forall_mem_cons.mpr ⟨fa_7_15, (List.forall_mem_cons.mpr ⟨fa_8_9, (List.forall_mem_cons.mpr ⟨fa_8_15, (List.forall_mem_cons.mpr ⟨fa_8_19, (List.forall_mem_cons.mpr ⟨fa_9_9, (List.forall_mem_cons.mpr ⟨fa_9_15, (List.forall_mem_cons.mpr ⟨fa_9_18, (List.forall_mem_cons.mpr ⟨fa_9_21, (List.forall_mem_cons.mpr ⟨fa_9_24, (List.forall_mem_cons.mpr ⟨fa_9_35, (List.forall_mem_cons.mpr ⟨fa_9_38, (List.forall_mem_cons.mpr ⟨fa_9_44, (List.forall_mem_cons.mpr ⟨fa_9_48, (List.forall_mem_cons.mpr ⟨fa_9_51, (List.forall_mem_cons.mpr ⟨fa_9_54, (List.forall_mem_cons.mpr ⟨fa_9_57, (List.forall_mem_cons.mpr ⟨fa_9_67, (List.forall_mem_cons.mpr ⟨fa_9_70, (List.forall_mem_cons.mpr ⟨fa_9_73, (List.forall_mem_cons.mpr ⟨fa_9_138, (List.forall_mem_cons.mpr ⟨fa_10_10, (List.forall_mem_cons.mpr ⟨fa_10_16, (List.forall_mem_cons.mpr ⟨fa_10_19, (List.forall_mem_cons.mpr ⟨fa_10_25, (List.forall_mem_cons.mpr ⟨fa_10_29, (List.forall_mem_cons.mpr ⟨fa_10_35, (List.forall_mem_cons.mpr ⟨fa_10_39, (List.forall_mem_cons.mpr ⟨fa_10_42, (List.forall_mem_cons.mpr ⟨fa_10_48, (List.forall_mem_cons.mpr ⟨fa_10_52, (List.forall_mem_cons.mpr ⟨fa_10_71, (List.forall_mem_cons.mpr ⟨fa_10_74, (List.forall_mem_cons.mpr ⟨fa_10_81, (List.forall_mem_cons.mpr ⟨fa_10_87, (List.forall_mem_cons.mpr ⟨fa_10_94, (List.forall_mem_cons.mpr ⟨fa_10_101, (List.forall_mem_cons.mpr ⟨fa_10_110, (List.forall_mem_cons.mpr ⟨fa_10_119, (List.forall_mem_cons.mpr ⟨fa_10_140, (List.forall_mem_cons.mpr ⟨fa_10_145, (List.forall_mem_cons.mpr ⟨fa_10_148, (List.forall_mem_cons.mpr ⟨fa_10_155, (List.forall_mem_cons.mpr ⟨fa_10_174, (List.forall_mem_cons.mpr ⟨fa_10_177, (List.forall_mem_cons.mpr ⟨fa_10_180, (List.forall_mem_cons.mpr ⟨fa_10_183, (List.forall_mem_cons.mpr ⟨fa_10_205, (List.forall_mem_cons.mpr ⟨fa_10_251, (List.forall_mem_cons.mpr ⟨fa_10_267, (List.forall_mem_cons.mpr ⟨fa_10_270, (List.forall_mem_cons.mpr ⟨fa_10_287, (List.forall_mem_cons.mpr ⟨fa_10_306, (List.forall_mem_cons.mpr ⟨fa_10_310, (List.forall_mem_cons.mpr ⟨fa_10_313, (List.forall_mem_cons.mpr ⟨fa_10_316, (List.forall_mem_cons.mpr ⟨fa_11_7, (List.forall_mem_cons.mpr ⟨fa_11_13, (List.forall_mem_cons.mpr ⟨fa_11_16, (List.forall_mem_cons.mpr ⟨fa_11_19, (List.forall_mem_cons.mpr ⟨fa_11_22, (List.forall_mem_cons.mpr ⟨fa_11_25, (List.forall_mem_cons.mpr ⟨fa_11_28, (List.forall_mem_cons.mpr ⟨fa_11_31, (List.forall_mem_cons.mpr ⟨fa_11_34, (List.forall_mem_cons.mpr ⟨fa_11_37, (List.forall_mem_cons.mpr ⟨fa_11_40, (List.forall_mem_cons.mpr ⟨fa_11_43, (List.forall_mem_cons.mpr ⟨fa_11_46, (List.forall_mem_cons.mpr ⟨fa_11_49, (List.forall_mem_cons.mpr ⟨fa_11_52, (List.forall_mem_cons.mpr ⟨fa_11_55, (List.forall_mem_cons.mpr ⟨fa_11_58, (List.forall_mem_cons.mpr ⟨fa_11_61, (List.forall_mem_cons.mpr ⟨fa_11_65, (List.forall_mem_cons.mpr ⟨fa_11_68, (List.forall_mem_cons.mpr ⟨fa_11_71, (List.forall_mem_cons.mpr ⟨fa_11_74, (List.forall_mem_cons.mpr ⟨fa_11_77, (List.forall_mem_cons.mpr ⟨fa_11_80, (List.forall_mem_cons.mpr ⟨fa_11_87, (List.forall_mem_cons.mpr ⟨fa_11_91, (List.forall_mem_cons.mpr ⟨fa_11_94, (List.forall_mem_cons.mpr ⟨fa_11_99, (List.forall_mem_cons.mpr ⟨fa_11_102, (List.forall_mem_cons.mpr ⟨fa_11_116, (List.forall_mem_cons.mpr ⟨fa_11_119, (List.forall_mem_cons.mpr ⟨fa_11_123, (List.forall_mem_cons.mpr ⟨fa_11_148, (List.forall_mem_cons.mpr ⟨fa_11_174, (List.forall_mem_cons.mpr ⟨fa_11_177, (List.forall_mem_cons.mpr ⟨fa_11_196, (List.forall_mem_cons.mpr ⟨fa_11_213, (List.forall_mem_cons.mpr ⟨fa_11_261, (List.forall_mem_cons.mpr ⟨fa_11_264, (List.forall_mem_cons.mpr ⟨fa_11_267, (List.forall_mem_cons.mpr ⟨fa_11_288, (List.forall_mem_cons.mpr ⟨fa_11_294, (List.forall_mem_cons.mpr ⟨fa_11_297, (List.forall_mem_cons.mpr ⟨fa_11_326, (List.forall_mem_cons.mpr ⟨fa_11_329, (List.forall_mem_cons.mpr ⟨fa_11_335, (List.forall_mem_cons.mpr ⟨fa_11_362, (List.forall_mem_cons.mpr ⟨fa_11_368, (List.forall_mem_cons.mpr ⟨fa_11_374, (List.forall_mem_cons.mpr ⟨fa_11_386, (List.forall_mem_cons.mpr ⟨fa_11_389, (List.forall_mem_cons.mpr ⟨fa_11_407, (List.forall_mem_cons.mpr ⟨fa_11_418, (fun _ h => absurd h List.not_mem_nil)⟩)⟩)⟩)⟩)⟩)⟩)⟩)⟩)⟩)⟩)⟩)⟩)⟩)⟩)⟩)⟩)⟩)⟩)⟩)⟩)⟩)⟩)⟩)⟩)⟩)⟩)⟩)⟩)⟩)⟩)⟩)⟩)⟩)⟩)⟩)⟩)⟩)⟩)⟩)⟩)⟩)⟩)⟩)⟩)⟩)⟩)⟩)⟩)⟩)⟩)⟩)⟩)⟩)⟩)⟩)⟩)⟩)⟩)⟩)⟩)⟩)⟩)⟩)⟩)⟩)⟩)⟩)⟩)⟩)⟩)⟩)⟩)⟩)⟩)⟩)⟩)⟩)⟩)⟩)⟩)⟩)⟩)⟩)⟩)⟩)⟩)⟩)⟩)⟩)⟩)⟩)⟩)⟩)⟩)⟩)⟩)⟩)⟩)⟩)⟩)⟩)⟩)⟩)⟩)⟩)⟩)⟩)⟩)⟩)⟩)⟩)⟩)⟩)⟩)⟩)⟩)⟩)⟩)⟩)⟩)⟩)⟩)⟩)⟩)⟩)⟩)⟩)⟩)⟩)⟩)⟩)⟩)⟩)⟩)⟩)
def tdv (kind : Nat) : Value := match kind with
  | 0 => .int 0
  | 1 => .int 0
  | 2 => .long 0
  | _ => .null
def nOK (own k ci n : Nat) : Prop := ∃ (C : String) (T : u_T) (ty0 : Nat → FieldType), vwCl[ci]? = some (C, T, n) ∧ n = tN ci ∧ (∀ w ∈ u_ws C T n, w ∈ lw_good) ∧ (∀ j, j < n → parseFieldDescriptor (T j).2.2.1 = some (ty0 j)) ∧ Cond.classLink (cNm own) k C ∈ lw_good ∧ Cond.instantiable C n ∈ lw_good ∧ Cond.initialized C ∈ lw_good ∧ ∀ j, j < n → defaultValue (ty0 j) = tdv ((fKT.getD ci []).getD j 0)
theorem no_10_7 : nOK 10 7 9 15 := ⟨RX9, TX9, tyX9, rfl, rfl, inG9, tyX9_ok, lw_in 83 (by decide +kernel) (by decide +kernel), lw_in 84 (by decide +kernel) (by decide +kernel), lw_in 58 (by decide +kernel) (by decide +kernel), by decide +kernel⟩
theorem no_10_22 : nOK 10 22 1 6 := ⟨RX1, TX1, tyX1, rfl, rfl, inG1, tyX1_ok, lw_in 178 (by decide +kernel) (by decide +kernel), lw_in 179 (by decide +kernel) (by decide +kernel), lw_in 59 (by decide +kernel) (by decide +kernel), by decide +kernel⟩
theorem no_10_45 : nOK 10 45 8 3 := ⟨RX8, TX8, tyX8, rfl, rfl, inG8, tyX8_ok, lw_in 207 (by decide +kernel) (by decide +kernel), lw_in 208 (by decide +kernel) (by decide +kernel), lw_in 60 (by decide +kernel) (by decide +kernel), by decide +kernel⟩
theorem no_10_33 : nOK 10 33 5 2 := ⟨RX5, TX5, tyX5, rfl, rfl, inG5, tyX5_ok, lw_in 205 (by decide +kernel) (by decide +kernel), lw_in 864 (by decide +kernel) (by decide +kernel), lw_in 74 (by decide +kernel) (by decide +kernel), by decide +kernel⟩
theorem no_10_327 : nOK 10 327 2 3 := ⟨RX2, TX2, tyX2, rfl, rfl, inG2, tyX2_ok, lw_in 375 (by decide +kernel) (by decide +kernel), lw_in 376 (by decide +kernel) (by decide +kernel), lw_in 68 (by decide +kernel) (by decide +kernel), by decide +kernel⟩
theorem no_10_329 : nOK 10 329 3 3 := ⟨RX3, TX3, tyX3, rfl, rfl, inG3, tyX3_ok, lw_in 410 (by decide +kernel) (by decide +kernel), lw_in 411 (by decide +kernel) (by decide +kernel), lw_in 69 (by decide +kernel) (by decide +kernel), by decide +kernel⟩
theorem no_10_331 : nOK 10 331 6 3 := ⟨RX6, TX6, tyX6, rfl, rfl, inG6, tyX6_ok, lw_in 420 (by decide +kernel) (by decide +kernel), lw_in 421 (by decide +kernel) (by decide +kernel), lw_in 70 (by decide +kernel) (by decide +kernel), by decide +kernel⟩
theorem no_10_333 : nOK 10 333 0 3 := ⟨RX0, TX0, tyX0, rfl, rfl, inG0, tyX0_ok, lw_in 430 (by decide +kernel) (by decide +kernel), lw_in 431 (by decide +kernel) (by decide +kernel), lw_in 71 (by decide +kernel) (by decide +kernel), by decide +kernel⟩
theorem no_10_335 : nOK 10 335 7 3 := ⟨RX7, TX7, tyX7, rfl, rfl, inG7, tyX7_ok, lw_in 440 (by decide +kernel) (by decide +kernel), lw_in 441 (by decide +kernel) (by decide +kernel), lw_in 72 (by decide +kernel) (by decide +kernel), by decide +kernel⟩
theorem no_10_141 : nOK 10 141 4 3 := ⟨RX4, TX4, tyX4, rfl, rfl, inG4, tyX4_ok, lw_in 450 (by decide +kernel) (by decide +kernel), lw_in 451 (by decide +kernel) (by decide +kernel), lw_in 67 (by decide +kernel) (by decide +kernel), by decide +kernel⟩
theorem no_12_7 : nOK 12 7 10 11 := ⟨RX10, TX10, tyX10, rfl, rfl, inG10, tyX10_ok, lw_in 75 (by decide +kernel) (by decide +kernel), lw_in 76 (by decide +kernel) (by decide +kernel), lw_in 57 (by decide +kernel) (by decide +kernel), by decide +kernel⟩
theorem no_12_10 : nOK 12 10 11 53 := ⟨RX11, TX11, tyX11, rfl, rfl, inG11, tyX11_ok, lw_in 1021 (by decide +kernel) (by decide +kernel), lw_in 1022 (by decide +kernel) (by decide +kernel), lw_in 61 (by decide +kernel) (by decide +kernel), by decide +kernel⟩
theorem nWT_ok : ∀ e ∈ nWT, nOK e.1 e.2.1 e.2.2.1 e.2.2.2 := (List.forall_mem_cons.mpr ⟨no_10_7, (List.forall_mem_cons.mpr ⟨no_10_22, (List.forall_mem_cons.mpr ⟨no_10_45, (List.forall_mem_cons.mpr ⟨no_10_33, (List.forall_mem_cons.mpr ⟨no_10_327, (List.forall_mem_cons.mpr ⟨no_10_329, (List.forall_mem_cons.mpr ⟨no_10_331, (List.forall_mem_cons.mpr ⟨no_10_333, (List.forall_mem_cons.mpr ⟨no_10_335, (List.forall_mem_cons.mpr ⟨no_10_141, (List.forall_mem_cons.mpr ⟨no_12_7, (List.forall_mem_cons.mpr ⟨no_12_10, (fun _ h => absurd h List.not_mem_nil)⟩)⟩)⟩)⟩)⟩)⟩)⟩)⟩)⟩)⟩)⟩)⟩)
def aOK (own k t : Nat) : Prop := t = 3 ∧ Cond.classLink (cNm own) k RX4 ∈ lw_good ∨ t = 4 ∧ Cond.classLink (cNm own) k RX5 ∈ lw_good
theorem ao_9_42 : aOK 9 42 3 := Or.inl ⟨rfl, lw_in 98 (by decide +kernel) (by decide +kernel)⟩
theorem ao_10_33 : aOK 10 33 4 := Or.inr ⟨rfl, lw_in 205 (by decide +kernel) (by decide +kernel)⟩
theorem aNT_ok : ∀ e ∈ aNT, aOK e.1 e.2.1 e.2.2 := (List.forall_mem_cons.mpr ⟨ao_9_42, (List.forall_mem_cons.mpr ⟨ao_10_33, (fun _ h => absurd h List.not_mem_nil)⟩)⟩)
def iOK (own k : Nat) (cis : List Nat) : Prop := ∃ nci : Nat, Cond.classLink (cNm own) k (cNm nci) ∈ lw_good ∧ ∀ ci ∈ ([0, 2, 3, 4, 6, 7] : List Nat), (cis.contains ci = true ∧ (ci = nci ∨ Cond.castable (cNm ci) (cNm nci) ∈ nwC)) ∨ (cis.contains ci = false ∧ (cNm ci, cNm nci) ∈ ncC)
theorem io_10_327 : iOK 10 327 [2, 0] := ⟨2, lw_in 375 (by decide +kernel) (by decide +kernel), by decide +kernel⟩
theorem io_10_329 : iOK 10 329 [3, 6] := ⟨3, lw_in 410 (by decide +kernel) (by decide +kernel), by decide +kernel⟩
theorem io_10_331 : iOK 10 331 [6] := ⟨6, lw_in 420 (by decide +kernel) (by decide +kernel), by decide +kernel⟩
theorem io_10_333 : iOK 10 333 [0] := ⟨0, lw_in 430 (by decide +kernel) (by decide +kernel), by decide +kernel⟩
theorem io_10_335 : iOK 10 335 [7] := ⟨7, lw_in 440 (by decide +kernel) (by decide +kernel), by decide +kernel⟩
theorem iNT_ok : ∀ e ∈ iNT, iOK e.1 e.2.1 e.2.2 := (List.forall_mem_cons.mpr ⟨io_10_327, (List.forall_mem_cons.mpr ⟨io_10_329, (List.forall_mem_cons.mpr ⟨io_10_331, (List.forall_mem_cons.mpr ⟨io_10_333, (List.forall_mem_cons.mpr ⟨io_10_335, (fun _ h => absurd h List.not_mem_nil)⟩)⟩)⟩)⟩)⟩)
theorem tCC_ok : Cond.classLink (cNm tCC.1) tCC.2 "[I" ∈ lw_good := lw_in 97 (by decide +kernel) (by decide +kernel)
theorem arr0_ok : Cond.arrayClass .int ∈ lw_good := lw_in 177 (by decide +kernel) (by decide +kernel)
theorem arr1_ok : Cond.arrayClass .byte ∈ lw_good := lw_in 204 (by decide +kernel) (by decide +kernel)
theorem arr2_ok : Cond.arrayClass .long ∈ lw_good := lw_in 878 (by decide +kernel) (by decide +kernel)
theorem sl_ok : Cond.fieldLink RX10 116 RX10 "LAW_AT_MOST" "[I" ∈ lw_good := lw_in 550 (by decide +kernel) (by decide +kernel)
def kOK (own k : Nat) (v : TV) : Prop := match v with
  | .inl x => Cond.constant (cNm own) k x ∈ lw_good
  | .inr (.inl x) => Cond.constantLong (cNm own) k x ∈ lw_good
  | _ => True
theorem ko_1_43 : kOK 1 43 (.inr (.inr (.inl (some 1000000009)))) := trivial
theorem ko_1_52 : kOK 1 52 (.inr (.inr (.inl (some 1000000013)))) := trivial
theorem ko_1_57 : kOK 1 57 (.inr (.inr (.inl (some 1000000014)))) := trivial
theorem ko_1_74 : kOK 1 74 (.inr (.inr (.inl (some 1000000003)))) := trivial
theorem ko_1_76 : kOK 1 76 (.inr (.inr (.inl (some 1000000004)))) := trivial
theorem ko_1_78 : kOK 1 78 (.inr (.inr (.inl (some 1000000005)))) := trivial
theorem ko_1_80 : kOK 1 80 (.inr (.inr (.inl (some 1000000006)))) := trivial
theorem ko_1_82 : kOK 1 82 (.inr (.inr (.inl (some 1000000007)))) := trivial
theorem ko_1_84 : kOK 1 84 (.inr (.inr (.inl (some 1000000008)))) := trivial
theorem ko_1_119 : kOK 1 119 (.inr (.inr (.inl (some 1000000011)))) := trivial
theorem ko_1_124 : kOK 1 124 (.inr (.inr (.inl (some 1000000012)))) := trivial
theorem ko_1_136 : kOK 1 136 (.inr (.inr (.inl (some 1000000010)))) := trivial
theorem ko_9_144 : kOK 9 144 (.inl (1103515245)) := lw_in 709 (by decide +kernel) (by decide +kernel)
theorem ko_9_175 : kOK 9 175 (.inr (.inl (1000))) := lw_in 794 (by decide +kernel) (by decide +kernel)
theorem ko_10_151 : kOK 10 151 (.inl (100000)) := lw_in 572 (by decide +kernel) (by decide +kernel)
theorem ko_10_221 : kOK 10 221 (.inr (.inl (-1000000000000))) := lw_in 751 (by decide +kernel) (by decide +kernel)
theorem ko_10_234 : kOK 10 234 (.inr (.inl (1000))) := lw_in 789 (by decide +kernel) (by decide +kernel)
theorem ko_10_263 : kOK 10 263 (.inl (-2147483648)) := lw_in 844 (by decide +kernel) (by decide +kernel)
theorem ko_11_97 : kOK 11 97 (.inr (.inl (255))) := lw_in 1194 (by decide +kernel) (by decide +kernel)
theorem ko_11_126 : kOK 11 126 (.inr (.inl (27))) := lw_in 1213 (by decide +kernel) (by decide +kernel)
theorem ko_11_128 : kOK 11 128 (.inr (.inl (96))) := lw_in 1214 (by decide +kernel) (by decide +kernel)
theorem ko_11_130 : kOK 11 130 (.inr (.inl (-1))) := lw_in 1215 (by decide +kernel) (by decide +kernel)
theorem ko_11_132 : kOK 11 132 (.inr (.inl (10135440))) := lw_in 1262 (by decide +kernel) (by decide +kernel)
theorem ko_11_138 : kOK 11 138 (.inr (.inl (2690359))) := lw_in 1263 (by decide +kernel) (by decide +kernel)
theorem ko_11_140 : kOK 11 140 (.inr (.inl (237470))) := lw_in 1264 (by decide +kernel) (by decide +kernel)
theorem ko_11_142 : kOK 11 142 (.inr (.inl (389777))) := lw_in 1265 (by decide +kernel) (by decide +kernel)
theorem ko_11_144 : kOK 11 144 (.inr (.inl (1065))) := lw_in 1266 (by decide +kernel) (by decide +kernel)
theorem ko_11_146 : kOK 11 146 (.inr (.inl (404923))) := lw_in 1267 (by decide +kernel) (by decide +kernel)
theorem ko_11_161 : kOK 11 161 (.inr (.inl (12532058))) := lw_in 1233 (by decide +kernel) (by decide +kernel)
theorem ko_11_167 : kOK 11 167 (.inr (.inl (411))) := lw_in 1238 (by decide +kernel) (by decide +kernel)
theorem ko_11_169 : kOK 11 169 (.inr (.inl (380741))) := lw_in 1239 (by decide +kernel) (by decide +kernel)
theorem ko_11_184 : kOK 11 184 (.inr (.inl (2968))) := lw_in 1220 (by decide +kernel) (by decide +kernel)
theorem ko_11_189 : kOK 11 189 (.inr (.inl (374953))) := lw_in 1248 (by decide +kernel) (by decide +kernel)
theorem ko_11_194 : kOK 11 194 (.inr (.inl (10634))) := lw_in 1257 (by decide +kernel) (by decide +kernel)
theorem ko_11_256 : kOK 11 256 (.inl (100000)) := lw_in 1353 (by decide +kernel) (by decide +kernel)
theorem ko_11_283 : kOK 11 283 (.inl (1103515245)) := lw_in 1406 (by decide +kernel) (by decide +kernel)
theorem ko_11_314 : kOK 11 314 (.inr (.inl (-1000000000000))) := lw_in 1438 (by decide +kernel) (by decide +kernel)
theorem ko_11_324 : kOK 11 324 (.inr (.inl (1000))) := lw_in 1463 (by decide +kernel) (by decide +kernel)
theorem ko_11_344 : kOK 11 344 (.inl (-2147483648)) := lw_in 1500 (by decide +kernel) (by decide +kernel)
theorem ko_11_351 : kOK 11 351 (.inr (.inl (99))) := lw_in 1520 (by decide +kernel) (by decide +kernel)
theorem ko_12_13 : kOK 12 13 (.inr (.inl (4294967295))) := lw_in 1620 (by decide +kernel) (by decide +kernel)
theorem kNT_ok : ∀ e ∈ kNT, kOK e.1 e.2.1 e.2.2 := (List.forall_mem_cons.mpr ⟨ko_1_43, (List.forall_mem_cons.mpr ⟨ko_1_52, (List.forall_mem_cons.mpr ⟨ko_1_57, (List.forall_mem_cons.mpr ⟨ko_1_74, (List.forall_mem_cons.mpr ⟨ko_1_76, (List.forall_mem_cons.mpr ⟨ko_1_78, (List.forall_mem_cons.mpr ⟨ko_1_80, (List.forall_mem_cons.mpr ⟨ko_1_82, (List.forall_mem_cons.mpr ⟨ko_1_84, (List.forall_mem_cons.mpr ⟨ko_1_119, (List.forall_mem_cons.mpr ⟨ko_1_124, (List.forall_mem_cons.mpr ⟨ko_1_136, (List.forall_mem_cons.mpr ⟨ko_9_144, (List.forall_mem_cons.mpr ⟨ko_9_175, (List.forall_mem_cons.mpr ⟨ko_10_151, (List.forall_mem_cons.mpr ⟨ko_10_221, (List.forall_mem_cons.mpr ⟨ko_10_234, (List.forall_mem_cons.mpr ⟨ko_10_263, (List.forall_mem_cons.mpr ⟨ko_11_97, (List.forall_mem_cons.mpr ⟨ko_11_126, (List.forall_mem_cons.mpr ⟨ko_11_128, (List.forall_mem_cons.mpr ⟨ko_11_130, (List.forall_mem_cons.mpr ⟨ko_11_132, (List.forall_mem_cons.mpr ⟨ko_11_138, (List.forall_mem_cons.mpr ⟨ko_11_140, (List.forall_mem_cons.mpr ⟨ko_11_142, (List.forall_mem_cons.mpr ⟨ko_11_144, (List.forall_mem_cons.mpr ⟨ko_11_146, (List.forall_mem_cons.mpr ⟨ko_11_161, (List.forall_mem_cons.mpr ⟨ko_11_167, (List.forall_mem_cons.mpr ⟨ko_11_169, (List.forall_mem_cons.mpr ⟨ko_11_184, (List.forall_mem_cons.mpr ⟨ko_11_189, (List.forall_mem_cons.mpr ⟨ko_11_194, (List.forall_mem_cons.mpr ⟨ko_11_256, (List.forall_mem_cons.mpr ⟨ko_11_283, (List.forall_mem_cons.mpr ⟨ko_11_314, (List.forall_mem_cons.mpr ⟨ko_11_324, (List.forall_mem_cons.mpr ⟨ko_11_344, (List.forall_mem_cons.mpr ⟨ko_11_351, (List.forall_mem_cons.mpr ⟨ko_12_13, (fun _ h => absurd h List.not_mem_nil)⟩)⟩)⟩)⟩)⟩)⟩)⟩)⟩)⟩)⟩)⟩)⟩)⟩)⟩)⟩)⟩)⟩)⟩)⟩)⟩)⟩)⟩)⟩)⟩)⟩)⟩)⟩)⟩)⟩)⟩)⟩)⟩)⟩)⟩)⟩)⟩)⟩)⟩)⟩)⟩)⟩)
