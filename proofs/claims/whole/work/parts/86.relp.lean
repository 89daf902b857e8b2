/-! WHAT HOLDS BETWEEN TWO CALLS -/
def rS (q : Nat) (D : TH) : Prop := 70 ≤ D.2.1 ∧ D.2.1 ≤ 70 + 10 * q ∧ D.2.2 ≤ 10000 + 100 * q ∧ ∀ k, D.2.1 ≤ k → D.1 k = none
def okS (D : TH) (o kd i a : Nat) : Prop := 70 ≤ o ∧ o < D.2.1 ∧ isS D o kd i a
def rY (D : TH) (y : Nat → Option Nat) : Prop := ∀ i, i < 5 → y i = none ∨ ∃ o kd nu a, y i = some o ∧ okS D o kd nu a
/-- a World and the Model's days, sayers, sayings -/
def rW (D : TH) (f : Nat → Int32) (g : Nat → Nat → Int32) (y : Nat → Option Nat) (s : Int32) (M : Nat → Nat → Int32) : Prop := ∃ t n c, t ≤ 20 ∧ n ≤ 5 ∧ f 6 = nI t ∧ M 0 0 = nI t ∧ f 7 = M 0 1 ∧ f 10 = nI n ∧ s = nI n ∧ f 14 = nI c ∧ RT g M ∧ RD n 0 c g M ∧ (∀ i, i < n → ∃ o kd a, y i = some o ∧ okS D o kd i a ∧ M 5 (2 * i) = nI kd ∧ M 5 (2 * i + 1) = nI a)
def MK (r : Nat → Int32) : Nat → Nat → Int32 := fun s k => match s with
  | 0 => r (1 + k)
  | 2 => r (169 + k)
  | 3 => r (189 + k)
  | 5 => r (269 + k)
  | 6 => r (279 + k)
  | _ => 0
def rK (D : TH) (x : Nat → Int32) (c : WS) (F : Nat → Int32) (M : Nat → Nat → Int32) : Prop := x 3 = F 49 ∧ (x 3 = 0 ∨ x 3 = 1) ∧ (x 3 = 1 → rW D c.1 c.2.1 c.2.2 (M 50 0) (MK (M 50)))
def rR (x : Nat → Int32) (G : Nat → Nat → Int32) (F : Nat → Int32) (M : Nat → Nat → Int32) : Prop := ∃ n, n ≤ 20 ∧ x 6 = nI n ∧ F 35 = nI n ∧ ∀ k, k < 3 * n → G 0 k = M 33 k
def rP (cf : Nat → Int32) (cg : Nat → Nat → Int32) (F : Nat → Int32) (M : Nat → Nat → Int32) : Prop := ∃ n, n ≤ 240 ∧ cf 1 = nI n ∧ F 9 = nI n ∧ ∀ k, k < n → ∃ v, v < 256 ∧ M 8 k = nI v ∧ cg 0 k = (nI v).toInt8.toInt32
/-- a sheet: its sort, how many, what it holds -/
def shO (D : TH) (o s n : Nat) (v : Nat → Int64) : Prop := 70 ≤ o ∧ o + 1 < D.2.1 ∧ s < 4 ∧ n ≤ 40 ∧ (∃ fs : Nat → TV, D.1 o = some (.inr (5, fs)) ∧ fs 0 = vI (nI s) ∧ fs 1 = vR (some (o + 1))) ∧ D.1 (o + 1) = some (.inl (2, n, .inr (.inl v)))
def rH (D : TH) (Y : Nat → Nat → Option Nat) (M : Nat → Nat → Int32) (U : Nat → Nat → Int64) : Prop := (∀ i, i < 4 → (Y 0 i = none ∧ M 37 i = -1) ∨ ∃ o s n v, Y 0 i = some o ∧ shO D o s n v ∧ M 37 i = nI s ∧ M 38 i = nI n ∧ ∀ k, k < n → v k = U 39 (40 * i + k) ∧ ∃ z : Int32, v k = z.toInt64) ∧ (∀ i j o, i < 4 → j < 4 → i ≠ j → Y 0 i = some o → Y 0 j = some o → False)
def rL (D : TH) (G : Nat → Nat → Int32) (Y : Nat → Nat → Option Nat) (M : Nat → Nat → Int32) : Prop := ∀ i, i < 4 → (G 1 i = -1 ∧ Y 1 i = none ∧ M 40 i = -1) ∨ (∃ q, q < 5 ∧ G 1 i = nI q ∧ Y 1 i = none ∧ M 40 i = 0 ∧ M 41 i = nI q) ∨ (∃ o s n v, G 1 i = -1 ∧ Y 1 i = some o ∧ shO D o s n v ∧ M 40 i = 1 ∧ M 41 i = nI s ∧ M 42 i = nI n)
def rB (tf : Nat → Int32) (tg : Nat → Nat → Int32) (F : Nat → Int32) (M : Nat → Nat → Int32) : Prop := ∃ n, n ≤ 30 ∧ tf 1 = nI n ∧ F 47 = nI n ∧ ∀ k, k < n → tg 0 k = M 46 k
def rC (F : Nat → Int32) (M : Nat → Nat → Int32) : Prop := F 1 = nI 0 ∧ M 7 0 = 100 ∧ M 7 1 = 99 ∧ M 7 2 = 99 ∧ M 7 3 = 20
def RelP (q : Nat) (D : TH) (F : Nat → Int32) (M : Nat → Nat → Int32) (U : Nat → Nat → Int64) (x : Nat → Int32) (G : Nat → Nat → Int32) (Y : Nat → Nat → Option Nat) (f : Nat → Int32) (g : Nat → Nat → Int32) (y : Nat → Option Nat) (b c : WS) (cf : Nat → Int32) (cg : Nat → Nat → Int32) (tf : Nat → Int32) (tg : Nat → Nat → Int32) : Prop :=
  rS q D ∧ rC F M ∧ rW D f g y (F 4) M ∧ (rY D y ∧ rY D b.2.2 ∧ rY D c.2.2) ∧ rK D x c F M ∧ rR x G F M ∧ rP cf cg F M ∧ rH D Y M U ∧ rL D G Y M ∧ rB tf tg F M
def Rel (q : Nat) (H : TH) : Prop := ∃ D F E M U x G Y f g y b c cf cg tf tg, H = hX (hM D 45 F E M U) x G Y f g y b c cf cg tf tg ∧ RelP q D F M U x G Y f g y b c cf cg tf tg
/-- a call on both sides: the same answer, and all holds again -/
def Duo (sc : Nat × (Nat → Int32)) (q mx mm : Nat) (ax am : List TV) (H : TH) : Prop := ∃ v H1 H2, (∀ K, tA sc mx 0 ax [] H K = K (some v) H1) ∧ (∀ K, tA sc mm 0 am [] H1 K = K (some v) H2) ∧ Rel (q + 1) H2 ∧ ((q ≤ 64 → H1.1 1000000000 = none) ∧ tcl H1 45 = some 11) ∧ ((mR mx = some .int ∧ ∃ a, v = vI a) ∨ (mR mx = some .long ∧ ∃ a, v = vL a))
section S86
variable {sc : Nat × (Nat → Int32)} {h D D' : TH} {q n k m o mx mm kd i a : Nat} {x x' : Nat → Int32} {G G' : Nat → Nat → Int32} {Y Y' : Nat → Nat → Option Nat} {f f' F F' : Nat → Int32} {g g' M M' : Nat → Nat → Int32} {y y' : Nat → Option Nat} {b c b' c' : WS} {cf cf' tf tf' : Nat → Int32} {cg cg' tg tg' : Nat → Nat → Int32} {v : TV} {E E' : Nat → Int64} {U U' : Nat → Nat → Int64} {ax am : List TV} {K : Option TV → TH → Prop} {z : TC}
theorem mkDuo (hx : ∀ K, tA sc mx 0 ax [] (hX (hM D 45 F E M U) x G Y f g y b c cf cg tf tg) K = K (some v) (hX (hM D' 45 F E M U) x' G' Y' f' g' y' b' c' cf' cg' tf' tg')) (hm : ∀ h K, tA sc mm 0 am [] (hM h 45 F E M U) K = K (some v) (hM h 45 F' E' M' U')) (R : RelP (q + 1) D' F' M' U' x' G' Y' f' g' y' b' c' cf' cg' tf' tg') (hv : (mR mx = some .int ∧ ∃ a, v = vI a) ∨ (mR mx = some .long ∧ ∃ a, v = vL a) := by first | exact Or.inl ⟨rfl, _, rfl⟩ | exact Or.inr ⟨rfl, _, rfl⟩) : Duo sc q mx mm ax am (hX (hM D 45 F E M U) x G Y f g y b c cf cg tf tg) :=
  ⟨v, _, _, hx, fun K => atM hm K, ⟨D', F', E', M', U', x', G', Y', f', g', y', b', c', cf', cg', tf', tg', rfl, R⟩, ⟨fun hq => by rw [HL_off (by decide)]; exact R.1.2.2.2 _ (by have := R.1.2.1; omega), by rw [hXM]; exact hM_cl⟩, hv⟩
theorem rS_up (h : rS q D) : rS (q + 1) D := ⟨h.1, by have := h.2.1; omega, by have := h.2.2.1; omega, h.2.2.2⟩
/-- nothing changes on the class's side -/
theorem mkRO (R : RelP q D F M U x G Y f g y b c cf cg tf tg) (hx : ∀ K, tA sc mx 0 ax [] (hX (hM D 45 F E M U) x G Y f g y b c cf cg tf tg) K = K (some v) (hX (hM D 45 F E M U) x G Y f g y b c cf cg tf tg)) (hm : ∀ h K, tA sc mm 0 am [] (hM h 45 F E M U) K = K (some v) (hM h 45 F' E' M U)) (h1 : F' 1 = F 1) (h4 : F' 4 = F 4) (h9 : F' 9 = F 9) (h35 : F' 35 = F 35) (h47 : F' 47 = F 47) (h49 : F' 49 = F 49) (hv : (mR mx = some .int ∧ ∃ a, v = vI a) ∨ (mR mx = some .long ∧ ∃ a, v = vL a) := by first | exact Or.inl ⟨rfl, _, rfl⟩ | exact Or.inr ⟨rfl, _, rfl⟩) : Duo sc q mx mm ax am (hX (hM D 45 F E M U) x G Y f g y b c cf cg tf tg) := by
  refine mkDuo hx hm ?_ hv
  obtain ⟨p1, p2, p3, p4, p5, p6, p7, p8, p9, p10⟩ := R
  refine ⟨rS_up p1, ?_, ?_, p4, ?_, ?_, ?_, p8, p9, ?_⟩
  · unfold rC; rw [h1]; exact p2
  · rw [h4]; exact p3
  · unfold rK; rw [h49]; exact p5
  · unfold rR; rw [h35]; exact p6
  · unfold rP; rw [h9]; exact p7
  · unfold rB; rw [h47]; exact p10
/-- numbers out of range -/
theorem bad_r {x : Int32} (n : Nat) (h : nI (n + 1) ≤ x) (hn : n + 1 < 2 ^ 31) : (x < 0) = False ∧ (x ≤ nI n) = False ∧ (nI n < x) = True ∧ (nI (n + 1) ≤ x) = True ∧ (0 ≤ x) = True := by
  have h' := h
  rw [Int32.le_iff_toInt_le, nI_toInt hn] at h
  have e0 : (0 : Int32).toInt = 0 := rfl
  refine ⟨eq_false ?_, eq_false ?_, eq_true ?_, eq_true h', eq_true ?_⟩
  · rw [Int32.lt_iff_toInt_lt, e0]; omega
  · rw [Int32.le_iff_toInt_le, nI_toInt (by omega)]; omega
  · rw [Int32.lt_iff_toInt_lt, nI_toInt (by omega)]; omega
  · rw [Int32.le_iff_toInt_le, e0]; omega
theorem bad_l {x : Int32} (h : x < 0) : (x < 0) = True ∧ (0 ≤ x) = False ∧ ∀ n, n < 2 ^ 31 → (nI n ≤ x) = False ∧ (nI n < x) = False ∧ (x ≤ nI n) = True ∧ (x = nI n) = False := by
  have h' := h
  rw [Int32.lt_iff_toInt_lt] at h
  have e0 : (0 : Int32).toInt = 0 := rfl
  rw [e0] at h
  refine ⟨eq_true h', eq_false ?_, fun n hn => ⟨eq_false ?_, eq_false ?_, eq_true ?_, eq_false ?_⟩⟩
  · rw [Int32.le_iff_toInt_le, e0]; omega
  · rw [Int32.le_iff_toInt_le, nI_toInt hn]; omega
  · rw [Int32.lt_iff_toInt_lt, nI_toInt hn]; omega
  · rw [Int32.le_iff_toInt_le, nI_toInt hn]; omega
  · intro e; rw [e, nI_toInt hn] at h; omega
/-- a static of the class: 0 to n - 1 -/
def inB (x n : Int32) : Int32 := if x < 0 then 0 else if n ≤ x then 0 else 1
theorem inB_t (hk : k < n) (hn : n < 2 ^ 31) : inB (nI k) (nI n) = 1 := by
  unfold inB
  rw [if_neg (nI_pos (by omega)), if_neg (nI_ge hk hn)]
theorem inB_f {x : Int32} (h : x < 0 ∨ nI n ≤ x) : inB x (nI n) = 0 := by
  unfold inB
  rcases h with h | h
  · rw [if_pos h]
  · by_cases q : x < 0
    · rw [if_pos q]
    · rw [if_neg q, if_pos h]
theorem inI_t (hk : k ≤ n) (hn : n < 2 ^ 31) : inI (nI k) 0 (nI n) = 1 := by
  unfold inI
  rw [if_neg (nI_pos (by omega)), if_neg (nI_nlt hk hn)]
theorem inI_f {x : Int32} (hn : n + 1 < 2 ^ 31) (h : x < 0 ∨ nI (n + 1) ≤ x) : inI x 0 (nI n) = 0 := by
  unfold inI
  rcases h with h | h
  · rw [if_pos h]
  · rw [if_neg (of_eq_false (bad_r n h hn).1), if_pos (of_eq_true (bad_r n h hn).2.2.1)]
theorem inB_01 (x n : Int32) : (inB x n = 0 ∨ inB x n = 1) = True := by
  apply eq_true
  unfold inB
  by_cases q : x < 0
  · simp [q]
  · by_cases q2 : n ≤ x <;> simp [q, q2]
theorem sX10_isDay {x : Int32} : tA sc iX10_isDay 0 [vI x] [] h K = K (some (vI (inB x 20))) h := by
  simp only [rX10_isDay_0, rX10_isDay_1, rX10_isDay_4, rX10_isDay_5, rX10_isDay_7, rX10_isDay_10, rX10_isDay_11, rX10_isDay_14, rX10_isDay_15]
  unfold inB
  by_cases q : x < 0
  · simp [q]
  · by_cases q2 : 20 ≤ x <;> simp [q, q2]
theorem sX10_isWeather {x : Int32} : tA sc iX10_isWeather 0 [vI x] [] h K = K (some (vI (inB x 4))) h := by
  simp only [rX10_isWeather_0, rX10_isWeather_1, rX10_isWeather_4, rX10_isWeather_5, rX10_isWeather_6, rX10_isWeather_9, rX10_isWeather_10, rX10_isWeather_13, rX10_isWeather_14]
  unfold inB
  by_cases q : x < 0
  · simp [q]
  · by_cases q2 : 4 ≤ x <;> simp [q, q2]
theorem sX10_isKind {x : Int32} : tA sc iX10_isKind 0 [vI x] [] h K = K (some (vI (inB x 6))) h := by
  simp only [rX10_isKind_0, rX10_isKind_1, rX10_isKind_4, rX10_isKind_5, rX10_isKind_7, rX10_isKind_10, rX10_isKind_11, rX10_isKind_14, rX10_isKind_15]
  unfold inB
  by_cases q : x < 0
  · simp [q]
  · by_cases q2 : 6 ≤ x <;> simp [q, q2]
theorem sX10_isSheet {x : Int32} : tA sc iX10_isSheet 0 [vI x] [] h K = K (some (vI (inB x 4))) h := by
  simp only [rX10_isSheet_0, rX10_isSheet_1, rX10_isSheet_4, rX10_isSheet_5, rX10_isSheet_6, rX10_isSheet_9, rX10_isSheet_10, rX10_isSheet_13, rX10_isSheet_14]
  unfold inB
  by_cases q : x < 0
  · simp [q]
  · by_cases q2 : 4 ≤ x <;> simp [q, q2]
theorem sX10_isShelf {x : Int32} : tA sc iX10_isShelf 0 [vI x] [] h K = K (some (vI (inB x 4))) h := by
  simp only [rX10_isShelf_0, rX10_isShelf_1, rX10_isShelf_4, rX10_isShelf_5, rX10_isShelf_6, rX10_isShelf_9, rX10_isShelf_10, rX10_isShelf_13, rX10_isShelf_14]
  unfold inB
  by_cases q : x < 0
  · simp [q]
  · by_cases q2 : 4 ≤ x <;> simp [q, q2]
theorem sX10_isA {x : Int32} : tA sc iX10_isA 0 [vI x] [] h K = K (some (vI (inI x 0 9))) h := by
  simp only [rX10_isA_0, rX10_isA_1, rX10_isA_4, rX10_isA_5, rX10_isA_7, rX10_isA_10, rX10_isA_11, rX10_isA_14, rX10_isA_15]
  unfold inI
  by_cases q : x < 0
  · simp [q]
  · by_cases q2 : 9 < x <;> simp [q, q2]
def isP (x : Int32) : Int32 := if x = 0 then 1 else if x = 1 then 1 else 0
theorem sX10_isPart {x : Int32} : tA sc iX10_isPart 0 [vI x] [] h K = K (some (vI (isP x))) h := by
  simp only [rX10_isPart_0, rX10_isPart_1, rX10_isPart_4, rX10_isPart_5, rX10_isPart_6, rX10_isPart_9, rX10_isPart_10, rX10_isPart_13, rX10_isPart_14]
  unfold isP
  by_cases q : x = 0
  · simp [q]
  · by_cases q2 : x = 1
    · simp [q2]
    · simp [q, q2]
theorem isP_in (x : Int32) : (x = 0 ∨ x = 1) ∧ isP x = 1 ∧ inI x 0 1 = 1 ∨ (isP x = 0 ∧ inI x 0 1 = 0) := by
  rcases nIrange x (show 2 < 2 ^ 31 by decide) with ⟨k, hk, rfl⟩ | hx
  · rcases (show k = 0 ∨ k = 1 by omega) with rfl | rfl
    · exact Or.inl ⟨Or.inl rfl, rfl, rfl⟩
    · exact Or.inl ⟨Or.inr rfl, rfl, rfl⟩
  · refine Or.inr ⟨?_, inI_f (n := 1) (by decide) hx⟩
    unfold isP
    have n0 : ¬ x = 0 := by
      rintro rfl
      rcases hx with h | h
      · exact absurd h (by decide)
      · exact absurd h (by decide)
    have n1 : ¬ x = 1 := by
      rintro rfl
      rcases hx with h | h
      · exact absurd h (by decide)
      · exact absurd h (by decide)
    rw [if_neg n0, if_neg n1]
theorem sX10_orNotYet {x : Int32} : tA sc iX10_orNotYet 0 [vI x] [] h K = K (some (vI (if 0 ≤ x then x else -9))) h := by
  simp only [rX10_orNotYet_0, rX10_orNotYet_1, rX10_orNotYet_4, rX10_orNotYet_6, rX10_orNotYet_9, rX10_orNotYet_10]
  by_cases q : 0 ≤ x <;> simp [q]
end S86
