/-! A WORLD AND THE MODEL'S ROW, SIDE BY SIDE -/
theorem loopR {κ α : Type} (T : κ → Nat → α → Prop) (N : Nat) (I : Nat → α → Prop) (hstep : ∀ i a, i < N → I i a → ∃ a', I (i + 1) a' ∧ ∀ z, T z i a = T z (i + 1) a') : ∀ n i a, i + n = N → I i a → ∃ a', I N a' ∧ ∀ z, T z i a = T z N a' := by
  intro n
  induction n with
  | zero => intro i a h hi; have e : i = N := by omega
            subst e; exact ⟨a, hi, fun _ => rfl⟩
  | succ n ih =>
    intro i a h hi
    obtain ⟨a1, h1, h2⟩ := hstep i a (by omega) hi
    obtain ⟨a2, h3, h4⟩ := ih (i + 1) a1 (by omega) h1
    exact ⟨a2, h3, fun z => (h2 z).trans (h4 z)⟩
theorem of32 (x : Int32) : ∃ n, n < 2 ^ 32 ∧ x = nI n := ⟨x.toBitVec.toNat, x.toBitVec.isLt, Int32.toBitVec_inj.mp (by show _ = BitVec.ofNat 32 _; simp)⟩
theorem lfind_some {P : Nat → Bool} : ∀ (n i k : Nat), lfind P n i = some k → P k = true ∧ i ≤ k ∧ k < i + n
  | 0, _, _, h => by cases h
  | n + 1, i, k, h => by
    rw [lfind] at h
    by_cases q : P i = true
    · rw [if_pos q] at h
      cases h
      exact ⟨q, by omega, by omega⟩
    · rw [if_neg q] at h
      obtain ⟨h1, h2, h3⟩ := lfind_some n (i + 1) k h
      exact ⟨h1, by omega, by omega⟩
theorem lfind_none {P : Nat → Bool} : ∀ (n i : Nat), lfind P n i = none → ∀ k, i ≤ k → k < i + n → P k = false
  | 0, _, _, k, h1, h2 => by omega
  | n + 1, i, h, k, h1, h2 => by
    rw [lfind] at h
    by_cases q : P i = true
    · rw [if_pos q] at h
      cases h
    · rw [if_neg q] at h
      by_cases e : k = i
      · rw [e]; simpa using q
      · exact lfind_none n (i + 1) h k (by omega) (by omega)
theorem lfind_cong {P Q : Nat → Bool} : ∀ (n i : Nat), (∀ k, i ≤ k → k < i + n → P k = Q k) → lfind P n i = lfind Q n i
  | 0, _, _ => rfl
  | n + 1, i, h => by
    rw [lfind, lfind, h i (by omega) (by omega), lfind_cong n (i + 1) (fun k h1 h2 => h k (by omega) (by omega))]
/-- what a morning leaves alone -/
def RT (g M : Nat → Nat → Int32) : Prop :=
  (∀ d, d < 20 → g 0 d = M 2 d ∧ inR (g 0 d) 100) ∧ (∀ k, k < 80 → g 1 k = M 3 k ∧ inR (g 1 k) 10) ∧ (∀ l, l < 4 → g 5 l = M 6 l) ∧ (inR (g 5 0) 101 ∧ inR (g 5 1) 100 ∧ inR (g 5 2) 100 ∧ inR (g 5 3) 21) ∧ (∀ d, d < 20 → ¬ mpl M d = 0)
/-- the Model's row at A holds the World's days, purses and sayings -/
def RD (np A c : Nat) (g M : Nat → Nat → Int32) : Prop :=
  c ≤ 40 ∧ M 0 (A + 2) = nI c ∧
  (∀ d, d < 20 → g 2 d = M 0 (A + (3 + d)) ∧ (g 2 d = -1 ∨ inR (g 2 d) 4)) ∧
  (∀ d, d < 20 → g 3 d = M 0 (A + 23 + d)) ∧
  (∀ s, s < 5 → s < np → g 9 s = M 0 (A + 43 + s)) ∧
  (∀ i, i < c → g 11 i = M 0 (A + 48 + 3 * i) ∧ g 12 i = M 0 (A + 48 + 3 * i + 1) ∧ g 13 i = M 0 (A + 48 + 3 * i + 2)) ∧
  (∀ i, i < c → inR (g 12 i) 20 ∧ inR (g 11 i) 5 ∧ inR (g 13 i) 4) ∧
  (∀ d, d < 20 → g 4 d = msd M A c (nI d)) ∧
  (∀ i j, i < j → j < c → ¬ (g 12 i = g 12 j ∧ g 13 i = g 13 j))
section S79
variable {np A c d k t s a kd nu j i top : Nat} {g M : Nat → Nat → Int32} {f : Nat → Int32} {x : Int32}
theorem RD_ok (hD : RD np A c g M) : wOKs (c, g) := ⟨hD.1, hD.2.2.2.2.2.2.1⟩
theorem waw_m1 : waw g d (-1) = g 1 (4 * d) + g 1 (4 * d + 1) + g 1 (4 * d + 2) + g 1 (4 * d + 3) := by
  have n0 : ¬ nI 0 = -1 := by decide
  have n1 : ¬ nI 1 = -1 := by decide
  have n2 : ¬ nI 2 = -1 := by decide
  have n3 : ¬ nI 3 = -1 := by decide
  simp only [waw, wtw, n0, n1, n2, n3, if_false, Int32.zero_add, Nat.add_zero]
theorem waw_j (hj : j < 4) : waw g d (nI j) = g 1 (4 * d) + g 1 (4 * d + 1) + g 1 (4 * d + 2) + g 1 (4 * d + 3) + g 5 3 := by
  rcases (show j = 0 ∨ j = 1 ∨ j = 2 ∨ j = 3 by omega) with rfl | rfl | rfl | rfl
  · have n1 : ¬ nI 1 = nI 0 := by decide
    have n2 : ¬ nI 2 = nI 0 := by decide
    have n3 : ¬ nI 3 = nI 0 := by decide
    simp only [waw, wtw, n1, n2, n3, if_false, if_true, Int32.zero_add, Nat.add_zero]
    ac_rfl
  · have n1 : ¬ nI 0 = nI 1 := by decide
    have n2 : ¬ nI 2 = nI 1 := by decide
    have n3 : ¬ nI 3 = nI 1 := by decide
    simp only [waw, wtw, n1, n2, n3, if_false, if_true, Int32.zero_add, Nat.add_zero]
    ac_rfl
  · have n1 : ¬ nI 0 = nI 2 := by decide
    have n2 : ¬ nI 1 = nI 2 := by decide
    have n3 : ¬ nI 3 = nI 2 := by decide
    simp only [waw, wtw, n1, n2, n3, if_false, if_true, Int32.zero_add, Nat.add_zero]
    ac_rfl
  · have n1 : ¬ nI 0 = nI 3 := by decide
    have n2 : ¬ nI 1 = nI 3 := by decide
    have n3 : ¬ nI 2 = nI 3 := by decide
    simp only [waw, wtw, n1, n2, n3, if_false, if_true, Int32.zero_add, Nat.add_zero]
    ac_rfl
theorem e_wt (hT : RT g M) (hD : RD np A c g M) (hd : d < 20) (hk : k < 4) : wtw g d k (g 2 d) = mwt M A d k := by
  unfold wtw mwt
  rw [(hT.2.1 (4 * d + k) (by omega)).1, (hD.2.2.1 d hd).1, hT.2.2.1 3 (by decide)]
  by_cases q : nI k = M 0 (A + (3 + d))
  · rw [if_pos q, if_pos q.symm]
  · rw [if_neg q, if_neg (Ne.symm q), Int32.add_zero]
theorem e_pl (hT : RT g M) (hd : d < 20) : waw g d (-1) = mpl M d := by
  rw [waw_m1, (hT.2.1 (4 * d) (by omega)).1, (hT.2.1 (4 * d + 1) (by omega)).1, (hT.2.1 (4 * d + 2) (by omega)).1, (hT.2.1 (4 * d + 3) (by omega)).1]
  rfl
theorem e_plj (hT : RT g M) (hd : d < 20) (hj : j < 4) : waw g d (nI j) = mpl M d + M 6 3 := by
  rw [waw_j hj, (hT.2.1 (4 * d) (by omega)).1, (hT.2.1 (4 * d + 1) (by omega)).1, (hT.2.1 (4 * d + 2) (by omega)).1, (hT.2.1 (4 * d + 3) (by omega)).1, hT.2.2.1 3 (by decide)]
  rfl
theorem e_all (hT : RT g M) (hD : RD np A c g M) (hd : d < 20) : waw g d (g 2 d) = mal M A d := by
  unfold mal
  rw [← (hD.2.2.1 d hd).1]
  rcases (hD.2.2.1 d hd).2 with e | ⟨j, hj, e⟩
  · rw [e, e_pl hT hd, if_pos (by decide), Int32.add_zero]
  · rw [e, e_plj hT hd hj, if_neg (nI_pos (by omega))]
theorem e_wR (hT : RT g M) (hk : k < 80) : inR (M 3 k) 10 := by
  rw [← (hT.2.1 k hk).1]; exact (hT.2.1 k hk).2
theorem e_wtR (hT : RT g M) (hd : d < 20) (hk : k < 4) : inR (mwt M A d k) 30 := by
  obtain ⟨v, hv, ev⟩ := e_wR hT (k := 4 * d + k) (by omega)
  obtain ⟨l, hl, el⟩ := hT.2.2.2.1.2.2.2
  rw [hT.2.2.1 3 (by decide)] at el
  unfold mwt
  rw [ev, el]
  by_cases q : M 0 (A + (3 + d)) = nI k
  · rw [if_pos q, nI_add]; exact ⟨v + l, by omega, rfl⟩
  · rw [if_neg q, Int32.add_zero]; exact ⟨v, by omega, rfl⟩
theorem e_plR (hT : RT g M) (hd : d < 20) : ∃ n, 0 < n ∧ n < 40 ∧ mpl M d = nI n := by
  obtain ⟨v0, h0, e0⟩ := e_wR hT (k := 4 * d) (by omega)
  obtain ⟨v1, h1, e1⟩ := e_wR hT (k := 4 * d + 1) (by omega)
  obtain ⟨v2, h2, e2⟩ := e_wR hT (k := 4 * d + 2) (by omega)
  obtain ⟨v3, h3, e3⟩ := e_wR hT (k := 4 * d + 3) (by omega)
  have hz := hT.2.2.2.2 d hd
  unfold mpl at hz ⊢
  rw [e0, e1, e2, e3, nI_add, nI_add, nI_add] at hz ⊢
  refine ⟨_, ?_, by omega, rfl⟩
  rcases Nat.eq_zero_or_pos (v0 + v1 + v2 + v3) with z | z
  · rw [z] at hz; exact absurd rfl hz
  · exact z
theorem e_alR (hT : RT g M) (hd : d < 20) : ∃ n, 0 < n ∧ n < 60 ∧ mal M A d = nI n := by
  obtain ⟨v, h1, h2, e⟩ := e_plR hT hd
  obtain ⟨l, hl, el⟩ := hT.2.2.2.1.2.2.2
  rw [hT.2.2.1 3 (by decide)] at el
  unfold mal
  rw [e, el]
  by_cases q : M 0 (A + (3 + d)) < 0
  · rw [if_pos q, Int32.add_zero]; exact ⟨v, h1, by omega, rfl⟩
  · rw [if_neg q, nI_add]; exact ⟨v + l, by omega, by omega, rfl⟩
theorem e_lkS (hT : RT g M) (hD : RD np A c g M) (hd : d < 20) : ∀ (n i : Nat) (a : Int32 × Int32 × TV) (b : Nat), i + n ≤ 4 → b < 4 → a.1 = nI b → a.2.1 = mwt M A d b → (lfold (wlkF g d) n i a).1 = nI (lfold (mlkF M A d) n i b)
  | 0, _, _, _, _, _, h, _ => h
  | n + 1, i, a, b, hn, hb, h1, h2 => by
    rw [lfold, lfold]
    apply e_lkS hT hD hd n (i + 1) _ _ (by omega) (mlkF_lt hb (by omega))
    · unfold wlkF mlkF
      rw [e_wt hT hD hd (by omega), h2]
      by_cases q : mwt M A d i ≤ mwt M A d b
      · rw [if_pos q, if_pos q]; exact h1
      · rw [if_neg q, if_neg q]
    · unfold wlkF mlkF
      rw [e_wt hT hD hd (by omega), h2]
      by_cases q : mwt M A d i ≤ mwt M A d b
      · rw [if_pos q, if_pos q]
      · rw [if_neg q, if_neg q]
theorem e_lk (hT : RT g M) (hD : RD np A c g M) (hd : d < 20) : wlkN g d = mlk M A d := by
  have hm : mlk M A d < 4 := mlk_lt
  have : wlk g d = nI (mlk M A d) := by
    unfold wlk mlk
    rw [lfold]
    apply e_lkS hT hD hd 3 1 _ 0 (by omega) (by decide)
    · unfold wlkF
      rw [e_wt hT hD hd (by decide)]
      obtain ⟨v, hv, e⟩ := e_wtR (A := A) hT hd (show 0 < 4 by decide)
      rw [e, if_neg (by rw [Int32.le_iff_toInt_le, nI_toInt (by omega)]; show ¬ ((v : Int) ≤ -1); omega)]
    · unfold wlkF
      rw [e_wt hT hD hd (by decide)]
      obtain ⟨v, hv, e⟩ := e_wtR (A := A) hT hd (show 0 < 4 by decide)
      rw [e, if_neg (by rw [Int32.le_iff_toInt_le, nI_toInt (by omega)]; show ¬ ((v : Int) ≤ -1); omega)]
  unfold wlkN
  rw [this, nI_clamp (by omega)]
/-- sets of weathers, by bits -/
def sdo (p q : Nat → Int32) (s : Int32) (c : Nat) : Int32 := lfold (fun i a => a ||| (if p i = s then 1 <<< (q i &&& 31) else 0)) c 0 0
theorem or_bit : ∀ a, a < 16 → ∀ w, w < 4 → nI a ||| ((1 : Int32) <<< (nI w &&& 31)) = nI (a ||| 2 ^ w) ∧ a ||| 2 ^ w < 16 := by decide +kernel
theorem at_bit : ∀ a, a < 16 → ∀ w, w < 4 → ((((nI a) >>> (nI w &&& 31)) &&& 1 = 1) ↔ a.testBit w = true) := by decide +kernel
theorem sdo_bits (p q : Nat → Int32) (s : Int32) : ∀ c, (∀ i, i < c → inR (q i) 4) → ∃ b, b < 16 ∧ sdo p q s c = nI b ∧ ∀ w, w < 4 → (b.testBit w = true ↔ ∃ i, i < c ∧ p i = s ∧ q i = nI w)
  | 0, _ => ⟨0, by decide, rfl, fun w _ => by simp⟩
  | c + 1, h => by
    obtain ⟨b, hb, e, hw⟩ := sdo_bits p q s c (fun i hi => h i (by omega))
    obtain ⟨v, hv, ev⟩ := h c (by omega)
    have e2 : sdo p q s (c + 1) = sdo p q s c ||| (if p c = s then 1 <<< (q c &&& 31) else 0) := by
      unfold sdo
      rw [lfold_succ, Nat.zero_add]
    rw [e2, e, ev]
    by_cases z : p c = s
    · rw [if_pos z]
      refine ⟨b ||| 2 ^ v, (or_bit b hb v hv).2, (or_bit b hb v hv).1, fun w hw4 => ?_⟩
      rw [Nat.testBit_or, Nat.testBit_two_pow, Bool.or_eq_true, hw w hw4, decide_eq_true_iff]
      constructor
      · rintro (⟨i, h1, h2, h3⟩ | h1)
        · exact ⟨i, by omega, h2, h3⟩
        · exact ⟨c, by omega, z, by rw [ev, h1]⟩
      · rintro ⟨i, h1, h2, h3⟩
        by_cases q : i = c
        · subst q
          rw [ev, nI_eq (by omega) (by omega)] at h3
          exact Or.inr h3
        · exact Or.inl ⟨i, by omega, h2, h3⟩
    · rw [if_neg z]
      refine ⟨b, hb, by simp, fun w hw4 => ?_⟩
      rw [hw w hw4]
      constructor
      · rintro ⟨i, h1, h2, h3⟩
        exact ⟨i, by omega, h2, h3⟩
      · rintro ⟨i, h1, h2, h3⟩
        by_cases q : i = c
        · subst q; exact absurd h2 z
        · exact ⟨i, by omega, h2, h3⟩
theorem msd_sdo (hD : RD np A c g M) (x : Int32) : msd M A c x = sdo (g 12) (g 13) x c := by
  unfold msd sdo
  apply lfold_cong
  intro j b h1 h2
  unfold msdF
  rw [(hD.2.2.2.2.2.1 j (by omega)).2.1, (hD.2.2.2.2.2.1 j (by omega)).2.2]
theorem RD_bits (hD : RD np A c g M) (x : Int32) : ∃ b, b < 16 ∧ msd M A c x = nI b ∧ ∀ w, w < 4 → (b.testBit w = true ↔ ∃ i, i < c ∧ g 12 i = x ∧ g 13 i = nI w) := by
  rw [msd_sdo hD]
  exact sdo_bits _ _ _ c (fun i hi => (hD.2.2.2.2.2.2.1 i hi).2.2)
theorem RD_said (hD : RD np A c g M) (hd : d < 20) (hk : k < 4) : wsaid g d (nI k) = 1 ↔ ∃ i, i < c ∧ g 12 i = nI d ∧ g 13 i = nI k := by
  obtain ⟨b, hb, e, hw⟩ := RD_bits hD (nI d)
  unfold wsaid
  rw [hD.2.2.2.2.2.2.2.1 d hd, e, at_bit b hb k hk, hw k hk]
theorem e_said (hD : RD np A c g M) (hd : d < 20) : wsaid g d x = (msd M A c (nI d) >>> (x &&& 31)) &&& 1 := by
  unfold wsaid
  rw [hD.2.2.2.2.2.2.2.1 d hd]
theorem e_last (hD : RD np A c g M) (h : top < 20) : wlast g t top = mlast M A c t top := by
  unfold wlast mlast
  rw [lfind_cong (Q := fun i => decide (msd M A c (nI (top - i)) = 0)) _ _ (fun k h1 h2 => by rw [hD.2.2.2.2.2.2.2.1 (top - k) (by omega)])]
  generalize lfind (fun i => decide (msd M A c (nI (top - i)) = 0)) (top + 1 - t) 0 = o
  cases o <;> rfl
theorem mlast_open (h : top < 20) (e : mlast M A c t top = nI d) (hd : d < 20) : msd M A c (nI d) = 0 := by
  unfold mlast at e
  split at e
  · rename_i i hi
    have := (lfind_some _ _ _ hi).1
    have e1 := (nI_eq (by omega) (by omega)).mp e
    rw [← e1]
    exact of_decide_eq_true this
  · exact absurd e (by have := nI_pos (n := d) (by omega); intro z; rw [← z] at this; exact this (by decide))
theorem wspk_no (h : wdts g t c kd a = -1) : wspk t kd nu a (c, g) = (c, g) := by
  unfold wspk
  dsimp only
  rw [h, if_pos (by decide)]
theorem wspk_yes (h : wdts g t c kd a = nI d) (hd : d < 20) : wspk t kd nu a (c, g) = lfold (wspkF nu d) (min 4 (wfst g d kd a + min (wbr kd) (40 - c)) - wfst g d kd a) (wfst g d kd a) (c, g) := by
  unfold wspk
  dsimp only
  rw [h, if_neg (nI_pos (by omega)), nI_clamp (by omega)]
theorem mone_40 {y : Int32} : mone M A 40 x y = 0 := by
  unfold mone
  by_cases q : (msd M A 40 x >>> (y &&& 31)) &&& 1 = 1
  · rw [if_pos q]
  · rw [if_neg q, if_pos rfl]
theorem mones_27 {y : Int32} : mones f M A c x y 27 = mone M A c x y := rfl
theorem mones_25 {y : Int32} : mones f M A c x y 25 = x := rfl
theorem mones_26 {y : Int32} : mones f M A c x y 26 = y := rfl
theorem mfs_0 (h : ¬ t = 20) : mfs f M A c t 0 a = upd f 27 0 := if_neg h
theorem mfs_1 (h : ¬ t = 20) : mfs f M A c t 1 a = if mlast M A c t (min 19 (t + a)) < 0 then upd f 27 0 else mones (upd f 27 0) M A c (mlast M A c t (min 19 (t + a))) (nI (mlk M A (mlast M A c t (min 19 (t + a))).toNatClampNeg)) := if_neg h
theorem mfs_2 (h : ¬ t = 20) : mfs f M A c t 2 a = mones (upd f 27 0) M A c (nI t) (nI (mlk M A t)) := if_neg h
theorem mfs_3 (h : ¬ t = 20) : mfs f M A c t 3 a = if 10 * mwt M A t (mlk M A t) < nI a * mal M A t then upd f 27 0 else mones (upd f 27 0) M A c (nI t) (nI (mlk M A t)) := if_neg h
theorem mfs_4 (h : ¬ t = 20) : mfs f M A c t 4 a = if mlast M A c t (min 19 (t + a)) < 0 then upd f 27 0 else upd (mones (upd f 27 0) M A c (mlast M A c t (min 19 (t + a))) 0) 27 (nI (min 4 (40 - c))) := if_neg h
theorem mfs_5 (h : ¬ t = 20) : mfs f M A c t 5 a = mones (upd f 27 0) M A c (nI t) (nI (a % 4)) := if_neg h
theorem mfs_20 (h : t = 20) : mfs f M A c t kd a = upd f 27 0 := if_pos h
theorem mfs_40 (hk : kd < 6) : mfs f M A 40 t kd a 27 = nI 0 := by
  by_cases q : t = 20
  · rw [mfs_20 q]; rfl
  · rcases (show kd = 0 ∨ kd = 1 ∨ kd = 2 ∨ kd = 3 ∨ kd = 4 ∨ kd = 5 by omega) with rfl | rfl | rfl | rfl | rfl | rfl
    · rw [mfs_0 q]; rfl
    · rw [mfs_1 q]
      split
      · rfl
      · rw [mones_27, mone_40]; rfl
    · rw [mfs_2 q, mones_27, mone_40]; rfl
    · rw [mfs_3 q]
      split
      · rfl
      · rw [mones_27, mone_40]; rfl
    · rw [mfs_4 q]
      split
      · rfl
      · rfl
    · rw [mfs_5 q, mones_27, mone_40]; rfl
theorem z_bit : ∀ w, w < 4 → ¬ ((((0 : Int32)) >>> (nI w &&& 31)) &&& 1 = 1) := by decide
theorem min_1 {F c : Nat} (h : c < 40) (hF : F < 4) : min 4 (F + min 1 (40 - c)) - F = 1 := by omega
/-- a KIND that says one weather of a day, if it was not said -/
theorem e_one (hD : RD np A c g M) (h4 : c < 40) (hd : d < 20) (hk : k < 4) : (wsaid g d (nI k) = 1 ∧ mone M A c (nI d) (nI k) = 0) ∨ (¬ wsaid g d (nI k) = 1 ∧ mone M A c (nI d) (nI k) = 1) := by
  unfold mone
  rw [e_said hD hd]
  by_cases q : (msd M A c (nI d) >>> (nI k &&& 31)) &&& 1 = 1
  · exact Or.inl ⟨q, if_pos q⟩
  · exact Or.inr ⟨q, by rw [if_neg q, if_neg (by omega)]⟩
theorem wfst_k (h4 : kd ≠ 4) : wbr kd = 1 := if_neg h4
theorem e_spk (hT : RT g M) (hD : RD np A c g M) (ht : t < 20) (hkd : kd < 6) (ha : a < 10) : ∃ n D F, D < 20 ∧ F + n ≤ 4 ∧ c + n ≤ 40 ∧ wspk t kd nu a (c, g) = lfold (wspkF nu D) n F (c, g) ∧ mfs f M A c t kd a 27 = nI n ∧ (0 < n → mfs f M A c t kd a 25 = nI D ∧ mfs f M A c t kd a 26 = nI F) ∧ (∀ j, F ≤ j → j < F + n → ¬ wsaid g D (nI j) = 1) := by
  have h40 := hD.1
  by_cases q4 : c = 40
  · subst q4
    refine ⟨0, 0, 0, by decide, by decide, by decide, ?_, mfs_40 hkd, fun z => absurd z (by decide), fun j h1 h2 => by omega⟩
    apply wspk_no
    unfold wdts
    rw [if_pos (Or.inr rfl)]
  have hc : c < 40 := by omega
  have hw : wdts g t c kd a = wcho g t kd a := by
    unfold wdts
    rw [if_neg (by omega)]
  have one : ∀ d k, d < 20 → k < 4 → wdts g t c kd a = (if wsaid g d (nI k) = 1 then -1 else nI d) → wfst g d kd a = k → kd ≠ 4 → mfs f M A c t kd a = mones (upd f 27 0) M A c (nI d) (nI k) → ∃ n D F, D < 20 ∧ F + n ≤ 4 ∧ c + n ≤ 40 ∧ wspk t kd nu a (c, g) = lfold (wspkF nu D) n F (c, g) ∧ mfs f M A c t kd a 27 = nI n ∧ (0 < n → mfs f M A c t kd a 25 = nI D ∧ mfs f M A c t kd a 26 = nI F) ∧ (∀ j, F ≤ j → j < F + n → ¬ wsaid g D (nI j) = 1) := by
    intro d k hd hk e1 e2 e3 e4
    rw [e4]
    rcases e_one hD hc hd hk with ⟨z1, z2⟩ | ⟨z1, z2⟩
    · rw [if_pos z1] at e1
      exact ⟨0, 0, 0, by decide, by decide, by omega, wspk_no e1, by rw [mones_27, z2]; rfl, fun z => absurd z (by decide), fun j h1 h2 => by omega⟩
    · rw [if_neg z1] at e1
      refine ⟨1, d, k, hd, by omega, by omega, ?_, by rw [mones_27, z2]; rfl, fun _ => ⟨rfl, rfl⟩, fun j h1 h2 => ?_⟩
      · rw [wspk_yes e1 hd, e2, wfst_k e3, min_1 hc hk]
      · rw [show j = k by omega]; exact z1
  have none : wdts g t c kd a = -1 → mfs f M A c t kd a 27 = nI 0 → ∃ n D F, D < 20 ∧ F + n ≤ 4 ∧ c + n ≤ 40 ∧ wspk t kd nu a (c, g) = lfold (wspkF nu D) n F (c, g) ∧ mfs f M A c t kd a 27 = nI n ∧ (0 < n → mfs f M A c t kd a 25 = nI D ∧ mfs f M A c t kd a 26 = nI F) ∧ (∀ j, F ≤ j → j < F + n → ¬ wsaid g D (nI j) = 1) := fun e1 e2 => ⟨0, 0, 0, by decide, by decide, by omega, wspk_no e1, e2, fun z => absurd z (by decide), fun j h1 h2 => by omega⟩
  have hlk := e_lk hT hD ht
  have hl4 : mlk M A t < 4 := mlk_lt
  have ht20 : ¬ t = 20 := by omega
  rcases (show kd = 0 ∨ kd = 1 ∨ kd = 2 ∨ kd = 3 ∨ kd = 4 ∨ kd = 5 by omega) with rfl | rfl | rfl | rfl | rfl | rfl
  · exact none hw (by rw [mfs_0 ht20]; rfl)
  · have hw : wdts g t c 1 a = mlast M A c t (min 19 (t + a)) := hw.trans (e_last hD (by omega))
    rcases mlast_in (g := M) (A := A) (c := c) (t := t) (top := min 19 (t + a)) (by omega) with q | ⟨d, hd, q⟩
    · exact none (hw.trans q) (by rw [mfs_1 ht20, q]; rfl)
    · have ho := mlast_open (by omega) q hd
      have hl := e_lk hT hD hd
      have hl4 : mlk M A d < 4 := mlk_lt
      refine one d (mlk M A d) hd hl4 ?_ (by rw [wfst_n (by decide) (by decide), hl]) (by decide) ?_
      · rw [if_neg (by rw [e_said hD hd, ho]; exact z_bit _ hl4)]
        exact hw.trans q
      · rw [mfs_1 ht20, q, if_neg (nI_pos (by omega)), nI_clamp (by omega)]
  · refine one t (mlk M A t) ht hl4 ?_ (by rw [wfst_n (by decide) (by decide), hlk]) (by decide) ?_
    · rw [hw, ← hlk]; rfl
    · rw [mfs_2 ht20]
  · have hw : wdts g t c 3 a = if 10 * mwt M A t (mlk M A t) < nI a * mal M A t then -1 else wltd g t := by
      rw [hw, show wcho g t 3 a = (if 10 * wtw g t (wlkN g t) (g 2 t) < nI a * waw g t (g 2 t) then -1 else wltd g t) from rfl, hlk, e_wt hT hD ht hl4, e_all hT hD ht]
    by_cases q : 10 * mwt M A t (mlk M A t) < nI a * mal M A t
    · rw [if_pos q] at hw
      exact none hw (by rw [mfs_3 ht20, if_pos q]; rfl)
    · rw [if_neg q] at hw
      refine one t (mlk M A t) ht hl4 ?_ (by rw [wfst_n (by decide) (by decide), hlk]) (by decide) ?_
      · rw [hw, ← hlk]; rfl
      · rw [mfs_3 ht20, if_neg q]
  · have hw : wdts g t c 4 a = mlast M A c t (min 19 (t + a)) := hw.trans (e_last hD (by omega))
    rcases mlast_in (g := M) (A := A) (c := c) (t := t) (top := min 19 (t + a)) (by omega) with q | ⟨d, hd, q⟩
    · exact none (hw.trans q) (by rw [mfs_4 ht20, q]; rfl)
    · have ho := mlast_open (by omega) q hd
      have em : mfs f M A c t 4 a = upd (mones (upd f 27 0) M A c (nI d) 0) 27 (nI (min 4 (40 - c))) := by
        rw [mfs_4 ht20, q, if_neg (nI_pos (by omega))]
      refine ⟨min 4 (40 - c), d, 0, hd, by omega, by omega, ?_, by rw [em]; rfl, fun _ => by rw [em]; exact ⟨rfl, rfl⟩, fun j h1 h2 => ?_⟩
      · rw [wspk_yes (hw.trans q) hd, wfst_4, show min 4 (0 + min (wbr 4) (40 - c)) - 0 = min 4 (40 - c) by show min 4 (0 + min 4 (40 - c)) - 0 = _; omega]
      · rw [e_said hD hd, ho]; exact z_bit _ (by omega)
  · refine one t (a % 4) ht (by omega) ?_ wfst_5 (by decide) ?_
    · rw [hw]; rfl
    · rw [mfs_5 ht20]
end S79
