/-! THE CLERK, 1: words of a tape, as numbers alone -/
def kls (v : Nat) : Nat := if 97 ≤ v ∧ v ≤ 122 then 1 else if 48 ≤ v ∧ v ≤ 57 then 2 else 3
def adv (P : Nat → Bool) : Nat → Nat → Nat
  | 0, i => i
  | k + 1, i => if P i = true then adv P k (i + 1) else i
theorem adv_le {P : Nat → Bool} : ∀ (k i : Nat), i ≤ adv P k i ∧ adv P k i ≤ i + k
  | 0, i => ⟨Nat.le_refl _, Nat.le_refl _⟩
  | k + 1, i => by
    rw [adv]
    by_cases q : P i = true
    · rw [if_pos q]
      have := adv_le (P := P) k (i + 1)
      omega
    · rw [if_neg q]; omega
theorem adv_in {P : Nat → Bool} : ∀ (k i j : Nat), i ≤ j → j < adv P k i → P j = true
  | 0, i, j, h1, h2 => by rw [adv] at h2; omega
  | k + 1, i, j, h1, h2 => by
    rw [adv] at h2
    by_cases q : P i = true
    · rw [if_pos q] at h2
      by_cases e : j = i
      · rw [e]; exact q
      · exact adv_in k (i + 1) j (by omega) h2
    · rw [if_neg q] at h2; omega
theorem adv_st {P : Nat → Bool} : ∀ (k i : Nat), adv P k i < i + k → P (adv P k i) = false
  | 0, i, h => by rw [adv] at h; omega
  | k + 1, i, h => by
    rw [adv] at h ⊢
    by_cases q : P i = true
    · rw [if_pos q] at h ⊢
      exact adv_st k (i + 1) (by omega)
    · rw [if_neg q]
      simpa using q
/-- blanks go by; a word's sort (0: the end); where it ends; the next one -/
def tks (n : Nat) (tp : Nat → Nat) (p : Nat) : Nat := adv (fun i => decide (tp i = 32)) (n - p) p
def tko (n : Nat) (tp : Nat → Nat) (q : Nat) : Nat := if q < n then kls (tp q) else 0
def tke (n : Nat) (tp : Nat → Nat) (q : Nat) : Nat := if q < n then (if kls (tp q) = 3 then q + 1 else adv (fun i => decide (kls (tp i) = kls (tp q))) (n - (q + 1)) (q + 1)) else q
def nx (n : Nat) (tp : Nat → Nat) (q : Nat) : Nat := tks n tp (tke n tp q)
section S98k
variable {n q k p j i v : Nat} {tp : Nat → Nat}
theorem kls_in (v : Nat) : kls v = 1 ∨ kls v = 2 ∨ kls v = 3 := by
  unfold kls
  by_cases a : 97 ≤ v ∧ v ≤ 122
  · rw [if_pos a]; exact Or.inl rfl
  · rw [if_neg a]
    by_cases b : 48 ≤ v ∧ v ≤ 57
    · rw [if_pos b]; exact Or.inr (Or.inl rfl)
    · rw [if_neg b]; exact Or.inr (Or.inr rfl)
theorem kls_1 (h : kls v = 1) : 97 ≤ v ∧ v ≤ 122 := by
  unfold kls at h
  by_cases a : 97 ≤ v ∧ v ≤ 122
  · exact a
  · rw [if_neg a] at h
    by_cases b : 48 ≤ v ∧ v ≤ 57
    · rw [if_pos b] at h; exact absurd h (by decide)
    · rw [if_neg b] at h; exact absurd h (by decide)
theorem kls_2 (h : kls v = 2) : 48 ≤ v ∧ v ≤ 57 := by
  unfold kls at h
  by_cases a : 97 ≤ v ∧ v ≤ 122
  · rw [if_pos a] at h; exact absurd h (by decide)
  · rw [if_neg a] at h
    by_cases b : 48 ≤ v ∧ v ≤ 57
    · exact b
    · rw [if_neg b] at h; exact absurd h (by decide)
theorem tko_lt (h : tko n tp q = 1 ∨ tko n tp q = 2 ∨ tko n tp q = 3) : q < n := by
  unfold tko at h
  by_cases a : q < n
  · exact a
  · rw [if_neg a] at h; omega
theorem tko_kls (h : q < n) : tko n tp q = kls (tp q) := if_pos h
theorem tko_4 : tko n tp q < 4 := by
  unfold tko
  by_cases a : q < n
  · rw [if_pos a]; have := kls_in (tp q); omega
  · rw [if_neg a]; decide
theorem tko_0 (h : ¬ q < n) : tko n tp q = 0 := if_neg h
theorem tks_ge : p ≤ tks n tp p := (adv_le _ _).1
theorem tks_le (h : p ≤ n) : tks n tp p ≤ n := by
  have := (adv_le (P := fun i => decide (tp i = 32)) (n - p) p).2
  unfold tks
  omega
theorem tke_le (h : q ≤ n) : tke n tp q ≤ n := by
  unfold tke
  by_cases a : q < n
  · rw [if_pos a]
    by_cases b : kls (tp q) = 3
    · rw [if_pos b]; omega
    · rw [if_neg b]
      have := (adv_le (P := fun i => decide (kls (tp i) = kls (tp q))) (n - (q + 1)) (q + 1)).2
      omega
  · rw [if_neg a]; exact h
theorem tke_lt (h : q < n) : q < tke n tp q := by
  unfold tke
  rw [if_pos h]
  by_cases b : kls (tp q) = 3
  · rw [if_pos b]; omega
  · rw [if_neg b]
    have := (adv_le (P := fun i => decide (kls (tp i) = kls (tp q))) (n - (q + 1)) (q + 1)).1
    omega
theorem tke_ge : q ≤ tke n tp q := by
  by_cases h : q < n
  · exact Nat.le_of_lt (tke_lt h)
  · unfold tke; rw [if_neg h]; exact Nat.le_refl _
theorem nx_le (h : q ≤ n) : nx n tp q ≤ n := tks_le (tke_le h)
theorem nx_ge : q ≤ nx n tp q := Nat.le_trans tke_ge tks_ge
theorem nx_lt (h : q < n) : q < nx n tp q := Nat.lt_of_lt_of_le (tke_lt h) tks_ge
/-- within a word all are of its sort; behind it they aren't -/
theorem tok_in (h : q < n) (h3 : ¬ kls (tp q) = 3) (h1 : q ≤ i) (h2 : i < tke n tp q) : kls (tp i) = kls (tp q) := by
  unfold tke at h2
  rw [if_pos h, if_neg h3] at h2
  by_cases e : i = q
  · rw [e]
  · exact of_decide_eq_true (adv_in _ _ i (by omega) h2)
theorem tok_end (h : q < n) (h3 : ¬ kls (tp q) = 3) (h2 : tke n tp q < n) : ¬ kls (tp (tke n tp q)) = kls (tp q) := by
  have e : tke n tp q = adv (fun i => decide (kls (tp i) = kls (tp q))) (n - (q + 1)) (q + 1) := by
    unfold tke
    rw [if_pos h, if_neg h3]
  have l := tke_lt (tp := tp) h
  rw [e] at h2 l ⊢
  have z : decide (kls (tp (adv (fun i => decide (kls (tp i) = kls (tp q))) (n - (q + 1)) (q + 1))) = kls (tp q)) = false := adv_st (P := fun i => decide (kls (tp i) = kls (tp q))) (n - (q + 1)) (q + 1) (by omega)
  exact of_decide_eq_false z
theorem tok_tko (h : q < n) (h3 : ¬ kls (tp q) = 3) : ¬ tko n tp (tke n tp q) = kls (tp q) := by
  by_cases h2 : tke n tp q < n
  · rw [tko_kls h2]; exact tok_end h h3 h2
  · rw [tko_0 h2]; have := kls_in (tp q); omega
/-! names -/
def nmT : List (List Nat) := [[115, 97, 121, 101, 114], [101, 97, 114, 108, 121], [108, 97, 116, 101], [115, 117, 114, 101], [97, 108, 108], [116, 111, 108, 100], [100, 97, 121], [119, 111, 114, 116, 104], [111, 102], [115, 105, 103, 110], [115, 97, 105, 100], [110, 111, 119]]
def nmj (j : Nat) : List Nat := nmT.getD j []
def nmi (l : List Nat) : Nat := if l = nmj 0 then 0 else if l = nmj 1 then 1 else if l = nmj 2 then 2 else if l = nmj 3 then 3 else if l = nmj 4 then 4 else if l = nmj 5 then 5 else if l = nmj 6 then 6 else if l = nmj 7 then 7 else if l = nmj 8 then 8 else if l = nmj 9 then 9 else if l = nmj 10 then 10 else if l = nmj 11 then 11 else 12
theorem nmi_at : ∀ j, j < 12 → nmi (nmj j) = j := by decide
theorem nmi_iff {l : List Nat} (hj : j < 12) : nmi l = j ↔ l = nmj j := by
  constructor
  · intro h
    unfold nmi at h
    (repeat' split at h)
    all_goals first | (subst h; assumption) | omega
  · rintro rfl
    exact nmi_at j hj
def wdl (n : Nat) (tp : Nat → Nat) (q : Nat) : List Nat := (List.range (tke n tp q - q)).map (fun i => tp (q + i))
def tkn (n : Nat) (tp : Nat → Nat) (q : Nat) : Nat := if tko n tp q = 1 then nmi (wdl n tp q) else 12
def nmf (j i : Nat) : Nat := (nmj j).getD i 0
def nml (j : Nat) : Nat := (nmj j).length
theorem wdl_iff : wdl n tp q = nmj j ↔ (tke n tp q - q = nml j ∧ ∀ i, i < nml j → tp (q + i) = nmf j i) := by
  constructor
  · intro h
    have hl := congrArg List.length h
    unfold wdl at hl
    rw [List.length_map, List.length_range] at hl
    refine ⟨hl, fun i hi => ?_⟩
    have hg := congrArg (fun l => l.getD i 0) h
    have hi' : i < tke n tp q - q := by rw [hl]; exact hi
    simp only [wdl, List.getD_eq_getElem?_getD, List.getElem?_map, List.getElem?_range hi', Option.map_some, Option.getD_some] at hg
    rw [hg, nmf, List.getD_eq_getElem?_getD]
  · rintro ⟨h1, h2⟩
    apply List.ext_getElem
    · unfold wdl; rw [List.length_map, List.length_range]; exact h1
    · intro i a b
      have e : (wdl n tp q)[i] = tp (q + i) := by simp [wdl]
      rw [e, h2 i b, nmf, List.getD_eq_getElem?_getD, List.getElem?_eq_getElem b, Option.getD_some]
theorem tkn_iff (hj : j < 12) : tkn n tp q = j ↔ (tko n tp q = 1 ∧ tke n tp q - q = nml j ∧ ∀ i, i < nml j → tp (q + i) = nmf j i) := by
  unfold tkn
  by_cases h : tko n tp q = 1
  · rw [if_pos h, nmi_iff hj, wdl_iff]
    exact ⟨fun z => ⟨h, z⟩, fun z => z.2⟩
  · rw [if_neg h]
    exact ⟨fun z => by omega, fun z => absurd z.1 h⟩
theorem tkn_12 : tkn n tp q ≤ 12 := by
  unfold tkn
  by_cases h : tko n tp q = 1
  · rw [if_pos h]
    unfold nmi
    (repeat' split) <;> omega
  · rw [if_neg h]; exact Nat.le_refl _
theorem nml_5 : ∀ j, j < 12 → 2 ≤ nml j ∧ nml j ≤ 5 := by decide
theorem nmf_in : ∀ j, j < 12 → ∀ i, i < nml j → 97 ≤ nmf j i ∧ nmf j i ≤ 122 := by decide
/-! numbers -/
def num (n : Nat) (tp : Nat → Nat) (q : Nat) : Nat := if tko n tp q = 2 then (if tke n tp q = q + 1 then tp q - 48 else if tke n tp q = q + 2 then 10 * (tp q - 48) + (tp (q + 1) - 48) else 1000) else 1000
theorem num_in : (tko n tp q = 2 ∧ num n tp q < 100) ∨ num n tp q = 1000 := by
  unfold num
  by_cases h : tko n tp q = 2
  · rw [if_pos h]
    have hq := tko_lt (Or.inr (Or.inl h))
    have hk : kls (tp q) = 2 := by rw [← tko_kls hq]; exact h
    have b0 := kls_2 hk
    by_cases e1 : tke n tp q = q + 1
    · rw [if_pos e1]; exact Or.inl ⟨h, by omega⟩
    · rw [if_neg e1]
      by_cases e2 : tke n tp q = q + 2
      · rw [if_pos e2]
        have := tok_in (tp := tp) hq (by omega) (show q ≤ q + 1 by omega) (by omega)
        have b1 := kls_2 (this.trans hk)
        exact Or.inl ⟨h, by omega⟩
      · rw [if_neg e2]; exact Or.inr rfl
  · rw [if_neg h]; exact Or.inr rfl
/-! words as longs -/
def encF (f : Nat → Nat) (a : Nat) : Nat → Nat
  | 0 => 0
  | k + 1 => 27 * encF f a k + (f (a + k) - 96)
theorem encF_inj {f g : Nat → Nat} {a b : Nat} : ∀ (k l : Nat), (∀ i, i < k → 97 ≤ f (a + i) ∧ f (a + i) ≤ 122) → (∀ i, i < l → 97 ≤ g (b + i) ∧ g (b + i) ≤ 122) → encF f a k = encF g b l → k = l ∧ ∀ i, i < k → f (a + i) = g (b + i)
  | 0, 0, _, _, _ => ⟨rfl, fun i hi => by omega⟩
  | 0, l + 1, _, h2, h => by
    have := h2 l (by omega)
    rw [encF, encF] at h
    omega
  | k + 1, 0, h1, _, h => by
    have := h1 k (by omega)
    rw [encF, encF] at h
    omega
  | k + 1, l + 1, h1, h2, h => by
    have x1 := h1 k (by omega)
    have x2 := h2 l (by omega)
    rw [encF, encF] at h
    have e1 : encF f a k = encF g b l := by omega
    have e2 : f (a + k) = g (b + l) := by omega
    obtain ⟨r1, r2⟩ := encF_inj k l (fun i hi => h1 i (by omega)) (fun i hi => h2 i (by omega)) e1
    subst r1
    refine ⟨rfl, fun i hi => ?_⟩
    by_cases e : i = k
    · rw [e]; exact e2
    · exact r2 i (by omega)
theorem encF_lt {f : Nat → Nat} {a : Nat} : ∀ (k : Nat), (∀ i, i < k → f (a + i) ≤ 122) → encF f a k < 27 ^ k
  | 0, _ => Nat.zero_lt_one
  | k + 1, h => by
    have := encF_lt k (fun i hi => h i (by omega))
    have x := h k (by omega)
    rw [encF, Nat.pow_succ]
    omega
end S98k
