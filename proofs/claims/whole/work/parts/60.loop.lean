/-! LOOPS, and numbers -/
def lfold {α : Type} (F : Nat → α → α) : Nat → Nat → α → α
  | 0, _, a => a
  | n + 1, i, a => lfold F n (i + 1) (F i a)
theorem loopA {α : Type} (T : Nat → α → Prop) (E : α → Prop) (F : Nat → α → α) (N : Nat) (hend : ∀ a, T N a = E a) (hstep : ∀ i a, i < N → T i a = T (i + 1) (F i a)) : ∀ n i a, i + n = N → T i a = E (lfold F n i a) := by
  intro n
  induction n with
  | zero => intro i a h; rw [← h] at hend; exact hend a
  | succ n ih =>
    intro i a h
    rw [hstep i a (by omega)]
    exact ih (i + 1) (F i a) (by omega)
/-- the same, with what holds on the way -/
theorem loopI {α : Type} (T : Nat → α → Prop) (E : α → Prop) (F : Nat → α → α) (N : Nat) (I : Nat → α → Prop) (hend : ∀ a, I N a → T N a = E a) (hstep : ∀ i a, i < N → I i a → T i a = T (i + 1) (F i a)) (hI : ∀ i a, i < N → I i a → I (i + 1) (F i a)) : ∀ n i a, i + n = N → I i a → T i a = E (lfold F n i a) := by
  intro n
  induction n with
  | zero => intro i a h hi; have e : i = N := by omega
            subst e; exact hend a hi
  | succ n ih =>
    intro i a h hi
    rw [hstep i a (by omega) hi]
    exact ih (i + 1) (F i a) (by omega) (hI i a (by omega) hi)
theorem lfold_cong {α : Type} {F G : Nat → α → α} : ∀ (n i : Nat) (a : α), (∀ j b, i ≤ j → j < i + n → F j b = G j b) → lfold F n i a = lfold G n i a
  | 0, _, _, _ => rfl
  | n + 1, i, a, h => by
    rw [lfold, lfold, h i a (by omega) (by omega)]
    exact lfold_cong n (i + 1) _ (fun j b h1 h2 => h j b (by omega) (by omega))
theorem lfold_inv {α : Type} {F : Nat → α → α} (I : Nat → α → Prop) : ∀ (n i : Nat) (a : α), I i a → (∀ j b, i ≤ j → j < i + n → I j b → I (j + 1) (F j b)) → I (i + n) (lfold F n i a)
  | 0, _, _, h, _ => h
  | n + 1, i, a, h, hs => by
    have := lfold_inv I n (i + 1) (F i a) (hs i a (by omega) (by omega) h) (fun j b h1 h2 => hs j b (by omega) (by omega))
    rw [show i + (n + 1) = i + 1 + n by omega]
    exact this
theorem lfold_succ {α : Type} {F : Nat → α → α} : ∀ (n i : Nat) (a : α), lfold F (n + 1) i a = F (i + n) (lfold F n i a)
  | 0, _, _ => rfl
  | n + 1, i, a => by
    rw [lfold, lfold_succ n (i + 1) (F i a), show i + 1 + n = i + (n + 1) by omega]
    rfl
theorem nIle_f {a b : Nat} (h : b < a) (ha : a < 2 ^ 31) : (nI a ≤ nI b) = False := eq_false (by rw [nI_leI ha (by omega)]; omega)
theorem nIle_t {a b : Nat} (h : a ≤ b) (hb : b < 2 ^ 31) : (nI a ≤ nI b) = True := eq_true (by rw [nI_leI (by omega) hb]; exact h)
theorem nIlt_f {a b : Nat} (h : b ≤ a) (ha : a < 2 ^ 31) : (nI a < nI b) = False := eq_false (by rw [nI_ltI ha (by omega)]; omega)
theorem nIlt_t {a b : Nat} (h : a < b) (hb : b < 2 ^ 31) : (nI a < nI b) = True := eq_true (by rw [nI_ltI (by omega) hb]; exact h)
theorem nIlt0 {a : Nat} (h : a < 2 ^ 31) : (nI a < 0) = False := eq_false (nI_pos h)
theorem nIeq_f {a b : Nat} (h : a ≠ b) (ha : a < 2 ^ 31) (hb : b < 2 ^ 31) : (nI a = nI b) = False := eq_false (by rw [nI_eq ha hb]; exact h)
theorem le4_f {a : Nat} (h : a < 4) : ((4 : Int32) ≤ nI a) = False := nIle_f h (by decide)
theorem le5_f {a : Nat} (h : a < 5) : ((5 : Int32) ≤ nI a) = False := nIle_f h (by decide)
theorem le20_f {a : Nat} (h : a < 20) : ((20 : Int32) ≤ nI a) = False := nIle_f h (by decide)
theorem le40_f {a : Nat} (h : a < 40) : ((40 : Int32) ≤ nI a) = False := nIle_f h (by decide)
theorem le80_f {a : Nat} (h : a < 80) : ((80 : Int32) ≤ nI a) = False := nIle_f h (by decide)
/-- an int is below 0, or a number -/
theorem nIcases (x : Int32) : x < 0 ∨ ∃ n : Nat, n < 2 ^ 31 ∧ x = nI n := by
  by_cases h : x < 0
  · exact Or.inl h
  · exact Or.inr (nI_of h)
/-- an int is one of 0 .. n-1, or isn't -/
theorem nIrange (x : Int32) {n : Nat} (hn : n < 2 ^ 31) : (∃ k : Nat, k < n ∧ x = nI k) ∨ (x < 0 ∨ nI n ≤ x) := by
  rcases nIcases x with h | ⟨k, hk, rfl⟩
  · exact Or.inr (Or.inl h)
  · by_cases h : k < n
    · exact Or.inl ⟨k, h, rfl⟩
    · exact Or.inr (Or.inr (nI_le (by omega) hk))
