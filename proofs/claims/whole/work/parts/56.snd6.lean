/-! THE TINY MACHINE IS TRUE, 6: what calls do themselves, and the whole -/
section S13
variable {p : Program} {l : Launch} {e : Env} {R : Room} {s : State} {mid : MethodId} {args : Array Value} {below : List Frame} {meth : Method} {c : Code} {H : Heap} {locs : List Loc} {cells slots : Nat} {Q : State → Prop}
variable {ad : Nat → Nat} {m pc len nL base : Nat} {real : Array Slot} {i : Instr} {ls st ls' st' : List TV} {D : va_G} {dA : Nat → ClassId} {h h' : TH} {sc : Nat × (Nat → Int32)}
theorem omap {α β : Type} {o : Option α} {f : α → β} {b : β} (h : o.map f = some b) : ∃ a, o = some a ∧ f a = b := by
  cases o with
  | none => cases h
  | some a => exact ⟨a, rfl, Option.some.inj h⟩
theorem inv_cpy {a0 a1 : Nat} {sp dp n : Int32} (hg : tcpy h a0 a1 sp dp n = some h') : ∃ (n0 n1 : Nat) (f g : Nat → Int32), h.1 a0 = some (.inl (0, n0, .inl f)) ∧ h.1 a1 = some (.inl (0, n1, .inl g)) ∧ ¬ sp < 0 ∧ ¬ dp < 0 ∧ ¬ n < 0 ∧ sp.toNatClampNeg + n.toNatClampNeg ≤ n0 ∧ dp.toNatClampNeg + n.toNatClampNeg ≤ n1 ∧ h' = tset h a1 (.inl (0, n1, .inl (va_cpy f g sp.toNatClampNeg dp.toNatClampNeg n.toNatClampNeg))) := by
  unfold tcpy at hg
  split at hg
  · rename_i n0 f n1 g h0 h1
    split at hg
    · cases hg
    · rename_i hc
      cases hg
      refine ⟨n0, n1, f, g, h0, h1, fun q => hc (Or.inl q), fun q => hc (Or.inr (Or.inl q)), fun q => hc (Or.inr (Or.inr (Or.inl q))), ?_, ?_, rfl⟩
      · exact Nat.not_lt.mp (fun q => hc (Or.inr (Or.inr (Or.inr (Or.inl q)))))
      · exact Nat.not_lt.mp (fun q => hc (Or.inr (Or.inr (Or.inr (Or.inr q)))))
  · cases hg
/-- a later heap: nothing is lost, and it is well formed if the earlier was -/
def tGe (h h' : TH) : Prop := h.2.1 ≤ h'.2.1 ∧ h.2.2 ≤ h'.2.2 ∧ (tWf h → tWf h')
theorem tGe_rf : tGe h h := ⟨Nat.le_refl _, Nat.le_refl _, id⟩
theorem tGe_set {k : Nat} {c0 c1 : TC} (hk : h.1 k = some c0) : tGe h (tset h k c1) := ⟨Nat.le_refl _, Nat.le_refl _, fun hw => tWf_set hw hk⟩
theorem tGe_new {cl : TC} {n : Nat} (hg : tnew h cl n = some h') : tGe h h' := by
  obtain ⟨hn, rfl⟩ := inv_new hg
  exact ⟨Nat.le_succ _, Nat.le_add_right _ _, fun hw => tWf_new hw hn⟩
theorem tput_2 {o k kind : Nat} {cis : List Nat} {v : TV} (hg : tput h o cis k kind v = some h') : tGe h h' := by
  unfold tput at hg
  split at hg
  · split at hg
    · cases hg; exact tGe_set (by assumption)
    · cases hg
  · cases hg
theorem tasi_2 {a : Nat} {j x : Int32} (hg : tasi h a j x = some h') : tGe h h' := by
  unfold tasi at hg
  split at hg
  · split at hg
    · cases hg
    · cases hg; exact tGe_set (by assumption)
  · cases hg
theorem tasb_2 {a : Nat} {j x : Int32} (hg : tasb h a j x = some h') : tGe h h' := by
  unfold tasb at hg
  split at hg
  · split at hg
    · cases hg
    · cases hg; exact tGe_set (by assumption)
  · cases hg
theorem tasl_2 {a : Nat} {j : Int32} {x : Int64} (hg : tasl h a j x = some h') : tGe h h' := by
  unfold tasl at hg
  split at hg
  · split at hg
    · cases hg
    · cases hg; exact tGe_set (by assumption)
  · cases hg
theorem tasr_2 {a : Nat} {j : Int32} {x : Option Nat} (hg : tasr h a j x = some h') : tGe h h' := by
  unfold tasr at hg
  split at hg
  · split at hg
    · split at hg
      · cases hg; exact tGe_set (by assumption)
      · split at hg
        · split at hg
          · cases hg; exact tGe_set (by assumption)
          · cases hg
        · cases hg
    · cases hg
  · cases hg
theorem tna_2 {t : Nat} {n : Int32} (hg : tna h t n = some h') : tGe h h' := by
  obtain ⟨-, -, cl, hnew, -⟩ := inv_na hg
  exact tGe_new hnew
theorem theap_mono (hp : theap sc m i len st h = some (st', h')) : tGe h h' := by
  cases i
  case getfield k => simp only [theap] at hp; (repeat' split at hp); all_goals first | (cases hp; done) | (obtain ⟨_, _, e⟩ := omap hp; cases e; exact tGe_rf)
  case putfield k => simp only [theap] at hp; (repeat' split at hp); all_goals first | (cases hp; done) | (obtain ⟨_, e0, e⟩ := omap hp; cases e; exact tput_2 e0)
  case getstatic k => simp only [theap] at hp; (repeat' split at hp); all_goals first | (cases hp; done) | (cases hp; exact tGe_rf)
  case iaload => simp only [theap] at hp; (repeat' split at hp); all_goals first | (cases hp; done) | (obtain ⟨_, _, e⟩ := omap hp; cases e; exact tGe_rf)
  case baload => simp only [theap] at hp; (repeat' split at hp); all_goals first | (cases hp; done) | (obtain ⟨_, _, e⟩ := omap hp; cases e; exact tGe_rf)
  case laload => simp only [theap] at hp; (repeat' split at hp); all_goals first | (cases hp; done) | (obtain ⟨_, _, e⟩ := omap hp; cases e; exact tGe_rf)
  case aaload => simp only [theap] at hp; (repeat' split at hp); all_goals first | (cases hp; done) | (obtain ⟨_, _, e⟩ := omap hp; cases e; exact tGe_rf)
  case iastore => simp only [theap] at hp; (repeat' split at hp); all_goals first | (cases hp; done) | (obtain ⟨_, e0, e⟩ := omap hp; cases e; exact tasi_2 e0)
  case bastore => simp only [theap] at hp; (repeat' split at hp); all_goals first | (cases hp; done) | (obtain ⟨_, e0, e⟩ := omap hp; cases e; exact tasb_2 e0)
  case lastore => simp only [theap] at hp; (repeat' split at hp); all_goals first | (cases hp; done) | (obtain ⟨_, e0, e⟩ := omap hp; cases e; exact tasl_2 e0)
  case aastore => simp only [theap] at hp; (repeat' split at hp); all_goals first | (cases hp; done) | (obtain ⟨_, e0, e⟩ := omap hp; cases e; exact tasr_2 e0)
  case arraylength => simp only [theap] at hp; (repeat' split at hp); all_goals first | (cases hp; done) | (obtain ⟨_, _, e⟩ := omap hp; cases e; exact tGe_rf)
  case newarray ty => simp only [theap] at hp; (repeat' split at hp); all_goals first | (cases hp; done) | (obtain ⟨_, e0, e⟩ := omap hp; cases e; exact tna_2 e0)
  case anewarray k => simp only [theap] at hp; (repeat' split at hp); all_goals first | (cases hp; done) | (obtain ⟨_, e0, e⟩ := omap hp; cases e; exact tna_2 e0)
  case new k => simp only [theap] at hp; (repeat' split at hp); all_goals first | (cases hp; done) | (obtain ⟨_, e0, e⟩ := omap hp; cases e; exact tGe_new e0)
  case instanceof k => simp only [theap] at hp; (repeat' split at hp); all_goals first | (cases hp; done) | (cases hp; exact tGe_rf)
  case checkcast k => simp only [theap] at hp; (repeat' split at hp); all_goals first | (cases hp; done) | (cases hp; exact tGe_rf)
  all_goals exact nomatch (show (none : Option (List TV × TH)) = some (st', h') from hp)
/-- what an inner call does: where it goes on -/
theorem tcall_in {pc' ar mode : Nat} {alts : List (Nat × Nat)} (hcall : tcall m pc ls st h ar mode alts = some (.inl (pc', ls', st', h'))) : pc' = pc + 3 ∧ ls' = ls ∧ tGe h h' := by
  have same : pc + 3 = pc + 3 ∧ ls = ls ∧ tGe h h := ⟨rfl, rfl, tGe_rf⟩
  match mode, hcall with
  | 0, hcall => simp only [tcall] at hcall; (repeat' split at hcall); all_goals cases hcall
  | 1, hcall => simp only [tcall] at hcall; (repeat' split at hcall); all_goals cases hcall
  | 2, hcall => simp only [tcall] at hcall; (repeat' split at hcall); all_goals cases hcall
  | 3, hcall => simp only [tcall] at hcall; (repeat' split at hcall); all_goals cases hcall
  | 4, hcall => simp only [tcall] at hcall; (repeat' split at hcall); all_goals first | (cases hcall; done) | (cases hcall; exact same)
  | 5, hcall => simp only [tcall] at hcall; (repeat' split at hcall); all_goals first | (cases hcall; done) | (cases hcall; exact same)
  | 6, hcall => simp only [tcall] at hcall; (repeat' split at hcall); all_goals first | (cases hcall; done) | (cases hcall; exact same)
  | 7, hcall =>
    simp only [tcall] at hcall
    repeat' split at hcall
    · obtain ⟨_, e0, e1⟩ := omap hcall
      cases e1
      obtain ⟨_, _, _, _, _, z1, _, _, _, _, _, rfl⟩ := inv_cpy e0
      exact ⟨rfl, rfl, tGe_set z1⟩
    all_goals cases hcall
  | 8, hcall =>
    simp only [tcall] at hcall
    repeat' split at hcall
    · obtain ⟨_, e0, e1⟩ := omap hcall
      cases e1
      exact ⟨rfl, rfl, tGe_new e0⟩
    all_goals cases hcall
  | 9, hcall => simp only [tcall] at hcall; (repeat' split at hcall); all_goals first | (cases hcall; done) | (cases hcall; exact same)
  | 10, hcall => simp only [tcall] at hcall; (repeat' split at hcall); all_goals first | (cases hcall; done) | (cases hcall; exact same)
  | 11, hcall => simp only [tcall] at hcall; (repeat' split at hcall); all_goals first | (cases hcall; done) | (cases hcall; exact same)
  | 12, hcall => simp only [tcall] at hcall; (repeat' split at hcall); all_goals first | (cases hcall; done) | (cases hcall; exact same)
  | n + 13, hcall => simp only [tcall] at hcall; cases hcall
end S13
