/-! new cells get tags; images -/
theorem tUp {T : mT} {a v t : Nat} {x : Option Nat} (hn : T a = none) (h : T v = some t) : va_up T a x v = some t := by
  have hab : v ≠ a := fun z => by rw [z, hn] at h; cases h
  rw [upN _ _ hab]; exact h
theorem FrA.mv {T T' : mT} {a : Nat} (h : T' a = T a) (hA : FrA T a) : FrA T' a := by
  unfold FrA
  rw [h]; exact hA
/-- a cell known exactly gets a tag, and stays known -/
theorem mS.reK {D : va_G} {kA : Nat → ClassId} {M : mM} {T : mT} {A : Nat → Prop} {H0 H : Heap} {locs : List Loc} (h : mS D kA M T A H0 H locs) {a τ : Nat} {e : va_E} (he : M a = some e) (n2 : T a = none) (hc : conf kA (va_up T a (some τ)) τ e) : ∃ T1 : mT, T1 a = some τ ∧ (∀ q, q ≠ a → T1 q = T q) ∧ (∀ q t, T q = some t → T1 q = some t) ∧ mS D kA M T1 A H0 H locs := by
  obtain ⟨hh, hS, hd, hA⟩ := h
  have hm : ∀ q τ', T q = some τ' → va_up T a (some τ) q = some τ' := fun q τ' hq => tUp n2 hq
  refine ⟨_, upS _ _ _, fun _ hq => upN _ _ hq, hm, ⟨hh.1, fun b τ' hb => ?_⟩, hS, fun q hq => ?_, hA⟩
  · by_cases hab : b = a
    · subst hab
      rw [upS] at hb
      cases hb
      exact ⟨e, hh.1 b e he, hc⟩
    · rw [upN _ _ hab] at hb
      obtain ⟨e', g2, g3⟩ := hh.2 b τ' hb
      exact ⟨e', g2, g3.mono hm⟩
  · by_cases hab : q = a
    · subst hab
      exact hd q (Or.inl (by rw [he]; simp))
    · rw [upN _ _ hab] at hq
      exact hd q hq
