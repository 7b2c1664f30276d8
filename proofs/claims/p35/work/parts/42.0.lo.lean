/-! longs; a tagged row of numbers is looked into -/
theorem neTT {T : mT} {a b x y : Nat} (hb : T b = some x) (ha : T a = some y) (h : ¬ x = y) : b ≠ a := fun z => by rw [z, ha] at hb; cases hb; exact h rfl
theorem mS.untI {D : va_G} {kA : Nat → ClassId} {M : mM} {T : mT} {A : Nat → Prop} {H0 H : Heap} {locs : List Loc} (h : mS D kA M T A H0 H locs) {a τ n : Nat} {r : Int × Int} (ht : T a = some τ) (hsp : tsp τ = .inr (0, n, .inl r)) : ∃ (M1 : mM) (f : Nat → Int32), M1 a = some (.inl (kA 0, n, .inl f)) ∧ (∀ q, q ≠ a → M1 q = M q) ∧ mS D kA M1 T A H0 H locs := by
  obtain ⟨f, h1, -⟩ := tcellI h ht hsp
  obtain ⟨hh, hS, hd, hA⟩ := h
  refine ⟨va_up M a (some (.inl (kA 0, n, .inl f))), f, upS _ _ _, fun _ hq => upN _ _ hq, ⟨fun b e' hb => ?_, hh.2⟩, hS, fun q hq => ?_, hA⟩
  · by_cases hab : b = a
    · subst hab
      rw [upS] at hb
      cases hb
      exact h1
    · rw [upN _ _ hab] at hb
      exact hh.1 b e' hb
  · by_cases hab : q = a
    · subst hab
      exact hd q (Or.inr (by rw [ht]; simp))
    · rw [upN _ _ hab] at hq
      exact hd q hq
theorem lcE {x y : Int64} {z : Int32} (e : z = lg_cmp x y) : z.toInt ≠ 0 ∨ x.toInt = y.toInt := by
  by_cases h : x = y
  · exact Or.inr (by rw [h])
  · refine Or.inl (fun hz => h ?_)
    have e2 : lg_cmp x y = 0 := by rw [← e]; exact iEq.mpr hz
    unfold lg_cmp at e2
    by_cases h1 : y < x
    · rw [if_pos h1] at e2
      exact absurd e2 (by decide)
    · rw [if_neg h1] at e2
      first
        | (by_cases h2 : x = y
           · exact h2
           · rw [if_neg h2] at e2
             exact absurd e2 (by decide))
        | (by_cases h2 : x < y
           · rw [if_pos h2] at e2
             exact absurd e2 (by decide)
           · exact Int64.toInt_inj.mp (by have := Int64.lt_iff_toInt_lt (x := x) (y := y); have := Int64.lt_iff_toInt_lt (x := y) (y := x); omega))
theorem l0E {x : Int64} (h : x.toInt = 0) : x = 0 := Int64.toInt_inj.mp (by rw [h]; rfl)
theorem lw1 {c : Int32} (h1 : 97 ≤ c.toInt) (h2 : c.toInt ≤ 122) : ((27 : Int64) * 0 + c.toInt64 - 97 + 1).toInt ≤ 26 := by
  have e0 : (27 : Int64) * 0 = 0 := by decide
  have e1 : (97 : Int64).toInt = 97 := by decide
  have e2 : (1 : Int64).toInt = 1 := by decide
  have e3 : (0 : Int64).toInt = 0 := by decide
  rw [e0, Int64.toInt_add, Int64.toInt_sub, Int64.toInt_add, Int32.toInt_toInt64, e1, e2, e3]
  unfold Int.bmod
  simp only [Nat.reducePow]
  omega
