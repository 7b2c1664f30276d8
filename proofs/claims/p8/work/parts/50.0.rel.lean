/-! images of both sides -/
theorem ImsOK.ne3 {kA : Nat → ClassId} {M : mM} {T : mT} {w a : Nat} {gi : Nat → Option Nat} {ti : Nat → Int32} {e : va_E} (h : ImsOK kA M T w gi ti) (h3 : ∀ j, 3 ≤ j → gi j = none) (j : Nat) (he : M a = some e) (hk : ¬ ∃ fs, e = .inr (6, fs)) : gi j ≠ some a := by
  by_cases hj : j < 3
  · exact h.ne hj he hk
  · rw [h3 j (by omega)]; simp
theorem ImsOK.nw3 {kA : Nat → ClassId} {M : mM} {T : mT} {w : Nat} {gi : Nat → Option Nat} {ti : Nat → Int32} (h : ImsOK kA M T w gi ti) (h3 : ∀ j, 3 ≤ j → gi j = none) (j : Nat) : gi j ≠ some w := by
  by_cases hj : j < 3
  · exact h.nw hj
  · rw [h3 j (by omega)]; simp
def RelI (gi : Nat → Option Nat) (ti fi F : Nat → Int32) : Prop := ∀ j, j < 3 → (gi j = none ∧ (fi j).toInt = 0) ∨ (gi j ≠ none ∧ (fi j).toInt ≠ 0 ∧ F (2280 + 1742 * j + 1740) = ti j)
theorem RelI.ke {gi : Nat → Option Nat} {ti fi F G : Nat → Int32} (h : RelI gi ti fi F) (hk : Ke F G) : RelI gi ti fi G := fun j hj => by
  rcases h j hj with h1 | ⟨h1, h2, h3⟩
  · exact Or.inl h1
  · exact Or.inr ⟨h1, h2, (hk _ (by omega)).trans h3⟩
theorem RelI.put {gi : Nat → Option Nat} {ti fi F G : Nat → Int32} {kn q : Nat} {t : Int32} (h : RelI gi ti fi F) (hk : KeR F G (2280 + 1742 * kn) (2280 + 1742 * kn + 1742)) (hg : G (2280 + 1742 * kn + 1740) = t) : RelI (va_up gi kn (some q)) (upd ti kn t) (upd fi kn 1) G := fun j hj => by
  by_cases hjk : j = kn
  · subst hjk
    refine Or.inr ⟨by rw [upS]; simp, by rw [pk_us]; decide, by rw [pk_us]; exact hg⟩
  · rw [upN _ _ hjk, pk_un hjk, pk_un hjk]
    rcases h j hj with h1 | ⟨h1, h2, h3⟩
    · exact Or.inl h1
    · exact Or.inr ⟨h1, h2, (hk _ (by omega)).trans h3⟩
theorem RelI.him {kA : Nat → ClassId} {M : mM} {T : mT} {w : Nat} {gi : Nat → Option Nat} {ti fi F : Nat → Int32} (h : RelI gi ti fi F) (hi : ImsOK kA M T w gi ti) : ∀ j, j < 3 → (fi j).toInt ≠ 0 → 0 ≤ (F (2280 + 1742 * j + 1740)).toInt ∧ (F (2280 + 1742 * j + 1740)).toInt ≤ 600 := fun j hj hf => by
  rcases h j hj with ⟨-, h2⟩ | ⟨h1, -, h3⟩
  · exact absurd h2 hf
  · cases hq : gi j with
    | none => exact absurd hq h1
    | some q =>
      obtain ⟨-, -, cs, bs, tp, td, gd, bc, py, rf, lt, fp, g, -, -, -, -, -, -, -, h10, -⟩ := hi.1 j q hj hq
      rw [h3]
      exact h10
theorem nWB {kA : Nat → ClassId} {e : va_E} (h : isWB kA e) (h1 : ∀ fs, ¬ e = .inr (6, fs)) (h2 : ∀ g, ¬ e = .inl (kA 5, 4, .inr (.inr (.inr (.inr g))))) : False := by
  rcases h with ⟨fs, h⟩ | ⟨g, h⟩
  · exact h1 fs h
  · exact h2 g h
