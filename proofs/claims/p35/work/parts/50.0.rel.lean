/-! images of both sides -/
theorem ImsOK.ne3 {kA : Nat → ClassId} {M : mM} {T : mT} {w a : Nat} {gi : Nat → Option Nat} {ti : Nat → Int32} {e : va_E} (h : ImsOK kA M T w gi ti) (h3 : ∀ j, 3 ≤ j → gi j = none) (j : Nat) (he : M a = some e) (hk : ¬ ∃ fs, e = .inr (6, fs)) : gi j ≠ some a := by
  by_cases hj : j < 3
  · exact h.ne hj he hk
  · rw [h3 j (by omega)]; simp
theorem ImsOK.nw3 {kA : Nat → ClassId} {M : mM} {T : mT} {w : Nat} {gi : Nat → Option Nat} {ti : Nat → Int32} (h : ImsOK kA M T w gi ti) (h3 : ∀ j, 3 ≤ j → gi j = none) (j : Nat) : gi j ≠ some w := by
  by_cases hj : j < 3
  · exact h.nw hj
  · rw [h3 j (by omega)]; simp
def RelI (gi : Nat → Option Nat) (ti fi F : Nat → Int32) : Prop := ∀ j, j < 3 → (gi j = none ∧ (fi j).toInt = 0) ∨ (gi j ≠ none ∧ (fi j).toInt ≠ 0 ∧ F (2280 + 1742 * j + 1740) = ti j)
theorem RelI.ke {gi : Nat → Option Nat} {ti fi F G : Nat → Int32} (h : RelI gi ti fi F) (hk : Ke F G) : RelI gi ti fi G := fun j hj => by
  rcases h j hj with h1 | ⟨h1, h2, h3⟩
  · exact Or.inl h1
  · exact Or.inr ⟨h1, h2, (hk _ (by omega)).trans h3⟩
theorem RelI.put {gi : Nat → Option Nat} {ti fi F G : Nat → Int32} {kn q : Nat} {t : Int32} (h : RelI gi ti fi F) (hk : KeR F G (2280 + 1742 * kn) (2280 + 1742 * kn + 1742)) (hg : G (2280 + 1742 * kn + 1740) = t) : RelI (va_up gi kn (some q)) (upd ti kn t) (upd fi kn 1) G := fun j hj => by
  by_cases hjk : j = kn
  · subst hjk
    refine Or.inr ⟨by rw [upS]; simp, by rw [pk_us]; decide, by rw [pk_us]; exact hg⟩
  · rw [upN _ _ hjk, pk_un hjk, pk_un hjk]
    rcases h j hj with h1 | ⟨h1, h2, h3⟩
    · exact Or.inl h1
    · exact Or.inr ⟨h1, h2, (hk _ (by omega)).trans h3⟩
theorem RelI.him {kA : Nat → ClassId} {M : mM} {T : mT} {w : Nat} {gi : Nat → Option Nat} {ti fi F : Nat → Int32} (h : RelI gi ti fi F) (hi : ImsOK kA M T w gi ti) : ∀ j, j < 3 → (fi j).toInt ≠ 0 → 0 ≤ (F (2280 + 1742 * j + 1740)).toInt ∧ (F (2280 + 1742 * j + 1740)).toInt ≤ 600 := fun j hj hf => by
  rcases h j hj with ⟨-, h2⟩ | ⟨h1, -, h3⟩
  · exact absurd h2 hf
  · cases hq : gi j with
    | none => exact absurd hq h1
    | some q =>
      obtain ⟨-, -, cs, bs, tp, td, gd, bc, py, rf, lt, fp, g, -, -, -, -, -, -, -, h10, -⟩ := hi.1 j q hj hq
      rw [h3]
      exact h10
theorem nWB {kA : Nat → ClassId} {e : va_E} (h : isWB kA e) (h1 : ∀ fs, ¬ e = .inr (6, fs)) (h2 : ∀ g, ¬ e = .inl (kA 5, 4, .inr (.inr (.inr (.inr g))))) : False := by
  rcases h with ⟨fs, h⟩ | ⟨g, h⟩
  · exact h1 fs h
  · exact h2 g h
theorem nW3 {kA : Nat → ClassId} {n : Nat} {fs : List Value} (hn : ¬ n = 6) (h : isWB kA (.inr (n, fs))) : False := by
  rcases h with ⟨f, h⟩ | ⟨g, h⟩
  · exact hn (congrArg Prod.fst (Sum.inr.inj h))
  · cases h
theorem nWi {kA : Nat → ClassId} {k : ClassId} {n : Nat} {f : Nat → Int32} (h : isWB kA (.inl (k, n, .inl f))) : False := by
  rcases h with ⟨f, h⟩ | ⟨g, h⟩
  · cases h
  · have := congrArg (fun x => x.2.2) (Sum.inl.inj h)
    cases this
theorem nWm {kA : Nat → ClassId} {k : ClassId} {g : Nat → Option Nat} (h : isWB kA (.inl (k, 3, .inr (.inr (.inr (.inr g)))))) : False := by
  rcases h with ⟨f, h⟩ | ⟨g, h⟩
  · cases h
  · exact absurd (show (3 : Nat) = 4 from congrArg (fun x => x.2.1) (Sum.inl.inj h)) (by decide)
theorem sIx {i z : Int32} {L : Nat} {k : Int} (h0 : 0 ≤ i.toInt) (h6 : i.toInt + 6 ≤ (L : Int)) (hz : z.toInt = i.toInt + k) (hk0 : 0 ≤ k) (hk5 : k ≤ 5) : vp_in z L := iIn (by omega) (by omega)
theorem sIa {i k z : Int32} {L : Nat} (h0 : 0 ≤ i.toInt) (h6 : i.toInt + 6 ≤ (L : Int)) (hL : L ≤ 3072) (hz : z = i + k) (hk0 : 0 ≤ k.toInt) (hk5 : k.toInt ≤ 5) : z.toInt = i.toInt + k.toInt := by rw [hz, iAdd (by omega) (by omega)]
theorem lcA {n k m : Nat} (h : n + k ≤ m) : n ≤ m := Nat.le_trans (Nat.le_add_right _ _) h
