/-! images of both sides -/
theorem ImsOK.ne3 {kA : Nat → ClassId} {M : mM} {T : mT} {w tp a : Nat} {gi : Nat → Option Nat} {ai : Nat → Nat} {ti pi : Nat → Int32} {bi : Nat → Nat → Int} {e : va_E} (h : ImsOK kA M T w tp gi ai ti pi bi) (h3 : ∀ j, 3 ≤ j → gi j = none) (j : Nat) (he : M a = some e) (hk : ¬ ∃ fs, e = .inr (6, fs)) : gi j ≠ some a := by
  by_cases hj : j < 3
  · exact h.ne hj he hk
  · rw [h3 j (by omega)]; simp
theorem ImsOK.nw3 {kA : Nat → ClassId} {M : mM} {T : mT} {w tp : Nat} {gi : Nat → Option Nat} {ai : Nat → Nat} {ti pi : Nat → Int32} {bi : Nat → Nat → Int} (h : ImsOK kA M T w tp gi ai ti pi bi) (h3 : ∀ j, 3 ≤ j → gi j = none) (j : Nat) : gi j ≠ some w := by
  by_cases hj : j < 3
  · exact h.nw hj
  · rw [h3 j (by omega)]; simp
theorem ImsOK.na3 {kA : Nat → ClassId} {M : mM} {T : mT} {w tp x : Nat} {gi : Nat → Option Nat} {ai : Nat → Nat} {ti pi : Nat → Int32} {bi : Nat → Nat → Int} {e : va_E} (h : ImsOK kA M T w tp gi ai ti pi bi) (h3 : ∀ j, 3 ≤ j → gi j = none) (j : Nat) (he : M x = some e) (hk : ¬ ∃ f, e = .inl (kA 1, 600, .inl f)) (hg : gi j ≠ none) : ai j ≠ x := by
  by_cases hj : j < 3
  · exact h.na hj he hk hg
  · exact absurd (h3 j (by omega)) hg
theorem ImsOK.nt3 {kA : Nat → ClassId} {M : mM} {T : mT} {w tp : Nat} {gi : Nat → Option Nat} {ai : Nat → Nat} {ti pi : Nat → Int32} {bi : Nat → Nat → Int} (h : ImsOK kA M T w tp gi ai ti pi bi) (h3 : ∀ j, 3 ≤ j → gi j = none) (j : Nat) (hg : gi j ≠ none) : ai j ≠ tp := by
  by_cases hj : j < 3
  · exact h.nt hj hg
  · exact absurd (h3 j (by omega)) hg
def RelI (gi : Nat → Option Nat) (ti pi : Nat → Int32) (bi : Nat → Nat → Int) (fi F : Nat → Int32) : Prop := ∀ j, j < 3 → (gi j = none ∧ (fi j).toInt = 0) ∨ (gi j ≠ none ∧ (fi j).toInt ≠ 0 ∧ F (2280 + 1742 * j + 1740) = ti j ∧ F (2280 + 1742 * j + 1741) = pi j ∧ nC (fun i => F (2280 + 1742 * j + 1140 + i)) = bi j ∧ ∀ i, i < 600 → 0 ≤ (F (2280 + 1742 * j + 1140 + i)).toInt)
theorem RelI.ke {gi : Nat → Option Nat} {ti pi : Nat → Int32} {bi : Nat → Nat → Int} {fi F G : Nat → Int32} (h : RelI gi ti pi bi fi F) (hk : Ke F G) : RelI gi ti pi bi fi G := fun j hj => by
  rcases h j hj with h1 | ⟨h1, h2, h3, h4, h5, h6⟩
  · exact Or.inl h1
  · exact Or.inr ⟨h1, h2, (hk _ (by omega)).trans h3, (hk _ (by omega)).trans h4, (nC_congr (fun i _ => hk _ (by omega))).trans h5, fun i hi => by rw [hk _ (by omega)]; exact h6 i hi⟩
theorem RelI.put {gi : Nat → Option Nat} {ti pi : Nat → Int32} {bi : Nat → Nat → Int} {fi F G : Nat → Int32} {kn q : Nat} {t fp : Int32} {b : Nat → Int} (h : RelI gi ti pi bi fi F) (hk : KeR F G (2280 + 1742 * kn) (2280 + 1742 * kn + 1742)) (hg : G (2280 + 1742 * kn + 1740) = t) (hp : G (2280 + 1742 * kn + 1741) = fp) (hb : nC (fun i => G (2280 + 1742 * kn + 1140 + i)) = b) (hn : ∀ i, i < 600 → 0 ≤ (G (2280 + 1742 * kn + 1140 + i)).toInt) : RelI (va_up gi kn (some q)) (upd ti kn t) (upd pi kn fp) (upB bi kn b) (upd fi kn 1) G := fun j hj => by
  by_cases hjk : j = kn
  · subst hjk
    refine Or.inr ⟨by rw [upS]; simp, by rw [pk_us]; decide, by rw [pk_us]; exact hg, by rw [pk_us]; exact hp, by rw [upB_s]; exact hb, hn⟩
  · rw [upN _ _ hjk, pk_un hjk, pk_un hjk, pk_un hjk, upB_n hjk]
    rcases h j hj with h1 | ⟨h1, h2, h3, h4, h5, h6⟩
    · exact Or.inl h1
    · exact Or.inr ⟨h1, h2, (hk _ (by omega)).trans h3, (hk _ (by omega)).trans h4, (nC_congr (fun i hi => hk _ (by omega))).trans h5, fun i hi => by rw [hk _ (by omega)]; exact h6 i hi⟩
theorem RelI.him {kA : Nat → ClassId} {M : mM} {T : mT} {w tp : Nat} {gi : Nat → Option Nat} {ai : Nat → Nat} {ti pi : Nat → Int32} {bi : Nat → Nat → Int} {fi F : Nat → Int32} (h : RelI gi ti pi bi fi F) (hi : ImsOK kA M T w tp gi ai ti pi bi) : ∀ j, j < 3 → (fi j).toInt ≠ 0 → 0 ≤ (F (2280 + 1742 * j + 1740)).toInt ∧ (F (2280 + 1742 * j + 1740)).toInt ≤ 600 := fun j hj hf => by
  rcases h j hj with ⟨-, h2⟩ | ⟨h1, -, h3, -⟩
  · exact absurd h2 hf
  · cases hq : gi j with
    | none => exact absurd hq h1
    | some q =>
      obtain ⟨-, -, -, cs, bs, td, gd, bc, py, rf, lt, g, f, -, -, -, -, -, -, -, h10, -⟩ := hi.1 j q hj hq
      rw [h3]
      exact h10
theorem RelI.him2 {gi : Nat → Option Nat} {ti pi : Nat → Int32} {bi : Nat → Nat → Int} {fi F : Nat → Int32} (h : RelI gi ti pi bi fi F) : ∀ j, j < 3 → (fi j).toInt ≠ 0 → ∀ i, i < 600 → 0 ≤ (F (2280 + 1742 * j + 1140 + i)).toInt := fun j hj hf => by
  rcases h j hj with ⟨-, h2⟩ | ⟨-, -, -, -, -, h6⟩
  · exact absurd h2 hf
  · exact h6
theorem FT_eq {f g : Nat → Int32} {n : Nat} (h : nC f = nC g) : FT f n = FT g n := by
  unfold FT
  rw [h]
theorem nW3 {kA : Nat → ClassId} {n : Nat} {fs : List Value} (hn : ¬ n = 6) (h : isWB kA (.inr (n, fs))) : False := by
  rcases h with ⟨f, h⟩ | ⟨g, h⟩ | ⟨f, h⟩
  · exact hn (congrArg Prod.fst (Sum.inr.inj h))
  · cases h
  · cases h
theorem nWi {kA : Nat → ClassId} {k : ClassId} {n : Nat} {f : Nat → Int32} (hn : ¬ n = 600) (h : isWB kA (.inl (k, n, .inl f))) : False := by
  rcases h with ⟨f, h⟩ | ⟨g, h⟩ | ⟨f, h⟩
  · cases h
  · have := congrArg (fun x => x.2.2) (Sum.inl.inj h)
    cases this
  · exact hn (congrArg (fun x => x.2.1) (Sum.inl.inj h))
theorem nWt {kA : Nat → ClassId} {n : Nat} {f : Nat → Int32} (h01 : ¬ kA 0 = kA 1) (h : isWB kA (.inl (kA 0, n, .inl f))) : False := by
  rcases h with ⟨f, h⟩ | ⟨g, h⟩ | ⟨f, h⟩
  · cases h
  · have := congrArg (fun x => x.2.2) (Sum.inl.inj h)
    cases this
  · exact h01 (congrArg (fun x => x.1) (Sum.inl.inj h))
theorem nWm {kA : Nat → ClassId} {k : ClassId} {g : Nat → Option Nat} (h : isWB kA (.inl (k, 3, .inr (.inr (.inr (.inr g)))))) : False := by
  rcases h with ⟨f, h⟩ | ⟨g, h⟩ | ⟨f, h⟩
  · cases h
  · exact absurd (show (3 : Nat) = 4 from congrArg (fun x => x.2.1) (Sum.inl.inj h)) (by decide)
  · exact absurd (show (3 : Nat) = 600 from congrArg (fun x => x.2.1) (Sum.inl.inj h)) (by decide)
theorem sIx {i z : Int32} {L : Nat} {k : Int} (h0 : 0 ≤ i.toInt) (h6 : i.toInt + 6 ≤ (L : Int)) (hz : z.toInt = i.toInt + k) (hk0 : 0 ≤ k) (hk5 : k ≤ 5) : vp_in z L := iIn (by omega) (by omega)
theorem sIa {i k z : Int32} {L : Nat} (h0 : 0 ≤ i.toInt) (h6 : i.toInt + 6 ≤ (L : Int)) (hL : L ≤ 3072) (hz : z = i + k) (hk0 : 0 ≤ k.toInt) (hk5 : k.toInt ≤ 5) : z.toInt = i.toInt + k.toInt := by rw [hz, iAdd (by omega) (by omega)]
theorem lcA {n k m : Nat} (h : n + k ≤ m) : n ≤ m := Nat.le_trans (Nat.le_add_right _ _) h
