/-! images -/
def isWB (kA : Nat → ClassId) (e : va_E) : Prop := (∃ fs, e = .inr (6, fs)) ∨ ∃ g, e = .inl (kA 5, 4, .inr (.inr (.inr (.inr g))))
def ImgOK (kA : Nat → ClassId) (M : mM) (T : mT) (w q : Nat) (t : Int32) : Prop := q ≠ w ∧ T q = none ∧ ∃ (cs bs tp : Nat) (td gd bc py rf lt fp : Int32) (g : Nat → Option Nat), M q = some (.inr (6, [.int td, .int gd, .int bc, .int py, .int rf, .int lt, .int t, .int fp, .ref cs, .ref bs, .ref tp])) ∧ M bs = some (.inl (kA 5, 4, .inr (.inr (.inr (.inr g))))) ∧ T cs = some 3 ∧ T bs = some 6 ∧ T tp = some 7 ∧ (0 ≤ td.toInt ∧ td.toInt ≤ 999) ∧ (0 ≤ bc.toInt ∧ bc.toInt ≤ 4) ∧ (0 ≤ t.toInt ∧ t.toInt ≤ 600) ∧ ∀ j, j < 4 → ∃ p, g j = some p ∧ T p = some 2
def ImsOK (kA : Nat → ClassId) (M : mM) (T : mT) (w : Nat) (gi : Nat → Option Nat) (ti : Nat → Int32) : Prop := (∀ j q, j < 3 → gi j = some q → ImgOK kA M T w q (ti j)) ∧ ∀ i j q, i < 3 → j < 3 → gi i = some q → gi j = some q → i = j
theorem ImgOK.mv {kA : Nat → ClassId} {M M' : mM} {T T' : mT} {w q : Nat} {t : Int32} (h : ImgOK kA M T w q t) (hT : ∀ a τ, T a = some τ → T' a = some τ) (hn : T' q = none) (hfr : ∀ a, a ≠ w → (a = q ∨ T a = some 6) → M a ≠ none → (∀ e, M a = some e → isWB kA e) → M' a = M a) (hw : T w = none) : ImgOK kA M' T' w q t := by
  obtain ⟨h1, h2, cs, bs, tp, td, gd, bc, py, rf, lt, fp, g, h3, h4, h5, h6, h7, h8, h9, h10, h11⟩ := h
  refine ⟨h1, hn, cs, bs, tp, td, gd, bc, py, rf, lt, fp, g, ?_, ?_, hT _ _ h5, hT _ _ h6, hT _ _ h7, h8, h9, h10, fun j hj => ?_⟩
  · rw [hfr q h1 (Or.inl rfl) (by rw [h3]; simp) (fun e he => by rw [h3] at he; cases he; exact Or.inl ⟨_, rfl⟩)]; exact h3
  · rw [hfr bs (fun z => by rw [z, hw] at h6; cases h6) (Or.inr h6) (by rw [h4]; simp) (fun e he => by rw [h4] at he; cases he; exact Or.inr ⟨_, rfl⟩)]; exact h4
  · obtain ⟨p, e1, e2⟩ := h11 j hj
    exact ⟨p, e1, hT _ _ e2⟩
theorem ImsOK.mv {kA : Nat → ClassId} {M M' : mM} {T : mT} {w : Nat} {gi : Nat → Option Nat} {ti : Nat → Int32} (h : ImsOK kA M T w gi ti) (hw : T w = none) (hfr : ∀ q, FrA T q → q ≠ w → (∀ e, M q = some e → isWB kA e) → M' q = M q) : ImsOK kA M' T w gi ti := by
  refine ⟨fun j q hj hq => ?_, h.2⟩
  have h1 := h.1 j q hj hq
  refine h1.mv (fun _ _ h => h) h1.2.1 (fun a ha hb _ hc => hfr a ?_ ha hc) hw
  rcases hb with rfl | hb
  · exact Or.inl h1.2.1
  · exact Or.inr hb
theorem ImsOK.ne {kA : Nat → ClassId} {M : mM} {T : mT} {w a : Nat} {gi : Nat → Option Nat} {ti : Nat → Int32} {e : va_E} {j : Nat} (h : ImsOK kA M T w gi ti) (hj : j < 3) (he : M a = some e) (hk : ¬ ∃ fs, e = .inr (6, fs)) : gi j ≠ some a := fun z => by
  obtain ⟨-, -, cs, bs, tp, td, gd, bc, py, rf, lt, fp, g, h3, -⟩ := h.1 j a hj z
  rw [he] at h3
  exact hk ⟨_, Option.some.inj h3⟩
theorem ImsOK.nw {kA : Nat → ClassId} {M : mM} {T : mT} {w : Nat} {gi : Nat → Option Nat} {ti : Nat → Int32} {j : Nat} (h : ImsOK kA M T w gi ti) (hj : j < 3) : gi j ≠ some w := fun z => (h.1 j w hj z).1 rfl
theorem ImsOK.put {kA : Nat → ClassId} {M M' : mM} {T T' : mT} {w q kn : Nat} {gi : Nat → Option Nat} {ti : Nat → Int32} {t : Int32} (h : ImsOK kA M T w gi ti) (hkn : kn < 3) (hw : T w = none) (hT : ∀ a τ, T a = some τ → T' a = some τ) (hT2 : ∀ a, M a ≠ none → (∀ e, M a = some e → isWB kA e) → T' a = T a) (hfr : ∀ a, FrA T a → M a ≠ none → (∀ e, M a = some e → isWB kA e) → a ≠ w → gi kn ≠ some a → M' a = M a) (hq : ImgOK kA M' T' w q t) (hne : ∀ j p, j < 3 → j ≠ kn → gi j = some p → p ≠ q) : ImsOK kA M' T' w (va_up gi kn (some q)) (upd ti kn t) := by
  refine ⟨fun j p hj hp => ?_, fun i j p hi hj h1 h2 => ?_⟩
  · by_cases hjk : j = kn
    · subst hjk
      rw [upS] at hp
      cases hp
      rw [show upd ti j t j = t by simp [upd]]
      exact hq
    · rw [upN _ _ hjk] at hp
      rw [show upd ti kn t j = ti j by simp [upd, hjk]]
      have h1 := h.1 j p hj hp
      have hM : M p ≠ none := by
        obtain ⟨-, -, cs, bs, tp, td, gd, bc, py, rf, lt, fp, g, h3, -⟩ := h1
        rw [h3]; simp
      have hW : ∀ e, M p = some e → isWB kA e := by
        obtain ⟨-, -, cs, bs, tp, td, gd, bc, py, rf, lt, fp, g, h3, -⟩ := h1
        intro e he
        rw [h3] at he
        cases he
        exact Or.inl ⟨_, rfl⟩
      refine ImgOK.mv h1 hT ((hT2 p hM hW).trans h1.2.1) (fun a ha hb hMa hc => ?_) hw
      rcases hb with rfl | hb
      · exact hfr a (Or.inl h1.2.1) hM hc ha (fun z => hjk (h.2 _ _ a hj hkn hp z))
      · exact hfr a (Or.inr hb) hMa hc ha (fun z => by rw [(h.1 kn a hkn z).2.1] at hb; cases hb)
  · by_cases hik : i = kn
    · by_cases hjk : j = kn
      · rw [hik, hjk]
      · subst hik
        rw [upS] at h1
        rw [upN _ _ hjk] at h2
        cases h1
        exact absurd rfl (hne j q hj hjk h2)
    · by_cases hjk : j = kn
      · subst hjk
        rw [upS] at h2
        rw [upN _ _ hik] at h1
        cases h2
        exact absurd rfl (hne i q hi hik h1)
      · rw [upN _ _ hik] at h1
        rw [upN _ _ hjk] at h2
        exact h.2 i j p hi hj h1 h2
theorem va_up_same {gi : Nat → Option Nat} {kn q : Nat} (h : gi kn = some q) : va_up gi kn (some q) = gi := by
  funext j
  by_cases hj : j = kn
  · subst hj
    rw [upS, h]
  · rw [upN _ _ hj]
