/-! images: each a world of its own, with a tape of its own -/
theorem Byt0 : Byt (fun _ => 0) := fun _ => by
  show (-128 : Int) ≤ (0 : Int32).toInt ∧ (0 : Int32).toInt ≤ 127
  decide
def isWB (kA : Nat → ClassId) (e : va_E) : Prop := (∃ fs, e = .inr (6, fs)) ∨ (∃ g, e = .inl (kA 5, 4, .inr (.inr (.inr (.inr g))))) ∨ ∃ f, e = .inl (kA 1, 600, .inl f)
def ImgOK (kA : Nat → ClassId) (M : mM) (T : mT) (w tp q a : Nat) (t fp : Int32) (b : Nat → Int) : Prop := (q ≠ w ∧ q ≠ tp ∧ a ≠ w ∧ a ≠ tp) ∧ T q = none ∧ T a = none ∧ ∃ (cs bs : Nat) (td gd bc py rf lt : Int32) (g : Nat → Option Nat) (f : Nat → Int32), M q = some (.inr (6, [.int td, .int gd, .int bc, .int py, .int rf, .int lt, .int t, .int fp, .ref cs, .ref bs, .ref a])) ∧ M bs = some (.inl (kA 5, 4, .inr (.inr (.inr (.inr g))))) ∧ M a = some (.inl (kA 1, 600, .inl f)) ∧ T cs = some 3 ∧ T bs = some 6 ∧ (0 ≤ td.toInt ∧ td.toInt ≤ 999) ∧ (0 ≤ bc.toInt ∧ bc.toInt ≤ 4) ∧ (0 ≤ t.toInt ∧ t.toInt ≤ 600) ∧ Byt f ∧ nC f = b ∧ ∀ j, j < 4 → ∃ p, g j = some p ∧ T p = some 2
def ImsOK (kA : Nat → ClassId) (M : mM) (T : mT) (w tp : Nat) (gi : Nat → Option Nat) (ai : Nat → Nat) (ti pi : Nat → Int32) (bi : Nat → Nat → Int) : Prop := (∀ j q, j < 3 → gi j = some q → ImgOK kA M T w tp q (ai j) (ti j) (pi j) (bi j)) ∧ (∀ i j q, i < 3 → j < 3 → gi i = some q → gi j = some q → i = j) ∧ ∀ i j, i < 3 → j < 3 → gi i ≠ none → gi j ≠ none → ai i = ai j → i = j
theorem ImgOK.mv {kA : Nat → ClassId} {M M' : mM} {T T' : mT} {w tp q a : Nat} {t fp : Int32} {b : Nat → Int} (h : ImgOK kA M T w tp q a t fp b) (hT : ∀ x τ, T x = some τ → T' x = some τ) (hn : T' q = none) (hna : T' a = none) (hfr : ∀ x, x ≠ w → x ≠ tp → (x = q ∨ x = a ∨ T x = some 6) → M x ≠ none → (∀ e, M x = some e → isWB kA e) → M' x = M x) (hw : T w = none) (htp : T tp = none) : ImgOK kA M' T' w tp q a t fp b := by
  obtain ⟨h1, h2, h2a, cs, bs, td, gd, bc, py, rf, lt, g, f, h3, h4, h4a, h5, h6, h8, h9, h10, h10a, h10b, h11⟩ := h
  refine ⟨h1, hn, hna, cs, bs, td, gd, bc, py, rf, lt, g, f, ?_, ?_, ?_, hT _ _ h5, hT _ _ h6, h8, h9, h10, h10a, h10b, fun j hj => ?_⟩
  · rw [hfr q h1.1 h1.2.1 (Or.inl rfl) (by rw [h3]; simp) (fun e he => by rw [h3] at he; cases he; exact Or.inl ⟨_, rfl⟩)]; exact h3
  · rw [hfr bs (fun z => by rw [z, hw] at h6; cases h6) (fun z => by rw [z, htp] at h6; cases h6) (Or.inr (Or.inr h6)) (by rw [h4]; simp) (fun e he => by rw [h4] at he; cases he; exact Or.inr (Or.inl ⟨_, rfl⟩))]; exact h4
  · rw [hfr a h1.2.2.1 h1.2.2.2 (Or.inr (Or.inl rfl)) (by rw [h4a]; simp) (fun e he => by rw [h4a] at he; cases he; exact Or.inr (Or.inr ⟨_, rfl⟩))]; exact h4a
  · obtain ⟨p, e1, e2⟩ := h11 j hj
    exact ⟨p, e1, hT _ _ e2⟩
theorem ImsOK.mv {kA : Nat → ClassId} {M M' : mM} {T : mT} {w tp : Nat} {gi : Nat → Option Nat} {ai : Nat → Nat} {ti pi : Nat → Int32} {bi : Nat → Nat → Int} (h : ImsOK kA M T w tp gi ai ti pi bi) (hw : T w = none) (htp : T tp = none) (hfr : ∀ q, FrA T q → q ≠ w → q ≠ tp → (∀ e, M q = some e → isWB kA e) → M' q = M q) : ImsOK kA M' T w tp gi ai ti pi bi := by
  refine ⟨fun j q hj hq => ?_, h.2⟩
  have h1 := h.1 j q hj hq
  refine h1.mv (fun _ _ h => h) h1.2.1 h1.2.2.1 (fun x hx hy hb _ hc => hfr x ?_ hx hy hc) hw htp
  rcases hb with rfl | rfl | hb
  · exact Or.inl h1.2.1
  · exact Or.inl h1.2.2.1
  · exact Or.inr hb
theorem ImsOK.ne {kA : Nat → ClassId} {M : mM} {T : mT} {w tp a : Nat} {gi : Nat → Option Nat} {ai : Nat → Nat} {ti pi : Nat → Int32} {bi : Nat → Nat → Int} {e : va_E} {j : Nat} (h : ImsOK kA M T w tp gi ai ti pi bi) (hj : j < 3) (he : M a = some e) (hk : ¬ ∃ fs, e = .inr (6, fs)) : gi j ≠ some a := fun z => by
  obtain ⟨-, -, -, cs, bs, td, gd, bc, py, rf, lt, g, f, h3, -⟩ := h.1 j a hj z
  rw [he] at h3
  exact hk ⟨_, Option.some.inj h3⟩
theorem ImsOK.nw {kA : Nat → ClassId} {M : mM} {T : mT} {w tp : Nat} {gi : Nat → Option Nat} {ai : Nat → Nat} {ti pi : Nat → Int32} {bi : Nat → Nat → Int} {j : Nat} (h : ImsOK kA M T w tp gi ai ti pi bi) (hj : j < 3) : gi j ≠ some w := fun z => (h.1 j w hj z).1.1 rfl
/-- an image's tape is not a cell of another kind, nor the tape of now -/
theorem ImsOK.na {kA : Nat → ClassId} {M : mM} {T : mT} {w tp x : Nat} {gi : Nat → Option Nat} {ai : Nat → Nat} {ti pi : Nat → Int32} {bi : Nat → Nat → Int} {e : va_E} {j : Nat} (h : ImsOK kA M T w tp gi ai ti pi bi) (hj : j < 3) (he : M x = some e) (hk : ¬ ∃ f, e = .inl (kA 1, 600, .inl f)) (hg : gi j ≠ none) : ai j ≠ x := fun z => by
  cases hq : gi j with
  | none => exact hg hq
  | some q =>
    obtain ⟨-, -, -, cs, bs, td, gd, bc, py, rf, lt, g, f, -, -, h4, -⟩ := h.1 j q hj hq
    rw [z, he] at h4
    exact hk ⟨_, Option.some.inj h4⟩
theorem ImsOK.nt {kA : Nat → ClassId} {M : mM} {T : mT} {w tp : Nat} {gi : Nat → Option Nat} {ai : Nat → Nat} {ti pi : Nat → Int32} {bi : Nat → Nat → Int} {j : Nat} (h : ImsOK kA M T w tp gi ai ti pi bi) (hj : j < 3) (hg : gi j ≠ none) : ai j ≠ tp := fun z => by
  cases hq : gi j with
  | none => exact hg hq
  | some q => exact (h.1 j q hj hq).1.2.2.2 z
def upB (bi : Nat → Nat → Int) (k : Nat) (b : Nat → Int) : Nat → Nat → Int := fun j => if j = k then b else bi j
theorem upB_s {bi : Nat → Nat → Int} {k : Nat} {b : Nat → Int} : upB bi k b k = b := if_pos rfl
theorem upB_n {bi : Nat → Nat → Int} {k j : Nat} {b : Nat → Int} (h : ¬ j = k) : upB bi k b j = bi j := if_neg h
def upA (ai : Nat → Nat) (k a : Nat) : Nat → Nat := fun j => if j = k then a else ai j
theorem upA_s {ai : Nat → Nat} {k a : Nat} : upA ai k a k = a := if_pos rfl
theorem upA_n {ai : Nat → Nat} {k j a : Nat} (h : ¬ j = k) : upA ai k a j = ai j := if_neg h
theorem upA_same {ai : Nat → Nat} {k : Nat} : upA ai k (ai k) = ai := by
  funext j
  by_cases h : j = k
  · subst h; exact upA_s
  · exact upA_n h
theorem ImsOK.put {kA : Nat → ClassId} {M M' : mM} {T T' : mT} {w tp q a kn : Nat} {gi : Nat → Option Nat} {ai : Nat → Nat} {ti pi : Nat → Int32} {bi : Nat → Nat → Int} {t fp : Int32} {b : Nat → Int} (h : ImsOK kA M T w tp gi ai ti pi bi) (hkn : kn < 3) (hw : T w = none) (htp : T tp = none) (hT : ∀ a τ, T a = some τ → T' a = some τ) (hT2 : ∀ a, M a ≠ none → (∀ e, M a = some e → isWB kA e) → T' a = T a) (hfr : ∀ x, FrA T x → M x ≠ none → (∀ e, M x = some e → isWB kA e) → x ≠ w → x ≠ tp → gi kn ≠ some x → (gi kn ≠ none → ai kn ≠ x) → M' x = M x) (hq : ImgOK kA M' T' w tp q a t fp b) (hne : ∀ j p, j < 3 → j ≠ kn → gi j = some p → p ≠ q ∧ ai j ≠ a) : ImsOK kA M' T' w tp (va_up gi kn (some q)) (upA ai kn a) (upd ti kn t) (upd pi kn fp) (upB bi kn b) := by
  refine ⟨fun j p hj hp => ?_, fun i j p hi hj h1 h2 => ?_, fun i j hi hj h1 h2 h3 => ?_⟩
  · by_cases hjk : j = kn
    · subst hjk
      rw [upS] at hp
      cases hp
      rw [pk_us, pk_us, upA_s, upB_s]
      exact hq
    · rw [upN _ _ hjk] at hp
      rw [pk_un hjk, pk_un hjk, upA_n hjk, upB_n hjk]
      have h1 := h.1 j p hj hp
      have hM : M p ≠ none ∧ (∀ e, M p = some e → isWB kA e) ∧ M (ai j) ≠ none ∧ ∀ e, M (ai j) = some e → isWB kA e := by
        obtain ⟨-, -, -, cs, bs, td, gd, bc, py, rf, lt, g, f, h3, -, h4, -⟩ := h1
        refine ⟨by rw [h3]; simp, fun e he => ?_, by rw [h4]; simp, fun e he => ?_⟩
        · rw [h3] at he; cases he; exact Or.inl ⟨_, rfl⟩
        · rw [h4] at he; cases he; exact Or.inr (Or.inr ⟨_, rfl⟩)
      refine ImgOK.mv h1 hT ((hT2 p hM.1 hM.2.1).trans h1.2.1) ((hT2 _ hM.2.2.1 hM.2.2.2).trans h1.2.2.1) (fun x hx hy hb hMa hc => ?_) hw htp
      have hg0 : gi kn ≠ none → ai kn ≠ ai j := fun z e => hjk (h.2.2 j kn hj hkn (by rw [hp]; simp) z e.symm)
      rcases hb with rfl | rfl | hb
      · refine hfr x (Or.inl h1.2.1) hMa hc hx hy (fun z => hjk (h.2.1 _ _ x hj hkn hp z)) (fun z e => ?_)
        obtain ⟨-, -, -, cs, bs, td, gd, bc, py, rf, lt, g, f, h3, -⟩ := h1
        exact h.na hkn h3 (fun y => by obtain ⟨f9, y⟩ := y; cases y) z e
      · refine hfr _ (Or.inl h1.2.2.1) hMa hc hx hy (fun z => ?_) hg0
        obtain ⟨-, -, -, cs, bs, td, gd, bc, py, rf, lt, g, f, -, -, h4, -⟩ := h1
        exact h.ne hkn h4 (fun y => by obtain ⟨f9, y⟩ := y; cases y) z
      · refine hfr x (Or.inr hb) hMa hc hx hy (fun z => by rw [(h.1 kn x hkn z).2.1] at hb; cases hb) (fun z e => ?_)
        cases hq2 : gi kn with
        | none => exact z hq2
        | some q2 =>
          have := (h.1 kn q2 hkn hq2).2.2.1
          rw [e, hb] at this
          cases this
  · by_cases hik : i = kn
    · by_cases hjk : j = kn
      · rw [hik, hjk]
      · subst hik
        rw [upS] at h1
        rw [upN _ _ hjk] at h2
        cases h1
        exact absurd rfl (hne j q hj hjk h2).1
    · by_cases hjk : j = kn
      · subst hjk
        rw [upS] at h2
        rw [upN _ _ hik] at h1
        cases h2
        exact absurd rfl (hne i q hi hik h1).1
      · rw [upN _ _ hik] at h1
        rw [upN _ _ hjk] at h2
        exact h.2.1 i j p hi hj h1 h2
  · by_cases hik : i = kn
    · by_cases hjk : j = kn
      · rw [hik, hjk]
      · subst hik
        rw [upN _ _ hjk] at h2
        rw [upA_s, upA_n hjk] at h3
        cases hq2 : gi j with
        | none => exact absurd hq2 h2
        | some q2 => exact absurd h3.symm (hne j q2 hj hjk hq2).2
    · by_cases hjk : j = kn
      · subst hjk
        rw [upN _ _ hik] at h1
        rw [upA_s, upA_n hik] at h3
        cases hq2 : gi i with
        | none => exact absurd hq2 h1
        | some q2 => exact absurd h3 (hne i q2 hi hik hq2).2
      · rw [upN _ _ hik] at h1
        rw [upN _ _ hjk] at h2
        rw [upA_n hik, upA_n hjk] at h3
        exact h.2.2 i j hi hj h1 h2 h3
theorem va_up_same {gi : Nat → Option Nat} {kn q : Nat} (h : gi kn = some q) : va_up gi kn (some q) = gi := by
  funext j
  by_cases hj : j = kn
  · subst hj
    rw [upS, h]
  · rw [upN _ _ hj]
