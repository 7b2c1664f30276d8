/-! longs; a tagged row of numbers is looked into -/
theorem neTT {T : mT} {a b x y : Nat} (hb : T b = some x) (ha : T a = some y) (h : ¬ x = y) : b ≠ a := fun z => by rw [z, ha] at hb; cases hb; exact h rfl
theorem mS.untI {D : va_G} {kA : Nat → ClassId} {M : mM} {T : mT} {A : Nat → Prop} {H0 H : Heap} {locs : List Loc} (h : mS D kA M T A H0 H locs) {a τ n : Nat} {r : Int × Int} (ht : T a = some τ) (hsp : tsp τ = .inr (0, n, .inl r)) : ∃ (M1 : mM) (f : Nat → Int32), M1 a = some (.inl (kA 0, n, .inl f)) ∧ (∀ q, q ≠ a → M1 q = M q) ∧ mS D kA M1 T A H0 H locs := by
  obtain ⟨f, h1, -⟩ := tcellI h ht hsp
  obtain ⟨hh, hS, hd, hA⟩ := h
  refine ⟨va_up M a (some (.inl (kA 0, n, .inl f))), f, upS _ _ _, fun _ hq => upN _ _ hq, ⟨fun b e' hb => ?_, hh.2⟩, hS, fun q hq => ?_, hA⟩
  · by_cases hab : b = a
    · subst hab
      rw [upS] at hb
      cases hb
      exact h1
    · rw [upN _ _ hab] at hb
      exact hh.1 b e' hb
  · by_cases hab : q = a
    · subst hab
      exact hd q (Or.inr (by rw [ht]; simp))
    · rw [upN _ _ hab] at hq
      exact hd q hq
theorem lcE {x y : Int64} {z : Int32} (e : z = lg_cmp x y) : z.toInt ≠ 0 ∨ x.toInt = y.toInt := by
  by_cases h : x = y
  · exact Or.inr (by rw [h])
  · refine Or.inl (fun hz => h ?_)
    have e2 : lg_cmp x y = 0 := by rw [← e]; exact iEq.mpr hz
    unfold lg_cmp at e2
    by_cases h1 : y < x
    · rw [if_pos h1] at e2
      exact absurd e2 (by decide)
    · rw [if_neg h1] at e2
      first
        | (by_cases h2 : x = y
           · exact h2
           · rw [if_neg h2] at e2
             exact absurd e2 (by decide))
        | (by_cases h2 : x < y
           · rw [if_pos h2] at e2
             exact absurd e2 (by decide)
           · exact Int64.toInt_inj.mp (by have := Int64.lt_iff_toInt_lt (x := x) (y := y); have := Int64.lt_iff_toInt_lt (x := y) (y := x); omega))
theorem l0E {x : Int64} (h : x.toInt = 0) : x = 0 := Int64.toInt_inj.mp (by rw [h]; rfl)
theorem lw1 {c : Int32} (h1 : 97 ≤ c.toInt) (h2 : c.toInt ≤ 122) : ((27 : Int64) * 0 + c.toInt64 - 97 + 1).toInt ≤ 26 := by
  have e0 : (27 : Int64) * 0 = 0 := by decide
  have e1 : (97 : Int64).toInt = 97 := by decide
  have e2 : (1 : Int64).toInt = 1 := by decide
  have e3 : (0 : Int64).toInt = 0 := by decide
  rw [e0, Int64.toInt_add, Int64.toInt_sub, Int64.toInt_add, Int32.toInt_toInt64, e1, e2, e3]
  unfold Int.bmod
  simp only [Nat.reducePow]
  omega
theorem lcN {x y : Int64} {z : Int32} (e : z = lg_cmp x y) (h : z.toInt ≠ 0) : x.toInt ≠ y.toInt := fun q => h (by
  have e1 : x = y := Int64.toInt_inj.mp q
  have e2 : lg_cmp x y = 0 := by
    rw [e1]
    unfold lg_cmp
    rw [if_neg (fun h2 => by have := Int64.lt_iff_toInt_lt.mp h2; omega), if_pos rfl]
  rw [e, e2]
  rfl)
theorem lwS {v : Int64} {c : Int32} (h0 : 0 ≤ v.toInt) (h3 : v.toInt < 282429536481) (h1 : 97 ≤ c.toInt) (h2 : c.toInt ≤ 122) : ((27 : Int64) * v + c.toInt64 - 97 + 1).toInt = 27 * v.toInt + c.toInt - 96 := by
  have e0 : (27 : Int64).toInt = 27 := by decide
  have e1 : (97 : Int64).toInt = 97 := by decide
  have e2 : (1 : Int64).toInt = 1 := by decide
  rw [Int64.toInt_add, Int64.toInt_sub, Int64.toInt_add, Int64.toInt_mul, Int32.toInt_toInt64, e0, e1, e2]
  unfold Int.bmod
  simp only [Nat.reducePow]
  omega
theorem cdLet {f : Nat → Int32} {n p y : Nat} (hv : scE pLe (nC f) n y = scE pLe (nC f) n p) : ∀ j, j < y - p → 97 ≤ nC f (p + j) ∧ nC f (p + j) ≤ 122 := fun j hj => by
  have hle : y ≤ scE pLe (nC f) n p := by rw [← hv]; exact scE_ge
  have := scE_all (P := pLe) (c := nC f) (n := n) (k := p) (j := p + j) (by omega) (by omega)
  unfold pLe at this
  exact of_decide_eq_true this
theorem cdN {f : Nat → Int32} {n : Nat} {p y z c : Int32} {v v2 : Int64} (hv : scE pLe (nC f) n y.toInt.toNat = scE pLe (nC f) n p.toInt.toNat) (hp0 : 0 ≤ p.toInt) (hpy : p.toInt ≤ y.toInt) (h9 : y.toInt - p.toInt < 9) (hz : z.toInt = y.toInt + 1) (hva : v.toInt = cd (nC f) p.toInt.toNat (y.toInt.toNat - p.toInt.toNat)) (hc : 97 ≤ c.toInt ∧ c.toInt ≤ 122) (hb : c.toInt = (f y.toInt.toNat).toInt) (hy : y.toInt < 600) (hv2 : v2 = 27 * v + c.toInt64 - 97 + 1) : v2.toInt = cd (nC f) p.toInt.toNat (z.toInt.toNat - p.toInt.toNat) := by
  obtain ⟨b1, b2⟩ := cd_b8 (c := nC f) (p := p.toInt.toNat) (k := y.toInt.toNat - p.toInt.toNat) (by omega) (cdLet hv)
  rw [hv2, lwS (by omega) (by omega) hc.1 hc.2, show z.toInt.toNat - p.toInt.toNat = (y.toInt.toNat - p.toInt.toNat) + 1 by omega, cd_s (by omega), hva, show p.toInt.toNat + (y.toInt.toNat - p.toInt.toNat) = y.toInt.toNat by omega, nC_at (by omega), ← hb]
  unfold nr
  rw [if_pos (by omega)]
theorem cdT {f : Nat → Int32} {p y z : Int32} {v : Int64} (hp0 : 0 ≤ p.toInt) (hpy : p.toInt ≤ y.toInt) (h9 : ¬ y.toInt - p.toInt < 9) (hz : z.toInt = y.toInt + 1) (hva : v.toInt = cd (nC f) p.toInt.toNat (y.toInt.toNat - p.toInt.toNat)) : v.toInt = cd (nC f) p.toInt.toNat (z.toInt.toNat - p.toInt.toNat) := by
  rw [show z.toInt.toNat - p.toInt.toNat = (y.toInt.toNat - p.toInt.toNat) + 1 by omega, cd_t (by omega)]
  exact hva
def Va (f : Nat → Int32) (tk pl nx : Int32) (v : Int64) : Prop := tk.toInt = 1 → v.toInt = cd (nC f) pl.toInt.toNat (nx.toInt.toNat - pl.toInt.toNat)
def Rs (c : Bool × Nat) (wr fp fp0 pl : Int32) : Prop := (wr.toInt = 1 ∧ c = (false, pl.toInt.toNat) ∧ fp.toInt = pl.toInt) ∨ (wr.toInt = 0 ∧ c = (true, pl.toInt.toNat) ∧ fp.toInt = fp0.toInt)
def Ns (wr : Int32) (P : Prop) : Prop := wr.toInt = 1 ∨ ¬ P
def Rt (f : Nat → Int32) (n : Nat) (wr fp ln pl : Int32) : Prop := (wr.toInt = 0 ∧ fp.toInt = -1 ∧ FT f n = ftF (nC f) n (n + 1 - ln.toInt.toNat) pl.toInt.toNat) ∨ (wr.toInt = 1 ∧ fp.toInt = FT f n)
theorem wV {f : Nat → Int32} {sm tk pl nx : Int32} {v : Int64} {i : Nat} (h : Tk f sm tk pl nx) (hk : tk.toInt = 1) (hva : Va f tk pl nx v) (hi : i < 21) : v.toInt = zWv i ↔ wIs (nC f) sm.toInt.toNat pl.toInt.toNat i := by
  have h1 := h.1
  have h2 := h.2
  rw [← wIs_cd hi (by omega), hva hk, show nx.toInt.toNat = beF (nC f) sm.toInt.toNat pl.toInt.toNat by omega]
noncomputable def opL (c : Nat → Int) (n : Nat) (b1 b2 : Prop) (q : Bool × Nat) : Bool × Nat := if q.1 = true then (true, opF c n b2 20 (opF c n b1 19 q.2)) else (false, q.2)
theorem opL_f {c : Nat → Int} {n p : Nat} {b1 b2 : Prop} : opL c n b1 b2 (false, p) = (false, p) := if_neg (by simp)
theorem opL_t {c : Nat → Int} {n p q r : Nat} {b1 b2 : Prop} (h1 : opF c n b1 19 p = q) (h2 : opF c n b2 20 q = r) : opL c n b1 b2 (true, p) = (true, r) := by
  unfold opL
  rw [if_pos rfl]
  show (true, opF c n b2 20 (opF c n b1 19 p)) = _
  rw [h1, h2]
theorem enL {c : Nat → Int} {n v : Nat} {q : Bool × Nat} : enF c n v q = if (opL c n (zNot v = 1) (zWit v = 1) q).1 = true then (if kiF c n (opL c n (zNot v = 1) (zWit v = 1) q).2 = 3 then (true, nxF c n (opL c n (zNot v = 1) (zWit v = 1) q).2) else (false, (opL c n (zNot v = 1) (zWit v = 1) q).2)) else (false, (opL c n (zNot v = 1) (zWit v = 1) q).2) := by
  obtain ⟨b, p⟩ := q
  cases b with
  | false => rw [enB, opL_f]; rfl
  | true => rw [enT rfl rfl, opL_t rfl rfl]; rfl
theorem enL_f {c : Nat → Int} {n v p : Nat} {q : Bool × Nat} (h : opL c n (zNot v = 1) (zWit v = 1) q = (false, p)) : enF c n v q = (false, p) := by
  rw [enL, h, if_neg (by simp)]
theorem enL_y {c : Nat → Int} {n v p : Nat} {q : Bool × Nat} (h : opL c n (zNot v = 1) (zWit v = 1) q = (true, p)) (hk : kiF c n p = 3) : enF c n v q = (true, nxF c n p) := by
  rw [enL, h, if_pos rfl, if_pos hk]
theorem enL_n {c : Nat → Int} {n v p : Nat} {q : Bool × Nat} (h : opL c n (zNot v = 1) (zWit v = 1) q = (true, p)) (hk : ¬ kiF c n p = 3) : enF c n v q = (false, p) := by
  rw [enL, h, if_pos rfl, if_neg hk]
def zMo (w : Nat) : Int := ([0, 0, 0, 0, 0, 0, 2, 2, 2, 2, 1, 0, 0, 0, 0, 0, 0, 0, 0] : List Int).getD w 0
theorem zMo_2 {w : Nat} (h : 5 < w) (h2 : w < 10) : zMo w = 2 := by
  have : ∀ w, w < 10 → 5 < w → zMo w = 2 := by decide +kernel
  exact this w h2 h
theorem zMo_1 {w : Nat} (h : w = 10) : zMo w = 1 := by subst h; rfl
theorem zMo_0 {w : Nat} (hw : w < 19) (h : ¬ (5 < w ∧ w ≤ 10)) : zMo w = 0 := by
  have : ∀ w, w < 19 → ¬ (5 < w ∧ w ≤ 10) → zMo w = 0 := by decide +kernel
  exact this w hw h
theorem zMo_n {w : Nat} (hw : w < 19) : (1 ≤ zMo w) = (zNot w = 1) := by
  have : ∀ w, w < 19 → (1 ≤ zMo w ↔ zNot w = 1) := by decide +kernel
  exact propext (this w hw)
theorem zMo_w {w : Nat} (hw : w < 19) : (2 ≤ zMo w) = (zWit w = 1) := by
  have : ∀ w, w < 19 → (2 ≤ zMo w ↔ zWit w = 1) := by decide +kernel
  exact propext (this w hw)
