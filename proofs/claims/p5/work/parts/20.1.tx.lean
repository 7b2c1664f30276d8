/-! tokens, words, lines, the place of a fault: as functions of the text alone -/
def pSp (x : Int) : Bool := decide (x = 10 ∨ x = 32)
def pLe (x : Int) : Bool := decide (97 ≤ x ∧ x ≤ 122)
def pDi (x : Int) : Bool := decide (48 ≤ x ∧ x ≤ 57)
def scan (P : Int → Bool) (c : Nat → Int) (n : Nat) : Nat → Nat → Nat
  | 0, k => k
  | f + 1, k => if k < n ∧ P (c k) = true then scan P c n f (k + 1) else k
def scE (P : Int → Bool) (c : Nat → Int) (n k : Nat) : Nat := scan P c n (n - k) k
theorem scan_s {P : Int → Bool} {c : Nat → Int} {n f k : Nat} : scan P c n (f + 1) k = if k < n ∧ P (c k) = true then scan P c n f (k + 1) else k := rfl
theorem scE_step {P : Int → Bool} {c : Nat → Int} {n k : Nat} (h : k < n) (hp : P (c k) = true) : scE P c n k = scE P c n (k + 1) := by
  unfold scE
  rw [show n - k = (n - (k + 1)) + 1 by omega, scan_s, if_pos ⟨h, hp⟩]
theorem scE_stop {P : Int → Bool} {c : Nat → Int} {n k : Nat} (h : n ≤ k ∨ P (c k) = false) : scE P c n k = k := by
  unfold scE
  cases hn : n - k with
  | zero => rfl
  | succ f =>
    rw [scan_s, if_neg]
    intro h2
    rcases h with h | h
    · omega
    · rw [h] at h2; cases h2.2
theorem scan_rg {P : Int → Bool} {c : Nat → Int} {n : Nat} : ∀ (f k : Nat), k ≤ scan P c n f k ∧ (k ≤ n → scan P c n f k ≤ n) := by
  intro f
  induction f with
  | zero => intro k; exact ⟨Nat.le_refl _, fun h => h⟩
  | succ f ih =>
    intro k
    rw [scan_s]
    by_cases h : k < n ∧ P (c k) = true
    · rw [if_pos h]
      have := ih (k + 1)
      exact ⟨by omega, fun _ => this.2 (by omega)⟩
    · rw [if_neg h]
      exact ⟨Nat.le_refl _, fun h => h⟩
theorem scan_all {P : Int → Bool} {c : Nat → Int} {n : Nat} : ∀ (f k j : Nat), k ≤ j → j < scan P c n f k → P (c j) = true := by
  intro f
  induction f with
  | zero => intro k j h1 h2; exact absurd h2 (Nat.not_lt.mpr h1)
  | succ f ih =>
    intro k j h1 h2
    rw [scan_s] at h2
    by_cases h : k < n ∧ P (c k) = true
    · rw [if_pos h] at h2
      by_cases hj : j = k
      · rw [hj]; exact h.2
      · exact ih (k + 1) j (by omega) h2
    · rw [if_neg h] at h2
      omega
theorem scE_ge {P : Int → Bool} {c : Nat → Int} {n k : Nat} : k ≤ scE P c n k := (scan_rg _ _).1
theorem scE_le {P : Int → Bool} {c : Nat → Int} {n k : Nat} (h : k ≤ n) : scE P c n k ≤ n := (scan_rg _ _).2 h
theorem scE_all {P : Int → Bool} {c : Nat → Int} {n k j : Nat} (h1 : k ≤ j) (h2 : j < scE P c n k) : P (c j) = true := scan_all _ _ _ h1 h2
def kiF (c : Nat → Int) (n p : Nat) : Nat := if n ≤ p then 0 else if pLe (c p) = true then 1 else if pDi (c p) = true then (if scE pDi c n p ≤ p + 4 then 2 else 4) else if c p = 59 then 3 else 4
def beF (c : Nat → Int) (n p : Nat) : Nat := if n ≤ p then p else if pLe (c p) = true then scE pLe c n p else if pDi (c p) = true then scE pDi c n p else p + 1
def nxF (c : Nat → Int) (n p : Nat) : Nat := scE pSp c n (beF c n p)
def wIs (c : Nat → Int) (n p i : Nat) : Prop := kiF c n p = 1 ∧ beF c n p = p + zLen i ∧ ∀ j, j < zLen i → c (p + j) = (zByt i j).toInt
noncomputable def vf (c : Nat → Int) (n p : Nat) : Nat → Nat → Nat
  | 0, i => i
  | f + 1, i => @ite _ (wIs c n p i) (Classical.propDecidable _) i (vf c n p f (i + 1))
noncomputable def vF (c : Nat → Int) (n p : Nat) : Nat := vf c n p 19 0
def nmF (c : Nat → Int) (n : Nat) : Nat → Nat → Bool × Nat
  | 0, p => (true, p)
  | k + 1, p => if kiF c n p = 2 then nmF c n k (nxF c n p) else (false, p)
noncomputable def opF (c : Nat → Int) (n : Nat) (b : Prop) (i p : Nat) : Nat := @ite _ (b ∧ wIs c n p i) (Classical.propDecidable _) (nxF c n p) p
noncomputable def enF (c : Nat → Int) (n v : Nat) (q : Bool × Nat) : Bool × Nat := if q.1 = true then (if kiF c n (opF c n (zWit v = 1) 20 (opF c n (zNot v = 1) 19 q.2)) = 3 then (true, nxF c n (opF c n (zWit v = 1) 20 (opF c n (zNot v = 1) 19 q.2))) else (false, opF c n (zWit v = 1) 20 (opF c n (zNot v = 1) 19 q.2))) else (false, q.2)
noncomputable def lnF (c : Nat → Int) (n p : Nat) : Bool × Nat := if vF c n p = 19 then (false, p) else enF c n (vF c n p) (nmF c n (zNum (vF c n p)).toInt.toNat (nxF c n p))
noncomputable def ftF (c : Nat → Int) (n : Nat) : Nat → Nat → Int
  | 0, _ => -1
  | f + 1, p => if kiF c n p = 0 then -1 else if (lnF c n p).1 = true then ftF c n f (lnF c n p).2 else ((lnF c n p).2 : Int)
noncomputable def FT (f : Nat → Int32) (n : Nat) : Int := ftF (nC f) n (n + 1) (scE pSp (nC f) n 0)
/-- a reader stands at a token -/
def Tk (f : Nat → Int32) (le ki pl be : Int32) : Prop := ki.toInt = (kiF (nC f) le.toInt.toNat pl.toInt.toNat : Int) ∧ be.toInt = (beF (nC f) le.toInt.toNat pl.toInt.toNat : Int)
theorem nr_c (x : Int) : ((0 ≤ x ∧ x ≤ 127) ∧ nr x = x) ∨ (¬ (0 ≤ x ∧ x ≤ 127) ∧ nr x = 200) := by
  by_cases h : 0 ≤ x ∧ x ≤ 127
  · exact Or.inl ⟨h, if_pos h⟩
  · exact Or.inr ⟨h, if_neg h⟩
theorem nr_sp {x : Int} : pSp (nr x) = true ↔ x = 10 ∨ x = 32 := by
  unfold pSp
  rw [decide_eq_true_iff]
  have := nr_c x
  omega
theorem nr_le {x : Int} : pLe (nr x) = true ↔ 97 ≤ x ∧ x ≤ 122 := by
  unfold pLe
  rw [decide_eq_true_iff]
  have := nr_c x
  omega
theorem nr_di {x : Int} : pDi (nr x) = true ↔ 48 ≤ x ∧ x ≤ 57 := by
  unfold pDi
  rw [decide_eq_true_iff]
  have := nr_c x
  omega
theorem nr_lt {x k : Int} (h0 : 0 ≤ k) (h1 : k ≤ 127) : nr x = k ↔ x = k := by
  have := nr_c x
  omega
theorem bF {b : Bool} (h : ¬ b = true) : b = false := by cases b with
  | true => exact absurd rfl h
  | false => rfl
/-- loops over spaces, letters, digits -/
theorem skS {f : Nat → Int32} {n P : Nat} {y z : Int32} (hn : n ≤ 600) (hv : scE pSp (nC f) n y.toInt.toNat = P) (h0 : 0 ≤ y.toInt) (h1 : y.toInt < (n : Int)) (hz : z.toInt = y.toInt + 1) (hs : (f y.toInt.toNat).toInt = 10 ∨ (f y.toInt.toNat).toInt = 32) : scE pSp (nC f) n z.toInt.toNat = P := by
  rw [← hv, scE_step (k := y.toInt.toNat) (by omega) (by rw [nC_at (by omega)]; exact nr_sp.mpr hs), show z.toInt.toNat = y.toInt.toNat + 1 by omega]
theorem skE {f : Nat → Int32} {n P : Nat} {y : Int32} (hn : n ≤ 600) (hv : scE pSp (nC f) n y.toInt.toNat = P) (h0 : 0 ≤ y.toInt) (hs : (n : Int) ≤ y.toInt ∨ ¬ ((f y.toInt.toNat).toInt = 10 ∨ (f y.toInt.toNat).toInt = 32)) : y.toInt = (P : Int) := by
  by_cases h : (n : Int) ≤ y.toInt
  · rw [scE_stop (Or.inl (by omega))] at hv
    omega
  · rw [scE_stop (Or.inr (by rw [nC_at (by omega)]; exact bF (fun q => (hs.resolve_left h) (nr_sp.mp q))))] at hv
    omega
theorem leS {f : Nat → Int32} {n P : Nat} {y z : Int32} (hn : n ≤ 600) (hv : scE pLe (nC f) n y.toInt.toNat = P) (h0 : 0 ≤ y.toInt) (h1 : y.toInt < (n : Int)) (hz : z.toInt = y.toInt + 1) (hs : 97 ≤ (f y.toInt.toNat).toInt ∧ (f y.toInt.toNat).toInt ≤ 122) : scE pLe (nC f) n z.toInt.toNat = P := by
  rw [← hv, scE_step (k := y.toInt.toNat) (by omega) (by rw [nC_at (by omega)]; exact nr_le.mpr hs), show z.toInt.toNat = y.toInt.toNat + 1 by omega]
theorem leE {f : Nat → Int32} {n P : Nat} {y : Int32} (hn : n ≤ 600) (hv : scE pLe (nC f) n y.toInt.toNat = P) (h0 : 0 ≤ y.toInt) (hs : (n : Int) ≤ y.toInt ∨ ¬ (97 ≤ (f y.toInt.toNat).toInt ∧ (f y.toInt.toNat).toInt ≤ 122)) : y.toInt = (P : Int) := by
  by_cases h : (n : Int) ≤ y.toInt
  · rw [scE_stop (Or.inl (by omega))] at hv
    omega
  · rw [scE_stop (Or.inr (by rw [nC_at (by omega)]; exact bF (fun q => (hs.resolve_left h) (nr_le.mp q))))] at hv
    omega
theorem diS {f : Nat → Int32} {n P : Nat} {y z : Int32} (hn : n ≤ 600) (hv : scE pDi (nC f) n y.toInt.toNat = P) (h0 : 0 ≤ y.toInt) (h1 : y.toInt < (n : Int)) (hz : z.toInt = y.toInt + 1) (hs : 48 ≤ (f y.toInt.toNat).toInt ∧ (f y.toInt.toNat).toInt ≤ 57) : scE pDi (nC f) n z.toInt.toNat = P := by
  rw [← hv, scE_step (k := y.toInt.toNat) (by omega) (by rw [nC_at (by omega)]; exact nr_di.mpr hs), show z.toInt.toNat = y.toInt.toNat + 1 by omega]
theorem diE {f : Nat → Int32} {n P : Nat} {y : Int32} (hn : n ≤ 600) (hv : scE pDi (nC f) n y.toInt.toNat = P) (h0 : 0 ≤ y.toInt) (hs : (n : Int) ≤ y.toInt ∨ ¬ (48 ≤ (f y.toInt.toNat).toInt ∧ (f y.toInt.toNat).toInt ≤ 57)) : y.toInt = (P : Int) := by
  by_cases h : (n : Int) ≤ y.toInt
  · rw [scE_stop (Or.inl (by omega))] at hv
    omega
  · rw [scE_stop (Or.inr (by rw [nC_at (by omega)]; exact bF (fun q => (hs.resolve_left h) (nr_di.mp q))))] at hv
    omega
/-- what a token is -/
theorem tk0 {f : Nat → Int32} {le pl : Int32} (h : le.toInt ≤ pl.toInt) (h0 : 0 ≤ le.toInt) : Tk f le 0 pl pl := by
  have hnp : le.toInt.toNat ≤ pl.toInt.toNat := by omega
  have e1 : kiF (nC f) le.toInt.toNat pl.toInt.toNat = 0 := by unfold kiF; rw [if_pos hnp]
  have e2 : beF (nC f) le.toInt.toNat pl.toInt.toNat = pl.toInt.toNat := by unfold beF; rw [if_pos hnp]
  unfold Tk
  rw [e1, e2]
  exact ⟨rfl, by omega⟩
theorem tkW {f : Nat → Int32} {le pl be : Int32} (hn : le.toInt ≤ 600) (h0 : 0 ≤ pl.toInt) (h : pl.toInt < le.toInt) (hs : 97 ≤ (f pl.toInt.toNat).toInt ∧ (f pl.toInt.toNat).toInt ≤ 122) (hb : be.toInt = (scE pLe (nC f) le.toInt.toNat pl.toInt.toNat : Int)) : Tk f le 1 pl be := by
  have hp : pLe (nC f pl.toInt.toNat) = true := by rw [nC_at (by omega)]; exact nr_le.mpr hs
  have hnp : ¬ le.toInt.toNat ≤ pl.toInt.toNat := by omega
  have e1 : kiF (nC f) le.toInt.toNat pl.toInt.toNat = 1 := by unfold kiF; rw [if_neg hnp, if_pos hp]
  have e2 : beF (nC f) le.toInt.toNat pl.toInt.toNat = scE pLe (nC f) le.toInt.toNat pl.toInt.toNat := by unfold beF; rw [if_neg hnp, if_pos hp]
  unfold Tk
  rw [e1, e2]
  exact ⟨rfl, hb⟩
theorem tkD {f : Nat → Int32} {le ki pl be : Int32} (hn : le.toInt ≤ 600) (h0 : 0 ≤ pl.toInt) (h : pl.toInt < le.toInt) (hs : 48 ≤ (f pl.toInt.toNat).toInt ∧ (f pl.toInt.toNat).toInt ≤ 57) (hb : be.toInt = (scE pDi (nC f) le.toInt.toNat pl.toInt.toNat : Int)) (hk : (be.toInt ≤ pl.toInt + 4 ∧ ki.toInt = 2) ∨ (pl.toInt + 4 < be.toInt ∧ ki.toInt = 4)) : Tk f le ki pl be := by
  have hp : pDi (nC f pl.toInt.toNat) = true := by rw [nC_at (by omega)]; exact nr_di.mpr hs
  have hq : ¬ pLe (nC f pl.toInt.toNat) = true := by rw [nC_at (by omega)]; exact fun q => by have := nr_le.mp q; omega
  have hnp : ¬ le.toInt.toNat ≤ pl.toInt.toNat := by omega
  have e1 : kiF (nC f) le.toInt.toNat pl.toInt.toNat = if scE pDi (nC f) le.toInt.toNat pl.toInt.toNat ≤ pl.toInt.toNat + 4 then 2 else 4 := by unfold kiF; rw [if_neg hnp, if_neg hq, if_pos hp]
  have e2 : beF (nC f) le.toInt.toNat pl.toInt.toNat = scE pDi (nC f) le.toInt.toNat pl.toInt.toNat := by unfold beF; rw [if_neg hnp, if_neg hq, if_pos hp]
  unfold Tk
  rw [e1, e2]
  refine ⟨?_, hb⟩
  rcases hk with hk | hk
  · rw [if_pos (by omega)]; exact hk.2
  · rw [if_neg (by omega)]; exact hk.2
theorem tkX {f : Nat → Int32} {le ki pl be : Int32} (hn : le.toInt ≤ 600) (h0 : 0 ≤ pl.toInt) (h : pl.toInt < le.toInt) (h1 : ¬ (97 ≤ (f pl.toInt.toNat).toInt ∧ (f pl.toInt.toNat).toInt ≤ 122)) (h2 : ¬ (48 ≤ (f pl.toInt.toNat).toInt ∧ (f pl.toInt.toNat).toInt ≤ 57)) (hb : be.toInt = pl.toInt + 1) (hk : ((f pl.toInt.toNat).toInt = 59 ∧ ki.toInt = 3) ∨ ((f pl.toInt.toNat).toInt ≠ 59 ∧ ki.toInt = 4)) : Tk f le ki pl be := by
  have hp : ¬ pDi (nC f pl.toInt.toNat) = true := by rw [nC_at (by omega)]; exact fun q => h2 (nr_di.mp q)
  have hq : ¬ pLe (nC f pl.toInt.toNat) = true := by rw [nC_at (by omega)]; exact fun q => h1 (nr_le.mp q)
  have hnp : ¬ le.toInt.toNat ≤ pl.toInt.toNat := by omega
  have e1 : kiF (nC f) le.toInt.toNat pl.toInt.toNat = if nC f pl.toInt.toNat = 59 then 3 else 4 := by unfold kiF; rw [if_neg hnp, if_neg hq, if_neg hp]
  have e2 : beF (nC f) le.toInt.toNat pl.toInt.toNat = pl.toInt.toNat + 1 := by unfold beF; rw [if_neg hnp, if_neg hq, if_neg hp]
  unfold Tk
  rw [e1, e2]
  refine ⟨?_, by omega⟩
  rcases hk with hk | hk
  · rw [if_pos (by rw [nC_at (by omega)]; exact (nr_lt (by omega) (by omega)).mpr hk.1)]; exact hk.2
  · rw [if_neg (fun q => hk.1 ((nr_lt (by omega) (by omega)).mp (by rw [← nC_at (f := f) (by omega)]; exact q)))]; exact hk.2
theorem Tk.nx {f : Nat → Int32} {le ki pl be : Int32} (h : Tk f le ki pl be) : scE pSp (nC f) le.toInt.toNat be.toInt.toNat = nxF (nC f) le.toInt.toNat pl.toInt.toNat := by
  unfold nxF
  rw [show be.toInt.toNat = beF (nC f) le.toInt.toNat pl.toInt.toNat by have := h.2; omega]
theorem Tk.ki {f : Nat → Int32} {le ki pl be : Int32} (h : Tk f le ki pl be) : (kiF (nC f) le.toInt.toNat pl.toInt.toNat : Int) = ki.toInt := h.1.symm
/-- words -/
theorem wIs_no {f : Nat → Int32} {le ki pl be : Int32} {i : Nat} (h : Tk f le ki pl be) (h0 : 0 ≤ pl.toInt) (hk : ki.toInt ≠ 1 ∨ be.toInt - pl.toInt ≠ (zLen i : Int)) : ¬ wIs (nC f) le.toInt.toNat pl.toInt.toNat i := fun q => by
  have h1 := h.1
  have h2 := h.2
  have q1 := q.1
  have q2 := q.2.1
  omega
theorem wIs_ch {f : Nat → Int32} {le pl : Int32} {i j : Nat} (hj : j < zLen i) (hk : pl.toInt.toNat + j < 600) (hne : (f (pl.toInt.toNat + j)).toInt ≠ (zByt i j).toInt) (hz : 0 ≤ (zByt i j).toInt ∧ (zByt i j).toInt ≤ 127) : ¬ wIs (nC f) le.toInt.toNat pl.toInt.toNat i := fun q => by
  have q3 := q.2.2 j hj
  rw [nC_at hk] at q3
  exact hne ((nr_lt hz.1 hz.2).mp q3)
theorem zByt_r {i j : Nat} (hi : i < 21) (hj : j < zLen i) : 97 ≤ (zByt i j).toInt ∧ (zByt i j).toInt ≤ 122 := by
  have : ∀ i, i < 21 → ∀ j, j < zLen i → 97 ≤ (zByt i j).toInt ∧ (zByt i j).toInt ≤ 122 := by decide +kernel
  exact this i hi j hj
theorem zByt_c {i j : Nat} (hi : i < 21) (hj : j < zLen i) : ((zByt i j &&& 255).toUInt32 % 65536).toInt32 = zByt i j := by
  have : ∀ i, i < 21 → ∀ j, j < zLen i → ((zByt i j &&& 255).toUInt32 % 65536).toInt32 = zByt i j := by decide +kernel
  exact this i hi j hj
theorem wIs_ok {f : Nat → Int32} {le ki pl be : Int32} {i : Nat} (h : Tk f le ki pl be) (h0 : 0 ≤ pl.toInt) (hk : ki.toInt = 1) (hb : be.toInt - pl.toInt = (zLen i : Int)) (hi : i < 21) (h6 : be.toInt ≤ 600) (hc : ∀ j, j < zLen i → (f (pl.toInt.toNat + j)).toInt = (zByt i j).toInt) : wIs (nC f) le.toInt.toNat pl.toInt.toNat i := by
  have h1 := h.1
  have h2 := h.2
  refine ⟨by omega, by omega, fun j hj => ?_⟩
  have hz := zByt_r hi hj
  rw [nC_at (by omega)]
  exact (nr_lt (by omega) (by omega)).mpr (hc j hj)
theorem vf_hit {c : Nat → Int} {n p f i : Nat} (h : wIs c n p i) : vf c n p (f + 1) i = i := if_pos h
theorem vf_miss {c : Nat → Int} {n p f i : Nat} (h : ¬ wIs c n p i) : vf c n p (f + 1) i = vf c n p f (i + 1) := if_neg h
theorem opF_y {c : Nat → Int} {n i p : Nat} {b : Prop} (h : b ∧ wIs c n p i) : opF c n b i p = nxF c n p := if_pos h
theorem opF_n {c : Nat → Int} {n i p : Nat} {b : Prop} (h : ¬ (b ∧ wIs c n p i)) : opF c n b i p = p := if_neg h
theorem zNot1 {v : Nat} (hv : v < 19) (h : (zNot v).toInt ≠ 0) : zNot v = 1 := by
  have : ∀ v, v < 19 → (zNot v).toInt ≠ 0 → zNot v = 1 := by decide +kernel
  exact this v hv h
theorem zWit1 {v : Nat} (hv : v < 19) (h : (zWit v).toInt ≠ 0) : zWit v = 1 := by
  have : ∀ v, v < 19 → (zWit v).toInt ≠ 0 → zWit v = 1 := by decide +kernel
  exact this v hv h
/-- numbers of a line -/
theorem nmS {c : Nat → Int} {n k p : Nat} (h : kiF c n p = 2) : nmF c n (k + 1) p = nmF c n k (nxF c n p) := if_pos h
theorem nmN {c : Nat → Int} {n k p : Nat} (h : ¬ kiF c n p = 2) : nmF c n (k + 1) p = (false, p) := if_neg h
theorem lnN {c : Nat → Int} {n p : Nat} (h : vF c n p = 19) : lnF c n p = (false, p) := if_pos h
theorem lnY {c : Nat → Int} {n p v : Nat} (h : vF c n p = v) (h19 : v < 19) : lnF c n p = enF c n v (nmF c n (zNum v).toInt.toNat (nxF c n p)) := by
  unfold lnF
  rw [if_neg (by omega), h]
theorem enB {c : Nat → Int} {n v p : Nat} : enF c n v (false, p) = (false, p) := if_neg (by simp)
theorem enT {c : Nat → Int} {n v p q r : Nat} (hq : opF c n (zNot v = 1) 19 p = q) (hr : opF c n (zWit v = 1) 20 q = r) : enF c n v (true, p) = if kiF c n r = 3 then (true, nxF c n r) else (false, r) := by
  unfold enF
  rw [if_pos rfl]
  show (if kiF c n (opF c n (zWit v = 1) 20 (opF c n (zNot v = 1) 19 p)) = 3 then (true, nxF c n (opF c n (zWit v = 1) 20 (opF c n (zNot v = 1) 19 p))) else (false, opF c n (zWit v = 1) 20 (opF c n (zNot v = 1) 19 p))) = _
  rw [hq, hr]
theorem ft0 {c : Nat → Int} {n p : Nat} : ftF c n 0 p = -1 := rfl
theorem ftE {c : Nat → Int} {n p f : Nat} (h : kiF c n p = 0) : ftF c n (f + 1) p = -1 := if_pos h
theorem ftY {c : Nat → Int} {n p q f : Nat} (h : ¬ kiF c n p = 0) (hl : lnF c n p = (true, q)) : ftF c n (f + 1) p = ftF c n f q := by
  show (if kiF c n p = 0 then -1 else if (lnF c n p).1 = true then ftF c n f (lnF c n p).2 else ((lnF c n p).2 : Int)) = _
  rw [if_neg h, hl, if_pos rfl]
theorem ftN {c : Nat → Int} {n p q f : Nat} (h : ¬ kiF c n p = 0) (hl : lnF c n p = (false, q)) : ftF c n (f + 1) p = (q : Int) := by
  show (if kiF c n p = 0 then -1 else if (lnF c n p).1 = true then ftF c n f (lnF c n p).2 else ((lnF c n p).2 : Int)) = _
  rw [if_neg h, hl, if_neg (by simp)]
/-- a word as a number -/
def cd (c : Nat → Int) (p : Nat) : Nat → Int
  | 0 => 0
  | k + 1 => if k < 9 then 27 * cd c p k + c (p + k) - 96 else cd c p k
theorem cd_s {c : Nat → Int} {p k : Nat} (h : k < 9) : cd c p (k + 1) = 27 * cd c p k + c (p + k) - 96 := if_pos h
theorem cd_t {c : Nat → Int} {p k : Nat} (h : ¬ k < 9) : cd c p (k + 1) = cd c p k := if_neg h
theorem cd_9 {c : Nat → Int} {p : Nat} : ∀ k, cd c p (9 + k) = cd c p 9 := by
  intro k
  induction k with
  | zero => rfl
  | succ k ih => rw [show 9 + (k + 1) = (9 + k) + 1 by omega, cd_t (by omega)]; exact ih
theorem cd_bd {c : Nat → Int} {p : Nat} : ∀ k, k ≤ 9 → (∀ j, j < k → 97 ≤ c (p + j) ∧ c (p + j) ≤ 122) → 0 ≤ cd c p k ∧ cd c p k < 27 ^ k := by
  intro k
  induction k with
  | zero => intro _ _; exact ⟨Int.le_refl _, by show (0 : Int) < 27 ^ 0; decide⟩
  | succ k ih =>
    intro h hc
    obtain ⟨i1, i2⟩ := ih (by omega) (fun j hj => hc j (by omega))
    have h1 := hc k (by omega)
    rw [cd_s (by omega), Int.pow_succ]
    omega
theorem cd_b8 {c : Nat → Int} {p k : Nat} (hk : k ≤ 8) (hc : ∀ j, j < k → 97 ≤ c (p + j) ∧ c (p + j) ≤ 122) : 0 ≤ cd c p k ∧ cd c p k < 282429536481 := by
  obtain ⟨h1, h2⟩ := cd_bd k (by omega) hc
  refine ⟨h1, ?_⟩
  rcases (show k = 0 ∨ k = 1 ∨ k = 2 ∨ k = 3 ∨ k = 4 ∨ k = 5 ∨ k = 6 ∨ k = 7 ∨ k = 8 by omega) with e | e | e | e | e | e | e | e | e <;> subst e <;> omega
theorem cd_pos {c : Nat → Int} {p k : Nat} (hk : k < 9) (hc : ∀ j, j < k + 1 → 97 ≤ c (p + j) ∧ c (p + j) ≤ 122) : 0 < cd c p (k + 1) := by
  have h1 := (cd_bd (c := c) (p := p) k (by omega) (fun j hj => hc j (by omega))).1
  have h2 := hc k (by omega)
  rw [cd_s hk]
  omega
theorem cd_inj {c d : Nat → Int} {p q : Nat} : ∀ k m, k ≤ 9 → m ≤ 9 → (∀ j, j < k → 97 ≤ c (p + j) ∧ c (p + j) ≤ 122) → (∀ j, j < m → 97 ≤ d (q + j) ∧ d (q + j) ≤ 122) → cd c p k = cd d q m → k = m ∧ ∀ j, j < k → c (p + j) = d (q + j) := by
  intro k
  induction k with
  | zero =>
    intro m _ hm _ hd he
    cases m with
    | zero => exact ⟨rfl, fun j hj => absurd hj (Nat.not_lt_zero j)⟩
    | succ m =>
      have := cd_pos (c := d) (p := q) (k := m) (by omega) hd
      rw [← he] at this
      exact absurd this (by show ¬ (0 : Int) < 0; decide)
  | succ k ih =>
    intro m hk hm hc hd he
    cases m with
    | zero =>
      have := cd_pos (c := c) (p := p) (k := k) (by omega) hc
      rw [he] at this
      exact absurd this (by show ¬ (0 : Int) < 0; decide)
    | succ m =>
      have h1 := hc k (by omega)
      have h2 := hd m (by omega)
      rw [cd_s (by omega), cd_s (by omega)] at he
      obtain ⟨e1, e2⟩ := ih m (by omega) (by omega) (fun j hj => hc j (by omega)) (fun j hj => hd j (by omega)) (by omega)
      subst e1
      refine ⟨rfl, fun j hj => ?_⟩
      by_cases hjk : j = k
      · subst hjk
        have e3 : cd c p j = cd d q j := by omega
        omega
      · exact e2 j (by omega)
def zWv (i : Nat) : Int := ([2968, 60299, 4075196, 91904, 307058, 16006376, 1300196, 7593294657, 673265, 1627997121, 3497207, 125041, 357978, 169571436888, 6460043375, 158575, 209256721, 7051790291, 11716, 209256620, 9050609216] : List Int).getD i 0
theorem zWv_cd {i : Nat} (h : i < 21) : cd (fun j => (zByt i j).toInt) 0 (zLen i) = zWv i := by
  have : ∀ i, i < 21 → cd (fun j => (zByt i j).toInt) 0 (zLen i) = zWv i := by decide +kernel
  exact this i h
theorem zWo_v {i : Nat} (h : i < 19) : (zWo i).toInt = zWv i := by
  have : ∀ i, i < 19 → (zWo i).toInt = zWv i := by decide +kernel
  exact this i h
theorem zWv_r {i : Nat} (h : i < 21) : 26 < zWv i := by
  have : ∀ i, i < 21 → 26 < zWv i := by decide +kernel
  exact this i h
theorem wIs_cd {c : Nat → Int} {n p i : Nat} (hi : i < 21) (hk : kiF c n p = 1) : cd c p (beF c n p - p) = zWv i ↔ wIs c n p i := by
  have hkf : ¬ n ≤ p ∧ pLe (c p) = true := by
    unfold kiF at hk
    by_cases h1 : n ≤ p
    · rw [if_pos h1] at hk; omega
    · rw [if_neg h1] at hk
      by_cases h2 : pLe (c p) = true
      · exact ⟨h1, h2⟩
      · rw [if_neg h2] at hk
        by_cases h3 : pDi (c p) = true
        · rw [if_pos h3] at hk
          split at hk <;> omega
        · rw [if_neg h3] at hk
          split at hk <;> omega
  have hbe : beF c n p = scE pLe c n p := by
    unfold beF
    rw [if_neg hkf.1, if_pos hkf.2]
  have hge : p ≤ beF c n p := by rw [hbe]; exact scE_ge
  have hlet : ∀ j, j < beF c n p - p → 97 ≤ c (p + j) ∧ c (p + j) ≤ 122 := fun j hj => by
    have := scE_all (P := pLe) (c := c) (n := n) (k := p) (j := p + j) (by omega) (by rw [← hbe]; omega)
    unfold pLe at this
    exact of_decide_eq_true this
  have hz8 := zLen_r i
  have hzl : ∀ j, j < zLen i → 97 ≤ (fun j => (zByt i j).toInt) (0 + j) ∧ (fun j => (zByt i j).toInt) (0 + j) ≤ 122 := fun j hj => by
    show 97 ≤ (zByt i (0 + j)).toInt ∧ (zByt i (0 + j)).toInt ≤ 122
    rw [Nat.zero_add]
    exact zByt_r hi hj
  constructor
  · intro he
    rw [← zWv_cd hi] at he
    by_cases h9 : beF c n p - p ≤ 9
    · obtain ⟨e1, e2⟩ := cd_inj _ _ h9 (by omega) hlet hzl he
      refine ⟨hk, by omega, fun j hj => ?_⟩
      have := e2 j (by omega)
      rw [this]
      show (zByt i (0 + j)).toInt = _
      rw [Nat.zero_add]
    · rw [show beF c n p - p = 9 + (beF c n p - p - 9) by omega, cd_9] at he
      obtain ⟨e1, -⟩ := cd_inj 9 _ (by omega) (by omega) (fun j hj => hlet j (by omega)) hzl he
      omega
  · intro hw
    have e1 : beF c n p - p = zLen i := by have := hw.2.1; omega
    rw [e1, ← zWv_cd hi]
    have : ∀ k, k ≤ zLen i → cd c p k = cd (fun j => (zByt i j).toInt) 0 k := by
      intro k
      induction k with
      | zero => intro _; rfl
      | succ k ih =>
        intro hk2
        rw [cd_s (by omega), cd_s (by omega), ih (by omega), hw.2.2 k (by omega)]
        show _ = 27 * cd (fun j => (zByt i j).toInt) 0 k + (zByt i (0 + k)).toInt - 96
        rw [Nat.zero_add]
    exact this _ (Nat.le_refl _)
