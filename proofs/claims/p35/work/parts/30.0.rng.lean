/-! the reference's row: ranges by place -/
def fuR : Int × Int := (-2147483648, 2147483647)
def rgB (o : Nat) : Int × Int := if o = 0 ∨ o = 1 ∨ o = 2 ∨ o = 7 then (0, 7) else if o = 8 ∨ o = 18 then (0, 12) else if o = 19 then (-1, 7) else if 40 ≤ o ∧ o < 184 ∧ (o - 40) % 12 = 3 then (0, 7) else if 40 ≤ o ∧ o < 184 ∧ (o - 40) % 12 = 2 then (-1, 7) else fuR
def rgW (o : Nat) : Int × Int := if o = 1 then (0, 4) else if 20 ≤ o then rgB ((o - 20) % 280) else fuR
def rgA (j : Nat) : Int × Int := if j < 2280 then rgW (j % 1140) else if (j - 2280) % 1742 < 1140 then rgW ((j - 2280) % 1742) else fuR
def inR (r : Int × Int) (v : Int32) : Prop := r.1 ≤ v.toInt ∧ v.toInt ≤ r.2
def Rng (f : Nat → Int32) : Prop := ∀ j, j < 7506 → inR (rgA j) (f j)
def Ke (f g : Nat → Int32) : Prop := ∀ j, 2280 ≤ j → g j = f j
theorem Ke.rf {f : Nat → Int32} : Ke f f := fun _ _ => rfl
theorem Ke.tr {f g h : Nat → Int32} (h1 : Ke f g) (h2 : Ke g h) : Ke f h := fun j hj => (h2 j hj).trans (h1 j hj)
theorem Ke.up {f g : Nat → Int32} {i : Nat} {v : Int32} (h : Ke f g) (hi : i < 2280) : Ke f (upd g i v) := fun j hj => by
  rw [show upd g i v j = g j by simp [upd, show j ≠ i by omega]]
  exact h j hj
theorem fu_all (v : Int32) : inR fuR v := iRg v
theorem rgB0 (o : Nat) : (rgB o).1 ≤ 0 ∧ 0 ≤ (rgB o).2 := by
  unfold rgB
  (repeat' split) <;> exact ⟨by decide, by decide⟩
theorem rgW0 (o : Nat) : (rgW o).1 ≤ 0 ∧ 0 ≤ (rgW o).2 := by
  unfold rgW
  split
  · exact ⟨by decide, by decide⟩
  · split
    · exact rgB0 _
    · exact ⟨by decide, by decide⟩
theorem rgA0 (j : Nat) : inR (rgA j) 0 := by
  show (rgA j).1 ≤ 0 ∧ 0 ≤ (rgA j).2
  unfold rgA
  split
  · exact rgW0 _
  · split
    · exact rgW0 _
    · exact ⟨by decide, by decide⟩
theorem rgX {t b o xn : Nat} (ht : t < 2) (hb : b < 4) (hx : xn = 1140 * t + 20 + 280 * b) (ho : o < 280) : rgA (xn + o) = rgB o := by
  have e1 : (xn + o) % 1140 = 20 + 280 * b + o := by
    rcases (show t = 0 ∨ t = 1 by omega) with rfl | rfl <;> omega
  unfold rgA
  rw [if_pos (by omega), e1]
  unfold rgW
  rw [if_neg (by omega), if_pos (by omega)]
  congr 1
  omega
theorem rgL {i : Nat} (h : (i < 20 ∧ i ≠ 1) ∨ (1140 ≤ i ∧ i < 1160 ∧ i ≠ 1141)) : rgA i = fuR := by
  unfold rgA
  rw [if_pos (by omega)]
  unfold rgW
  rw [if_neg (by omega), if_neg (by omega)]
theorem rg1 {i : Nat} (h : i = 1) : rgA i = (0, 4) := by rw [h]; rfl
theorem rgBf {o : Nat} (h : o ≠ 0 ∧ o ≠ 1 ∧ o ≠ 2 ∧ o ≠ 7 ∧ o ≠ 8 ∧ o ≠ 18 ∧ o ≠ 19 ∧ (40 ≤ o → o < 184 → (o - 40) % 12 ≠ 3 ∧ (o - 40) % 12 ≠ 2)) : rgB o = fuR := by
  unfold rgB
  rw [if_neg (by omega), if_neg (by omega), if_neg (by omega), if_neg (by omega), if_neg (by omega)]
theorem rgS3 {k : Nat} (h : k < 12) : rgB (40 + 12 * k + 3) = (0, 7) := by
  have : ∀ k, k < 12 → rgB (40 + 12 * k + 3) = (0, 7) := by decide
  exact this k h
theorem rgS2 {k : Nat} (h : k < 12) : rgB (40 + 12 * k + 2) = (-1, 7) := by
  have : ∀ k, k < 12 → rgB (40 + 12 * k + 2) = (-1, 7) := by decide
  exact this k h
theorem Rng.up {f : Nat → Int32} {i : Nat} {v : Int32} (h : Rng f) (hv : inR (rgA i) v) : Rng (upd f i v) := fun j hj => by
  by_cases hji : j = i
  · subst hji
    rw [show upd f j v j = v by simp [upd]]
    exact hv
  · rw [show upd f i v j = f j by simp [upd, hji]]
    exact h j hj
theorem Rng.u0 {f : Nat → Int32} {i : Nat} (h : Rng f) : Rng (upd f i 0) := h.up (rgA0 i)
theorem Rng.uL {f : Nat → Int32} {i : Nat} {v : Int32} (h : Rng f) (hi : (i < 20 ∧ i ≠ 1) ∨ (1140 ≤ i ∧ i < 1160 ∧ i ≠ 1141)) : Rng (upd f i v) := h.up (by rw [rgL hi]; exact fu_all v)
theorem Rng.u1 {f : Nat → Int32} {i : Nat} {v : Int32} (h : Rng f) (hi : i = 1) (h1 : 0 ≤ v.toInt) (h2 : v.toInt ≤ 4) : Rng (upd f i v) := h.up (by rw [rg1 hi]; exact ⟨h1, h2⟩)
/-- a place of a bill of which nothing is asked -/
theorem Rng.uX {f : Nat → Int32} {i : Nat} {v : Int32} {t b xn : Nat} (h : Rng f) (ht : t < 2) (hb : b < 4) (hx : xn = 1140 * t + 20 + 280 * b) (h1 : xn ≤ i) (h2 : i < xn + 280) (h3 : i - xn ≠ 0 ∧ i - xn ≠ 1 ∧ i - xn ≠ 2 ∧ i - xn ≠ 7 ∧ i - xn ≠ 8 ∧ i - xn ≠ 18 ∧ i - xn ≠ 19 ∧ (40 ≤ i - xn → i - xn < 184 → (i - xn - 40) % 12 ≠ 3 ∧ (i - xn - 40) % 12 ≠ 2)) : Rng (upd f i v) := by
  have e : i = xn + (i - xn) := by omega
  refine h.up ?_
  rw [e, rgX ht hb hx (by omega), rgBf h3]
  exact fu_all v
/-- a place with a range -/
theorem Rng.uO {f : Nat → Int32} {i : Nat} {v : Int32} {t b xn : Nat} (o : Nat) {lo hi : Int} (h : Rng f) (ht : t < 2) (hb : b < 4) (hx : xn = 1140 * t + 20 + 280 * b) (ho : o < 280) (hr : rgB o = (lo, hi)) (h1 : i = xn + o) (h2 : lo ≤ v.toInt) (h3 : v.toInt ≤ hi) : Rng (upd f i v) := by
  refine h.up ?_
  rw [h1, rgX ht hb hx ho, hr]
  exact ⟨h2, h3⟩
theorem Rng.rO {f : Nat → Int32} {t b xn : Nat} (o : Nat) {lo hi : Int} (h : Rng f) (ht : t < 2) (hb : b < 4) (hx : xn = 1140 * t + 20 + 280 * b) (ho : o < 280) (hr : rgB o = (lo, hi)) : lo ≤ (f (xn + o)).toInt ∧ (f (xn + o)).toInt ≤ hi := by
  have h1 := h (xn + o) (by omega)
  rw [rgX ht hb hx ho, hr] at h1
  exact h1
theorem Rng.r1 {f : Nat → Int32} (h : Rng f) : 0 ≤ (f 1).toInt ∧ (f 1).toInt ≤ 4 := by
  have h1 := h 1 (by decide)
  rw [rg1 rfl] at h1
  exact h1
/-- a place is copied from one of the same kind -/
theorem Rng.uC {f : Nat → Int32} {i j : Nat} {v : Int32} (h : Rng f) (hv : v = f j) (hj : j < 7506) (hr : rgA i = rgA j) : Rng (upd f i v) := h.up (by rw [hv, hr]; exact h j hj)
theorem clE {i : Int32} {n : Nat} (h : i.toInt = (n : Int)) : Int32.toNatClampNeg i = n := by
  show i.toInt.toNat = n
  omega
theorem clT {i : Int32} {z : Int} (h : i.toInt = z) : Int32.toNatClampNeg i = z.toNat := by
  show i.toInt.toNat = _
  rw [h]
/-! what the reference's questions say -/
def whoI (f : Nat → Int32) (x p : Nat) : Int := if p = 0 then (if (f (x + 6)).toInt = 1 then (f (x + 1)).toInt else -1) else if p = 1 then (f x).toInt else if (f (x + 40 + 12 * (p - 2))).toInt < 3 then (f (x + 40 + 12 * (p - 2) + 2)).toInt else -1
def sgnF (f : Nat → Int32) (x p : Nat) : Prop := whoI f x p ≠ -1 ∧ (p < 2 ∨ (f (x + 40 + 12 * (p - 2) + 11)).toInt = 0)
def titF (f : Nat → Int32) (x : Nat) : Prop := ((f (x + 11)).toInt = 1 ∨ (f (x + 12)).toInt = (f (x + 7)).toInt) ∧ (f (x + 16)).toInt = -1 ∧ (f (x + 15)).toInt = 0
noncomputable def rkF (f : Nat → Int32) (x : Nat) : Nat → Nat → Nat
  | 0, p => p
  | n + 1, p => @ite _ (sgnF f x p ∧ whoI f x p = (f (x + 7)).toInt) (Classical.propDecidable _) p (rkF f x n (p + 1))
noncomputable def rankF (f : Nat → Int32) (x : Nat) : Nat := rkF f x (1 + (f (x + 8)).toInt).toNat 1
def Lia (f : Nat → Int32) (t x p : Nat) : Prop := titF f x ∧ (f (x + 10)).toInt ≠ 1 ∧ sgnF f x p ∧ p < rankF f x ∧ (f (x + 184 + 6 * p + 1)).toInt ≤ 0 ∧ (1 < p → (f (x + 40 + 12 * (p - 2) + 6)).toInt ≠ 1) ∧ (p = 0 → (f (x + 4)).toInt ≤ (f (1140 * t)).toInt) ∧ (p ≠ 0 → (f (x + 9)).toInt ≠ -1) ∧ (0 < p → (f (x + 184 + 6 * p)).toInt ≠ -1) ∧ (f (x + 184 + 6 * p + 3) &&& 1).toInt ≠ 1 ∧ ((f (x + 184 + 6 * p + 3) &&& 2).toInt = 2 → (f (x + 14)).toInt ≠ 1)
def CshF (f : Nat → Int32) (t x p : Nat) : Prop := (f (x + 3)).toInt ≤ (f ((1140 * (t : Int) + 6 + whoI f x p).toNat)).toInt
def PayP (f g : Nat → Int32) (x p : Nat) : Prop := g (x + 8) = f (x + 8) ∧ (p = 0 → (g (x + 10)).toInt = 1) ∧ (1 ≤ p → ∀ q, p ≤ q → (q : Int) ≤ 1 + (f (x + 8)).toInt → 0 < (g (x + 184 + 6 * q + 1)).toInt)
theorem rk_hit {f : Nat → Int32} {x n p : Nat} (h : sgnF f x p ∧ whoI f x p = (f (x + 7)).toInt) : rkF f x (n + 1) p = p := by
  unfold rkF
  exact if_pos h
theorem rk_miss {f : Nat → Int32} {x n p : Nat} (h : ¬ (sgnF f x p ∧ whoI f x p = (f (x + 7)).toInt)) : rkF f x (n + 1) p = rkF f x n (p + 1) := by
  rw [show rkF f x (n + 1) p = @ite _ (sgnF f x p ∧ whoI f x p = (f (x + 7)).toInt) (Classical.propDecidable _) p (rkF f x n (p + 1)) from rfl]
  exact if_neg h
/-- the steps' number and who is freed stay -/
def Kp (f g : Nat → Int32) (x : Nat) : Prop := g (x + 8) = f (x + 8) ∧ ∀ q, q ≤ 13 → g (x + 184 + 6 * q + 1) = f (x + 184 + 6 * q + 1)
theorem Kp.rf {f : Nat → Int32} {x : Nat} : Kp f f x := ⟨rfl, fun _ _ => rfl⟩
theorem Kp.tr {f g h : Nat → Int32} {x : Nat} (h1 : Kp f g x) (h2 : Kp g h x) : Kp f h x := ⟨h2.1.trans h1.1, fun q hq => (h2.2 q hq).trans (h1.2 q hq)⟩
theorem Kp.up {f g : Nat → Int32} {x i : Nat} {v : Int32} (h : Kp f g x) (h1 : i ≠ x + 8) (h2 : i < x + 184) : Kp f (upd g i v) x := by
  refine ⟨?_, fun q hq => ?_⟩
  · rw [show upd g i v (x + 8) = g (x + 8) by simp [upd, show x + 8 ≠ i by omega]]
    exact h.1
  · rw [show upd g i v (x + 184 + 6 * q + 1) = g (x + 184 + 6 * q + 1) by simp [upd, show x + 184 + 6 * q + 1 ≠ i by omega]]
    exact h.2 q hq
