/-! copies within the row; bits -/
def KeR (f g : Nat → Int32) (lo hi : Nat) : Prop := ∀ j, (j < lo ∨ hi ≤ j) → g j = f j
theorem KeR.rf {f : Nat → Int32} {lo hi : Nat} : KeR f f lo hi := fun _ _ => rfl
theorem KeR.up {f g : Nat → Int32} {lo hi i : Nat} {v : Int32} (h : KeR f g lo hi) (h1 : lo ≤ i) (h2 : i < hi) : KeR f (upd g i v) lo hi := fun j hj => by
  rw [show upd g i v j = g j from pk_un (by omega)]
  exact h j hj
theorem KeR.ke {f g : Nat → Int32} {lo hi : Nat} (h : KeR f g lo hi) (h1 : hi ≤ 2280) : Ke f g := fun j hj => h j (Or.inr (by omega))
theorem KeR.tr {f g k : Nat → Int32} {lo hi a b : Nat} (h : KeR f g lo hi) (h1 : KeR g k a b) (ha : lo ≤ a) (hb : b ≤ hi) : KeR f k lo hi := fun j hj => (h1 j (by omega)).trans (h j hj)
theorem rgRB {n k : Nat} (h : n = 0 ∨ n = 1140 ∨ n = 2280 ∨ n = 4022 ∨ n = 5764) (hk : k < 1140) : rgA (n + k) = rgW k := by
  rcases h with rfl | rfl | rfl | rfl | rfl
  · unfold rgA
    rw [if_pos (by omega), show (0 + k) % 1140 = k from by omega]
  · unfold rgA
    rw [if_pos (by omega), show (1140 + k) % 1140 = k from by omega]
  · unfold rgA
    rw [if_neg (by omega), show (2280 + k - 2280) % 1742 = k from by omega, if_pos hk]
  · unfold rgA
    rw [if_neg (by omega), show (4022 + k - 2280) % 1742 = k from by omega, if_pos hk]
  · unfold rgA
    rw [if_neg (by omega), show (5764 + k - 2280) % 1742 = k from by omega, if_pos hk]
theorem nxa (a b : Nat) : nI a &&& nI b = nI (a &&& b) := by
  apply Int32.toBitVec_inj.1
  show BitVec.ofNat 32 a &&& BitVec.ofNat 32 b = BitVec.ofNat 32 (a &&& b)
  apply BitVec.eq_of_getLsbD_eq
  intro i hi
  simp [hi]
theorem andm1 {y z : Int32} (h : 0 < y.toInt) (hz : z.toInt = y.toInt - 1) : 0 ≤ (y &&& z).toInt ∧ (y &&& z).toInt < y.toInt := by
  have hr := iRg y
  obtain ⟨k, hk⟩ : ∃ k : Nat, y.toInt = (k : Int) := ⟨y.toInt.toNat, by omega⟩
  have e1 : y = nI k := iEq.mpr (by rw [nI_toInt (by omega)]; exact hk)
  have e2 : z = nI (k - 1) := iEq.mpr (by rw [nI_toInt (by omega)]; omega)
  have h3 : k &&& (k - 1) ≤ k - 1 := Nat.and_le_right
  have e3 : (y &&& z).toInt = ((k &&& (k - 1) : Nat) : Int) := by
    rw [e1, e2, nxa, nI_toInt (by omega)]
  omega
