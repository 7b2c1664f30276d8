theorem rgI {k o : Nat} (hk : k < 3) (h1 : 1140 ≤ o) (h2 : o < 1742) : rgA (2280 + 1742 * k + o) = fuR := by
  have e : (2280 + 1742 * k + o - 2280) % 1742 = o := by
    rcases (show k = 0 ∨ k = 1 ∨ k = 2 by omega) with rfl | rfl | rfl <;> omega
  unfold rgA
  rw [if_neg (by omega), e, if_neg (by omega)]
