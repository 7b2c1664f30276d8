theorem rgI {k o : Nat} (hk : k < 3) (h1 : 1140 ≤ o) (h2 : o < 1742) : rgA (2280 + 1742 * k + o) = fuR := by
  have e : (2280 + 1742 * k + o - 2280) % 1742 = o := by
    rcases (show k = 0 ∨ k = 1 ∨ k = 2 by omega) with rfl | rfl | rfl <;> omega
  unfold rgA
  rw [if_neg (by omega), e, if_neg (by omega)]
def NN (f : Nat → Int32) : Prop := ∀ j, j < 600 → 0 ≤ (f j).toInt
theorem NN.up {f : Nat → Int32} {k : Nat} {x : Int32} (h : NN f) (hx : 0 ≤ x.toInt) : NN (upd f k x) := fun j hj => by
  by_cases e : j = k
  · rw [e, pk_us]; exact hx
  · rw [pk_un e]; exact h j hj
theorem NN0 : NN (fun _ => 0) := fun _ _ => by
  show (0 : Int) ≤ (0 : Int32).toInt
  decide
