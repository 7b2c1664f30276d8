/-! room for a recursion of depth n -/
theorem rOKn {d maxL n : Nat} (h : d ≤ 3) (hm : maxL ≤ 20) : rOK (rmL (4 + n) 0 0) d maxL 0 0 0 0 := ⟨⟨by show d + 1 ≤ 4 + n; omega, by show 8 + (maxL + 11) + 40 * d ≤ 40 * (4 + n); omega⟩, Nat.le_refl _, Nat.le_refl _⟩
theorem rOKs {maxL n : Nat} (hm : maxL ≤ 20) : rOK (rmL (4 + (n + 1)) 0 0) (4 + n) maxL 0 0 0 0 := ⟨⟨by show 4 + n + 1 ≤ 4 + (n + 1); omega, by show 8 + (maxL + 11) + 40 * (4 + n) ≤ 40 * (4 + (n + 1)); omega⟩, Nat.le_refl _, Nat.le_refl _⟩
theorem fr4 (n : Nat) : 1 ≤ (rmL (4 + n) 0 0).frames := by show 1 ≤ 4 + n; omega
theorem lo4 (n k : Nat) (h : k ≤ 100) : k ≤ (rmL (4 + n) 0 0).locals := by show k ≤ 40 * (4 + n); omega
