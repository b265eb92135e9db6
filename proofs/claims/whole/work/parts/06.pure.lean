def mxL (x y : Int64) : Int64 := if y < x then x else y
def sumL (f : Nat → Int64) : Nat → Int64 | 0 => 0 | n + 1 => sumL f n + f (n + 1)
theorem sumL_s (f : Nat → Int64) {r : Nat} (h : 1 ≤ r) : sumL f (r + 1 - 1) = sumL f (r - 1) + f r := by
  obtain ⟨k, rfl⟩ : ∃ k, r = k + 1 := ⟨r - 1, by omega⟩
  rfl
theorem lN_z {n : Nat} (h0 : 0 < n) (h : n < 2147483648) : ¬ lN n = 0 := fun q => by
  have h2 := (lN_eq (a := n) (b := 0) h (by decide)).mp q
  omega

