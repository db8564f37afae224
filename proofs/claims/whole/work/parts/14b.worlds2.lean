abbrev wdAJ (q : Nat → Nat) (y : Nat → ClassId) (an : Nat) (a : Nat → Int64) : va_W := [(q 0, .inl (y 1, an, .inr (.inl a)))]
theorem k8c {k : Nat} (h : k < 8) : k = 0 ∨ k = 1 ∨ k = 2 ∨ k = 3 ∨ k = 4 ∨ k = 5 ∨ k = 6 ∨ k = 7 := by omega
