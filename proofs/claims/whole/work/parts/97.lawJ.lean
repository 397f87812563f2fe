/-- THE LAW OVER THE SMALL MACHINE: it comes to its end with 1, and makes few cells -/
theorem law_J (b L : Nat) (xs : Nat → Int32) (sa : Nat → Nat) (B : Nat) (hL : L ≤ 320) : J (b, L, xs, sa) m_law 0 [.ref b, m_D, m_D, m_D] [] [] (hp0 B) (fun v h => v = .int 1 ∧ hN h ≤ B + 14000) := by
  sorry
