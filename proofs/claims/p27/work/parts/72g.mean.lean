/-! a mean, told twice, is alike -/
theorem mean_f0 : ∀ a, a < 12 → ∀ b, b < 120 → Op.cmpValue (FP.fcmp (FP.fdiv (FP.i2f (nI (a + 1))) (FP.i2f (nI (b + 1)))) (FP.fdiv (FP.i2f (nI (a + 1))) (FP.i2f (nI (b + 1))))) .l = 0 := by decide +kernel
theorem mean_f1 : ∀ a, a < 12 → ∀ b, b < 120 → Op.cmpValue (FP.fcmp (FP.fdiv (FP.i2f (nI (a + 13))) (FP.i2f (nI (b + 1)))) (FP.fdiv (FP.i2f (nI (a + 13))) (FP.i2f (nI (b + 1))))) .l = 0 := by decide +kernel
theorem mean_f2 : ∀ a, a < 12 → ∀ b, b < 120 → Op.cmpValue (FP.fcmp (FP.fdiv (FP.i2f (nI (a + 25))) (FP.i2f (nI (b + 1)))) (FP.fdiv (FP.i2f (nI (a + 25))) (FP.i2f (nI (b + 1))))) .l = 0 := by decide +kernel
theorem mean_f3 : ∀ a, a < 12 → ∀ b, b < 120 → Op.cmpValue (FP.fcmp (FP.fdiv (FP.i2f (nI (a + 37))) (FP.i2f (nI (b + 1)))) (FP.fdiv (FP.i2f (nI (a + 37))) (FP.i2f (nI (b + 1))))) .l = 0 := by decide +kernel
theorem mean_f4 : ∀ a, a < 12 → ∀ b, b < 120 → Op.cmpValue (FP.fcmp (FP.fdiv (FP.i2f (nI (a + 49))) (FP.i2f (nI (b + 1)))) (FP.fdiv (FP.i2f (nI (a + 49))) (FP.i2f (nI (b + 1))))) .l = 0 := by decide +kernel
theorem mean_f5 : ∀ a, a < 12 → ∀ b, b < 120 → Op.cmpValue (FP.fcmp (FP.fdiv (FP.i2f (nI (a + 61))) (FP.i2f (nI (b + 1)))) (FP.fdiv (FP.i2f (nI (a + 61))) (FP.i2f (nI (b + 1))))) .l = 0 := by decide +kernel
theorem mean_f6 : ∀ a, a < 12 → ∀ b, b < 120 → Op.cmpValue (FP.fcmp (FP.fdiv (FP.i2f (nI (a + 73))) (FP.i2f (nI (b + 1)))) (FP.fdiv (FP.i2f (nI (a + 73))) (FP.i2f (nI (b + 1))))) .l = 0 := by decide +kernel
theorem mean_f7 : ∀ a, a < 12 → ∀ b, b < 120 → Op.cmpValue (FP.fcmp (FP.fdiv (FP.i2f (nI (a + 85))) (FP.i2f (nI (b + 1)))) (FP.fdiv (FP.i2f (nI (a + 85))) (FP.i2f (nI (b + 1))))) .l = 0 := by decide +kernel
theorem mean_f8 : ∀ a, a < 12 → ∀ b, b < 120 → Op.cmpValue (FP.fcmp (FP.fdiv (FP.i2f (nI (a + 97))) (FP.i2f (nI (b + 1)))) (FP.fdiv (FP.i2f (nI (a + 97))) (FP.i2f (nI (b + 1))))) .l = 0 := by decide +kernel
theorem mean_f9 : ∀ a, a < 12 → ∀ b, b < 120 → Op.cmpValue (FP.fcmp (FP.fdiv (FP.i2f (nI (a + 109))) (FP.i2f (nI (b + 1)))) (FP.fdiv (FP.i2f (nI (a + 109))) (FP.i2f (nI (b + 1))))) .l = 0 := by decide +kernel
theorem mean_f : ∀ a, a < 120 → ∀ b, b < 120 → Op.cmpValue (FP.fcmp (FP.fdiv (FP.i2f (nI (a + 1))) (FP.i2f (nI (b + 1)))) (FP.fdiv (FP.i2f (nI (a + 1))) (FP.i2f (nI (b + 1))))) .l = 0 := by
  intro a ha b hb
  rcases Nat.lt_or_ge a 12 with h0 | h0
  · have := mean_f0 (a - 0) (by omega) b hb
    rw [show a - 0 + 1 = a + 1 by omega] at this
    exact this
  rcases Nat.lt_or_ge a 24 with h1 | h1
  · have := mean_f1 (a - 12) (by omega) b hb
    rw [show a - 12 + 13 = a + 1 by omega] at this
    exact this
  rcases Nat.lt_or_ge a 36 with h2 | h2
  · have := mean_f2 (a - 24) (by omega) b hb
    rw [show a - 24 + 25 = a + 1 by omega] at this
    exact this
  rcases Nat.lt_or_ge a 48 with h3 | h3
  · have := mean_f3 (a - 36) (by omega) b hb
    rw [show a - 36 + 37 = a + 1 by omega] at this
    exact this
  rcases Nat.lt_or_ge a 60 with h4 | h4
  · have := mean_f4 (a - 48) (by omega) b hb
    rw [show a - 48 + 49 = a + 1 by omega] at this
    exact this
  rcases Nat.lt_or_ge a 72 with h5 | h5
  · have := mean_f5 (a - 60) (by omega) b hb
    rw [show a - 60 + 61 = a + 1 by omega] at this
    exact this
  rcases Nat.lt_or_ge a 84 with h6 | h6
  · have := mean_f6 (a - 72) (by omega) b hb
    rw [show a - 72 + 73 = a + 1 by omega] at this
    exact this
  rcases Nat.lt_or_ge a 96 with h7 | h7
  · have := mean_f7 (a - 84) (by omega) b hb
    rw [show a - 84 + 85 = a + 1 by omega] at this
    exact this
  rcases Nat.lt_or_ge a 108 with h8 | h8
  · have := mean_f8 (a - 96) (by omega) b hb
    rw [show a - 96 + 97 = a + 1 by omega] at this
    exact this
  rcases Nat.lt_or_ge a 120 with h9 | h9
  · have := mean_f9 (a - 108) (by omega) b hb
    rw [show a - 108 + 109 = a + 1 by omega] at this
    exact this
  omega
