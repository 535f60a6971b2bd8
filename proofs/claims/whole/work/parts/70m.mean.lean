abbrev mdP (a b : Nat) : Prop := (FP.f2d (FP.fdiv (FP.i2f (nI a)) (FP.i2f (nI b))) &&& 0x7fffffffffffffff ≤ 0x7ff0000000000000) ∧ Op.cmpValue (FP.dcmp (FP.f2d (FP.fdiv (FP.i2f (nI a)) (FP.i2f (nI b)))) (FP.f2d (FP.fdiv (FP.i2f (nI a)) (FP.i2f (nI b))))) .l = 0
theorem mean_d0 : ∀ a, a < 5 → ∀ b, b < 120 → mdP (a + 1) (b + 1) := by decide +kernel
theorem mean_d1 : ∀ a, a < 5 → ∀ b, b < 120 → mdP (a + 6) (b + 1) := by decide +kernel
theorem mean_d2 : ∀ a, a < 5 → ∀ b, b < 120 → mdP (a + 11) (b + 1) := by decide +kernel
theorem mean_d3 : ∀ a, a < 5 → ∀ b, b < 120 → mdP (a + 16) (b + 1) := by decide +kernel
theorem mean_d4 : ∀ a, a < 5 → ∀ b, b < 120 → mdP (a + 21) (b + 1) := by decide +kernel
theorem mean_d5 : ∀ a, a < 5 → ∀ b, b < 120 → mdP (a + 26) (b + 1) := by decide +kernel
theorem mean_d6 : ∀ a, a < 5 → ∀ b, b < 120 → mdP (a + 31) (b + 1) := by decide +kernel
theorem mean_d7 : ∀ a, a < 5 → ∀ b, b < 120 → mdP (a + 36) (b + 1) := by decide +kernel
theorem mean_d8 : ∀ a, a < 5 → ∀ b, b < 120 → mdP (a + 41) (b + 1) := by decide +kernel
theorem mean_d9 : ∀ a, a < 5 → ∀ b, b < 120 → mdP (a + 46) (b + 1) := by decide +kernel
theorem mean_d10 : ∀ a, a < 5 → ∀ b, b < 120 → mdP (a + 51) (b + 1) := by decide +kernel
theorem mean_d11 : ∀ a, a < 5 → ∀ b, b < 120 → mdP (a + 56) (b + 1) := by decide +kernel
theorem mean_d12 : ∀ a, a < 5 → ∀ b, b < 120 → mdP (a + 61) (b + 1) := by decide +kernel
theorem mean_d13 : ∀ a, a < 5 → ∀ b, b < 120 → mdP (a + 66) (b + 1) := by decide +kernel
theorem mean_d14 : ∀ a, a < 5 → ∀ b, b < 120 → mdP (a + 71) (b + 1) := by decide +kernel
theorem mean_d15 : ∀ a, a < 5 → ∀ b, b < 120 → mdP (a + 76) (b + 1) := by decide +kernel
theorem mean_d16 : ∀ a, a < 5 → ∀ b, b < 120 → mdP (a + 81) (b + 1) := by decide +kernel
theorem mean_d17 : ∀ a, a < 5 → ∀ b, b < 120 → mdP (a + 86) (b + 1) := by decide +kernel
theorem mean_d18 : ∀ a, a < 5 → ∀ b, b < 120 → mdP (a + 91) (b + 1) := by decide +kernel
theorem mean_d19 : ∀ a, a < 5 → ∀ b, b < 120 → mdP (a + 96) (b + 1) := by decide +kernel
theorem mean_d20 : ∀ a, a < 5 → ∀ b, b < 120 → mdP (a + 101) (b + 1) := by decide +kernel
theorem mean_d21 : ∀ a, a < 5 → ∀ b, b < 120 → mdP (a + 106) (b + 1) := by decide +kernel
theorem mean_d22 : ∀ a, a < 5 → ∀ b, b < 120 → mdP (a + 111) (b + 1) := by decide +kernel
theorem mean_d23 : ∀ a, a < 5 → ∀ b, b < 120 → mdP (a + 116) (b + 1) := by decide +kernel
theorem mean_d : ∀ a, a < 120 → ∀ b, b < 120 → mdP (a + 1) (b + 1) := by
  intro a ha b hb
  rcases Nat.lt_or_ge a 5 with h0 | h0
  · have := mean_d0 (a - 0) (by omega) b hb
    rw [show a - 0 + 1 = a + 1 by omega] at this
    exact this
  rcases Nat.lt_or_ge a 10 with h1 | h1
  · have := mean_d1 (a - 5) (by omega) b hb
    rw [show a - 5 + 6 = a + 1 by omega] at this
    exact this
  rcases Nat.lt_or_ge a 15 with h2 | h2
  · have := mean_d2 (a - 10) (by omega) b hb
    rw [show a - 10 + 11 = a + 1 by omega] at this
    exact this
  rcases Nat.lt_or_ge a 20 with h3 | h3
  · have := mean_d3 (a - 15) (by omega) b hb
    rw [show a - 15 + 16 = a + 1 by omega] at this
    exact this
  rcases Nat.lt_or_ge a 25 with h4 | h4
  · have := mean_d4 (a - 20) (by omega) b hb
    rw [show a - 20 + 21 = a + 1 by omega] at this
    exact this
  rcases Nat.lt_or_ge a 30 with h5 | h5
  · have := mean_d5 (a - 25) (by omega) b hb
    rw [show a - 25 + 26 = a + 1 by omega] at this
    exact this
  rcases Nat.lt_or_ge a 35 with h6 | h6
  · have := mean_d6 (a - 30) (by omega) b hb
    rw [show a - 30 + 31 = a + 1 by omega] at this
    exact this
  rcases Nat.lt_or_ge a 40 with h7 | h7
  · have := mean_d7 (a - 35) (by omega) b hb
    rw [show a - 35 + 36 = a + 1 by omega] at this
    exact this
  rcases Nat.lt_or_ge a 45 with h8 | h8
  · have := mean_d8 (a - 40) (by omega) b hb
    rw [show a - 40 + 41 = a + 1 by omega] at this
    exact this
  rcases Nat.lt_or_ge a 50 with h9 | h9
  · have := mean_d9 (a - 45) (by omega) b hb
    rw [show a - 45 + 46 = a + 1 by omega] at this
    exact this
  rcases Nat.lt_or_ge a 55 with h10 | h10
  · have := mean_d10 (a - 50) (by omega) b hb
    rw [show a - 50 + 51 = a + 1 by omega] at this
    exact this
  rcases Nat.lt_or_ge a 60 with h11 | h11
  · have := mean_d11 (a - 55) (by omega) b hb
    rw [show a - 55 + 56 = a + 1 by omega] at this
    exact this
  rcases Nat.lt_or_ge a 65 with h12 | h12
  · have := mean_d12 (a - 60) (by omega) b hb
    rw [show a - 60 + 61 = a + 1 by omega] at this
    exact this
  rcases Nat.lt_or_ge a 70 with h13 | h13
  · have := mean_d13 (a - 65) (by omega) b hb
    rw [show a - 65 + 66 = a + 1 by omega] at this
    exact this
  rcases Nat.lt_or_ge a 75 with h14 | h14
  · have := mean_d14 (a - 70) (by omega) b hb
    rw [show a - 70 + 71 = a + 1 by omega] at this
    exact this
  rcases Nat.lt_or_ge a 80 with h15 | h15
  · have := mean_d15 (a - 75) (by omega) b hb
    rw [show a - 75 + 76 = a + 1 by omega] at this
    exact this
  rcases Nat.lt_or_ge a 85 with h16 | h16
  · have := mean_d16 (a - 80) (by omega) b hb
    rw [show a - 80 + 81 = a + 1 by omega] at this
    exact this
  rcases Nat.lt_or_ge a 90 with h17 | h17
  · have := mean_d17 (a - 85) (by omega) b hb
    rw [show a - 85 + 86 = a + 1 by omega] at this
    exact this
  rcases Nat.lt_or_ge a 95 with h18 | h18
  · have := mean_d18 (a - 90) (by omega) b hb
    rw [show a - 90 + 91 = a + 1 by omega] at this
    exact this
  rcases Nat.lt_or_ge a 100 with h19 | h19
  · have := mean_d19 (a - 95) (by omega) b hb
    rw [show a - 95 + 96 = a + 1 by omega] at this
    exact this
  rcases Nat.lt_or_ge a 105 with h20 | h20
  · have := mean_d20 (a - 100) (by omega) b hb
    rw [show a - 100 + 101 = a + 1 by omega] at this
    exact this
  rcases Nat.lt_or_ge a 110 with h21 | h21
  · have := mean_d21 (a - 105) (by omega) b hb
    rw [show a - 105 + 106 = a + 1 by omega] at this
    exact this
  rcases Nat.lt_or_ge a 115 with h22 | h22
  · have := mean_d22 (a - 110) (by omega) b hb
    rw [show a - 110 + 111 = a + 1 by omega] at this
    exact this
  rcases Nat.lt_or_ge a 120 with h23 | h23
  · have := mean_d23 (a - 115) (by omega) b hb
    rw [show a - 115 + 116 = a + 1 by omega] at this
    exact this
  omega
