theorem bc_ones : ∀ n, n < 2048 → bcF (nI n) = onesF (nI n) 11 := by decide +kernel
theorem odds_0 : ∀ ab, ab < 101 → ∀ n, n < 10 → powF (Int32.toInt64 (nI ab / nI (comF ab 100))) n = lN ((ab ^ n) / Nat.gcd (ab ^ n) (100 ^ n)) := by decide +kernel
theorem odds_1 : ∀ ab, ab < 101 → ∀ n, n < 10 → powF (Int32.toInt64 ((100 : Int32) / nI (comF ab 100))) n = lN ((100 ^ n) / Nat.gcd (ab ^ n) (100 ^ n)) := by decide +kernel
