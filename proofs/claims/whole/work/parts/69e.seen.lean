theorem seen_iff (f : Nat → Int32) (j : Nat) (q : Q2) : ∀ n i, (¬ seenR f j n i (hoursM q j (i - 1)) = 0) ↔ ∀ k, i ≤ k → k < i + n → f k = -1 ∨ f k = hoursM q j k 1 j
  | 0, i => ⟨fun _ k h1 h2 => by omega, fun _ => by unfold seenR; decide⟩
  | n + 1, i => by
    have e : (if 0 < i then hourM (hoursM q j (i - 1)) j else hoursM q j (i - 1)) = hoursM q j i := by
      cases i with
      | zero => rfl
      | succ t => rfl
    rw [seenR, e]
    by_cases c : ¬ f i = -1 ∧ ¬ f i = hoursM q j i 1 j
    · rw [if_pos c]
      exact ⟨fun z => absurd rfl z, fun z => absurd (z i (Nat.le_refl _) (by omega)) (fun y => y.elim c.1 c.2)⟩
    · rw [if_neg c]
      have ih := seen_iff f j q n (i + 1)
      rw [show i + 1 - 1 = i by omega] at ih
      rw [ih]
      constructor
      · intro z k h1 h2
        by_cases hk : k = i
        · subst hk
          by_cases y : f k = -1
          · exact Or.inl y
          · exact Or.inr (Decidable.byContradiction (fun w => c ⟨y, w⟩))
        · exact z k (by omega) (by omega)
      · intro z k h1 h2
        exact z k (by omega) (by omega)
theorem soF_iff (f : Nat → Int32) (j : Nat) (q : Q2) : ∀ n, soF f j q n = true ↔ ∀ k, k < n → f k = -1 ∨ f k = hoursR q k 1 j
  | 0 => ⟨fun _ k h => absurd h (Nat.not_lt_zero k), fun _ => rfl⟩
  | n + 1 => by
    rw [soF, Bool.and_eq_true, soF_iff f j q n, decide_eq_true_iff]
    constructor
    · rintro ⟨h1, h2⟩ k hk
      by_cases e : k = n
      · subst e; exact h2
      · exact h1 k (by omega)
    · intro h
      exact ⟨fun k hk => h k (by omega), h n (by omega)⟩
theorem seen_eq {q : Q2} (h : okR q) {m n j : Nat} (hm : q 7 0 = nI m) (hm2 : m + n ≤ 99999) (hj : j < 11) (f : Nat → Int32) : decide (¬ seenR f j n 0 q = 0) = soF f j q n := by
  have e := seen_iff f j q n 0
  rw [Bool.eq_iff_iff, decide_eq_true_iff, soF_iff]
  refine e.trans ⟨fun z k hk => ?_, fun z k _ hk => ?_⟩
  · rw [← ahead_eq h hm (by omega) hj (by decide)]; exact z k (Nat.zero_le _) (by omega)
  · rw [ahead_eq h hm (by omega) hj (by decide)]; exact z k (by omega)
