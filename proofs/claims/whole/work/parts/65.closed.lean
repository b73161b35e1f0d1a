theorem take_A (q : Q2) (j : Nat) : takeQ q j = up2 (up2 q 5 j (dhA q j)) 1 j (mx 0 (leftF q j)) := by
  unfold takeQ dhA
  by_cases h : leftF q j < 0
  · rw [if_pos h, if_pos h]
  · rw [if_neg h, if_neg h, up2_id]
theorem up2_v {q : Q2} {r i : Nat} {v : Int32} (a k : Nat) : up2 q r i v a k = if a = r ∧ k = i then v else q a k := by
  unfold up2 upd
  by_cases h : a = r
  · subst h
    by_cases e : k = i
    · simp [e]
    · simp [e]
  · simp [h]
def tkC (p : Q2) (n : Nat) : Q2 := fun r i => if r = 1 ∧ i < n then mx 0 (leftF p i) else if r = 5 ∧ i < n then dhA p i else p r i
def kpC (p : Q2) (n : Nat) : Q2 := fun r i => if r = 1 ∧ i < n then p 1 i - goF p i else p r i
def kdC (p : Q2) (k : Nat) : Q2 := fun r i => if r = 1 ∧ 11 ≤ i + k ∧ i < 11 then ktA p i else if r = 5 ∧ 11 ≤ i + k ∧ i < 11 then dhA p i else p r i
theorem tkC_sm {p : Q2} {n j : Nat} (h : n ≤ j) : sm j (tkC p n) p := by
  have e : ∀ r, tkC p n r j = p r j := fun r => by
    unfold tkC
    rw [if_neg (fun z => by omega), if_neg (fun z => by omega)]
  exact ⟨e 0, e 1, e 2, e 3, e 5, by unfold tkC; rw [if_neg (fun z => absurd z.1 (by decide)), if_neg (fun z => absurd z.1 (by decide))]⟩
theorem tkS_eq (p : Q2) : ∀ n, tkS p n = tkC p n
  | 0 => by funext r i; simp [tkS, tkC]
  | n + 1 => by
    rw [tkS, tkS_eq p n, take_A, sm_dh (tkC_sm (Nat.le_refl n)), sm_left (tkC_sm (Nat.le_refl n))]
    funext r i
    rw [up2_v, up2_v]
    unfold tkC
    by_cases h1 : r = 1
    · subst h1
      by_cases e : i = n
      · subst e; simp
      · by_cases l : i < n
        · simp [e, l, Nat.lt_succ_of_lt l]
        · simp [e, l, show ¬ i < n + 1 by omega]
    · by_cases h5 : r = 5
      · subst h5
        by_cases e : i = n
        · subst e; simp
        · by_cases l : i < n
          · simp [e, l, Nat.lt_succ_of_lt l]
          · simp [e, l, show ¬ i < n + 1 by omega]
      · simp [h1, h5]
theorem kpS_eq (p : Q2) : ∀ n, kpS p n = kpC p n
  | 0 => by funext r i; simp [kpS, kpC]
  | n + 1 => by
    have e1 : kpC p n 1 n = p 1 n := by simp [kpC]
    have e2 : goF (kpC p n) n = goF p n := by unfold goF; rw [e1]; simp [kpC]
    rw [kpS, kpS_eq p n, e1, e2]
    funext r i
    rw [up2_v]
    unfold kpC
    by_cases h1 : r = 1
    · subst h1
      by_cases e : i = n
      · subst e; simp
      · by_cases l : i < n
        · simp [e, l, Nat.lt_succ_of_lt l]
        · simp [e, l, show ¬ i < n + 1 by omega]
    · simp [h1]
theorem gpS_eq (p : Q2) (g : Nat → Int32) : ∀ n i, i < n → gpS p g n i = goF p i
  | 0, i, h => absurd h (Nat.not_lt_zero _)
  | n + 1, i, h => by
    have e1 : kpC p n 1 n = p 1 n := by simp [kpC]
    have e2 : goF (kpC p n) n = goF p n := by unfold goF; rw [e1]; simp [kpC]
    rw [gpS, kpS_eq, e2]
    by_cases e : i = n
    · subst e; rw [pk_us]
    · rw [pk_un e]; exact gpS_eq p g n i (by omega)
theorem kpD_eq (p : Q2) : ∀ k, k ≤ 11 → kpD p k = kdC p k
  | 0, _ => by
    funext r i
    unfold kpD kdC
    rw [if_neg (fun z => by omega), if_neg (fun z => by omega)]
  | k + 1, h => by
    have hs := sm_kpD (q := p) (j := 10 - k) k (by omega)
    rw [kpD, kpA, sm_dh hs, sm_kt hs, kpD_eq p k (by omega)]
    funext r i
    rw [up2_v, up2_v]
    unfold kdC
    by_cases e : i = 10 - k
    · have l1 : 11 ≤ i + (k + 1) ∧ i < 11 := by omega
      have l0 : ¬ (11 ≤ i + k ∧ i < 11) := by omega
      subst e
      by_cases h1 : r = 1
      · subst h1; simp [l1]
      · by_cases h5 : r = 5
        · subst h5; simp [l1]
        · simp [h1, h5]
    · have l : (11 ≤ i + (k + 1) ∧ i < 11) ↔ (11 ≤ i + k ∧ i < 11) := by omega
      simp only [e, and_false, if_false, l]
