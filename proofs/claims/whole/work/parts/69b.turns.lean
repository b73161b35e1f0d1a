theorem argF_c {f g : Nat → Int32} : ∀ n, (∀ i, i < n → f i = g i) → argF f n = argF g n
  | 0, _ => rfl
  | n + 1, h => by rw [argF, argF, argF_c n (fun i hi => h i (by omega)), h n (by omega)]
theorem minF_c {f g : Nat → Int32} : ∀ n, (∀ i, i < n → f i = g i) → minF f n = minF g n
  | 0, _ => rfl
  | n + 1, h => by rw [minF, minF, minF_c n (fun i hi => h i (by omega)), h n (by omega)]
theorem setF_c {f g : Nat → Bool} : ∀ n, (∀ i, i < n → f i = g i) → setF f n = setF g n
  | 0, _ => rfl
  | n + 1, h => by rw [setF, setF, setF_c n (fun i hi => h i (by omega)), h n (by omega)]
theorem topF_c {f g : Nat → Bool} : ∀ n, (∀ i, i < n → f i = g i) → topF f n = topF g n
  | 0, _ => rfl
  | n + 1, h => by rw [topF, topF, topF_c n (fun i hi => h i (by omega)), h n (by omega)]
theorem turnRS_sp {q : Q2} (h : spOk q) (s : Int32) : ∀ n, n ≤ 11 → spOk (turnRS q s n)
  | 0, _ => h
  | n + 1, hn => by
    have ih := turnRS_sp h s n (by omega)
    unfold turnRS
    split
    · intro j hj
      unfold turn1
      rw [up2_v]
      by_cases e : j = n
      · rw [if_pos ⟨rfl, e⟩]
        rcases ih n (by omega) with z | z <;> rw [z]
        · exact Or.inr (by decide)
        · exact Or.inl (by decide)
      · rw [if_neg (fun z => e z.2)]; exact ih j hj
    · exact ih
theorem turn_eq {q : Q2} (h : spOk q) (s : Int32) : ∀ n, n ≤ 11 → turnS q s n = turnRS q s n
  | 0, _ => rfl
  | n + 1, hn => by
    have ih := turn_eq h s n (by omega)
    have hs := turnRS_sp h s n (by omega)
    rw [turnS, ih, turnRS]
    rcases and1 (s >>> (nI n &&& 31)) with z | z <;> rw [z]
    · rw [if_neg (by decide), show turnRS q s n 4 n ^^^ 0 = turnRS q s n 4 n by rcases hs n (by omega) with y | y <;> rw [y] <;> decide, up2_id]
    · rw [if_pos rfl]
      unfold turn1
      rcases hs n (by omega) with y | y <;> rw [y] <;> rfl
theorem bit_at : ∀ o, o < 11 → ∀ i, i < 11 → ((bitI o >>> (nI i &&& 31) &&& 1 = 1) ↔ i = o) := by decide +kernel
theorem turnRS_1 (q : Q2) {o : Nat} (ho : o < 11) : ∀ n, n ≤ 11 → turnRS q (bitI o) n = if o < n then turn1 q o else q
  | 0, _ => rfl
  | n + 1, hn => by
    rw [turnRS, turnRS_1 q ho n (by omega)]
    by_cases e : n = o
    · rw [if_pos ((bit_at o ho n (by omega)).mpr e), if_neg (by omega), if_pos (by omega), e]
    · rw [if_neg (fun z => e ((bit_at o ho n (by omega)).mp z))]
      by_cases l : o < n
      · rw [if_pos l, if_pos (by omega)]
      · rw [if_neg l, if_neg (by omega)]
theorem turnQ_1 {q : Q2} (h : spOk q) {o : Nat} (ho : o < 11) : turnQ q (bitI o) = turn1 q o := by
  unfold turnQ
  rw [turn_eq h _ 11 (Nat.le_refl _), turnRS_1 q ho 11 (Nat.le_refl _), if_pos ho]
theorem turnQ_R {q : Q2} (h : spOk q) (s : Int32) : turnQ q s = turnRQ q s := turn_eq h s 11 (Nat.le_refl _)
theorem okR_4 {q : Q2} (h : okR q) {f : Nat → Int32} (hf : ∀ j, j < 11 → f j = 0 ∨ f j = 1) : okR (upR q 4 f) := by
  have e : ∀ r, r ≠ 4 → upR q 4 f r = q r := fun r hr => by simp [upR, hr]
  refine ⟨⟨fun j hj => ?_, fun j hj => ?_⟩, fun j hj => ?_, ?_, ?_, ?_, ?_⟩
  · rw [show upR q 4 f 4 = f by simp [upR]]; exact hf j hj
  · rw [e 0 (by decide)]; exact h.1.2 j hj
  · rw [e 1 (by decide), e 2 (by decide), e 3 (by decide), e 5 (by decide)]; exact h.2.1 j hj
  · rw [e 7 (by decide)]; exact h.2.2.1
  · rw [e 7 (by decide)]; exact h.2.2.2.1
  · rw [e 7 (by decide)]; exact h.2.2.2.2.1
  · rw [e 7 (by decide)]; exact h.2.2.2.2.2
