theorem okR_row4 {q q' : Q2} (h : okR q) (hs : spOk q') (e : ∀ r, r ≠ 4 → q' r = q r) : okR q' := by
  refine ⟨⟨hs, fun j hj => ?_⟩, fun j hj => ?_, ?_, ?_, ?_, ?_⟩
  · rw [e 0 (by decide)]; exact h.1.2 j hj
  · rw [e 1 (by decide), e 2 (by decide), e 3 (by decide), e 5 (by decide)]; exact h.2.1 j hj
  · rw [e 7 (by decide)]; exact h.2.2.1
  · rw [e 7 (by decide)]; exact h.2.2.2.1
  · rw [e 7 (by decide)]; exact h.2.2.2.2.1
  · rw [e 7 (by decide)]; exact h.2.2.2.2.2
theorem turnRS_r (q : Q2) (s : Int32) : ∀ n r, r ≠ 4 → turnRS q s n r = q r
  | 0, _, _ => rfl
  | n + 1, r, h => by
    unfold turnRS
    split
    · unfold turn1; rw [show up2 (turnRS q s n) 4 n (1 - turnRS q s n 4 n) r = turnRS q s n r by simp [up2, h]]; exact turnRS_r q s n r h
    · exact turnRS_r q s n r h
theorem okR_RQ {q : Q2} (h : okR q) (s : Int32) : okR (turnRQ q s) := okR_row4 h (turnRS_sp h.1.1 s 11 (Nat.le_refl _)) (turnRS_r q s 11)
theorem okR_t1 {q : Q2} (h : okR q) {o : Nat} (ho : o < 11) : okR (turn1 q o) := by
  rw [← turnQ_1 h.1.1 ho, turnQ_R h.1.1]; exact okR_RQ h _
theorem turn1_7 (q : Q2) (o : Nat) : turn1 q o 7 = q 7 := by simp [turn1, up2]
theorem love_eq {q : Q2} (h : okR q) {m j n : Nat} (hm : q 7 0 = nI m) (hm2 : m + n ≤ 99999) (hj : j < 11) : argF (fun o => hoursM (turnQ q (bitI o)) j n 1 j) 11 = argF (fun o => hoursR (turn1 q o) n 1 j) 11 := by
  refine argF_c 11 (fun o ho => ?_)
  show hoursM (turnQ q (bitI o)) j n 1 j = hoursR (turn1 q o) n 1 j
  rw [turnQ_1 h.1.1 ho]
  exact ahead_eq (okR_t1 h ho) (by rw [turn1_7]; exact hm) hm2 hj (by decide)
theorem or_n (a b : Nat) : nI a ||| nI b = nI (a ||| b) := by
  apply Int32.toBitVec_inj.mp
  show BitVec.ofNat 32 a ||| BitVec.ofNat 32 b = BitVec.ofNat 32 (a ||| b)
  apply BitVec.eq_of_toNat_eq
  rw [BitVec.toNat_or, BitVec.toNat_ofNat, BitVec.toNat_ofNat, BitVec.toNat_ofNat, Nat.or_mod_two_pow]
theorem bit_n {j : Nat} (h : j < 11) : ∃ n : Nat, n < 2048 ∧ bitI j = nI n := ⟨2 ^ j, Nat.lt_of_lt_of_le (Nat.pow_lt_pow_right (by decide) h) (by decide), shl1 (by omega)⟩
theorem or_in {a b : Int32} (ha : ∃ n : Nat, n < 2048 ∧ a = nI n) (hb : ∃ n : Nat, n < 2048 ∧ b = nI n) : ∃ n : Nat, n < 2048 ∧ a ||| b = nI n := by
  obtain ⟨a, ha, rfl⟩ := ha
  obtain ⟨b, hb, rfl⟩ := hb
  exact ⟨a ||| b, Nat.or_lt_two_pow (n := 11) ha hb, or_n a b⟩
theorem setF_in (p : Nat → Bool) : ∀ n, n ≤ 11 → ∃ k : Nat, k < 2048 ∧ setF p n = nI k
  | 0, _ => ⟨0, by decide, rfl⟩
  | n + 1, h => by
    rw [setF]
    split
    · exact or_in (setF_in p n (by omega)) (bit_n (by omega))
    · exact setF_in p n (by omega)
theorem orU_in (p : Q2) : ∀ n, n ≤ 11 → ∃ k : Nat, k < 2048 ∧ orU (dbA p) n = nI k
  | 0, _ => ⟨0, by decide, rfl⟩
  | n + 1, h => by
    rw [orU]
    refine or_in (orU_in p n (by omega)) ?_
    unfold dbA
    split
    · exact bit_n (by omega)
    · exact ⟨0, by decide, rfl⟩
theorem drysR_in (q : Q2) : ∀ n, ∃ k : Nat, k < 2048 ∧ drysR q n = nI k
  | 0 => ⟨0, by decide, rfl⟩
  | n + 1 => by
    show ∃ k : Nat, k < 2048 ∧ drysR q n ||| dryR (hoursR q n) = nI k
    refine or_in (drysR_in q n) ?_
    unfold dryR
    rw [tkD_or]
    exact orU_in _ 11 (Nat.le_refl _)
theorem best_eq {q : Q2} (h : okR q) {m n : Nat} (hm : q 7 0 = nI m) (hm2 : m + n ≤ 99999) : minF (fun o => bcF (drysM (turnQ q (bitI o)) 10 n)) 11 = minF (fun o => onesF (drysR (turnRQ q (bitI o)) n) 11) 11 := by
  refine minF_c 11 (fun o ho => ?_)
  show bcF (drysM (turnQ q (bitI o)) 10 n) = onesF (drysR (turnRQ q (bitI o)) n) 11
  have hr : okR (turnRQ q (bitI o)) := okR_RQ h _
  have h7 : turnRQ q (bitI o) 7 0 = nI m := by rw [show turnRQ q (bitI o) 7 = q 7 from turnRS_r q _ 11 7 (by decide)]; exact hm
  rw [turnQ_R h.1.1, drys_eq hr h7 n hm2]
  obtain ⟨k, hk, e⟩ := drysR_in (turnRQ q (bitI o)) n
  rw [e]
  exact bc_ones k hk
theorem count_eq (x : Q3) (k : Nat) : countF x k = countM x k := by
  obtain ⟨n, hn, e⟩ := setF_in (fun j => decide (0 < x 0 5 j)) 11 (Nat.le_refl _)
  unfold countF countM
  rw [e, bc_ones n hn]
