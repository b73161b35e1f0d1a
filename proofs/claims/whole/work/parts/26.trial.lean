/-- all of those below n -/
def allF (p : Nat → Bool) : Nat → Bool
  | 0 => true
  | n + 1 => allF p n && p n
theorem allF_iff (p : Nat → Bool) : ∀ n, allF p n = true ↔ ∀ j, j < n → p j = true
  | 0 => by simp [allF]
  | n + 1 => by
    rw [allF, Bool.and_eq_true, allF_iff p n]
    constructor
    · rintro ⟨h1, h2⟩ j hj
      rcases Nat.lt_succ_iff_lt_or_eq.mp hj with h | h
      · exact h1 j h
      · rw [h]; exact h2
    · intro h
      exact ⟨fun j hj => h j (by omega), h n (by omega)⟩
theorem tellR_ne {k : Nat} (h : k < 7) : ¬ tellR k = 0 := by
  rcases (show k = 0 ∨ k = 1 ∨ k = 2 ∨ k = 3 ∨ k = 4 ∨ k = 5 ∨ k = 6 by omega) with rfl | rfl | rfl | rfl | rfl | rfl | rfl <;> decide
/-- why a sheet can't be had: 0, 5; 7: it can -/
def lackN (x : Q3) (s : Int32) : Nat := if 0 ≤ s ∧ s ≤ 3 then (if x (8 + s.toNatClampNeg) 1 0 = 0 then 5 else 7) else 0
theorem lack_out {x : Q3} {s : Int32} (h : ¬ (0 ≤ s ∧ s ≤ 3)) : lackN x s = 0 := if_neg h
theorem in3 {j : Nat} (h : j < 4) : 0 ≤ nI j ∧ nI j ≤ 3 := ⟨nI_pos' (by omega), nI_le (b := 3) (by omega) (by decide)⟩
theorem lack_0 {x : Q3} {j : Nat} (hj : j < 4) (h : x (8 + j) 1 0 = 0) : lackN x (nI j) = 5 := by
  rw [lackN, if_pos (in3 hj), nI_clamp (by omega), if_pos h]
theorem lack_1 {x : Q3} {j : Nat} (hj : j < 4) (h : ¬ x (8 + j) 1 0 = 0) : lackN x (nI j) = 7 := by
  rw [lackN, if_pos (in3 hj), nI_clamp (by omega), if_neg h]
theorem sheet_cases (x : Q3) (s : Int32) : ¬ (0 ≤ s ∧ s ≤ 3) ∨ (s = nI 0 ∧ x 8 1 0 = 0) ∨ (s = nI 0 ∧ ¬ x 8 1 0 = 0) ∨ (s = nI 1 ∧ x 9 1 0 = 0) ∨ (s = nI 1 ∧ ¬ x 9 1 0 = 0) ∨ (s = nI 2 ∧ x 10 1 0 = 0) ∨ (s = nI 2 ∧ ¬ x 10 1 0 = 0) ∨ (s = nI 3 ∧ x 11 1 0 = 0) ∨ (s = nI 3 ∧ ¬ x 11 1 0 = 0) := by
  by_cases h : 0 ≤ s ∧ s ≤ 3
  · obtain ⟨j, hj, rfl⟩ := inU_of (n := 3) rfl h
    rcases (show j = 0 ∨ j = 1 ∨ j = 2 ∨ j = 3 by omega) with rfl | rfl | rfl | rfl
    · by_cases h2 : x 8 1 0 = 0 <;> simp [h2]
    · by_cases h2 : x 9 1 0 = 0 <;> simp [h2]
    · by_cases h2 : x 10 1 0 = 0 <;> simp [h2]
    · by_cases h2 : x 11 1 0 = 0 <;> simp [h2]
  · exact Or.inl h
theorem turnS_lo (q : Q2) (hs : Int32) : ∀ (n j : Nat), n ≤ j → turnS q hs n 4 j = q 4 j
  | 0, _, _ => rfl
  | n + 1, j, h => by
    rw [turnS, up2_d (by omega)]
    exact turnS_lo q hs n j (by omega)
theorem withQ_6 {q : Q2} {v : Int32} {j : Nat} : withQ q 6 v j = up2 q 7 2 v := rfl
theorem withQ_n {q : Q2} {k : Nat} {v : Int32} {j : Nat} (h : k < 6) : withQ q k v j = up2 q k j v := by rw [withQ, if_neg (by omega)]

set_option maxHeartbeats 4000000 in
set_option maxRecDepth 20000 in
theorem c_X5_seekSheet_out (l : Launch) (G : GB) (a : Nat → Nat) (x : Q3) (s : Int32) (hs : ¬ (0 ≤ s ∧ s ≤ 3)) : CI l yX5_seekSheet cX5_seekSheet 2 .int 2 41 G [.ref (a 0), .int s] (wC G a x) (fun vR w' => vR = tellR 0 ∧ w' = wC G a (tellX x 0)) := by
  refine CI.mk (own := RX5) (by decide) rfl (Nat.le_of_ble_eq_true rfl) ?_
  intro X E ret
  show J X G 2 0 0 (wC G a x) [(0, .ref (a 0)), (1, .int s)] 0 []
  refine J_iload_n E dX5_seekSheet_0 rfl 1 rfl ?_
  refine J_cSiN E (As := [.int s]) (c_X5_isSheet l G s ) cl_X5_202 yo_X5_isSheet dX5_seekSheet_1 rfl (Nat.le_of_ble_eq_true rfl) (Nat.le_of_ble_eq_true rfl) rfl (Nat.le_of_ble_eq_true rfl) ⟨Nat.zero_le _, Nat.zero_le _⟩ ?_
  refine J_if_ne E (tgt := 13) dX5_seekSheet_4 (by decide) (fun c_4 => ?_) (fun c_4 => ?_)
  · skip
    have c_4 := bI_1 c_4
    exact absurd c_4 hs
  · skip
    have c_4 := bI_0 c_4
    refine J_aload_n E dX5_seekSheet_7 rfl 0 rfl ?_
    refine J_iconst E dX5_seekSheet_8 ic_0 ?_
    refine J_cVi0 E (As := [.int 0]) (c_X5_tell l G a x 0 (by omega)) cl_X5_64 yo_X5_tell dX5_seekSheet_9 rfl rfl rfl (Nat.le_of_ble_eq_true rfl) (Nat.le_of_ble_eq_true rfl) rfl (Nat.le_of_ble_eq_true rfl) ⟨Nat.zero_le _, Nat.zero_le _⟩ ?_
    exact ret _ _ _ _ ⟨rfl, (congrArg (wC G a) (rfl))⟩ rfl dX5_seekSheet_12

set_option maxHeartbeats 4000000 in
set_option maxRecDepth 20000 in
theorem c_X5_seekSheet_0_0 (l : Launch) (G : GB) (a : Nat → Nat) (x : Q3) (hb : x 8 1 0 = 0) : CI l yX5_seekSheet cX5_seekSheet 2 .int 2 41 G [.ref (a 0), .int (nI 0)] (wC G a x) (fun vR w' => vR = tellR 5 ∧ w' = wC G a (tellX x 5)) := by
  refine CI.mk (own := RX5) (by decide) rfl (Nat.le_of_ble_eq_true rfl) ?_
  intro X E ret
  show J X G 2 0 0 (wC G a x) [(0, .ref (a 0)), (1, .int (nI 0))] 0 []
  refine J_iload_n E dX5_seekSheet_0 rfl 1 rfl ?_
  refine J_cSiN E (As := [.int (nI 0)]) (c_X5_isSheet l G (nI 0) ) cl_X5_202 yo_X5_isSheet dX5_seekSheet_1 rfl (Nat.le_of_ble_eq_true rfl) (Nat.le_of_ble_eq_true rfl) rfl (Nat.le_of_ble_eq_true rfl) ⟨Nat.zero_le _, Nat.zero_le _⟩ ?_
  refine J_if_ne E (tgt := 13) dX5_seekSheet_4 (by decide) (fun c_4 => ?_) (fun c_4 => ?_)
  · skip
    have c_4 := bI_1 c_4
    refine J_aload_n E dX5_seekSheet_13 rfl 0 rfl ?_
    refine gC0_X5_44 E dX5_seekSheet_14 ?_
    refine J_iload_n E dX5_seekSheet_17 rfl 1 rfl ?_
    refine laC_30_0 E dX5_seekSheet_18 ?_
    refine J_si8r E (As := []) (c_X2_isMissing l G (sh a 31) (x 8) ) cl_X5_212 yo_X2_isMissing dX5_seekSheet_19 rfl (Nat.le_of_ble_eq_true rfl) (Nat.le_of_ble_eq_true rfl) rfl (Nat.le_of_ble_eq_true rfl) ⟨Nat.zero_le _, Nat.zero_le _⟩ ?_
    refine J_if_eq E (tgt := 33) dX5_seekSheet_22 (by decide) (fun c_22 => ?_) (fun c_22 => ?_)
    · skip
      have c_22 := bI_0 c_22
      exact absurd hb c_22
    · skip
      have c_22 := bI_1 c_22
      refine J_aload_n E dX5_seekSheet_25 rfl 0 rfl ?_
      refine J_iconst E dX5_seekSheet_26 ic_5 ?_
      refine J_cVi0 E (As := [.int 5]) (c_X5_tell l G a x 5 (by omega)) cl_X5_64 yo_X5_tell dX5_seekSheet_27 rfl rfl rfl (Nat.le_of_ble_eq_true rfl) (Nat.le_of_ble_eq_true rfl) rfl (Nat.le_of_ble_eq_true rfl) ⟨Nat.zero_le _, Nat.zero_le _⟩ ?_
      refine J_goto E (tgt := 34) dX5_seekSheet_30 (by decide) ?_
      exact ret _ _ _ _ ⟨rfl, (congrArg (wC G a) (rfl))⟩ rfl dX5_seekSheet_34
  · skip
    have c_4 := bI_0 c_4
    exact absurd (in3 (by decide)) c_4

set_option maxHeartbeats 4000000 in
set_option maxRecDepth 20000 in
theorem c_X5_seekSheet_0_1 (l : Launch) (G : GB) (a : Nat → Nat) (x : Q3) (hb : ¬ x 8 1 0 = 0) : CI l yX5_seekSheet cX5_seekSheet 2 .int 2 41 G [.ref (a 0), .int (nI 0)] (wC G a x) (fun vR w' => vR = 0 ∧ w' = wC G a x) := by
  refine CI.mk (own := RX5) (by decide) rfl (Nat.le_of_ble_eq_true rfl) ?_
  intro X E ret
  show J X G 2 0 0 (wC G a x) [(0, .ref (a 0)), (1, .int (nI 0))] 0 []
  refine J_iload_n E dX5_seekSheet_0 rfl 1 rfl ?_
  refine J_cSiN E (As := [.int (nI 0)]) (c_X5_isSheet l G (nI 0) ) cl_X5_202 yo_X5_isSheet dX5_seekSheet_1 rfl (Nat.le_of_ble_eq_true rfl) (Nat.le_of_ble_eq_true rfl) rfl (Nat.le_of_ble_eq_true rfl) ⟨Nat.zero_le _, Nat.zero_le _⟩ ?_
  refine J_if_ne E (tgt := 13) dX5_seekSheet_4 (by decide) (fun c_4 => ?_) (fun c_4 => ?_)
  · skip
    have c_4 := bI_1 c_4
    refine J_aload_n E dX5_seekSheet_13 rfl 0 rfl ?_
    refine gC0_X5_44 E dX5_seekSheet_14 ?_
    refine J_iload_n E dX5_seekSheet_17 rfl 1 rfl ?_
    refine laC_30_0 E dX5_seekSheet_18 ?_
    refine J_si8r E (As := []) (c_X2_isMissing l G (sh a 31) (x 8) ) cl_X5_212 yo_X2_isMissing dX5_seekSheet_19 rfl (Nat.le_of_ble_eq_true rfl) (Nat.le_of_ble_eq_true rfl) rfl (Nat.le_of_ble_eq_true rfl) ⟨Nat.zero_le _, Nat.zero_le _⟩ ?_
    refine J_if_eq E (tgt := 33) dX5_seekSheet_22 (by decide) (fun c_22 => ?_) (fun c_22 => ?_)
    · skip
      have c_22 := bI_0 c_22
      refine J_iconst E dX5_seekSheet_33 ic_0 ?_
      exact ret _ _ _ _ ⟨rfl, (congrArg (wC G a) (rfl))⟩ rfl dX5_seekSheet_34
    · skip
      have c_22 := bI_1 c_22
      exact absurd c_22 hb
  · skip
    have c_4 := bI_0 c_4
    exact absurd (in3 (by decide)) c_4

set_option maxHeartbeats 4000000 in
set_option maxRecDepth 20000 in
theorem c_X5_seekSheet_1_0 (l : Launch) (G : GB) (a : Nat → Nat) (x : Q3) (hb : x 9 1 0 = 0) : CI l yX5_seekSheet cX5_seekSheet 2 .int 2 41 G [.ref (a 0), .int (nI 1)] (wC G a x) (fun vR w' => vR = tellR 5 ∧ w' = wC G a (tellX x 5)) := by
  refine CI.mk (own := RX5) (by decide) rfl (Nat.le_of_ble_eq_true rfl) ?_
  intro X E ret
  show J X G 2 0 0 (wC G a x) [(0, .ref (a 0)), (1, .int (nI 1))] 0 []
  refine J_iload_n E dX5_seekSheet_0 rfl 1 rfl ?_
  refine J_cSiN E (As := [.int (nI 1)]) (c_X5_isSheet l G (nI 1) ) cl_X5_202 yo_X5_isSheet dX5_seekSheet_1 rfl (Nat.le_of_ble_eq_true rfl) (Nat.le_of_ble_eq_true rfl) rfl (Nat.le_of_ble_eq_true rfl) ⟨Nat.zero_le _, Nat.zero_le _⟩ ?_
  refine J_if_ne E (tgt := 13) dX5_seekSheet_4 (by decide) (fun c_4 => ?_) (fun c_4 => ?_)
  · skip
    have c_4 := bI_1 c_4
    refine J_aload_n E dX5_seekSheet_13 rfl 0 rfl ?_
    refine gC0_X5_44 E dX5_seekSheet_14 ?_
    refine J_iload_n E dX5_seekSheet_17 rfl 1 rfl ?_
    refine laC_30_1 E dX5_seekSheet_18 ?_
    refine J_si9r E (As := []) (c_X2_isMissing l G (sh a 33) (x 9) ) cl_X5_212 yo_X2_isMissing dX5_seekSheet_19 rfl (Nat.le_of_ble_eq_true rfl) (Nat.le_of_ble_eq_true rfl) rfl (Nat.le_of_ble_eq_true rfl) ⟨Nat.zero_le _, Nat.zero_le _⟩ ?_
    refine J_if_eq E (tgt := 33) dX5_seekSheet_22 (by decide) (fun c_22 => ?_) (fun c_22 => ?_)
    · skip
      have c_22 := bI_0 c_22
      exact absurd hb c_22
    · skip
      have c_22 := bI_1 c_22
      refine J_aload_n E dX5_seekSheet_25 rfl 0 rfl ?_
      refine J_iconst E dX5_seekSheet_26 ic_5 ?_
      refine J_cVi0 E (As := [.int 5]) (c_X5_tell l G a x 5 (by omega)) cl_X5_64 yo_X5_tell dX5_seekSheet_27 rfl rfl rfl (Nat.le_of_ble_eq_true rfl) (Nat.le_of_ble_eq_true rfl) rfl (Nat.le_of_ble_eq_true rfl) ⟨Nat.zero_le _, Nat.zero_le _⟩ ?_
      refine J_goto E (tgt := 34) dX5_seekSheet_30 (by decide) ?_
      exact ret _ _ _ _ ⟨rfl, (congrArg (wC G a) (rfl))⟩ rfl dX5_seekSheet_34
  · skip
    have c_4 := bI_0 c_4
    exact absurd (in3 (by decide)) c_4

set_option maxHeartbeats 4000000 in
set_option maxRecDepth 20000 in
theorem c_X5_seekSheet_1_1 (l : Launch) (G : GB) (a : Nat → Nat) (x : Q3) (hb : ¬ x 9 1 0 = 0) : CI l yX5_seekSheet cX5_seekSheet 2 .int 2 41 G [.ref (a 0), .int (nI 1)] (wC G a x) (fun vR w' => vR = 0 ∧ w' = wC G a x) := by
  refine CI.mk (own := RX5) (by decide) rfl (Nat.le_of_ble_eq_true rfl) ?_
  intro X E ret
  show J X G 2 0 0 (wC G a x) [(0, .ref (a 0)), (1, .int (nI 1))] 0 []
  refine J_iload_n E dX5_seekSheet_0 rfl 1 rfl ?_
  refine J_cSiN E (As := [.int (nI 1)]) (c_X5_isSheet l G (nI 1) ) cl_X5_202 yo_X5_isSheet dX5_seekSheet_1 rfl (Nat.le_of_ble_eq_true rfl) (Nat.le_of_ble_eq_true rfl) rfl (Nat.le_of_ble_eq_true rfl) ⟨Nat.zero_le _, Nat.zero_le _⟩ ?_
  refine J_if_ne E (tgt := 13) dX5_seekSheet_4 (by decide) (fun c_4 => ?_) (fun c_4 => ?_)
  · skip
    have c_4 := bI_1 c_4
    refine J_aload_n E dX5_seekSheet_13 rfl 0 rfl ?_
    refine gC0_X5_44 E dX5_seekSheet_14 ?_
    refine J_iload_n E dX5_seekSheet_17 rfl 1 rfl ?_
    refine laC_30_1 E dX5_seekSheet_18 ?_
    refine J_si9r E (As := []) (c_X2_isMissing l G (sh a 33) (x 9) ) cl_X5_212 yo_X2_isMissing dX5_seekSheet_19 rfl (Nat.le_of_ble_eq_true rfl) (Nat.le_of_ble_eq_true rfl) rfl (Nat.le_of_ble_eq_true rfl) ⟨Nat.zero_le _, Nat.zero_le _⟩ ?_
    refine J_if_eq E (tgt := 33) dX5_seekSheet_22 (by decide) (fun c_22 => ?_) (fun c_22 => ?_)
    · skip
      have c_22 := bI_0 c_22
      refine J_iconst E dX5_seekSheet_33 ic_0 ?_
      exact ret _ _ _ _ ⟨rfl, (congrArg (wC G a) (rfl))⟩ rfl dX5_seekSheet_34
    · skip
      have c_22 := bI_1 c_22
      exact absurd c_22 hb
  · skip
    have c_4 := bI_0 c_4
    exact absurd (in3 (by decide)) c_4

set_option maxHeartbeats 4000000 in
set_option maxRecDepth 20000 in
theorem c_X5_seekSheet_2_0 (l : Launch) (G : GB) (a : Nat → Nat) (x : Q3) (hb : x 10 1 0 = 0) : CI l yX5_seekSheet cX5_seekSheet 2 .int 2 41 G [.ref (a 0), .int (nI 2)] (wC G a x) (fun vR w' => vR = tellR 5 ∧ w' = wC G a (tellX x 5)) := by
  refine CI.mk (own := RX5) (by decide) rfl (Nat.le_of_ble_eq_true rfl) ?_
  intro X E ret
  show J X G 2 0 0 (wC G a x) [(0, .ref (a 0)), (1, .int (nI 2))] 0 []
  refine J_iload_n E dX5_seekSheet_0 rfl 1 rfl ?_
  refine J_cSiN E (As := [.int (nI 2)]) (c_X5_isSheet l G (nI 2) ) cl_X5_202 yo_X5_isSheet dX5_seekSheet_1 rfl (Nat.le_of_ble_eq_true rfl) (Nat.le_of_ble_eq_true rfl) rfl (Nat.le_of_ble_eq_true rfl) ⟨Nat.zero_le _, Nat.zero_le _⟩ ?_
  refine J_if_ne E (tgt := 13) dX5_seekSheet_4 (by decide) (fun c_4 => ?_) (fun c_4 => ?_)
  · skip
    have c_4 := bI_1 c_4
    refine J_aload_n E dX5_seekSheet_13 rfl 0 rfl ?_
    refine gC0_X5_44 E dX5_seekSheet_14 ?_
    refine J_iload_n E dX5_seekSheet_17 rfl 1 rfl ?_
    refine laC_30_2 E dX5_seekSheet_18 ?_
    refine J_si10r E (As := []) (c_X2_isMissing l G (sh a 35) (x 10) ) cl_X5_212 yo_X2_isMissing dX5_seekSheet_19 rfl (Nat.le_of_ble_eq_true rfl) (Nat.le_of_ble_eq_true rfl) rfl (Nat.le_of_ble_eq_true rfl) ⟨Nat.zero_le _, Nat.zero_le _⟩ ?_
    refine J_if_eq E (tgt := 33) dX5_seekSheet_22 (by decide) (fun c_22 => ?_) (fun c_22 => ?_)
    · skip
      have c_22 := bI_0 c_22
      exact absurd hb c_22
    · skip
      have c_22 := bI_1 c_22
      refine J_aload_n E dX5_seekSheet_25 rfl 0 rfl ?_
      refine J_iconst E dX5_seekSheet_26 ic_5 ?_
      refine J_cVi0 E (As := [.int 5]) (c_X5_tell l G a x 5 (by omega)) cl_X5_64 yo_X5_tell dX5_seekSheet_27 rfl rfl rfl (Nat.le_of_ble_eq_true rfl) (Nat.le_of_ble_eq_true rfl) rfl (Nat.le_of_ble_eq_true rfl) ⟨Nat.zero_le _, Nat.zero_le _⟩ ?_
      refine J_goto E (tgt := 34) dX5_seekSheet_30 (by decide) ?_
      exact ret _ _ _ _ ⟨rfl, (congrArg (wC G a) (rfl))⟩ rfl dX5_seekSheet_34
  · skip
    have c_4 := bI_0 c_4
    exact absurd (in3 (by decide)) c_4

set_option maxHeartbeats 4000000 in
set_option maxRecDepth 20000 in
theorem c_X5_seekSheet_2_1 (l : Launch) (G : GB) (a : Nat → Nat) (x : Q3) (hb : ¬ x 10 1 0 = 0) : CI l yX5_seekSheet cX5_seekSheet 2 .int 2 41 G [.ref (a 0), .int (nI 2)] (wC G a x) (fun vR w' => vR = 0 ∧ w' = wC G a x) := by
  refine CI.mk (own := RX5) (by decide) rfl (Nat.le_of_ble_eq_true rfl) ?_
  intro X E ret
  show J X G 2 0 0 (wC G a x) [(0, .ref (a 0)), (1, .int (nI 2))] 0 []
  refine J_iload_n E dX5_seekSheet_0 rfl 1 rfl ?_
  refine J_cSiN E (As := [.int (nI 2)]) (c_X5_isSheet l G (nI 2) ) cl_X5_202 yo_X5_isSheet dX5_seekSheet_1 rfl (Nat.le_of_ble_eq_true rfl) (Nat.le_of_ble_eq_true rfl) rfl (Nat.le_of_ble_eq_true rfl) ⟨Nat.zero_le _, Nat.zero_le _⟩ ?_
  refine J_if_ne E (tgt := 13) dX5_seekSheet_4 (by decide) (fun c_4 => ?_) (fun c_4 => ?_)
  · skip
    have c_4 := bI_1 c_4
    refine J_aload_n E dX5_seekSheet_13 rfl 0 rfl ?_
    refine gC0_X5_44 E dX5_seekSheet_14 ?_
    refine J_iload_n E dX5_seekSheet_17 rfl 1 rfl ?_
    refine laC_30_2 E dX5_seekSheet_18 ?_
    refine J_si10r E (As := []) (c_X2_isMissing l G (sh a 35) (x 10) ) cl_X5_212 yo_X2_isMissing dX5_seekSheet_19 rfl (Nat.le_of_ble_eq_true rfl) (Nat.le_of_ble_eq_true rfl) rfl (Nat.le_of_ble_eq_true rfl) ⟨Nat.zero_le _, Nat.zero_le _⟩ ?_
    refine J_if_eq E (tgt := 33) dX5_seekSheet_22 (by decide) (fun c_22 => ?_) (fun c_22 => ?_)
    · skip
      have c_22 := bI_0 c_22
      refine J_iconst E dX5_seekSheet_33 ic_0 ?_
      exact ret _ _ _ _ ⟨rfl, (congrArg (wC G a) (rfl))⟩ rfl dX5_seekSheet_34
    · skip
      have c_22 := bI_1 c_22
      exact absurd c_22 hb
  · skip
    have c_4 := bI_0 c_4
    exact absurd (in3 (by decide)) c_4

set_option maxHeartbeats 4000000 in
set_option maxRecDepth 20000 in
theorem c_X5_seekSheet_3_0 (l : Launch) (G : GB) (a : Nat → Nat) (x : Q3) (hb : x 11 1 0 = 0) : CI l yX5_seekSheet cX5_seekSheet 2 .int 2 41 G [.ref (a 0), .int (nI 3)] (wC G a x) (fun vR w' => vR = tellR 5 ∧ w' = wC G a (tellX x 5)) := by
  refine CI.mk (own := RX5) (by decide) rfl (Nat.le_of_ble_eq_true rfl) ?_
  intro X E ret
  show J X G 2 0 0 (wC G a x) [(0, .ref (a 0)), (1, .int (nI 3))] 0 []
  refine J_iload_n E dX5_seekSheet_0 rfl 1 rfl ?_
  refine J_cSiN E (As := [.int (nI 3)]) (c_X5_isSheet l G (nI 3) ) cl_X5_202 yo_X5_isSheet dX5_seekSheet_1 rfl (Nat.le_of_ble_eq_true rfl) (Nat.le_of_ble_eq_true rfl) rfl (Nat.le_of_ble_eq_true rfl) ⟨Nat.zero_le _, Nat.zero_le _⟩ ?_
  refine J_if_ne E (tgt := 13) dX5_seekSheet_4 (by decide) (fun c_4 => ?_) (fun c_4 => ?_)
  · skip
    have c_4 := bI_1 c_4
    refine J_aload_n E dX5_seekSheet_13 rfl 0 rfl ?_
    refine gC0_X5_44 E dX5_seekSheet_14 ?_
    refine J_iload_n E dX5_seekSheet_17 rfl 1 rfl ?_
    refine laC_30_3 E dX5_seekSheet_18 ?_
    refine J_si11r E (As := []) (c_X2_isMissing l G (sh a 37) (x 11) ) cl_X5_212 yo_X2_isMissing dX5_seekSheet_19 rfl (Nat.le_of_ble_eq_true rfl) (Nat.le_of_ble_eq_true rfl) rfl (Nat.le_of_ble_eq_true rfl) ⟨Nat.zero_le _, Nat.zero_le _⟩ ?_
    refine J_if_eq E (tgt := 33) dX5_seekSheet_22 (by decide) (fun c_22 => ?_) (fun c_22 => ?_)
    · skip
      have c_22 := bI_0 c_22
      exact absurd hb c_22
    · skip
      have c_22 := bI_1 c_22
      refine J_aload_n E dX5_seekSheet_25 rfl 0 rfl ?_
      refine J_iconst E dX5_seekSheet_26 ic_5 ?_
      refine J_cVi0 E (As := [.int 5]) (c_X5_tell l G a x 5 (by omega)) cl_X5_64 yo_X5_tell dX5_seekSheet_27 rfl rfl rfl (Nat.le_of_ble_eq_true rfl) (Nat.le_of_ble_eq_true rfl) rfl (Nat.le_of_ble_eq_true rfl) ⟨Nat.zero_le _, Nat.zero_le _⟩ ?_
      refine J_goto E (tgt := 34) dX5_seekSheet_30 (by decide) ?_
      exact ret _ _ _ _ ⟨rfl, (congrArg (wC G a) (rfl))⟩ rfl dX5_seekSheet_34
  · skip
    have c_4 := bI_0 c_4
    exact absurd (in3 (by decide)) c_4

set_option maxHeartbeats 4000000 in
set_option maxRecDepth 20000 in
theorem c_X5_seekSheet_3_1 (l : Launch) (G : GB) (a : Nat → Nat) (x : Q3) (hb : ¬ x 11 1 0 = 0) : CI l yX5_seekSheet cX5_seekSheet 2 .int 2 41 G [.ref (a 0), .int (nI 3)] (wC G a x) (fun vR w' => vR = 0 ∧ w' = wC G a x) := by
  refine CI.mk (own := RX5) (by decide) rfl (Nat.le_of_ble_eq_true rfl) ?_
  intro X E ret
  show J X G 2 0 0 (wC G a x) [(0, .ref (a 0)), (1, .int (nI 3))] 0 []
  refine J_iload_n E dX5_seekSheet_0 rfl 1 rfl ?_
  refine J_cSiN E (As := [.int (nI 3)]) (c_X5_isSheet l G (nI 3) ) cl_X5_202 yo_X5_isSheet dX5_seekSheet_1 rfl (Nat.le_of_ble_eq_true rfl) (Nat.le_of_ble_eq_true rfl) rfl (Nat.le_of_ble_eq_true rfl) ⟨Nat.zero_le _, Nat.zero_le _⟩ ?_
  refine J_if_ne E (tgt := 13) dX5_seekSheet_4 (by decide) (fun c_4 => ?_) (fun c_4 => ?_)
  · skip
    have c_4 := bI_1 c_4
    refine J_aload_n E dX5_seekSheet_13 rfl 0 rfl ?_
    refine gC0_X5_44 E dX5_seekSheet_14 ?_
    refine J_iload_n E dX5_seekSheet_17 rfl 1 rfl ?_
    refine laC_30_3 E dX5_seekSheet_18 ?_
    refine J_si11r E (As := []) (c_X2_isMissing l G (sh a 37) (x 11) ) cl_X5_212 yo_X2_isMissing dX5_seekSheet_19 rfl (Nat.le_of_ble_eq_true rfl) (Nat.le_of_ble_eq_true rfl) rfl (Nat.le_of_ble_eq_true rfl) ⟨Nat.zero_le _, Nat.zero_le _⟩ ?_
    refine J_if_eq E (tgt := 33) dX5_seekSheet_22 (by decide) (fun c_22 => ?_) (fun c_22 => ?_)
    · skip
      have c_22 := bI_0 c_22
      refine J_iconst E dX5_seekSheet_33 ic_0 ?_
      exact ret _ _ _ _ ⟨rfl, (congrArg (wC G a) (rfl))⟩ rfl dX5_seekSheet_34
    · skip
      have c_22 := bI_1 c_22
      exact absurd c_22 hb
  · skip
    have c_4 := bI_0 c_4
    exact absurd (in3 (by decide)) c_4

set_option maxHeartbeats 4000000 in
set_option maxRecDepth 20000 in
theorem c_X5_isWaterAsBefore (l : Launch) (G : GB) (a : Nat → Nat) (x : Q3)  : CI l yX5_isWaterAsBefore cX5_isWaterAsBefore 2 .boolean 0 0 G [.ref (a 0)] (wC G a x) (fun vR w' => vR = bI (allF (fun j => decide (x 2 1 j = x 6 0 j)) 11 = true) ∧ w' = wC G a x) := by
  refine CI.mk (own := RX5) (by decide) rfl (Nat.le_of_ble_eq_true rfl) ?_
  intro X E ret
  show J X G 2 0 0 (wC G a x) [(0, .ref (a 0))] 0 []
  refine J_iconst E dX5_isWaterAsBefore_0 ic_0 ?_
  refine J_istore_n E (lv' := [(1, .int 0), (0, .ref (a 0))]) dX5_isWaterAsBefore_1 rfl (by decide) rfl ?_
  have lp2 : ∀ (n : Nat) (i : Nat), (i ≤ 11) → (allF (fun j => decide (x 2 1 j = x 6 0 j)) i = true) → 11 - i < n → J X G 2 0 0 (wC G a x) [(0, .ref (a 0)), (1, .int (nI i))] 2 [] := by
    intro n
    induction n with
    | zero => intro i hi h1 hm; exact absurd hm (Nat.not_lt_zero _)
    | succ n ih2 =>
      intro i hi h1 hm
      refine J_iload_n E dX5_isWaterAsBefore_2 rfl 1 rfl ?_
      refine J_bipush E dX5_isWaterAsBefore_3 bp_11 ?_
      refine J_icmp_ge E (tgt := 34) dX5_isWaterAsBefore_5 (by decide) (fun c_5 => ?_) (fun c_5 => ?_)
      · skip
        have n_5 : 11 ≤ i := cmp_le (a := 11) (b := i) (by omega) (by omega) c_5
        refine J_iconst E dX5_isWaterAsBefore_34 ic_1 ?_
        exact ret _ _ _ _ ⟨by rw [bI_t]; rw [show 11 = i by omega]; exact h1, (congrArg (wC G a) (rfl))⟩ rfl dX5_isWaterAsBefore_35
      · skip
        have n_5 : ¬ 11 ≤ i := cmp_nle (a := 11) (b := i) (by omega) (by omega) c_5
        refine J_aload_n E dX5_isWaterAsBefore_8 rfl 0 rfl ?_
        refine gC0_X5_19 E dX5_isWaterAsBefore_9 ?_
        refine gC17_X5_103 E dX5_isWaterAsBefore_12 ?_
        refine J_iload_n E dX5_isWaterAsBefore_15 rfl 1 rfl ?_
        refine lC_19 E (j := i) dX5_isWaterAsBefore_16 (by omega) ?_
        refine J_aload_n E dX5_isWaterAsBefore_17 rfl 0 rfl ?_
        refine gC0_X5_22 E dX5_isWaterAsBefore_18 ?_
        refine J_iload_n E dX5_isWaterAsBefore_21 rfl 1 rfl ?_
        refine lC_25 E (j := i) dX5_isWaterAsBefore_22 (by omega) ?_
        refine J_icmp_eq E (tgt := 28) dX5_isWaterAsBefore_23 (by decide) (fun c_23 => ?_) (fun c_23 => ?_)
        · skip
          refine J_iinc E (lv' := [(1, .int (nI (i + 1))), (0, .ref (a 0))]) dX5_isWaterAsBefore_28 1 rfl (nI_inc _) (by decide) rfl ?_
          refine J_goto E (tgt := 2) dX5_isWaterAsBefore_31 (by decide) ?_
          refine J_lv [1, 0] rfl ?_
          exact ih2 (i + 1) (by omega) (by simp [allF, h1, c_23]) (by omega)
        · skip
          refine J_iconst E dX5_isWaterAsBefore_26 ic_0 ?_
          exact ret _ _ _ _ ⟨by rw [bI_f]; exact fun z => c_23 (of_decide_eq_true ((allF_iff _ _).mp z i (by omega))), (congrArg (wC G a) (rfl))⟩ rfl dX5_isWaterAsBefore_27
  refine J_lv [1, 0] rfl ?_
  exact lp2 _ 0 (by omega) rfl (Nat.lt_succ_self _)

set_option maxHeartbeats 4000000 in
set_option maxRecDepth 20000 in
theorem c_X5_tryTurned (l : Launch) (G : GB) (a : Nat → Nat) (x : Q3) (hs : Int32) : CV l yX5_tryTurned cX5_tryTurned 3 2 47 0 0 G [.ref (a 0), .int hs] (wC G a x) (fun w' => w' = wC G a (upG x 2 (turnQ (x 0) hs))) := by
  refine CV.mk (own := RX5) (by decide) rfl (Nat.le_of_ble_eq_true rfl) ?_
  intro X E _ _ _ ret
  show J X G 3 0 0 (wC G a x) [(0, .ref (a 0)), (1, .int hs)] 0 []
  refine J_aload_n E dX5_tryTurned_0 rfl 0 rfl ?_
  refine gC0_X5_19 E dX5_tryTurned_1 ?_
  refine J_aload_n E dX5_tryTurned_4 rfl 0 rfl ?_
  refine gC0_X5_10 E dX5_tryTurned_5 ?_
  refine J_b20 E dX5_tryTurned_8 (Nat.le_of_ble_eq_true rfl) (Nat.le_of_ble_eq_true rfl) (Nat.le_of_ble_eq_true rfl) ⟨Nat.zero_le _, Nat.zero_le _⟩ ?_
  refine J_iconst E dX5_tryTurned_11 ic_0 ?_
  refine J_istore_n E (lv' := [(2, .int 0), (0, .ref (a 0)), (1, .int hs)]) dX5_tryTurned_12 rfl (by decide) rfl ?_
  have lp13 : ∀ (n : Nat) (i : Nat) (r : Q2), (i ≤ 11) → (r = turnS (x 0) hs i) → 11 - i < n → J X G 3 0 0 (wC G a (upG x 2 r)) [(0, .ref (a 0)), (1, .int hs), (2, .int (nI i))] 13 [] := by
    intro n
    induction n with
    | zero => intro i r hi hr hm; exact absurd hm (Nat.not_lt_zero _)
    | succ n ih13 =>
      intro i r hi hr hm
      refine J_iload_n E dX5_tryTurned_13 rfl 2 rfl ?_
      refine J_bipush E dX5_tryTurned_14 bp_11 ?_
      refine J_icmp_ge E (tgt := 42) dX5_tryTurned_16 (by decide) (fun c_16 => ?_) (fun c_16 => ?_)
      · skip
        have n_16 : 11 ≤ i := cmp_le (a := 11) (b := i) (by omega) (by omega) c_16
        exact ret _ _ _ (congrArg (wC G a) (by rw [hr, show i = 11 by omega]; rfl)) dX5_tryTurned_42
      · skip
        have n_16 : ¬ 11 ≤ i := cmp_nle (a := 11) (b := i) (by omega) (by omega) c_16
        refine J_aload_n E dX5_tryTurned_19 rfl 0 rfl ?_
        refine gC0_X5_19 E dX5_tryTurned_20 ?_
        refine gC17_X5_96 E dX5_tryTurned_23 ?_
        refine J_iload_n E dX5_tryTurned_26 rfl 2 rfl ?_
        refine J_dup2 E dX5_tryTurned_27 rfl rfl ?_
        refine lC_22 E (j := i) dX5_tryTurned_28 (by omega) ?_
        refine J_top (x' := r 4 i) upG_s ?_
        refine J_iload_n E dX5_tryTurned_29 rfl 1 rfl ?_
        refine J_iload_n E dX5_tryTurned_30 rfl 2 rfl ?_
        refine J_ishr E dX5_tryTurned_31 ?_
        refine J_iconst E dX5_tryTurned_32 ic_1 ?_
        refine J_iand E dX5_tryTurned_33 ?_
        refine J_ixor E dX5_tryTurned_34 ?_
        refine sC_22 E (j := i) dX5_tryTurned_35 (by omega) ?_
        refine J_iinc E (lv' := [(2, .int (nI (i + 1))), (0, .ref (a 0)), (1, .int hs)]) dX5_tryTurned_36 2 rfl (nI_inc _) (by decide) rfl ?_
        refine J_goto E (tgt := 13) dX5_tryTurned_39 (by decide) ?_
        refine J_lv [1, 2, 0] rfl ?_
        exact ih13 (i + 1) ((up3 (upG x 2 r) 2 4 i ((r 4 i) ^^^ ((hs >>> ((nI i) &&& 31)) &&& 1))) 2) (by omega) (by rw [hr]; rfl) (by omega)
  refine J_lv [1, 2, 0] rfl ?_
  exact lp13 _ 0 (x 0) (by omega) rfl (Nat.lt_succ_self _)
