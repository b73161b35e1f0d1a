theorem bitI_eq (j : Nat) : 1 <<< (nI j &&& 31) = bitI j := rfl
theorem wet01 (hs : Int32) (last : Nat) : ∀ (m : Nat) (q : Q2), wetR hs last m q = 0 ∨ wetR hs last m q = 1
  | 0, _ => Or.inr rfl
  | m + 1, q => by
    rw [wetR]
    split
    · exact wet01 hs last m _
    · exact Or.inl rfl
theorem nar01 {v : Int32} (h : v = 0 ∨ v = 1) : narrow .boolean (.int v) = .int v := by
  rcases h with rfl | rfl <;> rfl
theorem seen01 (f : Nat → Int32) (j : Nat) : ∀ (n i : Nat) (q : Q2), seenR f j n i q = 0 ∨ seenR f j n i q = 1
  | 0, _, _ => Or.inr rfl
  | n + 1, i, q => by
    rw [seenR]
    by_cases h : ¬ f i = -1 ∧ ¬ f i = (if 0 < i then hourM q j else q) 1 j
    · rw [if_pos h]; exact Or.inl rfl
    · rw [if_neg h]; exact seen01 f j n _ _

set_option maxHeartbeats 4000000 in
set_option maxRecDepth 20000 in
theorem c_X5_tryWith (l : Launch) (G : GB) (a : Nat → Nat) (x : Q3) (k : Nat) (v : Int32) (j : Nat) (hk : k ≤ 6) (hj : j < 11) : CV l yX5_tryWith cX5_tryWith 4 2 47 0 0 G [.ref (a 0), .int (nI k), .int v, .int (nI j)] (wC G a x) (fun w' => w' = wC G a (upG x 2 (withQ (x 0) k v j))) := by
  refine CV.mk (own := RX5) (by decide) rfl (Nat.le_of_ble_eq_true rfl) ?_
  intro X E _ _ _ ret
  show J X G 4 0 0 (wC G a x) [(0, .ref (a 0)), (1, .int (nI k)), (2, .int v), (3, .int (nI j))] 0 []
  rcases (show k = 0 ∨ k = 1 ∨ k = 2 ∨ k = 3 ∨ k = 4 ∨ k = 5 ∨ k = 6 by omega) with rfl | rfl | rfl | rfl | rfl | rfl | rfl
  · skip
    refine J_aload_n E dX5_tryWith_0 rfl 0 rfl ?_
    refine gC0_X5_19 E dX5_tryWith_1 ?_
    refine J_aload_n E dX5_tryWith_4 rfl 0 rfl ?_
    refine gC0_X5_10 E dX5_tryWith_5 ?_
    refine J_b20 E dX5_tryWith_8 (Nat.le_of_ble_eq_true rfl) (Nat.le_of_ble_eq_true rfl) (Nat.le_of_ble_eq_true rfl) ⟨Nat.zero_le _, Nat.zero_le _⟩ ?_
    refine J_iload_n E dX5_tryWith_11 rfl 1 rfl ?_
    refine J_bipush E dX5_tryWith_12 bp_6 ?_
    refine J_icmp_ne E (tgt := 28) dX5_tryWith_14 (by decide) (fun c_14 => ?_) (fun c_14 => ?_)
    · skip
      have n_14 : ¬ 0 = 6 := cmp_ne (a := 0) (b := 6) (by omega) (by omega) c_14
      refine J_aload_n E dX5_tryWith_28 rfl 0 rfl ?_
      refine gC0_X5_19 E dX5_tryWith_29 ?_
      refine J_iload_n E dX5_tryWith_32 rfl 1 rfl ?_
      refine J_sr2r E (As := [.int (nI 0)]) (c_X1_row l G (sh a 17) (x 0) 0 (by omega)) cl_X5_67 yo_X1_row dX5_tryWith_33 rfl (Nat.le_of_ble_eq_true rfl) (Nat.le_of_ble_eq_true rfl) rfl (Nat.le_of_ble_eq_true rfl) ⟨Nat.zero_le _, Nat.zero_le _⟩ ?_
      refine J_st (st' := [.ref (a 18)]) rfl ?_
      refine J_iload_n E dX5_tryWith_36 rfl 3 rfl ?_
      refine J_iload_n E dX5_tryWith_37 rfl 2 rfl ?_
      refine sC_18 E (j := j) dX5_tryWith_38 (by omega) ?_
      exact ret _ _ _ (congrArg (wC G a) (by rw [up3_upG]; rfl)) dX5_tryWith_39
    · skip
      have n_14 : 0 = 6 := cmp_eq (a := 0) (b := 6) (by omega) (by omega) c_14
      exact absurd n_14 (by decide)
  · skip
    refine J_aload_n E dX5_tryWith_0 rfl 0 rfl ?_
    refine gC0_X5_19 E dX5_tryWith_1 ?_
    refine J_aload_n E dX5_tryWith_4 rfl 0 rfl ?_
    refine gC0_X5_10 E dX5_tryWith_5 ?_
    refine J_b20 E dX5_tryWith_8 (Nat.le_of_ble_eq_true rfl) (Nat.le_of_ble_eq_true rfl) (Nat.le_of_ble_eq_true rfl) ⟨Nat.zero_le _, Nat.zero_le _⟩ ?_
    refine J_iload_n E dX5_tryWith_11 rfl 1 rfl ?_
    refine J_bipush E dX5_tryWith_12 bp_6 ?_
    refine J_icmp_ne E (tgt := 28) dX5_tryWith_14 (by decide) (fun c_14 => ?_) (fun c_14 => ?_)
    · skip
      have n_14 : ¬ 1 = 6 := cmp_ne (a := 1) (b := 6) (by omega) (by omega) c_14
      refine J_aload_n E dX5_tryWith_28 rfl 0 rfl ?_
      refine gC0_X5_19 E dX5_tryWith_29 ?_
      refine J_iload_n E dX5_tryWith_32 rfl 1 rfl ?_
      refine J_sr2r E (As := [.int (nI 1)]) (c_X1_row l G (sh a 17) (x 0) 1 (by omega)) cl_X5_67 yo_X1_row dX5_tryWith_33 rfl (Nat.le_of_ble_eq_true rfl) (Nat.le_of_ble_eq_true rfl) rfl (Nat.le_of_ble_eq_true rfl) ⟨Nat.zero_le _, Nat.zero_le _⟩ ?_
      refine J_st (st' := [.ref (a 19)]) rfl ?_
      refine J_iload_n E dX5_tryWith_36 rfl 3 rfl ?_
      refine J_iload_n E dX5_tryWith_37 rfl 2 rfl ?_
      refine sC_19 E (j := j) dX5_tryWith_38 (by omega) ?_
      exact ret _ _ _ (congrArg (wC G a) (by rw [up3_upG]; rfl)) dX5_tryWith_39
    · skip
      have n_14 : 1 = 6 := cmp_eq (a := 1) (b := 6) (by omega) (by omega) c_14
      exact absurd n_14 (by decide)
  · skip
    refine J_aload_n E dX5_tryWith_0 rfl 0 rfl ?_
    refine gC0_X5_19 E dX5_tryWith_1 ?_
    refine J_aload_n E dX5_tryWith_4 rfl 0 rfl ?_
    refine gC0_X5_10 E dX5_tryWith_5 ?_
    refine J_b20 E dX5_tryWith_8 (Nat.le_of_ble_eq_true rfl) (Nat.le_of_ble_eq_true rfl) (Nat.le_of_ble_eq_true rfl) ⟨Nat.zero_le _, Nat.zero_le _⟩ ?_
    refine J_iload_n E dX5_tryWith_11 rfl 1 rfl ?_
    refine J_bipush E dX5_tryWith_12 bp_6 ?_
    refine J_icmp_ne E (tgt := 28) dX5_tryWith_14 (by decide) (fun c_14 => ?_) (fun c_14 => ?_)
    · skip
      have n_14 : ¬ 2 = 6 := cmp_ne (a := 2) (b := 6) (by omega) (by omega) c_14
      refine J_aload_n E dX5_tryWith_28 rfl 0 rfl ?_
      refine gC0_X5_19 E dX5_tryWith_29 ?_
      refine J_iload_n E dX5_tryWith_32 rfl 1 rfl ?_
      refine J_sr2r E (As := [.int (nI 2)]) (c_X1_row l G (sh a 17) (x 0) 2 (by omega)) cl_X5_67 yo_X1_row dX5_tryWith_33 rfl (Nat.le_of_ble_eq_true rfl) (Nat.le_of_ble_eq_true rfl) rfl (Nat.le_of_ble_eq_true rfl) ⟨Nat.zero_le _, Nat.zero_le _⟩ ?_
      refine J_st (st' := [.ref (a 20)]) rfl ?_
      refine J_iload_n E dX5_tryWith_36 rfl 3 rfl ?_
      refine J_iload_n E dX5_tryWith_37 rfl 2 rfl ?_
      refine sC_20 E (j := j) dX5_tryWith_38 (by omega) ?_
      exact ret _ _ _ (congrArg (wC G a) (by rw [up3_upG]; rfl)) dX5_tryWith_39
    · skip
      have n_14 : 2 = 6 := cmp_eq (a := 2) (b := 6) (by omega) (by omega) c_14
      exact absurd n_14 (by decide)
  · skip
    refine J_aload_n E dX5_tryWith_0 rfl 0 rfl ?_
    refine gC0_X5_19 E dX5_tryWith_1 ?_
    refine J_aload_n E dX5_tryWith_4 rfl 0 rfl ?_
    refine gC0_X5_10 E dX5_tryWith_5 ?_
    refine J_b20 E dX5_tryWith_8 (Nat.le_of_ble_eq_true rfl) (Nat.le_of_ble_eq_true rfl) (Nat.le_of_ble_eq_true rfl) ⟨Nat.zero_le _, Nat.zero_le _⟩ ?_
    refine J_iload_n E dX5_tryWith_11 rfl 1 rfl ?_
    refine J_bipush E dX5_tryWith_12 bp_6 ?_
    refine J_icmp_ne E (tgt := 28) dX5_tryWith_14 (by decide) (fun c_14 => ?_) (fun c_14 => ?_)
    · skip
      have n_14 : ¬ 3 = 6 := cmp_ne (a := 3) (b := 6) (by omega) (by omega) c_14
      refine J_aload_n E dX5_tryWith_28 rfl 0 rfl ?_
      refine gC0_X5_19 E dX5_tryWith_29 ?_
      refine J_iload_n E dX5_tryWith_32 rfl 1 rfl ?_
      refine J_sr2r E (As := [.int (nI 3)]) (c_X1_row l G (sh a 17) (x 0) 3 (by omega)) cl_X5_67 yo_X1_row dX5_tryWith_33 rfl (Nat.le_of_ble_eq_true rfl) (Nat.le_of_ble_eq_true rfl) rfl (Nat.le_of_ble_eq_true rfl) ⟨Nat.zero_le _, Nat.zero_le _⟩ ?_
      refine J_st (st' := [.ref (a 21)]) rfl ?_
      refine J_iload_n E dX5_tryWith_36 rfl 3 rfl ?_
      refine J_iload_n E dX5_tryWith_37 rfl 2 rfl ?_
      refine sC_21 E (j := j) dX5_tryWith_38 (by omega) ?_
      exact ret _ _ _ (congrArg (wC G a) (by rw [up3_upG]; rfl)) dX5_tryWith_39
    · skip
      have n_14 : 3 = 6 := cmp_eq (a := 3) (b := 6) (by omega) (by omega) c_14
      exact absurd n_14 (by decide)
  · skip
    refine J_aload_n E dX5_tryWith_0 rfl 0 rfl ?_
    refine gC0_X5_19 E dX5_tryWith_1 ?_
    refine J_aload_n E dX5_tryWith_4 rfl 0 rfl ?_
    refine gC0_X5_10 E dX5_tryWith_5 ?_
    refine J_b20 E dX5_tryWith_8 (Nat.le_of_ble_eq_true rfl) (Nat.le_of_ble_eq_true rfl) (Nat.le_of_ble_eq_true rfl) ⟨Nat.zero_le _, Nat.zero_le _⟩ ?_
    refine J_iload_n E dX5_tryWith_11 rfl 1 rfl ?_
    refine J_bipush E dX5_tryWith_12 bp_6 ?_
    refine J_icmp_ne E (tgt := 28) dX5_tryWith_14 (by decide) (fun c_14 => ?_) (fun c_14 => ?_)
    · skip
      have n_14 : ¬ 4 = 6 := cmp_ne (a := 4) (b := 6) (by omega) (by omega) c_14
      refine J_aload_n E dX5_tryWith_28 rfl 0 rfl ?_
      refine gC0_X5_19 E dX5_tryWith_29 ?_
      refine J_iload_n E dX5_tryWith_32 rfl 1 rfl ?_
      refine J_sr2r E (As := [.int (nI 4)]) (c_X1_row l G (sh a 17) (x 0) 4 (by omega)) cl_X5_67 yo_X1_row dX5_tryWith_33 rfl (Nat.le_of_ble_eq_true rfl) (Nat.le_of_ble_eq_true rfl) rfl (Nat.le_of_ble_eq_true rfl) ⟨Nat.zero_le _, Nat.zero_le _⟩ ?_
      refine J_st (st' := [.ref (a 22)]) rfl ?_
      refine J_iload_n E dX5_tryWith_36 rfl 3 rfl ?_
      refine J_iload_n E dX5_tryWith_37 rfl 2 rfl ?_
      refine sC_22 E (j := j) dX5_tryWith_38 (by omega) ?_
      exact ret _ _ _ (congrArg (wC G a) (by rw [up3_upG]; rfl)) dX5_tryWith_39
    · skip
      have n_14 : 4 = 6 := cmp_eq (a := 4) (b := 6) (by omega) (by omega) c_14
      exact absurd n_14 (by decide)
  · skip
    refine J_aload_n E dX5_tryWith_0 rfl 0 rfl ?_
    refine gC0_X5_19 E dX5_tryWith_1 ?_
    refine J_aload_n E dX5_tryWith_4 rfl 0 rfl ?_
    refine gC0_X5_10 E dX5_tryWith_5 ?_
    refine J_b20 E dX5_tryWith_8 (Nat.le_of_ble_eq_true rfl) (Nat.le_of_ble_eq_true rfl) (Nat.le_of_ble_eq_true rfl) ⟨Nat.zero_le _, Nat.zero_le _⟩ ?_
    refine J_iload_n E dX5_tryWith_11 rfl 1 rfl ?_
    refine J_bipush E dX5_tryWith_12 bp_6 ?_
    refine J_icmp_ne E (tgt := 28) dX5_tryWith_14 (by decide) (fun c_14 => ?_) (fun c_14 => ?_)
    · skip
      have n_14 : ¬ 5 = 6 := cmp_ne (a := 5) (b := 6) (by omega) (by omega) c_14
      refine J_aload_n E dX5_tryWith_28 rfl 0 rfl ?_
      refine gC0_X5_19 E dX5_tryWith_29 ?_
      refine J_iload_n E dX5_tryWith_32 rfl 1 rfl ?_
      refine J_sr2r E (As := [.int (nI 5)]) (c_X1_row l G (sh a 17) (x 0) 5 (by omega)) cl_X5_67 yo_X1_row dX5_tryWith_33 rfl (Nat.le_of_ble_eq_true rfl) (Nat.le_of_ble_eq_true rfl) rfl (Nat.le_of_ble_eq_true rfl) ⟨Nat.zero_le _, Nat.zero_le _⟩ ?_
      refine J_st (st' := [.ref (a 23)]) rfl ?_
      refine J_iload_n E dX5_tryWith_36 rfl 3 rfl ?_
      refine J_iload_n E dX5_tryWith_37 rfl 2 rfl ?_
      refine sC_23 E (j := j) dX5_tryWith_38 (by omega) ?_
      exact ret _ _ _ (congrArg (wC G a) (by rw [up3_upG]; rfl)) dX5_tryWith_39
    · skip
      have n_14 : 5 = 6 := cmp_eq (a := 5) (b := 6) (by omega) (by omega) c_14
      exact absurd n_14 (by decide)
  · skip
    refine J_aload_n E dX5_tryWith_0 rfl 0 rfl ?_
    refine gC0_X5_19 E dX5_tryWith_1 ?_
    refine J_aload_n E dX5_tryWith_4 rfl 0 rfl ?_
    refine gC0_X5_10 E dX5_tryWith_5 ?_
    refine J_b20 E dX5_tryWith_8 (Nat.le_of_ble_eq_true rfl) (Nat.le_of_ble_eq_true rfl) (Nat.le_of_ble_eq_true rfl) ⟨Nat.zero_le _, Nat.zero_le _⟩ ?_
    refine J_iload_n E dX5_tryWith_11 rfl 1 rfl ?_
    refine J_bipush E dX5_tryWith_12 bp_6 ?_
    refine J_icmp_ne E (tgt := 28) dX5_tryWith_14 (by decide) (fun c_14 => ?_) (fun c_14 => ?_)
    · skip
      have n_14 : ¬ 6 = 6 := cmp_ne (a := 6) (b := 6) (by omega) (by omega) c_14
      exact absurd n_14 (by decide)
    · skip
      have n_14 : 6 = 6 := cmp_eq (a := 6) (b := 6) (by omega) (by omega) c_14
      refine J_aload_n E dX5_tryWith_17 rfl 0 rfl ?_
      refine gC0_X5_19 E dX5_tryWith_18 ?_
      refine J_iload_n E dX5_tryWith_21 rfl 2 rfl ?_
      refine pC17_X5_88 E dX5_tryWith_22 ?_
      refine J_goto E (tgt := 39) dX5_tryWith_25 (by decide) ?_
      exact ret _ _ _ (congrArg (wC G a) (by rw [up3_upG]; rfl)) dX5_tryWith_39

set_option maxHeartbeats 4000000 in
set_option maxRecDepth 20000 in
theorem c_X5_staysWetTurned (l : Launch) (G : GB) (a : Nat → Nat) (x : Q3) (ts hs : Int32) (last m : Nat) (hm : m ≤ 1000) (hla : last < 11) (hsp : spOk (turnQ (x 0) ts)) : CI l yX5_staysWetTurned cX5_staysWetTurned 5 .boolean 5 116 G [.ref (a 0), .int ts, .int hs, .int (nI last), .int (nI m)] (wC G a x) (fun vR w' => vR = wetR hs last m (turnQ (x 0) ts) ∧ w' = wC G a (upG x 2 (wetS hs last m (turnQ (x 0) ts)))) := by
  refine CI.mk (own := RX5) (by decide) rfl (Nat.le_of_ble_eq_true rfl) ?_
  intro X E ret
  show J X G 5 0 0 (wC G a x) [(0, .ref (a 0)), (1, .int ts), (2, .int hs), (3, .int (nI last)), (4, .int (nI m))] 0 []
  refine J_aload_n E dX5_staysWetTurned_0 rfl 0 rfl ?_
  refine J_iload_n E dX5_staysWetTurned_1 rfl 1 rfl ?_
  refine J_cVv0 E (As := [.int ts]) (c_X5_tryTurned l G a x ts ) cl_X5_166 yo_X5_tryTurned dX5_staysWetTurned_2 rfl rfl rfl (Nat.le_of_ble_eq_true rfl) (Nat.le_of_ble_eq_true rfl) rfl (Nat.le_of_ble_eq_true rfl) ⟨Nat.zero_le _, Nat.zero_le _⟩ ?_
  refine J_aload_n E dX5_staysWetTurned_5 rfl 0 rfl ?_
  refine gC0_X5_19 E dX5_staysWetTurned_6 ?_
  refine J_iload_n E dX5_staysWetTurned_9 rfl 2 rfl ?_
  refine J_iload_n E dX5_staysWetTurned_10 rfl 3 rfl ?_
  refine J_iload E dX5_staysWetTurned_11 4 rfl ?_
  refine J_si2 E (As := [.int hs, .int (nI last), .int (nI m)]) (c_X1_staysWet l G (sh a 17) (turnQ (x 0) ts) hs last m (by omega) (by omega) hsp) cl_X5_238 yo_X1_staysWet dX5_staysWetTurned_13 rfl (Nat.le_of_ble_eq_true rfl) (Nat.le_of_ble_eq_true rfl) rfl (Nat.le_of_ble_eq_true rfl) ⟨Nat.zero_le _, Nat.zero_le _⟩ ?_
  exact ret _ _ _ _ ⟨rfl, (congrArg (wC G a) (upG_upG))⟩ (nar01 (wet01 _ _ _ _)) dX5_staysWetTurned_16

set_option maxHeartbeats 4000000 in
set_option maxRecDepth 20000 in
theorem c_X5_staysWetWith (l : Launch) (G : GB) (a : Nat → Nat) (x : Q3) (k : Nat) (v : Int32) (j m : Nat) (hk : k ≤ 6) (hj : j < 11) (hm : m ≤ 1000) (hsp : spOk (withQ (x 0) k v j)) : CI l yX5_staysWetWith cX5_staysWetWith 5 .boolean 5 116 G [.ref (a 0), .int (nI k), .int v, .int (nI j), .int (nI m)] (wC G a x) (fun vR w' => vR = wetR (bitI j) j m (withQ (x 0) k v j) ∧ w' = wC G a (upG x 2 (wetS (bitI j) j m (withQ (x 0) k v j)))) := by
  refine CI.mk (own := RX5) (by decide) rfl (Nat.le_of_ble_eq_true rfl) ?_
  intro X E ret
  show J X G 5 0 0 (wC G a x) [(0, .ref (a 0)), (1, .int (nI k)), (2, .int v), (3, .int (nI j)), (4, .int (nI m))] 0 []
  refine J_aload_n E dX5_staysWetWith_0 rfl 0 rfl ?_
  refine J_iload_n E dX5_staysWetWith_1 rfl 1 rfl ?_
  refine J_iload_n E dX5_staysWetWith_2 rfl 2 rfl ?_
  refine J_iload_n E dX5_staysWetWith_3 rfl 3 rfl ?_
  refine J_cVv0 E (As := [.int (nI k), .int v, .int (nI j)]) (c_X5_tryWith l G a x k v j (by omega) (by omega)) cl_X5_151 yo_X5_tryWith dX5_staysWetWith_4 rfl rfl rfl (Nat.le_of_ble_eq_true rfl) (Nat.le_of_ble_eq_true rfl) rfl (Nat.le_of_ble_eq_true rfl) ⟨Nat.zero_le _, Nat.zero_le _⟩ ?_
  refine J_aload_n E dX5_staysWetWith_7 rfl 0 rfl ?_
  refine gC0_X5_19 E dX5_staysWetWith_8 ?_
  refine J_iconst E dX5_staysWetWith_11 ic_1 ?_
  refine J_iload_n E dX5_staysWetWith_12 rfl 3 rfl ?_
  refine J_ishl E dX5_staysWetWith_13 ?_
  refine J_top (x' := bitI j) (rfl) ?_
  refine J_iload_n E dX5_staysWetWith_14 rfl 3 rfl ?_
  refine J_iload E dX5_staysWetWith_15 4 rfl ?_
  refine J_si2 E (As := [.int (bitI j), .int (nI j), .int (nI m)]) (c_X1_staysWet l G (sh a 17) (withQ (x 0) k v j) (bitI j) j m (by omega) (by omega) hsp) cl_X5_238 yo_X1_staysWet dX5_staysWetWith_17 rfl (Nat.le_of_ble_eq_true rfl) (Nat.le_of_ble_eq_true rfl) rfl (Nat.le_of_ble_eq_true rfl) ⟨Nat.zero_le _, Nat.zero_le _⟩ ?_
  exact ret _ _ _ _ ⟨rfl, (congrArg (wC G a) (upG_upG))⟩ (nar01 (wet01 _ _ _ _)) dX5_staysWetWith_20

set_option maxHeartbeats 4000000 in
set_option maxRecDepth 20000 in
theorem c_X5_isTrialAsSeen_0 (l : Launch) (G : GB) (a : Nat → Nat) (x : Q3) (j n : Nat) (hj : j < 11) (hn : x 8 1 1 = nI n) (hn2 : n ≤ 40) (hsp : spOk (x 2)) : CI l yX5_isTrialAsSeen cX5_isTrialAsSeen 4 .boolean 4 92 G [.ref (a 0), .ref (a 31), .int (nI j)] (wC G a x) (fun vR w' => vR = seenR (x 8 0) j n 0 (x 2) ∧ w' = wC G a (upG x 2 (seenS (x 8 0) j n 0 (x 2)))) := by
  refine CI.mk (own := RX5) (by decide) rfl (Nat.le_of_ble_eq_true rfl) ?_
  intro X E ret
  show J X G 4 0 0 (wC G a x) [(0, .ref (a 0)), (1, .ref (a 31)), (2, .int (nI j))] 0 []
  refine J_iconst E dX5_isTrialAsSeen_0 ic_0 ?_
  refine J_istore_n E (lv' := [(3, .int 0), (0, .ref (a 0)), (1, .ref (a 31)), (2, .int (nI j))]) dX5_isTrialAsSeen_1 rfl (by decide) rfl ?_
  have lp2 : ∀ (fu : Nat) (i : Nat) (r : Q2), (i ≤ n) → (spOk r) → (seenR (x 8 0) j n 0 (x 2) = seenR (x 8 0) j (n - i) i r) → (seenS (x 8 0) j n 0 (x 2) = seenS (x 8 0) j (n - i) i r) → n - i < fu → J X G 4 0 0 (wC G a (upG x 2 r)) [(0, .ref (a 0)), (1, .ref (a 31)), (2, .int (nI j)), (3, .int (nI i))] 2 [] := by
    intro fu
    induction fu with
    | zero => intro i r hi hr h1 h2 hm; exact absurd hm (Nat.not_lt_zero _)
    | succ fu ih2 =>
      intro i r hi hr h1 h2 hm
      refine J_iload_n E dX5_isTrialAsSeen_2 rfl 3 rfl ?_
      refine J_aload_n E dX5_isTrialAsSeen_3 rfl 1 rfl ?_
      refine gC31_X5_208 E dX5_isTrialAsSeen_4 ?_
      refine J_top (x' := x 8 1 1) (upG_n (by decide)) ?_
      refine J_top (x' := nI n) (hn) ?_
      refine J_icmp_ge E (tgt := 59) dX5_isTrialAsSeen_7 (by decide) (fun c_7 => ?_) (fun c_7 => ?_)
      · skip
        have n_7 : n ≤ i := cmp_le (a := n) (b := i) (by omega) (by omega) c_7
        refine J_iconst E dX5_isTrialAsSeen_59 ic_1 ?_
        exact ret _ _ _ _ ⟨by rw [h1, show n - i = 0 by omega]; rfl, (congrArg (wC G a) (by rw [h2, show n - i = 0 by omega]; rfl))⟩ rfl dX5_isTrialAsSeen_60
      · skip
        have n_7 : ¬ n ≤ i := cmp_nle (a := n) (b := i) (by omega) (by omega) c_7
        refine J_iload_n E dX5_isTrialAsSeen_10 rfl 3 rfl ?_
        refine J_if_le E (tgt := 23) dX5_isTrialAsSeen_11 (by decide) (fun c_11 => ?_) (fun c_11 => ?_)
        · skip
          have n_11 : i ≤ 0 := cmp_le (a := i) (b := 0) (by omega) (by omega) c_11
          refine J_aload_n E dX5_isTrialAsSeen_23 rfl 1 rfl ?_
          refine gC31_X5_221 E dX5_isTrialAsSeen_24 ?_
          refine J_iload_n E dX5_isTrialAsSeen_27 rfl 3 rfl ?_
          refine lC_32 E (j := i) dX5_isTrialAsSeen_28 (by omega) ?_
          refine J_top (x' := x 8 0 i) (upG_n (by decide)) ?_
          refine J_iconst E dX5_isTrialAsSeen_29 ic_m1 ?_
          refine J_icmp_eq E (tgt := 53) dX5_isTrialAsSeen_30 (by decide) (fun c_30 => ?_) (fun c_30 => ?_)
          · skip
            refine J_iinc E (lv' := [(3, .int (nI (i + 1))), (0, .ref (a 0)), (1, .ref (a 31)), (2, .int (nI j))]) dX5_isTrialAsSeen_53 3 rfl (nI_inc _) (by decide) rfl ?_
            refine J_goto E (tgt := 2) dX5_isTrialAsSeen_56 (by decide) ?_
            refine J_lv [1, 2, 3, 0] rfl ?_
            exact ih2 (i + 1) r (by omega) (by first | exact hr | exact hourM_sp hr j) (by rw [h1, show n - i = (n - (i + 1)) + 1 by omega, seenR, if_neg (by first | (rw [if_pos (show 0 < i by omega)]; first | exact fun z => z.1 c_30 | exact fun z => z.2 c_48) | (rw [if_neg (show ¬ 0 < i by omega)]; first | exact fun z => z.1 c_30 | exact fun z => z.2 c_48))]; first | rw [if_pos (show 0 < i by omega)] | rw [if_neg (show ¬ 0 < i by omega)]) (by rw [h2, show n - i = (n - (i + 1)) + 1 by omega, seenS, if_neg (by first | (rw [if_pos (show 0 < i by omega)]; first | exact fun z => z.1 c_30 | exact fun z => z.2 c_48) | (rw [if_neg (show ¬ 0 < i by omega)]; first | exact fun z => z.1 c_30 | exact fun z => z.2 c_48))]; first | rw [if_pos (show 0 < i by omega)] | rw [if_neg (show ¬ 0 < i by omega)]) (by omega)
          · skip
            refine J_aload_n E dX5_isTrialAsSeen_33 rfl 1 rfl ?_
            refine gC31_X5_221 E dX5_isTrialAsSeen_34 ?_
            refine J_iload_n E dX5_isTrialAsSeen_37 rfl 3 rfl ?_
            refine lC_32 E (j := i) dX5_isTrialAsSeen_38 (by omega) ?_
            refine J_top (x' := x 8 0 i) (upG_n (by decide)) ?_
            refine J_aload_n E dX5_isTrialAsSeen_39 rfl 0 rfl ?_
            refine gC0_X5_19 E dX5_isTrialAsSeen_40 ?_
            refine gC17_X5_103 E dX5_isTrialAsSeen_43 ?_
            refine J_iload_n E dX5_isTrialAsSeen_46 rfl 2 rfl ?_
            refine lC_19 E (j := j) dX5_isTrialAsSeen_47 (by omega) ?_
            refine J_top (x' := r 1 j) upG_s ?_
            refine J_icmp_eq E (tgt := 53) dX5_isTrialAsSeen_48 (by decide) (fun c_48 => ?_) (fun c_48 => ?_)
            · skip
              refine J_iinc E (lv' := [(3, .int (nI (i + 1))), (0, .ref (a 0)), (1, .ref (a 31)), (2, .int (nI j))]) dX5_isTrialAsSeen_53 3 rfl (nI_inc _) (by decide) rfl ?_
              refine J_goto E (tgt := 2) dX5_isTrialAsSeen_56 (by decide) ?_
              refine J_lv [1, 2, 3, 0] rfl ?_
              exact ih2 (i + 1) r (by omega) (by first | exact hr | exact hourM_sp hr j) (by rw [h1, show n - i = (n - (i + 1)) + 1 by omega, seenR, if_neg (by first | (rw [if_pos (show 0 < i by omega)]; first | exact fun z => z.1 c_30 | exact fun z => z.2 c_48) | (rw [if_neg (show ¬ 0 < i by omega)]; first | exact fun z => z.1 c_30 | exact fun z => z.2 c_48))]; first | rw [if_pos (show 0 < i by omega)] | rw [if_neg (show ¬ 0 < i by omega)]) (by rw [h2, show n - i = (n - (i + 1)) + 1 by omega, seenS, if_neg (by first | (rw [if_pos (show 0 < i by omega)]; first | exact fun z => z.1 c_30 | exact fun z => z.2 c_48) | (rw [if_neg (show ¬ 0 < i by omega)]; first | exact fun z => z.1 c_30 | exact fun z => z.2 c_48))]; first | rw [if_pos (show 0 < i by omega)] | rw [if_neg (show ¬ 0 < i by omega)]) (by omega)
            · skip
              refine J_iconst E dX5_isTrialAsSeen_51 ic_0 ?_
              exact ret _ _ _ _ ⟨by rw [h1, show n - i = (n - (i + 1)) + 1 by omega, seenR, if_pos (by first | (rw [if_pos (show 0 < i by omega)]; exact ⟨c_30, c_48⟩) | (rw [if_neg (show ¬ 0 < i by omega)]; exact ⟨c_30, c_48⟩))], (congrArg (wC G a) (by first | (rw [h2, show n - i = (n - (i + 1)) + 1 by omega, seenS, if_pos (by first | (rw [if_pos (show 0 < i by omega)]; exact ⟨c_30, c_48⟩) | (rw [if_neg (show ¬ 0 < i by omega)]; exact ⟨c_30, c_48⟩))]; first | rw [if_pos (show 0 < i by omega), upG_upG] | rw [if_neg (show ¬ 0 < i by omega)])))⟩ rfl dX5_isTrialAsSeen_52
        · skip
          have n_11 : ¬ i ≤ 0 := cmp_nle (a := i) (b := 0) (by omega) (by omega) c_11
          refine J_aload_n E dX5_isTrialAsSeen_14 rfl 0 rfl ?_
          refine gC0_X5_19 E dX5_isTrialAsSeen_15 ?_
          refine J_iload_n E dX5_isTrialAsSeen_18 rfl 2 rfl ?_
          refine J_si2 E (As := [.int (nI j)]) (c_X1_passHour l G (sh a 17) r j (by omega) hr) cl_X5_130 yo_X1_passHour dX5_isTrialAsSeen_19 rfl (Nat.le_of_ble_eq_true rfl) (Nat.le_of_ble_eq_true rfl) rfl (Nat.le_of_ble_eq_true rfl) ⟨Nat.zero_le _, Nat.zero_le _⟩ ?_
          refine J_pop E dX5_isTrialAsSeen_22 rfl ?_
          refine J_aload_n E dX5_isTrialAsSeen_23 rfl 1 rfl ?_
          refine gC31_X5_221 E dX5_isTrialAsSeen_24 ?_
          refine J_iload_n E dX5_isTrialAsSeen_27 rfl 3 rfl ?_
          refine lC_32 E (j := i) dX5_isTrialAsSeen_28 (by omega) ?_
          refine J_top (x' := x 8 0 i) (Eq.trans (upG_n (by decide)) (upG_n (by decide))) ?_
          refine J_iconst E dX5_isTrialAsSeen_29 ic_m1 ?_
          refine J_icmp_eq E (tgt := 53) dX5_isTrialAsSeen_30 (by decide) (fun c_30 => ?_) (fun c_30 => ?_)
          · skip
            refine J_iinc E (lv' := [(3, .int (nI (i + 1))), (0, .ref (a 0)), (1, .ref (a 31)), (2, .int (nI j))]) dX5_isTrialAsSeen_53 3 rfl (nI_inc _) (by decide) rfl ?_
            refine J_goto E (tgt := 2) dX5_isTrialAsSeen_56 (by decide) ?_
            refine J_lv [1, 2, 3, 0] rfl ?_
            exact ih2 (i + 1) (hourM r j) (by omega) (by first | exact hr | exact hourM_sp hr j) (by rw [h1, show n - i = (n - (i + 1)) + 1 by omega, seenR, if_neg (by first | (rw [if_pos (show 0 < i by omega)]; first | exact fun z => z.1 c_30 | exact fun z => z.2 c_48) | (rw [if_neg (show ¬ 0 < i by omega)]; first | exact fun z => z.1 c_30 | exact fun z => z.2 c_48))]; first | rw [if_pos (show 0 < i by omega)] | rw [if_neg (show ¬ 0 < i by omega)]) (by rw [h2, show n - i = (n - (i + 1)) + 1 by omega, seenS, if_neg (by first | (rw [if_pos (show 0 < i by omega)]; first | exact fun z => z.1 c_30 | exact fun z => z.2 c_48) | (rw [if_neg (show ¬ 0 < i by omega)]; first | exact fun z => z.1 c_30 | exact fun z => z.2 c_48))]; first | rw [if_pos (show 0 < i by omega)] | rw [if_neg (show ¬ 0 < i by omega)]) (by omega)
          · skip
            refine J_aload_n E dX5_isTrialAsSeen_33 rfl 1 rfl ?_
            refine gC31_X5_221 E dX5_isTrialAsSeen_34 ?_
            refine J_iload_n E dX5_isTrialAsSeen_37 rfl 3 rfl ?_
            refine lC_32 E (j := i) dX5_isTrialAsSeen_38 (by omega) ?_
            refine J_top (x' := x 8 0 i) (Eq.trans (upG_n (by decide)) (upG_n (by decide))) ?_
            refine J_aload_n E dX5_isTrialAsSeen_39 rfl 0 rfl ?_
            refine gC0_X5_19 E dX5_isTrialAsSeen_40 ?_
            refine gC17_X5_103 E dX5_isTrialAsSeen_43 ?_
            refine J_iload_n E dX5_isTrialAsSeen_46 rfl 2 rfl ?_
            refine lC_19 E (j := j) dX5_isTrialAsSeen_47 (by omega) ?_
            refine J_top (x' := (hourM r j) 1 j) upG_s ?_
            refine J_icmp_eq E (tgt := 53) dX5_isTrialAsSeen_48 (by decide) (fun c_48 => ?_) (fun c_48 => ?_)
            · skip
              refine J_iinc E (lv' := [(3, .int (nI (i + 1))), (0, .ref (a 0)), (1, .ref (a 31)), (2, .int (nI j))]) dX5_isTrialAsSeen_53 3 rfl (nI_inc _) (by decide) rfl ?_
              refine J_goto E (tgt := 2) dX5_isTrialAsSeen_56 (by decide) ?_
              refine J_lv [1, 2, 3, 0] rfl ?_
              exact ih2 (i + 1) (hourM r j) (by omega) (by first | exact hr | exact hourM_sp hr j) (by rw [h1, show n - i = (n - (i + 1)) + 1 by omega, seenR, if_neg (by first | (rw [if_pos (show 0 < i by omega)]; first | exact fun z => z.1 c_30 | exact fun z => z.2 c_48) | (rw [if_neg (show ¬ 0 < i by omega)]; first | exact fun z => z.1 c_30 | exact fun z => z.2 c_48))]; first | rw [if_pos (show 0 < i by omega)] | rw [if_neg (show ¬ 0 < i by omega)]) (by rw [h2, show n - i = (n - (i + 1)) + 1 by omega, seenS, if_neg (by first | (rw [if_pos (show 0 < i by omega)]; first | exact fun z => z.1 c_30 | exact fun z => z.2 c_48) | (rw [if_neg (show ¬ 0 < i by omega)]; first | exact fun z => z.1 c_30 | exact fun z => z.2 c_48))]; first | rw [if_pos (show 0 < i by omega)] | rw [if_neg (show ¬ 0 < i by omega)]) (by omega)
            · skip
              refine J_iconst E dX5_isTrialAsSeen_51 ic_0 ?_
              exact ret _ _ _ _ ⟨by rw [h1, show n - i = (n - (i + 1)) + 1 by omega, seenR, if_pos (by first | (rw [if_pos (show 0 < i by omega)]; exact ⟨c_30, c_48⟩) | (rw [if_neg (show ¬ 0 < i by omega)]; exact ⟨c_30, c_48⟩))], (congrArg (wC G a) (by first | (rw [h2, show n - i = (n - (i + 1)) + 1 by omega, seenS, if_pos (by first | (rw [if_pos (show 0 < i by omega)]; exact ⟨c_30, c_48⟩) | (rw [if_neg (show ¬ 0 < i by omega)]; exact ⟨c_30, c_48⟩))]; first | rw [if_pos (show 0 < i by omega), upG_upG] | rw [if_neg (show ¬ 0 < i by omega)])))⟩ rfl dX5_isTrialAsSeen_52
  refine J_lv [1, 2, 3, 0] rfl ?_
  exact lp2 _ 0 (x 2) (by omega) hsp (by rw [Nat.sub_zero]) (by rw [Nat.sub_zero]) (Nat.lt_succ_self _)

set_option maxHeartbeats 4000000 in
set_option maxRecDepth 20000 in
theorem c_X5_isTrialAsSeen_1 (l : Launch) (G : GB) (a : Nat → Nat) (x : Q3) (j n : Nat) (hj : j < 11) (hn : x 9 1 1 = nI n) (hn2 : n ≤ 40) (hsp : spOk (x 2)) : CI l yX5_isTrialAsSeen cX5_isTrialAsSeen 4 .boolean 4 92 G [.ref (a 0), .ref (a 33), .int (nI j)] (wC G a x) (fun vR w' => vR = seenR (x 9 0) j n 0 (x 2) ∧ w' = wC G a (upG x 2 (seenS (x 9 0) j n 0 (x 2)))) := by
  refine CI.mk (own := RX5) (by decide) rfl (Nat.le_of_ble_eq_true rfl) ?_
  intro X E ret
  show J X G 4 0 0 (wC G a x) [(0, .ref (a 0)), (1, .ref (a 33)), (2, .int (nI j))] 0 []
  refine J_iconst E dX5_isTrialAsSeen_0 ic_0 ?_
  refine J_istore_n E (lv' := [(3, .int 0), (0, .ref (a 0)), (1, .ref (a 33)), (2, .int (nI j))]) dX5_isTrialAsSeen_1 rfl (by decide) rfl ?_
  have lp2 : ∀ (fu : Nat) (i : Nat) (r : Q2), (i ≤ n) → (spOk r) → (seenR (x 9 0) j n 0 (x 2) = seenR (x 9 0) j (n - i) i r) → (seenS (x 9 0) j n 0 (x 2) = seenS (x 9 0) j (n - i) i r) → n - i < fu → J X G 4 0 0 (wC G a (upG x 2 r)) [(0, .ref (a 0)), (1, .ref (a 33)), (2, .int (nI j)), (3, .int (nI i))] 2 [] := by
    intro fu
    induction fu with
    | zero => intro i r hi hr h1 h2 hm; exact absurd hm (Nat.not_lt_zero _)
    | succ fu ih2 =>
      intro i r hi hr h1 h2 hm
      refine J_iload_n E dX5_isTrialAsSeen_2 rfl 3 rfl ?_
      refine J_aload_n E dX5_isTrialAsSeen_3 rfl 1 rfl ?_
      refine gC33_X5_208 E dX5_isTrialAsSeen_4 ?_
      refine J_top (x' := x 9 1 1) (upG_n (by decide)) ?_
      refine J_top (x' := nI n) (hn) ?_
      refine J_icmp_ge E (tgt := 59) dX5_isTrialAsSeen_7 (by decide) (fun c_7 => ?_) (fun c_7 => ?_)
      · skip
        have n_7 : n ≤ i := cmp_le (a := n) (b := i) (by omega) (by omega) c_7
        refine J_iconst E dX5_isTrialAsSeen_59 ic_1 ?_
        exact ret _ _ _ _ ⟨by rw [h1, show n - i = 0 by omega]; rfl, (congrArg (wC G a) (by rw [h2, show n - i = 0 by omega]; rfl))⟩ rfl dX5_isTrialAsSeen_60
      · skip
        have n_7 : ¬ n ≤ i := cmp_nle (a := n) (b := i) (by omega) (by omega) c_7
        refine J_iload_n E dX5_isTrialAsSeen_10 rfl 3 rfl ?_
        refine J_if_le E (tgt := 23) dX5_isTrialAsSeen_11 (by decide) (fun c_11 => ?_) (fun c_11 => ?_)
        · skip
          have n_11 : i ≤ 0 := cmp_le (a := i) (b := 0) (by omega) (by omega) c_11
          refine J_aload_n E dX5_isTrialAsSeen_23 rfl 1 rfl ?_
          refine gC33_X5_221 E dX5_isTrialAsSeen_24 ?_
          refine J_iload_n E dX5_isTrialAsSeen_27 rfl 3 rfl ?_
          refine lC_34 E (j := i) dX5_isTrialAsSeen_28 (by omega) ?_
          refine J_top (x' := x 9 0 i) (upG_n (by decide)) ?_
          refine J_iconst E dX5_isTrialAsSeen_29 ic_m1 ?_
          refine J_icmp_eq E (tgt := 53) dX5_isTrialAsSeen_30 (by decide) (fun c_30 => ?_) (fun c_30 => ?_)
          · skip
            refine J_iinc E (lv' := [(3, .int (nI (i + 1))), (0, .ref (a 0)), (1, .ref (a 33)), (2, .int (nI j))]) dX5_isTrialAsSeen_53 3 rfl (nI_inc _) (by decide) rfl ?_
            refine J_goto E (tgt := 2) dX5_isTrialAsSeen_56 (by decide) ?_
            refine J_lv [1, 2, 3, 0] rfl ?_
            exact ih2 (i + 1) r (by omega) (by first | exact hr | exact hourM_sp hr j) (by rw [h1, show n - i = (n - (i + 1)) + 1 by omega, seenR, if_neg (by first | (rw [if_pos (show 0 < i by omega)]; first | exact fun z => z.1 c_30 | exact fun z => z.2 c_48) | (rw [if_neg (show ¬ 0 < i by omega)]; first | exact fun z => z.1 c_30 | exact fun z => z.2 c_48))]; first | rw [if_pos (show 0 < i by omega)] | rw [if_neg (show ¬ 0 < i by omega)]) (by rw [h2, show n - i = (n - (i + 1)) + 1 by omega, seenS, if_neg (by first | (rw [if_pos (show 0 < i by omega)]; first | exact fun z => z.1 c_30 | exact fun z => z.2 c_48) | (rw [if_neg (show ¬ 0 < i by omega)]; first | exact fun z => z.1 c_30 | exact fun z => z.2 c_48))]; first | rw [if_pos (show 0 < i by omega)] | rw [if_neg (show ¬ 0 < i by omega)]) (by omega)
          · skip
            refine J_aload_n E dX5_isTrialAsSeen_33 rfl 1 rfl ?_
            refine gC33_X5_221 E dX5_isTrialAsSeen_34 ?_
            refine J_iload_n E dX5_isTrialAsSeen_37 rfl 3 rfl ?_
            refine lC_34 E (j := i) dX5_isTrialAsSeen_38 (by omega) ?_
            refine J_top (x' := x 9 0 i) (upG_n (by decide)) ?_
            refine J_aload_n E dX5_isTrialAsSeen_39 rfl 0 rfl ?_
            refine gC0_X5_19 E dX5_isTrialAsSeen_40 ?_
            refine gC17_X5_103 E dX5_isTrialAsSeen_43 ?_
            refine J_iload_n E dX5_isTrialAsSeen_46 rfl 2 rfl ?_
            refine lC_19 E (j := j) dX5_isTrialAsSeen_47 (by omega) ?_
            refine J_top (x' := r 1 j) upG_s ?_
            refine J_icmp_eq E (tgt := 53) dX5_isTrialAsSeen_48 (by decide) (fun c_48 => ?_) (fun c_48 => ?_)
            · skip
              refine J_iinc E (lv' := [(3, .int (nI (i + 1))), (0, .ref (a 0)), (1, .ref (a 33)), (2, .int (nI j))]) dX5_isTrialAsSeen_53 3 rfl (nI_inc _) (by decide) rfl ?_
              refine J_goto E (tgt := 2) dX5_isTrialAsSeen_56 (by decide) ?_
              refine J_lv [1, 2, 3, 0] rfl ?_
              exact ih2 (i + 1) r (by omega) (by first | exact hr | exact hourM_sp hr j) (by rw [h1, show n - i = (n - (i + 1)) + 1 by omega, seenR, if_neg (by first | (rw [if_pos (show 0 < i by omega)]; first | exact fun z => z.1 c_30 | exact fun z => z.2 c_48) | (rw [if_neg (show ¬ 0 < i by omega)]; first | exact fun z => z.1 c_30 | exact fun z => z.2 c_48))]; first | rw [if_pos (show 0 < i by omega)] | rw [if_neg (show ¬ 0 < i by omega)]) (by rw [h2, show n - i = (n - (i + 1)) + 1 by omega, seenS, if_neg (by first | (rw [if_pos (show 0 < i by omega)]; first | exact fun z => z.1 c_30 | exact fun z => z.2 c_48) | (rw [if_neg (show ¬ 0 < i by omega)]; first | exact fun z => z.1 c_30 | exact fun z => z.2 c_48))]; first | rw [if_pos (show 0 < i by omega)] | rw [if_neg (show ¬ 0 < i by omega)]) (by omega)
            · skip
              refine J_iconst E dX5_isTrialAsSeen_51 ic_0 ?_
              exact ret _ _ _ _ ⟨by rw [h1, show n - i = (n - (i + 1)) + 1 by omega, seenR, if_pos (by first | (rw [if_pos (show 0 < i by omega)]; exact ⟨c_30, c_48⟩) | (rw [if_neg (show ¬ 0 < i by omega)]; exact ⟨c_30, c_48⟩))], (congrArg (wC G a) (by first | (rw [h2, show n - i = (n - (i + 1)) + 1 by omega, seenS, if_pos (by first | (rw [if_pos (show 0 < i by omega)]; exact ⟨c_30, c_48⟩) | (rw [if_neg (show ¬ 0 < i by omega)]; exact ⟨c_30, c_48⟩))]; first | rw [if_pos (show 0 < i by omega), upG_upG] | rw [if_neg (show ¬ 0 < i by omega)])))⟩ rfl dX5_isTrialAsSeen_52
        · skip
          have n_11 : ¬ i ≤ 0 := cmp_nle (a := i) (b := 0) (by omega) (by omega) c_11
          refine J_aload_n E dX5_isTrialAsSeen_14 rfl 0 rfl ?_
          refine gC0_X5_19 E dX5_isTrialAsSeen_15 ?_
          refine J_iload_n E dX5_isTrialAsSeen_18 rfl 2 rfl ?_
          refine J_si2 E (As := [.int (nI j)]) (c_X1_passHour l G (sh a 17) r j (by omega) hr) cl_X5_130 yo_X1_passHour dX5_isTrialAsSeen_19 rfl (Nat.le_of_ble_eq_true rfl) (Nat.le_of_ble_eq_true rfl) rfl (Nat.le_of_ble_eq_true rfl) ⟨Nat.zero_le _, Nat.zero_le _⟩ ?_
          refine J_pop E dX5_isTrialAsSeen_22 rfl ?_
          refine J_aload_n E dX5_isTrialAsSeen_23 rfl 1 rfl ?_
          refine gC33_X5_221 E dX5_isTrialAsSeen_24 ?_
          refine J_iload_n E dX5_isTrialAsSeen_27 rfl 3 rfl ?_
          refine lC_34 E (j := i) dX5_isTrialAsSeen_28 (by omega) ?_
          refine J_top (x' := x 9 0 i) (Eq.trans (upG_n (by decide)) (upG_n (by decide))) ?_
          refine J_iconst E dX5_isTrialAsSeen_29 ic_m1 ?_
          refine J_icmp_eq E (tgt := 53) dX5_isTrialAsSeen_30 (by decide) (fun c_30 => ?_) (fun c_30 => ?_)
          · skip
            refine J_iinc E (lv' := [(3, .int (nI (i + 1))), (0, .ref (a 0)), (1, .ref (a 33)), (2, .int (nI j))]) dX5_isTrialAsSeen_53 3 rfl (nI_inc _) (by decide) rfl ?_
            refine J_goto E (tgt := 2) dX5_isTrialAsSeen_56 (by decide) ?_
            refine J_lv [1, 2, 3, 0] rfl ?_
            exact ih2 (i + 1) (hourM r j) (by omega) (by first | exact hr | exact hourM_sp hr j) (by rw [h1, show n - i = (n - (i + 1)) + 1 by omega, seenR, if_neg (by first | (rw [if_pos (show 0 < i by omega)]; first | exact fun z => z.1 c_30 | exact fun z => z.2 c_48) | (rw [if_neg (show ¬ 0 < i by omega)]; first | exact fun z => z.1 c_30 | exact fun z => z.2 c_48))]; first | rw [if_pos (show 0 < i by omega)] | rw [if_neg (show ¬ 0 < i by omega)]) (by rw [h2, show n - i = (n - (i + 1)) + 1 by omega, seenS, if_neg (by first | (rw [if_pos (show 0 < i by omega)]; first | exact fun z => z.1 c_30 | exact fun z => z.2 c_48) | (rw [if_neg (show ¬ 0 < i by omega)]; first | exact fun z => z.1 c_30 | exact fun z => z.2 c_48))]; first | rw [if_pos (show 0 < i by omega)] | rw [if_neg (show ¬ 0 < i by omega)]) (by omega)
          · skip
            refine J_aload_n E dX5_isTrialAsSeen_33 rfl 1 rfl ?_
            refine gC33_X5_221 E dX5_isTrialAsSeen_34 ?_
            refine J_iload_n E dX5_isTrialAsSeen_37 rfl 3 rfl ?_
            refine lC_34 E (j := i) dX5_isTrialAsSeen_38 (by omega) ?_
            refine J_top (x' := x 9 0 i) (Eq.trans (upG_n (by decide)) (upG_n (by decide))) ?_
            refine J_aload_n E dX5_isTrialAsSeen_39 rfl 0 rfl ?_
            refine gC0_X5_19 E dX5_isTrialAsSeen_40 ?_
            refine gC17_X5_103 E dX5_isTrialAsSeen_43 ?_
            refine J_iload_n E dX5_isTrialAsSeen_46 rfl 2 rfl ?_
            refine lC_19 E (j := j) dX5_isTrialAsSeen_47 (by omega) ?_
            refine J_top (x' := (hourM r j) 1 j) upG_s ?_
            refine J_icmp_eq E (tgt := 53) dX5_isTrialAsSeen_48 (by decide) (fun c_48 => ?_) (fun c_48 => ?_)
            · skip
              refine J_iinc E (lv' := [(3, .int (nI (i + 1))), (0, .ref (a 0)), (1, .ref (a 33)), (2, .int (nI j))]) dX5_isTrialAsSeen_53 3 rfl (nI_inc _) (by decide) rfl ?_
              refine J_goto E (tgt := 2) dX5_isTrialAsSeen_56 (by decide) ?_
              refine J_lv [1, 2, 3, 0] rfl ?_
              exact ih2 (i + 1) (hourM r j) (by omega) (by first | exact hr | exact hourM_sp hr j) (by rw [h1, show n - i = (n - (i + 1)) + 1 by omega, seenR, if_neg (by first | (rw [if_pos (show 0 < i by omega)]; first | exact fun z => z.1 c_30 | exact fun z => z.2 c_48) | (rw [if_neg (show ¬ 0 < i by omega)]; first | exact fun z => z.1 c_30 | exact fun z => z.2 c_48))]; first | rw [if_pos (show 0 < i by omega)] | rw [if_neg (show ¬ 0 < i by omega)]) (by rw [h2, show n - i = (n - (i + 1)) + 1 by omega, seenS, if_neg (by first | (rw [if_pos (show 0 < i by omega)]; first | exact fun z => z.1 c_30 | exact fun z => z.2 c_48) | (rw [if_neg (show ¬ 0 < i by omega)]; first | exact fun z => z.1 c_30 | exact fun z => z.2 c_48))]; first | rw [if_pos (show 0 < i by omega)] | rw [if_neg (show ¬ 0 < i by omega)]) (by omega)
            · skip
              refine J_iconst E dX5_isTrialAsSeen_51 ic_0 ?_
              exact ret _ _ _ _ ⟨by rw [h1, show n - i = (n - (i + 1)) + 1 by omega, seenR, if_pos (by first | (rw [if_pos (show 0 < i by omega)]; exact ⟨c_30, c_48⟩) | (rw [if_neg (show ¬ 0 < i by omega)]; exact ⟨c_30, c_48⟩))], (congrArg (wC G a) (by first | (rw [h2, show n - i = (n - (i + 1)) + 1 by omega, seenS, if_pos (by first | (rw [if_pos (show 0 < i by omega)]; exact ⟨c_30, c_48⟩) | (rw [if_neg (show ¬ 0 < i by omega)]; exact ⟨c_30, c_48⟩))]; first | rw [if_pos (show 0 < i by omega), upG_upG] | rw [if_neg (show ¬ 0 < i by omega)])))⟩ rfl dX5_isTrialAsSeen_52
  refine J_lv [1, 2, 3, 0] rfl ?_
  exact lp2 _ 0 (x 2) (by omega) hsp (by rw [Nat.sub_zero]) (by rw [Nat.sub_zero]) (Nat.lt_succ_self _)

set_option maxHeartbeats 4000000 in
set_option maxRecDepth 20000 in
theorem c_X5_isTrialAsSeen_2 (l : Launch) (G : GB) (a : Nat → Nat) (x : Q3) (j n : Nat) (hj : j < 11) (hn : x 10 1 1 = nI n) (hn2 : n ≤ 40) (hsp : spOk (x 2)) : CI l yX5_isTrialAsSeen cX5_isTrialAsSeen 4 .boolean 4 92 G [.ref (a 0), .ref (a 35), .int (nI j)] (wC G a x) (fun vR w' => vR = seenR (x 10 0) j n 0 (x 2) ∧ w' = wC G a (upG x 2 (seenS (x 10 0) j n 0 (x 2)))) := by
  refine CI.mk (own := RX5) (by decide) rfl (Nat.le_of_ble_eq_true rfl) ?_
  intro X E ret
  show J X G 4 0 0 (wC G a x) [(0, .ref (a 0)), (1, .ref (a 35)), (2, .int (nI j))] 0 []
  refine J_iconst E dX5_isTrialAsSeen_0 ic_0 ?_
  refine J_istore_n E (lv' := [(3, .int 0), (0, .ref (a 0)), (1, .ref (a 35)), (2, .int (nI j))]) dX5_isTrialAsSeen_1 rfl (by decide) rfl ?_
  have lp2 : ∀ (fu : Nat) (i : Nat) (r : Q2), (i ≤ n) → (spOk r) → (seenR (x 10 0) j n 0 (x 2) = seenR (x 10 0) j (n - i) i r) → (seenS (x 10 0) j n 0 (x 2) = seenS (x 10 0) j (n - i) i r) → n - i < fu → J X G 4 0 0 (wC G a (upG x 2 r)) [(0, .ref (a 0)), (1, .ref (a 35)), (2, .int (nI j)), (3, .int (nI i))] 2 [] := by
    intro fu
    induction fu with
    | zero => intro i r hi hr h1 h2 hm; exact absurd hm (Nat.not_lt_zero _)
    | succ fu ih2 =>
      intro i r hi hr h1 h2 hm
      refine J_iload_n E dX5_isTrialAsSeen_2 rfl 3 rfl ?_
      refine J_aload_n E dX5_isTrialAsSeen_3 rfl 1 rfl ?_
      refine gC35_X5_208 E dX5_isTrialAsSeen_4 ?_
      refine J_top (x' := x 10 1 1) (upG_n (by decide)) ?_
      refine J_top (x' := nI n) (hn) ?_
      refine J_icmp_ge E (tgt := 59) dX5_isTrialAsSeen_7 (by decide) (fun c_7 => ?_) (fun c_7 => ?_)
      · skip
        have n_7 : n ≤ i := cmp_le (a := n) (b := i) (by omega) (by omega) c_7
        refine J_iconst E dX5_isTrialAsSeen_59 ic_1 ?_
        exact ret _ _ _ _ ⟨by rw [h1, show n - i = 0 by omega]; rfl, (congrArg (wC G a) (by rw [h2, show n - i = 0 by omega]; rfl))⟩ rfl dX5_isTrialAsSeen_60
      · skip
        have n_7 : ¬ n ≤ i := cmp_nle (a := n) (b := i) (by omega) (by omega) c_7
        refine J_iload_n E dX5_isTrialAsSeen_10 rfl 3 rfl ?_
        refine J_if_le E (tgt := 23) dX5_isTrialAsSeen_11 (by decide) (fun c_11 => ?_) (fun c_11 => ?_)
        · skip
          have n_11 : i ≤ 0 := cmp_le (a := i) (b := 0) (by omega) (by omega) c_11
          refine J_aload_n E dX5_isTrialAsSeen_23 rfl 1 rfl ?_
          refine gC35_X5_221 E dX5_isTrialAsSeen_24 ?_
          refine J_iload_n E dX5_isTrialAsSeen_27 rfl 3 rfl ?_
          refine lC_36 E (j := i) dX5_isTrialAsSeen_28 (by omega) ?_
          refine J_top (x' := x 10 0 i) (upG_n (by decide)) ?_
          refine J_iconst E dX5_isTrialAsSeen_29 ic_m1 ?_
          refine J_icmp_eq E (tgt := 53) dX5_isTrialAsSeen_30 (by decide) (fun c_30 => ?_) (fun c_30 => ?_)
          · skip
            refine J_iinc E (lv' := [(3, .int (nI (i + 1))), (0, .ref (a 0)), (1, .ref (a 35)), (2, .int (nI j))]) dX5_isTrialAsSeen_53 3 rfl (nI_inc _) (by decide) rfl ?_
            refine J_goto E (tgt := 2) dX5_isTrialAsSeen_56 (by decide) ?_
            refine J_lv [1, 2, 3, 0] rfl ?_
            exact ih2 (i + 1) r (by omega) (by first | exact hr | exact hourM_sp hr j) (by rw [h1, show n - i = (n - (i + 1)) + 1 by omega, seenR, if_neg (by first | (rw [if_pos (show 0 < i by omega)]; first | exact fun z => z.1 c_30 | exact fun z => z.2 c_48) | (rw [if_neg (show ¬ 0 < i by omega)]; first | exact fun z => z.1 c_30 | exact fun z => z.2 c_48))]; first | rw [if_pos (show 0 < i by omega)] | rw [if_neg (show ¬ 0 < i by omega)]) (by rw [h2, show n - i = (n - (i + 1)) + 1 by omega, seenS, if_neg (by first | (rw [if_pos (show 0 < i by omega)]; first | exact fun z => z.1 c_30 | exact fun z => z.2 c_48) | (rw [if_neg (show ¬ 0 < i by omega)]; first | exact fun z => z.1 c_30 | exact fun z => z.2 c_48))]; first | rw [if_pos (show 0 < i by omega)] | rw [if_neg (show ¬ 0 < i by omega)]) (by omega)
          · skip
            refine J_aload_n E dX5_isTrialAsSeen_33 rfl 1 rfl ?_
            refine gC35_X5_221 E dX5_isTrialAsSeen_34 ?_
            refine J_iload_n E dX5_isTrialAsSeen_37 rfl 3 rfl ?_
            refine lC_36 E (j := i) dX5_isTrialAsSeen_38 (by omega) ?_
            refine J_top (x' := x 10 0 i) (upG_n (by decide)) ?_
            refine J_aload_n E dX5_isTrialAsSeen_39 rfl 0 rfl ?_
            refine gC0_X5_19 E dX5_isTrialAsSeen_40 ?_
            refine gC17_X5_103 E dX5_isTrialAsSeen_43 ?_
            refine J_iload_n E dX5_isTrialAsSeen_46 rfl 2 rfl ?_
            refine lC_19 E (j := j) dX5_isTrialAsSeen_47 (by omega) ?_
            refine J_top (x' := r 1 j) upG_s ?_
            refine J_icmp_eq E (tgt := 53) dX5_isTrialAsSeen_48 (by decide) (fun c_48 => ?_) (fun c_48 => ?_)
            · skip
              refine J_iinc E (lv' := [(3, .int (nI (i + 1))), (0, .ref (a 0)), (1, .ref (a 35)), (2, .int (nI j))]) dX5_isTrialAsSeen_53 3 rfl (nI_inc _) (by decide) rfl ?_
              refine J_goto E (tgt := 2) dX5_isTrialAsSeen_56 (by decide) ?_
              refine J_lv [1, 2, 3, 0] rfl ?_
              exact ih2 (i + 1) r (by omega) (by first | exact hr | exact hourM_sp hr j) (by rw [h1, show n - i = (n - (i + 1)) + 1 by omega, seenR, if_neg (by first | (rw [if_pos (show 0 < i by omega)]; first | exact fun z => z.1 c_30 | exact fun z => z.2 c_48) | (rw [if_neg (show ¬ 0 < i by omega)]; first | exact fun z => z.1 c_30 | exact fun z => z.2 c_48))]; first | rw [if_pos (show 0 < i by omega)] | rw [if_neg (show ¬ 0 < i by omega)]) (by rw [h2, show n - i = (n - (i + 1)) + 1 by omega, seenS, if_neg (by first | (rw [if_pos (show 0 < i by omega)]; first | exact fun z => z.1 c_30 | exact fun z => z.2 c_48) | (rw [if_neg (show ¬ 0 < i by omega)]; first | exact fun z => z.1 c_30 | exact fun z => z.2 c_48))]; first | rw [if_pos (show 0 < i by omega)] | rw [if_neg (show ¬ 0 < i by omega)]) (by omega)
            · skip
              refine J_iconst E dX5_isTrialAsSeen_51 ic_0 ?_
              exact ret _ _ _ _ ⟨by rw [h1, show n - i = (n - (i + 1)) + 1 by omega, seenR, if_pos (by first | (rw [if_pos (show 0 < i by omega)]; exact ⟨c_30, c_48⟩) | (rw [if_neg (show ¬ 0 < i by omega)]; exact ⟨c_30, c_48⟩))], (congrArg (wC G a) (by first | (rw [h2, show n - i = (n - (i + 1)) + 1 by omega, seenS, if_pos (by first | (rw [if_pos (show 0 < i by omega)]; exact ⟨c_30, c_48⟩) | (rw [if_neg (show ¬ 0 < i by omega)]; exact ⟨c_30, c_48⟩))]; first | rw [if_pos (show 0 < i by omega), upG_upG] | rw [if_neg (show ¬ 0 < i by omega)])))⟩ rfl dX5_isTrialAsSeen_52
        · skip
          have n_11 : ¬ i ≤ 0 := cmp_nle (a := i) (b := 0) (by omega) (by omega) c_11
          refine J_aload_n E dX5_isTrialAsSeen_14 rfl 0 rfl ?_
          refine gC0_X5_19 E dX5_isTrialAsSeen_15 ?_
          refine J_iload_n E dX5_isTrialAsSeen_18 rfl 2 rfl ?_
          refine J_si2 E (As := [.int (nI j)]) (c_X1_passHour l G (sh a 17) r j (by omega) hr) cl_X5_130 yo_X1_passHour dX5_isTrialAsSeen_19 rfl (Nat.le_of_ble_eq_true rfl) (Nat.le_of_ble_eq_true rfl) rfl (Nat.le_of_ble_eq_true rfl) ⟨Nat.zero_le _, Nat.zero_le _⟩ ?_
          refine J_pop E dX5_isTrialAsSeen_22 rfl ?_
          refine J_aload_n E dX5_isTrialAsSeen_23 rfl 1 rfl ?_
          refine gC35_X5_221 E dX5_isTrialAsSeen_24 ?_
          refine J_iload_n E dX5_isTrialAsSeen_27 rfl 3 rfl ?_
          refine lC_36 E (j := i) dX5_isTrialAsSeen_28 (by omega) ?_
          refine J_top (x' := x 10 0 i) (Eq.trans (upG_n (by decide)) (upG_n (by decide))) ?_
          refine J_iconst E dX5_isTrialAsSeen_29 ic_m1 ?_
          refine J_icmp_eq E (tgt := 53) dX5_isTrialAsSeen_30 (by decide) (fun c_30 => ?_) (fun c_30 => ?_)
          · skip
            refine J_iinc E (lv' := [(3, .int (nI (i + 1))), (0, .ref (a 0)), (1, .ref (a 35)), (2, .int (nI j))]) dX5_isTrialAsSeen_53 3 rfl (nI_inc _) (by decide) rfl ?_
            refine J_goto E (tgt := 2) dX5_isTrialAsSeen_56 (by decide) ?_
            refine J_lv [1, 2, 3, 0] rfl ?_
            exact ih2 (i + 1) (hourM r j) (by omega) (by first | exact hr | exact hourM_sp hr j) (by rw [h1, show n - i = (n - (i + 1)) + 1 by omega, seenR, if_neg (by first | (rw [if_pos (show 0 < i by omega)]; first | exact fun z => z.1 c_30 | exact fun z => z.2 c_48) | (rw [if_neg (show ¬ 0 < i by omega)]; first | exact fun z => z.1 c_30 | exact fun z => z.2 c_48))]; first | rw [if_pos (show 0 < i by omega)] | rw [if_neg (show ¬ 0 < i by omega)]) (by rw [h2, show n - i = (n - (i + 1)) + 1 by omega, seenS, if_neg (by first | (rw [if_pos (show 0 < i by omega)]; first | exact fun z => z.1 c_30 | exact fun z => z.2 c_48) | (rw [if_neg (show ¬ 0 < i by omega)]; first | exact fun z => z.1 c_30 | exact fun z => z.2 c_48))]; first | rw [if_pos (show 0 < i by omega)] | rw [if_neg (show ¬ 0 < i by omega)]) (by omega)
          · skip
            refine J_aload_n E dX5_isTrialAsSeen_33 rfl 1 rfl ?_
            refine gC35_X5_221 E dX5_isTrialAsSeen_34 ?_
            refine J_iload_n E dX5_isTrialAsSeen_37 rfl 3 rfl ?_
            refine lC_36 E (j := i) dX5_isTrialAsSeen_38 (by omega) ?_
            refine J_top (x' := x 10 0 i) (Eq.trans (upG_n (by decide)) (upG_n (by decide))) ?_
            refine J_aload_n E dX5_isTrialAsSeen_39 rfl 0 rfl ?_
            refine gC0_X5_19 E dX5_isTrialAsSeen_40 ?_
            refine gC17_X5_103 E dX5_isTrialAsSeen_43 ?_
            refine J_iload_n E dX5_isTrialAsSeen_46 rfl 2 rfl ?_
            refine lC_19 E (j := j) dX5_isTrialAsSeen_47 (by omega) ?_
            refine J_top (x' := (hourM r j) 1 j) upG_s ?_
            refine J_icmp_eq E (tgt := 53) dX5_isTrialAsSeen_48 (by decide) (fun c_48 => ?_) (fun c_48 => ?_)
            · skip
              refine J_iinc E (lv' := [(3, .int (nI (i + 1))), (0, .ref (a 0)), (1, .ref (a 35)), (2, .int (nI j))]) dX5_isTrialAsSeen_53 3 rfl (nI_inc _) (by decide) rfl ?_
              refine J_goto E (tgt := 2) dX5_isTrialAsSeen_56 (by decide) ?_
              refine J_lv [1, 2, 3, 0] rfl ?_
              exact ih2 (i + 1) (hourM r j) (by omega) (by first | exact hr | exact hourM_sp hr j) (by rw [h1, show n - i = (n - (i + 1)) + 1 by omega, seenR, if_neg (by first | (rw [if_pos (show 0 < i by omega)]; first | exact fun z => z.1 c_30 | exact fun z => z.2 c_48) | (rw [if_neg (show ¬ 0 < i by omega)]; first | exact fun z => z.1 c_30 | exact fun z => z.2 c_48))]; first | rw [if_pos (show 0 < i by omega)] | rw [if_neg (show ¬ 0 < i by omega)]) (by rw [h2, show n - i = (n - (i + 1)) + 1 by omega, seenS, if_neg (by first | (rw [if_pos (show 0 < i by omega)]; first | exact fun z => z.1 c_30 | exact fun z => z.2 c_48) | (rw [if_neg (show ¬ 0 < i by omega)]; first | exact fun z => z.1 c_30 | exact fun z => z.2 c_48))]; first | rw [if_pos (show 0 < i by omega)] | rw [if_neg (show ¬ 0 < i by omega)]) (by omega)
            · skip
              refine J_iconst E dX5_isTrialAsSeen_51 ic_0 ?_
              exact ret _ _ _ _ ⟨by rw [h1, show n - i = (n - (i + 1)) + 1 by omega, seenR, if_pos (by first | (rw [if_pos (show 0 < i by omega)]; exact ⟨c_30, c_48⟩) | (rw [if_neg (show ¬ 0 < i by omega)]; exact ⟨c_30, c_48⟩))], (congrArg (wC G a) (by first | (rw [h2, show n - i = (n - (i + 1)) + 1 by omega, seenS, if_pos (by first | (rw [if_pos (show 0 < i by omega)]; exact ⟨c_30, c_48⟩) | (rw [if_neg (show ¬ 0 < i by omega)]; exact ⟨c_30, c_48⟩))]; first | rw [if_pos (show 0 < i by omega), upG_upG] | rw [if_neg (show ¬ 0 < i by omega)])))⟩ rfl dX5_isTrialAsSeen_52
  refine J_lv [1, 2, 3, 0] rfl ?_
  exact lp2 _ 0 (x 2) (by omega) hsp (by rw [Nat.sub_zero]) (by rw [Nat.sub_zero]) (Nat.lt_succ_self _)

set_option maxHeartbeats 4000000 in
set_option maxRecDepth 20000 in
theorem c_X5_isTrialAsSeen_3 (l : Launch) (G : GB) (a : Nat → Nat) (x : Q3) (j n : Nat) (hj : j < 11) (hn : x 11 1 1 = nI n) (hn2 : n ≤ 40) (hsp : spOk (x 2)) : CI l yX5_isTrialAsSeen cX5_isTrialAsSeen 4 .boolean 4 92 G [.ref (a 0), .ref (a 37), .int (nI j)] (wC G a x) (fun vR w' => vR = seenR (x 11 0) j n 0 (x 2) ∧ w' = wC G a (upG x 2 (seenS (x 11 0) j n 0 (x 2)))) := by
  refine CI.mk (own := RX5) (by decide) rfl (Nat.le_of_ble_eq_true rfl) ?_
  intro X E ret
  show J X G 4 0 0 (wC G a x) [(0, .ref (a 0)), (1, .ref (a 37)), (2, .int (nI j))] 0 []
  refine J_iconst E dX5_isTrialAsSeen_0 ic_0 ?_
  refine J_istore_n E (lv' := [(3, .int 0), (0, .ref (a 0)), (1, .ref (a 37)), (2, .int (nI j))]) dX5_isTrialAsSeen_1 rfl (by decide) rfl ?_
  have lp2 : ∀ (fu : Nat) (i : Nat) (r : Q2), (i ≤ n) → (spOk r) → (seenR (x 11 0) j n 0 (x 2) = seenR (x 11 0) j (n - i) i r) → (seenS (x 11 0) j n 0 (x 2) = seenS (x 11 0) j (n - i) i r) → n - i < fu → J X G 4 0 0 (wC G a (upG x 2 r)) [(0, .ref (a 0)), (1, .ref (a 37)), (2, .int (nI j)), (3, .int (nI i))] 2 [] := by
    intro fu
    induction fu with
    | zero => intro i r hi hr h1 h2 hm; exact absurd hm (Nat.not_lt_zero _)
    | succ fu ih2 =>
      intro i r hi hr h1 h2 hm
      refine J_iload_n E dX5_isTrialAsSeen_2 rfl 3 rfl ?_
      refine J_aload_n E dX5_isTrialAsSeen_3 rfl 1 rfl ?_
      refine gC37_X5_208 E dX5_isTrialAsSeen_4 ?_
      refine J_top (x' := x 11 1 1) (upG_n (by decide)) ?_
      refine J_top (x' := nI n) (hn) ?_
      refine J_icmp_ge E (tgt := 59) dX5_isTrialAsSeen_7 (by decide) (fun c_7 => ?_) (fun c_7 => ?_)
      · skip
        have n_7 : n ≤ i := cmp_le (a := n) (b := i) (by omega) (by omega) c_7
        refine J_iconst E dX5_isTrialAsSeen_59 ic_1 ?_
        exact ret _ _ _ _ ⟨by rw [h1, show n - i = 0 by omega]; rfl, (congrArg (wC G a) (by rw [h2, show n - i = 0 by omega]; rfl))⟩ rfl dX5_isTrialAsSeen_60
      · skip
        have n_7 : ¬ n ≤ i := cmp_nle (a := n) (b := i) (by omega) (by omega) c_7
        refine J_iload_n E dX5_isTrialAsSeen_10 rfl 3 rfl ?_
        refine J_if_le E (tgt := 23) dX5_isTrialAsSeen_11 (by decide) (fun c_11 => ?_) (fun c_11 => ?_)
        · skip
          have n_11 : i ≤ 0 := cmp_le (a := i) (b := 0) (by omega) (by omega) c_11
          refine J_aload_n E dX5_isTrialAsSeen_23 rfl 1 rfl ?_
          refine gC37_X5_221 E dX5_isTrialAsSeen_24 ?_
          refine J_iload_n E dX5_isTrialAsSeen_27 rfl 3 rfl ?_
          refine lC_38 E (j := i) dX5_isTrialAsSeen_28 (by omega) ?_
          refine J_top (x' := x 11 0 i) (upG_n (by decide)) ?_
          refine J_iconst E dX5_isTrialAsSeen_29 ic_m1 ?_
          refine J_icmp_eq E (tgt := 53) dX5_isTrialAsSeen_30 (by decide) (fun c_30 => ?_) (fun c_30 => ?_)
          · skip
            refine J_iinc E (lv' := [(3, .int (nI (i + 1))), (0, .ref (a 0)), (1, .ref (a 37)), (2, .int (nI j))]) dX5_isTrialAsSeen_53 3 rfl (nI_inc _) (by decide) rfl ?_
            refine J_goto E (tgt := 2) dX5_isTrialAsSeen_56 (by decide) ?_
            refine J_lv [1, 2, 3, 0] rfl ?_
            exact ih2 (i + 1) r (by omega) (by first | exact hr | exact hourM_sp hr j) (by rw [h1, show n - i = (n - (i + 1)) + 1 by omega, seenR, if_neg (by first | (rw [if_pos (show 0 < i by omega)]; first | exact fun z => z.1 c_30 | exact fun z => z.2 c_48) | (rw [if_neg (show ¬ 0 < i by omega)]; first | exact fun z => z.1 c_30 | exact fun z => z.2 c_48))]; first | rw [if_pos (show 0 < i by omega)] | rw [if_neg (show ¬ 0 < i by omega)]) (by rw [h2, show n - i = (n - (i + 1)) + 1 by omega, seenS, if_neg (by first | (rw [if_pos (show 0 < i by omega)]; first | exact fun z => z.1 c_30 | exact fun z => z.2 c_48) | (rw [if_neg (show ¬ 0 < i by omega)]; first | exact fun z => z.1 c_30 | exact fun z => z.2 c_48))]; first | rw [if_pos (show 0 < i by omega)] | rw [if_neg (show ¬ 0 < i by omega)]) (by omega)
          · skip
            refine J_aload_n E dX5_isTrialAsSeen_33 rfl 1 rfl ?_
            refine gC37_X5_221 E dX5_isTrialAsSeen_34 ?_
            refine J_iload_n E dX5_isTrialAsSeen_37 rfl 3 rfl ?_
            refine lC_38 E (j := i) dX5_isTrialAsSeen_38 (by omega) ?_
            refine J_top (x' := x 11 0 i) (upG_n (by decide)) ?_
            refine J_aload_n E dX5_isTrialAsSeen_39 rfl 0 rfl ?_
            refine gC0_X5_19 E dX5_isTrialAsSeen_40 ?_
            refine gC17_X5_103 E dX5_isTrialAsSeen_43 ?_
            refine J_iload_n E dX5_isTrialAsSeen_46 rfl 2 rfl ?_
            refine lC_19 E (j := j) dX5_isTrialAsSeen_47 (by omega) ?_
            refine J_top (x' := r 1 j) upG_s ?_
            refine J_icmp_eq E (tgt := 53) dX5_isTrialAsSeen_48 (by decide) (fun c_48 => ?_) (fun c_48 => ?_)
            · skip
              refine J_iinc E (lv' := [(3, .int (nI (i + 1))), (0, .ref (a 0)), (1, .ref (a 37)), (2, .int (nI j))]) dX5_isTrialAsSeen_53 3 rfl (nI_inc _) (by decide) rfl ?_
              refine J_goto E (tgt := 2) dX5_isTrialAsSeen_56 (by decide) ?_
              refine J_lv [1, 2, 3, 0] rfl ?_
              exact ih2 (i + 1) r (by omega) (by first | exact hr | exact hourM_sp hr j) (by rw [h1, show n - i = (n - (i + 1)) + 1 by omega, seenR, if_neg (by first | (rw [if_pos (show 0 < i by omega)]; first | exact fun z => z.1 c_30 | exact fun z => z.2 c_48) | (rw [if_neg (show ¬ 0 < i by omega)]; first | exact fun z => z.1 c_30 | exact fun z => z.2 c_48))]; first | rw [if_pos (show 0 < i by omega)] | rw [if_neg (show ¬ 0 < i by omega)]) (by rw [h2, show n - i = (n - (i + 1)) + 1 by omega, seenS, if_neg (by first | (rw [if_pos (show 0 < i by omega)]; first | exact fun z => z.1 c_30 | exact fun z => z.2 c_48) | (rw [if_neg (show ¬ 0 < i by omega)]; first | exact fun z => z.1 c_30 | exact fun z => z.2 c_48))]; first | rw [if_pos (show 0 < i by omega)] | rw [if_neg (show ¬ 0 < i by omega)]) (by omega)
            · skip
              refine J_iconst E dX5_isTrialAsSeen_51 ic_0 ?_
              exact ret _ _ _ _ ⟨by rw [h1, show n - i = (n - (i + 1)) + 1 by omega, seenR, if_pos (by first | (rw [if_pos (show 0 < i by omega)]; exact ⟨c_30, c_48⟩) | (rw [if_neg (show ¬ 0 < i by omega)]; exact ⟨c_30, c_48⟩))], (congrArg (wC G a) (by first | (rw [h2, show n - i = (n - (i + 1)) + 1 by omega, seenS, if_pos (by first | (rw [if_pos (show 0 < i by omega)]; exact ⟨c_30, c_48⟩) | (rw [if_neg (show ¬ 0 < i by omega)]; exact ⟨c_30, c_48⟩))]; first | rw [if_pos (show 0 < i by omega), upG_upG] | rw [if_neg (show ¬ 0 < i by omega)])))⟩ rfl dX5_isTrialAsSeen_52
        · skip
          have n_11 : ¬ i ≤ 0 := cmp_nle (a := i) (b := 0) (by omega) (by omega) c_11
          refine J_aload_n E dX5_isTrialAsSeen_14 rfl 0 rfl ?_
          refine gC0_X5_19 E dX5_isTrialAsSeen_15 ?_
          refine J_iload_n E dX5_isTrialAsSeen_18 rfl 2 rfl ?_
          refine J_si2 E (As := [.int (nI j)]) (c_X1_passHour l G (sh a 17) r j (by omega) hr) cl_X5_130 yo_X1_passHour dX5_isTrialAsSeen_19 rfl (Nat.le_of_ble_eq_true rfl) (Nat.le_of_ble_eq_true rfl) rfl (Nat.le_of_ble_eq_true rfl) ⟨Nat.zero_le _, Nat.zero_le _⟩ ?_
          refine J_pop E dX5_isTrialAsSeen_22 rfl ?_
          refine J_aload_n E dX5_isTrialAsSeen_23 rfl 1 rfl ?_
          refine gC37_X5_221 E dX5_isTrialAsSeen_24 ?_
          refine J_iload_n E dX5_isTrialAsSeen_27 rfl 3 rfl ?_
          refine lC_38 E (j := i) dX5_isTrialAsSeen_28 (by omega) ?_
          refine J_top (x' := x 11 0 i) (Eq.trans (upG_n (by decide)) (upG_n (by decide))) ?_
          refine J_iconst E dX5_isTrialAsSeen_29 ic_m1 ?_
          refine J_icmp_eq E (tgt := 53) dX5_isTrialAsSeen_30 (by decide) (fun c_30 => ?_) (fun c_30 => ?_)
          · skip
            refine J_iinc E (lv' := [(3, .int (nI (i + 1))), (0, .ref (a 0)), (1, .ref (a 37)), (2, .int (nI j))]) dX5_isTrialAsSeen_53 3 rfl (nI_inc _) (by decide) rfl ?_
            refine J_goto E (tgt := 2) dX5_isTrialAsSeen_56 (by decide) ?_
            refine J_lv [1, 2, 3, 0] rfl ?_
            exact ih2 (i + 1) (hourM r j) (by omega) (by first | exact hr | exact hourM_sp hr j) (by rw [h1, show n - i = (n - (i + 1)) + 1 by omega, seenR, if_neg (by first | (rw [if_pos (show 0 < i by omega)]; first | exact fun z => z.1 c_30 | exact fun z => z.2 c_48) | (rw [if_neg (show ¬ 0 < i by omega)]; first | exact fun z => z.1 c_30 | exact fun z => z.2 c_48))]; first | rw [if_pos (show 0 < i by omega)] | rw [if_neg (show ¬ 0 < i by omega)]) (by rw [h2, show n - i = (n - (i + 1)) + 1 by omega, seenS, if_neg (by first | (rw [if_pos (show 0 < i by omega)]; first | exact fun z => z.1 c_30 | exact fun z => z.2 c_48) | (rw [if_neg (show ¬ 0 < i by omega)]; first | exact fun z => z.1 c_30 | exact fun z => z.2 c_48))]; first | rw [if_pos (show 0 < i by omega)] | rw [if_neg (show ¬ 0 < i by omega)]) (by omega)
          · skip
            refine J_aload_n E dX5_isTrialAsSeen_33 rfl 1 rfl ?_
            refine gC37_X5_221 E dX5_isTrialAsSeen_34 ?_
            refine J_iload_n E dX5_isTrialAsSeen_37 rfl 3 rfl ?_
            refine lC_38 E (j := i) dX5_isTrialAsSeen_38 (by omega) ?_
            refine J_top (x' := x 11 0 i) (Eq.trans (upG_n (by decide)) (upG_n (by decide))) ?_
            refine J_aload_n E dX5_isTrialAsSeen_39 rfl 0 rfl ?_
            refine gC0_X5_19 E dX5_isTrialAsSeen_40 ?_
            refine gC17_X5_103 E dX5_isTrialAsSeen_43 ?_
            refine J_iload_n E dX5_isTrialAsSeen_46 rfl 2 rfl ?_
            refine lC_19 E (j := j) dX5_isTrialAsSeen_47 (by omega) ?_
            refine J_top (x' := (hourM r j) 1 j) upG_s ?_
            refine J_icmp_eq E (tgt := 53) dX5_isTrialAsSeen_48 (by decide) (fun c_48 => ?_) (fun c_48 => ?_)
            · skip
              refine J_iinc E (lv' := [(3, .int (nI (i + 1))), (0, .ref (a 0)), (1, .ref (a 37)), (2, .int (nI j))]) dX5_isTrialAsSeen_53 3 rfl (nI_inc _) (by decide) rfl ?_
              refine J_goto E (tgt := 2) dX5_isTrialAsSeen_56 (by decide) ?_
              refine J_lv [1, 2, 3, 0] rfl ?_
              exact ih2 (i + 1) (hourM r j) (by omega) (by first | exact hr | exact hourM_sp hr j) (by rw [h1, show n - i = (n - (i + 1)) + 1 by omega, seenR, if_neg (by first | (rw [if_pos (show 0 < i by omega)]; first | exact fun z => z.1 c_30 | exact fun z => z.2 c_48) | (rw [if_neg (show ¬ 0 < i by omega)]; first | exact fun z => z.1 c_30 | exact fun z => z.2 c_48))]; first | rw [if_pos (show 0 < i by omega)] | rw [if_neg (show ¬ 0 < i by omega)]) (by rw [h2, show n - i = (n - (i + 1)) + 1 by omega, seenS, if_neg (by first | (rw [if_pos (show 0 < i by omega)]; first | exact fun z => z.1 c_30 | exact fun z => z.2 c_48) | (rw [if_neg (show ¬ 0 < i by omega)]; first | exact fun z => z.1 c_30 | exact fun z => z.2 c_48))]; first | rw [if_pos (show 0 < i by omega)] | rw [if_neg (show ¬ 0 < i by omega)]) (by omega)
            · skip
              refine J_iconst E dX5_isTrialAsSeen_51 ic_0 ?_
              exact ret _ _ _ _ ⟨by rw [h1, show n - i = (n - (i + 1)) + 1 by omega, seenR, if_pos (by first | (rw [if_pos (show 0 < i by omega)]; exact ⟨c_30, c_48⟩) | (rw [if_neg (show ¬ 0 < i by omega)]; exact ⟨c_30, c_48⟩))], (congrArg (wC G a) (by first | (rw [h2, show n - i = (n - (i + 1)) + 1 by omega, seenS, if_pos (by first | (rw [if_pos (show 0 < i by omega)]; exact ⟨c_30, c_48⟩) | (rw [if_neg (show ¬ 0 < i by omega)]; exact ⟨c_30, c_48⟩))]; first | rw [if_pos (show 0 < i by omega), upG_upG] | rw [if_neg (show ¬ 0 < i by omega)])))⟩ rfl dX5_isTrialAsSeen_52
  refine J_lv [1, 2, 3, 0] rfl ?_
  exact lp2 _ 0 (x 2) (by omega) hsp (by rw [Nat.sub_zero]) (by rw [Nat.sub_zero]) (Nat.lt_succ_self _)
