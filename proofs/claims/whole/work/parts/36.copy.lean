set_option maxHeartbeats 4000000 in
set_option maxRecDepth 20000 in
theorem c_X5_copy_bad (l : Launch) (G : GB) (a : Nat → Nat) (x : Q3) (s f t o n : Int32) (hb : ¬ ((0 ≤ s ∧ s ≤ 3) ∧ 0 ≤ t ∧ t ≤ 3)) : CI l yX5_copy cX5_copy 8 .int 2 41 G [.ref (a 0), .int s, .int f, .int t, .int o, .int n] (wC G a x) (fun vR w' => vR = tellR 0 ∧ PubC G a (tellX x 0) w') := by
  refine CI.mk (own := RX5) (by decide) rfl (Nat.le_of_ble_eq_true rfl) ?_
  intro X E ret
  show J X G 8 0 0 (wC G a x) [(0, .ref (a 0)), (1, .int s), (2, .int f), (3, .int t), (4, .int o), (5, .int n)] 0 []
  refine J_iload_n E dX5_copy_0 rfl 1 rfl ?_
  refine J_cSiN E (As := [.int s]) (c_X5_isSheet l G s ) cl_X5_202 yo_X5_isSheet dX5_copy_1 rfl (Nat.le_of_ble_eq_true rfl) (Nat.le_of_ble_eq_true rfl) rfl (Nat.le_of_ble_eq_true rfl) ⟨Nat.zero_le _, Nat.zero_le _⟩ ?_
  refine J_if_eq E (tgt := 14) dX5_copy_4 (by decide) (fun c_4 => ?_) (fun c_4 => ?_)
  · skip
    have c_4 := bI_0 c_4
    refine J_aload_n E dX5_copy_14 rfl 0 rfl ?_
    refine J_iconst E dX5_copy_15 ic_0 ?_
    refine J_cVi0 E (As := [.int 0]) (c_X5_tell l G a x 0 (by omega)) cl_X5_64 yo_X5_tell dX5_copy_16 rfl rfl rfl (Nat.le_of_ble_eq_true rfl) (Nat.le_of_ble_eq_true rfl) rfl (Nat.le_of_ble_eq_true rfl) ⟨Nat.zero_le _, Nat.zero_le _⟩ ?_
    exact ret _ _ _ _ ⟨rfl, _, rfl, by intro g h2 h6; simp [upG, up3, up3R, h2, h6]⟩ rfl dX5_copy_19
  · skip
    have c_4 := bI_1 c_4
    refine J_iload_n E dX5_copy_7 rfl 3 rfl ?_
    refine J_cSiN E (As := [.int t]) (c_X5_isSheet l G t ) cl_X5_202 yo_X5_isSheet dX5_copy_8 rfl (Nat.le_of_ble_eq_true rfl) (Nat.le_of_ble_eq_true rfl) rfl (Nat.le_of_ble_eq_true rfl) ⟨Nat.zero_le _, Nat.zero_le _⟩ ?_
    refine J_if_ne E (tgt := 20) dX5_copy_11 (by decide) (fun c_11 => ?_) (fun c_11 => ?_)
    · skip
      have c_11 := bI_1 c_11
      exact absurd ⟨c_4, c_11⟩ hb
    · skip
      have c_11 := bI_0 c_11
      refine J_aload_n E dX5_copy_14 rfl 0 rfl ?_
      refine J_iconst E dX5_copy_15 ic_0 ?_
      refine J_cVi0 E (As := [.int 0]) (c_X5_tell l G a x 0 (by omega)) cl_X5_64 yo_X5_tell dX5_copy_16 rfl rfl rfl (Nat.le_of_ble_eq_true rfl) (Nat.le_of_ble_eq_true rfl) rfl (Nat.le_of_ble_eq_true rfl) ⟨Nat.zero_le _, Nat.zero_le _⟩ ?_
      exact ret _ _ _ _ ⟨rfl, _, rfl, by intro g h2 h6; simp [upG, up3, up3R, h2, h6]⟩ rfl dX5_copy_19

set_option maxHeartbeats 4000000 in
set_option maxRecDepth 20000 in
theorem c_X5_copy_miss (l : Launch) (G : GB) (a : Nat → Nat) (x : Q3) (i k : Nat) (f o n : Int32) (hi : i < 4) (hk : k < 4) (hb : x (8 + i) 1 0 = 0 ∨ x (8 + k) 1 0 = 0) : CI l yX5_copy cX5_copy 8 .int 2 41 G [.ref (a 0), .int (nI i), .int f, .int (nI k), .int o, .int n] (wC G a x) (fun vR w' => vR = tellR 5 ∧ PubC G a (tellX x 5) w') := by
  refine CI.mk (own := RX5) (by decide) rfl (Nat.le_of_ble_eq_true rfl) ?_
  intro X E ret
  show J X G 8 0 0 (wC G a x) [(0, .ref (a 0)), (1, .int (nI i)), (2, .int f), (3, .int (nI k)), (4, .int o), (5, .int n)] 0 []
  rcases (show (i = 0 ∧ k = 0) ∨ (i = 0 ∧ k = 1) ∨ (i = 0 ∧ k = 2) ∨ (i = 0 ∧ k = 3) ∨ (i = 1 ∧ k = 0) ∨ (i = 1 ∧ k = 1) ∨ (i = 1 ∧ k = 2) ∨ (i = 1 ∧ k = 3) ∨ (i = 2 ∧ k = 0) ∨ (i = 2 ∧ k = 1) ∨ (i = 2 ∧ k = 2) ∨ (i = 2 ∧ k = 3) ∨ (i = 3 ∧ k = 0) ∨ (i = 3 ∧ k = 1) ∨ (i = 3 ∧ k = 2) ∨ (i = 3 ∧ k = 3) by omega) with ⟨rfl, rfl⟩ | ⟨rfl, rfl⟩ | ⟨rfl, rfl⟩ | ⟨rfl, rfl⟩ | ⟨rfl, rfl⟩ | ⟨rfl, rfl⟩ | ⟨rfl, rfl⟩ | ⟨rfl, rfl⟩ | ⟨rfl, rfl⟩ | ⟨rfl, rfl⟩ | ⟨rfl, rfl⟩ | ⟨rfl, rfl⟩ | ⟨rfl, rfl⟩ | ⟨rfl, rfl⟩ | ⟨rfl, rfl⟩ | ⟨rfl, rfl⟩
  · skip
    refine J_iload_n E dX5_copy_0 rfl 1 rfl ?_
    refine J_cSiN E (As := [.int (nI 0)]) (c_X5_isSheet l G (nI 0) ) cl_X5_202 yo_X5_isSheet dX5_copy_1 rfl (Nat.le_of_ble_eq_true rfl) (Nat.le_of_ble_eq_true rfl) rfl (Nat.le_of_ble_eq_true rfl) ⟨Nat.zero_le _, Nat.zero_le _⟩ ?_
    refine J_if_eq E (tgt := 14) dX5_copy_4 (by decide) (fun c_4 => ?_) (fun c_4 => ?_)
    · skip
      have c_4 := bI_0 c_4
      exact absurd (in3 (by decide)) c_4
    · skip
      have c_4 := bI_1 c_4
      refine J_iload_n E dX5_copy_7 rfl 3 rfl ?_
      refine J_cSiN E (As := [.int (nI 0)]) (c_X5_isSheet l G (nI 0) ) cl_X5_202 yo_X5_isSheet dX5_copy_8 rfl (Nat.le_of_ble_eq_true rfl) (Nat.le_of_ble_eq_true rfl) rfl (Nat.le_of_ble_eq_true rfl) ⟨Nat.zero_le _, Nat.zero_le _⟩ ?_
      refine J_if_ne E (tgt := 20) dX5_copy_11 (by decide) (fun c_11 => ?_) (fun c_11 => ?_)
      · skip
        have c_11 := bI_1 c_11
        refine J_aload_n E dX5_copy_20 rfl 0 rfl ?_
        refine gC0_X5_44 E dX5_copy_21 ?_
        refine J_iload_n E dX5_copy_24 rfl 1 rfl ?_
        refine laC_30_0 E dX5_copy_25 ?_
        refine J_astore E (lv' := [(6, .ref (a 31)), (0, .ref (a 0)), (1, .int (nI 0)), (2, .int f), (3, .int (nI 0)), (4, .int o), (5, .int n)]) dX5_copy_26 (by decide) rfl ?_
        refine J_aload_n E dX5_copy_28 rfl 1 rfl ?_
        refine gC0_X5_44 E dX5_copy_29 ?_
        refine J_iload_n E dX5_copy_32 rfl 4 rfl ?_
        refine laC_30_0 E dX5_copy_33 ?_
        refine J_astore E (lv' := [(7, .ref (a 31)), (6, .ref (a 31)), (0, .ref (a 0)), (1, .int (nI 0)), (2, .int f), (3, .int (nI 0)), (4, .int o), (5, .int n)]) dX5_copy_34 (by decide) rfl ?_
        refine J_aload E dX5_copy_36 1 rfl ?_
        refine J_si8r E (As := []) (c_X2_isMissing l G (sh a 31) (x 8) ) cl_X5_212 yo_X2_isMissing dX5_copy_38 rfl (Nat.le_of_ble_eq_true rfl) (Nat.le_of_ble_eq_true rfl) rfl (Nat.le_of_ble_eq_true rfl) ⟨Nat.zero_le _, Nat.zero_le _⟩ ?_
        refine J_if_ne E (tgt := 52) dX5_copy_41 (by decide) (fun c_41 => ?_) (fun c_41 => ?_)
        · skip
          have c_41 := bI_1 c_41
          refine J_aload_n E dX5_copy_52 rfl 2 rfl ?_
          refine J_iconst E dX5_copy_53 ic_5 ?_
          refine J_cVi0 E (As := [.int 5]) (c_X5_tell l G a x 5 (by omega)) cl_X5_64 yo_X5_tell dX5_copy_54 rfl rfl rfl (Nat.le_of_ble_eq_true rfl) (Nat.le_of_ble_eq_true rfl) rfl (Nat.le_of_ble_eq_true rfl) ⟨Nat.zero_le _, Nat.zero_le _⟩ ?_
          exact ret _ _ _ _ ⟨rfl, _, rfl, by intro g h2 h6; simp [upG, up3, up3R, h2, h6]⟩ rfl dX5_copy_57
        · skip
          have c_41 := bI_0 c_41
          refine J_aload E dX5_copy_44 0 rfl ?_
          refine J_si8r E (As := []) (c_X2_isMissing l G (sh a 31) (x 8) ) cl_X5_212 yo_X2_isMissing dX5_copy_46 rfl (Nat.le_of_ble_eq_true rfl) (Nat.le_of_ble_eq_true rfl) rfl (Nat.le_of_ble_eq_true rfl) ⟨Nat.zero_le _, Nat.zero_le _⟩ ?_
          refine J_if_eq E (tgt := 58) dX5_copy_49 (by decide) (fun c_49 => ?_) (fun c_49 => ?_)
          · skip
            have c_49 := bI_0 c_49
            exact absurd hb (fun z => z.elim c_41 c_49)
          · skip
            have c_49 := bI_1 c_49
            refine J_aload_n E dX5_copy_52 rfl 2 rfl ?_
            refine J_iconst E dX5_copy_53 ic_5 ?_
            refine J_cVi0 E (As := [.int 5]) (c_X5_tell l G a x 5 (by omega)) cl_X5_64 yo_X5_tell dX5_copy_54 rfl rfl rfl (Nat.le_of_ble_eq_true rfl) (Nat.le_of_ble_eq_true rfl) rfl (Nat.le_of_ble_eq_true rfl) ⟨Nat.zero_le _, Nat.zero_le _⟩ ?_
            exact ret _ _ _ _ ⟨rfl, _, rfl, by intro g h2 h6; simp [upG, up3, up3R, h2, h6]⟩ rfl dX5_copy_57
      · skip
        have c_11 := bI_0 c_11
        exact absurd (in3 (by decide)) c_11
  · skip
    refine J_iload_n E dX5_copy_0 rfl 1 rfl ?_
    refine J_cSiN E (As := [.int (nI 0)]) (c_X5_isSheet l G (nI 0) ) cl_X5_202 yo_X5_isSheet dX5_copy_1 rfl (Nat.le_of_ble_eq_true rfl) (Nat.le_of_ble_eq_true rfl) rfl (Nat.le_of_ble_eq_true rfl) ⟨Nat.zero_le _, Nat.zero_le _⟩ ?_
    refine J_if_eq E (tgt := 14) dX5_copy_4 (by decide) (fun c_4 => ?_) (fun c_4 => ?_)
    · skip
      have c_4 := bI_0 c_4
      exact absurd (in3 (by decide)) c_4
    · skip
      have c_4 := bI_1 c_4
      refine J_iload_n E dX5_copy_7 rfl 3 rfl ?_
      refine J_cSiN E (As := [.int (nI 1)]) (c_X5_isSheet l G (nI 1) ) cl_X5_202 yo_X5_isSheet dX5_copy_8 rfl (Nat.le_of_ble_eq_true rfl) (Nat.le_of_ble_eq_true rfl) rfl (Nat.le_of_ble_eq_true rfl) ⟨Nat.zero_le _, Nat.zero_le _⟩ ?_
      refine J_if_ne E (tgt := 20) dX5_copy_11 (by decide) (fun c_11 => ?_) (fun c_11 => ?_)
      · skip
        have c_11 := bI_1 c_11
        refine J_aload_n E dX5_copy_20 rfl 0 rfl ?_
        refine gC0_X5_44 E dX5_copy_21 ?_
        refine J_iload_n E dX5_copy_24 rfl 1 rfl ?_
        refine laC_30_0 E dX5_copy_25 ?_
        refine J_astore E (lv' := [(6, .ref (a 31)), (0, .ref (a 0)), (1, .int (nI 0)), (2, .int f), (3, .int (nI 1)), (4, .int o), (5, .int n)]) dX5_copy_26 (by decide) rfl ?_
        refine J_aload_n E dX5_copy_28 rfl 1 rfl ?_
        refine gC0_X5_44 E dX5_copy_29 ?_
        refine J_iload_n E dX5_copy_32 rfl 4 rfl ?_
        refine laC_30_1 E dX5_copy_33 ?_
        refine J_astore E (lv' := [(7, .ref (a 33)), (6, .ref (a 31)), (0, .ref (a 0)), (1, .int (nI 0)), (2, .int f), (3, .int (nI 1)), (4, .int o), (5, .int n)]) dX5_copy_34 (by decide) rfl ?_
        refine J_aload E dX5_copy_36 1 rfl ?_
        refine J_si8r E (As := []) (c_X2_isMissing l G (sh a 31) (x 8) ) cl_X5_212 yo_X2_isMissing dX5_copy_38 rfl (Nat.le_of_ble_eq_true rfl) (Nat.le_of_ble_eq_true rfl) rfl (Nat.le_of_ble_eq_true rfl) ⟨Nat.zero_le _, Nat.zero_le _⟩ ?_
        refine J_if_ne E (tgt := 52) dX5_copy_41 (by decide) (fun c_41 => ?_) (fun c_41 => ?_)
        · skip
          have c_41 := bI_1 c_41
          refine J_aload_n E dX5_copy_52 rfl 2 rfl ?_
          refine J_iconst E dX5_copy_53 ic_5 ?_
          refine J_cVi0 E (As := [.int 5]) (c_X5_tell l G a x 5 (by omega)) cl_X5_64 yo_X5_tell dX5_copy_54 rfl rfl rfl (Nat.le_of_ble_eq_true rfl) (Nat.le_of_ble_eq_true rfl) rfl (Nat.le_of_ble_eq_true rfl) ⟨Nat.zero_le _, Nat.zero_le _⟩ ?_
          exact ret _ _ _ _ ⟨rfl, _, rfl, by intro g h2 h6; simp [upG, up3, up3R, h2, h6]⟩ rfl dX5_copy_57
        · skip
          have c_41 := bI_0 c_41
          refine J_aload E dX5_copy_44 0 rfl ?_
          refine J_si9r E (As := []) (c_X2_isMissing l G (sh a 33) (x 9) ) cl_X5_212 yo_X2_isMissing dX5_copy_46 rfl (Nat.le_of_ble_eq_true rfl) (Nat.le_of_ble_eq_true rfl) rfl (Nat.le_of_ble_eq_true rfl) ⟨Nat.zero_le _, Nat.zero_le _⟩ ?_
          refine J_if_eq E (tgt := 58) dX5_copy_49 (by decide) (fun c_49 => ?_) (fun c_49 => ?_)
          · skip
            have c_49 := bI_0 c_49
            exact absurd hb (fun z => z.elim c_41 c_49)
          · skip
            have c_49 := bI_1 c_49
            refine J_aload_n E dX5_copy_52 rfl 2 rfl ?_
            refine J_iconst E dX5_copy_53 ic_5 ?_
            refine J_cVi0 E (As := [.int 5]) (c_X5_tell l G a x 5 (by omega)) cl_X5_64 yo_X5_tell dX5_copy_54 rfl rfl rfl (Nat.le_of_ble_eq_true rfl) (Nat.le_of_ble_eq_true rfl) rfl (Nat.le_of_ble_eq_true rfl) ⟨Nat.zero_le _, Nat.zero_le _⟩ ?_
            exact ret _ _ _ _ ⟨rfl, _, rfl, by intro g h2 h6; simp [upG, up3, up3R, h2, h6]⟩ rfl dX5_copy_57
      · skip
        have c_11 := bI_0 c_11
        exact absurd (in3 (by decide)) c_11
  · skip
    refine J_iload_n E dX5_copy_0 rfl 1 rfl ?_
    refine J_cSiN E (As := [.int (nI 0)]) (c_X5_isSheet l G (nI 0) ) cl_X5_202 yo_X5_isSheet dX5_copy_1 rfl (Nat.le_of_ble_eq_true rfl) (Nat.le_of_ble_eq_true rfl) rfl (Nat.le_of_ble_eq_true rfl) ⟨Nat.zero_le _, Nat.zero_le _⟩ ?_
    refine J_if_eq E (tgt := 14) dX5_copy_4 (by decide) (fun c_4 => ?_) (fun c_4 => ?_)
    · skip
      have c_4 := bI_0 c_4
      exact absurd (in3 (by decide)) c_4
    · skip
      have c_4 := bI_1 c_4
      refine J_iload_n E dX5_copy_7 rfl 3 rfl ?_
      refine J_cSiN E (As := [.int (nI 2)]) (c_X5_isSheet l G (nI 2) ) cl_X5_202 yo_X5_isSheet dX5_copy_8 rfl (Nat.le_of_ble_eq_true rfl) (Nat.le_of_ble_eq_true rfl) rfl (Nat.le_of_ble_eq_true rfl) ⟨Nat.zero_le _, Nat.zero_le _⟩ ?_
      refine J_if_ne E (tgt := 20) dX5_copy_11 (by decide) (fun c_11 => ?_) (fun c_11 => ?_)
      · skip
        have c_11 := bI_1 c_11
        refine J_aload_n E dX5_copy_20 rfl 0 rfl ?_
        refine gC0_X5_44 E dX5_copy_21 ?_
        refine J_iload_n E dX5_copy_24 rfl 1 rfl ?_
        refine laC_30_0 E dX5_copy_25 ?_
        refine J_astore E (lv' := [(6, .ref (a 31)), (0, .ref (a 0)), (1, .int (nI 0)), (2, .int f), (3, .int (nI 2)), (4, .int o), (5, .int n)]) dX5_copy_26 (by decide) rfl ?_
        refine J_aload_n E dX5_copy_28 rfl 1 rfl ?_
        refine gC0_X5_44 E dX5_copy_29 ?_
        refine J_iload_n E dX5_copy_32 rfl 4 rfl ?_
        refine laC_30_2 E dX5_copy_33 ?_
        refine J_astore E (lv' := [(7, .ref (a 35)), (6, .ref (a 31)), (0, .ref (a 0)), (1, .int (nI 0)), (2, .int f), (3, .int (nI 2)), (4, .int o), (5, .int n)]) dX5_copy_34 (by decide) rfl ?_
        refine J_aload E dX5_copy_36 1 rfl ?_
        refine J_si8r E (As := []) (c_X2_isMissing l G (sh a 31) (x 8) ) cl_X5_212 yo_X2_isMissing dX5_copy_38 rfl (Nat.le_of_ble_eq_true rfl) (Nat.le_of_ble_eq_true rfl) rfl (Nat.le_of_ble_eq_true rfl) ⟨Nat.zero_le _, Nat.zero_le _⟩ ?_
        refine J_if_ne E (tgt := 52) dX5_copy_41 (by decide) (fun c_41 => ?_) (fun c_41 => ?_)
        · skip
          have c_41 := bI_1 c_41
          refine J_aload_n E dX5_copy_52 rfl 2 rfl ?_
          refine J_iconst E dX5_copy_53 ic_5 ?_
          refine J_cVi0 E (As := [.int 5]) (c_X5_tell l G a x 5 (by omega)) cl_X5_64 yo_X5_tell dX5_copy_54 rfl rfl rfl (Nat.le_of_ble_eq_true rfl) (Nat.le_of_ble_eq_true rfl) rfl (Nat.le_of_ble_eq_true rfl) ⟨Nat.zero_le _, Nat.zero_le _⟩ ?_
          exact ret _ _ _ _ ⟨rfl, _, rfl, by intro g h2 h6; simp [upG, up3, up3R, h2, h6]⟩ rfl dX5_copy_57
        · skip
          have c_41 := bI_0 c_41
          refine J_aload E dX5_copy_44 0 rfl ?_
          refine J_si10r E (As := []) (c_X2_isMissing l G (sh a 35) (x 10) ) cl_X5_212 yo_X2_isMissing dX5_copy_46 rfl (Nat.le_of_ble_eq_true rfl) (Nat.le_of_ble_eq_true rfl) rfl (Nat.le_of_ble_eq_true rfl) ⟨Nat.zero_le _, Nat.zero_le _⟩ ?_
          refine J_if_eq E (tgt := 58) dX5_copy_49 (by decide) (fun c_49 => ?_) (fun c_49 => ?_)
          · skip
            have c_49 := bI_0 c_49
            exact absurd hb (fun z => z.elim c_41 c_49)
          · skip
            have c_49 := bI_1 c_49
            refine J_aload_n E dX5_copy_52 rfl 2 rfl ?_
            refine J_iconst E dX5_copy_53 ic_5 ?_
            refine J_cVi0 E (As := [.int 5]) (c_X5_tell l G a x 5 (by omega)) cl_X5_64 yo_X5_tell dX5_copy_54 rfl rfl rfl (Nat.le_of_ble_eq_true rfl) (Nat.le_of_ble_eq_true rfl) rfl (Nat.le_of_ble_eq_true rfl) ⟨Nat.zero_le _, Nat.zero_le _⟩ ?_
            exact ret _ _ _ _ ⟨rfl, _, rfl, by intro g h2 h6; simp [upG, up3, up3R, h2, h6]⟩ rfl dX5_copy_57
      · skip
        have c_11 := bI_0 c_11
        exact absurd (in3 (by decide)) c_11
  · skip
    refine J_iload_n E dX5_copy_0 rfl 1 rfl ?_
    refine J_cSiN E (As := [.int (nI 0)]) (c_X5_isSheet l G (nI 0) ) cl_X5_202 yo_X5_isSheet dX5_copy_1 rfl (Nat.le_of_ble_eq_true rfl) (Nat.le_of_ble_eq_true rfl) rfl (Nat.le_of_ble_eq_true rfl) ⟨Nat.zero_le _, Nat.zero_le _⟩ ?_
    refine J_if_eq E (tgt := 14) dX5_copy_4 (by decide) (fun c_4 => ?_) (fun c_4 => ?_)
    · skip
      have c_4 := bI_0 c_4
      exact absurd (in3 (by decide)) c_4
    · skip
      have c_4 := bI_1 c_4
      refine J_iload_n E dX5_copy_7 rfl 3 rfl ?_
      refine J_cSiN E (As := [.int (nI 3)]) (c_X5_isSheet l G (nI 3) ) cl_X5_202 yo_X5_isSheet dX5_copy_8 rfl (Nat.le_of_ble_eq_true rfl) (Nat.le_of_ble_eq_true rfl) rfl (Nat.le_of_ble_eq_true rfl) ⟨Nat.zero_le _, Nat.zero_le _⟩ ?_
      refine J_if_ne E (tgt := 20) dX5_copy_11 (by decide) (fun c_11 => ?_) (fun c_11 => ?_)
      · skip
        have c_11 := bI_1 c_11
        refine J_aload_n E dX5_copy_20 rfl 0 rfl ?_
        refine gC0_X5_44 E dX5_copy_21 ?_
        refine J_iload_n E dX5_copy_24 rfl 1 rfl ?_
        refine laC_30_0 E dX5_copy_25 ?_
        refine J_astore E (lv' := [(6, .ref (a 31)), (0, .ref (a 0)), (1, .int (nI 0)), (2, .int f), (3, .int (nI 3)), (4, .int o), (5, .int n)]) dX5_copy_26 (by decide) rfl ?_
        refine J_aload_n E dX5_copy_28 rfl 1 rfl ?_
        refine gC0_X5_44 E dX5_copy_29 ?_
        refine J_iload_n E dX5_copy_32 rfl 4 rfl ?_
        refine laC_30_3 E dX5_copy_33 ?_
        refine J_astore E (lv' := [(7, .ref (a 37)), (6, .ref (a 31)), (0, .ref (a 0)), (1, .int (nI 0)), (2, .int f), (3, .int (nI 3)), (4, .int o), (5, .int n)]) dX5_copy_34 (by decide) rfl ?_
        refine J_aload E dX5_copy_36 1 rfl ?_
        refine J_si8r E (As := []) (c_X2_isMissing l G (sh a 31) (x 8) ) cl_X5_212 yo_X2_isMissing dX5_copy_38 rfl (Nat.le_of_ble_eq_true rfl) (Nat.le_of_ble_eq_true rfl) rfl (Nat.le_of_ble_eq_true rfl) ⟨Nat.zero_le _, Nat.zero_le _⟩ ?_
        refine J_if_ne E (tgt := 52) dX5_copy_41 (by decide) (fun c_41 => ?_) (fun c_41 => ?_)
        · skip
          have c_41 := bI_1 c_41
          refine J_aload_n E dX5_copy_52 rfl 2 rfl ?_
          refine J_iconst E dX5_copy_53 ic_5 ?_
          refine J_cVi0 E (As := [.int 5]) (c_X5_tell l G a x 5 (by omega)) cl_X5_64 yo_X5_tell dX5_copy_54 rfl rfl rfl (Nat.le_of_ble_eq_true rfl) (Nat.le_of_ble_eq_true rfl) rfl (Nat.le_of_ble_eq_true rfl) ⟨Nat.zero_le _, Nat.zero_le _⟩ ?_
          exact ret _ _ _ _ ⟨rfl, _, rfl, by intro g h2 h6; simp [upG, up3, up3R, h2, h6]⟩ rfl dX5_copy_57
        · skip
          have c_41 := bI_0 c_41
          refine J_aload E dX5_copy_44 0 rfl ?_
          refine J_si11r E (As := []) (c_X2_isMissing l G (sh a 37) (x 11) ) cl_X5_212 yo_X2_isMissing dX5_copy_46 rfl (Nat.le_of_ble_eq_true rfl) (Nat.le_of_ble_eq_true rfl) rfl (Nat.le_of_ble_eq_true rfl) ⟨Nat.zero_le _, Nat.zero_le _⟩ ?_
          refine J_if_eq E (tgt := 58) dX5_copy_49 (by decide) (fun c_49 => ?_) (fun c_49 => ?_)
          · skip
            have c_49 := bI_0 c_49
            exact absurd hb (fun z => z.elim c_41 c_49)
          · skip
            have c_49 := bI_1 c_49
            refine J_aload_n E dX5_copy_52 rfl 2 rfl ?_
            refine J_iconst E dX5_copy_53 ic_5 ?_
            refine J_cVi0 E (As := [.int 5]) (c_X5_tell l G a x 5 (by omega)) cl_X5_64 yo_X5_tell dX5_copy_54 rfl rfl rfl (Nat.le_of_ble_eq_true rfl) (Nat.le_of_ble_eq_true rfl) rfl (Nat.le_of_ble_eq_true rfl) ⟨Nat.zero_le _, Nat.zero_le _⟩ ?_
            exact ret _ _ _ _ ⟨rfl, _, rfl, by intro g h2 h6; simp [upG, up3, up3R, h2, h6]⟩ rfl dX5_copy_57
      · skip
        have c_11 := bI_0 c_11
        exact absurd (in3 (by decide)) c_11
  · skip
    refine J_iload_n E dX5_copy_0 rfl 1 rfl ?_
    refine J_cSiN E (As := [.int (nI 1)]) (c_X5_isSheet l G (nI 1) ) cl_X5_202 yo_X5_isSheet dX5_copy_1 rfl (Nat.le_of_ble_eq_true rfl) (Nat.le_of_ble_eq_true rfl) rfl (Nat.le_of_ble_eq_true rfl) ⟨Nat.zero_le _, Nat.zero_le _⟩ ?_
    refine J_if_eq E (tgt := 14) dX5_copy_4 (by decide) (fun c_4 => ?_) (fun c_4 => ?_)
    · skip
      have c_4 := bI_0 c_4
      exact absurd (in3 (by decide)) c_4
    · skip
      have c_4 := bI_1 c_4
      refine J_iload_n E dX5_copy_7 rfl 3 rfl ?_
      refine J_cSiN E (As := [.int (nI 0)]) (c_X5_isSheet l G (nI 0) ) cl_X5_202 yo_X5_isSheet dX5_copy_8 rfl (Nat.le_of_ble_eq_true rfl) (Nat.le_of_ble_eq_true rfl) rfl (Nat.le_of_ble_eq_true rfl) ⟨Nat.zero_le _, Nat.zero_le _⟩ ?_
      refine J_if_ne E (tgt := 20) dX5_copy_11 (by decide) (fun c_11 => ?_) (fun c_11 => ?_)
      · skip
        have c_11 := bI_1 c_11
        refine J_aload_n E dX5_copy_20 rfl 0 rfl ?_
        refine gC0_X5_44 E dX5_copy_21 ?_
        refine J_iload_n E dX5_copy_24 rfl 1 rfl ?_
        refine laC_30_1 E dX5_copy_25 ?_
        refine J_astore E (lv' := [(6, .ref (a 33)), (0, .ref (a 0)), (1, .int (nI 1)), (2, .int f), (3, .int (nI 0)), (4, .int o), (5, .int n)]) dX5_copy_26 (by decide) rfl ?_
        refine J_aload_n E dX5_copy_28 rfl 1 rfl ?_
        refine gC0_X5_44 E dX5_copy_29 ?_
        refine J_iload_n E dX5_copy_32 rfl 4 rfl ?_
        refine laC_30_0 E dX5_copy_33 ?_
        refine J_astore E (lv' := [(7, .ref (a 31)), (6, .ref (a 33)), (0, .ref (a 0)), (1, .int (nI 1)), (2, .int f), (3, .int (nI 0)), (4, .int o), (5, .int n)]) dX5_copy_34 (by decide) rfl ?_
        refine J_aload E dX5_copy_36 1 rfl ?_
        refine J_si9r E (As := []) (c_X2_isMissing l G (sh a 33) (x 9) ) cl_X5_212 yo_X2_isMissing dX5_copy_38 rfl (Nat.le_of_ble_eq_true rfl) (Nat.le_of_ble_eq_true rfl) rfl (Nat.le_of_ble_eq_true rfl) ⟨Nat.zero_le _, Nat.zero_le _⟩ ?_
        refine J_if_ne E (tgt := 52) dX5_copy_41 (by decide) (fun c_41 => ?_) (fun c_41 => ?_)
        · skip
          have c_41 := bI_1 c_41
          refine J_aload_n E dX5_copy_52 rfl 2 rfl ?_
          refine J_iconst E dX5_copy_53 ic_5 ?_
          refine J_cVi0 E (As := [.int 5]) (c_X5_tell l G a x 5 (by omega)) cl_X5_64 yo_X5_tell dX5_copy_54 rfl rfl rfl (Nat.le_of_ble_eq_true rfl) (Nat.le_of_ble_eq_true rfl) rfl (Nat.le_of_ble_eq_true rfl) ⟨Nat.zero_le _, Nat.zero_le _⟩ ?_
          exact ret _ _ _ _ ⟨rfl, _, rfl, by intro g h2 h6; simp [upG, up3, up3R, h2, h6]⟩ rfl dX5_copy_57
        · skip
          have c_41 := bI_0 c_41
          refine J_aload E dX5_copy_44 0 rfl ?_
          refine J_si8r E (As := []) (c_X2_isMissing l G (sh a 31) (x 8) ) cl_X5_212 yo_X2_isMissing dX5_copy_46 rfl (Nat.le_of_ble_eq_true rfl) (Nat.le_of_ble_eq_true rfl) rfl (Nat.le_of_ble_eq_true rfl) ⟨Nat.zero_le _, Nat.zero_le _⟩ ?_
          refine J_if_eq E (tgt := 58) dX5_copy_49 (by decide) (fun c_49 => ?_) (fun c_49 => ?_)
          · skip
            have c_49 := bI_0 c_49
            exact absurd hb (fun z => z.elim c_41 c_49)
          · skip
            have c_49 := bI_1 c_49
            refine J_aload_n E dX5_copy_52 rfl 2 rfl ?_
            refine J_iconst E dX5_copy_53 ic_5 ?_
            refine J_cVi0 E (As := [.int 5]) (c_X5_tell l G a x 5 (by omega)) cl_X5_64 yo_X5_tell dX5_copy_54 rfl rfl rfl (Nat.le_of_ble_eq_true rfl) (Nat.le_of_ble_eq_true rfl) rfl (Nat.le_of_ble_eq_true rfl) ⟨Nat.zero_le _, Nat.zero_le _⟩ ?_
            exact ret _ _ _ _ ⟨rfl, _, rfl, by intro g h2 h6; simp [upG, up3, up3R, h2, h6]⟩ rfl dX5_copy_57
      · skip
        have c_11 := bI_0 c_11
        exact absurd (in3 (by decide)) c_11
  · skip
    refine J_iload_n E dX5_copy_0 rfl 1 rfl ?_
    refine J_cSiN E (As := [.int (nI 1)]) (c_X5_isSheet l G (nI 1) ) cl_X5_202 yo_X5_isSheet dX5_copy_1 rfl (Nat.le_of_ble_eq_true rfl) (Nat.le_of_ble_eq_true rfl) rfl (Nat.le_of_ble_eq_true rfl) ⟨Nat.zero_le _, Nat.zero_le _⟩ ?_
    refine J_if_eq E (tgt := 14) dX5_copy_4 (by decide) (fun c_4 => ?_) (fun c_4 => ?_)
    · skip
      have c_4 := bI_0 c_4
      exact absurd (in3 (by decide)) c_4
    · skip
      have c_4 := bI_1 c_4
      refine J_iload_n E dX5_copy_7 rfl 3 rfl ?_
      refine J_cSiN E (As := [.int (nI 1)]) (c_X5_isSheet l G (nI 1) ) cl_X5_202 yo_X5_isSheet dX5_copy_8 rfl (Nat.le_of_ble_eq_true rfl) (Nat.le_of_ble_eq_true rfl) rfl (Nat.le_of_ble_eq_true rfl) ⟨Nat.zero_le _, Nat.zero_le _⟩ ?_
      refine J_if_ne E (tgt := 20) dX5_copy_11 (by decide) (fun c_11 => ?_) (fun c_11 => ?_)
      · skip
        have c_11 := bI_1 c_11
        refine J_aload_n E dX5_copy_20 rfl 0 rfl ?_
        refine gC0_X5_44 E dX5_copy_21 ?_
        refine J_iload_n E dX5_copy_24 rfl 1 rfl ?_
        refine laC_30_1 E dX5_copy_25 ?_
        refine J_astore E (lv' := [(6, .ref (a 33)), (0, .ref (a 0)), (1, .int (nI 1)), (2, .int f), (3, .int (nI 1)), (4, .int o), (5, .int n)]) dX5_copy_26 (by decide) rfl ?_
        refine J_aload_n E dX5_copy_28 rfl 1 rfl ?_
        refine gC0_X5_44 E dX5_copy_29 ?_
        refine J_iload_n E dX5_copy_32 rfl 4 rfl ?_
        refine laC_30_1 E dX5_copy_33 ?_
        refine J_astore E (lv' := [(7, .ref (a 33)), (6, .ref (a 33)), (0, .ref (a 0)), (1, .int (nI 1)), (2, .int f), (3, .int (nI 1)), (4, .int o), (5, .int n)]) dX5_copy_34 (by decide) rfl ?_
        refine J_aload E dX5_copy_36 1 rfl ?_
        refine J_si9r E (As := []) (c_X2_isMissing l G (sh a 33) (x 9) ) cl_X5_212 yo_X2_isMissing dX5_copy_38 rfl (Nat.le_of_ble_eq_true rfl) (Nat.le_of_ble_eq_true rfl) rfl (Nat.le_of_ble_eq_true rfl) ⟨Nat.zero_le _, Nat.zero_le _⟩ ?_
        refine J_if_ne E (tgt := 52) dX5_copy_41 (by decide) (fun c_41 => ?_) (fun c_41 => ?_)
        · skip
          have c_41 := bI_1 c_41
          refine J_aload_n E dX5_copy_52 rfl 2 rfl ?_
          refine J_iconst E dX5_copy_53 ic_5 ?_
          refine J_cVi0 E (As := [.int 5]) (c_X5_tell l G a x 5 (by omega)) cl_X5_64 yo_X5_tell dX5_copy_54 rfl rfl rfl (Nat.le_of_ble_eq_true rfl) (Nat.le_of_ble_eq_true rfl) rfl (Nat.le_of_ble_eq_true rfl) ⟨Nat.zero_le _, Nat.zero_le _⟩ ?_
          exact ret _ _ _ _ ⟨rfl, _, rfl, by intro g h2 h6; simp [upG, up3, up3R, h2, h6]⟩ rfl dX5_copy_57
        · skip
          have c_41 := bI_0 c_41
          refine J_aload E dX5_copy_44 0 rfl ?_
          refine J_si9r E (As := []) (c_X2_isMissing l G (sh a 33) (x 9) ) cl_X5_212 yo_X2_isMissing dX5_copy_46 rfl (Nat.le_of_ble_eq_true rfl) (Nat.le_of_ble_eq_true rfl) rfl (Nat.le_of_ble_eq_true rfl) ⟨Nat.zero_le _, Nat.zero_le _⟩ ?_
          refine J_if_eq E (tgt := 58) dX5_copy_49 (by decide) (fun c_49 => ?_) (fun c_49 => ?_)
          · skip
            have c_49 := bI_0 c_49
            exact absurd hb (fun z => z.elim c_41 c_49)
          · skip
            have c_49 := bI_1 c_49
            refine J_aload_n E dX5_copy_52 rfl 2 rfl ?_
            refine J_iconst E dX5_copy_53 ic_5 ?_
            refine J_cVi0 E (As := [.int 5]) (c_X5_tell l G a x 5 (by omega)) cl_X5_64 yo_X5_tell dX5_copy_54 rfl rfl rfl (Nat.le_of_ble_eq_true rfl) (Nat.le_of_ble_eq_true rfl) rfl (Nat.le_of_ble_eq_true rfl) ⟨Nat.zero_le _, Nat.zero_le _⟩ ?_
            exact ret _ _ _ _ ⟨rfl, _, rfl, by intro g h2 h6; simp [upG, up3, up3R, h2, h6]⟩ rfl dX5_copy_57
      · skip
        have c_11 := bI_0 c_11
        exact absurd (in3 (by decide)) c_11
  · skip
    refine J_iload_n E dX5_copy_0 rfl 1 rfl ?_
    refine J_cSiN E (As := [.int (nI 1)]) (c_X5_isSheet l G (nI 1) ) cl_X5_202 yo_X5_isSheet dX5_copy_1 rfl (Nat.le_of_ble_eq_true rfl) (Nat.le_of_ble_eq_true rfl) rfl (Nat.le_of_ble_eq_true rfl) ⟨Nat.zero_le _, Nat.zero_le _⟩ ?_
    refine J_if_eq E (tgt := 14) dX5_copy_4 (by decide) (fun c_4 => ?_) (fun c_4 => ?_)
    · skip
      have c_4 := bI_0 c_4
      exact absurd (in3 (by decide)) c_4
    · skip
      have c_4 := bI_1 c_4
      refine J_iload_n E dX5_copy_7 rfl 3 rfl ?_
      refine J_cSiN E (As := [.int (nI 2)]) (c_X5_isSheet l G (nI 2) ) cl_X5_202 yo_X5_isSheet dX5_copy_8 rfl (Nat.le_of_ble_eq_true rfl) (Nat.le_of_ble_eq_true rfl) rfl (Nat.le_of_ble_eq_true rfl) ⟨Nat.zero_le _, Nat.zero_le _⟩ ?_
      refine J_if_ne E (tgt := 20) dX5_copy_11 (by decide) (fun c_11 => ?_) (fun c_11 => ?_)
      · skip
        have c_11 := bI_1 c_11
        refine J_aload_n E dX5_copy_20 rfl 0 rfl ?_
        refine gC0_X5_44 E dX5_copy_21 ?_
        refine J_iload_n E dX5_copy_24 rfl 1 rfl ?_
        refine laC_30_1 E dX5_copy_25 ?_
        refine J_astore E (lv' := [(6, .ref (a 33)), (0, .ref (a 0)), (1, .int (nI 1)), (2, .int f), (3, .int (nI 2)), (4, .int o), (5, .int n)]) dX5_copy_26 (by decide) rfl ?_
        refine J_aload_n E dX5_copy_28 rfl 1 rfl ?_
        refine gC0_X5_44 E dX5_copy_29 ?_
        refine J_iload_n E dX5_copy_32 rfl 4 rfl ?_
        refine laC_30_2 E dX5_copy_33 ?_
        refine J_astore E (lv' := [(7, .ref (a 35)), (6, .ref (a 33)), (0, .ref (a 0)), (1, .int (nI 1)), (2, .int f), (3, .int (nI 2)), (4, .int o), (5, .int n)]) dX5_copy_34 (by decide) rfl ?_
        refine J_aload E dX5_copy_36 1 rfl ?_
        refine J_si9r E (As := []) (c_X2_isMissing l G (sh a 33) (x 9) ) cl_X5_212 yo_X2_isMissing dX5_copy_38 rfl (Nat.le_of_ble_eq_true rfl) (Nat.le_of_ble_eq_true rfl) rfl (Nat.le_of_ble_eq_true rfl) ⟨Nat.zero_le _, Nat.zero_le _⟩ ?_
        refine J_if_ne E (tgt := 52) dX5_copy_41 (by decide) (fun c_41 => ?_) (fun c_41 => ?_)
        · skip
          have c_41 := bI_1 c_41
          refine J_aload_n E dX5_copy_52 rfl 2 rfl ?_
          refine J_iconst E dX5_copy_53 ic_5 ?_
          refine J_cVi0 E (As := [.int 5]) (c_X5_tell l G a x 5 (by omega)) cl_X5_64 yo_X5_tell dX5_copy_54 rfl rfl rfl (Nat.le_of_ble_eq_true rfl) (Nat.le_of_ble_eq_true rfl) rfl (Nat.le_of_ble_eq_true rfl) ⟨Nat.zero_le _, Nat.zero_le _⟩ ?_
          exact ret _ _ _ _ ⟨rfl, _, rfl, by intro g h2 h6; simp [upG, up3, up3R, h2, h6]⟩ rfl dX5_copy_57
        · skip
          have c_41 := bI_0 c_41
          refine J_aload E dX5_copy_44 0 rfl ?_
          refine J_si10r E (As := []) (c_X2_isMissing l G (sh a 35) (x 10) ) cl_X5_212 yo_X2_isMissing dX5_copy_46 rfl (Nat.le_of_ble_eq_true rfl) (Nat.le_of_ble_eq_true rfl) rfl (Nat.le_of_ble_eq_true rfl) ⟨Nat.zero_le _, Nat.zero_le _⟩ ?_
          refine J_if_eq E (tgt := 58) dX5_copy_49 (by decide) (fun c_49 => ?_) (fun c_49 => ?_)
          · skip
            have c_49 := bI_0 c_49
            exact absurd hb (fun z => z.elim c_41 c_49)
          · skip
            have c_49 := bI_1 c_49
            refine J_aload_n E dX5_copy_52 rfl 2 rfl ?_
            refine J_iconst E dX5_copy_53 ic_5 ?_
            refine J_cVi0 E (As := [.int 5]) (c_X5_tell l G a x 5 (by omega)) cl_X5_64 yo_X5_tell dX5_copy_54 rfl rfl rfl (Nat.le_of_ble_eq_true rfl) (Nat.le_of_ble_eq_true rfl) rfl (Nat.le_of_ble_eq_true rfl) ⟨Nat.zero_le _, Nat.zero_le _⟩ ?_
            exact ret _ _ _ _ ⟨rfl, _, rfl, by intro g h2 h6; simp [upG, up3, up3R, h2, h6]⟩ rfl dX5_copy_57
      · skip
        have c_11 := bI_0 c_11
        exact absurd (in3 (by decide)) c_11
  · skip
    refine J_iload_n E dX5_copy_0 rfl 1 rfl ?_
    refine J_cSiN E (As := [.int (nI 1)]) (c_X5_isSheet l G (nI 1) ) cl_X5_202 yo_X5_isSheet dX5_copy_1 rfl (Nat.le_of_ble_eq_true rfl) (Nat.le_of_ble_eq_true rfl) rfl (Nat.le_of_ble_eq_true rfl) ⟨Nat.zero_le _, Nat.zero_le _⟩ ?_
    refine J_if_eq E (tgt := 14) dX5_copy_4 (by decide) (fun c_4 => ?_) (fun c_4 => ?_)
    · skip
      have c_4 := bI_0 c_4
      exact absurd (in3 (by decide)) c_4
    · skip
      have c_4 := bI_1 c_4
      refine J_iload_n E dX5_copy_7 rfl 3 rfl ?_
      refine J_cSiN E (As := [.int (nI 3)]) (c_X5_isSheet l G (nI 3) ) cl_X5_202 yo_X5_isSheet dX5_copy_8 rfl (Nat.le_of_ble_eq_true rfl) (Nat.le_of_ble_eq_true rfl) rfl (Nat.le_of_ble_eq_true rfl) ⟨Nat.zero_le _, Nat.zero_le _⟩ ?_
      refine J_if_ne E (tgt := 20) dX5_copy_11 (by decide) (fun c_11 => ?_) (fun c_11 => ?_)
      · skip
        have c_11 := bI_1 c_11
        refine J_aload_n E dX5_copy_20 rfl 0 rfl ?_
        refine gC0_X5_44 E dX5_copy_21 ?_
        refine J_iload_n E dX5_copy_24 rfl 1 rfl ?_
        refine laC_30_1 E dX5_copy_25 ?_
        refine J_astore E (lv' := [(6, .ref (a 33)), (0, .ref (a 0)), (1, .int (nI 1)), (2, .int f), (3, .int (nI 3)), (4, .int o), (5, .int n)]) dX5_copy_26 (by decide) rfl ?_
        refine J_aload_n E dX5_copy_28 rfl 1 rfl ?_
        refine gC0_X5_44 E dX5_copy_29 ?_
        refine J_iload_n E dX5_copy_32 rfl 4 rfl ?_
        refine laC_30_3 E dX5_copy_33 ?_
        refine J_astore E (lv' := [(7, .ref (a 37)), (6, .ref (a 33)), (0, .ref (a 0)), (1, .int (nI 1)), (2, .int f), (3, .int (nI 3)), (4, .int o), (5, .int n)]) dX5_copy_34 (by decide) rfl ?_
        refine J_aload E dX5_copy_36 1 rfl ?_
        refine J_si9r E (As := []) (c_X2_isMissing l G (sh a 33) (x 9) ) cl_X5_212 yo_X2_isMissing dX5_copy_38 rfl (Nat.le_of_ble_eq_true rfl) (Nat.le_of_ble_eq_true rfl) rfl (Nat.le_of_ble_eq_true rfl) ⟨Nat.zero_le _, Nat.zero_le _⟩ ?_
        refine J_if_ne E (tgt := 52) dX5_copy_41 (by decide) (fun c_41 => ?_) (fun c_41 => ?_)
        · skip
          have c_41 := bI_1 c_41
          refine J_aload_n E dX5_copy_52 rfl 2 rfl ?_
          refine J_iconst E dX5_copy_53 ic_5 ?_
          refine J_cVi0 E (As := [.int 5]) (c_X5_tell l G a x 5 (by omega)) cl_X5_64 yo_X5_tell dX5_copy_54 rfl rfl rfl (Nat.le_of_ble_eq_true rfl) (Nat.le_of_ble_eq_true rfl) rfl (Nat.le_of_ble_eq_true rfl) ⟨Nat.zero_le _, Nat.zero_le _⟩ ?_
          exact ret _ _ _ _ ⟨rfl, _, rfl, by intro g h2 h6; simp [upG, up3, up3R, h2, h6]⟩ rfl dX5_copy_57
        · skip
          have c_41 := bI_0 c_41
          refine J_aload E dX5_copy_44 0 rfl ?_
          refine J_si11r E (As := []) (c_X2_isMissing l G (sh a 37) (x 11) ) cl_X5_212 yo_X2_isMissing dX5_copy_46 rfl (Nat.le_of_ble_eq_true rfl) (Nat.le_of_ble_eq_true rfl) rfl (Nat.le_of_ble_eq_true rfl) ⟨Nat.zero_le _, Nat.zero_le _⟩ ?_
          refine J_if_eq E (tgt := 58) dX5_copy_49 (by decide) (fun c_49 => ?_) (fun c_49 => ?_)
          · skip
            have c_49 := bI_0 c_49
            exact absurd hb (fun z => z.elim c_41 c_49)
          · skip
            have c_49 := bI_1 c_49
            refine J_aload_n E dX5_copy_52 rfl 2 rfl ?_
            refine J_iconst E dX5_copy_53 ic_5 ?_
            refine J_cVi0 E (As := [.int 5]) (c_X5_tell l G a x 5 (by omega)) cl_X5_64 yo_X5_tell dX5_copy_54 rfl rfl rfl (Nat.le_of_ble_eq_true rfl) (Nat.le_of_ble_eq_true rfl) rfl (Nat.le_of_ble_eq_true rfl) ⟨Nat.zero_le _, Nat.zero_le _⟩ ?_
            exact ret _ _ _ _ ⟨rfl, _, rfl, by intro g h2 h6; simp [upG, up3, up3R, h2, h6]⟩ rfl dX5_copy_57
      · skip
        have c_11 := bI_0 c_11
        exact absurd (in3 (by decide)) c_11
  · skip
    refine J_iload_n E dX5_copy_0 rfl 1 rfl ?_
    refine J_cSiN E (As := [.int (nI 2)]) (c_X5_isSheet l G (nI 2) ) cl_X5_202 yo_X5_isSheet dX5_copy_1 rfl (Nat.le_of_ble_eq_true rfl) (Nat.le_of_ble_eq_true rfl) rfl (Nat.le_of_ble_eq_true rfl) ⟨Nat.zero_le _, Nat.zero_le _⟩ ?_
    refine J_if_eq E (tgt := 14) dX5_copy_4 (by decide) (fun c_4 => ?_) (fun c_4 => ?_)
    · skip
      have c_4 := bI_0 c_4
      exact absurd (in3 (by decide)) c_4
    · skip
      have c_4 := bI_1 c_4
      refine J_iload_n E dX5_copy_7 rfl 3 rfl ?_
      refine J_cSiN E (As := [.int (nI 0)]) (c_X5_isSheet l G (nI 0) ) cl_X5_202 yo_X5_isSheet dX5_copy_8 rfl (Nat.le_of_ble_eq_true rfl) (Nat.le_of_ble_eq_true rfl) rfl (Nat.le_of_ble_eq_true rfl) ⟨Nat.zero_le _, Nat.zero_le _⟩ ?_
      refine J_if_ne E (tgt := 20) dX5_copy_11 (by decide) (fun c_11 => ?_) (fun c_11 => ?_)
      · skip
        have c_11 := bI_1 c_11
        refine J_aload_n E dX5_copy_20 rfl 0 rfl ?_
        refine gC0_X5_44 E dX5_copy_21 ?_
        refine J_iload_n E dX5_copy_24 rfl 1 rfl ?_
        refine laC_30_2 E dX5_copy_25 ?_
        refine J_astore E (lv' := [(6, .ref (a 35)), (0, .ref (a 0)), (1, .int (nI 2)), (2, .int f), (3, .int (nI 0)), (4, .int o), (5, .int n)]) dX5_copy_26 (by decide) rfl ?_
        refine J_aload_n E dX5_copy_28 rfl 1 rfl ?_
        refine gC0_X5_44 E dX5_copy_29 ?_
        refine J_iload_n E dX5_copy_32 rfl 4 rfl ?_
        refine laC_30_0 E dX5_copy_33 ?_
        refine J_astore E (lv' := [(7, .ref (a 31)), (6, .ref (a 35)), (0, .ref (a 0)), (1, .int (nI 2)), (2, .int f), (3, .int (nI 0)), (4, .int o), (5, .int n)]) dX5_copy_34 (by decide) rfl ?_
        refine J_aload E dX5_copy_36 1 rfl ?_
        refine J_si10r E (As := []) (c_X2_isMissing l G (sh a 35) (x 10) ) cl_X5_212 yo_X2_isMissing dX5_copy_38 rfl (Nat.le_of_ble_eq_true rfl) (Nat.le_of_ble_eq_true rfl) rfl (Nat.le_of_ble_eq_true rfl) ⟨Nat.zero_le _, Nat.zero_le _⟩ ?_
        refine J_if_ne E (tgt := 52) dX5_copy_41 (by decide) (fun c_41 => ?_) (fun c_41 => ?_)
        · skip
          have c_41 := bI_1 c_41
          refine J_aload_n E dX5_copy_52 rfl 2 rfl ?_
          refine J_iconst E dX5_copy_53 ic_5 ?_
          refine J_cVi0 E (As := [.int 5]) (c_X5_tell l G a x 5 (by omega)) cl_X5_64 yo_X5_tell dX5_copy_54 rfl rfl rfl (Nat.le_of_ble_eq_true rfl) (Nat.le_of_ble_eq_true rfl) rfl (Nat.le_of_ble_eq_true rfl) ⟨Nat.zero_le _, Nat.zero_le _⟩ ?_
          exact ret _ _ _ _ ⟨rfl, _, rfl, by intro g h2 h6; simp [upG, up3, up3R, h2, h6]⟩ rfl dX5_copy_57
        · skip
          have c_41 := bI_0 c_41
          refine J_aload E dX5_copy_44 0 rfl ?_
          refine J_si8r E (As := []) (c_X2_isMissing l G (sh a 31) (x 8) ) cl_X5_212 yo_X2_isMissing dX5_copy_46 rfl (Nat.le_of_ble_eq_true rfl) (Nat.le_of_ble_eq_true rfl) rfl (Nat.le_of_ble_eq_true rfl) ⟨Nat.zero_le _, Nat.zero_le _⟩ ?_
          refine J_if_eq E (tgt := 58) dX5_copy_49 (by decide) (fun c_49 => ?_) (fun c_49 => ?_)
          · skip
            have c_49 := bI_0 c_49
            exact absurd hb (fun z => z.elim c_41 c_49)
          · skip
            have c_49 := bI_1 c_49
            refine J_aload_n E dX5_copy_52 rfl 2 rfl ?_
            refine J_iconst E dX5_copy_53 ic_5 ?_
            refine J_cVi0 E (As := [.int 5]) (c_X5_tell l G a x 5 (by omega)) cl_X5_64 yo_X5_tell dX5_copy_54 rfl rfl rfl (Nat.le_of_ble_eq_true rfl) (Nat.le_of_ble_eq_true rfl) rfl (Nat.le_of_ble_eq_true rfl) ⟨Nat.zero_le _, Nat.zero_le _⟩ ?_
            exact ret _ _ _ _ ⟨rfl, _, rfl, by intro g h2 h6; simp [upG, up3, up3R, h2, h6]⟩ rfl dX5_copy_57
      · skip
        have c_11 := bI_0 c_11
        exact absurd (in3 (by decide)) c_11
  · skip
    refine J_iload_n E dX5_copy_0 rfl 1 rfl ?_
    refine J_cSiN E (As := [.int (nI 2)]) (c_X5_isSheet l G (nI 2) ) cl_X5_202 yo_X5_isSheet dX5_copy_1 rfl (Nat.le_of_ble_eq_true rfl) (Nat.le_of_ble_eq_true rfl) rfl (Nat.le_of_ble_eq_true rfl) ⟨Nat.zero_le _, Nat.zero_le _⟩ ?_
    refine J_if_eq E (tgt := 14) dX5_copy_4 (by decide) (fun c_4 => ?_) (fun c_4 => ?_)
    · skip
      have c_4 := bI_0 c_4
      exact absurd (in3 (by decide)) c_4
    · skip
      have c_4 := bI_1 c_4
      refine J_iload_n E dX5_copy_7 rfl 3 rfl ?_
      refine J_cSiN E (As := [.int (nI 1)]) (c_X5_isSheet l G (nI 1) ) cl_X5_202 yo_X5_isSheet dX5_copy_8 rfl (Nat.le_of_ble_eq_true rfl) (Nat.le_of_ble_eq_true rfl) rfl (Nat.le_of_ble_eq_true rfl) ⟨Nat.zero_le _, Nat.zero_le _⟩ ?_
      refine J_if_ne E (tgt := 20) dX5_copy_11 (by decide) (fun c_11 => ?_) (fun c_11 => ?_)
      · skip
        have c_11 := bI_1 c_11
        refine J_aload_n E dX5_copy_20 rfl 0 rfl ?_
        refine gC0_X5_44 E dX5_copy_21 ?_
        refine J_iload_n E dX5_copy_24 rfl 1 rfl ?_
        refine laC_30_2 E dX5_copy_25 ?_
        refine J_astore E (lv' := [(6, .ref (a 35)), (0, .ref (a 0)), (1, .int (nI 2)), (2, .int f), (3, .int (nI 1)), (4, .int o), (5, .int n)]) dX5_copy_26 (by decide) rfl ?_
        refine J_aload_n E dX5_copy_28 rfl 1 rfl ?_
        refine gC0_X5_44 E dX5_copy_29 ?_
        refine J_iload_n E dX5_copy_32 rfl 4 rfl ?_
        refine laC_30_1 E dX5_copy_33 ?_
        refine J_astore E (lv' := [(7, .ref (a 33)), (6, .ref (a 35)), (0, .ref (a 0)), (1, .int (nI 2)), (2, .int f), (3, .int (nI 1)), (4, .int o), (5, .int n)]) dX5_copy_34 (by decide) rfl ?_
        refine J_aload E dX5_copy_36 1 rfl ?_
        refine J_si10r E (As := []) (c_X2_isMissing l G (sh a 35) (x 10) ) cl_X5_212 yo_X2_isMissing dX5_copy_38 rfl (Nat.le_of_ble_eq_true rfl) (Nat.le_of_ble_eq_true rfl) rfl (Nat.le_of_ble_eq_true rfl) ⟨Nat.zero_le _, Nat.zero_le _⟩ ?_
        refine J_if_ne E (tgt := 52) dX5_copy_41 (by decide) (fun c_41 => ?_) (fun c_41 => ?_)
        · skip
          have c_41 := bI_1 c_41
          refine J_aload_n E dX5_copy_52 rfl 2 rfl ?_
          refine J_iconst E dX5_copy_53 ic_5 ?_
          refine J_cVi0 E (As := [.int 5]) (c_X5_tell l G a x 5 (by omega)) cl_X5_64 yo_X5_tell dX5_copy_54 rfl rfl rfl (Nat.le_of_ble_eq_true rfl) (Nat.le_of_ble_eq_true rfl) rfl (Nat.le_of_ble_eq_true rfl) ⟨Nat.zero_le _, Nat.zero_le _⟩ ?_
          exact ret _ _ _ _ ⟨rfl, _, rfl, by intro g h2 h6; simp [upG, up3, up3R, h2, h6]⟩ rfl dX5_copy_57
        · skip
          have c_41 := bI_0 c_41
          refine J_aload E dX5_copy_44 0 rfl ?_
          refine J_si9r E (As := []) (c_X2_isMissing l G (sh a 33) (x 9) ) cl_X5_212 yo_X2_isMissing dX5_copy_46 rfl (Nat.le_of_ble_eq_true rfl) (Nat.le_of_ble_eq_true rfl) rfl (Nat.le_of_ble_eq_true rfl) ⟨Nat.zero_le _, Nat.zero_le _⟩ ?_
          refine J_if_eq E (tgt := 58) dX5_copy_49 (by decide) (fun c_49 => ?_) (fun c_49 => ?_)
          · skip
            have c_49 := bI_0 c_49
            exact absurd hb (fun z => z.elim c_41 c_49)
          · skip
            have c_49 := bI_1 c_49
            refine J_aload_n E dX5_copy_52 rfl 2 rfl ?_
            refine J_iconst E dX5_copy_53 ic_5 ?_
            refine J_cVi0 E (As := [.int 5]) (c_X5_tell l G a x 5 (by omega)) cl_X5_64 yo_X5_tell dX5_copy_54 rfl rfl rfl (Nat.le_of_ble_eq_true rfl) (Nat.le_of_ble_eq_true rfl) rfl (Nat.le_of_ble_eq_true rfl) ⟨Nat.zero_le _, Nat.zero_le _⟩ ?_
            exact ret _ _ _ _ ⟨rfl, _, rfl, by intro g h2 h6; simp [upG, up3, up3R, h2, h6]⟩ rfl dX5_copy_57
      · skip
        have c_11 := bI_0 c_11
        exact absurd (in3 (by decide)) c_11
  · skip
    refine J_iload_n E dX5_copy_0 rfl 1 rfl ?_
    refine J_cSiN E (As := [.int (nI 2)]) (c_X5_isSheet l G (nI 2) ) cl_X5_202 yo_X5_isSheet dX5_copy_1 rfl (Nat.le_of_ble_eq_true rfl) (Nat.le_of_ble_eq_true rfl) rfl (Nat.le_of_ble_eq_true rfl) ⟨Nat.zero_le _, Nat.zero_le _⟩ ?_
    refine J_if_eq E (tgt := 14) dX5_copy_4 (by decide) (fun c_4 => ?_) (fun c_4 => ?_)
    · skip
      have c_4 := bI_0 c_4
      exact absurd (in3 (by decide)) c_4
    · skip
      have c_4 := bI_1 c_4
      refine J_iload_n E dX5_copy_7 rfl 3 rfl ?_
      refine J_cSiN E (As := [.int (nI 2)]) (c_X5_isSheet l G (nI 2) ) cl_X5_202 yo_X5_isSheet dX5_copy_8 rfl (Nat.le_of_ble_eq_true rfl) (Nat.le_of_ble_eq_true rfl) rfl (Nat.le_of_ble_eq_true rfl) ⟨Nat.zero_le _, Nat.zero_le _⟩ ?_
      refine J_if_ne E (tgt := 20) dX5_copy_11 (by decide) (fun c_11 => ?_) (fun c_11 => ?_)
      · skip
        have c_11 := bI_1 c_11
        refine J_aload_n E dX5_copy_20 rfl 0 rfl ?_
        refine gC0_X5_44 E dX5_copy_21 ?_
        refine J_iload_n E dX5_copy_24 rfl 1 rfl ?_
        refine laC_30_2 E dX5_copy_25 ?_
        refine J_astore E (lv' := [(6, .ref (a 35)), (0, .ref (a 0)), (1, .int (nI 2)), (2, .int f), (3, .int (nI 2)), (4, .int o), (5, .int n)]) dX5_copy_26 (by decide) rfl ?_
        refine J_aload_n E dX5_copy_28 rfl 1 rfl ?_
        refine gC0_X5_44 E dX5_copy_29 ?_
        refine J_iload_n E dX5_copy_32 rfl 4 rfl ?_
        refine laC_30_2 E dX5_copy_33 ?_
        refine J_astore E (lv' := [(7, .ref (a 35)), (6, .ref (a 35)), (0, .ref (a 0)), (1, .int (nI 2)), (2, .int f), (3, .int (nI 2)), (4, .int o), (5, .int n)]) dX5_copy_34 (by decide) rfl ?_
        refine J_aload E dX5_copy_36 1 rfl ?_
        refine J_si10r E (As := []) (c_X2_isMissing l G (sh a 35) (x 10) ) cl_X5_212 yo_X2_isMissing dX5_copy_38 rfl (Nat.le_of_ble_eq_true rfl) (Nat.le_of_ble_eq_true rfl) rfl (Nat.le_of_ble_eq_true rfl) ⟨Nat.zero_le _, Nat.zero_le _⟩ ?_
        refine J_if_ne E (tgt := 52) dX5_copy_41 (by decide) (fun c_41 => ?_) (fun c_41 => ?_)
        · skip
          have c_41 := bI_1 c_41
          refine J_aload_n E dX5_copy_52 rfl 2 rfl ?_
          refine J_iconst E dX5_copy_53 ic_5 ?_
          refine J_cVi0 E (As := [.int 5]) (c_X5_tell l G a x 5 (by omega)) cl_X5_64 yo_X5_tell dX5_copy_54 rfl rfl rfl (Nat.le_of_ble_eq_true rfl) (Nat.le_of_ble_eq_true rfl) rfl (Nat.le_of_ble_eq_true rfl) ⟨Nat.zero_le _, Nat.zero_le _⟩ ?_
          exact ret _ _ _ _ ⟨rfl, _, rfl, by intro g h2 h6; simp [upG, up3, up3R, h2, h6]⟩ rfl dX5_copy_57
        · skip
          have c_41 := bI_0 c_41
          refine J_aload E dX5_copy_44 0 rfl ?_
          refine J_si10r E (As := []) (c_X2_isMissing l G (sh a 35) (x 10) ) cl_X5_212 yo_X2_isMissing dX5_copy_46 rfl (Nat.le_of_ble_eq_true rfl) (Nat.le_of_ble_eq_true rfl) rfl (Nat.le_of_ble_eq_true rfl) ⟨Nat.zero_le _, Nat.zero_le _⟩ ?_
          refine J_if_eq E (tgt := 58) dX5_copy_49 (by decide) (fun c_49 => ?_) (fun c_49 => ?_)
          · skip
            have c_49 := bI_0 c_49
            exact absurd hb (fun z => z.elim c_41 c_49)
          · skip
            have c_49 := bI_1 c_49
            refine J_aload_n E dX5_copy_52 rfl 2 rfl ?_
            refine J_iconst E dX5_copy_53 ic_5 ?_
            refine J_cVi0 E (As := [.int 5]) (c_X5_tell l G a x 5 (by omega)) cl_X5_64 yo_X5_tell dX5_copy_54 rfl rfl rfl (Nat.le_of_ble_eq_true rfl) (Nat.le_of_ble_eq_true rfl) rfl (Nat.le_of_ble_eq_true rfl) ⟨Nat.zero_le _, Nat.zero_le _⟩ ?_
            exact ret _ _ _ _ ⟨rfl, _, rfl, by intro g h2 h6; simp [upG, up3, up3R, h2, h6]⟩ rfl dX5_copy_57
      · skip
        have c_11 := bI_0 c_11
        exact absurd (in3 (by decide)) c_11
  · skip
    refine J_iload_n E dX5_copy_0 rfl 1 rfl ?_
    refine J_cSiN E (As := [.int (nI 2)]) (c_X5_isSheet l G (nI 2) ) cl_X5_202 yo_X5_isSheet dX5_copy_1 rfl (Nat.le_of_ble_eq_true rfl) (Nat.le_of_ble_eq_true rfl) rfl (Nat.le_of_ble_eq_true rfl) ⟨Nat.zero_le _, Nat.zero_le _⟩ ?_
    refine J_if_eq E (tgt := 14) dX5_copy_4 (by decide) (fun c_4 => ?_) (fun c_4 => ?_)
    · skip
      have c_4 := bI_0 c_4
      exact absurd (in3 (by decide)) c_4
    · skip
      have c_4 := bI_1 c_4
      refine J_iload_n E dX5_copy_7 rfl 3 rfl ?_
      refine J_cSiN E (As := [.int (nI 3)]) (c_X5_isSheet l G (nI 3) ) cl_X5_202 yo_X5_isSheet dX5_copy_8 rfl (Nat.le_of_ble_eq_true rfl) (Nat.le_of_ble_eq_true rfl) rfl (Nat.le_of_ble_eq_true rfl) ⟨Nat.zero_le _, Nat.zero_le _⟩ ?_
      refine J_if_ne E (tgt := 20) dX5_copy_11 (by decide) (fun c_11 => ?_) (fun c_11 => ?_)
      · skip
        have c_11 := bI_1 c_11
        refine J_aload_n E dX5_copy_20 rfl 0 rfl ?_
        refine gC0_X5_44 E dX5_copy_21 ?_
        refine J_iload_n E dX5_copy_24 rfl 1 rfl ?_
        refine laC_30_2 E dX5_copy_25 ?_
        refine J_astore E (lv' := [(6, .ref (a 35)), (0, .ref (a 0)), (1, .int (nI 2)), (2, .int f), (3, .int (nI 3)), (4, .int o), (5, .int n)]) dX5_copy_26 (by decide) rfl ?_
        refine J_aload_n E dX5_copy_28 rfl 1 rfl ?_
        refine gC0_X5_44 E dX5_copy_29 ?_
        refine J_iload_n E dX5_copy_32 rfl 4 rfl ?_
        refine laC_30_3 E dX5_copy_33 ?_
        refine J_astore E (lv' := [(7, .ref (a 37)), (6, .ref (a 35)), (0, .ref (a 0)), (1, .int (nI 2)), (2, .int f), (3, .int (nI 3)), (4, .int o), (5, .int n)]) dX5_copy_34 (by decide) rfl ?_
        refine J_aload E dX5_copy_36 1 rfl ?_
        refine J_si10r E (As := []) (c_X2_isMissing l G (sh a 35) (x 10) ) cl_X5_212 yo_X2_isMissing dX5_copy_38 rfl (Nat.le_of_ble_eq_true rfl) (Nat.le_of_ble_eq_true rfl) rfl (Nat.le_of_ble_eq_true rfl) ⟨Nat.zero_le _, Nat.zero_le _⟩ ?_
        refine J_if_ne E (tgt := 52) dX5_copy_41 (by decide) (fun c_41 => ?_) (fun c_41 => ?_)
        · skip
          have c_41 := bI_1 c_41
          refine J_aload_n E dX5_copy_52 rfl 2 rfl ?_
          refine J_iconst E dX5_copy_53 ic_5 ?_
          refine J_cVi0 E (As := [.int 5]) (c_X5_tell l G a x 5 (by omega)) cl_X5_64 yo_X5_tell dX5_copy_54 rfl rfl rfl (Nat.le_of_ble_eq_true rfl) (Nat.le_of_ble_eq_true rfl) rfl (Nat.le_of_ble_eq_true rfl) ⟨Nat.zero_le _, Nat.zero_le _⟩ ?_
          exact ret _ _ _ _ ⟨rfl, _, rfl, by intro g h2 h6; simp [upG, up3, up3R, h2, h6]⟩ rfl dX5_copy_57
        · skip
          have c_41 := bI_0 c_41
          refine J_aload E dX5_copy_44 0 rfl ?_
          refine J_si11r E (As := []) (c_X2_isMissing l G (sh a 37) (x 11) ) cl_X5_212 yo_X2_isMissing dX5_copy_46 rfl (Nat.le_of_ble_eq_true rfl) (Nat.le_of_ble_eq_true rfl) rfl (Nat.le_of_ble_eq_true rfl) ⟨Nat.zero_le _, Nat.zero_le _⟩ ?_
          refine J_if_eq E (tgt := 58) dX5_copy_49 (by decide) (fun c_49 => ?_) (fun c_49 => ?_)
          · skip
            have c_49 := bI_0 c_49
            exact absurd hb (fun z => z.elim c_41 c_49)
          · skip
            have c_49 := bI_1 c_49
            refine J_aload_n E dX5_copy_52 rfl 2 rfl ?_
            refine J_iconst E dX5_copy_53 ic_5 ?_
            refine J_cVi0 E (As := [.int 5]) (c_X5_tell l G a x 5 (by omega)) cl_X5_64 yo_X5_tell dX5_copy_54 rfl rfl rfl (Nat.le_of_ble_eq_true rfl) (Nat.le_of_ble_eq_true rfl) rfl (Nat.le_of_ble_eq_true rfl) ⟨Nat.zero_le _, Nat.zero_le _⟩ ?_
            exact ret _ _ _ _ ⟨rfl, _, rfl, by intro g h2 h6; simp [upG, up3, up3R, h2, h6]⟩ rfl dX5_copy_57
      · skip
        have c_11 := bI_0 c_11
        exact absurd (in3 (by decide)) c_11
  · skip
    refine J_iload_n E dX5_copy_0 rfl 1 rfl ?_
    refine J_cSiN E (As := [.int (nI 3)]) (c_X5_isSheet l G (nI 3) ) cl_X5_202 yo_X5_isSheet dX5_copy_1 rfl (Nat.le_of_ble_eq_true rfl) (Nat.le_of_ble_eq_true rfl) rfl (Nat.le_of_ble_eq_true rfl) ⟨Nat.zero_le _, Nat.zero_le _⟩ ?_
    refine J_if_eq E (tgt := 14) dX5_copy_4 (by decide) (fun c_4 => ?_) (fun c_4 => ?_)
    · skip
      have c_4 := bI_0 c_4
      exact absurd (in3 (by decide)) c_4
    · skip
      have c_4 := bI_1 c_4
      refine J_iload_n E dX5_copy_7 rfl 3 rfl ?_
      refine J_cSiN E (As := [.int (nI 0)]) (c_X5_isSheet l G (nI 0) ) cl_X5_202 yo_X5_isSheet dX5_copy_8 rfl (Nat.le_of_ble_eq_true rfl) (Nat.le_of_ble_eq_true rfl) rfl (Nat.le_of_ble_eq_true rfl) ⟨Nat.zero_le _, Nat.zero_le _⟩ ?_
      refine J_if_ne E (tgt := 20) dX5_copy_11 (by decide) (fun c_11 => ?_) (fun c_11 => ?_)
      · skip
        have c_11 := bI_1 c_11
        refine J_aload_n E dX5_copy_20 rfl 0 rfl ?_
        refine gC0_X5_44 E dX5_copy_21 ?_
        refine J_iload_n E dX5_copy_24 rfl 1 rfl ?_
        refine laC_30_3 E dX5_copy_25 ?_
        refine J_astore E (lv' := [(6, .ref (a 37)), (0, .ref (a 0)), (1, .int (nI 3)), (2, .int f), (3, .int (nI 0)), (4, .int o), (5, .int n)]) dX5_copy_26 (by decide) rfl ?_
        refine J_aload_n E dX5_copy_28 rfl 1 rfl ?_
        refine gC0_X5_44 E dX5_copy_29 ?_
        refine J_iload_n E dX5_copy_32 rfl 4 rfl ?_
        refine laC_30_0 E dX5_copy_33 ?_
        refine J_astore E (lv' := [(7, .ref (a 31)), (6, .ref (a 37)), (0, .ref (a 0)), (1, .int (nI 3)), (2, .int f), (3, .int (nI 0)), (4, .int o), (5, .int n)]) dX5_copy_34 (by decide) rfl ?_
        refine J_aload E dX5_copy_36 1 rfl ?_
        refine J_si11r E (As := []) (c_X2_isMissing l G (sh a 37) (x 11) ) cl_X5_212 yo_X2_isMissing dX5_copy_38 rfl (Nat.le_of_ble_eq_true rfl) (Nat.le_of_ble_eq_true rfl) rfl (Nat.le_of_ble_eq_true rfl) ⟨Nat.zero_le _, Nat.zero_le _⟩ ?_
        refine J_if_ne E (tgt := 52) dX5_copy_41 (by decide) (fun c_41 => ?_) (fun c_41 => ?_)
        · skip
          have c_41 := bI_1 c_41
          refine J_aload_n E dX5_copy_52 rfl 2 rfl ?_
          refine J_iconst E dX5_copy_53 ic_5 ?_
          refine J_cVi0 E (As := [.int 5]) (c_X5_tell l G a x 5 (by omega)) cl_X5_64 yo_X5_tell dX5_copy_54 rfl rfl rfl (Nat.le_of_ble_eq_true rfl) (Nat.le_of_ble_eq_true rfl) rfl (Nat.le_of_ble_eq_true rfl) ⟨Nat.zero_le _, Nat.zero_le _⟩ ?_
          exact ret _ _ _ _ ⟨rfl, _, rfl, by intro g h2 h6; simp [upG, up3, up3R, h2, h6]⟩ rfl dX5_copy_57
        · skip
          have c_41 := bI_0 c_41
          refine J_aload E dX5_copy_44 0 rfl ?_
          refine J_si8r E (As := []) (c_X2_isMissing l G (sh a 31) (x 8) ) cl_X5_212 yo_X2_isMissing dX5_copy_46 rfl (Nat.le_of_ble_eq_true rfl) (Nat.le_of_ble_eq_true rfl) rfl (Nat.le_of_ble_eq_true rfl) ⟨Nat.zero_le _, Nat.zero_le _⟩ ?_
          refine J_if_eq E (tgt := 58) dX5_copy_49 (by decide) (fun c_49 => ?_) (fun c_49 => ?_)
          · skip
            have c_49 := bI_0 c_49
            exact absurd hb (fun z => z.elim c_41 c_49)
          · skip
            have c_49 := bI_1 c_49
            refine J_aload_n E dX5_copy_52 rfl 2 rfl ?_
            refine J_iconst E dX5_copy_53 ic_5 ?_
            refine J_cVi0 E (As := [.int 5]) (c_X5_tell l G a x 5 (by omega)) cl_X5_64 yo_X5_tell dX5_copy_54 rfl rfl rfl (Nat.le_of_ble_eq_true rfl) (Nat.le_of_ble_eq_true rfl) rfl (Nat.le_of_ble_eq_true rfl) ⟨Nat.zero_le _, Nat.zero_le _⟩ ?_
            exact ret _ _ _ _ ⟨rfl, _, rfl, by intro g h2 h6; simp [upG, up3, up3R, h2, h6]⟩ rfl dX5_copy_57
      · skip
        have c_11 := bI_0 c_11
        exact absurd (in3 (by decide)) c_11
  · skip
    refine J_iload_n E dX5_copy_0 rfl 1 rfl ?_
    refine J_cSiN E (As := [.int (nI 3)]) (c_X5_isSheet l G (nI 3) ) cl_X5_202 yo_X5_isSheet dX5_copy_1 rfl (Nat.le_of_ble_eq_true rfl) (Nat.le_of_ble_eq_true rfl) rfl (Nat.le_of_ble_eq_true rfl) ⟨Nat.zero_le _, Nat.zero_le _⟩ ?_
    refine J_if_eq E (tgt := 14) dX5_copy_4 (by decide) (fun c_4 => ?_) (fun c_4 => ?_)
    · skip
      have c_4 := bI_0 c_4
      exact absurd (in3 (by decide)) c_4
    · skip
      have c_4 := bI_1 c_4
      refine J_iload_n E dX5_copy_7 rfl 3 rfl ?_
      refine J_cSiN E (As := [.int (nI 1)]) (c_X5_isSheet l G (nI 1) ) cl_X5_202 yo_X5_isSheet dX5_copy_8 rfl (Nat.le_of_ble_eq_true rfl) (Nat.le_of_ble_eq_true rfl) rfl (Nat.le_of_ble_eq_true rfl) ⟨Nat.zero_le _, Nat.zero_le _⟩ ?_
      refine J_if_ne E (tgt := 20) dX5_copy_11 (by decide) (fun c_11 => ?_) (fun c_11 => ?_)
      · skip
        have c_11 := bI_1 c_11
        refine J_aload_n E dX5_copy_20 rfl 0 rfl ?_
        refine gC0_X5_44 E dX5_copy_21 ?_
        refine J_iload_n E dX5_copy_24 rfl 1 rfl ?_
        refine laC_30_3 E dX5_copy_25 ?_
        refine J_astore E (lv' := [(6, .ref (a 37)), (0, .ref (a 0)), (1, .int (nI 3)), (2, .int f), (3, .int (nI 1)), (4, .int o), (5, .int n)]) dX5_copy_26 (by decide) rfl ?_
        refine J_aload_n E dX5_copy_28 rfl 1 rfl ?_
        refine gC0_X5_44 E dX5_copy_29 ?_
        refine J_iload_n E dX5_copy_32 rfl 4 rfl ?_
        refine laC_30_1 E dX5_copy_33 ?_
        refine J_astore E (lv' := [(7, .ref (a 33)), (6, .ref (a 37)), (0, .ref (a 0)), (1, .int (nI 3)), (2, .int f), (3, .int (nI 1)), (4, .int o), (5, .int n)]) dX5_copy_34 (by decide) rfl ?_
        refine J_aload E dX5_copy_36 1 rfl ?_
        refine J_si11r E (As := []) (c_X2_isMissing l G (sh a 37) (x 11) ) cl_X5_212 yo_X2_isMissing dX5_copy_38 rfl (Nat.le_of_ble_eq_true rfl) (Nat.le_of_ble_eq_true rfl) rfl (Nat.le_of_ble_eq_true rfl) ⟨Nat.zero_le _, Nat.zero_le _⟩ ?_
        refine J_if_ne E (tgt := 52) dX5_copy_41 (by decide) (fun c_41 => ?_) (fun c_41 => ?_)
        · skip
          have c_41 := bI_1 c_41
          refine J_aload_n E dX5_copy_52 rfl 2 rfl ?_
          refine J_iconst E dX5_copy_53 ic_5 ?_
          refine J_cVi0 E (As := [.int 5]) (c_X5_tell l G a x 5 (by omega)) cl_X5_64 yo_X5_tell dX5_copy_54 rfl rfl rfl (Nat.le_of_ble_eq_true rfl) (Nat.le_of_ble_eq_true rfl) rfl (Nat.le_of_ble_eq_true rfl) ⟨Nat.zero_le _, Nat.zero_le _⟩ ?_
          exact ret _ _ _ _ ⟨rfl, _, rfl, by intro g h2 h6; simp [upG, up3, up3R, h2, h6]⟩ rfl dX5_copy_57
        · skip
          have c_41 := bI_0 c_41
          refine J_aload E dX5_copy_44 0 rfl ?_
          refine J_si9r E (As := []) (c_X2_isMissing l G (sh a 33) (x 9) ) cl_X5_212 yo_X2_isMissing dX5_copy_46 rfl (Nat.le_of_ble_eq_true rfl) (Nat.le_of_ble_eq_true rfl) rfl (Nat.le_of_ble_eq_true rfl) ⟨Nat.zero_le _, Nat.zero_le _⟩ ?_
          refine J_if_eq E (tgt := 58) dX5_copy_49 (by decide) (fun c_49 => ?_) (fun c_49 => ?_)
          · skip
            have c_49 := bI_0 c_49
            exact absurd hb (fun z => z.elim c_41 c_49)
          · skip
            have c_49 := bI_1 c_49
            refine J_aload_n E dX5_copy_52 rfl 2 rfl ?_
            refine J_iconst E dX5_copy_53 ic_5 ?_
            refine J_cVi0 E (As := [.int 5]) (c_X5_tell l G a x 5 (by omega)) cl_X5_64 yo_X5_tell dX5_copy_54 rfl rfl rfl (Nat.le_of_ble_eq_true rfl) (Nat.le_of_ble_eq_true rfl) rfl (Nat.le_of_ble_eq_true rfl) ⟨Nat.zero_le _, Nat.zero_le _⟩ ?_
            exact ret _ _ _ _ ⟨rfl, _, rfl, by intro g h2 h6; simp [upG, up3, up3R, h2, h6]⟩ rfl dX5_copy_57
      · skip
        have c_11 := bI_0 c_11
        exact absurd (in3 (by decide)) c_11
  · skip
    refine J_iload_n E dX5_copy_0 rfl 1 rfl ?_
    refine J_cSiN E (As := [.int (nI 3)]) (c_X5_isSheet l G (nI 3) ) cl_X5_202 yo_X5_isSheet dX5_copy_1 rfl (Nat.le_of_ble_eq_true rfl) (Nat.le_of_ble_eq_true rfl) rfl (Nat.le_of_ble_eq_true rfl) ⟨Nat.zero_le _, Nat.zero_le _⟩ ?_
    refine J_if_eq E (tgt := 14) dX5_copy_4 (by decide) (fun c_4 => ?_) (fun c_4 => ?_)
    · skip
      have c_4 := bI_0 c_4
      exact absurd (in3 (by decide)) c_4
    · skip
      have c_4 := bI_1 c_4
      refine J_iload_n E dX5_copy_7 rfl 3 rfl ?_
      refine J_cSiN E (As := [.int (nI 2)]) (c_X5_isSheet l G (nI 2) ) cl_X5_202 yo_X5_isSheet dX5_copy_8 rfl (Nat.le_of_ble_eq_true rfl) (Nat.le_of_ble_eq_true rfl) rfl (Nat.le_of_ble_eq_true rfl) ⟨Nat.zero_le _, Nat.zero_le _⟩ ?_
      refine J_if_ne E (tgt := 20) dX5_copy_11 (by decide) (fun c_11 => ?_) (fun c_11 => ?_)
      · skip
        have c_11 := bI_1 c_11
        refine J_aload_n E dX5_copy_20 rfl 0 rfl ?_
        refine gC0_X5_44 E dX5_copy_21 ?_
        refine J_iload_n E dX5_copy_24 rfl 1 rfl ?_
        refine laC_30_3 E dX5_copy_25 ?_
        refine J_astore E (lv' := [(6, .ref (a 37)), (0, .ref (a 0)), (1, .int (nI 3)), (2, .int f), (3, .int (nI 2)), (4, .int o), (5, .int n)]) dX5_copy_26 (by decide) rfl ?_
        refine J_aload_n E dX5_copy_28 rfl 1 rfl ?_
        refine gC0_X5_44 E dX5_copy_29 ?_
        refine J_iload_n E dX5_copy_32 rfl 4 rfl ?_
        refine laC_30_2 E dX5_copy_33 ?_
        refine J_astore E (lv' := [(7, .ref (a 35)), (6, .ref (a 37)), (0, .ref (a 0)), (1, .int (nI 3)), (2, .int f), (3, .int (nI 2)), (4, .int o), (5, .int n)]) dX5_copy_34 (by decide) rfl ?_
        refine J_aload E dX5_copy_36 1 rfl ?_
        refine J_si11r E (As := []) (c_X2_isMissing l G (sh a 37) (x 11) ) cl_X5_212 yo_X2_isMissing dX5_copy_38 rfl (Nat.le_of_ble_eq_true rfl) (Nat.le_of_ble_eq_true rfl) rfl (Nat.le_of_ble_eq_true rfl) ⟨Nat.zero_le _, Nat.zero_le _⟩ ?_
        refine J_if_ne E (tgt := 52) dX5_copy_41 (by decide) (fun c_41 => ?_) (fun c_41 => ?_)
        · skip
          have c_41 := bI_1 c_41
          refine J_aload_n E dX5_copy_52 rfl 2 rfl ?_
          refine J_iconst E dX5_copy_53 ic_5 ?_
          refine J_cVi0 E (As := [.int 5]) (c_X5_tell l G a x 5 (by omega)) cl_X5_64 yo_X5_tell dX5_copy_54 rfl rfl rfl (Nat.le_of_ble_eq_true rfl) (Nat.le_of_ble_eq_true rfl) rfl (Nat.le_of_ble_eq_true rfl) ⟨Nat.zero_le _, Nat.zero_le _⟩ ?_
          exact ret _ _ _ _ ⟨rfl, _, rfl, by intro g h2 h6; simp [upG, up3, up3R, h2, h6]⟩ rfl dX5_copy_57
        · skip
          have c_41 := bI_0 c_41
          refine J_aload E dX5_copy_44 0 rfl ?_
          refine J_si10r E (As := []) (c_X2_isMissing l G (sh a 35) (x 10) ) cl_X5_212 yo_X2_isMissing dX5_copy_46 rfl (Nat.le_of_ble_eq_true rfl) (Nat.le_of_ble_eq_true rfl) rfl (Nat.le_of_ble_eq_true rfl) ⟨Nat.zero_le _, Nat.zero_le _⟩ ?_
          refine J_if_eq E (tgt := 58) dX5_copy_49 (by decide) (fun c_49 => ?_) (fun c_49 => ?_)
          · skip
            have c_49 := bI_0 c_49
            exact absurd hb (fun z => z.elim c_41 c_49)
          · skip
            have c_49 := bI_1 c_49
            refine J_aload_n E dX5_copy_52 rfl 2 rfl ?_
            refine J_iconst E dX5_copy_53 ic_5 ?_
            refine J_cVi0 E (As := [.int 5]) (c_X5_tell l G a x 5 (by omega)) cl_X5_64 yo_X5_tell dX5_copy_54 rfl rfl rfl (Nat.le_of_ble_eq_true rfl) (Nat.le_of_ble_eq_true rfl) rfl (Nat.le_of_ble_eq_true rfl) ⟨Nat.zero_le _, Nat.zero_le _⟩ ?_
            exact ret _ _ _ _ ⟨rfl, _, rfl, by intro g h2 h6; simp [upG, up3, up3R, h2, h6]⟩ rfl dX5_copy_57
      · skip
        have c_11 := bI_0 c_11
        exact absurd (in3 (by decide)) c_11
  · skip
    refine J_iload_n E dX5_copy_0 rfl 1 rfl ?_
    refine J_cSiN E (As := [.int (nI 3)]) (c_X5_isSheet l G (nI 3) ) cl_X5_202 yo_X5_isSheet dX5_copy_1 rfl (Nat.le_of_ble_eq_true rfl) (Nat.le_of_ble_eq_true rfl) rfl (Nat.le_of_ble_eq_true rfl) ⟨Nat.zero_le _, Nat.zero_le _⟩ ?_
    refine J_if_eq E (tgt := 14) dX5_copy_4 (by decide) (fun c_4 => ?_) (fun c_4 => ?_)
    · skip
      have c_4 := bI_0 c_4
      exact absurd (in3 (by decide)) c_4
    · skip
      have c_4 := bI_1 c_4
      refine J_iload_n E dX5_copy_7 rfl 3 rfl ?_
      refine J_cSiN E (As := [.int (nI 3)]) (c_X5_isSheet l G (nI 3) ) cl_X5_202 yo_X5_isSheet dX5_copy_8 rfl (Nat.le_of_ble_eq_true rfl) (Nat.le_of_ble_eq_true rfl) rfl (Nat.le_of_ble_eq_true rfl) ⟨Nat.zero_le _, Nat.zero_le _⟩ ?_
      refine J_if_ne E (tgt := 20) dX5_copy_11 (by decide) (fun c_11 => ?_) (fun c_11 => ?_)
      · skip
        have c_11 := bI_1 c_11
        refine J_aload_n E dX5_copy_20 rfl 0 rfl ?_
        refine gC0_X5_44 E dX5_copy_21 ?_
        refine J_iload_n E dX5_copy_24 rfl 1 rfl ?_
        refine laC_30_3 E dX5_copy_25 ?_
        refine J_astore E (lv' := [(6, .ref (a 37)), (0, .ref (a 0)), (1, .int (nI 3)), (2, .int f), (3, .int (nI 3)), (4, .int o), (5, .int n)]) dX5_copy_26 (by decide) rfl ?_
        refine J_aload_n E dX5_copy_28 rfl 1 rfl ?_
        refine gC0_X5_44 E dX5_copy_29 ?_
        refine J_iload_n E dX5_copy_32 rfl 4 rfl ?_
        refine laC_30_3 E dX5_copy_33 ?_
        refine J_astore E (lv' := [(7, .ref (a 37)), (6, .ref (a 37)), (0, .ref (a 0)), (1, .int (nI 3)), (2, .int f), (3, .int (nI 3)), (4, .int o), (5, .int n)]) dX5_copy_34 (by decide) rfl ?_
        refine J_aload E dX5_copy_36 1 rfl ?_
        refine J_si11r E (As := []) (c_X2_isMissing l G (sh a 37) (x 11) ) cl_X5_212 yo_X2_isMissing dX5_copy_38 rfl (Nat.le_of_ble_eq_true rfl) (Nat.le_of_ble_eq_true rfl) rfl (Nat.le_of_ble_eq_true rfl) ⟨Nat.zero_le _, Nat.zero_le _⟩ ?_
        refine J_if_ne E (tgt := 52) dX5_copy_41 (by decide) (fun c_41 => ?_) (fun c_41 => ?_)
        · skip
          have c_41 := bI_1 c_41
          refine J_aload_n E dX5_copy_52 rfl 2 rfl ?_
          refine J_iconst E dX5_copy_53 ic_5 ?_
          refine J_cVi0 E (As := [.int 5]) (c_X5_tell l G a x 5 (by omega)) cl_X5_64 yo_X5_tell dX5_copy_54 rfl rfl rfl (Nat.le_of_ble_eq_true rfl) (Nat.le_of_ble_eq_true rfl) rfl (Nat.le_of_ble_eq_true rfl) ⟨Nat.zero_le _, Nat.zero_le _⟩ ?_
          exact ret _ _ _ _ ⟨rfl, _, rfl, by intro g h2 h6; simp [upG, up3, up3R, h2, h6]⟩ rfl dX5_copy_57
        · skip
          have c_41 := bI_0 c_41
          refine J_aload E dX5_copy_44 0 rfl ?_
          refine J_si11r E (As := []) (c_X2_isMissing l G (sh a 37) (x 11) ) cl_X5_212 yo_X2_isMissing dX5_copy_46 rfl (Nat.le_of_ble_eq_true rfl) (Nat.le_of_ble_eq_true rfl) rfl (Nat.le_of_ble_eq_true rfl) ⟨Nat.zero_le _, Nat.zero_le _⟩ ?_
          refine J_if_eq E (tgt := 58) dX5_copy_49 (by decide) (fun c_49 => ?_) (fun c_49 => ?_)
          · skip
            have c_49 := bI_0 c_49
            exact absurd hb (fun z => z.elim c_41 c_49)
          · skip
            have c_49 := bI_1 c_49
            refine J_aload_n E dX5_copy_52 rfl 2 rfl ?_
            refine J_iconst E dX5_copy_53 ic_5 ?_
            refine J_cVi0 E (As := [.int 5]) (c_X5_tell l G a x 5 (by omega)) cl_X5_64 yo_X5_tell dX5_copy_54 rfl rfl rfl (Nat.le_of_ble_eq_true rfl) (Nat.le_of_ble_eq_true rfl) rfl (Nat.le_of_ble_eq_true rfl) ⟨Nat.zero_le _, Nat.zero_le _⟩ ?_
            exact ret _ _ _ _ ⟨rfl, _, rfl, by intro g h2 h6; simp [upG, up3, up3R, h2, h6]⟩ rfl dX5_copy_57
      · skip
        have c_11 := bI_0 c_11
        exact absurd (in3 (by decide)) c_11

set_option maxHeartbeats 4000000 in
set_option maxRecDepth 20000 in
theorem c_X5_copy_kind (l : Launch) (G : GB) (a : Nat → Nat) (x : Q3) (i k : Nat) (f o n : Int32) (hi : i < 4) (hk : k < 4)  (h1 : ¬ x (8 + i) 1 0 = 0) (h2 : ¬ x (8 + k) 1 0 = 0) (h3 : ¬ x (8 + i) 1 0 = x (8 + k) 1 0) : CI l yX5_copy cX5_copy 8 .int 2 41 G [.ref (a 0), .int (nI i), .int f, .int (nI k), .int o, .int n] (wC G a x) (fun vR w' => vR = tellR 2 ∧ PubC G a (tellX x 2) w') := by
  refine CI.mk (own := RX5) (by decide) rfl (Nat.le_of_ble_eq_true rfl) ?_
  intro X E ret
  show J X G 8 0 0 (wC G a x) [(0, .ref (a 0)), (1, .int (nI i)), (2, .int f), (3, .int (nI k)), (4, .int o), (5, .int n)] 0 []
  rcases (show (i = 0 ∧ k = 0) ∨ (i = 0 ∧ k = 1) ∨ (i = 0 ∧ k = 2) ∨ (i = 0 ∧ k = 3) ∨ (i = 1 ∧ k = 0) ∨ (i = 1 ∧ k = 1) ∨ (i = 1 ∧ k = 2) ∨ (i = 1 ∧ k = 3) ∨ (i = 2 ∧ k = 0) ∨ (i = 2 ∧ k = 1) ∨ (i = 2 ∧ k = 2) ∨ (i = 2 ∧ k = 3) ∨ (i = 3 ∧ k = 0) ∨ (i = 3 ∧ k = 1) ∨ (i = 3 ∧ k = 2) ∨ (i = 3 ∧ k = 3) by omega) with ⟨rfl, rfl⟩ | ⟨rfl, rfl⟩ | ⟨rfl, rfl⟩ | ⟨rfl, rfl⟩ | ⟨rfl, rfl⟩ | ⟨rfl, rfl⟩ | ⟨rfl, rfl⟩ | ⟨rfl, rfl⟩ | ⟨rfl, rfl⟩ | ⟨rfl, rfl⟩ | ⟨rfl, rfl⟩ | ⟨rfl, rfl⟩ | ⟨rfl, rfl⟩ | ⟨rfl, rfl⟩ | ⟨rfl, rfl⟩ | ⟨rfl, rfl⟩
  · skip
    refine J_iload_n E dX5_copy_0 rfl 1 rfl ?_
    refine J_cSiN E (As := [.int (nI 0)]) (c_X5_isSheet l G (nI 0) ) cl_X5_202 yo_X5_isSheet dX5_copy_1 rfl (Nat.le_of_ble_eq_true rfl) (Nat.le_of_ble_eq_true rfl) rfl (Nat.le_of_ble_eq_true rfl) ⟨Nat.zero_le _, Nat.zero_le _⟩ ?_
    refine J_if_eq E (tgt := 14) dX5_copy_4 (by decide) (fun c_4 => ?_) (fun c_4 => ?_)
    · skip
      have c_4 := bI_0 c_4
      exact absurd (in3 (by decide)) c_4
    · skip
      have c_4 := bI_1 c_4
      refine J_iload_n E dX5_copy_7 rfl 3 rfl ?_
      refine J_cSiN E (As := [.int (nI 0)]) (c_X5_isSheet l G (nI 0) ) cl_X5_202 yo_X5_isSheet dX5_copy_8 rfl (Nat.le_of_ble_eq_true rfl) (Nat.le_of_ble_eq_true rfl) rfl (Nat.le_of_ble_eq_true rfl) ⟨Nat.zero_le _, Nat.zero_le _⟩ ?_
      refine J_if_ne E (tgt := 20) dX5_copy_11 (by decide) (fun c_11 => ?_) (fun c_11 => ?_)
      · skip
        have c_11 := bI_1 c_11
        refine J_aload_n E dX5_copy_20 rfl 0 rfl ?_
        refine gC0_X5_44 E dX5_copy_21 ?_
        refine J_iload_n E dX5_copy_24 rfl 1 rfl ?_
        refine laC_30_0 E dX5_copy_25 ?_
        refine J_astore E (lv' := [(6, .ref (a 31)), (0, .ref (a 0)), (1, .int (nI 0)), (2, .int f), (3, .int (nI 0)), (4, .int o), (5, .int n)]) dX5_copy_26 (by decide) rfl ?_
        refine J_aload_n E dX5_copy_28 rfl 1 rfl ?_
        refine gC0_X5_44 E dX5_copy_29 ?_
        refine J_iload_n E dX5_copy_32 rfl 4 rfl ?_
        refine laC_30_0 E dX5_copy_33 ?_
        refine J_astore E (lv' := [(7, .ref (a 31)), (6, .ref (a 31)), (0, .ref (a 0)), (1, .int (nI 0)), (2, .int f), (3, .int (nI 0)), (4, .int o), (5, .int n)]) dX5_copy_34 (by decide) rfl ?_
        refine J_aload E dX5_copy_36 1 rfl ?_
        refine J_si8r E (As := []) (c_X2_isMissing l G (sh a 31) (x 8) ) cl_X5_212 yo_X2_isMissing dX5_copy_38 rfl (Nat.le_of_ble_eq_true rfl) (Nat.le_of_ble_eq_true rfl) rfl (Nat.le_of_ble_eq_true rfl) ⟨Nat.zero_le _, Nat.zero_le _⟩ ?_
        refine J_if_ne E (tgt := 52) dX5_copy_41 (by decide) (fun c_41 => ?_) (fun c_41 => ?_)
        · skip
          have c_41 := bI_1 c_41
          exact absurd c_41 h1
        · skip
          have c_41 := bI_0 c_41
          refine J_aload E dX5_copy_44 0 rfl ?_
          refine J_si8r E (As := []) (c_X2_isMissing l G (sh a 31) (x 8) ) cl_X5_212 yo_X2_isMissing dX5_copy_46 rfl (Nat.le_of_ble_eq_true rfl) (Nat.le_of_ble_eq_true rfl) rfl (Nat.le_of_ble_eq_true rfl) ⟨Nat.zero_le _, Nat.zero_le _⟩ ?_
          refine J_if_eq E (tgt := 58) dX5_copy_49 (by decide) (fun c_49 => ?_) (fun c_49 => ?_)
          · skip
            have c_49 := bI_0 c_49
            refine J_aload E dX5_copy_58 1 rfl ?_
            refine gC31_X5_215 E dX5_copy_60 ?_
            refine J_aload E dX5_copy_63 0 rfl ?_
            refine gC31_X5_215 E dX5_copy_65 ?_
            refine J_icmp_eq E (tgt := 77) dX5_copy_68 (by decide) (fun c_68 => ?_) (fun c_68 => ?_)
            · skip
              exact absurd c_68 h3
            · skip
              refine J_aload_n E dX5_copy_71 rfl 2 rfl ?_
              refine J_iconst E dX5_copy_72 ic_2 ?_
              refine J_cVi0 E (As := [.int 2]) (c_X5_tell l G a x 2 (by omega)) cl_X5_64 yo_X5_tell dX5_copy_73 rfl rfl rfl (Nat.le_of_ble_eq_true rfl) (Nat.le_of_ble_eq_true rfl) rfl (Nat.le_of_ble_eq_true rfl) ⟨Nat.zero_le _, Nat.zero_le _⟩ ?_
              exact ret _ _ _ _ ⟨rfl, _, rfl, by intro g h2 h6; simp [upG, up3, up3R, h2, h6]⟩ rfl dX5_copy_76
          · skip
            have c_49 := bI_1 c_49
            exact absurd c_49 h2
      · skip
        have c_11 := bI_0 c_11
        exact absurd (in3 (by decide)) c_11
  · skip
    refine J_iload_n E dX5_copy_0 rfl 1 rfl ?_
    refine J_cSiN E (As := [.int (nI 0)]) (c_X5_isSheet l G (nI 0) ) cl_X5_202 yo_X5_isSheet dX5_copy_1 rfl (Nat.le_of_ble_eq_true rfl) (Nat.le_of_ble_eq_true rfl) rfl (Nat.le_of_ble_eq_true rfl) ⟨Nat.zero_le _, Nat.zero_le _⟩ ?_
    refine J_if_eq E (tgt := 14) dX5_copy_4 (by decide) (fun c_4 => ?_) (fun c_4 => ?_)
    · skip
      have c_4 := bI_0 c_4
      exact absurd (in3 (by decide)) c_4
    · skip
      have c_4 := bI_1 c_4
      refine J_iload_n E dX5_copy_7 rfl 3 rfl ?_
      refine J_cSiN E (As := [.int (nI 1)]) (c_X5_isSheet l G (nI 1) ) cl_X5_202 yo_X5_isSheet dX5_copy_8 rfl (Nat.le_of_ble_eq_true rfl) (Nat.le_of_ble_eq_true rfl) rfl (Nat.le_of_ble_eq_true rfl) ⟨Nat.zero_le _, Nat.zero_le _⟩ ?_
      refine J_if_ne E (tgt := 20) dX5_copy_11 (by decide) (fun c_11 => ?_) (fun c_11 => ?_)
      · skip
        have c_11 := bI_1 c_11
        refine J_aload_n E dX5_copy_20 rfl 0 rfl ?_
        refine gC0_X5_44 E dX5_copy_21 ?_
        refine J_iload_n E dX5_copy_24 rfl 1 rfl ?_
        refine laC_30_0 E dX5_copy_25 ?_
        refine J_astore E (lv' := [(6, .ref (a 31)), (0, .ref (a 0)), (1, .int (nI 0)), (2, .int f), (3, .int (nI 1)), (4, .int o), (5, .int n)]) dX5_copy_26 (by decide) rfl ?_
        refine J_aload_n E dX5_copy_28 rfl 1 rfl ?_
        refine gC0_X5_44 E dX5_copy_29 ?_
        refine J_iload_n E dX5_copy_32 rfl 4 rfl ?_
        refine laC_30_1 E dX5_copy_33 ?_
        refine J_astore E (lv' := [(7, .ref (a 33)), (6, .ref (a 31)), (0, .ref (a 0)), (1, .int (nI 0)), (2, .int f), (3, .int (nI 1)), (4, .int o), (5, .int n)]) dX5_copy_34 (by decide) rfl ?_
        refine J_aload E dX5_copy_36 1 rfl ?_
        refine J_si8r E (As := []) (c_X2_isMissing l G (sh a 31) (x 8) ) cl_X5_212 yo_X2_isMissing dX5_copy_38 rfl (Nat.le_of_ble_eq_true rfl) (Nat.le_of_ble_eq_true rfl) rfl (Nat.le_of_ble_eq_true rfl) ⟨Nat.zero_le _, Nat.zero_le _⟩ ?_
        refine J_if_ne E (tgt := 52) dX5_copy_41 (by decide) (fun c_41 => ?_) (fun c_41 => ?_)
        · skip
          have c_41 := bI_1 c_41
          exact absurd c_41 h1
        · skip
          have c_41 := bI_0 c_41
          refine J_aload E dX5_copy_44 0 rfl ?_
          refine J_si9r E (As := []) (c_X2_isMissing l G (sh a 33) (x 9) ) cl_X5_212 yo_X2_isMissing dX5_copy_46 rfl (Nat.le_of_ble_eq_true rfl) (Nat.le_of_ble_eq_true rfl) rfl (Nat.le_of_ble_eq_true rfl) ⟨Nat.zero_le _, Nat.zero_le _⟩ ?_
          refine J_if_eq E (tgt := 58) dX5_copy_49 (by decide) (fun c_49 => ?_) (fun c_49 => ?_)
          · skip
            have c_49 := bI_0 c_49
            refine J_aload E dX5_copy_58 1 rfl ?_
            refine gC31_X5_215 E dX5_copy_60 ?_
            refine J_aload E dX5_copy_63 0 rfl ?_
            refine gC33_X5_215 E dX5_copy_65 ?_
            refine J_icmp_eq E (tgt := 77) dX5_copy_68 (by decide) (fun c_68 => ?_) (fun c_68 => ?_)
            · skip
              exact absurd c_68 h3
            · skip
              refine J_aload_n E dX5_copy_71 rfl 2 rfl ?_
              refine J_iconst E dX5_copy_72 ic_2 ?_
              refine J_cVi0 E (As := [.int 2]) (c_X5_tell l G a x 2 (by omega)) cl_X5_64 yo_X5_tell dX5_copy_73 rfl rfl rfl (Nat.le_of_ble_eq_true rfl) (Nat.le_of_ble_eq_true rfl) rfl (Nat.le_of_ble_eq_true rfl) ⟨Nat.zero_le _, Nat.zero_le _⟩ ?_
              exact ret _ _ _ _ ⟨rfl, _, rfl, by intro g h2 h6; simp [upG, up3, up3R, h2, h6]⟩ rfl dX5_copy_76
          · skip
            have c_49 := bI_1 c_49
            exact absurd c_49 h2
      · skip
        have c_11 := bI_0 c_11
        exact absurd (in3 (by decide)) c_11
  · skip
    refine J_iload_n E dX5_copy_0 rfl 1 rfl ?_
    refine J_cSiN E (As := [.int (nI 0)]) (c_X5_isSheet l G (nI 0) ) cl_X5_202 yo_X5_isSheet dX5_copy_1 rfl (Nat.le_of_ble_eq_true rfl) (Nat.le_of_ble_eq_true rfl) rfl (Nat.le_of_ble_eq_true rfl) ⟨Nat.zero_le _, Nat.zero_le _⟩ ?_
    refine J_if_eq E (tgt := 14) dX5_copy_4 (by decide) (fun c_4 => ?_) (fun c_4 => ?_)
    · skip
      have c_4 := bI_0 c_4
      exact absurd (in3 (by decide)) c_4
    · skip
      have c_4 := bI_1 c_4
      refine J_iload_n E dX5_copy_7 rfl 3 rfl ?_
      refine J_cSiN E (As := [.int (nI 2)]) (c_X5_isSheet l G (nI 2) ) cl_X5_202 yo_X5_isSheet dX5_copy_8 rfl (Nat.le_of_ble_eq_true rfl) (Nat.le_of_ble_eq_true rfl) rfl (Nat.le_of_ble_eq_true rfl) ⟨Nat.zero_le _, Nat.zero_le _⟩ ?_
      refine J_if_ne E (tgt := 20) dX5_copy_11 (by decide) (fun c_11 => ?_) (fun c_11 => ?_)
      · skip
        have c_11 := bI_1 c_11
        refine J_aload_n E dX5_copy_20 rfl 0 rfl ?_
        refine gC0_X5_44 E dX5_copy_21 ?_
        refine J_iload_n E dX5_copy_24 rfl 1 rfl ?_
        refine laC_30_0 E dX5_copy_25 ?_
        refine J_astore E (lv' := [(6, .ref (a 31)), (0, .ref (a 0)), (1, .int (nI 0)), (2, .int f), (3, .int (nI 2)), (4, .int o), (5, .int n)]) dX5_copy_26 (by decide) rfl ?_
        refine J_aload_n E dX5_copy_28 rfl 1 rfl ?_
        refine gC0_X5_44 E dX5_copy_29 ?_
        refine J_iload_n E dX5_copy_32 rfl 4 rfl ?_
        refine laC_30_2 E dX5_copy_33 ?_
        refine J_astore E (lv' := [(7, .ref (a 35)), (6, .ref (a 31)), (0, .ref (a 0)), (1, .int (nI 0)), (2, .int f), (3, .int (nI 2)), (4, .int o), (5, .int n)]) dX5_copy_34 (by decide) rfl ?_
        refine J_aload E dX5_copy_36 1 rfl ?_
        refine J_si8r E (As := []) (c_X2_isMissing l G (sh a 31) (x 8) ) cl_X5_212 yo_X2_isMissing dX5_copy_38 rfl (Nat.le_of_ble_eq_true rfl) (Nat.le_of_ble_eq_true rfl) rfl (Nat.le_of_ble_eq_true rfl) ⟨Nat.zero_le _, Nat.zero_le _⟩ ?_
        refine J_if_ne E (tgt := 52) dX5_copy_41 (by decide) (fun c_41 => ?_) (fun c_41 => ?_)
        · skip
          have c_41 := bI_1 c_41
          exact absurd c_41 h1
        · skip
          have c_41 := bI_0 c_41
          refine J_aload E dX5_copy_44 0 rfl ?_
          refine J_si10r E (As := []) (c_X2_isMissing l G (sh a 35) (x 10) ) cl_X5_212 yo_X2_isMissing dX5_copy_46 rfl (Nat.le_of_ble_eq_true rfl) (Nat.le_of_ble_eq_true rfl) rfl (Nat.le_of_ble_eq_true rfl) ⟨Nat.zero_le _, Nat.zero_le _⟩ ?_
          refine J_if_eq E (tgt := 58) dX5_copy_49 (by decide) (fun c_49 => ?_) (fun c_49 => ?_)
          · skip
            have c_49 := bI_0 c_49
            refine J_aload E dX5_copy_58 1 rfl ?_
            refine gC31_X5_215 E dX5_copy_60 ?_
            refine J_aload E dX5_copy_63 0 rfl ?_
            refine gC35_X5_215 E dX5_copy_65 ?_
            refine J_icmp_eq E (tgt := 77) dX5_copy_68 (by decide) (fun c_68 => ?_) (fun c_68 => ?_)
            · skip
              exact absurd c_68 h3
            · skip
              refine J_aload_n E dX5_copy_71 rfl 2 rfl ?_
              refine J_iconst E dX5_copy_72 ic_2 ?_
              refine J_cVi0 E (As := [.int 2]) (c_X5_tell l G a x 2 (by omega)) cl_X5_64 yo_X5_tell dX5_copy_73 rfl rfl rfl (Nat.le_of_ble_eq_true rfl) (Nat.le_of_ble_eq_true rfl) rfl (Nat.le_of_ble_eq_true rfl) ⟨Nat.zero_le _, Nat.zero_le _⟩ ?_
              exact ret _ _ _ _ ⟨rfl, _, rfl, by intro g h2 h6; simp [upG, up3, up3R, h2, h6]⟩ rfl dX5_copy_76
          · skip
            have c_49 := bI_1 c_49
            exact absurd c_49 h2
      · skip
        have c_11 := bI_0 c_11
        exact absurd (in3 (by decide)) c_11
  · skip
    refine J_iload_n E dX5_copy_0 rfl 1 rfl ?_
    refine J_cSiN E (As := [.int (nI 0)]) (c_X5_isSheet l G (nI 0) ) cl_X5_202 yo_X5_isSheet dX5_copy_1 rfl (Nat.le_of_ble_eq_true rfl) (Nat.le_of_ble_eq_true rfl) rfl (Nat.le_of_ble_eq_true rfl) ⟨Nat.zero_le _, Nat.zero_le _⟩ ?_
    refine J_if_eq E (tgt := 14) dX5_copy_4 (by decide) (fun c_4 => ?_) (fun c_4 => ?_)
    · skip
      have c_4 := bI_0 c_4
      exact absurd (in3 (by decide)) c_4
    · skip
      have c_4 := bI_1 c_4
      refine J_iload_n E dX5_copy_7 rfl 3 rfl ?_
      refine J_cSiN E (As := [.int (nI 3)]) (c_X5_isSheet l G (nI 3) ) cl_X5_202 yo_X5_isSheet dX5_copy_8 rfl (Nat.le_of_ble_eq_true rfl) (Nat.le_of_ble_eq_true rfl) rfl (Nat.le_of_ble_eq_true rfl) ⟨Nat.zero_le _, Nat.zero_le _⟩ ?_
      refine J_if_ne E (tgt := 20) dX5_copy_11 (by decide) (fun c_11 => ?_) (fun c_11 => ?_)
      · skip
        have c_11 := bI_1 c_11
        refine J_aload_n E dX5_copy_20 rfl 0 rfl ?_
        refine gC0_X5_44 E dX5_copy_21 ?_
        refine J_iload_n E dX5_copy_24 rfl 1 rfl ?_
        refine laC_30_0 E dX5_copy_25 ?_
        refine J_astore E (lv' := [(6, .ref (a 31)), (0, .ref (a 0)), (1, .int (nI 0)), (2, .int f), (3, .int (nI 3)), (4, .int o), (5, .int n)]) dX5_copy_26 (by decide) rfl ?_
        refine J_aload_n E dX5_copy_28 rfl 1 rfl ?_
        refine gC0_X5_44 E dX5_copy_29 ?_
        refine J_iload_n E dX5_copy_32 rfl 4 rfl ?_
        refine laC_30_3 E dX5_copy_33 ?_
        refine J_astore E (lv' := [(7, .ref (a 37)), (6, .ref (a 31)), (0, .ref (a 0)), (1, .int (nI 0)), (2, .int f), (3, .int (nI 3)), (4, .int o), (5, .int n)]) dX5_copy_34 (by decide) rfl ?_
        refine J_aload E dX5_copy_36 1 rfl ?_
        refine J_si8r E (As := []) (c_X2_isMissing l G (sh a 31) (x 8) ) cl_X5_212 yo_X2_isMissing dX5_copy_38 rfl (Nat.le_of_ble_eq_true rfl) (Nat.le_of_ble_eq_true rfl) rfl (Nat.le_of_ble_eq_true rfl) ⟨Nat.zero_le _, Nat.zero_le _⟩ ?_
        refine J_if_ne E (tgt := 52) dX5_copy_41 (by decide) (fun c_41 => ?_) (fun c_41 => ?_)
        · skip
          have c_41 := bI_1 c_41
          exact absurd c_41 h1
        · skip
          have c_41 := bI_0 c_41
          refine J_aload E dX5_copy_44 0 rfl ?_
          refine J_si11r E (As := []) (c_X2_isMissing l G (sh a 37) (x 11) ) cl_X5_212 yo_X2_isMissing dX5_copy_46 rfl (Nat.le_of_ble_eq_true rfl) (Nat.le_of_ble_eq_true rfl) rfl (Nat.le_of_ble_eq_true rfl) ⟨Nat.zero_le _, Nat.zero_le _⟩ ?_
          refine J_if_eq E (tgt := 58) dX5_copy_49 (by decide) (fun c_49 => ?_) (fun c_49 => ?_)
          · skip
            have c_49 := bI_0 c_49
            refine J_aload E dX5_copy_58 1 rfl ?_
            refine gC31_X5_215 E dX5_copy_60 ?_
            refine J_aload E dX5_copy_63 0 rfl ?_
            refine gC37_X5_215 E dX5_copy_65 ?_
            refine J_icmp_eq E (tgt := 77) dX5_copy_68 (by decide) (fun c_68 => ?_) (fun c_68 => ?_)
            · skip
              exact absurd c_68 h3
            · skip
              refine J_aload_n E dX5_copy_71 rfl 2 rfl ?_
              refine J_iconst E dX5_copy_72 ic_2 ?_
              refine J_cVi0 E (As := [.int 2]) (c_X5_tell l G a x 2 (by omega)) cl_X5_64 yo_X5_tell dX5_copy_73 rfl rfl rfl (Nat.le_of_ble_eq_true rfl) (Nat.le_of_ble_eq_true rfl) rfl (Nat.le_of_ble_eq_true rfl) ⟨Nat.zero_le _, Nat.zero_le _⟩ ?_
              exact ret _ _ _ _ ⟨rfl, _, rfl, by intro g h2 h6; simp [upG, up3, up3R, h2, h6]⟩ rfl dX5_copy_76
          · skip
            have c_49 := bI_1 c_49
            exact absurd c_49 h2
      · skip
        have c_11 := bI_0 c_11
        exact absurd (in3 (by decide)) c_11
  · skip
    refine J_iload_n E dX5_copy_0 rfl 1 rfl ?_
    refine J_cSiN E (As := [.int (nI 1)]) (c_X5_isSheet l G (nI 1) ) cl_X5_202 yo_X5_isSheet dX5_copy_1 rfl (Nat.le_of_ble_eq_true rfl) (Nat.le_of_ble_eq_true rfl) rfl (Nat.le_of_ble_eq_true rfl) ⟨Nat.zero_le _, Nat.zero_le _⟩ ?_
    refine J_if_eq E (tgt := 14) dX5_copy_4 (by decide) (fun c_4 => ?_) (fun c_4 => ?_)
    · skip
      have c_4 := bI_0 c_4
      exact absurd (in3 (by decide)) c_4
    · skip
      have c_4 := bI_1 c_4
      refine J_iload_n E dX5_copy_7 rfl 3 rfl ?_
      refine J_cSiN E (As := [.int (nI 0)]) (c_X5_isSheet l G (nI 0) ) cl_X5_202 yo_X5_isSheet dX5_copy_8 rfl (Nat.le_of_ble_eq_true rfl) (Nat.le_of_ble_eq_true rfl) rfl (Nat.le_of_ble_eq_true rfl) ⟨Nat.zero_le _, Nat.zero_le _⟩ ?_
      refine J_if_ne E (tgt := 20) dX5_copy_11 (by decide) (fun c_11 => ?_) (fun c_11 => ?_)
      · skip
        have c_11 := bI_1 c_11
        refine J_aload_n E dX5_copy_20 rfl 0 rfl ?_
        refine gC0_X5_44 E dX5_copy_21 ?_
        refine J_iload_n E dX5_copy_24 rfl 1 rfl ?_
        refine laC_30_1 E dX5_copy_25 ?_
        refine J_astore E (lv' := [(6, .ref (a 33)), (0, .ref (a 0)), (1, .int (nI 1)), (2, .int f), (3, .int (nI 0)), (4, .int o), (5, .int n)]) dX5_copy_26 (by decide) rfl ?_
        refine J_aload_n E dX5_copy_28 rfl 1 rfl ?_
        refine gC0_X5_44 E dX5_copy_29 ?_
        refine J_iload_n E dX5_copy_32 rfl 4 rfl ?_
        refine laC_30_0 E dX5_copy_33 ?_
        refine J_astore E (lv' := [(7, .ref (a 31)), (6, .ref (a 33)), (0, .ref (a 0)), (1, .int (nI 1)), (2, .int f), (3, .int (nI 0)), (4, .int o), (5, .int n)]) dX5_copy_34 (by decide) rfl ?_
        refine J_aload E dX5_copy_36 1 rfl ?_
        refine J_si9r E (As := []) (c_X2_isMissing l G (sh a 33) (x 9) ) cl_X5_212 yo_X2_isMissing dX5_copy_38 rfl (Nat.le_of_ble_eq_true rfl) (Nat.le_of_ble_eq_true rfl) rfl (Nat.le_of_ble_eq_true rfl) ⟨Nat.zero_le _, Nat.zero_le _⟩ ?_
        refine J_if_ne E (tgt := 52) dX5_copy_41 (by decide) (fun c_41 => ?_) (fun c_41 => ?_)
        · skip
          have c_41 := bI_1 c_41
          exact absurd c_41 h1
        · skip
          have c_41 := bI_0 c_41
          refine J_aload E dX5_copy_44 0 rfl ?_
          refine J_si8r E (As := []) (c_X2_isMissing l G (sh a 31) (x 8) ) cl_X5_212 yo_X2_isMissing dX5_copy_46 rfl (Nat.le_of_ble_eq_true rfl) (Nat.le_of_ble_eq_true rfl) rfl (Nat.le_of_ble_eq_true rfl) ⟨Nat.zero_le _, Nat.zero_le _⟩ ?_
          refine J_if_eq E (tgt := 58) dX5_copy_49 (by decide) (fun c_49 => ?_) (fun c_49 => ?_)
          · skip
            have c_49 := bI_0 c_49
            refine J_aload E dX5_copy_58 1 rfl ?_
            refine gC33_X5_215 E dX5_copy_60 ?_
            refine J_aload E dX5_copy_63 0 rfl ?_
            refine gC31_X5_215 E dX5_copy_65 ?_
            refine J_icmp_eq E (tgt := 77) dX5_copy_68 (by decide) (fun c_68 => ?_) (fun c_68 => ?_)
            · skip
              exact absurd c_68 h3
            · skip
              refine J_aload_n E dX5_copy_71 rfl 2 rfl ?_
              refine J_iconst E dX5_copy_72 ic_2 ?_
              refine J_cVi0 E (As := [.int 2]) (c_X5_tell l G a x 2 (by omega)) cl_X5_64 yo_X5_tell dX5_copy_73 rfl rfl rfl (Nat.le_of_ble_eq_true rfl) (Nat.le_of_ble_eq_true rfl) rfl (Nat.le_of_ble_eq_true rfl) ⟨Nat.zero_le _, Nat.zero_le _⟩ ?_
              exact ret _ _ _ _ ⟨rfl, _, rfl, by intro g h2 h6; simp [upG, up3, up3R, h2, h6]⟩ rfl dX5_copy_76
          · skip
            have c_49 := bI_1 c_49
            exact absurd c_49 h2
      · skip
        have c_11 := bI_0 c_11
        exact absurd (in3 (by decide)) c_11
  · skip
    refine J_iload_n E dX5_copy_0 rfl 1 rfl ?_
    refine J_cSiN E (As := [.int (nI 1)]) (c_X5_isSheet l G (nI 1) ) cl_X5_202 yo_X5_isSheet dX5_copy_1 rfl (Nat.le_of_ble_eq_true rfl) (Nat.le_of_ble_eq_true rfl) rfl (Nat.le_of_ble_eq_true rfl) ⟨Nat.zero_le _, Nat.zero_le _⟩ ?_
    refine J_if_eq E (tgt := 14) dX5_copy_4 (by decide) (fun c_4 => ?_) (fun c_4 => ?_)
    · skip
      have c_4 := bI_0 c_4
      exact absurd (in3 (by decide)) c_4
    · skip
      have c_4 := bI_1 c_4
      refine J_iload_n E dX5_copy_7 rfl 3 rfl ?_
      refine J_cSiN E (As := [.int (nI 1)]) (c_X5_isSheet l G (nI 1) ) cl_X5_202 yo_X5_isSheet dX5_copy_8 rfl (Nat.le_of_ble_eq_true rfl) (Nat.le_of_ble_eq_true rfl) rfl (Nat.le_of_ble_eq_true rfl) ⟨Nat.zero_le _, Nat.zero_le _⟩ ?_
      refine J_if_ne E (tgt := 20) dX5_copy_11 (by decide) (fun c_11 => ?_) (fun c_11 => ?_)
      · skip
        have c_11 := bI_1 c_11
        refine J_aload_n E dX5_copy_20 rfl 0 rfl ?_
        refine gC0_X5_44 E dX5_copy_21 ?_
        refine J_iload_n E dX5_copy_24 rfl 1 rfl ?_
        refine laC_30_1 E dX5_copy_25 ?_
        refine J_astore E (lv' := [(6, .ref (a 33)), (0, .ref (a 0)), (1, .int (nI 1)), (2, .int f), (3, .int (nI 1)), (4, .int o), (5, .int n)]) dX5_copy_26 (by decide) rfl ?_
        refine J_aload_n E dX5_copy_28 rfl 1 rfl ?_
        refine gC0_X5_44 E dX5_copy_29 ?_
        refine J_iload_n E dX5_copy_32 rfl 4 rfl ?_
        refine laC_30_1 E dX5_copy_33 ?_
        refine J_astore E (lv' := [(7, .ref (a 33)), (6, .ref (a 33)), (0, .ref (a 0)), (1, .int (nI 1)), (2, .int f), (3, .int (nI 1)), (4, .int o), (5, .int n)]) dX5_copy_34 (by decide) rfl ?_
        refine J_aload E dX5_copy_36 1 rfl ?_
        refine J_si9r E (As := []) (c_X2_isMissing l G (sh a 33) (x 9) ) cl_X5_212 yo_X2_isMissing dX5_copy_38 rfl (Nat.le_of_ble_eq_true rfl) (Nat.le_of_ble_eq_true rfl) rfl (Nat.le_of_ble_eq_true rfl) ⟨Nat.zero_le _, Nat.zero_le _⟩ ?_
        refine J_if_ne E (tgt := 52) dX5_copy_41 (by decide) (fun c_41 => ?_) (fun c_41 => ?_)
        · skip
          have c_41 := bI_1 c_41
          exact absurd c_41 h1
        · skip
          have c_41 := bI_0 c_41
          refine J_aload E dX5_copy_44 0 rfl ?_
          refine J_si9r E (As := []) (c_X2_isMissing l G (sh a 33) (x 9) ) cl_X5_212 yo_X2_isMissing dX5_copy_46 rfl (Nat.le_of_ble_eq_true rfl) (Nat.le_of_ble_eq_true rfl) rfl (Nat.le_of_ble_eq_true rfl) ⟨Nat.zero_le _, Nat.zero_le _⟩ ?_
          refine J_if_eq E (tgt := 58) dX5_copy_49 (by decide) (fun c_49 => ?_) (fun c_49 => ?_)
          · skip
            have c_49 := bI_0 c_49
            refine J_aload E dX5_copy_58 1 rfl ?_
            refine gC33_X5_215 E dX5_copy_60 ?_
            refine J_aload E dX5_copy_63 0 rfl ?_
            refine gC33_X5_215 E dX5_copy_65 ?_
            refine J_icmp_eq E (tgt := 77) dX5_copy_68 (by decide) (fun c_68 => ?_) (fun c_68 => ?_)
            · skip
              exact absurd c_68 h3
            · skip
              refine J_aload_n E dX5_copy_71 rfl 2 rfl ?_
              refine J_iconst E dX5_copy_72 ic_2 ?_
              refine J_cVi0 E (As := [.int 2]) (c_X5_tell l G a x 2 (by omega)) cl_X5_64 yo_X5_tell dX5_copy_73 rfl rfl rfl (Nat.le_of_ble_eq_true rfl) (Nat.le_of_ble_eq_true rfl) rfl (Nat.le_of_ble_eq_true rfl) ⟨Nat.zero_le _, Nat.zero_le _⟩ ?_
              exact ret _ _ _ _ ⟨rfl, _, rfl, by intro g h2 h6; simp [upG, up3, up3R, h2, h6]⟩ rfl dX5_copy_76
          · skip
            have c_49 := bI_1 c_49
            exact absurd c_49 h2
      · skip
        have c_11 := bI_0 c_11
        exact absurd (in3 (by decide)) c_11
  · skip
    refine J_iload_n E dX5_copy_0 rfl 1 rfl ?_
    refine J_cSiN E (As := [.int (nI 1)]) (c_X5_isSheet l G (nI 1) ) cl_X5_202 yo_X5_isSheet dX5_copy_1 rfl (Nat.le_of_ble_eq_true rfl) (Nat.le_of_ble_eq_true rfl) rfl (Nat.le_of_ble_eq_true rfl) ⟨Nat.zero_le _, Nat.zero_le _⟩ ?_
    refine J_if_eq E (tgt := 14) dX5_copy_4 (by decide) (fun c_4 => ?_) (fun c_4 => ?_)
    · skip
      have c_4 := bI_0 c_4
      exact absurd (in3 (by decide)) c_4
    · skip
      have c_4 := bI_1 c_4
      refine J_iload_n E dX5_copy_7 rfl 3 rfl ?_
      refine J_cSiN E (As := [.int (nI 2)]) (c_X5_isSheet l G (nI 2) ) cl_X5_202 yo_X5_isSheet dX5_copy_8 rfl (Nat.le_of_ble_eq_true rfl) (Nat.le_of_ble_eq_true rfl) rfl (Nat.le_of_ble_eq_true rfl) ⟨Nat.zero_le _, Nat.zero_le _⟩ ?_
      refine J_if_ne E (tgt := 20) dX5_copy_11 (by decide) (fun c_11 => ?_) (fun c_11 => ?_)
      · skip
        have c_11 := bI_1 c_11
        refine J_aload_n E dX5_copy_20 rfl 0 rfl ?_
        refine gC0_X5_44 E dX5_copy_21 ?_
        refine J_iload_n E dX5_copy_24 rfl 1 rfl ?_
        refine laC_30_1 E dX5_copy_25 ?_
        refine J_astore E (lv' := [(6, .ref (a 33)), (0, .ref (a 0)), (1, .int (nI 1)), (2, .int f), (3, .int (nI 2)), (4, .int o), (5, .int n)]) dX5_copy_26 (by decide) rfl ?_
        refine J_aload_n E dX5_copy_28 rfl 1 rfl ?_
        refine gC0_X5_44 E dX5_copy_29 ?_
        refine J_iload_n E dX5_copy_32 rfl 4 rfl ?_
        refine laC_30_2 E dX5_copy_33 ?_
        refine J_astore E (lv' := [(7, .ref (a 35)), (6, .ref (a 33)), (0, .ref (a 0)), (1, .int (nI 1)), (2, .int f), (3, .int (nI 2)), (4, .int o), (5, .int n)]) dX5_copy_34 (by decide) rfl ?_
        refine J_aload E dX5_copy_36 1 rfl ?_
        refine J_si9r E (As := []) (c_X2_isMissing l G (sh a 33) (x 9) ) cl_X5_212 yo_X2_isMissing dX5_copy_38 rfl (Nat.le_of_ble_eq_true rfl) (Nat.le_of_ble_eq_true rfl) rfl (Nat.le_of_ble_eq_true rfl) ⟨Nat.zero_le _, Nat.zero_le _⟩ ?_
        refine J_if_ne E (tgt := 52) dX5_copy_41 (by decide) (fun c_41 => ?_) (fun c_41 => ?_)
        · skip
          have c_41 := bI_1 c_41
          exact absurd c_41 h1
        · skip
          have c_41 := bI_0 c_41
          refine J_aload E dX5_copy_44 0 rfl ?_
          refine J_si10r E (As := []) (c_X2_isMissing l G (sh a 35) (x 10) ) cl_X5_212 yo_X2_isMissing dX5_copy_46 rfl (Nat.le_of_ble_eq_true rfl) (Nat.le_of_ble_eq_true rfl) rfl (Nat.le_of_ble_eq_true rfl) ⟨Nat.zero_le _, Nat.zero_le _⟩ ?_
          refine J_if_eq E (tgt := 58) dX5_copy_49 (by decide) (fun c_49 => ?_) (fun c_49 => ?_)
          · skip
            have c_49 := bI_0 c_49
            refine J_aload E dX5_copy_58 1 rfl ?_
            refine gC33_X5_215 E dX5_copy_60 ?_
            refine J_aload E dX5_copy_63 0 rfl ?_
            refine gC35_X5_215 E dX5_copy_65 ?_
            refine J_icmp_eq E (tgt := 77) dX5_copy_68 (by decide) (fun c_68 => ?_) (fun c_68 => ?_)
            · skip
              exact absurd c_68 h3
            · skip
              refine J_aload_n E dX5_copy_71 rfl 2 rfl ?_
              refine J_iconst E dX5_copy_72 ic_2 ?_
              refine J_cVi0 E (As := [.int 2]) (c_X5_tell l G a x 2 (by omega)) cl_X5_64 yo_X5_tell dX5_copy_73 rfl rfl rfl (Nat.le_of_ble_eq_true rfl) (Nat.le_of_ble_eq_true rfl) rfl (Nat.le_of_ble_eq_true rfl) ⟨Nat.zero_le _, Nat.zero_le _⟩ ?_
              exact ret _ _ _ _ ⟨rfl, _, rfl, by intro g h2 h6; simp [upG, up3, up3R, h2, h6]⟩ rfl dX5_copy_76
          · skip
            have c_49 := bI_1 c_49
            exact absurd c_49 h2
      · skip
        have c_11 := bI_0 c_11
        exact absurd (in3 (by decide)) c_11
  · skip
    refine J_iload_n E dX5_copy_0 rfl 1 rfl ?_
    refine J_cSiN E (As := [.int (nI 1)]) (c_X5_isSheet l G (nI 1) ) cl_X5_202 yo_X5_isSheet dX5_copy_1 rfl (Nat.le_of_ble_eq_true rfl) (Nat.le_of_ble_eq_true rfl) rfl (Nat.le_of_ble_eq_true rfl) ⟨Nat.zero_le _, Nat.zero_le _⟩ ?_
    refine J_if_eq E (tgt := 14) dX5_copy_4 (by decide) (fun c_4 => ?_) (fun c_4 => ?_)
    · skip
      have c_4 := bI_0 c_4
      exact absurd (in3 (by decide)) c_4
    · skip
      have c_4 := bI_1 c_4
      refine J_iload_n E dX5_copy_7 rfl 3 rfl ?_
      refine J_cSiN E (As := [.int (nI 3)]) (c_X5_isSheet l G (nI 3) ) cl_X5_202 yo_X5_isSheet dX5_copy_8 rfl (Nat.le_of_ble_eq_true rfl) (Nat.le_of_ble_eq_true rfl) rfl (Nat.le_of_ble_eq_true rfl) ⟨Nat.zero_le _, Nat.zero_le _⟩ ?_
      refine J_if_ne E (tgt := 20) dX5_copy_11 (by decide) (fun c_11 => ?_) (fun c_11 => ?_)
      · skip
        have c_11 := bI_1 c_11
        refine J_aload_n E dX5_copy_20 rfl 0 rfl ?_
        refine gC0_X5_44 E dX5_copy_21 ?_
        refine J_iload_n E dX5_copy_24 rfl 1 rfl ?_
        refine laC_30_1 E dX5_copy_25 ?_
        refine J_astore E (lv' := [(6, .ref (a 33)), (0, .ref (a 0)), (1, .int (nI 1)), (2, .int f), (3, .int (nI 3)), (4, .int o), (5, .int n)]) dX5_copy_26 (by decide) rfl ?_
        refine J_aload_n E dX5_copy_28 rfl 1 rfl ?_
        refine gC0_X5_44 E dX5_copy_29 ?_
        refine J_iload_n E dX5_copy_32 rfl 4 rfl ?_
        refine laC_30_3 E dX5_copy_33 ?_
        refine J_astore E (lv' := [(7, .ref (a 37)), (6, .ref (a 33)), (0, .ref (a 0)), (1, .int (nI 1)), (2, .int f), (3, .int (nI 3)), (4, .int o), (5, .int n)]) dX5_copy_34 (by decide) rfl ?_
        refine J_aload E dX5_copy_36 1 rfl ?_
        refine J_si9r E (As := []) (c_X2_isMissing l G (sh a 33) (x 9) ) cl_X5_212 yo_X2_isMissing dX5_copy_38 rfl (Nat.le_of_ble_eq_true rfl) (Nat.le_of_ble_eq_true rfl) rfl (Nat.le_of_ble_eq_true rfl) ⟨Nat.zero_le _, Nat.zero_le _⟩ ?_
        refine J_if_ne E (tgt := 52) dX5_copy_41 (by decide) (fun c_41 => ?_) (fun c_41 => ?_)
        · skip
          have c_41 := bI_1 c_41
          exact absurd c_41 h1
        · skip
          have c_41 := bI_0 c_41
          refine J_aload E dX5_copy_44 0 rfl ?_
          refine J_si11r E (As := []) (c_X2_isMissing l G (sh a 37) (x 11) ) cl_X5_212 yo_X2_isMissing dX5_copy_46 rfl (Nat.le_of_ble_eq_true rfl) (Nat.le_of_ble_eq_true rfl) rfl (Nat.le_of_ble_eq_true rfl) ⟨Nat.zero_le _, Nat.zero_le _⟩ ?_
          refine J_if_eq E (tgt := 58) dX5_copy_49 (by decide) (fun c_49 => ?_) (fun c_49 => ?_)
          · skip
            have c_49 := bI_0 c_49
            refine J_aload E dX5_copy_58 1 rfl ?_
            refine gC33_X5_215 E dX5_copy_60 ?_
            refine J_aload E dX5_copy_63 0 rfl ?_
            refine gC37_X5_215 E dX5_copy_65 ?_
            refine J_icmp_eq E (tgt := 77) dX5_copy_68 (by decide) (fun c_68 => ?_) (fun c_68 => ?_)
            · skip
              exact absurd c_68 h3
            · skip
              refine J_aload_n E dX5_copy_71 rfl 2 rfl ?_
              refine J_iconst E dX5_copy_72 ic_2 ?_
              refine J_cVi0 E (As := [.int 2]) (c_X5_tell l G a x 2 (by omega)) cl_X5_64 yo_X5_tell dX5_copy_73 rfl rfl rfl (Nat.le_of_ble_eq_true rfl) (Nat.le_of_ble_eq_true rfl) rfl (Nat.le_of_ble_eq_true rfl) ⟨Nat.zero_le _, Nat.zero_le _⟩ ?_
              exact ret _ _ _ _ ⟨rfl, _, rfl, by intro g h2 h6; simp [upG, up3, up3R, h2, h6]⟩ rfl dX5_copy_76
          · skip
            have c_49 := bI_1 c_49
            exact absurd c_49 h2
      · skip
        have c_11 := bI_0 c_11
        exact absurd (in3 (by decide)) c_11
  · skip
    refine J_iload_n E dX5_copy_0 rfl 1 rfl ?_
    refine J_cSiN E (As := [.int (nI 2)]) (c_X5_isSheet l G (nI 2) ) cl_X5_202 yo_X5_isSheet dX5_copy_1 rfl (Nat.le_of_ble_eq_true rfl) (Nat.le_of_ble_eq_true rfl) rfl (Nat.le_of_ble_eq_true rfl) ⟨Nat.zero_le _, Nat.zero_le _⟩ ?_
    refine J_if_eq E (tgt := 14) dX5_copy_4 (by decide) (fun c_4 => ?_) (fun c_4 => ?_)
    · skip
      have c_4 := bI_0 c_4
      exact absurd (in3 (by decide)) c_4
    · skip
      have c_4 := bI_1 c_4
      refine J_iload_n E dX5_copy_7 rfl 3 rfl ?_
      refine J_cSiN E (As := [.int (nI 0)]) (c_X5_isSheet l G (nI 0) ) cl_X5_202 yo_X5_isSheet dX5_copy_8 rfl (Nat.le_of_ble_eq_true rfl) (Nat.le_of_ble_eq_true rfl) rfl (Nat.le_of_ble_eq_true rfl) ⟨Nat.zero_le _, Nat.zero_le _⟩ ?_
      refine J_if_ne E (tgt := 20) dX5_copy_11 (by decide) (fun c_11 => ?_) (fun c_11 => ?_)
      · skip
        have c_11 := bI_1 c_11
        refine J_aload_n E dX5_copy_20 rfl 0 rfl ?_
        refine gC0_X5_44 E dX5_copy_21 ?_
        refine J_iload_n E dX5_copy_24 rfl 1 rfl ?_
        refine laC_30_2 E dX5_copy_25 ?_
        refine J_astore E (lv' := [(6, .ref (a 35)), (0, .ref (a 0)), (1, .int (nI 2)), (2, .int f), (3, .int (nI 0)), (4, .int o), (5, .int n)]) dX5_copy_26 (by decide) rfl ?_
        refine J_aload_n E dX5_copy_28 rfl 1 rfl ?_
        refine gC0_X5_44 E dX5_copy_29 ?_
        refine J_iload_n E dX5_copy_32 rfl 4 rfl ?_
        refine laC_30_0 E dX5_copy_33 ?_
        refine J_astore E (lv' := [(7, .ref (a 31)), (6, .ref (a 35)), (0, .ref (a 0)), (1, .int (nI 2)), (2, .int f), (3, .int (nI 0)), (4, .int o), (5, .int n)]) dX5_copy_34 (by decide) rfl ?_
        refine J_aload E dX5_copy_36 1 rfl ?_
        refine J_si10r E (As := []) (c_X2_isMissing l G (sh a 35) (x 10) ) cl_X5_212 yo_X2_isMissing dX5_copy_38 rfl (Nat.le_of_ble_eq_true rfl) (Nat.le_of_ble_eq_true rfl) rfl (Nat.le_of_ble_eq_true rfl) ⟨Nat.zero_le _, Nat.zero_le _⟩ ?_
        refine J_if_ne E (tgt := 52) dX5_copy_41 (by decide) (fun c_41 => ?_) (fun c_41 => ?_)
        · skip
          have c_41 := bI_1 c_41
          exact absurd c_41 h1
        · skip
          have c_41 := bI_0 c_41
          refine J_aload E dX5_copy_44 0 rfl ?_
          refine J_si8r E (As := []) (c_X2_isMissing l G (sh a 31) (x 8) ) cl_X5_212 yo_X2_isMissing dX5_copy_46 rfl (Nat.le_of_ble_eq_true rfl) (Nat.le_of_ble_eq_true rfl) rfl (Nat.le_of_ble_eq_true rfl) ⟨Nat.zero_le _, Nat.zero_le _⟩ ?_
          refine J_if_eq E (tgt := 58) dX5_copy_49 (by decide) (fun c_49 => ?_) (fun c_49 => ?_)
          · skip
            have c_49 := bI_0 c_49
            refine J_aload E dX5_copy_58 1 rfl ?_
            refine gC35_X5_215 E dX5_copy_60 ?_
            refine J_aload E dX5_copy_63 0 rfl ?_
            refine gC31_X5_215 E dX5_copy_65 ?_
            refine J_icmp_eq E (tgt := 77) dX5_copy_68 (by decide) (fun c_68 => ?_) (fun c_68 => ?_)
            · skip
              exact absurd c_68 h3
            · skip
              refine J_aload_n E dX5_copy_71 rfl 2 rfl ?_
              refine J_iconst E dX5_copy_72 ic_2 ?_
              refine J_cVi0 E (As := [.int 2]) (c_X5_tell l G a x 2 (by omega)) cl_X5_64 yo_X5_tell dX5_copy_73 rfl rfl rfl (Nat.le_of_ble_eq_true rfl) (Nat.le_of_ble_eq_true rfl) rfl (Nat.le_of_ble_eq_true rfl) ⟨Nat.zero_le _, Nat.zero_le _⟩ ?_
              exact ret _ _ _ _ ⟨rfl, _, rfl, by intro g h2 h6; simp [upG, up3, up3R, h2, h6]⟩ rfl dX5_copy_76
          · skip
            have c_49 := bI_1 c_49
            exact absurd c_49 h2
      · skip
        have c_11 := bI_0 c_11
        exact absurd (in3 (by decide)) c_11
  · skip
    refine J_iload_n E dX5_copy_0 rfl 1 rfl ?_
    refine J_cSiN E (As := [.int (nI 2)]) (c_X5_isSheet l G (nI 2) ) cl_X5_202 yo_X5_isSheet dX5_copy_1 rfl (Nat.le_of_ble_eq_true rfl) (Nat.le_of_ble_eq_true rfl) rfl (Nat.le_of_ble_eq_true rfl) ⟨Nat.zero_le _, Nat.zero_le _⟩ ?_
    refine J_if_eq E (tgt := 14) dX5_copy_4 (by decide) (fun c_4 => ?_) (fun c_4 => ?_)
    · skip
      have c_4 := bI_0 c_4
      exact absurd (in3 (by decide)) c_4
    · skip
      have c_4 := bI_1 c_4
      refine J_iload_n E dX5_copy_7 rfl 3 rfl ?_
      refine J_cSiN E (As := [.int (nI 1)]) (c_X5_isSheet l G (nI 1) ) cl_X5_202 yo_X5_isSheet dX5_copy_8 rfl (Nat.le_of_ble_eq_true rfl) (Nat.le_of_ble_eq_true rfl) rfl (Nat.le_of_ble_eq_true rfl) ⟨Nat.zero_le _, Nat.zero_le _⟩ ?_
      refine J_if_ne E (tgt := 20) dX5_copy_11 (by decide) (fun c_11 => ?_) (fun c_11 => ?_)
      · skip
        have c_11 := bI_1 c_11
        refine J_aload_n E dX5_copy_20 rfl 0 rfl ?_
        refine gC0_X5_44 E dX5_copy_21 ?_
        refine J_iload_n E dX5_copy_24 rfl 1 rfl ?_
        refine laC_30_2 E dX5_copy_25 ?_
        refine J_astore E (lv' := [(6, .ref (a 35)), (0, .ref (a 0)), (1, .int (nI 2)), (2, .int f), (3, .int (nI 1)), (4, .int o), (5, .int n)]) dX5_copy_26 (by decide) rfl ?_
        refine J_aload_n E dX5_copy_28 rfl 1 rfl ?_
        refine gC0_X5_44 E dX5_copy_29 ?_
        refine J_iload_n E dX5_copy_32 rfl 4 rfl ?_
        refine laC_30_1 E dX5_copy_33 ?_
        refine J_astore E (lv' := [(7, .ref (a 33)), (6, .ref (a 35)), (0, .ref (a 0)), (1, .int (nI 2)), (2, .int f), (3, .int (nI 1)), (4, .int o), (5, .int n)]) dX5_copy_34 (by decide) rfl ?_
        refine J_aload E dX5_copy_36 1 rfl ?_
        refine J_si10r E (As := []) (c_X2_isMissing l G (sh a 35) (x 10) ) cl_X5_212 yo_X2_isMissing dX5_copy_38 rfl (Nat.le_of_ble_eq_true rfl) (Nat.le_of_ble_eq_true rfl) rfl (Nat.le_of_ble_eq_true rfl) ⟨Nat.zero_le _, Nat.zero_le _⟩ ?_
        refine J_if_ne E (tgt := 52) dX5_copy_41 (by decide) (fun c_41 => ?_) (fun c_41 => ?_)
        · skip
          have c_41 := bI_1 c_41
          exact absurd c_41 h1
        · skip
          have c_41 := bI_0 c_41
          refine J_aload E dX5_copy_44 0 rfl ?_
          refine J_si9r E (As := []) (c_X2_isMissing l G (sh a 33) (x 9) ) cl_X5_212 yo_X2_isMissing dX5_copy_46 rfl (Nat.le_of_ble_eq_true rfl) (Nat.le_of_ble_eq_true rfl) rfl (Nat.le_of_ble_eq_true rfl) ⟨Nat.zero_le _, Nat.zero_le _⟩ ?_
          refine J_if_eq E (tgt := 58) dX5_copy_49 (by decide) (fun c_49 => ?_) (fun c_49 => ?_)
          · skip
            have c_49 := bI_0 c_49
            refine J_aload E dX5_copy_58 1 rfl ?_
            refine gC35_X5_215 E dX5_copy_60 ?_
            refine J_aload E dX5_copy_63 0 rfl ?_
            refine gC33_X5_215 E dX5_copy_65 ?_
            refine J_icmp_eq E (tgt := 77) dX5_copy_68 (by decide) (fun c_68 => ?_) (fun c_68 => ?_)
            · skip
              exact absurd c_68 h3
            · skip
              refine J_aload_n E dX5_copy_71 rfl 2 rfl ?_
              refine J_iconst E dX5_copy_72 ic_2 ?_
              refine J_cVi0 E (As := [.int 2]) (c_X5_tell l G a x 2 (by omega)) cl_X5_64 yo_X5_tell dX5_copy_73 rfl rfl rfl (Nat.le_of_ble_eq_true rfl) (Nat.le_of_ble_eq_true rfl) rfl (Nat.le_of_ble_eq_true rfl) ⟨Nat.zero_le _, Nat.zero_le _⟩ ?_
              exact ret _ _ _ _ ⟨rfl, _, rfl, by intro g h2 h6; simp [upG, up3, up3R, h2, h6]⟩ rfl dX5_copy_76
          · skip
            have c_49 := bI_1 c_49
            exact absurd c_49 h2
      · skip
        have c_11 := bI_0 c_11
        exact absurd (in3 (by decide)) c_11
  · skip
    refine J_iload_n E dX5_copy_0 rfl 1 rfl ?_
    refine J_cSiN E (As := [.int (nI 2)]) (c_X5_isSheet l G (nI 2) ) cl_X5_202 yo_X5_isSheet dX5_copy_1 rfl (Nat.le_of_ble_eq_true rfl) (Nat.le_of_ble_eq_true rfl) rfl (Nat.le_of_ble_eq_true rfl) ⟨Nat.zero_le _, Nat.zero_le _⟩ ?_
    refine J_if_eq E (tgt := 14) dX5_copy_4 (by decide) (fun c_4 => ?_) (fun c_4 => ?_)
    · skip
      have c_4 := bI_0 c_4
      exact absurd (in3 (by decide)) c_4
    · skip
      have c_4 := bI_1 c_4
      refine J_iload_n E dX5_copy_7 rfl 3 rfl ?_
      refine J_cSiN E (As := [.int (nI 2)]) (c_X5_isSheet l G (nI 2) ) cl_X5_202 yo_X5_isSheet dX5_copy_8 rfl (Nat.le_of_ble_eq_true rfl) (Nat.le_of_ble_eq_true rfl) rfl (Nat.le_of_ble_eq_true rfl) ⟨Nat.zero_le _, Nat.zero_le _⟩ ?_
      refine J_if_ne E (tgt := 20) dX5_copy_11 (by decide) (fun c_11 => ?_) (fun c_11 => ?_)
      · skip
        have c_11 := bI_1 c_11
        refine J_aload_n E dX5_copy_20 rfl 0 rfl ?_
        refine gC0_X5_44 E dX5_copy_21 ?_
        refine J_iload_n E dX5_copy_24 rfl 1 rfl ?_
        refine laC_30_2 E dX5_copy_25 ?_
        refine J_astore E (lv' := [(6, .ref (a 35)), (0, .ref (a 0)), (1, .int (nI 2)), (2, .int f), (3, .int (nI 2)), (4, .int o), (5, .int n)]) dX5_copy_26 (by decide) rfl ?_
        refine J_aload_n E dX5_copy_28 rfl 1 rfl ?_
        refine gC0_X5_44 E dX5_copy_29 ?_
        refine J_iload_n E dX5_copy_32 rfl 4 rfl ?_
        refine laC_30_2 E dX5_copy_33 ?_
        refine J_astore E (lv' := [(7, .ref (a 35)), (6, .ref (a 35)), (0, .ref (a 0)), (1, .int (nI 2)), (2, .int f), (3, .int (nI 2)), (4, .int o), (5, .int n)]) dX5_copy_34 (by decide) rfl ?_
        refine J_aload E dX5_copy_36 1 rfl ?_
        refine J_si10r E (As := []) (c_X2_isMissing l G (sh a 35) (x 10) ) cl_X5_212 yo_X2_isMissing dX5_copy_38 rfl (Nat.le_of_ble_eq_true rfl) (Nat.le_of_ble_eq_true rfl) rfl (Nat.le_of_ble_eq_true rfl) ⟨Nat.zero_le _, Nat.zero_le _⟩ ?_
        refine J_if_ne E (tgt := 52) dX5_copy_41 (by decide) (fun c_41 => ?_) (fun c_41 => ?_)
        · skip
          have c_41 := bI_1 c_41
          exact absurd c_41 h1
        · skip
          have c_41 := bI_0 c_41
          refine J_aload E dX5_copy_44 0 rfl ?_
          refine J_si10r E (As := []) (c_X2_isMissing l G (sh a 35) (x 10) ) cl_X5_212 yo_X2_isMissing dX5_copy_46 rfl (Nat.le_of_ble_eq_true rfl) (Nat.le_of_ble_eq_true rfl) rfl (Nat.le_of_ble_eq_true rfl) ⟨Nat.zero_le _, Nat.zero_le _⟩ ?_
          refine J_if_eq E (tgt := 58) dX5_copy_49 (by decide) (fun c_49 => ?_) (fun c_49 => ?_)
          · skip
            have c_49 := bI_0 c_49
            refine J_aload E dX5_copy_58 1 rfl ?_
            refine gC35_X5_215 E dX5_copy_60 ?_
            refine J_aload E dX5_copy_63 0 rfl ?_
            refine gC35_X5_215 E dX5_copy_65 ?_
            refine J_icmp_eq E (tgt := 77) dX5_copy_68 (by decide) (fun c_68 => ?_) (fun c_68 => ?_)
            · skip
              exact absurd c_68 h3
            · skip
              refine J_aload_n E dX5_copy_71 rfl 2 rfl ?_
              refine J_iconst E dX5_copy_72 ic_2 ?_
              refine J_cVi0 E (As := [.int 2]) (c_X5_tell l G a x 2 (by omega)) cl_X5_64 yo_X5_tell dX5_copy_73 rfl rfl rfl (Nat.le_of_ble_eq_true rfl) (Nat.le_of_ble_eq_true rfl) rfl (Nat.le_of_ble_eq_true rfl) ⟨Nat.zero_le _, Nat.zero_le _⟩ ?_
              exact ret _ _ _ _ ⟨rfl, _, rfl, by intro g h2 h6; simp [upG, up3, up3R, h2, h6]⟩ rfl dX5_copy_76
          · skip
            have c_49 := bI_1 c_49
            exact absurd c_49 h2
      · skip
        have c_11 := bI_0 c_11
        exact absurd (in3 (by decide)) c_11
  · skip
    refine J_iload_n E dX5_copy_0 rfl 1 rfl ?_
    refine J_cSiN E (As := [.int (nI 2)]) (c_X5_isSheet l G (nI 2) ) cl_X5_202 yo_X5_isSheet dX5_copy_1 rfl (Nat.le_of_ble_eq_true rfl) (Nat.le_of_ble_eq_true rfl) rfl (Nat.le_of_ble_eq_true rfl) ⟨Nat.zero_le _, Nat.zero_le _⟩ ?_
    refine J_if_eq E (tgt := 14) dX5_copy_4 (by decide) (fun c_4 => ?_) (fun c_4 => ?_)
    · skip
      have c_4 := bI_0 c_4
      exact absurd (in3 (by decide)) c_4
    · skip
      have c_4 := bI_1 c_4
      refine J_iload_n E dX5_copy_7 rfl 3 rfl ?_
      refine J_cSiN E (As := [.int (nI 3)]) (c_X5_isSheet l G (nI 3) ) cl_X5_202 yo_X5_isSheet dX5_copy_8 rfl (Nat.le_of_ble_eq_true rfl) (Nat.le_of_ble_eq_true rfl) rfl (Nat.le_of_ble_eq_true rfl) ⟨Nat.zero_le _, Nat.zero_le _⟩ ?_
      refine J_if_ne E (tgt := 20) dX5_copy_11 (by decide) (fun c_11 => ?_) (fun c_11 => ?_)
      · skip
        have c_11 := bI_1 c_11
        refine J_aload_n E dX5_copy_20 rfl 0 rfl ?_
        refine gC0_X5_44 E dX5_copy_21 ?_
        refine J_iload_n E dX5_copy_24 rfl 1 rfl ?_
        refine laC_30_2 E dX5_copy_25 ?_
        refine J_astore E (lv' := [(6, .ref (a 35)), (0, .ref (a 0)), (1, .int (nI 2)), (2, .int f), (3, .int (nI 3)), (4, .int o), (5, .int n)]) dX5_copy_26 (by decide) rfl ?_
        refine J_aload_n E dX5_copy_28 rfl 1 rfl ?_
        refine gC0_X5_44 E dX5_copy_29 ?_
        refine J_iload_n E dX5_copy_32 rfl 4 rfl ?_
        refine laC_30_3 E dX5_copy_33 ?_
        refine J_astore E (lv' := [(7, .ref (a 37)), (6, .ref (a 35)), (0, .ref (a 0)), (1, .int (nI 2)), (2, .int f), (3, .int (nI 3)), (4, .int o), (5, .int n)]) dX5_copy_34 (by decide) rfl ?_
        refine J_aload E dX5_copy_36 1 rfl ?_
        refine J_si10r E (As := []) (c_X2_isMissing l G (sh a 35) (x 10) ) cl_X5_212 yo_X2_isMissing dX5_copy_38 rfl (Nat.le_of_ble_eq_true rfl) (Nat.le_of_ble_eq_true rfl) rfl (Nat.le_of_ble_eq_true rfl) ⟨Nat.zero_le _, Nat.zero_le _⟩ ?_
        refine J_if_ne E (tgt := 52) dX5_copy_41 (by decide) (fun c_41 => ?_) (fun c_41 => ?_)
        · skip
          have c_41 := bI_1 c_41
          exact absurd c_41 h1
        · skip
          have c_41 := bI_0 c_41
          refine J_aload E dX5_copy_44 0 rfl ?_
          refine J_si11r E (As := []) (c_X2_isMissing l G (sh a 37) (x 11) ) cl_X5_212 yo_X2_isMissing dX5_copy_46 rfl (Nat.le_of_ble_eq_true rfl) (Nat.le_of_ble_eq_true rfl) rfl (Nat.le_of_ble_eq_true rfl) ⟨Nat.zero_le _, Nat.zero_le _⟩ ?_
          refine J_if_eq E (tgt := 58) dX5_copy_49 (by decide) (fun c_49 => ?_) (fun c_49 => ?_)
          · skip
            have c_49 := bI_0 c_49
            refine J_aload E dX5_copy_58 1 rfl ?_
            refine gC35_X5_215 E dX5_copy_60 ?_
            refine J_aload E dX5_copy_63 0 rfl ?_
            refine gC37_X5_215 E dX5_copy_65 ?_
            refine J_icmp_eq E (tgt := 77) dX5_copy_68 (by decide) (fun c_68 => ?_) (fun c_68 => ?_)
            · skip
              exact absurd c_68 h3
            · skip
              refine J_aload_n E dX5_copy_71 rfl 2 rfl ?_
              refine J_iconst E dX5_copy_72 ic_2 ?_
              refine J_cVi0 E (As := [.int 2]) (c_X5_tell l G a x 2 (by omega)) cl_X5_64 yo_X5_tell dX5_copy_73 rfl rfl rfl (Nat.le_of_ble_eq_true rfl) (Nat.le_of_ble_eq_true rfl) rfl (Nat.le_of_ble_eq_true rfl) ⟨Nat.zero_le _, Nat.zero_le _⟩ ?_
              exact ret _ _ _ _ ⟨rfl, _, rfl, by intro g h2 h6; simp [upG, up3, up3R, h2, h6]⟩ rfl dX5_copy_76
          · skip
            have c_49 := bI_1 c_49
            exact absurd c_49 h2
      · skip
        have c_11 := bI_0 c_11
        exact absurd (in3 (by decide)) c_11
  · skip
    refine J_iload_n E dX5_copy_0 rfl 1 rfl ?_
    refine J_cSiN E (As := [.int (nI 3)]) (c_X5_isSheet l G (nI 3) ) cl_X5_202 yo_X5_isSheet dX5_copy_1 rfl (Nat.le_of_ble_eq_true rfl) (Nat.le_of_ble_eq_true rfl) rfl (Nat.le_of_ble_eq_true rfl) ⟨Nat.zero_le _, Nat.zero_le _⟩ ?_
    refine J_if_eq E (tgt := 14) dX5_copy_4 (by decide) (fun c_4 => ?_) (fun c_4 => ?_)
    · skip
      have c_4 := bI_0 c_4
      exact absurd (in3 (by decide)) c_4
    · skip
      have c_4 := bI_1 c_4
      refine J_iload_n E dX5_copy_7 rfl 3 rfl ?_
      refine J_cSiN E (As := [.int (nI 0)]) (c_X5_isSheet l G (nI 0) ) cl_X5_202 yo_X5_isSheet dX5_copy_8 rfl (Nat.le_of_ble_eq_true rfl) (Nat.le_of_ble_eq_true rfl) rfl (Nat.le_of_ble_eq_true rfl) ⟨Nat.zero_le _, Nat.zero_le _⟩ ?_
      refine J_if_ne E (tgt := 20) dX5_copy_11 (by decide) (fun c_11 => ?_) (fun c_11 => ?_)
      · skip
        have c_11 := bI_1 c_11
        refine J_aload_n E dX5_copy_20 rfl 0 rfl ?_
        refine gC0_X5_44 E dX5_copy_21 ?_
        refine J_iload_n E dX5_copy_24 rfl 1 rfl ?_
        refine laC_30_3 E dX5_copy_25 ?_
        refine J_astore E (lv' := [(6, .ref (a 37)), (0, .ref (a 0)), (1, .int (nI 3)), (2, .int f), (3, .int (nI 0)), (4, .int o), (5, .int n)]) dX5_copy_26 (by decide) rfl ?_
        refine J_aload_n E dX5_copy_28 rfl 1 rfl ?_
        refine gC0_X5_44 E dX5_copy_29 ?_
        refine J_iload_n E dX5_copy_32 rfl 4 rfl ?_
        refine laC_30_0 E dX5_copy_33 ?_
        refine J_astore E (lv' := [(7, .ref (a 31)), (6, .ref (a 37)), (0, .ref (a 0)), (1, .int (nI 3)), (2, .int f), (3, .int (nI 0)), (4, .int o), (5, .int n)]) dX5_copy_34 (by decide) rfl ?_
        refine J_aload E dX5_copy_36 1 rfl ?_
        refine J_si11r E (As := []) (c_X2_isMissing l G (sh a 37) (x 11) ) cl_X5_212 yo_X2_isMissing dX5_copy_38 rfl (Nat.le_of_ble_eq_true rfl) (Nat.le_of_ble_eq_true rfl) rfl (Nat.le_of_ble_eq_true rfl) ⟨Nat.zero_le _, Nat.zero_le _⟩ ?_
        refine J_if_ne E (tgt := 52) dX5_copy_41 (by decide) (fun c_41 => ?_) (fun c_41 => ?_)
        · skip
          have c_41 := bI_1 c_41
          exact absurd c_41 h1
        · skip
          have c_41 := bI_0 c_41
          refine J_aload E dX5_copy_44 0 rfl ?_
          refine J_si8r E (As := []) (c_X2_isMissing l G (sh a 31) (x 8) ) cl_X5_212 yo_X2_isMissing dX5_copy_46 rfl (Nat.le_of_ble_eq_true rfl) (Nat.le_of_ble_eq_true rfl) rfl (Nat.le_of_ble_eq_true rfl) ⟨Nat.zero_le _, Nat.zero_le _⟩ ?_
          refine J_if_eq E (tgt := 58) dX5_copy_49 (by decide) (fun c_49 => ?_) (fun c_49 => ?_)
          · skip
            have c_49 := bI_0 c_49
            refine J_aload E dX5_copy_58 1 rfl ?_
            refine gC37_X5_215 E dX5_copy_60 ?_
            refine J_aload E dX5_copy_63 0 rfl ?_
            refine gC31_X5_215 E dX5_copy_65 ?_
            refine J_icmp_eq E (tgt := 77) dX5_copy_68 (by decide) (fun c_68 => ?_) (fun c_68 => ?_)
            · skip
              exact absurd c_68 h3
            · skip
              refine J_aload_n E dX5_copy_71 rfl 2 rfl ?_
              refine J_iconst E dX5_copy_72 ic_2 ?_
              refine J_cVi0 E (As := [.int 2]) (c_X5_tell l G a x 2 (by omega)) cl_X5_64 yo_X5_tell dX5_copy_73 rfl rfl rfl (Nat.le_of_ble_eq_true rfl) (Nat.le_of_ble_eq_true rfl) rfl (Nat.le_of_ble_eq_true rfl) ⟨Nat.zero_le _, Nat.zero_le _⟩ ?_
              exact ret _ _ _ _ ⟨rfl, _, rfl, by intro g h2 h6; simp [upG, up3, up3R, h2, h6]⟩ rfl dX5_copy_76
          · skip
            have c_49 := bI_1 c_49
            exact absurd c_49 h2
      · skip
        have c_11 := bI_0 c_11
        exact absurd (in3 (by decide)) c_11
  · skip
    refine J_iload_n E dX5_copy_0 rfl 1 rfl ?_
    refine J_cSiN E (As := [.int (nI 3)]) (c_X5_isSheet l G (nI 3) ) cl_X5_202 yo_X5_isSheet dX5_copy_1 rfl (Nat.le_of_ble_eq_true rfl) (Nat.le_of_ble_eq_true rfl) rfl (Nat.le_of_ble_eq_true rfl) ⟨Nat.zero_le _, Nat.zero_le _⟩ ?_
    refine J_if_eq E (tgt := 14) dX5_copy_4 (by decide) (fun c_4 => ?_) (fun c_4 => ?_)
    · skip
      have c_4 := bI_0 c_4
      exact absurd (in3 (by decide)) c_4
    · skip
      have c_4 := bI_1 c_4
      refine J_iload_n E dX5_copy_7 rfl 3 rfl ?_
      refine J_cSiN E (As := [.int (nI 1)]) (c_X5_isSheet l G (nI 1) ) cl_X5_202 yo_X5_isSheet dX5_copy_8 rfl (Nat.le_of_ble_eq_true rfl) (Nat.le_of_ble_eq_true rfl) rfl (Nat.le_of_ble_eq_true rfl) ⟨Nat.zero_le _, Nat.zero_le _⟩ ?_
      refine J_if_ne E (tgt := 20) dX5_copy_11 (by decide) (fun c_11 => ?_) (fun c_11 => ?_)
      · skip
        have c_11 := bI_1 c_11
        refine J_aload_n E dX5_copy_20 rfl 0 rfl ?_
        refine gC0_X5_44 E dX5_copy_21 ?_
        refine J_iload_n E dX5_copy_24 rfl 1 rfl ?_
        refine laC_30_3 E dX5_copy_25 ?_
        refine J_astore E (lv' := [(6, .ref (a 37)), (0, .ref (a 0)), (1, .int (nI 3)), (2, .int f), (3, .int (nI 1)), (4, .int o), (5, .int n)]) dX5_copy_26 (by decide) rfl ?_
        refine J_aload_n E dX5_copy_28 rfl 1 rfl ?_
        refine gC0_X5_44 E dX5_copy_29 ?_
        refine J_iload_n E dX5_copy_32 rfl 4 rfl ?_
        refine laC_30_1 E dX5_copy_33 ?_
        refine J_astore E (lv' := [(7, .ref (a 33)), (6, .ref (a 37)), (0, .ref (a 0)), (1, .int (nI 3)), (2, .int f), (3, .int (nI 1)), (4, .int o), (5, .int n)]) dX5_copy_34 (by decide) rfl ?_
        refine J_aload E dX5_copy_36 1 rfl ?_
        refine J_si11r E (As := []) (c_X2_isMissing l G (sh a 37) (x 11) ) cl_X5_212 yo_X2_isMissing dX5_copy_38 rfl (Nat.le_of_ble_eq_true rfl) (Nat.le_of_ble_eq_true rfl) rfl (Nat.le_of_ble_eq_true rfl) ⟨Nat.zero_le _, Nat.zero_le _⟩ ?_
        refine J_if_ne E (tgt := 52) dX5_copy_41 (by decide) (fun c_41 => ?_) (fun c_41 => ?_)
        · skip
          have c_41 := bI_1 c_41
          exact absurd c_41 h1
        · skip
          have c_41 := bI_0 c_41
          refine J_aload E dX5_copy_44 0 rfl ?_
          refine J_si9r E (As := []) (c_X2_isMissing l G (sh a 33) (x 9) ) cl_X5_212 yo_X2_isMissing dX5_copy_46 rfl (Nat.le_of_ble_eq_true rfl) (Nat.le_of_ble_eq_true rfl) rfl (Nat.le_of_ble_eq_true rfl) ⟨Nat.zero_le _, Nat.zero_le _⟩ ?_
          refine J_if_eq E (tgt := 58) dX5_copy_49 (by decide) (fun c_49 => ?_) (fun c_49 => ?_)
          · skip
            have c_49 := bI_0 c_49
            refine J_aload E dX5_copy_58 1 rfl ?_
            refine gC37_X5_215 E dX5_copy_60 ?_
            refine J_aload E dX5_copy_63 0 rfl ?_
            refine gC33_X5_215 E dX5_copy_65 ?_
            refine J_icmp_eq E (tgt := 77) dX5_copy_68 (by decide) (fun c_68 => ?_) (fun c_68 => ?_)
            · skip
              exact absurd c_68 h3
            · skip
              refine J_aload_n E dX5_copy_71 rfl 2 rfl ?_
              refine J_iconst E dX5_copy_72 ic_2 ?_
              refine J_cVi0 E (As := [.int 2]) (c_X5_tell l G a x 2 (by omega)) cl_X5_64 yo_X5_tell dX5_copy_73 rfl rfl rfl (Nat.le_of_ble_eq_true rfl) (Nat.le_of_ble_eq_true rfl) rfl (Nat.le_of_ble_eq_true rfl) ⟨Nat.zero_le _, Nat.zero_le _⟩ ?_
              exact ret _ _ _ _ ⟨rfl, _, rfl, by intro g h2 h6; simp [upG, up3, up3R, h2, h6]⟩ rfl dX5_copy_76
          · skip
            have c_49 := bI_1 c_49
            exact absurd c_49 h2
      · skip
        have c_11 := bI_0 c_11
        exact absurd (in3 (by decide)) c_11
  · skip
    refine J_iload_n E dX5_copy_0 rfl 1 rfl ?_
    refine J_cSiN E (As := [.int (nI 3)]) (c_X5_isSheet l G (nI 3) ) cl_X5_202 yo_X5_isSheet dX5_copy_1 rfl (Nat.le_of_ble_eq_true rfl) (Nat.le_of_ble_eq_true rfl) rfl (Nat.le_of_ble_eq_true rfl) ⟨Nat.zero_le _, Nat.zero_le _⟩ ?_
    refine J_if_eq E (tgt := 14) dX5_copy_4 (by decide) (fun c_4 => ?_) (fun c_4 => ?_)
    · skip
      have c_4 := bI_0 c_4
      exact absurd (in3 (by decide)) c_4
    · skip
      have c_4 := bI_1 c_4
      refine J_iload_n E dX5_copy_7 rfl 3 rfl ?_
      refine J_cSiN E (As := [.int (nI 2)]) (c_X5_isSheet l G (nI 2) ) cl_X5_202 yo_X5_isSheet dX5_copy_8 rfl (Nat.le_of_ble_eq_true rfl) (Nat.le_of_ble_eq_true rfl) rfl (Nat.le_of_ble_eq_true rfl) ⟨Nat.zero_le _, Nat.zero_le _⟩ ?_
      refine J_if_ne E (tgt := 20) dX5_copy_11 (by decide) (fun c_11 => ?_) (fun c_11 => ?_)
      · skip
        have c_11 := bI_1 c_11
        refine J_aload_n E dX5_copy_20 rfl 0 rfl ?_
        refine gC0_X5_44 E dX5_copy_21 ?_
        refine J_iload_n E dX5_copy_24 rfl 1 rfl ?_
        refine laC_30_3 E dX5_copy_25 ?_
        refine J_astore E (lv' := [(6, .ref (a 37)), (0, .ref (a 0)), (1, .int (nI 3)), (2, .int f), (3, .int (nI 2)), (4, .int o), (5, .int n)]) dX5_copy_26 (by decide) rfl ?_
        refine J_aload_n E dX5_copy_28 rfl 1 rfl ?_
        refine gC0_X5_44 E dX5_copy_29 ?_
        refine J_iload_n E dX5_copy_32 rfl 4 rfl ?_
        refine laC_30_2 E dX5_copy_33 ?_
        refine J_astore E (lv' := [(7, .ref (a 35)), (6, .ref (a 37)), (0, .ref (a 0)), (1, .int (nI 3)), (2, .int f), (3, .int (nI 2)), (4, .int o), (5, .int n)]) dX5_copy_34 (by decide) rfl ?_
        refine J_aload E dX5_copy_36 1 rfl ?_
        refine J_si11r E (As := []) (c_X2_isMissing l G (sh a 37) (x 11) ) cl_X5_212 yo_X2_isMissing dX5_copy_38 rfl (Nat.le_of_ble_eq_true rfl) (Nat.le_of_ble_eq_true rfl) rfl (Nat.le_of_ble_eq_true rfl) ⟨Nat.zero_le _, Nat.zero_le _⟩ ?_
        refine J_if_ne E (tgt := 52) dX5_copy_41 (by decide) (fun c_41 => ?_) (fun c_41 => ?_)
        · skip
          have c_41 := bI_1 c_41
          exact absurd c_41 h1
        · skip
          have c_41 := bI_0 c_41
          refine J_aload E dX5_copy_44 0 rfl ?_
          refine J_si10r E (As := []) (c_X2_isMissing l G (sh a 35) (x 10) ) cl_X5_212 yo_X2_isMissing dX5_copy_46 rfl (Nat.le_of_ble_eq_true rfl) (Nat.le_of_ble_eq_true rfl) rfl (Nat.le_of_ble_eq_true rfl) ⟨Nat.zero_le _, Nat.zero_le _⟩ ?_
          refine J_if_eq E (tgt := 58) dX5_copy_49 (by decide) (fun c_49 => ?_) (fun c_49 => ?_)
          · skip
            have c_49 := bI_0 c_49
            refine J_aload E dX5_copy_58 1 rfl ?_
            refine gC37_X5_215 E dX5_copy_60 ?_
            refine J_aload E dX5_copy_63 0 rfl ?_
            refine gC35_X5_215 E dX5_copy_65 ?_
            refine J_icmp_eq E (tgt := 77) dX5_copy_68 (by decide) (fun c_68 => ?_) (fun c_68 => ?_)
            · skip
              exact absurd c_68 h3
            · skip
              refine J_aload_n E dX5_copy_71 rfl 2 rfl ?_
              refine J_iconst E dX5_copy_72 ic_2 ?_
              refine J_cVi0 E (As := [.int 2]) (c_X5_tell l G a x 2 (by omega)) cl_X5_64 yo_X5_tell dX5_copy_73 rfl rfl rfl (Nat.le_of_ble_eq_true rfl) (Nat.le_of_ble_eq_true rfl) rfl (Nat.le_of_ble_eq_true rfl) ⟨Nat.zero_le _, Nat.zero_le _⟩ ?_
              exact ret _ _ _ _ ⟨rfl, _, rfl, by intro g h2 h6; simp [upG, up3, up3R, h2, h6]⟩ rfl dX5_copy_76
          · skip
            have c_49 := bI_1 c_49
            exact absurd c_49 h2
      · skip
        have c_11 := bI_0 c_11
        exact absurd (in3 (by decide)) c_11
  · skip
    refine J_iload_n E dX5_copy_0 rfl 1 rfl ?_
    refine J_cSiN E (As := [.int (nI 3)]) (c_X5_isSheet l G (nI 3) ) cl_X5_202 yo_X5_isSheet dX5_copy_1 rfl (Nat.le_of_ble_eq_true rfl) (Nat.le_of_ble_eq_true rfl) rfl (Nat.le_of_ble_eq_true rfl) ⟨Nat.zero_le _, Nat.zero_le _⟩ ?_
    refine J_if_eq E (tgt := 14) dX5_copy_4 (by decide) (fun c_4 => ?_) (fun c_4 => ?_)
    · skip
      have c_4 := bI_0 c_4
      exact absurd (in3 (by decide)) c_4
    · skip
      have c_4 := bI_1 c_4
      refine J_iload_n E dX5_copy_7 rfl 3 rfl ?_
      refine J_cSiN E (As := [.int (nI 3)]) (c_X5_isSheet l G (nI 3) ) cl_X5_202 yo_X5_isSheet dX5_copy_8 rfl (Nat.le_of_ble_eq_true rfl) (Nat.le_of_ble_eq_true rfl) rfl (Nat.le_of_ble_eq_true rfl) ⟨Nat.zero_le _, Nat.zero_le _⟩ ?_
      refine J_if_ne E (tgt := 20) dX5_copy_11 (by decide) (fun c_11 => ?_) (fun c_11 => ?_)
      · skip
        have c_11 := bI_1 c_11
        refine J_aload_n E dX5_copy_20 rfl 0 rfl ?_
        refine gC0_X5_44 E dX5_copy_21 ?_
        refine J_iload_n E dX5_copy_24 rfl 1 rfl ?_
        refine laC_30_3 E dX5_copy_25 ?_
        refine J_astore E (lv' := [(6, .ref (a 37)), (0, .ref (a 0)), (1, .int (nI 3)), (2, .int f), (3, .int (nI 3)), (4, .int o), (5, .int n)]) dX5_copy_26 (by decide) rfl ?_
        refine J_aload_n E dX5_copy_28 rfl 1 rfl ?_
        refine gC0_X5_44 E dX5_copy_29 ?_
        refine J_iload_n E dX5_copy_32 rfl 4 rfl ?_
        refine laC_30_3 E dX5_copy_33 ?_
        refine J_astore E (lv' := [(7, .ref (a 37)), (6, .ref (a 37)), (0, .ref (a 0)), (1, .int (nI 3)), (2, .int f), (3, .int (nI 3)), (4, .int o), (5, .int n)]) dX5_copy_34 (by decide) rfl ?_
        refine J_aload E dX5_copy_36 1 rfl ?_
        refine J_si11r E (As := []) (c_X2_isMissing l G (sh a 37) (x 11) ) cl_X5_212 yo_X2_isMissing dX5_copy_38 rfl (Nat.le_of_ble_eq_true rfl) (Nat.le_of_ble_eq_true rfl) rfl (Nat.le_of_ble_eq_true rfl) ⟨Nat.zero_le _, Nat.zero_le _⟩ ?_
        refine J_if_ne E (tgt := 52) dX5_copy_41 (by decide) (fun c_41 => ?_) (fun c_41 => ?_)
        · skip
          have c_41 := bI_1 c_41
          exact absurd c_41 h1
        · skip
          have c_41 := bI_0 c_41
          refine J_aload E dX5_copy_44 0 rfl ?_
          refine J_si11r E (As := []) (c_X2_isMissing l G (sh a 37) (x 11) ) cl_X5_212 yo_X2_isMissing dX5_copy_46 rfl (Nat.le_of_ble_eq_true rfl) (Nat.le_of_ble_eq_true rfl) rfl (Nat.le_of_ble_eq_true rfl) ⟨Nat.zero_le _, Nat.zero_le _⟩ ?_
          refine J_if_eq E (tgt := 58) dX5_copy_49 (by decide) (fun c_49 => ?_) (fun c_49 => ?_)
          · skip
            have c_49 := bI_0 c_49
            refine J_aload E dX5_copy_58 1 rfl ?_
            refine gC37_X5_215 E dX5_copy_60 ?_
            refine J_aload E dX5_copy_63 0 rfl ?_
            refine gC37_X5_215 E dX5_copy_65 ?_
            refine J_icmp_eq E (tgt := 77) dX5_copy_68 (by decide) (fun c_68 => ?_) (fun c_68 => ?_)
            · skip
              exact absurd c_68 h3
            · skip
              refine J_aload_n E dX5_copy_71 rfl 2 rfl ?_
              refine J_iconst E dX5_copy_72 ic_2 ?_
              refine J_cVi0 E (As := [.int 2]) (c_X5_tell l G a x 2 (by omega)) cl_X5_64 yo_X5_tell dX5_copy_73 rfl rfl rfl (Nat.le_of_ble_eq_true rfl) (Nat.le_of_ble_eq_true rfl) rfl (Nat.le_of_ble_eq_true rfl) ⟨Nat.zero_le _, Nat.zero_le _⟩ ?_
              exact ret _ _ _ _ ⟨rfl, _, rfl, by intro g h2 h6; simp [upG, up3, up3R, h2, h6]⟩ rfl dX5_copy_76
          · skip
            have c_49 := bI_1 c_49
            exact absurd c_49 h2
      · skip
        have c_11 := bI_0 c_11
        exact absurd (in3 (by decide)) c_11

set_option maxHeartbeats 4000000 in
set_option maxRecDepth 20000 in
theorem c_X5_copy_run (l : Launch) (G : GB) (a : Nat → Nat) (x : Q3) (i k : Nat) (f o n : Int32) (hi : i < 4) (hk : k < 4)  (h1 : ¬ x (8 + i) 1 0 = 0) (h2 : ¬ x (8 + k) 1 0 = 0) (h3 : x (8 + i) 1 0 = x (8 + k) 1 0) (hb : ¬ ((0 ≤ f ∧ 0 ≤ n ∧ f ≤ x (8 + i) 1 1 ∧ n ≤ x (8 + i) 1 1 - f) ∧ (0 ≤ o ∧ 0 ≤ n ∧ o ≤ x (8 + k) 1 1 ∧ n ≤ x (8 + k) 1 1 - o))) : CI l yX5_copy cX5_copy 8 .int 2 41 G [.ref (a 0), .int (nI i), .int f, .int (nI k), .int o, .int n] (wC G a x) (fun vR w' => vR = tellR 0 ∧ PubC G a (tellX x 0) w') := by
  refine CI.mk (own := RX5) (by decide) rfl (Nat.le_of_ble_eq_true rfl) ?_
  intro X E ret
  show J X G 8 0 0 (wC G a x) [(0, .ref (a 0)), (1, .int (nI i)), (2, .int f), (3, .int (nI k)), (4, .int o), (5, .int n)] 0 []
  rcases (show (i = 0 ∧ k = 0) ∨ (i = 0 ∧ k = 1) ∨ (i = 0 ∧ k = 2) ∨ (i = 0 ∧ k = 3) ∨ (i = 1 ∧ k = 0) ∨ (i = 1 ∧ k = 1) ∨ (i = 1 ∧ k = 2) ∨ (i = 1 ∧ k = 3) ∨ (i = 2 ∧ k = 0) ∨ (i = 2 ∧ k = 1) ∨ (i = 2 ∧ k = 2) ∨ (i = 2 ∧ k = 3) ∨ (i = 3 ∧ k = 0) ∨ (i = 3 ∧ k = 1) ∨ (i = 3 ∧ k = 2) ∨ (i = 3 ∧ k = 3) by omega) with ⟨rfl, rfl⟩ | ⟨rfl, rfl⟩ | ⟨rfl, rfl⟩ | ⟨rfl, rfl⟩ | ⟨rfl, rfl⟩ | ⟨rfl, rfl⟩ | ⟨rfl, rfl⟩ | ⟨rfl, rfl⟩ | ⟨rfl, rfl⟩ | ⟨rfl, rfl⟩ | ⟨rfl, rfl⟩ | ⟨rfl, rfl⟩ | ⟨rfl, rfl⟩ | ⟨rfl, rfl⟩ | ⟨rfl, rfl⟩ | ⟨rfl, rfl⟩
  · skip
    refine J_iload_n E dX5_copy_0 rfl 1 rfl ?_
    refine J_cSiN E (As := [.int (nI 0)]) (c_X5_isSheet l G (nI 0) ) cl_X5_202 yo_X5_isSheet dX5_copy_1 rfl (Nat.le_of_ble_eq_true rfl) (Nat.le_of_ble_eq_true rfl) rfl (Nat.le_of_ble_eq_true rfl) ⟨Nat.zero_le _, Nat.zero_le _⟩ ?_
    refine J_if_eq E (tgt := 14) dX5_copy_4 (by decide) (fun c_4 => ?_) (fun c_4 => ?_)
    · skip
      have c_4 := bI_0 c_4
      exact absurd (in3 (by decide)) c_4
    · skip
      have c_4 := bI_1 c_4
      refine J_iload_n E dX5_copy_7 rfl 3 rfl ?_
      refine J_cSiN E (As := [.int (nI 0)]) (c_X5_isSheet l G (nI 0) ) cl_X5_202 yo_X5_isSheet dX5_copy_8 rfl (Nat.le_of_ble_eq_true rfl) (Nat.le_of_ble_eq_true rfl) rfl (Nat.le_of_ble_eq_true rfl) ⟨Nat.zero_le _, Nat.zero_le _⟩ ?_
      refine J_if_ne E (tgt := 20) dX5_copy_11 (by decide) (fun c_11 => ?_) (fun c_11 => ?_)
      · skip
        have c_11 := bI_1 c_11
        refine J_aload_n E dX5_copy_20 rfl 0 rfl ?_
        refine gC0_X5_44 E dX5_copy_21 ?_
        refine J_iload_n E dX5_copy_24 rfl 1 rfl ?_
        refine laC_30_0 E dX5_copy_25 ?_
        refine J_astore E (lv' := [(6, .ref (a 31)), (0, .ref (a 0)), (1, .int (nI 0)), (2, .int f), (3, .int (nI 0)), (4, .int o), (5, .int n)]) dX5_copy_26 (by decide) rfl ?_
        refine J_aload_n E dX5_copy_28 rfl 1 rfl ?_
        refine gC0_X5_44 E dX5_copy_29 ?_
        refine J_iload_n E dX5_copy_32 rfl 4 rfl ?_
        refine laC_30_0 E dX5_copy_33 ?_
        refine J_astore E (lv' := [(7, .ref (a 31)), (6, .ref (a 31)), (0, .ref (a 0)), (1, .int (nI 0)), (2, .int f), (3, .int (nI 0)), (4, .int o), (5, .int n)]) dX5_copy_34 (by decide) rfl ?_
        refine J_aload E dX5_copy_36 1 rfl ?_
        refine J_si8r E (As := []) (c_X2_isMissing l G (sh a 31) (x 8) ) cl_X5_212 yo_X2_isMissing dX5_copy_38 rfl (Nat.le_of_ble_eq_true rfl) (Nat.le_of_ble_eq_true rfl) rfl (Nat.le_of_ble_eq_true rfl) ⟨Nat.zero_le _, Nat.zero_le _⟩ ?_
        refine J_if_ne E (tgt := 52) dX5_copy_41 (by decide) (fun c_41 => ?_) (fun c_41 => ?_)
        · skip
          have c_41 := bI_1 c_41
          exact absurd c_41 h1
        · skip
          have c_41 := bI_0 c_41
          refine J_aload E dX5_copy_44 0 rfl ?_
          refine J_si8r E (As := []) (c_X2_isMissing l G (sh a 31) (x 8) ) cl_X5_212 yo_X2_isMissing dX5_copy_46 rfl (Nat.le_of_ble_eq_true rfl) (Nat.le_of_ble_eq_true rfl) rfl (Nat.le_of_ble_eq_true rfl) ⟨Nat.zero_le _, Nat.zero_le _⟩ ?_
          refine J_if_eq E (tgt := 58) dX5_copy_49 (by decide) (fun c_49 => ?_) (fun c_49 => ?_)
          · skip
            have c_49 := bI_0 c_49
            refine J_aload E dX5_copy_58 1 rfl ?_
            refine gC31_X5_215 E dX5_copy_60 ?_
            refine J_aload E dX5_copy_63 0 rfl ?_
            refine gC31_X5_215 E dX5_copy_65 ?_
            refine J_icmp_eq E (tgt := 77) dX5_copy_68 (by decide) (fun c_68 => ?_) (fun c_68 => ?_)
            · skip
              refine J_aload E dX5_copy_77 1 rfl ?_
              refine J_iload_n E dX5_copy_79 rfl 4 rfl ?_
              refine J_iload E dX5_copy_80 7 rfl ?_
              refine J_si8r E (As := [.int f, .int n]) (c_X2_hasRun l G (sh a 31) (x 8) f n ) cl_X5_218 yo_X2_hasRun dX5_copy_82 rfl (Nat.le_of_ble_eq_true rfl) (Nat.le_of_ble_eq_true rfl) rfl (Nat.le_of_ble_eq_true rfl) ⟨Nat.zero_le _, Nat.zero_le _⟩ ?_
              refine J_if_eq E (tgt := 100) dX5_copy_85 (by decide) (fun c_85 => ?_) (fun c_85 => ?_)
              · skip
                have c_85 := bI_0 c_85
                refine J_aload_n E dX5_copy_100 rfl 2 rfl ?_
                refine J_iconst E dX5_copy_101 ic_0 ?_
                refine J_cVi0 E (As := [.int 0]) (c_X5_tell l G a x 0 (by omega)) cl_X5_64 yo_X5_tell dX5_copy_102 rfl rfl rfl (Nat.le_of_ble_eq_true rfl) (Nat.le_of_ble_eq_true rfl) rfl (Nat.le_of_ble_eq_true rfl) ⟨Nat.zero_le _, Nat.zero_le _⟩ ?_
                exact ret _ _ _ _ ⟨rfl, _, rfl, by intro g h2 h6; simp [upG, up3, up3R, h2, h6]⟩ rfl dX5_copy_105
              · skip
                have c_85 := bI_1 c_85
                refine J_aload E dX5_copy_88 0 rfl ?_
                refine J_iload E dX5_copy_90 6 rfl ?_
                refine J_iload E dX5_copy_92 7 rfl ?_
                refine J_si8r E (As := [.int o, .int n]) (c_X2_hasRun l G (sh a 31) (x 8) o n ) cl_X5_218 yo_X2_hasRun dX5_copy_94 rfl (Nat.le_of_ble_eq_true rfl) (Nat.le_of_ble_eq_true rfl) rfl (Nat.le_of_ble_eq_true rfl) ⟨Nat.zero_le _, Nat.zero_le _⟩ ?_
                refine J_if_ne E (tgt := 106) dX5_copy_97 (by decide) (fun c_97 => ?_) (fun c_97 => ?_)
                · skip
                  have c_97 := bI_1 c_97
                  exact absurd ⟨c_85, c_97⟩ hb
                · skip
                  have c_97 := bI_0 c_97
                  refine J_aload_n E dX5_copy_100 rfl 2 rfl ?_
                  refine J_iconst E dX5_copy_101 ic_0 ?_
                  refine J_cVi0 E (As := [.int 0]) (c_X5_tell l G a x 0 (by omega)) cl_X5_64 yo_X5_tell dX5_copy_102 rfl rfl rfl (Nat.le_of_ble_eq_true rfl) (Nat.le_of_ble_eq_true rfl) rfl (Nat.le_of_ble_eq_true rfl) ⟨Nat.zero_le _, Nat.zero_le _⟩ ?_
                  exact ret _ _ _ _ ⟨rfl, _, rfl, by intro g h2 h6; simp [upG, up3, up3R, h2, h6]⟩ rfl dX5_copy_105
            · skip
              exact absurd h3 c_68
          · skip
            have c_49 := bI_1 c_49
            exact absurd c_49 h2
      · skip
        have c_11 := bI_0 c_11
        exact absurd (in3 (by decide)) c_11
  · skip
    refine J_iload_n E dX5_copy_0 rfl 1 rfl ?_
    refine J_cSiN E (As := [.int (nI 0)]) (c_X5_isSheet l G (nI 0) ) cl_X5_202 yo_X5_isSheet dX5_copy_1 rfl (Nat.le_of_ble_eq_true rfl) (Nat.le_of_ble_eq_true rfl) rfl (Nat.le_of_ble_eq_true rfl) ⟨Nat.zero_le _, Nat.zero_le _⟩ ?_
    refine J_if_eq E (tgt := 14) dX5_copy_4 (by decide) (fun c_4 => ?_) (fun c_4 => ?_)
    · skip
      have c_4 := bI_0 c_4
      exact absurd (in3 (by decide)) c_4
    · skip
      have c_4 := bI_1 c_4
      refine J_iload_n E dX5_copy_7 rfl 3 rfl ?_
      refine J_cSiN E (As := [.int (nI 1)]) (c_X5_isSheet l G (nI 1) ) cl_X5_202 yo_X5_isSheet dX5_copy_8 rfl (Nat.le_of_ble_eq_true rfl) (Nat.le_of_ble_eq_true rfl) rfl (Nat.le_of_ble_eq_true rfl) ⟨Nat.zero_le _, Nat.zero_le _⟩ ?_
      refine J_if_ne E (tgt := 20) dX5_copy_11 (by decide) (fun c_11 => ?_) (fun c_11 => ?_)
      · skip
        have c_11 := bI_1 c_11
        refine J_aload_n E dX5_copy_20 rfl 0 rfl ?_
        refine gC0_X5_44 E dX5_copy_21 ?_
        refine J_iload_n E dX5_copy_24 rfl 1 rfl ?_
        refine laC_30_0 E dX5_copy_25 ?_
        refine J_astore E (lv' := [(6, .ref (a 31)), (0, .ref (a 0)), (1, .int (nI 0)), (2, .int f), (3, .int (nI 1)), (4, .int o), (5, .int n)]) dX5_copy_26 (by decide) rfl ?_
        refine J_aload_n E dX5_copy_28 rfl 1 rfl ?_
        refine gC0_X5_44 E dX5_copy_29 ?_
        refine J_iload_n E dX5_copy_32 rfl 4 rfl ?_
        refine laC_30_1 E dX5_copy_33 ?_
        refine J_astore E (lv' := [(7, .ref (a 33)), (6, .ref (a 31)), (0, .ref (a 0)), (1, .int (nI 0)), (2, .int f), (3, .int (nI 1)), (4, .int o), (5, .int n)]) dX5_copy_34 (by decide) rfl ?_
        refine J_aload E dX5_copy_36 1 rfl ?_
        refine J_si8r E (As := []) (c_X2_isMissing l G (sh a 31) (x 8) ) cl_X5_212 yo_X2_isMissing dX5_copy_38 rfl (Nat.le_of_ble_eq_true rfl) (Nat.le_of_ble_eq_true rfl) rfl (Nat.le_of_ble_eq_true rfl) ⟨Nat.zero_le _, Nat.zero_le _⟩ ?_
        refine J_if_ne E (tgt := 52) dX5_copy_41 (by decide) (fun c_41 => ?_) (fun c_41 => ?_)
        · skip
          have c_41 := bI_1 c_41
          exact absurd c_41 h1
        · skip
          have c_41 := bI_0 c_41
          refine J_aload E dX5_copy_44 0 rfl ?_
          refine J_si9r E (As := []) (c_X2_isMissing l G (sh a 33) (x 9) ) cl_X5_212 yo_X2_isMissing dX5_copy_46 rfl (Nat.le_of_ble_eq_true rfl) (Nat.le_of_ble_eq_true rfl) rfl (Nat.le_of_ble_eq_true rfl) ⟨Nat.zero_le _, Nat.zero_le _⟩ ?_
          refine J_if_eq E (tgt := 58) dX5_copy_49 (by decide) (fun c_49 => ?_) (fun c_49 => ?_)
          · skip
            have c_49 := bI_0 c_49
            refine J_aload E dX5_copy_58 1 rfl ?_
            refine gC31_X5_215 E dX5_copy_60 ?_
            refine J_aload E dX5_copy_63 0 rfl ?_
            refine gC33_X5_215 E dX5_copy_65 ?_
            refine J_icmp_eq E (tgt := 77) dX5_copy_68 (by decide) (fun c_68 => ?_) (fun c_68 => ?_)
            · skip
              refine J_aload E dX5_copy_77 1 rfl ?_
              refine J_iload_n E dX5_copy_79 rfl 4 rfl ?_
              refine J_iload E dX5_copy_80 7 rfl ?_
              refine J_si8r E (As := [.int f, .int n]) (c_X2_hasRun l G (sh a 31) (x 8) f n ) cl_X5_218 yo_X2_hasRun dX5_copy_82 rfl (Nat.le_of_ble_eq_true rfl) (Nat.le_of_ble_eq_true rfl) rfl (Nat.le_of_ble_eq_true rfl) ⟨Nat.zero_le _, Nat.zero_le _⟩ ?_
              refine J_if_eq E (tgt := 100) dX5_copy_85 (by decide) (fun c_85 => ?_) (fun c_85 => ?_)
              · skip
                have c_85 := bI_0 c_85
                refine J_aload_n E dX5_copy_100 rfl 2 rfl ?_
                refine J_iconst E dX5_copy_101 ic_0 ?_
                refine J_cVi0 E (As := [.int 0]) (c_X5_tell l G a x 0 (by omega)) cl_X5_64 yo_X5_tell dX5_copy_102 rfl rfl rfl (Nat.le_of_ble_eq_true rfl) (Nat.le_of_ble_eq_true rfl) rfl (Nat.le_of_ble_eq_true rfl) ⟨Nat.zero_le _, Nat.zero_le _⟩ ?_
                exact ret _ _ _ _ ⟨rfl, _, rfl, by intro g h2 h6; simp [upG, up3, up3R, h2, h6]⟩ rfl dX5_copy_105
              · skip
                have c_85 := bI_1 c_85
                refine J_aload E dX5_copy_88 0 rfl ?_
                refine J_iload E dX5_copy_90 6 rfl ?_
                refine J_iload E dX5_copy_92 7 rfl ?_
                refine J_si9r E (As := [.int o, .int n]) (c_X2_hasRun l G (sh a 33) (x 9) o n ) cl_X5_218 yo_X2_hasRun dX5_copy_94 rfl (Nat.le_of_ble_eq_true rfl) (Nat.le_of_ble_eq_true rfl) rfl (Nat.le_of_ble_eq_true rfl) ⟨Nat.zero_le _, Nat.zero_le _⟩ ?_
                refine J_if_ne E (tgt := 106) dX5_copy_97 (by decide) (fun c_97 => ?_) (fun c_97 => ?_)
                · skip
                  have c_97 := bI_1 c_97
                  exact absurd ⟨c_85, c_97⟩ hb
                · skip
                  have c_97 := bI_0 c_97
                  refine J_aload_n E dX5_copy_100 rfl 2 rfl ?_
                  refine J_iconst E dX5_copy_101 ic_0 ?_
                  refine J_cVi0 E (As := [.int 0]) (c_X5_tell l G a x 0 (by omega)) cl_X5_64 yo_X5_tell dX5_copy_102 rfl rfl rfl (Nat.le_of_ble_eq_true rfl) (Nat.le_of_ble_eq_true rfl) rfl (Nat.le_of_ble_eq_true rfl) ⟨Nat.zero_le _, Nat.zero_le _⟩ ?_
                  exact ret _ _ _ _ ⟨rfl, _, rfl, by intro g h2 h6; simp [upG, up3, up3R, h2, h6]⟩ rfl dX5_copy_105
            · skip
              exact absurd h3 c_68
          · skip
            have c_49 := bI_1 c_49
            exact absurd c_49 h2
      · skip
        have c_11 := bI_0 c_11
        exact absurd (in3 (by decide)) c_11
  · skip
    refine J_iload_n E dX5_copy_0 rfl 1 rfl ?_
    refine J_cSiN E (As := [.int (nI 0)]) (c_X5_isSheet l G (nI 0) ) cl_X5_202 yo_X5_isSheet dX5_copy_1 rfl (Nat.le_of_ble_eq_true rfl) (Nat.le_of_ble_eq_true rfl) rfl (Nat.le_of_ble_eq_true rfl) ⟨Nat.zero_le _, Nat.zero_le _⟩ ?_
    refine J_if_eq E (tgt := 14) dX5_copy_4 (by decide) (fun c_4 => ?_) (fun c_4 => ?_)
    · skip
      have c_4 := bI_0 c_4
      exact absurd (in3 (by decide)) c_4
    · skip
      have c_4 := bI_1 c_4
      refine J_iload_n E dX5_copy_7 rfl 3 rfl ?_
      refine J_cSiN E (As := [.int (nI 2)]) (c_X5_isSheet l G (nI 2) ) cl_X5_202 yo_X5_isSheet dX5_copy_8 rfl (Nat.le_of_ble_eq_true rfl) (Nat.le_of_ble_eq_true rfl) rfl (Nat.le_of_ble_eq_true rfl) ⟨Nat.zero_le _, Nat.zero_le _⟩ ?_
      refine J_if_ne E (tgt := 20) dX5_copy_11 (by decide) (fun c_11 => ?_) (fun c_11 => ?_)
      · skip
        have c_11 := bI_1 c_11
        refine J_aload_n E dX5_copy_20 rfl 0 rfl ?_
        refine gC0_X5_44 E dX5_copy_21 ?_
        refine J_iload_n E dX5_copy_24 rfl 1 rfl ?_
        refine laC_30_0 E dX5_copy_25 ?_
        refine J_astore E (lv' := [(6, .ref (a 31)), (0, .ref (a 0)), (1, .int (nI 0)), (2, .int f), (3, .int (nI 2)), (4, .int o), (5, .int n)]) dX5_copy_26 (by decide) rfl ?_
        refine J_aload_n E dX5_copy_28 rfl 1 rfl ?_
        refine gC0_X5_44 E dX5_copy_29 ?_
        refine J_iload_n E dX5_copy_32 rfl 4 rfl ?_
        refine laC_30_2 E dX5_copy_33 ?_
        refine J_astore E (lv' := [(7, .ref (a 35)), (6, .ref (a 31)), (0, .ref (a 0)), (1, .int (nI 0)), (2, .int f), (3, .int (nI 2)), (4, .int o), (5, .int n)]) dX5_copy_34 (by decide) rfl ?_
        refine J_aload E dX5_copy_36 1 rfl ?_
        refine J_si8r E (As := []) (c_X2_isMissing l G (sh a 31) (x 8) ) cl_X5_212 yo_X2_isMissing dX5_copy_38 rfl (Nat.le_of_ble_eq_true rfl) (Nat.le_of_ble_eq_true rfl) rfl (Nat.le_of_ble_eq_true rfl) ⟨Nat.zero_le _, Nat.zero_le _⟩ ?_
        refine J_if_ne E (tgt := 52) dX5_copy_41 (by decide) (fun c_41 => ?_) (fun c_41 => ?_)
        · skip
          have c_41 := bI_1 c_41
          exact absurd c_41 h1
        · skip
          have c_41 := bI_0 c_41
          refine J_aload E dX5_copy_44 0 rfl ?_
          refine J_si10r E (As := []) (c_X2_isMissing l G (sh a 35) (x 10) ) cl_X5_212 yo_X2_isMissing dX5_copy_46 rfl (Nat.le_of_ble_eq_true rfl) (Nat.le_of_ble_eq_true rfl) rfl (Nat.le_of_ble_eq_true rfl) ⟨Nat.zero_le _, Nat.zero_le _⟩ ?_
          refine J_if_eq E (tgt := 58) dX5_copy_49 (by decide) (fun c_49 => ?_) (fun c_49 => ?_)
          · skip
            have c_49 := bI_0 c_49
            refine J_aload E dX5_copy_58 1 rfl ?_
            refine gC31_X5_215 E dX5_copy_60 ?_
            refine J_aload E dX5_copy_63 0 rfl ?_
            refine gC35_X5_215 E dX5_copy_65 ?_
            refine J_icmp_eq E (tgt := 77) dX5_copy_68 (by decide) (fun c_68 => ?_) (fun c_68 => ?_)
            · skip
              refine J_aload E dX5_copy_77 1 rfl ?_
              refine J_iload_n E dX5_copy_79 rfl 4 rfl ?_
              refine J_iload E dX5_copy_80 7 rfl ?_
              refine J_si8r E (As := [.int f, .int n]) (c_X2_hasRun l G (sh a 31) (x 8) f n ) cl_X5_218 yo_X2_hasRun dX5_copy_82 rfl (Nat.le_of_ble_eq_true rfl) (Nat.le_of_ble_eq_true rfl) rfl (Nat.le_of_ble_eq_true rfl) ⟨Nat.zero_le _, Nat.zero_le _⟩ ?_
              refine J_if_eq E (tgt := 100) dX5_copy_85 (by decide) (fun c_85 => ?_) (fun c_85 => ?_)
              · skip
                have c_85 := bI_0 c_85
                refine J_aload_n E dX5_copy_100 rfl 2 rfl ?_
                refine J_iconst E dX5_copy_101 ic_0 ?_
                refine J_cVi0 E (As := [.int 0]) (c_X5_tell l G a x 0 (by omega)) cl_X5_64 yo_X5_tell dX5_copy_102 rfl rfl rfl (Nat.le_of_ble_eq_true rfl) (Nat.le_of_ble_eq_true rfl) rfl (Nat.le_of_ble_eq_true rfl) ⟨Nat.zero_le _, Nat.zero_le _⟩ ?_
                exact ret _ _ _ _ ⟨rfl, _, rfl, by intro g h2 h6; simp [upG, up3, up3R, h2, h6]⟩ rfl dX5_copy_105
              · skip
                have c_85 := bI_1 c_85
                refine J_aload E dX5_copy_88 0 rfl ?_
                refine J_iload E dX5_copy_90 6 rfl ?_
                refine J_iload E dX5_copy_92 7 rfl ?_
                refine J_si10r E (As := [.int o, .int n]) (c_X2_hasRun l G (sh a 35) (x 10) o n ) cl_X5_218 yo_X2_hasRun dX5_copy_94 rfl (Nat.le_of_ble_eq_true rfl) (Nat.le_of_ble_eq_true rfl) rfl (Nat.le_of_ble_eq_true rfl) ⟨Nat.zero_le _, Nat.zero_le _⟩ ?_
                refine J_if_ne E (tgt := 106) dX5_copy_97 (by decide) (fun c_97 => ?_) (fun c_97 => ?_)
                · skip
                  have c_97 := bI_1 c_97
                  exact absurd ⟨c_85, c_97⟩ hb
                · skip
                  have c_97 := bI_0 c_97
                  refine J_aload_n E dX5_copy_100 rfl 2 rfl ?_
                  refine J_iconst E dX5_copy_101 ic_0 ?_
                  refine J_cVi0 E (As := [.int 0]) (c_X5_tell l G a x 0 (by omega)) cl_X5_64 yo_X5_tell dX5_copy_102 rfl rfl rfl (Nat.le_of_ble_eq_true rfl) (Nat.le_of_ble_eq_true rfl) rfl (Nat.le_of_ble_eq_true rfl) ⟨Nat.zero_le _, Nat.zero_le _⟩ ?_
                  exact ret _ _ _ _ ⟨rfl, _, rfl, by intro g h2 h6; simp [upG, up3, up3R, h2, h6]⟩ rfl dX5_copy_105
            · skip
              exact absurd h3 c_68
          · skip
            have c_49 := bI_1 c_49
            exact absurd c_49 h2
      · skip
        have c_11 := bI_0 c_11
        exact absurd (in3 (by decide)) c_11
  · skip
    refine J_iload_n E dX5_copy_0 rfl 1 rfl ?_
    refine J_cSiN E (As := [.int (nI 0)]) (c_X5_isSheet l G (nI 0) ) cl_X5_202 yo_X5_isSheet dX5_copy_1 rfl (Nat.le_of_ble_eq_true rfl) (Nat.le_of_ble_eq_true rfl) rfl (Nat.le_of_ble_eq_true rfl) ⟨Nat.zero_le _, Nat.zero_le _⟩ ?_
    refine J_if_eq E (tgt := 14) dX5_copy_4 (by decide) (fun c_4 => ?_) (fun c_4 => ?_)
    · skip
      have c_4 := bI_0 c_4
      exact absurd (in3 (by decide)) c_4
    · skip
      have c_4 := bI_1 c_4
      refine J_iload_n E dX5_copy_7 rfl 3 rfl ?_
      refine J_cSiN E (As := [.int (nI 3)]) (c_X5_isSheet l G (nI 3) ) cl_X5_202 yo_X5_isSheet dX5_copy_8 rfl (Nat.le_of_ble_eq_true rfl) (Nat.le_of_ble_eq_true rfl) rfl (Nat.le_of_ble_eq_true rfl) ⟨Nat.zero_le _, Nat.zero_le _⟩ ?_
      refine J_if_ne E (tgt := 20) dX5_copy_11 (by decide) (fun c_11 => ?_) (fun c_11 => ?_)
      · skip
        have c_11 := bI_1 c_11
        refine J_aload_n E dX5_copy_20 rfl 0 rfl ?_
        refine gC0_X5_44 E dX5_copy_21 ?_
        refine J_iload_n E dX5_copy_24 rfl 1 rfl ?_
        refine laC_30_0 E dX5_copy_25 ?_
        refine J_astore E (lv' := [(6, .ref (a 31)), (0, .ref (a 0)), (1, .int (nI 0)), (2, .int f), (3, .int (nI 3)), (4, .int o), (5, .int n)]) dX5_copy_26 (by decide) rfl ?_
        refine J_aload_n E dX5_copy_28 rfl 1 rfl ?_
        refine gC0_X5_44 E dX5_copy_29 ?_
        refine J_iload_n E dX5_copy_32 rfl 4 rfl ?_
        refine laC_30_3 E dX5_copy_33 ?_
        refine J_astore E (lv' := [(7, .ref (a 37)), (6, .ref (a 31)), (0, .ref (a 0)), (1, .int (nI 0)), (2, .int f), (3, .int (nI 3)), (4, .int o), (5, .int n)]) dX5_copy_34 (by decide) rfl ?_
        refine J_aload E dX5_copy_36 1 rfl ?_
        refine J_si8r E (As := []) (c_X2_isMissing l G (sh a 31) (x 8) ) cl_X5_212 yo_X2_isMissing dX5_copy_38 rfl (Nat.le_of_ble_eq_true rfl) (Nat.le_of_ble_eq_true rfl) rfl (Nat.le_of_ble_eq_true rfl) ⟨Nat.zero_le _, Nat.zero_le _⟩ ?_
        refine J_if_ne E (tgt := 52) dX5_copy_41 (by decide) (fun c_41 => ?_) (fun c_41 => ?_)
        · skip
          have c_41 := bI_1 c_41
          exact absurd c_41 h1
        · skip
          have c_41 := bI_0 c_41
          refine J_aload E dX5_copy_44 0 rfl ?_
          refine J_si11r E (As := []) (c_X2_isMissing l G (sh a 37) (x 11) ) cl_X5_212 yo_X2_isMissing dX5_copy_46 rfl (Nat.le_of_ble_eq_true rfl) (Nat.le_of_ble_eq_true rfl) rfl (Nat.le_of_ble_eq_true rfl) ⟨Nat.zero_le _, Nat.zero_le _⟩ ?_
          refine J_if_eq E (tgt := 58) dX5_copy_49 (by decide) (fun c_49 => ?_) (fun c_49 => ?_)
          · skip
            have c_49 := bI_0 c_49
            refine J_aload E dX5_copy_58 1 rfl ?_
            refine gC31_X5_215 E dX5_copy_60 ?_
            refine J_aload E dX5_copy_63 0 rfl ?_
            refine gC37_X5_215 E dX5_copy_65 ?_
            refine J_icmp_eq E (tgt := 77) dX5_copy_68 (by decide) (fun c_68 => ?_) (fun c_68 => ?_)
            · skip
              refine J_aload E dX5_copy_77 1 rfl ?_
              refine J_iload_n E dX5_copy_79 rfl 4 rfl ?_
              refine J_iload E dX5_copy_80 7 rfl ?_
              refine J_si8r E (As := [.int f, .int n]) (c_X2_hasRun l G (sh a 31) (x 8) f n ) cl_X5_218 yo_X2_hasRun dX5_copy_82 rfl (Nat.le_of_ble_eq_true rfl) (Nat.le_of_ble_eq_true rfl) rfl (Nat.le_of_ble_eq_true rfl) ⟨Nat.zero_le _, Nat.zero_le _⟩ ?_
              refine J_if_eq E (tgt := 100) dX5_copy_85 (by decide) (fun c_85 => ?_) (fun c_85 => ?_)
              · skip
                have c_85 := bI_0 c_85
                refine J_aload_n E dX5_copy_100 rfl 2 rfl ?_
                refine J_iconst E dX5_copy_101 ic_0 ?_
                refine J_cVi0 E (As := [.int 0]) (c_X5_tell l G a x 0 (by omega)) cl_X5_64 yo_X5_tell dX5_copy_102 rfl rfl rfl (Nat.le_of_ble_eq_true rfl) (Nat.le_of_ble_eq_true rfl) rfl (Nat.le_of_ble_eq_true rfl) ⟨Nat.zero_le _, Nat.zero_le _⟩ ?_
                exact ret _ _ _ _ ⟨rfl, _, rfl, by intro g h2 h6; simp [upG, up3, up3R, h2, h6]⟩ rfl dX5_copy_105
              · skip
                have c_85 := bI_1 c_85
                refine J_aload E dX5_copy_88 0 rfl ?_
                refine J_iload E dX5_copy_90 6 rfl ?_
                refine J_iload E dX5_copy_92 7 rfl ?_
                refine J_si11r E (As := [.int o, .int n]) (c_X2_hasRun l G (sh a 37) (x 11) o n ) cl_X5_218 yo_X2_hasRun dX5_copy_94 rfl (Nat.le_of_ble_eq_true rfl) (Nat.le_of_ble_eq_true rfl) rfl (Nat.le_of_ble_eq_true rfl) ⟨Nat.zero_le _, Nat.zero_le _⟩ ?_
                refine J_if_ne E (tgt := 106) dX5_copy_97 (by decide) (fun c_97 => ?_) (fun c_97 => ?_)
                · skip
                  have c_97 := bI_1 c_97
                  exact absurd ⟨c_85, c_97⟩ hb
                · skip
                  have c_97 := bI_0 c_97
                  refine J_aload_n E dX5_copy_100 rfl 2 rfl ?_
                  refine J_iconst E dX5_copy_101 ic_0 ?_
                  refine J_cVi0 E (As := [.int 0]) (c_X5_tell l G a x 0 (by omega)) cl_X5_64 yo_X5_tell dX5_copy_102 rfl rfl rfl (Nat.le_of_ble_eq_true rfl) (Nat.le_of_ble_eq_true rfl) rfl (Nat.le_of_ble_eq_true rfl) ⟨Nat.zero_le _, Nat.zero_le _⟩ ?_
                  exact ret _ _ _ _ ⟨rfl, _, rfl, by intro g h2 h6; simp [upG, up3, up3R, h2, h6]⟩ rfl dX5_copy_105
            · skip
              exact absurd h3 c_68
          · skip
            have c_49 := bI_1 c_49
            exact absurd c_49 h2
      · skip
        have c_11 := bI_0 c_11
        exact absurd (in3 (by decide)) c_11
  · skip
    refine J_iload_n E dX5_copy_0 rfl 1 rfl ?_
    refine J_cSiN E (As := [.int (nI 1)]) (c_X5_isSheet l G (nI 1) ) cl_X5_202 yo_X5_isSheet dX5_copy_1 rfl (Nat.le_of_ble_eq_true rfl) (Nat.le_of_ble_eq_true rfl) rfl (Nat.le_of_ble_eq_true rfl) ⟨Nat.zero_le _, Nat.zero_le _⟩ ?_
    refine J_if_eq E (tgt := 14) dX5_copy_4 (by decide) (fun c_4 => ?_) (fun c_4 => ?_)
    · skip
      have c_4 := bI_0 c_4
      exact absurd (in3 (by decide)) c_4
    · skip
      have c_4 := bI_1 c_4
      refine J_iload_n E dX5_copy_7 rfl 3 rfl ?_
      refine J_cSiN E (As := [.int (nI 0)]) (c_X5_isSheet l G (nI 0) ) cl_X5_202 yo_X5_isSheet dX5_copy_8 rfl (Nat.le_of_ble_eq_true rfl) (Nat.le_of_ble_eq_true rfl) rfl (Nat.le_of_ble_eq_true rfl) ⟨Nat.zero_le _, Nat.zero_le _⟩ ?_
      refine J_if_ne E (tgt := 20) dX5_copy_11 (by decide) (fun c_11 => ?_) (fun c_11 => ?_)
      · skip
        have c_11 := bI_1 c_11
        refine J_aload_n E dX5_copy_20 rfl 0 rfl ?_
        refine gC0_X5_44 E dX5_copy_21 ?_
        refine J_iload_n E dX5_copy_24 rfl 1 rfl ?_
        refine laC_30_1 E dX5_copy_25 ?_
        refine J_astore E (lv' := [(6, .ref (a 33)), (0, .ref (a 0)), (1, .int (nI 1)), (2, .int f), (3, .int (nI 0)), (4, .int o), (5, .int n)]) dX5_copy_26 (by decide) rfl ?_
        refine J_aload_n E dX5_copy_28 rfl 1 rfl ?_
        refine gC0_X5_44 E dX5_copy_29 ?_
        refine J_iload_n E dX5_copy_32 rfl 4 rfl ?_
        refine laC_30_0 E dX5_copy_33 ?_
        refine J_astore E (lv' := [(7, .ref (a 31)), (6, .ref (a 33)), (0, .ref (a 0)), (1, .int (nI 1)), (2, .int f), (3, .int (nI 0)), (4, .int o), (5, .int n)]) dX5_copy_34 (by decide) rfl ?_
        refine J_aload E dX5_copy_36 1 rfl ?_
        refine J_si9r E (As := []) (c_X2_isMissing l G (sh a 33) (x 9) ) cl_X5_212 yo_X2_isMissing dX5_copy_38 rfl (Nat.le_of_ble_eq_true rfl) (Nat.le_of_ble_eq_true rfl) rfl (Nat.le_of_ble_eq_true rfl) ⟨Nat.zero_le _, Nat.zero_le _⟩ ?_
        refine J_if_ne E (tgt := 52) dX5_copy_41 (by decide) (fun c_41 => ?_) (fun c_41 => ?_)
        · skip
          have c_41 := bI_1 c_41
          exact absurd c_41 h1
        · skip
          have c_41 := bI_0 c_41
          refine J_aload E dX5_copy_44 0 rfl ?_
          refine J_si8r E (As := []) (c_X2_isMissing l G (sh a 31) (x 8) ) cl_X5_212 yo_X2_isMissing dX5_copy_46 rfl (Nat.le_of_ble_eq_true rfl) (Nat.le_of_ble_eq_true rfl) rfl (Nat.le_of_ble_eq_true rfl) ⟨Nat.zero_le _, Nat.zero_le _⟩ ?_
          refine J_if_eq E (tgt := 58) dX5_copy_49 (by decide) (fun c_49 => ?_) (fun c_49 => ?_)
          · skip
            have c_49 := bI_0 c_49
            refine J_aload E dX5_copy_58 1 rfl ?_
            refine gC33_X5_215 E dX5_copy_60 ?_
            refine J_aload E dX5_copy_63 0 rfl ?_
            refine gC31_X5_215 E dX5_copy_65 ?_
            refine J_icmp_eq E (tgt := 77) dX5_copy_68 (by decide) (fun c_68 => ?_) (fun c_68 => ?_)
            · skip
              refine J_aload E dX5_copy_77 1 rfl ?_
              refine J_iload_n E dX5_copy_79 rfl 4 rfl ?_
              refine J_iload E dX5_copy_80 7 rfl ?_
              refine J_si9r E (As := [.int f, .int n]) (c_X2_hasRun l G (sh a 33) (x 9) f n ) cl_X5_218 yo_X2_hasRun dX5_copy_82 rfl (Nat.le_of_ble_eq_true rfl) (Nat.le_of_ble_eq_true rfl) rfl (Nat.le_of_ble_eq_true rfl) ⟨Nat.zero_le _, Nat.zero_le _⟩ ?_
              refine J_if_eq E (tgt := 100) dX5_copy_85 (by decide) (fun c_85 => ?_) (fun c_85 => ?_)
              · skip
                have c_85 := bI_0 c_85
                refine J_aload_n E dX5_copy_100 rfl 2 rfl ?_
                refine J_iconst E dX5_copy_101 ic_0 ?_
                refine J_cVi0 E (As := [.int 0]) (c_X5_tell l G a x 0 (by omega)) cl_X5_64 yo_X5_tell dX5_copy_102 rfl rfl rfl (Nat.le_of_ble_eq_true rfl) (Nat.le_of_ble_eq_true rfl) rfl (Nat.le_of_ble_eq_true rfl) ⟨Nat.zero_le _, Nat.zero_le _⟩ ?_
                exact ret _ _ _ _ ⟨rfl, _, rfl, by intro g h2 h6; simp [upG, up3, up3R, h2, h6]⟩ rfl dX5_copy_105
              · skip
                have c_85 := bI_1 c_85
                refine J_aload E dX5_copy_88 0 rfl ?_
                refine J_iload E dX5_copy_90 6 rfl ?_
                refine J_iload E dX5_copy_92 7 rfl ?_
                refine J_si8r E (As := [.int o, .int n]) (c_X2_hasRun l G (sh a 31) (x 8) o n ) cl_X5_218 yo_X2_hasRun dX5_copy_94 rfl (Nat.le_of_ble_eq_true rfl) (Nat.le_of_ble_eq_true rfl) rfl (Nat.le_of_ble_eq_true rfl) ⟨Nat.zero_le _, Nat.zero_le _⟩ ?_
                refine J_if_ne E (tgt := 106) dX5_copy_97 (by decide) (fun c_97 => ?_) (fun c_97 => ?_)
                · skip
                  have c_97 := bI_1 c_97
                  exact absurd ⟨c_85, c_97⟩ hb
                · skip
                  have c_97 := bI_0 c_97
                  refine J_aload_n E dX5_copy_100 rfl 2 rfl ?_
                  refine J_iconst E dX5_copy_101 ic_0 ?_
                  refine J_cVi0 E (As := [.int 0]) (c_X5_tell l G a x 0 (by omega)) cl_X5_64 yo_X5_tell dX5_copy_102 rfl rfl rfl (Nat.le_of_ble_eq_true rfl) (Nat.le_of_ble_eq_true rfl) rfl (Nat.le_of_ble_eq_true rfl) ⟨Nat.zero_le _, Nat.zero_le _⟩ ?_
                  exact ret _ _ _ _ ⟨rfl, _, rfl, by intro g h2 h6; simp [upG, up3, up3R, h2, h6]⟩ rfl dX5_copy_105
            · skip
              exact absurd h3 c_68
          · skip
            have c_49 := bI_1 c_49
            exact absurd c_49 h2
      · skip
        have c_11 := bI_0 c_11
        exact absurd (in3 (by decide)) c_11
  · skip
    refine J_iload_n E dX5_copy_0 rfl 1 rfl ?_
    refine J_cSiN E (As := [.int (nI 1)]) (c_X5_isSheet l G (nI 1) ) cl_X5_202 yo_X5_isSheet dX5_copy_1 rfl (Nat.le_of_ble_eq_true rfl) (Nat.le_of_ble_eq_true rfl) rfl (Nat.le_of_ble_eq_true rfl) ⟨Nat.zero_le _, Nat.zero_le _⟩ ?_
    refine J_if_eq E (tgt := 14) dX5_copy_4 (by decide) (fun c_4 => ?_) (fun c_4 => ?_)
    · skip
      have c_4 := bI_0 c_4
      exact absurd (in3 (by decide)) c_4
    · skip
      have c_4 := bI_1 c_4
      refine J_iload_n E dX5_copy_7 rfl 3 rfl ?_
      refine J_cSiN E (As := [.int (nI 1)]) (c_X5_isSheet l G (nI 1) ) cl_X5_202 yo_X5_isSheet dX5_copy_8 rfl (Nat.le_of_ble_eq_true rfl) (Nat.le_of_ble_eq_true rfl) rfl (Nat.le_of_ble_eq_true rfl) ⟨Nat.zero_le _, Nat.zero_le _⟩ ?_
      refine J_if_ne E (tgt := 20) dX5_copy_11 (by decide) (fun c_11 => ?_) (fun c_11 => ?_)
      · skip
        have c_11 := bI_1 c_11
        refine J_aload_n E dX5_copy_20 rfl 0 rfl ?_
        refine gC0_X5_44 E dX5_copy_21 ?_
        refine J_iload_n E dX5_copy_24 rfl 1 rfl ?_
        refine laC_30_1 E dX5_copy_25 ?_
        refine J_astore E (lv' := [(6, .ref (a 33)), (0, .ref (a 0)), (1, .int (nI 1)), (2, .int f), (3, .int (nI 1)), (4, .int o), (5, .int n)]) dX5_copy_26 (by decide) rfl ?_
        refine J_aload_n E dX5_copy_28 rfl 1 rfl ?_
        refine gC0_X5_44 E dX5_copy_29 ?_
        refine J_iload_n E dX5_copy_32 rfl 4 rfl ?_
        refine laC_30_1 E dX5_copy_33 ?_
        refine J_astore E (lv' := [(7, .ref (a 33)), (6, .ref (a 33)), (0, .ref (a 0)), (1, .int (nI 1)), (2, .int f), (3, .int (nI 1)), (4, .int o), (5, .int n)]) dX5_copy_34 (by decide) rfl ?_
        refine J_aload E dX5_copy_36 1 rfl ?_
        refine J_si9r E (As := []) (c_X2_isMissing l G (sh a 33) (x 9) ) cl_X5_212 yo_X2_isMissing dX5_copy_38 rfl (Nat.le_of_ble_eq_true rfl) (Nat.le_of_ble_eq_true rfl) rfl (Nat.le_of_ble_eq_true rfl) ⟨Nat.zero_le _, Nat.zero_le _⟩ ?_
        refine J_if_ne E (tgt := 52) dX5_copy_41 (by decide) (fun c_41 => ?_) (fun c_41 => ?_)
        · skip
          have c_41 := bI_1 c_41
          exact absurd c_41 h1
        · skip
          have c_41 := bI_0 c_41
          refine J_aload E dX5_copy_44 0 rfl ?_
          refine J_si9r E (As := []) (c_X2_isMissing l G (sh a 33) (x 9) ) cl_X5_212 yo_X2_isMissing dX5_copy_46 rfl (Nat.le_of_ble_eq_true rfl) (Nat.le_of_ble_eq_true rfl) rfl (Nat.le_of_ble_eq_true rfl) ⟨Nat.zero_le _, Nat.zero_le _⟩ ?_
          refine J_if_eq E (tgt := 58) dX5_copy_49 (by decide) (fun c_49 => ?_) (fun c_49 => ?_)
          · skip
            have c_49 := bI_0 c_49
            refine J_aload E dX5_copy_58 1 rfl ?_
            refine gC33_X5_215 E dX5_copy_60 ?_
            refine J_aload E dX5_copy_63 0 rfl ?_
            refine gC33_X5_215 E dX5_copy_65 ?_
            refine J_icmp_eq E (tgt := 77) dX5_copy_68 (by decide) (fun c_68 => ?_) (fun c_68 => ?_)
            · skip
              refine J_aload E dX5_copy_77 1 rfl ?_
              refine J_iload_n E dX5_copy_79 rfl 4 rfl ?_
              refine J_iload E dX5_copy_80 7 rfl ?_
              refine J_si9r E (As := [.int f, .int n]) (c_X2_hasRun l G (sh a 33) (x 9) f n ) cl_X5_218 yo_X2_hasRun dX5_copy_82 rfl (Nat.le_of_ble_eq_true rfl) (Nat.le_of_ble_eq_true rfl) rfl (Nat.le_of_ble_eq_true rfl) ⟨Nat.zero_le _, Nat.zero_le _⟩ ?_
              refine J_if_eq E (tgt := 100) dX5_copy_85 (by decide) (fun c_85 => ?_) (fun c_85 => ?_)
              · skip
                have c_85 := bI_0 c_85
                refine J_aload_n E dX5_copy_100 rfl 2 rfl ?_
                refine J_iconst E dX5_copy_101 ic_0 ?_
                refine J_cVi0 E (As := [.int 0]) (c_X5_tell l G a x 0 (by omega)) cl_X5_64 yo_X5_tell dX5_copy_102 rfl rfl rfl (Nat.le_of_ble_eq_true rfl) (Nat.le_of_ble_eq_true rfl) rfl (Nat.le_of_ble_eq_true rfl) ⟨Nat.zero_le _, Nat.zero_le _⟩ ?_
                exact ret _ _ _ _ ⟨rfl, _, rfl, by intro g h2 h6; simp [upG, up3, up3R, h2, h6]⟩ rfl dX5_copy_105
              · skip
                have c_85 := bI_1 c_85
                refine J_aload E dX5_copy_88 0 rfl ?_
                refine J_iload E dX5_copy_90 6 rfl ?_
                refine J_iload E dX5_copy_92 7 rfl ?_
                refine J_si9r E (As := [.int o, .int n]) (c_X2_hasRun l G (sh a 33) (x 9) o n ) cl_X5_218 yo_X2_hasRun dX5_copy_94 rfl (Nat.le_of_ble_eq_true rfl) (Nat.le_of_ble_eq_true rfl) rfl (Nat.le_of_ble_eq_true rfl) ⟨Nat.zero_le _, Nat.zero_le _⟩ ?_
                refine J_if_ne E (tgt := 106) dX5_copy_97 (by decide) (fun c_97 => ?_) (fun c_97 => ?_)
                · skip
                  have c_97 := bI_1 c_97
                  exact absurd ⟨c_85, c_97⟩ hb
                · skip
                  have c_97 := bI_0 c_97
                  refine J_aload_n E dX5_copy_100 rfl 2 rfl ?_
                  refine J_iconst E dX5_copy_101 ic_0 ?_
                  refine J_cVi0 E (As := [.int 0]) (c_X5_tell l G a x 0 (by omega)) cl_X5_64 yo_X5_tell dX5_copy_102 rfl rfl rfl (Nat.le_of_ble_eq_true rfl) (Nat.le_of_ble_eq_true rfl) rfl (Nat.le_of_ble_eq_true rfl) ⟨Nat.zero_le _, Nat.zero_le _⟩ ?_
                  exact ret _ _ _ _ ⟨rfl, _, rfl, by intro g h2 h6; simp [upG, up3, up3R, h2, h6]⟩ rfl dX5_copy_105
            · skip
              exact absurd h3 c_68
          · skip
            have c_49 := bI_1 c_49
            exact absurd c_49 h2
      · skip
        have c_11 := bI_0 c_11
        exact absurd (in3 (by decide)) c_11
  · skip
    refine J_iload_n E dX5_copy_0 rfl 1 rfl ?_
    refine J_cSiN E (As := [.int (nI 1)]) (c_X5_isSheet l G (nI 1) ) cl_X5_202 yo_X5_isSheet dX5_copy_1 rfl (Nat.le_of_ble_eq_true rfl) (Nat.le_of_ble_eq_true rfl) rfl (Nat.le_of_ble_eq_true rfl) ⟨Nat.zero_le _, Nat.zero_le _⟩ ?_
    refine J_if_eq E (tgt := 14) dX5_copy_4 (by decide) (fun c_4 => ?_) (fun c_4 => ?_)
    · skip
      have c_4 := bI_0 c_4
      exact absurd (in3 (by decide)) c_4
    · skip
      have c_4 := bI_1 c_4
      refine J_iload_n E dX5_copy_7 rfl 3 rfl ?_
      refine J_cSiN E (As := [.int (nI 2)]) (c_X5_isSheet l G (nI 2) ) cl_X5_202 yo_X5_isSheet dX5_copy_8 rfl (Nat.le_of_ble_eq_true rfl) (Nat.le_of_ble_eq_true rfl) rfl (Nat.le_of_ble_eq_true rfl) ⟨Nat.zero_le _, Nat.zero_le _⟩ ?_
      refine J_if_ne E (tgt := 20) dX5_copy_11 (by decide) (fun c_11 => ?_) (fun c_11 => ?_)
      · skip
        have c_11 := bI_1 c_11
        refine J_aload_n E dX5_copy_20 rfl 0 rfl ?_
        refine gC0_X5_44 E dX5_copy_21 ?_
        refine J_iload_n E dX5_copy_24 rfl 1 rfl ?_
        refine laC_30_1 E dX5_copy_25 ?_
        refine J_astore E (lv' := [(6, .ref (a 33)), (0, .ref (a 0)), (1, .int (nI 1)), (2, .int f), (3, .int (nI 2)), (4, .int o), (5, .int n)]) dX5_copy_26 (by decide) rfl ?_
        refine J_aload_n E dX5_copy_28 rfl 1 rfl ?_
        refine gC0_X5_44 E dX5_copy_29 ?_
        refine J_iload_n E dX5_copy_32 rfl 4 rfl ?_
        refine laC_30_2 E dX5_copy_33 ?_
        refine J_astore E (lv' := [(7, .ref (a 35)), (6, .ref (a 33)), (0, .ref (a 0)), (1, .int (nI 1)), (2, .int f), (3, .int (nI 2)), (4, .int o), (5, .int n)]) dX5_copy_34 (by decide) rfl ?_
        refine J_aload E dX5_copy_36 1 rfl ?_
        refine J_si9r E (As := []) (c_X2_isMissing l G (sh a 33) (x 9) ) cl_X5_212 yo_X2_isMissing dX5_copy_38 rfl (Nat.le_of_ble_eq_true rfl) (Nat.le_of_ble_eq_true rfl) rfl (Nat.le_of_ble_eq_true rfl) ⟨Nat.zero_le _, Nat.zero_le _⟩ ?_
        refine J_if_ne E (tgt := 52) dX5_copy_41 (by decide) (fun c_41 => ?_) (fun c_41 => ?_)
        · skip
          have c_41 := bI_1 c_41
          exact absurd c_41 h1
        · skip
          have c_41 := bI_0 c_41
          refine J_aload E dX5_copy_44 0 rfl ?_
          refine J_si10r E (As := []) (c_X2_isMissing l G (sh a 35) (x 10) ) cl_X5_212 yo_X2_isMissing dX5_copy_46 rfl (Nat.le_of_ble_eq_true rfl) (Nat.le_of_ble_eq_true rfl) rfl (Nat.le_of_ble_eq_true rfl) ⟨Nat.zero_le _, Nat.zero_le _⟩ ?_
          refine J_if_eq E (tgt := 58) dX5_copy_49 (by decide) (fun c_49 => ?_) (fun c_49 => ?_)
          · skip
            have c_49 := bI_0 c_49
            refine J_aload E dX5_copy_58 1 rfl ?_
            refine gC33_X5_215 E dX5_copy_60 ?_
            refine J_aload E dX5_copy_63 0 rfl ?_
            refine gC35_X5_215 E dX5_copy_65 ?_
            refine J_icmp_eq E (tgt := 77) dX5_copy_68 (by decide) (fun c_68 => ?_) (fun c_68 => ?_)
            · skip
              refine J_aload E dX5_copy_77 1 rfl ?_
              refine J_iload_n E dX5_copy_79 rfl 4 rfl ?_
              refine J_iload E dX5_copy_80 7 rfl ?_
              refine J_si9r E (As := [.int f, .int n]) (c_X2_hasRun l G (sh a 33) (x 9) f n ) cl_X5_218 yo_X2_hasRun dX5_copy_82 rfl (Nat.le_of_ble_eq_true rfl) (Nat.le_of_ble_eq_true rfl) rfl (Nat.le_of_ble_eq_true rfl) ⟨Nat.zero_le _, Nat.zero_le _⟩ ?_
              refine J_if_eq E (tgt := 100) dX5_copy_85 (by decide) (fun c_85 => ?_) (fun c_85 => ?_)
              · skip
                have c_85 := bI_0 c_85
                refine J_aload_n E dX5_copy_100 rfl 2 rfl ?_
                refine J_iconst E dX5_copy_101 ic_0 ?_
                refine J_cVi0 E (As := [.int 0]) (c_X5_tell l G a x 0 (by omega)) cl_X5_64 yo_X5_tell dX5_copy_102 rfl rfl rfl (Nat.le_of_ble_eq_true rfl) (Nat.le_of_ble_eq_true rfl) rfl (Nat.le_of_ble_eq_true rfl) ⟨Nat.zero_le _, Nat.zero_le _⟩ ?_
                exact ret _ _ _ _ ⟨rfl, _, rfl, by intro g h2 h6; simp [upG, up3, up3R, h2, h6]⟩ rfl dX5_copy_105
              · skip
                have c_85 := bI_1 c_85
                refine J_aload E dX5_copy_88 0 rfl ?_
                refine J_iload E dX5_copy_90 6 rfl ?_
                refine J_iload E dX5_copy_92 7 rfl ?_
                refine J_si10r E (As := [.int o, .int n]) (c_X2_hasRun l G (sh a 35) (x 10) o n ) cl_X5_218 yo_X2_hasRun dX5_copy_94 rfl (Nat.le_of_ble_eq_true rfl) (Nat.le_of_ble_eq_true rfl) rfl (Nat.le_of_ble_eq_true rfl) ⟨Nat.zero_le _, Nat.zero_le _⟩ ?_
                refine J_if_ne E (tgt := 106) dX5_copy_97 (by decide) (fun c_97 => ?_) (fun c_97 => ?_)
                · skip
                  have c_97 := bI_1 c_97
                  exact absurd ⟨c_85, c_97⟩ hb
                · skip
                  have c_97 := bI_0 c_97
                  refine J_aload_n E dX5_copy_100 rfl 2 rfl ?_
                  refine J_iconst E dX5_copy_101 ic_0 ?_
                  refine J_cVi0 E (As := [.int 0]) (c_X5_tell l G a x 0 (by omega)) cl_X5_64 yo_X5_tell dX5_copy_102 rfl rfl rfl (Nat.le_of_ble_eq_true rfl) (Nat.le_of_ble_eq_true rfl) rfl (Nat.le_of_ble_eq_true rfl) ⟨Nat.zero_le _, Nat.zero_le _⟩ ?_
                  exact ret _ _ _ _ ⟨rfl, _, rfl, by intro g h2 h6; simp [upG, up3, up3R, h2, h6]⟩ rfl dX5_copy_105
            · skip
              exact absurd h3 c_68
          · skip
            have c_49 := bI_1 c_49
            exact absurd c_49 h2
      · skip
        have c_11 := bI_0 c_11
        exact absurd (in3 (by decide)) c_11
  · skip
    refine J_iload_n E dX5_copy_0 rfl 1 rfl ?_
    refine J_cSiN E (As := [.int (nI 1)]) (c_X5_isSheet l G (nI 1) ) cl_X5_202 yo_X5_isSheet dX5_copy_1 rfl (Nat.le_of_ble_eq_true rfl) (Nat.le_of_ble_eq_true rfl) rfl (Nat.le_of_ble_eq_true rfl) ⟨Nat.zero_le _, Nat.zero_le _⟩ ?_
    refine J_if_eq E (tgt := 14) dX5_copy_4 (by decide) (fun c_4 => ?_) (fun c_4 => ?_)
    · skip
      have c_4 := bI_0 c_4
      exact absurd (in3 (by decide)) c_4
    · skip
      have c_4 := bI_1 c_4
      refine J_iload_n E dX5_copy_7 rfl 3 rfl ?_
      refine J_cSiN E (As := [.int (nI 3)]) (c_X5_isSheet l G (nI 3) ) cl_X5_202 yo_X5_isSheet dX5_copy_8 rfl (Nat.le_of_ble_eq_true rfl) (Nat.le_of_ble_eq_true rfl) rfl (Nat.le_of_ble_eq_true rfl) ⟨Nat.zero_le _, Nat.zero_le _⟩ ?_
      refine J_if_ne E (tgt := 20) dX5_copy_11 (by decide) (fun c_11 => ?_) (fun c_11 => ?_)
      · skip
        have c_11 := bI_1 c_11
        refine J_aload_n E dX5_copy_20 rfl 0 rfl ?_
        refine gC0_X5_44 E dX5_copy_21 ?_
        refine J_iload_n E dX5_copy_24 rfl 1 rfl ?_
        refine laC_30_1 E dX5_copy_25 ?_
        refine J_astore E (lv' := [(6, .ref (a 33)), (0, .ref (a 0)), (1, .int (nI 1)), (2, .int f), (3, .int (nI 3)), (4, .int o), (5, .int n)]) dX5_copy_26 (by decide) rfl ?_
        refine J_aload_n E dX5_copy_28 rfl 1 rfl ?_
        refine gC0_X5_44 E dX5_copy_29 ?_
        refine J_iload_n E dX5_copy_32 rfl 4 rfl ?_
        refine laC_30_3 E dX5_copy_33 ?_
        refine J_astore E (lv' := [(7, .ref (a 37)), (6, .ref (a 33)), (0, .ref (a 0)), (1, .int (nI 1)), (2, .int f), (3, .int (nI 3)), (4, .int o), (5, .int n)]) dX5_copy_34 (by decide) rfl ?_
        refine J_aload E dX5_copy_36 1 rfl ?_
        refine J_si9r E (As := []) (c_X2_isMissing l G (sh a 33) (x 9) ) cl_X5_212 yo_X2_isMissing dX5_copy_38 rfl (Nat.le_of_ble_eq_true rfl) (Nat.le_of_ble_eq_true rfl) rfl (Nat.le_of_ble_eq_true rfl) ⟨Nat.zero_le _, Nat.zero_le _⟩ ?_
        refine J_if_ne E (tgt := 52) dX5_copy_41 (by decide) (fun c_41 => ?_) (fun c_41 => ?_)
        · skip
          have c_41 := bI_1 c_41
          exact absurd c_41 h1
        · skip
          have c_41 := bI_0 c_41
          refine J_aload E dX5_copy_44 0 rfl ?_
          refine J_si11r E (As := []) (c_X2_isMissing l G (sh a 37) (x 11) ) cl_X5_212 yo_X2_isMissing dX5_copy_46 rfl (Nat.le_of_ble_eq_true rfl) (Nat.le_of_ble_eq_true rfl) rfl (Nat.le_of_ble_eq_true rfl) ⟨Nat.zero_le _, Nat.zero_le _⟩ ?_
          refine J_if_eq E (tgt := 58) dX5_copy_49 (by decide) (fun c_49 => ?_) (fun c_49 => ?_)
          · skip
            have c_49 := bI_0 c_49
            refine J_aload E dX5_copy_58 1 rfl ?_
            refine gC33_X5_215 E dX5_copy_60 ?_
            refine J_aload E dX5_copy_63 0 rfl ?_
            refine gC37_X5_215 E dX5_copy_65 ?_
            refine J_icmp_eq E (tgt := 77) dX5_copy_68 (by decide) (fun c_68 => ?_) (fun c_68 => ?_)
            · skip
              refine J_aload E dX5_copy_77 1 rfl ?_
              refine J_iload_n E dX5_copy_79 rfl 4 rfl ?_
              refine J_iload E dX5_copy_80 7 rfl ?_
              refine J_si9r E (As := [.int f, .int n]) (c_X2_hasRun l G (sh a 33) (x 9) f n ) cl_X5_218 yo_X2_hasRun dX5_copy_82 rfl (Nat.le_of_ble_eq_true rfl) (Nat.le_of_ble_eq_true rfl) rfl (Nat.le_of_ble_eq_true rfl) ⟨Nat.zero_le _, Nat.zero_le _⟩ ?_
              refine J_if_eq E (tgt := 100) dX5_copy_85 (by decide) (fun c_85 => ?_) (fun c_85 => ?_)
              · skip
                have c_85 := bI_0 c_85
                refine J_aload_n E dX5_copy_100 rfl 2 rfl ?_
                refine J_iconst E dX5_copy_101 ic_0 ?_
                refine J_cVi0 E (As := [.int 0]) (c_X5_tell l G a x 0 (by omega)) cl_X5_64 yo_X5_tell dX5_copy_102 rfl rfl rfl (Nat.le_of_ble_eq_true rfl) (Nat.le_of_ble_eq_true rfl) rfl (Nat.le_of_ble_eq_true rfl) ⟨Nat.zero_le _, Nat.zero_le _⟩ ?_
                exact ret _ _ _ _ ⟨rfl, _, rfl, by intro g h2 h6; simp [upG, up3, up3R, h2, h6]⟩ rfl dX5_copy_105
              · skip
                have c_85 := bI_1 c_85
                refine J_aload E dX5_copy_88 0 rfl ?_
                refine J_iload E dX5_copy_90 6 rfl ?_
                refine J_iload E dX5_copy_92 7 rfl ?_
                refine J_si11r E (As := [.int o, .int n]) (c_X2_hasRun l G (sh a 37) (x 11) o n ) cl_X5_218 yo_X2_hasRun dX5_copy_94 rfl (Nat.le_of_ble_eq_true rfl) (Nat.le_of_ble_eq_true rfl) rfl (Nat.le_of_ble_eq_true rfl) ⟨Nat.zero_le _, Nat.zero_le _⟩ ?_
                refine J_if_ne E (tgt := 106) dX5_copy_97 (by decide) (fun c_97 => ?_) (fun c_97 => ?_)
                · skip
                  have c_97 := bI_1 c_97
                  exact absurd ⟨c_85, c_97⟩ hb
                · skip
                  have c_97 := bI_0 c_97
                  refine J_aload_n E dX5_copy_100 rfl 2 rfl ?_
                  refine J_iconst E dX5_copy_101 ic_0 ?_
                  refine J_cVi0 E (As := [.int 0]) (c_X5_tell l G a x 0 (by omega)) cl_X5_64 yo_X5_tell dX5_copy_102 rfl rfl rfl (Nat.le_of_ble_eq_true rfl) (Nat.le_of_ble_eq_true rfl) rfl (Nat.le_of_ble_eq_true rfl) ⟨Nat.zero_le _, Nat.zero_le _⟩ ?_
                  exact ret _ _ _ _ ⟨rfl, _, rfl, by intro g h2 h6; simp [upG, up3, up3R, h2, h6]⟩ rfl dX5_copy_105
            · skip
              exact absurd h3 c_68
          · skip
            have c_49 := bI_1 c_49
            exact absurd c_49 h2
      · skip
        have c_11 := bI_0 c_11
        exact absurd (in3 (by decide)) c_11
  · skip
    refine J_iload_n E dX5_copy_0 rfl 1 rfl ?_
    refine J_cSiN E (As := [.int (nI 2)]) (c_X5_isSheet l G (nI 2) ) cl_X5_202 yo_X5_isSheet dX5_copy_1 rfl (Nat.le_of_ble_eq_true rfl) (Nat.le_of_ble_eq_true rfl) rfl (Nat.le_of_ble_eq_true rfl) ⟨Nat.zero_le _, Nat.zero_le _⟩ ?_
    refine J_if_eq E (tgt := 14) dX5_copy_4 (by decide) (fun c_4 => ?_) (fun c_4 => ?_)
    · skip
      have c_4 := bI_0 c_4
      exact absurd (in3 (by decide)) c_4
    · skip
      have c_4 := bI_1 c_4
      refine J_iload_n E dX5_copy_7 rfl 3 rfl ?_
      refine J_cSiN E (As := [.int (nI 0)]) (c_X5_isSheet l G (nI 0) ) cl_X5_202 yo_X5_isSheet dX5_copy_8 rfl (Nat.le_of_ble_eq_true rfl) (Nat.le_of_ble_eq_true rfl) rfl (Nat.le_of_ble_eq_true rfl) ⟨Nat.zero_le _, Nat.zero_le _⟩ ?_
      refine J_if_ne E (tgt := 20) dX5_copy_11 (by decide) (fun c_11 => ?_) (fun c_11 => ?_)
      · skip
        have c_11 := bI_1 c_11
        refine J_aload_n E dX5_copy_20 rfl 0 rfl ?_
        refine gC0_X5_44 E dX5_copy_21 ?_
        refine J_iload_n E dX5_copy_24 rfl 1 rfl ?_
        refine laC_30_2 E dX5_copy_25 ?_
        refine J_astore E (lv' := [(6, .ref (a 35)), (0, .ref (a 0)), (1, .int (nI 2)), (2, .int f), (3, .int (nI 0)), (4, .int o), (5, .int n)]) dX5_copy_26 (by decide) rfl ?_
        refine J_aload_n E dX5_copy_28 rfl 1 rfl ?_
        refine gC0_X5_44 E dX5_copy_29 ?_
        refine J_iload_n E dX5_copy_32 rfl 4 rfl ?_
        refine laC_30_0 E dX5_copy_33 ?_
        refine J_astore E (lv' := [(7, .ref (a 31)), (6, .ref (a 35)), (0, .ref (a 0)), (1, .int (nI 2)), (2, .int f), (3, .int (nI 0)), (4, .int o), (5, .int n)]) dX5_copy_34 (by decide) rfl ?_
        refine J_aload E dX5_copy_36 1 rfl ?_
        refine J_si10r E (As := []) (c_X2_isMissing l G (sh a 35) (x 10) ) cl_X5_212 yo_X2_isMissing dX5_copy_38 rfl (Nat.le_of_ble_eq_true rfl) (Nat.le_of_ble_eq_true rfl) rfl (Nat.le_of_ble_eq_true rfl) ⟨Nat.zero_le _, Nat.zero_le _⟩ ?_
        refine J_if_ne E (tgt := 52) dX5_copy_41 (by decide) (fun c_41 => ?_) (fun c_41 => ?_)
        · skip
          have c_41 := bI_1 c_41
          exact absurd c_41 h1
        · skip
          have c_41 := bI_0 c_41
          refine J_aload E dX5_copy_44 0 rfl ?_
          refine J_si8r E (As := []) (c_X2_isMissing l G (sh a 31) (x 8) ) cl_X5_212 yo_X2_isMissing dX5_copy_46 rfl (Nat.le_of_ble_eq_true rfl) (Nat.le_of_ble_eq_true rfl) rfl (Nat.le_of_ble_eq_true rfl) ⟨Nat.zero_le _, Nat.zero_le _⟩ ?_
          refine J_if_eq E (tgt := 58) dX5_copy_49 (by decide) (fun c_49 => ?_) (fun c_49 => ?_)
          · skip
            have c_49 := bI_0 c_49
            refine J_aload E dX5_copy_58 1 rfl ?_
            refine gC35_X5_215 E dX5_copy_60 ?_
            refine J_aload E dX5_copy_63 0 rfl ?_
            refine gC31_X5_215 E dX5_copy_65 ?_
            refine J_icmp_eq E (tgt := 77) dX5_copy_68 (by decide) (fun c_68 => ?_) (fun c_68 => ?_)
            · skip
              refine J_aload E dX5_copy_77 1 rfl ?_
              refine J_iload_n E dX5_copy_79 rfl 4 rfl ?_
              refine J_iload E dX5_copy_80 7 rfl ?_
              refine J_si10r E (As := [.int f, .int n]) (c_X2_hasRun l G (sh a 35) (x 10) f n ) cl_X5_218 yo_X2_hasRun dX5_copy_82 rfl (Nat.le_of_ble_eq_true rfl) (Nat.le_of_ble_eq_true rfl) rfl (Nat.le_of_ble_eq_true rfl) ⟨Nat.zero_le _, Nat.zero_le _⟩ ?_
              refine J_if_eq E (tgt := 100) dX5_copy_85 (by decide) (fun c_85 => ?_) (fun c_85 => ?_)
              · skip
                have c_85 := bI_0 c_85
                refine J_aload_n E dX5_copy_100 rfl 2 rfl ?_
                refine J_iconst E dX5_copy_101 ic_0 ?_
                refine J_cVi0 E (As := [.int 0]) (c_X5_tell l G a x 0 (by omega)) cl_X5_64 yo_X5_tell dX5_copy_102 rfl rfl rfl (Nat.le_of_ble_eq_true rfl) (Nat.le_of_ble_eq_true rfl) rfl (Nat.le_of_ble_eq_true rfl) ⟨Nat.zero_le _, Nat.zero_le _⟩ ?_
                exact ret _ _ _ _ ⟨rfl, _, rfl, by intro g h2 h6; simp [upG, up3, up3R, h2, h6]⟩ rfl dX5_copy_105
              · skip
                have c_85 := bI_1 c_85
                refine J_aload E dX5_copy_88 0 rfl ?_
                refine J_iload E dX5_copy_90 6 rfl ?_
                refine J_iload E dX5_copy_92 7 rfl ?_
                refine J_si8r E (As := [.int o, .int n]) (c_X2_hasRun l G (sh a 31) (x 8) o n ) cl_X5_218 yo_X2_hasRun dX5_copy_94 rfl (Nat.le_of_ble_eq_true rfl) (Nat.le_of_ble_eq_true rfl) rfl (Nat.le_of_ble_eq_true rfl) ⟨Nat.zero_le _, Nat.zero_le _⟩ ?_
                refine J_if_ne E (tgt := 106) dX5_copy_97 (by decide) (fun c_97 => ?_) (fun c_97 => ?_)
                · skip
                  have c_97 := bI_1 c_97
                  exact absurd ⟨c_85, c_97⟩ hb
                · skip
                  have c_97 := bI_0 c_97
                  refine J_aload_n E dX5_copy_100 rfl 2 rfl ?_
                  refine J_iconst E dX5_copy_101 ic_0 ?_
                  refine J_cVi0 E (As := [.int 0]) (c_X5_tell l G a x 0 (by omega)) cl_X5_64 yo_X5_tell dX5_copy_102 rfl rfl rfl (Nat.le_of_ble_eq_true rfl) (Nat.le_of_ble_eq_true rfl) rfl (Nat.le_of_ble_eq_true rfl) ⟨Nat.zero_le _, Nat.zero_le _⟩ ?_
                  exact ret _ _ _ _ ⟨rfl, _, rfl, by intro g h2 h6; simp [upG, up3, up3R, h2, h6]⟩ rfl dX5_copy_105
            · skip
              exact absurd h3 c_68
          · skip
            have c_49 := bI_1 c_49
            exact absurd c_49 h2
      · skip
        have c_11 := bI_0 c_11
        exact absurd (in3 (by decide)) c_11
  · skip
    refine J_iload_n E dX5_copy_0 rfl 1 rfl ?_
    refine J_cSiN E (As := [.int (nI 2)]) (c_X5_isSheet l G (nI 2) ) cl_X5_202 yo_X5_isSheet dX5_copy_1 rfl (Nat.le_of_ble_eq_true rfl) (Nat.le_of_ble_eq_true rfl) rfl (Nat.le_of_ble_eq_true rfl) ⟨Nat.zero_le _, Nat.zero_le _⟩ ?_
    refine J_if_eq E (tgt := 14) dX5_copy_4 (by decide) (fun c_4 => ?_) (fun c_4 => ?_)
    · skip
      have c_4 := bI_0 c_4
      exact absurd (in3 (by decide)) c_4
    · skip
      have c_4 := bI_1 c_4
      refine J_iload_n E dX5_copy_7 rfl 3 rfl ?_
      refine J_cSiN E (As := [.int (nI 1)]) (c_X5_isSheet l G (nI 1) ) cl_X5_202 yo_X5_isSheet dX5_copy_8 rfl (Nat.le_of_ble_eq_true rfl) (Nat.le_of_ble_eq_true rfl) rfl (Nat.le_of_ble_eq_true rfl) ⟨Nat.zero_le _, Nat.zero_le _⟩ ?_
      refine J_if_ne E (tgt := 20) dX5_copy_11 (by decide) (fun c_11 => ?_) (fun c_11 => ?_)
      · skip
        have c_11 := bI_1 c_11
        refine J_aload_n E dX5_copy_20 rfl 0 rfl ?_
        refine gC0_X5_44 E dX5_copy_21 ?_
        refine J_iload_n E dX5_copy_24 rfl 1 rfl ?_
        refine laC_30_2 E dX5_copy_25 ?_
        refine J_astore E (lv' := [(6, .ref (a 35)), (0, .ref (a 0)), (1, .int (nI 2)), (2, .int f), (3, .int (nI 1)), (4, .int o), (5, .int n)]) dX5_copy_26 (by decide) rfl ?_
        refine J_aload_n E dX5_copy_28 rfl 1 rfl ?_
        refine gC0_X5_44 E dX5_copy_29 ?_
        refine J_iload_n E dX5_copy_32 rfl 4 rfl ?_
        refine laC_30_1 E dX5_copy_33 ?_
        refine J_astore E (lv' := [(7, .ref (a 33)), (6, .ref (a 35)), (0, .ref (a 0)), (1, .int (nI 2)), (2, .int f), (3, .int (nI 1)), (4, .int o), (5, .int n)]) dX5_copy_34 (by decide) rfl ?_
        refine J_aload E dX5_copy_36 1 rfl ?_
        refine J_si10r E (As := []) (c_X2_isMissing l G (sh a 35) (x 10) ) cl_X5_212 yo_X2_isMissing dX5_copy_38 rfl (Nat.le_of_ble_eq_true rfl) (Nat.le_of_ble_eq_true rfl) rfl (Nat.le_of_ble_eq_true rfl) ⟨Nat.zero_le _, Nat.zero_le _⟩ ?_
        refine J_if_ne E (tgt := 52) dX5_copy_41 (by decide) (fun c_41 => ?_) (fun c_41 => ?_)
        · skip
          have c_41 := bI_1 c_41
          exact absurd c_41 h1
        · skip
          have c_41 := bI_0 c_41
          refine J_aload E dX5_copy_44 0 rfl ?_
          refine J_si9r E (As := []) (c_X2_isMissing l G (sh a 33) (x 9) ) cl_X5_212 yo_X2_isMissing dX5_copy_46 rfl (Nat.le_of_ble_eq_true rfl) (Nat.le_of_ble_eq_true rfl) rfl (Nat.le_of_ble_eq_true rfl) ⟨Nat.zero_le _, Nat.zero_le _⟩ ?_
          refine J_if_eq E (tgt := 58) dX5_copy_49 (by decide) (fun c_49 => ?_) (fun c_49 => ?_)
          · skip
            have c_49 := bI_0 c_49
            refine J_aload E dX5_copy_58 1 rfl ?_
            refine gC35_X5_215 E dX5_copy_60 ?_
            refine J_aload E dX5_copy_63 0 rfl ?_
            refine gC33_X5_215 E dX5_copy_65 ?_
            refine J_icmp_eq E (tgt := 77) dX5_copy_68 (by decide) (fun c_68 => ?_) (fun c_68 => ?_)
            · skip
              refine J_aload E dX5_copy_77 1 rfl ?_
              refine J_iload_n E dX5_copy_79 rfl 4 rfl ?_
              refine J_iload E dX5_copy_80 7 rfl ?_
              refine J_si10r E (As := [.int f, .int n]) (c_X2_hasRun l G (sh a 35) (x 10) f n ) cl_X5_218 yo_X2_hasRun dX5_copy_82 rfl (Nat.le_of_ble_eq_true rfl) (Nat.le_of_ble_eq_true rfl) rfl (Nat.le_of_ble_eq_true rfl) ⟨Nat.zero_le _, Nat.zero_le _⟩ ?_
              refine J_if_eq E (tgt := 100) dX5_copy_85 (by decide) (fun c_85 => ?_) (fun c_85 => ?_)
              · skip
                have c_85 := bI_0 c_85
                refine J_aload_n E dX5_copy_100 rfl 2 rfl ?_
                refine J_iconst E dX5_copy_101 ic_0 ?_
                refine J_cVi0 E (As := [.int 0]) (c_X5_tell l G a x 0 (by omega)) cl_X5_64 yo_X5_tell dX5_copy_102 rfl rfl rfl (Nat.le_of_ble_eq_true rfl) (Nat.le_of_ble_eq_true rfl) rfl (Nat.le_of_ble_eq_true rfl) ⟨Nat.zero_le _, Nat.zero_le _⟩ ?_
                exact ret _ _ _ _ ⟨rfl, _, rfl, by intro g h2 h6; simp [upG, up3, up3R, h2, h6]⟩ rfl dX5_copy_105
              · skip
                have c_85 := bI_1 c_85
                refine J_aload E dX5_copy_88 0 rfl ?_
                refine J_iload E dX5_copy_90 6 rfl ?_
                refine J_iload E dX5_copy_92 7 rfl ?_
                refine J_si9r E (As := [.int o, .int n]) (c_X2_hasRun l G (sh a 33) (x 9) o n ) cl_X5_218 yo_X2_hasRun dX5_copy_94 rfl (Nat.le_of_ble_eq_true rfl) (Nat.le_of_ble_eq_true rfl) rfl (Nat.le_of_ble_eq_true rfl) ⟨Nat.zero_le _, Nat.zero_le _⟩ ?_
                refine J_if_ne E (tgt := 106) dX5_copy_97 (by decide) (fun c_97 => ?_) (fun c_97 => ?_)
                · skip
                  have c_97 := bI_1 c_97
                  exact absurd ⟨c_85, c_97⟩ hb
                · skip
                  have c_97 := bI_0 c_97
                  refine J_aload_n E dX5_copy_100 rfl 2 rfl ?_
                  refine J_iconst E dX5_copy_101 ic_0 ?_
                  refine J_cVi0 E (As := [.int 0]) (c_X5_tell l G a x 0 (by omega)) cl_X5_64 yo_X5_tell dX5_copy_102 rfl rfl rfl (Nat.le_of_ble_eq_true rfl) (Nat.le_of_ble_eq_true rfl) rfl (Nat.le_of_ble_eq_true rfl) ⟨Nat.zero_le _, Nat.zero_le _⟩ ?_
                  exact ret _ _ _ _ ⟨rfl, _, rfl, by intro g h2 h6; simp [upG, up3, up3R, h2, h6]⟩ rfl dX5_copy_105
            · skip
              exact absurd h3 c_68
          · skip
            have c_49 := bI_1 c_49
            exact absurd c_49 h2
      · skip
        have c_11 := bI_0 c_11
        exact absurd (in3 (by decide)) c_11
  · skip
    refine J_iload_n E dX5_copy_0 rfl 1 rfl ?_
    refine J_cSiN E (As := [.int (nI 2)]) (c_X5_isSheet l G (nI 2) ) cl_X5_202 yo_X5_isSheet dX5_copy_1 rfl (Nat.le_of_ble_eq_true rfl) (Nat.le_of_ble_eq_true rfl) rfl (Nat.le_of_ble_eq_true rfl) ⟨Nat.zero_le _, Nat.zero_le _⟩ ?_
    refine J_if_eq E (tgt := 14) dX5_copy_4 (by decide) (fun c_4 => ?_) (fun c_4 => ?_)
    · skip
      have c_4 := bI_0 c_4
      exact absurd (in3 (by decide)) c_4
    · skip
      have c_4 := bI_1 c_4
      refine J_iload_n E dX5_copy_7 rfl 3 rfl ?_
      refine J_cSiN E (As := [.int (nI 2)]) (c_X5_isSheet l G (nI 2) ) cl_X5_202 yo_X5_isSheet dX5_copy_8 rfl (Nat.le_of_ble_eq_true rfl) (Nat.le_of_ble_eq_true rfl) rfl (Nat.le_of_ble_eq_true rfl) ⟨Nat.zero_le _, Nat.zero_le _⟩ ?_
      refine J_if_ne E (tgt := 20) dX5_copy_11 (by decide) (fun c_11 => ?_) (fun c_11 => ?_)
      · skip
        have c_11 := bI_1 c_11
        refine J_aload_n E dX5_copy_20 rfl 0 rfl ?_
        refine gC0_X5_44 E dX5_copy_21 ?_
        refine J_iload_n E dX5_copy_24 rfl 1 rfl ?_
        refine laC_30_2 E dX5_copy_25 ?_
        refine J_astore E (lv' := [(6, .ref (a 35)), (0, .ref (a 0)), (1, .int (nI 2)), (2, .int f), (3, .int (nI 2)), (4, .int o), (5, .int n)]) dX5_copy_26 (by decide) rfl ?_
        refine J_aload_n E dX5_copy_28 rfl 1 rfl ?_
        refine gC0_X5_44 E dX5_copy_29 ?_
        refine J_iload_n E dX5_copy_32 rfl 4 rfl ?_
        refine laC_30_2 E dX5_copy_33 ?_
        refine J_astore E (lv' := [(7, .ref (a 35)), (6, .ref (a 35)), (0, .ref (a 0)), (1, .int (nI 2)), (2, .int f), (3, .int (nI 2)), (4, .int o), (5, .int n)]) dX5_copy_34 (by decide) rfl ?_
        refine J_aload E dX5_copy_36 1 rfl ?_
        refine J_si10r E (As := []) (c_X2_isMissing l G (sh a 35) (x 10) ) cl_X5_212 yo_X2_isMissing dX5_copy_38 rfl (Nat.le_of_ble_eq_true rfl) (Nat.le_of_ble_eq_true rfl) rfl (Nat.le_of_ble_eq_true rfl) ⟨Nat.zero_le _, Nat.zero_le _⟩ ?_
        refine J_if_ne E (tgt := 52) dX5_copy_41 (by decide) (fun c_41 => ?_) (fun c_41 => ?_)
        · skip
          have c_41 := bI_1 c_41
          exact absurd c_41 h1
        · skip
          have c_41 := bI_0 c_41
          refine J_aload E dX5_copy_44 0 rfl ?_
          refine J_si10r E (As := []) (c_X2_isMissing l G (sh a 35) (x 10) ) cl_X5_212 yo_X2_isMissing dX5_copy_46 rfl (Nat.le_of_ble_eq_true rfl) (Nat.le_of_ble_eq_true rfl) rfl (Nat.le_of_ble_eq_true rfl) ⟨Nat.zero_le _, Nat.zero_le _⟩ ?_
          refine J_if_eq E (tgt := 58) dX5_copy_49 (by decide) (fun c_49 => ?_) (fun c_49 => ?_)
          · skip
            have c_49 := bI_0 c_49
            refine J_aload E dX5_copy_58 1 rfl ?_
            refine gC35_X5_215 E dX5_copy_60 ?_
            refine J_aload E dX5_copy_63 0 rfl ?_
            refine gC35_X5_215 E dX5_copy_65 ?_
            refine J_icmp_eq E (tgt := 77) dX5_copy_68 (by decide) (fun c_68 => ?_) (fun c_68 => ?_)
            · skip
              refine J_aload E dX5_copy_77 1 rfl ?_
              refine J_iload_n E dX5_copy_79 rfl 4 rfl ?_
              refine J_iload E dX5_copy_80 7 rfl ?_
              refine J_si10r E (As := [.int f, .int n]) (c_X2_hasRun l G (sh a 35) (x 10) f n ) cl_X5_218 yo_X2_hasRun dX5_copy_82 rfl (Nat.le_of_ble_eq_true rfl) (Nat.le_of_ble_eq_true rfl) rfl (Nat.le_of_ble_eq_true rfl) ⟨Nat.zero_le _, Nat.zero_le _⟩ ?_
              refine J_if_eq E (tgt := 100) dX5_copy_85 (by decide) (fun c_85 => ?_) (fun c_85 => ?_)
              · skip
                have c_85 := bI_0 c_85
                refine J_aload_n E dX5_copy_100 rfl 2 rfl ?_
                refine J_iconst E dX5_copy_101 ic_0 ?_
                refine J_cVi0 E (As := [.int 0]) (c_X5_tell l G a x 0 (by omega)) cl_X5_64 yo_X5_tell dX5_copy_102 rfl rfl rfl (Nat.le_of_ble_eq_true rfl) (Nat.le_of_ble_eq_true rfl) rfl (Nat.le_of_ble_eq_true rfl) ⟨Nat.zero_le _, Nat.zero_le _⟩ ?_
                exact ret _ _ _ _ ⟨rfl, _, rfl, by intro g h2 h6; simp [upG, up3, up3R, h2, h6]⟩ rfl dX5_copy_105
              · skip
                have c_85 := bI_1 c_85
                refine J_aload E dX5_copy_88 0 rfl ?_
                refine J_iload E dX5_copy_90 6 rfl ?_
                refine J_iload E dX5_copy_92 7 rfl ?_
                refine J_si10r E (As := [.int o, .int n]) (c_X2_hasRun l G (sh a 35) (x 10) o n ) cl_X5_218 yo_X2_hasRun dX5_copy_94 rfl (Nat.le_of_ble_eq_true rfl) (Nat.le_of_ble_eq_true rfl) rfl (Nat.le_of_ble_eq_true rfl) ⟨Nat.zero_le _, Nat.zero_le _⟩ ?_
                refine J_if_ne E (tgt := 106) dX5_copy_97 (by decide) (fun c_97 => ?_) (fun c_97 => ?_)
                · skip
                  have c_97 := bI_1 c_97
                  exact absurd ⟨c_85, c_97⟩ hb
                · skip
                  have c_97 := bI_0 c_97
                  refine J_aload_n E dX5_copy_100 rfl 2 rfl ?_
                  refine J_iconst E dX5_copy_101 ic_0 ?_
                  refine J_cVi0 E (As := [.int 0]) (c_X5_tell l G a x 0 (by omega)) cl_X5_64 yo_X5_tell dX5_copy_102 rfl rfl rfl (Nat.le_of_ble_eq_true rfl) (Nat.le_of_ble_eq_true rfl) rfl (Nat.le_of_ble_eq_true rfl) ⟨Nat.zero_le _, Nat.zero_le _⟩ ?_
                  exact ret _ _ _ _ ⟨rfl, _, rfl, by intro g h2 h6; simp [upG, up3, up3R, h2, h6]⟩ rfl dX5_copy_105
            · skip
              exact absurd h3 c_68
          · skip
            have c_49 := bI_1 c_49
            exact absurd c_49 h2
      · skip
        have c_11 := bI_0 c_11
        exact absurd (in3 (by decide)) c_11
  · skip
    refine J_iload_n E dX5_copy_0 rfl 1 rfl ?_
    refine J_cSiN E (As := [.int (nI 2)]) (c_X5_isSheet l G (nI 2) ) cl_X5_202 yo_X5_isSheet dX5_copy_1 rfl (Nat.le_of_ble_eq_true rfl) (Nat.le_of_ble_eq_true rfl) rfl (Nat.le_of_ble_eq_true rfl) ⟨Nat.zero_le _, Nat.zero_le _⟩ ?_
    refine J_if_eq E (tgt := 14) dX5_copy_4 (by decide) (fun c_4 => ?_) (fun c_4 => ?_)
    · skip
      have c_4 := bI_0 c_4
      exact absurd (in3 (by decide)) c_4
    · skip
      have c_4 := bI_1 c_4
      refine J_iload_n E dX5_copy_7 rfl 3 rfl ?_
      refine J_cSiN E (As := [.int (nI 3)]) (c_X5_isSheet l G (nI 3) ) cl_X5_202 yo_X5_isSheet dX5_copy_8 rfl (Nat.le_of_ble_eq_true rfl) (Nat.le_of_ble_eq_true rfl) rfl (Nat.le_of_ble_eq_true rfl) ⟨Nat.zero_le _, Nat.zero_le _⟩ ?_
      refine J_if_ne E (tgt := 20) dX5_copy_11 (by decide) (fun c_11 => ?_) (fun c_11 => ?_)
      · skip
        have c_11 := bI_1 c_11
        refine J_aload_n E dX5_copy_20 rfl 0 rfl ?_
        refine gC0_X5_44 E dX5_copy_21 ?_
        refine J_iload_n E dX5_copy_24 rfl 1 rfl ?_
        refine laC_30_2 E dX5_copy_25 ?_
        refine J_astore E (lv' := [(6, .ref (a 35)), (0, .ref (a 0)), (1, .int (nI 2)), (2, .int f), (3, .int (nI 3)), (4, .int o), (5, .int n)]) dX5_copy_26 (by decide) rfl ?_
        refine J_aload_n E dX5_copy_28 rfl 1 rfl ?_
        refine gC0_X5_44 E dX5_copy_29 ?_
        refine J_iload_n E dX5_copy_32 rfl 4 rfl ?_
        refine laC_30_3 E dX5_copy_33 ?_
        refine J_astore E (lv' := [(7, .ref (a 37)), (6, .ref (a 35)), (0, .ref (a 0)), (1, .int (nI 2)), (2, .int f), (3, .int (nI 3)), (4, .int o), (5, .int n)]) dX5_copy_34 (by decide) rfl ?_
        refine J_aload E dX5_copy_36 1 rfl ?_
        refine J_si10r E (As := []) (c_X2_isMissing l G (sh a 35) (x 10) ) cl_X5_212 yo_X2_isMissing dX5_copy_38 rfl (Nat.le_of_ble_eq_true rfl) (Nat.le_of_ble_eq_true rfl) rfl (Nat.le_of_ble_eq_true rfl) ⟨Nat.zero_le _, Nat.zero_le _⟩ ?_
        refine J_if_ne E (tgt := 52) dX5_copy_41 (by decide) (fun c_41 => ?_) (fun c_41 => ?_)
        · skip
          have c_41 := bI_1 c_41
          exact absurd c_41 h1
        · skip
          have c_41 := bI_0 c_41
          refine J_aload E dX5_copy_44 0 rfl ?_
          refine J_si11r E (As := []) (c_X2_isMissing l G (sh a 37) (x 11) ) cl_X5_212 yo_X2_isMissing dX5_copy_46 rfl (Nat.le_of_ble_eq_true rfl) (Nat.le_of_ble_eq_true rfl) rfl (Nat.le_of_ble_eq_true rfl) ⟨Nat.zero_le _, Nat.zero_le _⟩ ?_
          refine J_if_eq E (tgt := 58) dX5_copy_49 (by decide) (fun c_49 => ?_) (fun c_49 => ?_)
          · skip
            have c_49 := bI_0 c_49
            refine J_aload E dX5_copy_58 1 rfl ?_
            refine gC35_X5_215 E dX5_copy_60 ?_
            refine J_aload E dX5_copy_63 0 rfl ?_
            refine gC37_X5_215 E dX5_copy_65 ?_
            refine J_icmp_eq E (tgt := 77) dX5_copy_68 (by decide) (fun c_68 => ?_) (fun c_68 => ?_)
            · skip
              refine J_aload E dX5_copy_77 1 rfl ?_
              refine J_iload_n E dX5_copy_79 rfl 4 rfl ?_
              refine J_iload E dX5_copy_80 7 rfl ?_
              refine J_si10r E (As := [.int f, .int n]) (c_X2_hasRun l G (sh a 35) (x 10) f n ) cl_X5_218 yo_X2_hasRun dX5_copy_82 rfl (Nat.le_of_ble_eq_true rfl) (Nat.le_of_ble_eq_true rfl) rfl (Nat.le_of_ble_eq_true rfl) ⟨Nat.zero_le _, Nat.zero_le _⟩ ?_
              refine J_if_eq E (tgt := 100) dX5_copy_85 (by decide) (fun c_85 => ?_) (fun c_85 => ?_)
              · skip
                have c_85 := bI_0 c_85
                refine J_aload_n E dX5_copy_100 rfl 2 rfl ?_
                refine J_iconst E dX5_copy_101 ic_0 ?_
                refine J_cVi0 E (As := [.int 0]) (c_X5_tell l G a x 0 (by omega)) cl_X5_64 yo_X5_tell dX5_copy_102 rfl rfl rfl (Nat.le_of_ble_eq_true rfl) (Nat.le_of_ble_eq_true rfl) rfl (Nat.le_of_ble_eq_true rfl) ⟨Nat.zero_le _, Nat.zero_le _⟩ ?_
                exact ret _ _ _ _ ⟨rfl, _, rfl, by intro g h2 h6; simp [upG, up3, up3R, h2, h6]⟩ rfl dX5_copy_105
              · skip
                have c_85 := bI_1 c_85
                refine J_aload E dX5_copy_88 0 rfl ?_
                refine J_iload E dX5_copy_90 6 rfl ?_
                refine J_iload E dX5_copy_92 7 rfl ?_
                refine J_si11r E (As := [.int o, .int n]) (c_X2_hasRun l G (sh a 37) (x 11) o n ) cl_X5_218 yo_X2_hasRun dX5_copy_94 rfl (Nat.le_of_ble_eq_true rfl) (Nat.le_of_ble_eq_true rfl) rfl (Nat.le_of_ble_eq_true rfl) ⟨Nat.zero_le _, Nat.zero_le _⟩ ?_
                refine J_if_ne E (tgt := 106) dX5_copy_97 (by decide) (fun c_97 => ?_) (fun c_97 => ?_)
                · skip
                  have c_97 := bI_1 c_97
                  exact absurd ⟨c_85, c_97⟩ hb
                · skip
                  have c_97 := bI_0 c_97
                  refine J_aload_n E dX5_copy_100 rfl 2 rfl ?_
                  refine J_iconst E dX5_copy_101 ic_0 ?_
                  refine J_cVi0 E (As := [.int 0]) (c_X5_tell l G a x 0 (by omega)) cl_X5_64 yo_X5_tell dX5_copy_102 rfl rfl rfl (Nat.le_of_ble_eq_true rfl) (Nat.le_of_ble_eq_true rfl) rfl (Nat.le_of_ble_eq_true rfl) ⟨Nat.zero_le _, Nat.zero_le _⟩ ?_
                  exact ret _ _ _ _ ⟨rfl, _, rfl, by intro g h2 h6; simp [upG, up3, up3R, h2, h6]⟩ rfl dX5_copy_105
            · skip
              exact absurd h3 c_68
          · skip
            have c_49 := bI_1 c_49
            exact absurd c_49 h2
      · skip
        have c_11 := bI_0 c_11
        exact absurd (in3 (by decide)) c_11
  · skip
    refine J_iload_n E dX5_copy_0 rfl 1 rfl ?_
    refine J_cSiN E (As := [.int (nI 3)]) (c_X5_isSheet l G (nI 3) ) cl_X5_202 yo_X5_isSheet dX5_copy_1 rfl (Nat.le_of_ble_eq_true rfl) (Nat.le_of_ble_eq_true rfl) rfl (Nat.le_of_ble_eq_true rfl) ⟨Nat.zero_le _, Nat.zero_le _⟩ ?_
    refine J_if_eq E (tgt := 14) dX5_copy_4 (by decide) (fun c_4 => ?_) (fun c_4 => ?_)
    · skip
      have c_4 := bI_0 c_4
      exact absurd (in3 (by decide)) c_4
    · skip
      have c_4 := bI_1 c_4
      refine J_iload_n E dX5_copy_7 rfl 3 rfl ?_
      refine J_cSiN E (As := [.int (nI 0)]) (c_X5_isSheet l G (nI 0) ) cl_X5_202 yo_X5_isSheet dX5_copy_8 rfl (Nat.le_of_ble_eq_true rfl) (Nat.le_of_ble_eq_true rfl) rfl (Nat.le_of_ble_eq_true rfl) ⟨Nat.zero_le _, Nat.zero_le _⟩ ?_
      refine J_if_ne E (tgt := 20) dX5_copy_11 (by decide) (fun c_11 => ?_) (fun c_11 => ?_)
      · skip
        have c_11 := bI_1 c_11
        refine J_aload_n E dX5_copy_20 rfl 0 rfl ?_
        refine gC0_X5_44 E dX5_copy_21 ?_
        refine J_iload_n E dX5_copy_24 rfl 1 rfl ?_
        refine laC_30_3 E dX5_copy_25 ?_
        refine J_astore E (lv' := [(6, .ref (a 37)), (0, .ref (a 0)), (1, .int (nI 3)), (2, .int f), (3, .int (nI 0)), (4, .int o), (5, .int n)]) dX5_copy_26 (by decide) rfl ?_
        refine J_aload_n E dX5_copy_28 rfl 1 rfl ?_
        refine gC0_X5_44 E dX5_copy_29 ?_
        refine J_iload_n E dX5_copy_32 rfl 4 rfl ?_
        refine laC_30_0 E dX5_copy_33 ?_
        refine J_astore E (lv' := [(7, .ref (a 31)), (6, .ref (a 37)), (0, .ref (a 0)), (1, .int (nI 3)), (2, .int f), (3, .int (nI 0)), (4, .int o), (5, .int n)]) dX5_copy_34 (by decide) rfl ?_
        refine J_aload E dX5_copy_36 1 rfl ?_
        refine J_si11r E (As := []) (c_X2_isMissing l G (sh a 37) (x 11) ) cl_X5_212 yo_X2_isMissing dX5_copy_38 rfl (Nat.le_of_ble_eq_true rfl) (Nat.le_of_ble_eq_true rfl) rfl (Nat.le_of_ble_eq_true rfl) ⟨Nat.zero_le _, Nat.zero_le _⟩ ?_
        refine J_if_ne E (tgt := 52) dX5_copy_41 (by decide) (fun c_41 => ?_) (fun c_41 => ?_)
        · skip
          have c_41 := bI_1 c_41
          exact absurd c_41 h1
        · skip
          have c_41 := bI_0 c_41
          refine J_aload E dX5_copy_44 0 rfl ?_
          refine J_si8r E (As := []) (c_X2_isMissing l G (sh a 31) (x 8) ) cl_X5_212 yo_X2_isMissing dX5_copy_46 rfl (Nat.le_of_ble_eq_true rfl) (Nat.le_of_ble_eq_true rfl) rfl (Nat.le_of_ble_eq_true rfl) ⟨Nat.zero_le _, Nat.zero_le _⟩ ?_
          refine J_if_eq E (tgt := 58) dX5_copy_49 (by decide) (fun c_49 => ?_) (fun c_49 => ?_)
          · skip
            have c_49 := bI_0 c_49
            refine J_aload E dX5_copy_58 1 rfl ?_
            refine gC37_X5_215 E dX5_copy_60 ?_
            refine J_aload E dX5_copy_63 0 rfl ?_
            refine gC31_X5_215 E dX5_copy_65 ?_
            refine J_icmp_eq E (tgt := 77) dX5_copy_68 (by decide) (fun c_68 => ?_) (fun c_68 => ?_)
            · skip
              refine J_aload E dX5_copy_77 1 rfl ?_
              refine J_iload_n E dX5_copy_79 rfl 4 rfl ?_
              refine J_iload E dX5_copy_80 7 rfl ?_
              refine J_si11r E (As := [.int f, .int n]) (c_X2_hasRun l G (sh a 37) (x 11) f n ) cl_X5_218 yo_X2_hasRun dX5_copy_82 rfl (Nat.le_of_ble_eq_true rfl) (Nat.le_of_ble_eq_true rfl) rfl (Nat.le_of_ble_eq_true rfl) ⟨Nat.zero_le _, Nat.zero_le _⟩ ?_
              refine J_if_eq E (tgt := 100) dX5_copy_85 (by decide) (fun c_85 => ?_) (fun c_85 => ?_)
              · skip
                have c_85 := bI_0 c_85
                refine J_aload_n E dX5_copy_100 rfl 2 rfl ?_
                refine J_iconst E dX5_copy_101 ic_0 ?_
                refine J_cVi0 E (As := [.int 0]) (c_X5_tell l G a x 0 (by omega)) cl_X5_64 yo_X5_tell dX5_copy_102 rfl rfl rfl (Nat.le_of_ble_eq_true rfl) (Nat.le_of_ble_eq_true rfl) rfl (Nat.le_of_ble_eq_true rfl) ⟨Nat.zero_le _, Nat.zero_le _⟩ ?_
                exact ret _ _ _ _ ⟨rfl, _, rfl, by intro g h2 h6; simp [upG, up3, up3R, h2, h6]⟩ rfl dX5_copy_105
              · skip
                have c_85 := bI_1 c_85
                refine J_aload E dX5_copy_88 0 rfl ?_
                refine J_iload E dX5_copy_90 6 rfl ?_
                refine J_iload E dX5_copy_92 7 rfl ?_
                refine J_si8r E (As := [.int o, .int n]) (c_X2_hasRun l G (sh a 31) (x 8) o n ) cl_X5_218 yo_X2_hasRun dX5_copy_94 rfl (Nat.le_of_ble_eq_true rfl) (Nat.le_of_ble_eq_true rfl) rfl (Nat.le_of_ble_eq_true rfl) ⟨Nat.zero_le _, Nat.zero_le _⟩ ?_
                refine J_if_ne E (tgt := 106) dX5_copy_97 (by decide) (fun c_97 => ?_) (fun c_97 => ?_)
                · skip
                  have c_97 := bI_1 c_97
                  exact absurd ⟨c_85, c_97⟩ hb
                · skip
                  have c_97 := bI_0 c_97
                  refine J_aload_n E dX5_copy_100 rfl 2 rfl ?_
                  refine J_iconst E dX5_copy_101 ic_0 ?_
                  refine J_cVi0 E (As := [.int 0]) (c_X5_tell l G a x 0 (by omega)) cl_X5_64 yo_X5_tell dX5_copy_102 rfl rfl rfl (Nat.le_of_ble_eq_true rfl) (Nat.le_of_ble_eq_true rfl) rfl (Nat.le_of_ble_eq_true rfl) ⟨Nat.zero_le _, Nat.zero_le _⟩ ?_
                  exact ret _ _ _ _ ⟨rfl, _, rfl, by intro g h2 h6; simp [upG, up3, up3R, h2, h6]⟩ rfl dX5_copy_105
            · skip
              exact absurd h3 c_68
          · skip
            have c_49 := bI_1 c_49
            exact absurd c_49 h2
      · skip
        have c_11 := bI_0 c_11
        exact absurd (in3 (by decide)) c_11
  · skip
    refine J_iload_n E dX5_copy_0 rfl 1 rfl ?_
    refine J_cSiN E (As := [.int (nI 3)]) (c_X5_isSheet l G (nI 3) ) cl_X5_202 yo_X5_isSheet dX5_copy_1 rfl (Nat.le_of_ble_eq_true rfl) (Nat.le_of_ble_eq_true rfl) rfl (Nat.le_of_ble_eq_true rfl) ⟨Nat.zero_le _, Nat.zero_le _⟩ ?_
    refine J_if_eq E (tgt := 14) dX5_copy_4 (by decide) (fun c_4 => ?_) (fun c_4 => ?_)
    · skip
      have c_4 := bI_0 c_4
      exact absurd (in3 (by decide)) c_4
    · skip
      have c_4 := bI_1 c_4
      refine J_iload_n E dX5_copy_7 rfl 3 rfl ?_
      refine J_cSiN E (As := [.int (nI 1)]) (c_X5_isSheet l G (nI 1) ) cl_X5_202 yo_X5_isSheet dX5_copy_8 rfl (Nat.le_of_ble_eq_true rfl) (Nat.le_of_ble_eq_true rfl) rfl (Nat.le_of_ble_eq_true rfl) ⟨Nat.zero_le _, Nat.zero_le _⟩ ?_
      refine J_if_ne E (tgt := 20) dX5_copy_11 (by decide) (fun c_11 => ?_) (fun c_11 => ?_)
      · skip
        have c_11 := bI_1 c_11
        refine J_aload_n E dX5_copy_20 rfl 0 rfl ?_
        refine gC0_X5_44 E dX5_copy_21 ?_
        refine J_iload_n E dX5_copy_24 rfl 1 rfl ?_
        refine laC_30_3 E dX5_copy_25 ?_
        refine J_astore E (lv' := [(6, .ref (a 37)), (0, .ref (a 0)), (1, .int (nI 3)), (2, .int f), (3, .int (nI 1)), (4, .int o), (5, .int n)]) dX5_copy_26 (by decide) rfl ?_
        refine J_aload_n E dX5_copy_28 rfl 1 rfl ?_
        refine gC0_X5_44 E dX5_copy_29 ?_
        refine J_iload_n E dX5_copy_32 rfl 4 rfl ?_
        refine laC_30_1 E dX5_copy_33 ?_
        refine J_astore E (lv' := [(7, .ref (a 33)), (6, .ref (a 37)), (0, .ref (a 0)), (1, .int (nI 3)), (2, .int f), (3, .int (nI 1)), (4, .int o), (5, .int n)]) dX5_copy_34 (by decide) rfl ?_
        refine J_aload E dX5_copy_36 1 rfl ?_
        refine J_si11r E (As := []) (c_X2_isMissing l G (sh a 37) (x 11) ) cl_X5_212 yo_X2_isMissing dX5_copy_38 rfl (Nat.le_of_ble_eq_true rfl) (Nat.le_of_ble_eq_true rfl) rfl (Nat.le_of_ble_eq_true rfl) ⟨Nat.zero_le _, Nat.zero_le _⟩ ?_
        refine J_if_ne E (tgt := 52) dX5_copy_41 (by decide) (fun c_41 => ?_) (fun c_41 => ?_)
        · skip
          have c_41 := bI_1 c_41
          exact absurd c_41 h1
        · skip
          have c_41 := bI_0 c_41
          refine J_aload E dX5_copy_44 0 rfl ?_
          refine J_si9r E (As := []) (c_X2_isMissing l G (sh a 33) (x 9) ) cl_X5_212 yo_X2_isMissing dX5_copy_46 rfl (Nat.le_of_ble_eq_true rfl) (Nat.le_of_ble_eq_true rfl) rfl (Nat.le_of_ble_eq_true rfl) ⟨Nat.zero_le _, Nat.zero_le _⟩ ?_
          refine J_if_eq E (tgt := 58) dX5_copy_49 (by decide) (fun c_49 => ?_) (fun c_49 => ?_)
          · skip
            have c_49 := bI_0 c_49
            refine J_aload E dX5_copy_58 1 rfl ?_
            refine gC37_X5_215 E dX5_copy_60 ?_
            refine J_aload E dX5_copy_63 0 rfl ?_
            refine gC33_X5_215 E dX5_copy_65 ?_
            refine J_icmp_eq E (tgt := 77) dX5_copy_68 (by decide) (fun c_68 => ?_) (fun c_68 => ?_)
            · skip
              refine J_aload E dX5_copy_77 1 rfl ?_
              refine J_iload_n E dX5_copy_79 rfl 4 rfl ?_
              refine J_iload E dX5_copy_80 7 rfl ?_
              refine J_si11r E (As := [.int f, .int n]) (c_X2_hasRun l G (sh a 37) (x 11) f n ) cl_X5_218 yo_X2_hasRun dX5_copy_82 rfl (Nat.le_of_ble_eq_true rfl) (Nat.le_of_ble_eq_true rfl) rfl (Nat.le_of_ble_eq_true rfl) ⟨Nat.zero_le _, Nat.zero_le _⟩ ?_
              refine J_if_eq E (tgt := 100) dX5_copy_85 (by decide) (fun c_85 => ?_) (fun c_85 => ?_)
              · skip
                have c_85 := bI_0 c_85
                refine J_aload_n E dX5_copy_100 rfl 2 rfl ?_
                refine J_iconst E dX5_copy_101 ic_0 ?_
                refine J_cVi0 E (As := [.int 0]) (c_X5_tell l G a x 0 (by omega)) cl_X5_64 yo_X5_tell dX5_copy_102 rfl rfl rfl (Nat.le_of_ble_eq_true rfl) (Nat.le_of_ble_eq_true rfl) rfl (Nat.le_of_ble_eq_true rfl) ⟨Nat.zero_le _, Nat.zero_le _⟩ ?_
                exact ret _ _ _ _ ⟨rfl, _, rfl, by intro g h2 h6; simp [upG, up3, up3R, h2, h6]⟩ rfl dX5_copy_105
              · skip
                have c_85 := bI_1 c_85
                refine J_aload E dX5_copy_88 0 rfl ?_
                refine J_iload E dX5_copy_90 6 rfl ?_
                refine J_iload E dX5_copy_92 7 rfl ?_
                refine J_si9r E (As := [.int o, .int n]) (c_X2_hasRun l G (sh a 33) (x 9) o n ) cl_X5_218 yo_X2_hasRun dX5_copy_94 rfl (Nat.le_of_ble_eq_true rfl) (Nat.le_of_ble_eq_true rfl) rfl (Nat.le_of_ble_eq_true rfl) ⟨Nat.zero_le _, Nat.zero_le _⟩ ?_
                refine J_if_ne E (tgt := 106) dX5_copy_97 (by decide) (fun c_97 => ?_) (fun c_97 => ?_)
                · skip
                  have c_97 := bI_1 c_97
                  exact absurd ⟨c_85, c_97⟩ hb
                · skip
                  have c_97 := bI_0 c_97
                  refine J_aload_n E dX5_copy_100 rfl 2 rfl ?_
                  refine J_iconst E dX5_copy_101 ic_0 ?_
                  refine J_cVi0 E (As := [.int 0]) (c_X5_tell l G a x 0 (by omega)) cl_X5_64 yo_X5_tell dX5_copy_102 rfl rfl rfl (Nat.le_of_ble_eq_true rfl) (Nat.le_of_ble_eq_true rfl) rfl (Nat.le_of_ble_eq_true rfl) ⟨Nat.zero_le _, Nat.zero_le _⟩ ?_
                  exact ret _ _ _ _ ⟨rfl, _, rfl, by intro g h2 h6; simp [upG, up3, up3R, h2, h6]⟩ rfl dX5_copy_105
            · skip
              exact absurd h3 c_68
          · skip
            have c_49 := bI_1 c_49
            exact absurd c_49 h2
      · skip
        have c_11 := bI_0 c_11
        exact absurd (in3 (by decide)) c_11
  · skip
    refine J_iload_n E dX5_copy_0 rfl 1 rfl ?_
    refine J_cSiN E (As := [.int (nI 3)]) (c_X5_isSheet l G (nI 3) ) cl_X5_202 yo_X5_isSheet dX5_copy_1 rfl (Nat.le_of_ble_eq_true rfl) (Nat.le_of_ble_eq_true rfl) rfl (Nat.le_of_ble_eq_true rfl) ⟨Nat.zero_le _, Nat.zero_le _⟩ ?_
    refine J_if_eq E (tgt := 14) dX5_copy_4 (by decide) (fun c_4 => ?_) (fun c_4 => ?_)
    · skip
      have c_4 := bI_0 c_4
      exact absurd (in3 (by decide)) c_4
    · skip
      have c_4 := bI_1 c_4
      refine J_iload_n E dX5_copy_7 rfl 3 rfl ?_
      refine J_cSiN E (As := [.int (nI 2)]) (c_X5_isSheet l G (nI 2) ) cl_X5_202 yo_X5_isSheet dX5_copy_8 rfl (Nat.le_of_ble_eq_true rfl) (Nat.le_of_ble_eq_true rfl) rfl (Nat.le_of_ble_eq_true rfl) ⟨Nat.zero_le _, Nat.zero_le _⟩ ?_
      refine J_if_ne E (tgt := 20) dX5_copy_11 (by decide) (fun c_11 => ?_) (fun c_11 => ?_)
      · skip
        have c_11 := bI_1 c_11
        refine J_aload_n E dX5_copy_20 rfl 0 rfl ?_
        refine gC0_X5_44 E dX5_copy_21 ?_
        refine J_iload_n E dX5_copy_24 rfl 1 rfl ?_
        refine laC_30_3 E dX5_copy_25 ?_
        refine J_astore E (lv' := [(6, .ref (a 37)), (0, .ref (a 0)), (1, .int (nI 3)), (2, .int f), (3, .int (nI 2)), (4, .int o), (5, .int n)]) dX5_copy_26 (by decide) rfl ?_
        refine J_aload_n E dX5_copy_28 rfl 1 rfl ?_
        refine gC0_X5_44 E dX5_copy_29 ?_
        refine J_iload_n E dX5_copy_32 rfl 4 rfl ?_
        refine laC_30_2 E dX5_copy_33 ?_
        refine J_astore E (lv' := [(7, .ref (a 35)), (6, .ref (a 37)), (0, .ref (a 0)), (1, .int (nI 3)), (2, .int f), (3, .int (nI 2)), (4, .int o), (5, .int n)]) dX5_copy_34 (by decide) rfl ?_
        refine J_aload E dX5_copy_36 1 rfl ?_
        refine J_si11r E (As := []) (c_X2_isMissing l G (sh a 37) (x 11) ) cl_X5_212 yo_X2_isMissing dX5_copy_38 rfl (Nat.le_of_ble_eq_true rfl) (Nat.le_of_ble_eq_true rfl) rfl (Nat.le_of_ble_eq_true rfl) ⟨Nat.zero_le _, Nat.zero_le _⟩ ?_
        refine J_if_ne E (tgt := 52) dX5_copy_41 (by decide) (fun c_41 => ?_) (fun c_41 => ?_)
        · skip
          have c_41 := bI_1 c_41
          exact absurd c_41 h1
        · skip
          have c_41 := bI_0 c_41
          refine J_aload E dX5_copy_44 0 rfl ?_
          refine J_si10r E (As := []) (c_X2_isMissing l G (sh a 35) (x 10) ) cl_X5_212 yo_X2_isMissing dX5_copy_46 rfl (Nat.le_of_ble_eq_true rfl) (Nat.le_of_ble_eq_true rfl) rfl (Nat.le_of_ble_eq_true rfl) ⟨Nat.zero_le _, Nat.zero_le _⟩ ?_
          refine J_if_eq E (tgt := 58) dX5_copy_49 (by decide) (fun c_49 => ?_) (fun c_49 => ?_)
          · skip
            have c_49 := bI_0 c_49
            refine J_aload E dX5_copy_58 1 rfl ?_
            refine gC37_X5_215 E dX5_copy_60 ?_
            refine J_aload E dX5_copy_63 0 rfl ?_
            refine gC35_X5_215 E dX5_copy_65 ?_
            refine J_icmp_eq E (tgt := 77) dX5_copy_68 (by decide) (fun c_68 => ?_) (fun c_68 => ?_)
            · skip
              refine J_aload E dX5_copy_77 1 rfl ?_
              refine J_iload_n E dX5_copy_79 rfl 4 rfl ?_
              refine J_iload E dX5_copy_80 7 rfl ?_
              refine J_si11r E (As := [.int f, .int n]) (c_X2_hasRun l G (sh a 37) (x 11) f n ) cl_X5_218 yo_X2_hasRun dX5_copy_82 rfl (Nat.le_of_ble_eq_true rfl) (Nat.le_of_ble_eq_true rfl) rfl (Nat.le_of_ble_eq_true rfl) ⟨Nat.zero_le _, Nat.zero_le _⟩ ?_
              refine J_if_eq E (tgt := 100) dX5_copy_85 (by decide) (fun c_85 => ?_) (fun c_85 => ?_)
              · skip
                have c_85 := bI_0 c_85
                refine J_aload_n E dX5_copy_100 rfl 2 rfl ?_
                refine J_iconst E dX5_copy_101 ic_0 ?_
                refine J_cVi0 E (As := [.int 0]) (c_X5_tell l G a x 0 (by omega)) cl_X5_64 yo_X5_tell dX5_copy_102 rfl rfl rfl (Nat.le_of_ble_eq_true rfl) (Nat.le_of_ble_eq_true rfl) rfl (Nat.le_of_ble_eq_true rfl) ⟨Nat.zero_le _, Nat.zero_le _⟩ ?_
                exact ret _ _ _ _ ⟨rfl, _, rfl, by intro g h2 h6; simp [upG, up3, up3R, h2, h6]⟩ rfl dX5_copy_105
              · skip
                have c_85 := bI_1 c_85
                refine J_aload E dX5_copy_88 0 rfl ?_
                refine J_iload E dX5_copy_90 6 rfl ?_
                refine J_iload E dX5_copy_92 7 rfl ?_
                refine J_si10r E (As := [.int o, .int n]) (c_X2_hasRun l G (sh a 35) (x 10) o n ) cl_X5_218 yo_X2_hasRun dX5_copy_94 rfl (Nat.le_of_ble_eq_true rfl) (Nat.le_of_ble_eq_true rfl) rfl (Nat.le_of_ble_eq_true rfl) ⟨Nat.zero_le _, Nat.zero_le _⟩ ?_
                refine J_if_ne E (tgt := 106) dX5_copy_97 (by decide) (fun c_97 => ?_) (fun c_97 => ?_)
                · skip
                  have c_97 := bI_1 c_97
                  exact absurd ⟨c_85, c_97⟩ hb
                · skip
                  have c_97 := bI_0 c_97
                  refine J_aload_n E dX5_copy_100 rfl 2 rfl ?_
                  refine J_iconst E dX5_copy_101 ic_0 ?_
                  refine J_cVi0 E (As := [.int 0]) (c_X5_tell l G a x 0 (by omega)) cl_X5_64 yo_X5_tell dX5_copy_102 rfl rfl rfl (Nat.le_of_ble_eq_true rfl) (Nat.le_of_ble_eq_true rfl) rfl (Nat.le_of_ble_eq_true rfl) ⟨Nat.zero_le _, Nat.zero_le _⟩ ?_
                  exact ret _ _ _ _ ⟨rfl, _, rfl, by intro g h2 h6; simp [upG, up3, up3R, h2, h6]⟩ rfl dX5_copy_105
            · skip
              exact absurd h3 c_68
          · skip
            have c_49 := bI_1 c_49
            exact absurd c_49 h2
      · skip
        have c_11 := bI_0 c_11
        exact absurd (in3 (by decide)) c_11
  · skip
    refine J_iload_n E dX5_copy_0 rfl 1 rfl ?_
    refine J_cSiN E (As := [.int (nI 3)]) (c_X5_isSheet l G (nI 3) ) cl_X5_202 yo_X5_isSheet dX5_copy_1 rfl (Nat.le_of_ble_eq_true rfl) (Nat.le_of_ble_eq_true rfl) rfl (Nat.le_of_ble_eq_true rfl) ⟨Nat.zero_le _, Nat.zero_le _⟩ ?_
    refine J_if_eq E (tgt := 14) dX5_copy_4 (by decide) (fun c_4 => ?_) (fun c_4 => ?_)
    · skip
      have c_4 := bI_0 c_4
      exact absurd (in3 (by decide)) c_4
    · skip
      have c_4 := bI_1 c_4
      refine J_iload_n E dX5_copy_7 rfl 3 rfl ?_
      refine J_cSiN E (As := [.int (nI 3)]) (c_X5_isSheet l G (nI 3) ) cl_X5_202 yo_X5_isSheet dX5_copy_8 rfl (Nat.le_of_ble_eq_true rfl) (Nat.le_of_ble_eq_true rfl) rfl (Nat.le_of_ble_eq_true rfl) ⟨Nat.zero_le _, Nat.zero_le _⟩ ?_
      refine J_if_ne E (tgt := 20) dX5_copy_11 (by decide) (fun c_11 => ?_) (fun c_11 => ?_)
      · skip
        have c_11 := bI_1 c_11
        refine J_aload_n E dX5_copy_20 rfl 0 rfl ?_
        refine gC0_X5_44 E dX5_copy_21 ?_
        refine J_iload_n E dX5_copy_24 rfl 1 rfl ?_
        refine laC_30_3 E dX5_copy_25 ?_
        refine J_astore E (lv' := [(6, .ref (a 37)), (0, .ref (a 0)), (1, .int (nI 3)), (2, .int f), (3, .int (nI 3)), (4, .int o), (5, .int n)]) dX5_copy_26 (by decide) rfl ?_
        refine J_aload_n E dX5_copy_28 rfl 1 rfl ?_
        refine gC0_X5_44 E dX5_copy_29 ?_
        refine J_iload_n E dX5_copy_32 rfl 4 rfl ?_
        refine laC_30_3 E dX5_copy_33 ?_
        refine J_astore E (lv' := [(7, .ref (a 37)), (6, .ref (a 37)), (0, .ref (a 0)), (1, .int (nI 3)), (2, .int f), (3, .int (nI 3)), (4, .int o), (5, .int n)]) dX5_copy_34 (by decide) rfl ?_
        refine J_aload E dX5_copy_36 1 rfl ?_
        refine J_si11r E (As := []) (c_X2_isMissing l G (sh a 37) (x 11) ) cl_X5_212 yo_X2_isMissing dX5_copy_38 rfl (Nat.le_of_ble_eq_true rfl) (Nat.le_of_ble_eq_true rfl) rfl (Nat.le_of_ble_eq_true rfl) ⟨Nat.zero_le _, Nat.zero_le _⟩ ?_
        refine J_if_ne E (tgt := 52) dX5_copy_41 (by decide) (fun c_41 => ?_) (fun c_41 => ?_)
        · skip
          have c_41 := bI_1 c_41
          exact absurd c_41 h1
        · skip
          have c_41 := bI_0 c_41
          refine J_aload E dX5_copy_44 0 rfl ?_
          refine J_si11r E (As := []) (c_X2_isMissing l G (sh a 37) (x 11) ) cl_X5_212 yo_X2_isMissing dX5_copy_46 rfl (Nat.le_of_ble_eq_true rfl) (Nat.le_of_ble_eq_true rfl) rfl (Nat.le_of_ble_eq_true rfl) ⟨Nat.zero_le _, Nat.zero_le _⟩ ?_
          refine J_if_eq E (tgt := 58) dX5_copy_49 (by decide) (fun c_49 => ?_) (fun c_49 => ?_)
          · skip
            have c_49 := bI_0 c_49
            refine J_aload E dX5_copy_58 1 rfl ?_
            refine gC37_X5_215 E dX5_copy_60 ?_
            refine J_aload E dX5_copy_63 0 rfl ?_
            refine gC37_X5_215 E dX5_copy_65 ?_
            refine J_icmp_eq E (tgt := 77) dX5_copy_68 (by decide) (fun c_68 => ?_) (fun c_68 => ?_)
            · skip
              refine J_aload E dX5_copy_77 1 rfl ?_
              refine J_iload_n E dX5_copy_79 rfl 4 rfl ?_
              refine J_iload E dX5_copy_80 7 rfl ?_
              refine J_si11r E (As := [.int f, .int n]) (c_X2_hasRun l G (sh a 37) (x 11) f n ) cl_X5_218 yo_X2_hasRun dX5_copy_82 rfl (Nat.le_of_ble_eq_true rfl) (Nat.le_of_ble_eq_true rfl) rfl (Nat.le_of_ble_eq_true rfl) ⟨Nat.zero_le _, Nat.zero_le _⟩ ?_
              refine J_if_eq E (tgt := 100) dX5_copy_85 (by decide) (fun c_85 => ?_) (fun c_85 => ?_)
              · skip
                have c_85 := bI_0 c_85
                refine J_aload_n E dX5_copy_100 rfl 2 rfl ?_
                refine J_iconst E dX5_copy_101 ic_0 ?_
                refine J_cVi0 E (As := [.int 0]) (c_X5_tell l G a x 0 (by omega)) cl_X5_64 yo_X5_tell dX5_copy_102 rfl rfl rfl (Nat.le_of_ble_eq_true rfl) (Nat.le_of_ble_eq_true rfl) rfl (Nat.le_of_ble_eq_true rfl) ⟨Nat.zero_le _, Nat.zero_le _⟩ ?_
                exact ret _ _ _ _ ⟨rfl, _, rfl, by intro g h2 h6; simp [upG, up3, up3R, h2, h6]⟩ rfl dX5_copy_105
              · skip
                have c_85 := bI_1 c_85
                refine J_aload E dX5_copy_88 0 rfl ?_
                refine J_iload E dX5_copy_90 6 rfl ?_
                refine J_iload E dX5_copy_92 7 rfl ?_
                refine J_si11r E (As := [.int o, .int n]) (c_X2_hasRun l G (sh a 37) (x 11) o n ) cl_X5_218 yo_X2_hasRun dX5_copy_94 rfl (Nat.le_of_ble_eq_true rfl) (Nat.le_of_ble_eq_true rfl) rfl (Nat.le_of_ble_eq_true rfl) ⟨Nat.zero_le _, Nat.zero_le _⟩ ?_
                refine J_if_ne E (tgt := 106) dX5_copy_97 (by decide) (fun c_97 => ?_) (fun c_97 => ?_)
                · skip
                  have c_97 := bI_1 c_97
                  exact absurd ⟨c_85, c_97⟩ hb
                · skip
                  have c_97 := bI_0 c_97
                  refine J_aload_n E dX5_copy_100 rfl 2 rfl ?_
                  refine J_iconst E dX5_copy_101 ic_0 ?_
                  refine J_cVi0 E (As := [.int 0]) (c_X5_tell l G a x 0 (by omega)) cl_X5_64 yo_X5_tell dX5_copy_102 rfl rfl rfl (Nat.le_of_ble_eq_true rfl) (Nat.le_of_ble_eq_true rfl) rfl (Nat.le_of_ble_eq_true rfl) ⟨Nat.zero_le _, Nat.zero_le _⟩ ?_
                  exact ret _ _ _ _ ⟨rfl, _, rfl, by intro g h2 h6; simp [upG, up3, up3R, h2, h6]⟩ rfl dX5_copy_105
            · skip
              exact absurd h3 c_68
          · skip
            have c_49 := bI_1 c_49
            exact absurd c_49 h2
      · skip
        have c_11 := bI_0 c_11
        exact absurd (in3 (by decide)) c_11

theorem runOK {sz : Int32} {f m n : Nat} (h : sz = nI n) (h2 : f + m ≤ n) (hn : n ≤ 40) : 0 ≤ nI f ∧ 0 ≤ nI m ∧ nI f ≤ sz ∧ nI m ≤ sz - nI f := by
  rw [h, pk_sub (by omega)]
  exact ⟨nI_pos' (by omega), nI_pos' (by omega), nI_le (by omega) (by omega), nI_le (by omega) (by omega)⟩

set_option maxHeartbeats 4000000 in
set_option maxRecDepth 20000 in
theorem c_X5_copy_ok (l : Launch) (G : GB) (a : Nat → Nat) (x : Q3) (i k f o m n1 n2 : Nat) (hi : i < 4) (hk : k < 4) (h1 : ¬ x (8 + i) 1 0 = 0) (h2 : ¬ x (8 + k) 1 0 = 0) (h3 : x (8 + i) 1 0 = x (8 + k) 1 0) (h5 : x (8 + i) 1 1 = nI n1) (h7 : x (8 + k) 1 1 = nI n2) (h4 : f + m ≤ n1) (h6 : o + m ≤ n2) (hn1 : n1 ≤ 40) (hn2 : n2 ≤ 40) : CI l yX5_copy cX5_copy 8 .int 2 41 G [.ref (a 0), .int (nI i), .int (nI f), .int (nI k), .int (nI o), .int (nI m)] (wC G a x) (fun vR w' => vR = nI m ∧ PubC G a (cpyQ x i f k o m) w') := by
  refine CI.mk (own := RX5) (by decide) rfl (Nat.le_of_ble_eq_true rfl) ?_
  intro X E ret
  show J X G 8 0 0 (wC G a x) [(0, .ref (a 0)), (1, .int (nI i)), (2, .int (nI f)), (3, .int (nI k)), (4, .int (nI o)), (5, .int (nI m))] 0 []
  rcases (show (i = 0 ∧ k = 0) ∨ (i = 0 ∧ k = 1) ∨ (i = 0 ∧ k = 2) ∨ (i = 0 ∧ k = 3) ∨ (i = 1 ∧ k = 0) ∨ (i = 1 ∧ k = 1) ∨ (i = 1 ∧ k = 2) ∨ (i = 1 ∧ k = 3) ∨ (i = 2 ∧ k = 0) ∨ (i = 2 ∧ k = 1) ∨ (i = 2 ∧ k = 2) ∨ (i = 2 ∧ k = 3) ∨ (i = 3 ∧ k = 0) ∨ (i = 3 ∧ k = 1) ∨ (i = 3 ∧ k = 2) ∨ (i = 3 ∧ k = 3) by omega) with ⟨rfl, rfl⟩ | ⟨rfl, rfl⟩ | ⟨rfl, rfl⟩ | ⟨rfl, rfl⟩ | ⟨rfl, rfl⟩ | ⟨rfl, rfl⟩ | ⟨rfl, rfl⟩ | ⟨rfl, rfl⟩ | ⟨rfl, rfl⟩ | ⟨rfl, rfl⟩ | ⟨rfl, rfl⟩ | ⟨rfl, rfl⟩ | ⟨rfl, rfl⟩ | ⟨rfl, rfl⟩ | ⟨rfl, rfl⟩ | ⟨rfl, rfl⟩
  · skip
    refine J_iload_n E dX5_copy_0 rfl 1 rfl ?_
    refine J_cSiN E (As := [.int (nI 0)]) (c_X5_isSheet l G (nI 0) ) cl_X5_202 yo_X5_isSheet dX5_copy_1 rfl (Nat.le_of_ble_eq_true rfl) (Nat.le_of_ble_eq_true rfl) rfl (Nat.le_of_ble_eq_true rfl) ⟨Nat.zero_le _, Nat.zero_le _⟩ ?_
    refine J_if_eq E (tgt := 14) dX5_copy_4 (by decide) (fun c_4 => ?_) (fun c_4 => ?_)
    · skip
      have c_4 := bI_0 c_4
      exact absurd (in3 (by decide)) c_4
    · skip
      have c_4 := bI_1 c_4
      refine J_iload_n E dX5_copy_7 rfl 3 rfl ?_
      refine J_cSiN E (As := [.int (nI 0)]) (c_X5_isSheet l G (nI 0) ) cl_X5_202 yo_X5_isSheet dX5_copy_8 rfl (Nat.le_of_ble_eq_true rfl) (Nat.le_of_ble_eq_true rfl) rfl (Nat.le_of_ble_eq_true rfl) ⟨Nat.zero_le _, Nat.zero_le _⟩ ?_
      refine J_if_ne E (tgt := 20) dX5_copy_11 (by decide) (fun c_11 => ?_) (fun c_11 => ?_)
      · skip
        have c_11 := bI_1 c_11
        refine J_aload_n E dX5_copy_20 rfl 0 rfl ?_
        refine gC0_X5_44 E dX5_copy_21 ?_
        refine J_iload_n E dX5_copy_24 rfl 1 rfl ?_
        refine laC_30_0 E dX5_copy_25 ?_
        refine J_astore E (lv' := [(6, .ref (a 31)), (0, .ref (a 0)), (1, .int (nI 0)), (2, .int (nI f)), (3, .int (nI 0)), (4, .int (nI o)), (5, .int (nI m))]) dX5_copy_26 (by decide) rfl ?_
        refine J_aload_n E dX5_copy_28 rfl 1 rfl ?_
        refine gC0_X5_44 E dX5_copy_29 ?_
        refine J_iload_n E dX5_copy_32 rfl 4 rfl ?_
        refine laC_30_0 E dX5_copy_33 ?_
        refine J_astore E (lv' := [(7, .ref (a 31)), (6, .ref (a 31)), (0, .ref (a 0)), (1, .int (nI 0)), (2, .int (nI f)), (3, .int (nI 0)), (4, .int (nI o)), (5, .int (nI m))]) dX5_copy_34 (by decide) rfl ?_
        refine J_aload E dX5_copy_36 1 rfl ?_
        refine J_si8r E (As := []) (c_X2_isMissing l G (sh a 31) (x 8) ) cl_X5_212 yo_X2_isMissing dX5_copy_38 rfl (Nat.le_of_ble_eq_true rfl) (Nat.le_of_ble_eq_true rfl) rfl (Nat.le_of_ble_eq_true rfl) ⟨Nat.zero_le _, Nat.zero_le _⟩ ?_
        refine J_if_ne E (tgt := 52) dX5_copy_41 (by decide) (fun c_41 => ?_) (fun c_41 => ?_)
        · skip
          have c_41 := bI_1 c_41
          exact absurd c_41 h1
        · skip
          have c_41 := bI_0 c_41
          refine J_aload E dX5_copy_44 0 rfl ?_
          refine J_si8r E (As := []) (c_X2_isMissing l G (sh a 31) (x 8) ) cl_X5_212 yo_X2_isMissing dX5_copy_46 rfl (Nat.le_of_ble_eq_true rfl) (Nat.le_of_ble_eq_true rfl) rfl (Nat.le_of_ble_eq_true rfl) ⟨Nat.zero_le _, Nat.zero_le _⟩ ?_
          refine J_if_eq E (tgt := 58) dX5_copy_49 (by decide) (fun c_49 => ?_) (fun c_49 => ?_)
          · skip
            have c_49 := bI_0 c_49
            refine J_aload E dX5_copy_58 1 rfl ?_
            refine gC31_X5_215 E dX5_copy_60 ?_
            refine J_aload E dX5_copy_63 0 rfl ?_
            refine gC31_X5_215 E dX5_copy_65 ?_
            refine J_icmp_eq E (tgt := 77) dX5_copy_68 (by decide) (fun c_68 => ?_) (fun c_68 => ?_)
            · skip
              refine J_aload E dX5_copy_77 1 rfl ?_
              refine J_iload_n E dX5_copy_79 rfl 4 rfl ?_
              refine J_iload E dX5_copy_80 7 rfl ?_
              refine J_si8r E (As := [.int (nI f), .int (nI m)]) (c_X2_hasRun l G (sh a 31) (x 8) (nI f) (nI m) ) cl_X5_218 yo_X2_hasRun dX5_copy_82 rfl (Nat.le_of_ble_eq_true rfl) (Nat.le_of_ble_eq_true rfl) rfl (Nat.le_of_ble_eq_true rfl) ⟨Nat.zero_le _, Nat.zero_le _⟩ ?_
              refine J_if_eq E (tgt := 100) dX5_copy_85 (by decide) (fun c_85 => ?_) (fun c_85 => ?_)
              · skip
                have c_85 := bI_0 c_85
                exact absurd (runOK h5 h4 (by omega)) c_85
              · skip
                have c_85 := bI_1 c_85
                refine J_aload E dX5_copy_88 0 rfl ?_
                refine J_iload E dX5_copy_90 6 rfl ?_
                refine J_iload E dX5_copy_92 7 rfl ?_
                refine J_si8r E (As := [.int (nI o), .int (nI m)]) (c_X2_hasRun l G (sh a 31) (x 8) (nI o) (nI m) ) cl_X5_218 yo_X2_hasRun dX5_copy_94 rfl (Nat.le_of_ble_eq_true rfl) (Nat.le_of_ble_eq_true rfl) rfl (Nat.le_of_ble_eq_true rfl) ⟨Nat.zero_le _, Nat.zero_le _⟩ ?_
                refine J_if_ne E (tgt := 106) dX5_copy_97 (by decide) (fun c_97 => ?_) (fun c_97 => ?_)
                · skip
                  have c_97 := bI_1 c_97
                  refine J_aload E dX5_copy_106 1 rfl ?_
                  refine gC31_X5_221 E dX5_copy_108 ?_
                  refine J_iload_n E dX5_copy_111 rfl 4 rfl ?_
                  refine J_aload E dX5_copy_112 0 rfl ?_
                  refine gC31_X5_221 E dX5_copy_114 ?_
                  refine J_iload E dX5_copy_117 6 rfl ?_
                  refine J_iload E dX5_copy_119 7 rfl ?_
                  refine J_copyi E 32 32 ml_X5_133 na_acopy st_acopy ini_J10 dX5_copy_121 rfl rfl (nI_pos (by omega)) (nI_pos (by omega)) (nI_pos (by omega)) (by rw [nI_clamp (by omega), nI_clamp (by omega)]; omega) (by rw [nI_clamp (by omega), nI_clamp (by omega)]; omega) (by decide) (Nat.le_of_ble_eq_true rfl) ?_
                  refine J_w (ws' := wC G a (up3R x 8 0 (va_cpy (x 8 0) (x 8 0) f o m))) (by rw [nI_clamp (n := f) (by omega), nI_clamp (n := o) (by omega), nI_clamp (n := m) (by omega)]; rfl) ?_
                  refine J_iload E dX5_copy_124 7 rfl ?_
                  exact ret _ _ _ _ ⟨rfl, _, rfl, ShC.rfl'⟩ rfl dX5_copy_126
                · skip
                  have c_97 := bI_0 c_97
                  exact absurd (runOK h7 h6 (by omega)) c_97
            · skip
              exact absurd h3 c_68
          · skip
            have c_49 := bI_1 c_49
            exact absurd c_49 h2
      · skip
        have c_11 := bI_0 c_11
        exact absurd (in3 (by decide)) c_11
  · skip
    refine J_iload_n E dX5_copy_0 rfl 1 rfl ?_
    refine J_cSiN E (As := [.int (nI 0)]) (c_X5_isSheet l G (nI 0) ) cl_X5_202 yo_X5_isSheet dX5_copy_1 rfl (Nat.le_of_ble_eq_true rfl) (Nat.le_of_ble_eq_true rfl) rfl (Nat.le_of_ble_eq_true rfl) ⟨Nat.zero_le _, Nat.zero_le _⟩ ?_
    refine J_if_eq E (tgt := 14) dX5_copy_4 (by decide) (fun c_4 => ?_) (fun c_4 => ?_)
    · skip
      have c_4 := bI_0 c_4
      exact absurd (in3 (by decide)) c_4
    · skip
      have c_4 := bI_1 c_4
      refine J_iload_n E dX5_copy_7 rfl 3 rfl ?_
      refine J_cSiN E (As := [.int (nI 1)]) (c_X5_isSheet l G (nI 1) ) cl_X5_202 yo_X5_isSheet dX5_copy_8 rfl (Nat.le_of_ble_eq_true rfl) (Nat.le_of_ble_eq_true rfl) rfl (Nat.le_of_ble_eq_true rfl) ⟨Nat.zero_le _, Nat.zero_le _⟩ ?_
      refine J_if_ne E (tgt := 20) dX5_copy_11 (by decide) (fun c_11 => ?_) (fun c_11 => ?_)
      · skip
        have c_11 := bI_1 c_11
        refine J_aload_n E dX5_copy_20 rfl 0 rfl ?_
        refine gC0_X5_44 E dX5_copy_21 ?_
        refine J_iload_n E dX5_copy_24 rfl 1 rfl ?_
        refine laC_30_0 E dX5_copy_25 ?_
        refine J_astore E (lv' := [(6, .ref (a 31)), (0, .ref (a 0)), (1, .int (nI 0)), (2, .int (nI f)), (3, .int (nI 1)), (4, .int (nI o)), (5, .int (nI m))]) dX5_copy_26 (by decide) rfl ?_
        refine J_aload_n E dX5_copy_28 rfl 1 rfl ?_
        refine gC0_X5_44 E dX5_copy_29 ?_
        refine J_iload_n E dX5_copy_32 rfl 4 rfl ?_
        refine laC_30_1 E dX5_copy_33 ?_
        refine J_astore E (lv' := [(7, .ref (a 33)), (6, .ref (a 31)), (0, .ref (a 0)), (1, .int (nI 0)), (2, .int (nI f)), (3, .int (nI 1)), (4, .int (nI o)), (5, .int (nI m))]) dX5_copy_34 (by decide) rfl ?_
        refine J_aload E dX5_copy_36 1 rfl ?_
        refine J_si8r E (As := []) (c_X2_isMissing l G (sh a 31) (x 8) ) cl_X5_212 yo_X2_isMissing dX5_copy_38 rfl (Nat.le_of_ble_eq_true rfl) (Nat.le_of_ble_eq_true rfl) rfl (Nat.le_of_ble_eq_true rfl) ⟨Nat.zero_le _, Nat.zero_le _⟩ ?_
        refine J_if_ne E (tgt := 52) dX5_copy_41 (by decide) (fun c_41 => ?_) (fun c_41 => ?_)
        · skip
          have c_41 := bI_1 c_41
          exact absurd c_41 h1
        · skip
          have c_41 := bI_0 c_41
          refine J_aload E dX5_copy_44 0 rfl ?_
          refine J_si9r E (As := []) (c_X2_isMissing l G (sh a 33) (x 9) ) cl_X5_212 yo_X2_isMissing dX5_copy_46 rfl (Nat.le_of_ble_eq_true rfl) (Nat.le_of_ble_eq_true rfl) rfl (Nat.le_of_ble_eq_true rfl) ⟨Nat.zero_le _, Nat.zero_le _⟩ ?_
          refine J_if_eq E (tgt := 58) dX5_copy_49 (by decide) (fun c_49 => ?_) (fun c_49 => ?_)
          · skip
            have c_49 := bI_0 c_49
            refine J_aload E dX5_copy_58 1 rfl ?_
            refine gC31_X5_215 E dX5_copy_60 ?_
            refine J_aload E dX5_copy_63 0 rfl ?_
            refine gC33_X5_215 E dX5_copy_65 ?_
            refine J_icmp_eq E (tgt := 77) dX5_copy_68 (by decide) (fun c_68 => ?_) (fun c_68 => ?_)
            · skip
              refine J_aload E dX5_copy_77 1 rfl ?_
              refine J_iload_n E dX5_copy_79 rfl 4 rfl ?_
              refine J_iload E dX5_copy_80 7 rfl ?_
              refine J_si8r E (As := [.int (nI f), .int (nI m)]) (c_X2_hasRun l G (sh a 31) (x 8) (nI f) (nI m) ) cl_X5_218 yo_X2_hasRun dX5_copy_82 rfl (Nat.le_of_ble_eq_true rfl) (Nat.le_of_ble_eq_true rfl) rfl (Nat.le_of_ble_eq_true rfl) ⟨Nat.zero_le _, Nat.zero_le _⟩ ?_
              refine J_if_eq E (tgt := 100) dX5_copy_85 (by decide) (fun c_85 => ?_) (fun c_85 => ?_)
              · skip
                have c_85 := bI_0 c_85
                exact absurd (runOK h5 h4 (by omega)) c_85
              · skip
                have c_85 := bI_1 c_85
                refine J_aload E dX5_copy_88 0 rfl ?_
                refine J_iload E dX5_copy_90 6 rfl ?_
                refine J_iload E dX5_copy_92 7 rfl ?_
                refine J_si9r E (As := [.int (nI o), .int (nI m)]) (c_X2_hasRun l G (sh a 33) (x 9) (nI o) (nI m) ) cl_X5_218 yo_X2_hasRun dX5_copy_94 rfl (Nat.le_of_ble_eq_true rfl) (Nat.le_of_ble_eq_true rfl) rfl (Nat.le_of_ble_eq_true rfl) ⟨Nat.zero_le _, Nat.zero_le _⟩ ?_
                refine J_if_ne E (tgt := 106) dX5_copy_97 (by decide) (fun c_97 => ?_) (fun c_97 => ?_)
                · skip
                  have c_97 := bI_1 c_97
                  refine J_aload E dX5_copy_106 1 rfl ?_
                  refine gC31_X5_221 E dX5_copy_108 ?_
                  refine J_iload_n E dX5_copy_111 rfl 4 rfl ?_
                  refine J_aload E dX5_copy_112 0 rfl ?_
                  refine gC33_X5_221 E dX5_copy_114 ?_
                  refine J_iload E dX5_copy_117 6 rfl ?_
                  refine J_iload E dX5_copy_119 7 rfl ?_
                  refine J_copyi E 32 34 ml_X5_133 na_acopy st_acopy ini_J10 dX5_copy_121 rfl rfl (nI_pos (by omega)) (nI_pos (by omega)) (nI_pos (by omega)) (by rw [nI_clamp (by omega), nI_clamp (by omega)]; omega) (by rw [nI_clamp (by omega), nI_clamp (by omega)]; omega) (by decide) (Nat.le_of_ble_eq_true rfl) ?_
                  refine J_w (ws' := wC G a (up3R x 9 0 (va_cpy (x 8 0) (x 9 0) f o m))) (by rw [nI_clamp (n := f) (by omega), nI_clamp (n := o) (by omega), nI_clamp (n := m) (by omega)]; rfl) ?_
                  refine J_iload E dX5_copy_124 7 rfl ?_
                  exact ret _ _ _ _ ⟨rfl, _, rfl, ShC.rfl'⟩ rfl dX5_copy_126
                · skip
                  have c_97 := bI_0 c_97
                  exact absurd (runOK h7 h6 (by omega)) c_97
            · skip
              exact absurd h3 c_68
          · skip
            have c_49 := bI_1 c_49
            exact absurd c_49 h2
      · skip
        have c_11 := bI_0 c_11
        exact absurd (in3 (by decide)) c_11
  · skip
    refine J_iload_n E dX5_copy_0 rfl 1 rfl ?_
    refine J_cSiN E (As := [.int (nI 0)]) (c_X5_isSheet l G (nI 0) ) cl_X5_202 yo_X5_isSheet dX5_copy_1 rfl (Nat.le_of_ble_eq_true rfl) (Nat.le_of_ble_eq_true rfl) rfl (Nat.le_of_ble_eq_true rfl) ⟨Nat.zero_le _, Nat.zero_le _⟩ ?_
    refine J_if_eq E (tgt := 14) dX5_copy_4 (by decide) (fun c_4 => ?_) (fun c_4 => ?_)
    · skip
      have c_4 := bI_0 c_4
      exact absurd (in3 (by decide)) c_4
    · skip
      have c_4 := bI_1 c_4
      refine J_iload_n E dX5_copy_7 rfl 3 rfl ?_
      refine J_cSiN E (As := [.int (nI 2)]) (c_X5_isSheet l G (nI 2) ) cl_X5_202 yo_X5_isSheet dX5_copy_8 rfl (Nat.le_of_ble_eq_true rfl) (Nat.le_of_ble_eq_true rfl) rfl (Nat.le_of_ble_eq_true rfl) ⟨Nat.zero_le _, Nat.zero_le _⟩ ?_
      refine J_if_ne E (tgt := 20) dX5_copy_11 (by decide) (fun c_11 => ?_) (fun c_11 => ?_)
      · skip
        have c_11 := bI_1 c_11
        refine J_aload_n E dX5_copy_20 rfl 0 rfl ?_
        refine gC0_X5_44 E dX5_copy_21 ?_
        refine J_iload_n E dX5_copy_24 rfl 1 rfl ?_
        refine laC_30_0 E dX5_copy_25 ?_
        refine J_astore E (lv' := [(6, .ref (a 31)), (0, .ref (a 0)), (1, .int (nI 0)), (2, .int (nI f)), (3, .int (nI 2)), (4, .int (nI o)), (5, .int (nI m))]) dX5_copy_26 (by decide) rfl ?_
        refine J_aload_n E dX5_copy_28 rfl 1 rfl ?_
        refine gC0_X5_44 E dX5_copy_29 ?_
        refine J_iload_n E dX5_copy_32 rfl 4 rfl ?_
        refine laC_30_2 E dX5_copy_33 ?_
        refine J_astore E (lv' := [(7, .ref (a 35)), (6, .ref (a 31)), (0, .ref (a 0)), (1, .int (nI 0)), (2, .int (nI f)), (3, .int (nI 2)), (4, .int (nI o)), (5, .int (nI m))]) dX5_copy_34 (by decide) rfl ?_
        refine J_aload E dX5_copy_36 1 rfl ?_
        refine J_si8r E (As := []) (c_X2_isMissing l G (sh a 31) (x 8) ) cl_X5_212 yo_X2_isMissing dX5_copy_38 rfl (Nat.le_of_ble_eq_true rfl) (Nat.le_of_ble_eq_true rfl) rfl (Nat.le_of_ble_eq_true rfl) ⟨Nat.zero_le _, Nat.zero_le _⟩ ?_
        refine J_if_ne E (tgt := 52) dX5_copy_41 (by decide) (fun c_41 => ?_) (fun c_41 => ?_)
        · skip
          have c_41 := bI_1 c_41
          exact absurd c_41 h1
        · skip
          have c_41 := bI_0 c_41
          refine J_aload E dX5_copy_44 0 rfl ?_
          refine J_si10r E (As := []) (c_X2_isMissing l G (sh a 35) (x 10) ) cl_X5_212 yo_X2_isMissing dX5_copy_46 rfl (Nat.le_of_ble_eq_true rfl) (Nat.le_of_ble_eq_true rfl) rfl (Nat.le_of_ble_eq_true rfl) ⟨Nat.zero_le _, Nat.zero_le _⟩ ?_
          refine J_if_eq E (tgt := 58) dX5_copy_49 (by decide) (fun c_49 => ?_) (fun c_49 => ?_)
          · skip
            have c_49 := bI_0 c_49
            refine J_aload E dX5_copy_58 1 rfl ?_
            refine gC31_X5_215 E dX5_copy_60 ?_
            refine J_aload E dX5_copy_63 0 rfl ?_
            refine gC35_X5_215 E dX5_copy_65 ?_
            refine J_icmp_eq E (tgt := 77) dX5_copy_68 (by decide) (fun c_68 => ?_) (fun c_68 => ?_)
            · skip
              refine J_aload E dX5_copy_77 1 rfl ?_
              refine J_iload_n E dX5_copy_79 rfl 4 rfl ?_
              refine J_iload E dX5_copy_80 7 rfl ?_
              refine J_si8r E (As := [.int (nI f), .int (nI m)]) (c_X2_hasRun l G (sh a 31) (x 8) (nI f) (nI m) ) cl_X5_218 yo_X2_hasRun dX5_copy_82 rfl (Nat.le_of_ble_eq_true rfl) (Nat.le_of_ble_eq_true rfl) rfl (Nat.le_of_ble_eq_true rfl) ⟨Nat.zero_le _, Nat.zero_le _⟩ ?_
              refine J_if_eq E (tgt := 100) dX5_copy_85 (by decide) (fun c_85 => ?_) (fun c_85 => ?_)
              · skip
                have c_85 := bI_0 c_85
                exact absurd (runOK h5 h4 (by omega)) c_85
              · skip
                have c_85 := bI_1 c_85
                refine J_aload E dX5_copy_88 0 rfl ?_
                refine J_iload E dX5_copy_90 6 rfl ?_
                refine J_iload E dX5_copy_92 7 rfl ?_
                refine J_si10r E (As := [.int (nI o), .int (nI m)]) (c_X2_hasRun l G (sh a 35) (x 10) (nI o) (nI m) ) cl_X5_218 yo_X2_hasRun dX5_copy_94 rfl (Nat.le_of_ble_eq_true rfl) (Nat.le_of_ble_eq_true rfl) rfl (Nat.le_of_ble_eq_true rfl) ⟨Nat.zero_le _, Nat.zero_le _⟩ ?_
                refine J_if_ne E (tgt := 106) dX5_copy_97 (by decide) (fun c_97 => ?_) (fun c_97 => ?_)
                · skip
                  have c_97 := bI_1 c_97
                  refine J_aload E dX5_copy_106 1 rfl ?_
                  refine gC31_X5_221 E dX5_copy_108 ?_
                  refine J_iload_n E dX5_copy_111 rfl 4 rfl ?_
                  refine J_aload E dX5_copy_112 0 rfl ?_
                  refine gC35_X5_221 E dX5_copy_114 ?_
                  refine J_iload E dX5_copy_117 6 rfl ?_
                  refine J_iload E dX5_copy_119 7 rfl ?_
                  refine J_copyi E 32 36 ml_X5_133 na_acopy st_acopy ini_J10 dX5_copy_121 rfl rfl (nI_pos (by omega)) (nI_pos (by omega)) (nI_pos (by omega)) (by rw [nI_clamp (by omega), nI_clamp (by omega)]; omega) (by rw [nI_clamp (by omega), nI_clamp (by omega)]; omega) (by decide) (Nat.le_of_ble_eq_true rfl) ?_
                  refine J_w (ws' := wC G a (up3R x 10 0 (va_cpy (x 8 0) (x 10 0) f o m))) (by rw [nI_clamp (n := f) (by omega), nI_clamp (n := o) (by omega), nI_clamp (n := m) (by omega)]; rfl) ?_
                  refine J_iload E dX5_copy_124 7 rfl ?_
                  exact ret _ _ _ _ ⟨rfl, _, rfl, ShC.rfl'⟩ rfl dX5_copy_126
                · skip
                  have c_97 := bI_0 c_97
                  exact absurd (runOK h7 h6 (by omega)) c_97
            · skip
              exact absurd h3 c_68
          · skip
            have c_49 := bI_1 c_49
            exact absurd c_49 h2
      · skip
        have c_11 := bI_0 c_11
        exact absurd (in3 (by decide)) c_11
  · skip
    refine J_iload_n E dX5_copy_0 rfl 1 rfl ?_
    refine J_cSiN E (As := [.int (nI 0)]) (c_X5_isSheet l G (nI 0) ) cl_X5_202 yo_X5_isSheet dX5_copy_1 rfl (Nat.le_of_ble_eq_true rfl) (Nat.le_of_ble_eq_true rfl) rfl (Nat.le_of_ble_eq_true rfl) ⟨Nat.zero_le _, Nat.zero_le _⟩ ?_
    refine J_if_eq E (tgt := 14) dX5_copy_4 (by decide) (fun c_4 => ?_) (fun c_4 => ?_)
    · skip
      have c_4 := bI_0 c_4
      exact absurd (in3 (by decide)) c_4
    · skip
      have c_4 := bI_1 c_4
      refine J_iload_n E dX5_copy_7 rfl 3 rfl ?_
      refine J_cSiN E (As := [.int (nI 3)]) (c_X5_isSheet l G (nI 3) ) cl_X5_202 yo_X5_isSheet dX5_copy_8 rfl (Nat.le_of_ble_eq_true rfl) (Nat.le_of_ble_eq_true rfl) rfl (Nat.le_of_ble_eq_true rfl) ⟨Nat.zero_le _, Nat.zero_le _⟩ ?_
      refine J_if_ne E (tgt := 20) dX5_copy_11 (by decide) (fun c_11 => ?_) (fun c_11 => ?_)
      · skip
        have c_11 := bI_1 c_11
        refine J_aload_n E dX5_copy_20 rfl 0 rfl ?_
        refine gC0_X5_44 E dX5_copy_21 ?_
        refine J_iload_n E dX5_copy_24 rfl 1 rfl ?_
        refine laC_30_0 E dX5_copy_25 ?_
        refine J_astore E (lv' := [(6, .ref (a 31)), (0, .ref (a 0)), (1, .int (nI 0)), (2, .int (nI f)), (3, .int (nI 3)), (4, .int (nI o)), (5, .int (nI m))]) dX5_copy_26 (by decide) rfl ?_
        refine J_aload_n E dX5_copy_28 rfl 1 rfl ?_
        refine gC0_X5_44 E dX5_copy_29 ?_
        refine J_iload_n E dX5_copy_32 rfl 4 rfl ?_
        refine laC_30_3 E dX5_copy_33 ?_
        refine J_astore E (lv' := [(7, .ref (a 37)), (6, .ref (a 31)), (0, .ref (a 0)), (1, .int (nI 0)), (2, .int (nI f)), (3, .int (nI 3)), (4, .int (nI o)), (5, .int (nI m))]) dX5_copy_34 (by decide) rfl ?_
        refine J_aload E dX5_copy_36 1 rfl ?_
        refine J_si8r E (As := []) (c_X2_isMissing l G (sh a 31) (x 8) ) cl_X5_212 yo_X2_isMissing dX5_copy_38 rfl (Nat.le_of_ble_eq_true rfl) (Nat.le_of_ble_eq_true rfl) rfl (Nat.le_of_ble_eq_true rfl) ⟨Nat.zero_le _, Nat.zero_le _⟩ ?_
        refine J_if_ne E (tgt := 52) dX5_copy_41 (by decide) (fun c_41 => ?_) (fun c_41 => ?_)
        · skip
          have c_41 := bI_1 c_41
          exact absurd c_41 h1
        · skip
          have c_41 := bI_0 c_41
          refine J_aload E dX5_copy_44 0 rfl ?_
          refine J_si11r E (As := []) (c_X2_isMissing l G (sh a 37) (x 11) ) cl_X5_212 yo_X2_isMissing dX5_copy_46 rfl (Nat.le_of_ble_eq_true rfl) (Nat.le_of_ble_eq_true rfl) rfl (Nat.le_of_ble_eq_true rfl) ⟨Nat.zero_le _, Nat.zero_le _⟩ ?_
          refine J_if_eq E (tgt := 58) dX5_copy_49 (by decide) (fun c_49 => ?_) (fun c_49 => ?_)
          · skip
            have c_49 := bI_0 c_49
            refine J_aload E dX5_copy_58 1 rfl ?_
            refine gC31_X5_215 E dX5_copy_60 ?_
            refine J_aload E dX5_copy_63 0 rfl ?_
            refine gC37_X5_215 E dX5_copy_65 ?_
            refine J_icmp_eq E (tgt := 77) dX5_copy_68 (by decide) (fun c_68 => ?_) (fun c_68 => ?_)
            · skip
              refine J_aload E dX5_copy_77 1 rfl ?_
              refine J_iload_n E dX5_copy_79 rfl 4 rfl ?_
              refine J_iload E dX5_copy_80 7 rfl ?_
              refine J_si8r E (As := [.int (nI f), .int (nI m)]) (c_X2_hasRun l G (sh a 31) (x 8) (nI f) (nI m) ) cl_X5_218 yo_X2_hasRun dX5_copy_82 rfl (Nat.le_of_ble_eq_true rfl) (Nat.le_of_ble_eq_true rfl) rfl (Nat.le_of_ble_eq_true rfl) ⟨Nat.zero_le _, Nat.zero_le _⟩ ?_
              refine J_if_eq E (tgt := 100) dX5_copy_85 (by decide) (fun c_85 => ?_) (fun c_85 => ?_)
              · skip
                have c_85 := bI_0 c_85
                exact absurd (runOK h5 h4 (by omega)) c_85
              · skip
                have c_85 := bI_1 c_85
                refine J_aload E dX5_copy_88 0 rfl ?_
                refine J_iload E dX5_copy_90 6 rfl ?_
                refine J_iload E dX5_copy_92 7 rfl ?_
                refine J_si11r E (As := [.int (nI o), .int (nI m)]) (c_X2_hasRun l G (sh a 37) (x 11) (nI o) (nI m) ) cl_X5_218 yo_X2_hasRun dX5_copy_94 rfl (Nat.le_of_ble_eq_true rfl) (Nat.le_of_ble_eq_true rfl) rfl (Nat.le_of_ble_eq_true rfl) ⟨Nat.zero_le _, Nat.zero_le _⟩ ?_
                refine J_if_ne E (tgt := 106) dX5_copy_97 (by decide) (fun c_97 => ?_) (fun c_97 => ?_)
                · skip
                  have c_97 := bI_1 c_97
                  refine J_aload E dX5_copy_106 1 rfl ?_
                  refine gC31_X5_221 E dX5_copy_108 ?_
                  refine J_iload_n E dX5_copy_111 rfl 4 rfl ?_
                  refine J_aload E dX5_copy_112 0 rfl ?_
                  refine gC37_X5_221 E dX5_copy_114 ?_
                  refine J_iload E dX5_copy_117 6 rfl ?_
                  refine J_iload E dX5_copy_119 7 rfl ?_
                  refine J_copyi E 32 38 ml_X5_133 na_acopy st_acopy ini_J10 dX5_copy_121 rfl rfl (nI_pos (by omega)) (nI_pos (by omega)) (nI_pos (by omega)) (by rw [nI_clamp (by omega), nI_clamp (by omega)]; omega) (by rw [nI_clamp (by omega), nI_clamp (by omega)]; omega) (by decide) (Nat.le_of_ble_eq_true rfl) ?_
                  refine J_w (ws' := wC G a (up3R x 11 0 (va_cpy (x 8 0) (x 11 0) f o m))) (by rw [nI_clamp (n := f) (by omega), nI_clamp (n := o) (by omega), nI_clamp (n := m) (by omega)]; rfl) ?_
                  refine J_iload E dX5_copy_124 7 rfl ?_
                  exact ret _ _ _ _ ⟨rfl, _, rfl, ShC.rfl'⟩ rfl dX5_copy_126
                · skip
                  have c_97 := bI_0 c_97
                  exact absurd (runOK h7 h6 (by omega)) c_97
            · skip
              exact absurd h3 c_68
          · skip
            have c_49 := bI_1 c_49
            exact absurd c_49 h2
      · skip
        have c_11 := bI_0 c_11
        exact absurd (in3 (by decide)) c_11
  · skip
    refine J_iload_n E dX5_copy_0 rfl 1 rfl ?_
    refine J_cSiN E (As := [.int (nI 1)]) (c_X5_isSheet l G (nI 1) ) cl_X5_202 yo_X5_isSheet dX5_copy_1 rfl (Nat.le_of_ble_eq_true rfl) (Nat.le_of_ble_eq_true rfl) rfl (Nat.le_of_ble_eq_true rfl) ⟨Nat.zero_le _, Nat.zero_le _⟩ ?_
    refine J_if_eq E (tgt := 14) dX5_copy_4 (by decide) (fun c_4 => ?_) (fun c_4 => ?_)
    · skip
      have c_4 := bI_0 c_4
      exact absurd (in3 (by decide)) c_4
    · skip
      have c_4 := bI_1 c_4
      refine J_iload_n E dX5_copy_7 rfl 3 rfl ?_
      refine J_cSiN E (As := [.int (nI 0)]) (c_X5_isSheet l G (nI 0) ) cl_X5_202 yo_X5_isSheet dX5_copy_8 rfl (Nat.le_of_ble_eq_true rfl) (Nat.le_of_ble_eq_true rfl) rfl (Nat.le_of_ble_eq_true rfl) ⟨Nat.zero_le _, Nat.zero_le _⟩ ?_
      refine J_if_ne E (tgt := 20) dX5_copy_11 (by decide) (fun c_11 => ?_) (fun c_11 => ?_)
      · skip
        have c_11 := bI_1 c_11
        refine J_aload_n E dX5_copy_20 rfl 0 rfl ?_
        refine gC0_X5_44 E dX5_copy_21 ?_
        refine J_iload_n E dX5_copy_24 rfl 1 rfl ?_
        refine laC_30_1 E dX5_copy_25 ?_
        refine J_astore E (lv' := [(6, .ref (a 33)), (0, .ref (a 0)), (1, .int (nI 1)), (2, .int (nI f)), (3, .int (nI 0)), (4, .int (nI o)), (5, .int (nI m))]) dX5_copy_26 (by decide) rfl ?_
        refine J_aload_n E dX5_copy_28 rfl 1 rfl ?_
        refine gC0_X5_44 E dX5_copy_29 ?_
        refine J_iload_n E dX5_copy_32 rfl 4 rfl ?_
        refine laC_30_0 E dX5_copy_33 ?_
        refine J_astore E (lv' := [(7, .ref (a 31)), (6, .ref (a 33)), (0, .ref (a 0)), (1, .int (nI 1)), (2, .int (nI f)), (3, .int (nI 0)), (4, .int (nI o)), (5, .int (nI m))]) dX5_copy_34 (by decide) rfl ?_
        refine J_aload E dX5_copy_36 1 rfl ?_
        refine J_si9r E (As := []) (c_X2_isMissing l G (sh a 33) (x 9) ) cl_X5_212 yo_X2_isMissing dX5_copy_38 rfl (Nat.le_of_ble_eq_true rfl) (Nat.le_of_ble_eq_true rfl) rfl (Nat.le_of_ble_eq_true rfl) ⟨Nat.zero_le _, Nat.zero_le _⟩ ?_
        refine J_if_ne E (tgt := 52) dX5_copy_41 (by decide) (fun c_41 => ?_) (fun c_41 => ?_)
        · skip
          have c_41 := bI_1 c_41
          exact absurd c_41 h1
        · skip
          have c_41 := bI_0 c_41
          refine J_aload E dX5_copy_44 0 rfl ?_
          refine J_si8r E (As := []) (c_X2_isMissing l G (sh a 31) (x 8) ) cl_X5_212 yo_X2_isMissing dX5_copy_46 rfl (Nat.le_of_ble_eq_true rfl) (Nat.le_of_ble_eq_true rfl) rfl (Nat.le_of_ble_eq_true rfl) ⟨Nat.zero_le _, Nat.zero_le _⟩ ?_
          refine J_if_eq E (tgt := 58) dX5_copy_49 (by decide) (fun c_49 => ?_) (fun c_49 => ?_)
          · skip
            have c_49 := bI_0 c_49
            refine J_aload E dX5_copy_58 1 rfl ?_
            refine gC33_X5_215 E dX5_copy_60 ?_
            refine J_aload E dX5_copy_63 0 rfl ?_
            refine gC31_X5_215 E dX5_copy_65 ?_
            refine J_icmp_eq E (tgt := 77) dX5_copy_68 (by decide) (fun c_68 => ?_) (fun c_68 => ?_)
            · skip
              refine J_aload E dX5_copy_77 1 rfl ?_
              refine J_iload_n E dX5_copy_79 rfl 4 rfl ?_
              refine J_iload E dX5_copy_80 7 rfl ?_
              refine J_si9r E (As := [.int (nI f), .int (nI m)]) (c_X2_hasRun l G (sh a 33) (x 9) (nI f) (nI m) ) cl_X5_218 yo_X2_hasRun dX5_copy_82 rfl (Nat.le_of_ble_eq_true rfl) (Nat.le_of_ble_eq_true rfl) rfl (Nat.le_of_ble_eq_true rfl) ⟨Nat.zero_le _, Nat.zero_le _⟩ ?_
              refine J_if_eq E (tgt := 100) dX5_copy_85 (by decide) (fun c_85 => ?_) (fun c_85 => ?_)
              · skip
                have c_85 := bI_0 c_85
                exact absurd (runOK h5 h4 (by omega)) c_85
              · skip
                have c_85 := bI_1 c_85
                refine J_aload E dX5_copy_88 0 rfl ?_
                refine J_iload E dX5_copy_90 6 rfl ?_
                refine J_iload E dX5_copy_92 7 rfl ?_
                refine J_si8r E (As := [.int (nI o), .int (nI m)]) (c_X2_hasRun l G (sh a 31) (x 8) (nI o) (nI m) ) cl_X5_218 yo_X2_hasRun dX5_copy_94 rfl (Nat.le_of_ble_eq_true rfl) (Nat.le_of_ble_eq_true rfl) rfl (Nat.le_of_ble_eq_true rfl) ⟨Nat.zero_le _, Nat.zero_le _⟩ ?_
                refine J_if_ne E (tgt := 106) dX5_copy_97 (by decide) (fun c_97 => ?_) (fun c_97 => ?_)
                · skip
                  have c_97 := bI_1 c_97
                  refine J_aload E dX5_copy_106 1 rfl ?_
                  refine gC33_X5_221 E dX5_copy_108 ?_
                  refine J_iload_n E dX5_copy_111 rfl 4 rfl ?_
                  refine J_aload E dX5_copy_112 0 rfl ?_
                  refine gC31_X5_221 E dX5_copy_114 ?_
                  refine J_iload E dX5_copy_117 6 rfl ?_
                  refine J_iload E dX5_copy_119 7 rfl ?_
                  refine J_copyi E 34 32 ml_X5_133 na_acopy st_acopy ini_J10 dX5_copy_121 rfl rfl (nI_pos (by omega)) (nI_pos (by omega)) (nI_pos (by omega)) (by rw [nI_clamp (by omega), nI_clamp (by omega)]; omega) (by rw [nI_clamp (by omega), nI_clamp (by omega)]; omega) (by decide) (Nat.le_of_ble_eq_true rfl) ?_
                  refine J_w (ws' := wC G a (up3R x 8 0 (va_cpy (x 9 0) (x 8 0) f o m))) (by rw [nI_clamp (n := f) (by omega), nI_clamp (n := o) (by omega), nI_clamp (n := m) (by omega)]; rfl) ?_
                  refine J_iload E dX5_copy_124 7 rfl ?_
                  exact ret _ _ _ _ ⟨rfl, _, rfl, ShC.rfl'⟩ rfl dX5_copy_126
                · skip
                  have c_97 := bI_0 c_97
                  exact absurd (runOK h7 h6 (by omega)) c_97
            · skip
              exact absurd h3 c_68
          · skip
            have c_49 := bI_1 c_49
            exact absurd c_49 h2
      · skip
        have c_11 := bI_0 c_11
        exact absurd (in3 (by decide)) c_11
  · skip
    refine J_iload_n E dX5_copy_0 rfl 1 rfl ?_
    refine J_cSiN E (As := [.int (nI 1)]) (c_X5_isSheet l G (nI 1) ) cl_X5_202 yo_X5_isSheet dX5_copy_1 rfl (Nat.le_of_ble_eq_true rfl) (Nat.le_of_ble_eq_true rfl) rfl (Nat.le_of_ble_eq_true rfl) ⟨Nat.zero_le _, Nat.zero_le _⟩ ?_
    refine J_if_eq E (tgt := 14) dX5_copy_4 (by decide) (fun c_4 => ?_) (fun c_4 => ?_)
    · skip
      have c_4 := bI_0 c_4
      exact absurd (in3 (by decide)) c_4
    · skip
      have c_4 := bI_1 c_4
      refine J_iload_n E dX5_copy_7 rfl 3 rfl ?_
      refine J_cSiN E (As := [.int (nI 1)]) (c_X5_isSheet l G (nI 1) ) cl_X5_202 yo_X5_isSheet dX5_copy_8 rfl (Nat.le_of_ble_eq_true rfl) (Nat.le_of_ble_eq_true rfl) rfl (Nat.le_of_ble_eq_true rfl) ⟨Nat.zero_le _, Nat.zero_le _⟩ ?_
      refine J_if_ne E (tgt := 20) dX5_copy_11 (by decide) (fun c_11 => ?_) (fun c_11 => ?_)
      · skip
        have c_11 := bI_1 c_11
        refine J_aload_n E dX5_copy_20 rfl 0 rfl ?_
        refine gC0_X5_44 E dX5_copy_21 ?_
        refine J_iload_n E dX5_copy_24 rfl 1 rfl ?_
        refine laC_30_1 E dX5_copy_25 ?_
        refine J_astore E (lv' := [(6, .ref (a 33)), (0, .ref (a 0)), (1, .int (nI 1)), (2, .int (nI f)), (3, .int (nI 1)), (4, .int (nI o)), (5, .int (nI m))]) dX5_copy_26 (by decide) rfl ?_
        refine J_aload_n E dX5_copy_28 rfl 1 rfl ?_
        refine gC0_X5_44 E dX5_copy_29 ?_
        refine J_iload_n E dX5_copy_32 rfl 4 rfl ?_
        refine laC_30_1 E dX5_copy_33 ?_
        refine J_astore E (lv' := [(7, .ref (a 33)), (6, .ref (a 33)), (0, .ref (a 0)), (1, .int (nI 1)), (2, .int (nI f)), (3, .int (nI 1)), (4, .int (nI o)), (5, .int (nI m))]) dX5_copy_34 (by decide) rfl ?_
        refine J_aload E dX5_copy_36 1 rfl ?_
        refine J_si9r E (As := []) (c_X2_isMissing l G (sh a 33) (x 9) ) cl_X5_212 yo_X2_isMissing dX5_copy_38 rfl (Nat.le_of_ble_eq_true rfl) (Nat.le_of_ble_eq_true rfl) rfl (Nat.le_of_ble_eq_true rfl) ⟨Nat.zero_le _, Nat.zero_le _⟩ ?_
        refine J_if_ne E (tgt := 52) dX5_copy_41 (by decide) (fun c_41 => ?_) (fun c_41 => ?_)
        · skip
          have c_41 := bI_1 c_41
          exact absurd c_41 h1
        · skip
          have c_41 := bI_0 c_41
          refine J_aload E dX5_copy_44 0 rfl ?_
          refine J_si9r E (As := []) (c_X2_isMissing l G (sh a 33) (x 9) ) cl_X5_212 yo_X2_isMissing dX5_copy_46 rfl (Nat.le_of_ble_eq_true rfl) (Nat.le_of_ble_eq_true rfl) rfl (Nat.le_of_ble_eq_true rfl) ⟨Nat.zero_le _, Nat.zero_le _⟩ ?_
          refine J_if_eq E (tgt := 58) dX5_copy_49 (by decide) (fun c_49 => ?_) (fun c_49 => ?_)
          · skip
            have c_49 := bI_0 c_49
            refine J_aload E dX5_copy_58 1 rfl ?_
            refine gC33_X5_215 E dX5_copy_60 ?_
            refine J_aload E dX5_copy_63 0 rfl ?_
            refine gC33_X5_215 E dX5_copy_65 ?_
            refine J_icmp_eq E (tgt := 77) dX5_copy_68 (by decide) (fun c_68 => ?_) (fun c_68 => ?_)
            · skip
              refine J_aload E dX5_copy_77 1 rfl ?_
              refine J_iload_n E dX5_copy_79 rfl 4 rfl ?_
              refine J_iload E dX5_copy_80 7 rfl ?_
              refine J_si9r E (As := [.int (nI f), .int (nI m)]) (c_X2_hasRun l G (sh a 33) (x 9) (nI f) (nI m) ) cl_X5_218 yo_X2_hasRun dX5_copy_82 rfl (Nat.le_of_ble_eq_true rfl) (Nat.le_of_ble_eq_true rfl) rfl (Nat.le_of_ble_eq_true rfl) ⟨Nat.zero_le _, Nat.zero_le _⟩ ?_
              refine J_if_eq E (tgt := 100) dX5_copy_85 (by decide) (fun c_85 => ?_) (fun c_85 => ?_)
              · skip
                have c_85 := bI_0 c_85
                exact absurd (runOK h5 h4 (by omega)) c_85
              · skip
                have c_85 := bI_1 c_85
                refine J_aload E dX5_copy_88 0 rfl ?_
                refine J_iload E dX5_copy_90 6 rfl ?_
                refine J_iload E dX5_copy_92 7 rfl ?_
                refine J_si9r E (As := [.int (nI o), .int (nI m)]) (c_X2_hasRun l G (sh a 33) (x 9) (nI o) (nI m) ) cl_X5_218 yo_X2_hasRun dX5_copy_94 rfl (Nat.le_of_ble_eq_true rfl) (Nat.le_of_ble_eq_true rfl) rfl (Nat.le_of_ble_eq_true rfl) ⟨Nat.zero_le _, Nat.zero_le _⟩ ?_
                refine J_if_ne E (tgt := 106) dX5_copy_97 (by decide) (fun c_97 => ?_) (fun c_97 => ?_)
                · skip
                  have c_97 := bI_1 c_97
                  refine J_aload E dX5_copy_106 1 rfl ?_
                  refine gC33_X5_221 E dX5_copy_108 ?_
                  refine J_iload_n E dX5_copy_111 rfl 4 rfl ?_
                  refine J_aload E dX5_copy_112 0 rfl ?_
                  refine gC33_X5_221 E dX5_copy_114 ?_
                  refine J_iload E dX5_copy_117 6 rfl ?_
                  refine J_iload E dX5_copy_119 7 rfl ?_
                  refine J_copyi E 34 34 ml_X5_133 na_acopy st_acopy ini_J10 dX5_copy_121 rfl rfl (nI_pos (by omega)) (nI_pos (by omega)) (nI_pos (by omega)) (by rw [nI_clamp (by omega), nI_clamp (by omega)]; omega) (by rw [nI_clamp (by omega), nI_clamp (by omega)]; omega) (by decide) (Nat.le_of_ble_eq_true rfl) ?_
                  refine J_w (ws' := wC G a (up3R x 9 0 (va_cpy (x 9 0) (x 9 0) f o m))) (by rw [nI_clamp (n := f) (by omega), nI_clamp (n := o) (by omega), nI_clamp (n := m) (by omega)]; rfl) ?_
                  refine J_iload E dX5_copy_124 7 rfl ?_
                  exact ret _ _ _ _ ⟨rfl, _, rfl, ShC.rfl'⟩ rfl dX5_copy_126
                · skip
                  have c_97 := bI_0 c_97
                  exact absurd (runOK h7 h6 (by omega)) c_97
            · skip
              exact absurd h3 c_68
          · skip
            have c_49 := bI_1 c_49
            exact absurd c_49 h2
      · skip
        have c_11 := bI_0 c_11
        exact absurd (in3 (by decide)) c_11
  · skip
    refine J_iload_n E dX5_copy_0 rfl 1 rfl ?_
    refine J_cSiN E (As := [.int (nI 1)]) (c_X5_isSheet l G (nI 1) ) cl_X5_202 yo_X5_isSheet dX5_copy_1 rfl (Nat.le_of_ble_eq_true rfl) (Nat.le_of_ble_eq_true rfl) rfl (Nat.le_of_ble_eq_true rfl) ⟨Nat.zero_le _, Nat.zero_le _⟩ ?_
    refine J_if_eq E (tgt := 14) dX5_copy_4 (by decide) (fun c_4 => ?_) (fun c_4 => ?_)
    · skip
      have c_4 := bI_0 c_4
      exact absurd (in3 (by decide)) c_4
    · skip
      have c_4 := bI_1 c_4
      refine J_iload_n E dX5_copy_7 rfl 3 rfl ?_
      refine J_cSiN E (As := [.int (nI 2)]) (c_X5_isSheet l G (nI 2) ) cl_X5_202 yo_X5_isSheet dX5_copy_8 rfl (Nat.le_of_ble_eq_true rfl) (Nat.le_of_ble_eq_true rfl) rfl (Nat.le_of_ble_eq_true rfl) ⟨Nat.zero_le _, Nat.zero_le _⟩ ?_
      refine J_if_ne E (tgt := 20) dX5_copy_11 (by decide) (fun c_11 => ?_) (fun c_11 => ?_)
      · skip
        have c_11 := bI_1 c_11
        refine J_aload_n E dX5_copy_20 rfl 0 rfl ?_
        refine gC0_X5_44 E dX5_copy_21 ?_
        refine J_iload_n E dX5_copy_24 rfl 1 rfl ?_
        refine laC_30_1 E dX5_copy_25 ?_
        refine J_astore E (lv' := [(6, .ref (a 33)), (0, .ref (a 0)), (1, .int (nI 1)), (2, .int (nI f)), (3, .int (nI 2)), (4, .int (nI o)), (5, .int (nI m))]) dX5_copy_26 (by decide) rfl ?_
        refine J_aload_n E dX5_copy_28 rfl 1 rfl ?_
        refine gC0_X5_44 E dX5_copy_29 ?_
        refine J_iload_n E dX5_copy_32 rfl 4 rfl ?_
        refine laC_30_2 E dX5_copy_33 ?_
        refine J_astore E (lv' := [(7, .ref (a 35)), (6, .ref (a 33)), (0, .ref (a 0)), (1, .int (nI 1)), (2, .int (nI f)), (3, .int (nI 2)), (4, .int (nI o)), (5, .int (nI m))]) dX5_copy_34 (by decide) rfl ?_
        refine J_aload E dX5_copy_36 1 rfl ?_
        refine J_si9r E (As := []) (c_X2_isMissing l G (sh a 33) (x 9) ) cl_X5_212 yo_X2_isMissing dX5_copy_38 rfl (Nat.le_of_ble_eq_true rfl) (Nat.le_of_ble_eq_true rfl) rfl (Nat.le_of_ble_eq_true rfl) ⟨Nat.zero_le _, Nat.zero_le _⟩ ?_
        refine J_if_ne E (tgt := 52) dX5_copy_41 (by decide) (fun c_41 => ?_) (fun c_41 => ?_)
        · skip
          have c_41 := bI_1 c_41
          exact absurd c_41 h1
        · skip
          have c_41 := bI_0 c_41
          refine J_aload E dX5_copy_44 0 rfl ?_
          refine J_si10r E (As := []) (c_X2_isMissing l G (sh a 35) (x 10) ) cl_X5_212 yo_X2_isMissing dX5_copy_46 rfl (Nat.le_of_ble_eq_true rfl) (Nat.le_of_ble_eq_true rfl) rfl (Nat.le_of_ble_eq_true rfl) ⟨Nat.zero_le _, Nat.zero_le _⟩ ?_
          refine J_if_eq E (tgt := 58) dX5_copy_49 (by decide) (fun c_49 => ?_) (fun c_49 => ?_)
          · skip
            have c_49 := bI_0 c_49
            refine J_aload E dX5_copy_58 1 rfl ?_
            refine gC33_X5_215 E dX5_copy_60 ?_
            refine J_aload E dX5_copy_63 0 rfl ?_
            refine gC35_X5_215 E dX5_copy_65 ?_
            refine J_icmp_eq E (tgt := 77) dX5_copy_68 (by decide) (fun c_68 => ?_) (fun c_68 => ?_)
            · skip
              refine J_aload E dX5_copy_77 1 rfl ?_
              refine J_iload_n E dX5_copy_79 rfl 4 rfl ?_
              refine J_iload E dX5_copy_80 7 rfl ?_
              refine J_si9r E (As := [.int (nI f), .int (nI m)]) (c_X2_hasRun l G (sh a 33) (x 9) (nI f) (nI m) ) cl_X5_218 yo_X2_hasRun dX5_copy_82 rfl (Nat.le_of_ble_eq_true rfl) (Nat.le_of_ble_eq_true rfl) rfl (Nat.le_of_ble_eq_true rfl) ⟨Nat.zero_le _, Nat.zero_le _⟩ ?_
              refine J_if_eq E (tgt := 100) dX5_copy_85 (by decide) (fun c_85 => ?_) (fun c_85 => ?_)
              · skip
                have c_85 := bI_0 c_85
                exact absurd (runOK h5 h4 (by omega)) c_85
              · skip
                have c_85 := bI_1 c_85
                refine J_aload E dX5_copy_88 0 rfl ?_
                refine J_iload E dX5_copy_90 6 rfl ?_
                refine J_iload E dX5_copy_92 7 rfl ?_
                refine J_si10r E (As := [.int (nI o), .int (nI m)]) (c_X2_hasRun l G (sh a 35) (x 10) (nI o) (nI m) ) cl_X5_218 yo_X2_hasRun dX5_copy_94 rfl (Nat.le_of_ble_eq_true rfl) (Nat.le_of_ble_eq_true rfl) rfl (Nat.le_of_ble_eq_true rfl) ⟨Nat.zero_le _, Nat.zero_le _⟩ ?_
                refine J_if_ne E (tgt := 106) dX5_copy_97 (by decide) (fun c_97 => ?_) (fun c_97 => ?_)
                · skip
                  have c_97 := bI_1 c_97
                  refine J_aload E dX5_copy_106 1 rfl ?_
                  refine gC33_X5_221 E dX5_copy_108 ?_
                  refine J_iload_n E dX5_copy_111 rfl 4 rfl ?_
                  refine J_aload E dX5_copy_112 0 rfl ?_
                  refine gC35_X5_221 E dX5_copy_114 ?_
                  refine J_iload E dX5_copy_117 6 rfl ?_
                  refine J_iload E dX5_copy_119 7 rfl ?_
                  refine J_copyi E 34 36 ml_X5_133 na_acopy st_acopy ini_J10 dX5_copy_121 rfl rfl (nI_pos (by omega)) (nI_pos (by omega)) (nI_pos (by omega)) (by rw [nI_clamp (by omega), nI_clamp (by omega)]; omega) (by rw [nI_clamp (by omega), nI_clamp (by omega)]; omega) (by decide) (Nat.le_of_ble_eq_true rfl) ?_
                  refine J_w (ws' := wC G a (up3R x 10 0 (va_cpy (x 9 0) (x 10 0) f o m))) (by rw [nI_clamp (n := f) (by omega), nI_clamp (n := o) (by omega), nI_clamp (n := m) (by omega)]; rfl) ?_
                  refine J_iload E dX5_copy_124 7 rfl ?_
                  exact ret _ _ _ _ ⟨rfl, _, rfl, ShC.rfl'⟩ rfl dX5_copy_126
                · skip
                  have c_97 := bI_0 c_97
                  exact absurd (runOK h7 h6 (by omega)) c_97
            · skip
              exact absurd h3 c_68
          · skip
            have c_49 := bI_1 c_49
            exact absurd c_49 h2
      · skip
        have c_11 := bI_0 c_11
        exact absurd (in3 (by decide)) c_11
  · skip
    refine J_iload_n E dX5_copy_0 rfl 1 rfl ?_
    refine J_cSiN E (As := [.int (nI 1)]) (c_X5_isSheet l G (nI 1) ) cl_X5_202 yo_X5_isSheet dX5_copy_1 rfl (Nat.le_of_ble_eq_true rfl) (Nat.le_of_ble_eq_true rfl) rfl (Nat.le_of_ble_eq_true rfl) ⟨Nat.zero_le _, Nat.zero_le _⟩ ?_
    refine J_if_eq E (tgt := 14) dX5_copy_4 (by decide) (fun c_4 => ?_) (fun c_4 => ?_)
    · skip
      have c_4 := bI_0 c_4
      exact absurd (in3 (by decide)) c_4
    · skip
      have c_4 := bI_1 c_4
      refine J_iload_n E dX5_copy_7 rfl 3 rfl ?_
      refine J_cSiN E (As := [.int (nI 3)]) (c_X5_isSheet l G (nI 3) ) cl_X5_202 yo_X5_isSheet dX5_copy_8 rfl (Nat.le_of_ble_eq_true rfl) (Nat.le_of_ble_eq_true rfl) rfl (Nat.le_of_ble_eq_true rfl) ⟨Nat.zero_le _, Nat.zero_le _⟩ ?_
      refine J_if_ne E (tgt := 20) dX5_copy_11 (by decide) (fun c_11 => ?_) (fun c_11 => ?_)
      · skip
        have c_11 := bI_1 c_11
        refine J_aload_n E dX5_copy_20 rfl 0 rfl ?_
        refine gC0_X5_44 E dX5_copy_21 ?_
        refine J_iload_n E dX5_copy_24 rfl 1 rfl ?_
        refine laC_30_1 E dX5_copy_25 ?_
        refine J_astore E (lv' := [(6, .ref (a 33)), (0, .ref (a 0)), (1, .int (nI 1)), (2, .int (nI f)), (3, .int (nI 3)), (4, .int (nI o)), (5, .int (nI m))]) dX5_copy_26 (by decide) rfl ?_
        refine J_aload_n E dX5_copy_28 rfl 1 rfl ?_
        refine gC0_X5_44 E dX5_copy_29 ?_
        refine J_iload_n E dX5_copy_32 rfl 4 rfl ?_
        refine laC_30_3 E dX5_copy_33 ?_
        refine J_astore E (lv' := [(7, .ref (a 37)), (6, .ref (a 33)), (0, .ref (a 0)), (1, .int (nI 1)), (2, .int (nI f)), (3, .int (nI 3)), (4, .int (nI o)), (5, .int (nI m))]) dX5_copy_34 (by decide) rfl ?_
        refine J_aload E dX5_copy_36 1 rfl ?_
        refine J_si9r E (As := []) (c_X2_isMissing l G (sh a 33) (x 9) ) cl_X5_212 yo_X2_isMissing dX5_copy_38 rfl (Nat.le_of_ble_eq_true rfl) (Nat.le_of_ble_eq_true rfl) rfl (Nat.le_of_ble_eq_true rfl) ⟨Nat.zero_le _, Nat.zero_le _⟩ ?_
        refine J_if_ne E (tgt := 52) dX5_copy_41 (by decide) (fun c_41 => ?_) (fun c_41 => ?_)
        · skip
          have c_41 := bI_1 c_41
          exact absurd c_41 h1
        · skip
          have c_41 := bI_0 c_41
          refine J_aload E dX5_copy_44 0 rfl ?_
          refine J_si11r E (As := []) (c_X2_isMissing l G (sh a 37) (x 11) ) cl_X5_212 yo_X2_isMissing dX5_copy_46 rfl (Nat.le_of_ble_eq_true rfl) (Nat.le_of_ble_eq_true rfl) rfl (Nat.le_of_ble_eq_true rfl) ⟨Nat.zero_le _, Nat.zero_le _⟩ ?_
          refine J_if_eq E (tgt := 58) dX5_copy_49 (by decide) (fun c_49 => ?_) (fun c_49 => ?_)
          · skip
            have c_49 := bI_0 c_49
            refine J_aload E dX5_copy_58 1 rfl ?_
            refine gC33_X5_215 E dX5_copy_60 ?_
            refine J_aload E dX5_copy_63 0 rfl ?_
            refine gC37_X5_215 E dX5_copy_65 ?_
            refine J_icmp_eq E (tgt := 77) dX5_copy_68 (by decide) (fun c_68 => ?_) (fun c_68 => ?_)
            · skip
              refine J_aload E dX5_copy_77 1 rfl ?_
              refine J_iload_n E dX5_copy_79 rfl 4 rfl ?_
              refine J_iload E dX5_copy_80 7 rfl ?_
              refine J_si9r E (As := [.int (nI f), .int (nI m)]) (c_X2_hasRun l G (sh a 33) (x 9) (nI f) (nI m) ) cl_X5_218 yo_X2_hasRun dX5_copy_82 rfl (Nat.le_of_ble_eq_true rfl) (Nat.le_of_ble_eq_true rfl) rfl (Nat.le_of_ble_eq_true rfl) ⟨Nat.zero_le _, Nat.zero_le _⟩ ?_
              refine J_if_eq E (tgt := 100) dX5_copy_85 (by decide) (fun c_85 => ?_) (fun c_85 => ?_)
              · skip
                have c_85 := bI_0 c_85
                exact absurd (runOK h5 h4 (by omega)) c_85
              · skip
                have c_85 := bI_1 c_85
                refine J_aload E dX5_copy_88 0 rfl ?_
                refine J_iload E dX5_copy_90 6 rfl ?_
                refine J_iload E dX5_copy_92 7 rfl ?_
                refine J_si11r E (As := [.int (nI o), .int (nI m)]) (c_X2_hasRun l G (sh a 37) (x 11) (nI o) (nI m) ) cl_X5_218 yo_X2_hasRun dX5_copy_94 rfl (Nat.le_of_ble_eq_true rfl) (Nat.le_of_ble_eq_true rfl) rfl (Nat.le_of_ble_eq_true rfl) ⟨Nat.zero_le _, Nat.zero_le _⟩ ?_
                refine J_if_ne E (tgt := 106) dX5_copy_97 (by decide) (fun c_97 => ?_) (fun c_97 => ?_)
                · skip
                  have c_97 := bI_1 c_97
                  refine J_aload E dX5_copy_106 1 rfl ?_
                  refine gC33_X5_221 E dX5_copy_108 ?_
                  refine J_iload_n E dX5_copy_111 rfl 4 rfl ?_
                  refine J_aload E dX5_copy_112 0 rfl ?_
                  refine gC37_X5_221 E dX5_copy_114 ?_
                  refine J_iload E dX5_copy_117 6 rfl ?_
                  refine J_iload E dX5_copy_119 7 rfl ?_
                  refine J_copyi E 34 38 ml_X5_133 na_acopy st_acopy ini_J10 dX5_copy_121 rfl rfl (nI_pos (by omega)) (nI_pos (by omega)) (nI_pos (by omega)) (by rw [nI_clamp (by omega), nI_clamp (by omega)]; omega) (by rw [nI_clamp (by omega), nI_clamp (by omega)]; omega) (by decide) (Nat.le_of_ble_eq_true rfl) ?_
                  refine J_w (ws' := wC G a (up3R x 11 0 (va_cpy (x 9 0) (x 11 0) f o m))) (by rw [nI_clamp (n := f) (by omega), nI_clamp (n := o) (by omega), nI_clamp (n := m) (by omega)]; rfl) ?_
                  refine J_iload E dX5_copy_124 7 rfl ?_
                  exact ret _ _ _ _ ⟨rfl, _, rfl, ShC.rfl'⟩ rfl dX5_copy_126
                · skip
                  have c_97 := bI_0 c_97
                  exact absurd (runOK h7 h6 (by omega)) c_97
            · skip
              exact absurd h3 c_68
          · skip
            have c_49 := bI_1 c_49
            exact absurd c_49 h2
      · skip
        have c_11 := bI_0 c_11
        exact absurd (in3 (by decide)) c_11
  · skip
    refine J_iload_n E dX5_copy_0 rfl 1 rfl ?_
    refine J_cSiN E (As := [.int (nI 2)]) (c_X5_isSheet l G (nI 2) ) cl_X5_202 yo_X5_isSheet dX5_copy_1 rfl (Nat.le_of_ble_eq_true rfl) (Nat.le_of_ble_eq_true rfl) rfl (Nat.le_of_ble_eq_true rfl) ⟨Nat.zero_le _, Nat.zero_le _⟩ ?_
    refine J_if_eq E (tgt := 14) dX5_copy_4 (by decide) (fun c_4 => ?_) (fun c_4 => ?_)
    · skip
      have c_4 := bI_0 c_4
      exact absurd (in3 (by decide)) c_4
    · skip
      have c_4 := bI_1 c_4
      refine J_iload_n E dX5_copy_7 rfl 3 rfl ?_
      refine J_cSiN E (As := [.int (nI 0)]) (c_X5_isSheet l G (nI 0) ) cl_X5_202 yo_X5_isSheet dX5_copy_8 rfl (Nat.le_of_ble_eq_true rfl) (Nat.le_of_ble_eq_true rfl) rfl (Nat.le_of_ble_eq_true rfl) ⟨Nat.zero_le _, Nat.zero_le _⟩ ?_
      refine J_if_ne E (tgt := 20) dX5_copy_11 (by decide) (fun c_11 => ?_) (fun c_11 => ?_)
      · skip
        have c_11 := bI_1 c_11
        refine J_aload_n E dX5_copy_20 rfl 0 rfl ?_
        refine gC0_X5_44 E dX5_copy_21 ?_
        refine J_iload_n E dX5_copy_24 rfl 1 rfl ?_
        refine laC_30_2 E dX5_copy_25 ?_
        refine J_astore E (lv' := [(6, .ref (a 35)), (0, .ref (a 0)), (1, .int (nI 2)), (2, .int (nI f)), (3, .int (nI 0)), (4, .int (nI o)), (5, .int (nI m))]) dX5_copy_26 (by decide) rfl ?_
        refine J_aload_n E dX5_copy_28 rfl 1 rfl ?_
        refine gC0_X5_44 E dX5_copy_29 ?_
        refine J_iload_n E dX5_copy_32 rfl 4 rfl ?_
        refine laC_30_0 E dX5_copy_33 ?_
        refine J_astore E (lv' := [(7, .ref (a 31)), (6, .ref (a 35)), (0, .ref (a 0)), (1, .int (nI 2)), (2, .int (nI f)), (3, .int (nI 0)), (4, .int (nI o)), (5, .int (nI m))]) dX5_copy_34 (by decide) rfl ?_
        refine J_aload E dX5_copy_36 1 rfl ?_
        refine J_si10r E (As := []) (c_X2_isMissing l G (sh a 35) (x 10) ) cl_X5_212 yo_X2_isMissing dX5_copy_38 rfl (Nat.le_of_ble_eq_true rfl) (Nat.le_of_ble_eq_true rfl) rfl (Nat.le_of_ble_eq_true rfl) ⟨Nat.zero_le _, Nat.zero_le _⟩ ?_
        refine J_if_ne E (tgt := 52) dX5_copy_41 (by decide) (fun c_41 => ?_) (fun c_41 => ?_)
        · skip
          have c_41 := bI_1 c_41
          exact absurd c_41 h1
        · skip
          have c_41 := bI_0 c_41
          refine J_aload E dX5_copy_44 0 rfl ?_
          refine J_si8r E (As := []) (c_X2_isMissing l G (sh a 31) (x 8) ) cl_X5_212 yo_X2_isMissing dX5_copy_46 rfl (Nat.le_of_ble_eq_true rfl) (Nat.le_of_ble_eq_true rfl) rfl (Nat.le_of_ble_eq_true rfl) ⟨Nat.zero_le _, Nat.zero_le _⟩ ?_
          refine J_if_eq E (tgt := 58) dX5_copy_49 (by decide) (fun c_49 => ?_) (fun c_49 => ?_)
          · skip
            have c_49 := bI_0 c_49
            refine J_aload E dX5_copy_58 1 rfl ?_
            refine gC35_X5_215 E dX5_copy_60 ?_
            refine J_aload E dX5_copy_63 0 rfl ?_
            refine gC31_X5_215 E dX5_copy_65 ?_
            refine J_icmp_eq E (tgt := 77) dX5_copy_68 (by decide) (fun c_68 => ?_) (fun c_68 => ?_)
            · skip
              refine J_aload E dX5_copy_77 1 rfl ?_
              refine J_iload_n E dX5_copy_79 rfl 4 rfl ?_
              refine J_iload E dX5_copy_80 7 rfl ?_
              refine J_si10r E (As := [.int (nI f), .int (nI m)]) (c_X2_hasRun l G (sh a 35) (x 10) (nI f) (nI m) ) cl_X5_218 yo_X2_hasRun dX5_copy_82 rfl (Nat.le_of_ble_eq_true rfl) (Nat.le_of_ble_eq_true rfl) rfl (Nat.le_of_ble_eq_true rfl) ⟨Nat.zero_le _, Nat.zero_le _⟩ ?_
              refine J_if_eq E (tgt := 100) dX5_copy_85 (by decide) (fun c_85 => ?_) (fun c_85 => ?_)
              · skip
                have c_85 := bI_0 c_85
                exact absurd (runOK h5 h4 (by omega)) c_85
              · skip
                have c_85 := bI_1 c_85
                refine J_aload E dX5_copy_88 0 rfl ?_
                refine J_iload E dX5_copy_90 6 rfl ?_
                refine J_iload E dX5_copy_92 7 rfl ?_
                refine J_si8r E (As := [.int (nI o), .int (nI m)]) (c_X2_hasRun l G (sh a 31) (x 8) (nI o) (nI m) ) cl_X5_218 yo_X2_hasRun dX5_copy_94 rfl (Nat.le_of_ble_eq_true rfl) (Nat.le_of_ble_eq_true rfl) rfl (Nat.le_of_ble_eq_true rfl) ⟨Nat.zero_le _, Nat.zero_le _⟩ ?_
                refine J_if_ne E (tgt := 106) dX5_copy_97 (by decide) (fun c_97 => ?_) (fun c_97 => ?_)
                · skip
                  have c_97 := bI_1 c_97
                  refine J_aload E dX5_copy_106 1 rfl ?_
                  refine gC35_X5_221 E dX5_copy_108 ?_
                  refine J_iload_n E dX5_copy_111 rfl 4 rfl ?_
                  refine J_aload E dX5_copy_112 0 rfl ?_
                  refine gC31_X5_221 E dX5_copy_114 ?_
                  refine J_iload E dX5_copy_117 6 rfl ?_
                  refine J_iload E dX5_copy_119 7 rfl ?_
                  refine J_copyi E 36 32 ml_X5_133 na_acopy st_acopy ini_J10 dX5_copy_121 rfl rfl (nI_pos (by omega)) (nI_pos (by omega)) (nI_pos (by omega)) (by rw [nI_clamp (by omega), nI_clamp (by omega)]; omega) (by rw [nI_clamp (by omega), nI_clamp (by omega)]; omega) (by decide) (Nat.le_of_ble_eq_true rfl) ?_
                  refine J_w (ws' := wC G a (up3R x 8 0 (va_cpy (x 10 0) (x 8 0) f o m))) (by rw [nI_clamp (n := f) (by omega), nI_clamp (n := o) (by omega), nI_clamp (n := m) (by omega)]; rfl) ?_
                  refine J_iload E dX5_copy_124 7 rfl ?_
                  exact ret _ _ _ _ ⟨rfl, _, rfl, ShC.rfl'⟩ rfl dX5_copy_126
                · skip
                  have c_97 := bI_0 c_97
                  exact absurd (runOK h7 h6 (by omega)) c_97
            · skip
              exact absurd h3 c_68
          · skip
            have c_49 := bI_1 c_49
            exact absurd c_49 h2
      · skip
        have c_11 := bI_0 c_11
        exact absurd (in3 (by decide)) c_11
  · skip
    refine J_iload_n E dX5_copy_0 rfl 1 rfl ?_
    refine J_cSiN E (As := [.int (nI 2)]) (c_X5_isSheet l G (nI 2) ) cl_X5_202 yo_X5_isSheet dX5_copy_1 rfl (Nat.le_of_ble_eq_true rfl) (Nat.le_of_ble_eq_true rfl) rfl (Nat.le_of_ble_eq_true rfl) ⟨Nat.zero_le _, Nat.zero_le _⟩ ?_
    refine J_if_eq E (tgt := 14) dX5_copy_4 (by decide) (fun c_4 => ?_) (fun c_4 => ?_)
    · skip
      have c_4 := bI_0 c_4
      exact absurd (in3 (by decide)) c_4
    · skip
      have c_4 := bI_1 c_4
      refine J_iload_n E dX5_copy_7 rfl 3 rfl ?_
      refine J_cSiN E (As := [.int (nI 1)]) (c_X5_isSheet l G (nI 1) ) cl_X5_202 yo_X5_isSheet dX5_copy_8 rfl (Nat.le_of_ble_eq_true rfl) (Nat.le_of_ble_eq_true rfl) rfl (Nat.le_of_ble_eq_true rfl) ⟨Nat.zero_le _, Nat.zero_le _⟩ ?_
      refine J_if_ne E (tgt := 20) dX5_copy_11 (by decide) (fun c_11 => ?_) (fun c_11 => ?_)
      · skip
        have c_11 := bI_1 c_11
        refine J_aload_n E dX5_copy_20 rfl 0 rfl ?_
        refine gC0_X5_44 E dX5_copy_21 ?_
        refine J_iload_n E dX5_copy_24 rfl 1 rfl ?_
        refine laC_30_2 E dX5_copy_25 ?_
        refine J_astore E (lv' := [(6, .ref (a 35)), (0, .ref (a 0)), (1, .int (nI 2)), (2, .int (nI f)), (3, .int (nI 1)), (4, .int (nI o)), (5, .int (nI m))]) dX5_copy_26 (by decide) rfl ?_
        refine J_aload_n E dX5_copy_28 rfl 1 rfl ?_
        refine gC0_X5_44 E dX5_copy_29 ?_
        refine J_iload_n E dX5_copy_32 rfl 4 rfl ?_
        refine laC_30_1 E dX5_copy_33 ?_
        refine J_astore E (lv' := [(7, .ref (a 33)), (6, .ref (a 35)), (0, .ref (a 0)), (1, .int (nI 2)), (2, .int (nI f)), (3, .int (nI 1)), (4, .int (nI o)), (5, .int (nI m))]) dX5_copy_34 (by decide) rfl ?_
        refine J_aload E dX5_copy_36 1 rfl ?_
        refine J_si10r E (As := []) (c_X2_isMissing l G (sh a 35) (x 10) ) cl_X5_212 yo_X2_isMissing dX5_copy_38 rfl (Nat.le_of_ble_eq_true rfl) (Nat.le_of_ble_eq_true rfl) rfl (Nat.le_of_ble_eq_true rfl) ⟨Nat.zero_le _, Nat.zero_le _⟩ ?_
        refine J_if_ne E (tgt := 52) dX5_copy_41 (by decide) (fun c_41 => ?_) (fun c_41 => ?_)
        · skip
          have c_41 := bI_1 c_41
          exact absurd c_41 h1
        · skip
          have c_41 := bI_0 c_41
          refine J_aload E dX5_copy_44 0 rfl ?_
          refine J_si9r E (As := []) (c_X2_isMissing l G (sh a 33) (x 9) ) cl_X5_212 yo_X2_isMissing dX5_copy_46 rfl (Nat.le_of_ble_eq_true rfl) (Nat.le_of_ble_eq_true rfl) rfl (Nat.le_of_ble_eq_true rfl) ⟨Nat.zero_le _, Nat.zero_le _⟩ ?_
          refine J_if_eq E (tgt := 58) dX5_copy_49 (by decide) (fun c_49 => ?_) (fun c_49 => ?_)
          · skip
            have c_49 := bI_0 c_49
            refine J_aload E dX5_copy_58 1 rfl ?_
            refine gC35_X5_215 E dX5_copy_60 ?_
            refine J_aload E dX5_copy_63 0 rfl ?_
            refine gC33_X5_215 E dX5_copy_65 ?_
            refine J_icmp_eq E (tgt := 77) dX5_copy_68 (by decide) (fun c_68 => ?_) (fun c_68 => ?_)
            · skip
              refine J_aload E dX5_copy_77 1 rfl ?_
              refine J_iload_n E dX5_copy_79 rfl 4 rfl ?_
              refine J_iload E dX5_copy_80 7 rfl ?_
              refine J_si10r E (As := [.int (nI f), .int (nI m)]) (c_X2_hasRun l G (sh a 35) (x 10) (nI f) (nI m) ) cl_X5_218 yo_X2_hasRun dX5_copy_82 rfl (Nat.le_of_ble_eq_true rfl) (Nat.le_of_ble_eq_true rfl) rfl (Nat.le_of_ble_eq_true rfl) ⟨Nat.zero_le _, Nat.zero_le _⟩ ?_
              refine J_if_eq E (tgt := 100) dX5_copy_85 (by decide) (fun c_85 => ?_) (fun c_85 => ?_)
              · skip
                have c_85 := bI_0 c_85
                exact absurd (runOK h5 h4 (by omega)) c_85
              · skip
                have c_85 := bI_1 c_85
                refine J_aload E dX5_copy_88 0 rfl ?_
                refine J_iload E dX5_copy_90 6 rfl ?_
                refine J_iload E dX5_copy_92 7 rfl ?_
                refine J_si9r E (As := [.int (nI o), .int (nI m)]) (c_X2_hasRun l G (sh a 33) (x 9) (nI o) (nI m) ) cl_X5_218 yo_X2_hasRun dX5_copy_94 rfl (Nat.le_of_ble_eq_true rfl) (Nat.le_of_ble_eq_true rfl) rfl (Nat.le_of_ble_eq_true rfl) ⟨Nat.zero_le _, Nat.zero_le _⟩ ?_
                refine J_if_ne E (tgt := 106) dX5_copy_97 (by decide) (fun c_97 => ?_) (fun c_97 => ?_)
                · skip
                  have c_97 := bI_1 c_97
                  refine J_aload E dX5_copy_106 1 rfl ?_
                  refine gC35_X5_221 E dX5_copy_108 ?_
                  refine J_iload_n E dX5_copy_111 rfl 4 rfl ?_
                  refine J_aload E dX5_copy_112 0 rfl ?_
                  refine gC33_X5_221 E dX5_copy_114 ?_
                  refine J_iload E dX5_copy_117 6 rfl ?_
                  refine J_iload E dX5_copy_119 7 rfl ?_
                  refine J_copyi E 36 34 ml_X5_133 na_acopy st_acopy ini_J10 dX5_copy_121 rfl rfl (nI_pos (by omega)) (nI_pos (by omega)) (nI_pos (by omega)) (by rw [nI_clamp (by omega), nI_clamp (by omega)]; omega) (by rw [nI_clamp (by omega), nI_clamp (by omega)]; omega) (by decide) (Nat.le_of_ble_eq_true rfl) ?_
                  refine J_w (ws' := wC G a (up3R x 9 0 (va_cpy (x 10 0) (x 9 0) f o m))) (by rw [nI_clamp (n := f) (by omega), nI_clamp (n := o) (by omega), nI_clamp (n := m) (by omega)]; rfl) ?_
                  refine J_iload E dX5_copy_124 7 rfl ?_
                  exact ret _ _ _ _ ⟨rfl, _, rfl, ShC.rfl'⟩ rfl dX5_copy_126
                · skip
                  have c_97 := bI_0 c_97
                  exact absurd (runOK h7 h6 (by omega)) c_97
            · skip
              exact absurd h3 c_68
          · skip
            have c_49 := bI_1 c_49
            exact absurd c_49 h2
      · skip
        have c_11 := bI_0 c_11
        exact absurd (in3 (by decide)) c_11
  · skip
    refine J_iload_n E dX5_copy_0 rfl 1 rfl ?_
    refine J_cSiN E (As := [.int (nI 2)]) (c_X5_isSheet l G (nI 2) ) cl_X5_202 yo_X5_isSheet dX5_copy_1 rfl (Nat.le_of_ble_eq_true rfl) (Nat.le_of_ble_eq_true rfl) rfl (Nat.le_of_ble_eq_true rfl) ⟨Nat.zero_le _, Nat.zero_le _⟩ ?_
    refine J_if_eq E (tgt := 14) dX5_copy_4 (by decide) (fun c_4 => ?_) (fun c_4 => ?_)
    · skip
      have c_4 := bI_0 c_4
      exact absurd (in3 (by decide)) c_4
    · skip
      have c_4 := bI_1 c_4
      refine J_iload_n E dX5_copy_7 rfl 3 rfl ?_
      refine J_cSiN E (As := [.int (nI 2)]) (c_X5_isSheet l G (nI 2) ) cl_X5_202 yo_X5_isSheet dX5_copy_8 rfl (Nat.le_of_ble_eq_true rfl) (Nat.le_of_ble_eq_true rfl) rfl (Nat.le_of_ble_eq_true rfl) ⟨Nat.zero_le _, Nat.zero_le _⟩ ?_
      refine J_if_ne E (tgt := 20) dX5_copy_11 (by decide) (fun c_11 => ?_) (fun c_11 => ?_)
      · skip
        have c_11 := bI_1 c_11
        refine J_aload_n E dX5_copy_20 rfl 0 rfl ?_
        refine gC0_X5_44 E dX5_copy_21 ?_
        refine J_iload_n E dX5_copy_24 rfl 1 rfl ?_
        refine laC_30_2 E dX5_copy_25 ?_
        refine J_astore E (lv' := [(6, .ref (a 35)), (0, .ref (a 0)), (1, .int (nI 2)), (2, .int (nI f)), (3, .int (nI 2)), (4, .int (nI o)), (5, .int (nI m))]) dX5_copy_26 (by decide) rfl ?_
        refine J_aload_n E dX5_copy_28 rfl 1 rfl ?_
        refine gC0_X5_44 E dX5_copy_29 ?_
        refine J_iload_n E dX5_copy_32 rfl 4 rfl ?_
        refine laC_30_2 E dX5_copy_33 ?_
        refine J_astore E (lv' := [(7, .ref (a 35)), (6, .ref (a 35)), (0, .ref (a 0)), (1, .int (nI 2)), (2, .int (nI f)), (3, .int (nI 2)), (4, .int (nI o)), (5, .int (nI m))]) dX5_copy_34 (by decide) rfl ?_
        refine J_aload E dX5_copy_36 1 rfl ?_
        refine J_si10r E (As := []) (c_X2_isMissing l G (sh a 35) (x 10) ) cl_X5_212 yo_X2_isMissing dX5_copy_38 rfl (Nat.le_of_ble_eq_true rfl) (Nat.le_of_ble_eq_true rfl) rfl (Nat.le_of_ble_eq_true rfl) ⟨Nat.zero_le _, Nat.zero_le _⟩ ?_
        refine J_if_ne E (tgt := 52) dX5_copy_41 (by decide) (fun c_41 => ?_) (fun c_41 => ?_)
        · skip
          have c_41 := bI_1 c_41
          exact absurd c_41 h1
        · skip
          have c_41 := bI_0 c_41
          refine J_aload E dX5_copy_44 0 rfl ?_
          refine J_si10r E (As := []) (c_X2_isMissing l G (sh a 35) (x 10) ) cl_X5_212 yo_X2_isMissing dX5_copy_46 rfl (Nat.le_of_ble_eq_true rfl) (Nat.le_of_ble_eq_true rfl) rfl (Nat.le_of_ble_eq_true rfl) ⟨Nat.zero_le _, Nat.zero_le _⟩ ?_
          refine J_if_eq E (tgt := 58) dX5_copy_49 (by decide) (fun c_49 => ?_) (fun c_49 => ?_)
          · skip
            have c_49 := bI_0 c_49
            refine J_aload E dX5_copy_58 1 rfl ?_
            refine gC35_X5_215 E dX5_copy_60 ?_
            refine J_aload E dX5_copy_63 0 rfl ?_
            refine gC35_X5_215 E dX5_copy_65 ?_
            refine J_icmp_eq E (tgt := 77) dX5_copy_68 (by decide) (fun c_68 => ?_) (fun c_68 => ?_)
            · skip
              refine J_aload E dX5_copy_77 1 rfl ?_
              refine J_iload_n E dX5_copy_79 rfl 4 rfl ?_
              refine J_iload E dX5_copy_80 7 rfl ?_
              refine J_si10r E (As := [.int (nI f), .int (nI m)]) (c_X2_hasRun l G (sh a 35) (x 10) (nI f) (nI m) ) cl_X5_218 yo_X2_hasRun dX5_copy_82 rfl (Nat.le_of_ble_eq_true rfl) (Nat.le_of_ble_eq_true rfl) rfl (Nat.le_of_ble_eq_true rfl) ⟨Nat.zero_le _, Nat.zero_le _⟩ ?_
              refine J_if_eq E (tgt := 100) dX5_copy_85 (by decide) (fun c_85 => ?_) (fun c_85 => ?_)
              · skip
                have c_85 := bI_0 c_85
                exact absurd (runOK h5 h4 (by omega)) c_85
              · skip
                have c_85 := bI_1 c_85
                refine J_aload E dX5_copy_88 0 rfl ?_
                refine J_iload E dX5_copy_90 6 rfl ?_
                refine J_iload E dX5_copy_92 7 rfl ?_
                refine J_si10r E (As := [.int (nI o), .int (nI m)]) (c_X2_hasRun l G (sh a 35) (x 10) (nI o) (nI m) ) cl_X5_218 yo_X2_hasRun dX5_copy_94 rfl (Nat.le_of_ble_eq_true rfl) (Nat.le_of_ble_eq_true rfl) rfl (Nat.le_of_ble_eq_true rfl) ⟨Nat.zero_le _, Nat.zero_le _⟩ ?_
                refine J_if_ne E (tgt := 106) dX5_copy_97 (by decide) (fun c_97 => ?_) (fun c_97 => ?_)
                · skip
                  have c_97 := bI_1 c_97
                  refine J_aload E dX5_copy_106 1 rfl ?_
                  refine gC35_X5_221 E dX5_copy_108 ?_
                  refine J_iload_n E dX5_copy_111 rfl 4 rfl ?_
                  refine J_aload E dX5_copy_112 0 rfl ?_
                  refine gC35_X5_221 E dX5_copy_114 ?_
                  refine J_iload E dX5_copy_117 6 rfl ?_
                  refine J_iload E dX5_copy_119 7 rfl ?_
                  refine J_copyi E 36 36 ml_X5_133 na_acopy st_acopy ini_J10 dX5_copy_121 rfl rfl (nI_pos (by omega)) (nI_pos (by omega)) (nI_pos (by omega)) (by rw [nI_clamp (by omega), nI_clamp (by omega)]; omega) (by rw [nI_clamp (by omega), nI_clamp (by omega)]; omega) (by decide) (Nat.le_of_ble_eq_true rfl) ?_
                  refine J_w (ws' := wC G a (up3R x 10 0 (va_cpy (x 10 0) (x 10 0) f o m))) (by rw [nI_clamp (n := f) (by omega), nI_clamp (n := o) (by omega), nI_clamp (n := m) (by omega)]; rfl) ?_
                  refine J_iload E dX5_copy_124 7 rfl ?_
                  exact ret _ _ _ _ ⟨rfl, _, rfl, ShC.rfl'⟩ rfl dX5_copy_126
                · skip
                  have c_97 := bI_0 c_97
                  exact absurd (runOK h7 h6 (by omega)) c_97
            · skip
              exact absurd h3 c_68
          · skip
            have c_49 := bI_1 c_49
            exact absurd c_49 h2
      · skip
        have c_11 := bI_0 c_11
        exact absurd (in3 (by decide)) c_11
  · skip
    refine J_iload_n E dX5_copy_0 rfl 1 rfl ?_
    refine J_cSiN E (As := [.int (nI 2)]) (c_X5_isSheet l G (nI 2) ) cl_X5_202 yo_X5_isSheet dX5_copy_1 rfl (Nat.le_of_ble_eq_true rfl) (Nat.le_of_ble_eq_true rfl) rfl (Nat.le_of_ble_eq_true rfl) ⟨Nat.zero_le _, Nat.zero_le _⟩ ?_
    refine J_if_eq E (tgt := 14) dX5_copy_4 (by decide) (fun c_4 => ?_) (fun c_4 => ?_)
    · skip
      have c_4 := bI_0 c_4
      exact absurd (in3 (by decide)) c_4
    · skip
      have c_4 := bI_1 c_4
      refine J_iload_n E dX5_copy_7 rfl 3 rfl ?_
      refine J_cSiN E (As := [.int (nI 3)]) (c_X5_isSheet l G (nI 3) ) cl_X5_202 yo_X5_isSheet dX5_copy_8 rfl (Nat.le_of_ble_eq_true rfl) (Nat.le_of_ble_eq_true rfl) rfl (Nat.le_of_ble_eq_true rfl) ⟨Nat.zero_le _, Nat.zero_le _⟩ ?_
      refine J_if_ne E (tgt := 20) dX5_copy_11 (by decide) (fun c_11 => ?_) (fun c_11 => ?_)
      · skip
        have c_11 := bI_1 c_11
        refine J_aload_n E dX5_copy_20 rfl 0 rfl ?_
        refine gC0_X5_44 E dX5_copy_21 ?_
        refine J_iload_n E dX5_copy_24 rfl 1 rfl ?_
        refine laC_30_2 E dX5_copy_25 ?_
        refine J_astore E (lv' := [(6, .ref (a 35)), (0, .ref (a 0)), (1, .int (nI 2)), (2, .int (nI f)), (3, .int (nI 3)), (4, .int (nI o)), (5, .int (nI m))]) dX5_copy_26 (by decide) rfl ?_
        refine J_aload_n E dX5_copy_28 rfl 1 rfl ?_
        refine gC0_X5_44 E dX5_copy_29 ?_
        refine J_iload_n E dX5_copy_32 rfl 4 rfl ?_
        refine laC_30_3 E dX5_copy_33 ?_
        refine J_astore E (lv' := [(7, .ref (a 37)), (6, .ref (a 35)), (0, .ref (a 0)), (1, .int (nI 2)), (2, .int (nI f)), (3, .int (nI 3)), (4, .int (nI o)), (5, .int (nI m))]) dX5_copy_34 (by decide) rfl ?_
        refine J_aload E dX5_copy_36 1 rfl ?_
        refine J_si10r E (As := []) (c_X2_isMissing l G (sh a 35) (x 10) ) cl_X5_212 yo_X2_isMissing dX5_copy_38 rfl (Nat.le_of_ble_eq_true rfl) (Nat.le_of_ble_eq_true rfl) rfl (Nat.le_of_ble_eq_true rfl) ⟨Nat.zero_le _, Nat.zero_le _⟩ ?_
        refine J_if_ne E (tgt := 52) dX5_copy_41 (by decide) (fun c_41 => ?_) (fun c_41 => ?_)
        · skip
          have c_41 := bI_1 c_41
          exact absurd c_41 h1
        · skip
          have c_41 := bI_0 c_41
          refine J_aload E dX5_copy_44 0 rfl ?_
          refine J_si11r E (As := []) (c_X2_isMissing l G (sh a 37) (x 11) ) cl_X5_212 yo_X2_isMissing dX5_copy_46 rfl (Nat.le_of_ble_eq_true rfl) (Nat.le_of_ble_eq_true rfl) rfl (Nat.le_of_ble_eq_true rfl) ⟨Nat.zero_le _, Nat.zero_le _⟩ ?_
          refine J_if_eq E (tgt := 58) dX5_copy_49 (by decide) (fun c_49 => ?_) (fun c_49 => ?_)
          · skip
            have c_49 := bI_0 c_49
            refine J_aload E dX5_copy_58 1 rfl ?_
            refine gC35_X5_215 E dX5_copy_60 ?_
            refine J_aload E dX5_copy_63 0 rfl ?_
            refine gC37_X5_215 E dX5_copy_65 ?_
            refine J_icmp_eq E (tgt := 77) dX5_copy_68 (by decide) (fun c_68 => ?_) (fun c_68 => ?_)
            · skip
              refine J_aload E dX5_copy_77 1 rfl ?_
              refine J_iload_n E dX5_copy_79 rfl 4 rfl ?_
              refine J_iload E dX5_copy_80 7 rfl ?_
              refine J_si10r E (As := [.int (nI f), .int (nI m)]) (c_X2_hasRun l G (sh a 35) (x 10) (nI f) (nI m) ) cl_X5_218 yo_X2_hasRun dX5_copy_82 rfl (Nat.le_of_ble_eq_true rfl) (Nat.le_of_ble_eq_true rfl) rfl (Nat.le_of_ble_eq_true rfl) ⟨Nat.zero_le _, Nat.zero_le _⟩ ?_
              refine J_if_eq E (tgt := 100) dX5_copy_85 (by decide) (fun c_85 => ?_) (fun c_85 => ?_)
              · skip
                have c_85 := bI_0 c_85
                exact absurd (runOK h5 h4 (by omega)) c_85
              · skip
                have c_85 := bI_1 c_85
                refine J_aload E dX5_copy_88 0 rfl ?_
                refine J_iload E dX5_copy_90 6 rfl ?_
                refine J_iload E dX5_copy_92 7 rfl ?_
                refine J_si11r E (As := [.int (nI o), .int (nI m)]) (c_X2_hasRun l G (sh a 37) (x 11) (nI o) (nI m) ) cl_X5_218 yo_X2_hasRun dX5_copy_94 rfl (Nat.le_of_ble_eq_true rfl) (Nat.le_of_ble_eq_true rfl) rfl (Nat.le_of_ble_eq_true rfl) ⟨Nat.zero_le _, Nat.zero_le _⟩ ?_
                refine J_if_ne E (tgt := 106) dX5_copy_97 (by decide) (fun c_97 => ?_) (fun c_97 => ?_)
                · skip
                  have c_97 := bI_1 c_97
                  refine J_aload E dX5_copy_106 1 rfl ?_
                  refine gC35_X5_221 E dX5_copy_108 ?_
                  refine J_iload_n E dX5_copy_111 rfl 4 rfl ?_
                  refine J_aload E dX5_copy_112 0 rfl ?_
                  refine gC37_X5_221 E dX5_copy_114 ?_
                  refine J_iload E dX5_copy_117 6 rfl ?_
                  refine J_iload E dX5_copy_119 7 rfl ?_
                  refine J_copyi E 36 38 ml_X5_133 na_acopy st_acopy ini_J10 dX5_copy_121 rfl rfl (nI_pos (by omega)) (nI_pos (by omega)) (nI_pos (by omega)) (by rw [nI_clamp (by omega), nI_clamp (by omega)]; omega) (by rw [nI_clamp (by omega), nI_clamp (by omega)]; omega) (by decide) (Nat.le_of_ble_eq_true rfl) ?_
                  refine J_w (ws' := wC G a (up3R x 11 0 (va_cpy (x 10 0) (x 11 0) f o m))) (by rw [nI_clamp (n := f) (by omega), nI_clamp (n := o) (by omega), nI_clamp (n := m) (by omega)]; rfl) ?_
                  refine J_iload E dX5_copy_124 7 rfl ?_
                  exact ret _ _ _ _ ⟨rfl, _, rfl, ShC.rfl'⟩ rfl dX5_copy_126
                · skip
                  have c_97 := bI_0 c_97
                  exact absurd (runOK h7 h6 (by omega)) c_97
            · skip
              exact absurd h3 c_68
          · skip
            have c_49 := bI_1 c_49
            exact absurd c_49 h2
      · skip
        have c_11 := bI_0 c_11
        exact absurd (in3 (by decide)) c_11
  · skip
    refine J_iload_n E dX5_copy_0 rfl 1 rfl ?_
    refine J_cSiN E (As := [.int (nI 3)]) (c_X5_isSheet l G (nI 3) ) cl_X5_202 yo_X5_isSheet dX5_copy_1 rfl (Nat.le_of_ble_eq_true rfl) (Nat.le_of_ble_eq_true rfl) rfl (Nat.le_of_ble_eq_true rfl) ⟨Nat.zero_le _, Nat.zero_le _⟩ ?_
    refine J_if_eq E (tgt := 14) dX5_copy_4 (by decide) (fun c_4 => ?_) (fun c_4 => ?_)
    · skip
      have c_4 := bI_0 c_4
      exact absurd (in3 (by decide)) c_4
    · skip
      have c_4 := bI_1 c_4
      refine J_iload_n E dX5_copy_7 rfl 3 rfl ?_
      refine J_cSiN E (As := [.int (nI 0)]) (c_X5_isSheet l G (nI 0) ) cl_X5_202 yo_X5_isSheet dX5_copy_8 rfl (Nat.le_of_ble_eq_true rfl) (Nat.le_of_ble_eq_true rfl) rfl (Nat.le_of_ble_eq_true rfl) ⟨Nat.zero_le _, Nat.zero_le _⟩ ?_
      refine J_if_ne E (tgt := 20) dX5_copy_11 (by decide) (fun c_11 => ?_) (fun c_11 => ?_)
      · skip
        have c_11 := bI_1 c_11
        refine J_aload_n E dX5_copy_20 rfl 0 rfl ?_
        refine gC0_X5_44 E dX5_copy_21 ?_
        refine J_iload_n E dX5_copy_24 rfl 1 rfl ?_
        refine laC_30_3 E dX5_copy_25 ?_
        refine J_astore E (lv' := [(6, .ref (a 37)), (0, .ref (a 0)), (1, .int (nI 3)), (2, .int (nI f)), (3, .int (nI 0)), (4, .int (nI o)), (5, .int (nI m))]) dX5_copy_26 (by decide) rfl ?_
        refine J_aload_n E dX5_copy_28 rfl 1 rfl ?_
        refine gC0_X5_44 E dX5_copy_29 ?_
        refine J_iload_n E dX5_copy_32 rfl 4 rfl ?_
        refine laC_30_0 E dX5_copy_33 ?_
        refine J_astore E (lv' := [(7, .ref (a 31)), (6, .ref (a 37)), (0, .ref (a 0)), (1, .int (nI 3)), (2, .int (nI f)), (3, .int (nI 0)), (4, .int (nI o)), (5, .int (nI m))]) dX5_copy_34 (by decide) rfl ?_
        refine J_aload E dX5_copy_36 1 rfl ?_
        refine J_si11r E (As := []) (c_X2_isMissing l G (sh a 37) (x 11) ) cl_X5_212 yo_X2_isMissing dX5_copy_38 rfl (Nat.le_of_ble_eq_true rfl) (Nat.le_of_ble_eq_true rfl) rfl (Nat.le_of_ble_eq_true rfl) ⟨Nat.zero_le _, Nat.zero_le _⟩ ?_
        refine J_if_ne E (tgt := 52) dX5_copy_41 (by decide) (fun c_41 => ?_) (fun c_41 => ?_)
        · skip
          have c_41 := bI_1 c_41
          exact absurd c_41 h1
        · skip
          have c_41 := bI_0 c_41
          refine J_aload E dX5_copy_44 0 rfl ?_
          refine J_si8r E (As := []) (c_X2_isMissing l G (sh a 31) (x 8) ) cl_X5_212 yo_X2_isMissing dX5_copy_46 rfl (Nat.le_of_ble_eq_true rfl) (Nat.le_of_ble_eq_true rfl) rfl (Nat.le_of_ble_eq_true rfl) ⟨Nat.zero_le _, Nat.zero_le _⟩ ?_
          refine J_if_eq E (tgt := 58) dX5_copy_49 (by decide) (fun c_49 => ?_) (fun c_49 => ?_)
          · skip
            have c_49 := bI_0 c_49
            refine J_aload E dX5_copy_58 1 rfl ?_
            refine gC37_X5_215 E dX5_copy_60 ?_
            refine J_aload E dX5_copy_63 0 rfl ?_
            refine gC31_X5_215 E dX5_copy_65 ?_
            refine J_icmp_eq E (tgt := 77) dX5_copy_68 (by decide) (fun c_68 => ?_) (fun c_68 => ?_)
            · skip
              refine J_aload E dX5_copy_77 1 rfl ?_
              refine J_iload_n E dX5_copy_79 rfl 4 rfl ?_
              refine J_iload E dX5_copy_80 7 rfl ?_
              refine J_si11r E (As := [.int (nI f), .int (nI m)]) (c_X2_hasRun l G (sh a 37) (x 11) (nI f) (nI m) ) cl_X5_218 yo_X2_hasRun dX5_copy_82 rfl (Nat.le_of_ble_eq_true rfl) (Nat.le_of_ble_eq_true rfl) rfl (Nat.le_of_ble_eq_true rfl) ⟨Nat.zero_le _, Nat.zero_le _⟩ ?_
              refine J_if_eq E (tgt := 100) dX5_copy_85 (by decide) (fun c_85 => ?_) (fun c_85 => ?_)
              · skip
                have c_85 := bI_0 c_85
                exact absurd (runOK h5 h4 (by omega)) c_85
              · skip
                have c_85 := bI_1 c_85
                refine J_aload E dX5_copy_88 0 rfl ?_
                refine J_iload E dX5_copy_90 6 rfl ?_
                refine J_iload E dX5_copy_92 7 rfl ?_
                refine J_si8r E (As := [.int (nI o), .int (nI m)]) (c_X2_hasRun l G (sh a 31) (x 8) (nI o) (nI m) ) cl_X5_218 yo_X2_hasRun dX5_copy_94 rfl (Nat.le_of_ble_eq_true rfl) (Nat.le_of_ble_eq_true rfl) rfl (Nat.le_of_ble_eq_true rfl) ⟨Nat.zero_le _, Nat.zero_le _⟩ ?_
                refine J_if_ne E (tgt := 106) dX5_copy_97 (by decide) (fun c_97 => ?_) (fun c_97 => ?_)
                · skip
                  have c_97 := bI_1 c_97
                  refine J_aload E dX5_copy_106 1 rfl ?_
                  refine gC37_X5_221 E dX5_copy_108 ?_
                  refine J_iload_n E dX5_copy_111 rfl 4 rfl ?_
                  refine J_aload E dX5_copy_112 0 rfl ?_
                  refine gC31_X5_221 E dX5_copy_114 ?_
                  refine J_iload E dX5_copy_117 6 rfl ?_
                  refine J_iload E dX5_copy_119 7 rfl ?_
                  refine J_copyi E 38 32 ml_X5_133 na_acopy st_acopy ini_J10 dX5_copy_121 rfl rfl (nI_pos (by omega)) (nI_pos (by omega)) (nI_pos (by omega)) (by rw [nI_clamp (by omega), nI_clamp (by omega)]; omega) (by rw [nI_clamp (by omega), nI_clamp (by omega)]; omega) (by decide) (Nat.le_of_ble_eq_true rfl) ?_
                  refine J_w (ws' := wC G a (up3R x 8 0 (va_cpy (x 11 0) (x 8 0) f o m))) (by rw [nI_clamp (n := f) (by omega), nI_clamp (n := o) (by omega), nI_clamp (n := m) (by omega)]; rfl) ?_
                  refine J_iload E dX5_copy_124 7 rfl ?_
                  exact ret _ _ _ _ ⟨rfl, _, rfl, ShC.rfl'⟩ rfl dX5_copy_126
                · skip
                  have c_97 := bI_0 c_97
                  exact absurd (runOK h7 h6 (by omega)) c_97
            · skip
              exact absurd h3 c_68
          · skip
            have c_49 := bI_1 c_49
            exact absurd c_49 h2
      · skip
        have c_11 := bI_0 c_11
        exact absurd (in3 (by decide)) c_11
  · skip
    refine J_iload_n E dX5_copy_0 rfl 1 rfl ?_
    refine J_cSiN E (As := [.int (nI 3)]) (c_X5_isSheet l G (nI 3) ) cl_X5_202 yo_X5_isSheet dX5_copy_1 rfl (Nat.le_of_ble_eq_true rfl) (Nat.le_of_ble_eq_true rfl) rfl (Nat.le_of_ble_eq_true rfl) ⟨Nat.zero_le _, Nat.zero_le _⟩ ?_
    refine J_if_eq E (tgt := 14) dX5_copy_4 (by decide) (fun c_4 => ?_) (fun c_4 => ?_)
    · skip
      have c_4 := bI_0 c_4
      exact absurd (in3 (by decide)) c_4
    · skip
      have c_4 := bI_1 c_4
      refine J_iload_n E dX5_copy_7 rfl 3 rfl ?_
      refine J_cSiN E (As := [.int (nI 1)]) (c_X5_isSheet l G (nI 1) ) cl_X5_202 yo_X5_isSheet dX5_copy_8 rfl (Nat.le_of_ble_eq_true rfl) (Nat.le_of_ble_eq_true rfl) rfl (Nat.le_of_ble_eq_true rfl) ⟨Nat.zero_le _, Nat.zero_le _⟩ ?_
      refine J_if_ne E (tgt := 20) dX5_copy_11 (by decide) (fun c_11 => ?_) (fun c_11 => ?_)
      · skip
        have c_11 := bI_1 c_11
        refine J_aload_n E dX5_copy_20 rfl 0 rfl ?_
        refine gC0_X5_44 E dX5_copy_21 ?_
        refine J_iload_n E dX5_copy_24 rfl 1 rfl ?_
        refine laC_30_3 E dX5_copy_25 ?_
        refine J_astore E (lv' := [(6, .ref (a 37)), (0, .ref (a 0)), (1, .int (nI 3)), (2, .int (nI f)), (3, .int (nI 1)), (4, .int (nI o)), (5, .int (nI m))]) dX5_copy_26 (by decide) rfl ?_
        refine J_aload_n E dX5_copy_28 rfl 1 rfl ?_
        refine gC0_X5_44 E dX5_copy_29 ?_
        refine J_iload_n E dX5_copy_32 rfl 4 rfl ?_
        refine laC_30_1 E dX5_copy_33 ?_
        refine J_astore E (lv' := [(7, .ref (a 33)), (6, .ref (a 37)), (0, .ref (a 0)), (1, .int (nI 3)), (2, .int (nI f)), (3, .int (nI 1)), (4, .int (nI o)), (5, .int (nI m))]) dX5_copy_34 (by decide) rfl ?_
        refine J_aload E dX5_copy_36 1 rfl ?_
        refine J_si11r E (As := []) (c_X2_isMissing l G (sh a 37) (x 11) ) cl_X5_212 yo_X2_isMissing dX5_copy_38 rfl (Nat.le_of_ble_eq_true rfl) (Nat.le_of_ble_eq_true rfl) rfl (Nat.le_of_ble_eq_true rfl) ⟨Nat.zero_le _, Nat.zero_le _⟩ ?_
        refine J_if_ne E (tgt := 52) dX5_copy_41 (by decide) (fun c_41 => ?_) (fun c_41 => ?_)
        · skip
          have c_41 := bI_1 c_41
          exact absurd c_41 h1
        · skip
          have c_41 := bI_0 c_41
          refine J_aload E dX5_copy_44 0 rfl ?_
          refine J_si9r E (As := []) (c_X2_isMissing l G (sh a 33) (x 9) ) cl_X5_212 yo_X2_isMissing dX5_copy_46 rfl (Nat.le_of_ble_eq_true rfl) (Nat.le_of_ble_eq_true rfl) rfl (Nat.le_of_ble_eq_true rfl) ⟨Nat.zero_le _, Nat.zero_le _⟩ ?_
          refine J_if_eq E (tgt := 58) dX5_copy_49 (by decide) (fun c_49 => ?_) (fun c_49 => ?_)
          · skip
            have c_49 := bI_0 c_49
            refine J_aload E dX5_copy_58 1 rfl ?_
            refine gC37_X5_215 E dX5_copy_60 ?_
            refine J_aload E dX5_copy_63 0 rfl ?_
            refine gC33_X5_215 E dX5_copy_65 ?_
            refine J_icmp_eq E (tgt := 77) dX5_copy_68 (by decide) (fun c_68 => ?_) (fun c_68 => ?_)
            · skip
              refine J_aload E dX5_copy_77 1 rfl ?_
              refine J_iload_n E dX5_copy_79 rfl 4 rfl ?_
              refine J_iload E dX5_copy_80 7 rfl ?_
              refine J_si11r E (As := [.int (nI f), .int (nI m)]) (c_X2_hasRun l G (sh a 37) (x 11) (nI f) (nI m) ) cl_X5_218 yo_X2_hasRun dX5_copy_82 rfl (Nat.le_of_ble_eq_true rfl) (Nat.le_of_ble_eq_true rfl) rfl (Nat.le_of_ble_eq_true rfl) ⟨Nat.zero_le _, Nat.zero_le _⟩ ?_
              refine J_if_eq E (tgt := 100) dX5_copy_85 (by decide) (fun c_85 => ?_) (fun c_85 => ?_)
              · skip
                have c_85 := bI_0 c_85
                exact absurd (runOK h5 h4 (by omega)) c_85
              · skip
                have c_85 := bI_1 c_85
                refine J_aload E dX5_copy_88 0 rfl ?_
                refine J_iload E dX5_copy_90 6 rfl ?_
                refine J_iload E dX5_copy_92 7 rfl ?_
                refine J_si9r E (As := [.int (nI o), .int (nI m)]) (c_X2_hasRun l G (sh a 33) (x 9) (nI o) (nI m) ) cl_X5_218 yo_X2_hasRun dX5_copy_94 rfl (Nat.le_of_ble_eq_true rfl) (Nat.le_of_ble_eq_true rfl) rfl (Nat.le_of_ble_eq_true rfl) ⟨Nat.zero_le _, Nat.zero_le _⟩ ?_
                refine J_if_ne E (tgt := 106) dX5_copy_97 (by decide) (fun c_97 => ?_) (fun c_97 => ?_)
                · skip
                  have c_97 := bI_1 c_97
                  refine J_aload E dX5_copy_106 1 rfl ?_
                  refine gC37_X5_221 E dX5_copy_108 ?_
                  refine J_iload_n E dX5_copy_111 rfl 4 rfl ?_
                  refine J_aload E dX5_copy_112 0 rfl ?_
                  refine gC33_X5_221 E dX5_copy_114 ?_
                  refine J_iload E dX5_copy_117 6 rfl ?_
                  refine J_iload E dX5_copy_119 7 rfl ?_
                  refine J_copyi E 38 34 ml_X5_133 na_acopy st_acopy ini_J10 dX5_copy_121 rfl rfl (nI_pos (by omega)) (nI_pos (by omega)) (nI_pos (by omega)) (by rw [nI_clamp (by omega), nI_clamp (by omega)]; omega) (by rw [nI_clamp (by omega), nI_clamp (by omega)]; omega) (by decide) (Nat.le_of_ble_eq_true rfl) ?_
                  refine J_w (ws' := wC G a (up3R x 9 0 (va_cpy (x 11 0) (x 9 0) f o m))) (by rw [nI_clamp (n := f) (by omega), nI_clamp (n := o) (by omega), nI_clamp (n := m) (by omega)]; rfl) ?_
                  refine J_iload E dX5_copy_124 7 rfl ?_
                  exact ret _ _ _ _ ⟨rfl, _, rfl, ShC.rfl'⟩ rfl dX5_copy_126
                · skip
                  have c_97 := bI_0 c_97
                  exact absurd (runOK h7 h6 (by omega)) c_97
            · skip
              exact absurd h3 c_68
          · skip
            have c_49 := bI_1 c_49
            exact absurd c_49 h2
      · skip
        have c_11 := bI_0 c_11
        exact absurd (in3 (by decide)) c_11
  · skip
    refine J_iload_n E dX5_copy_0 rfl 1 rfl ?_
    refine J_cSiN E (As := [.int (nI 3)]) (c_X5_isSheet l G (nI 3) ) cl_X5_202 yo_X5_isSheet dX5_copy_1 rfl (Nat.le_of_ble_eq_true rfl) (Nat.le_of_ble_eq_true rfl) rfl (Nat.le_of_ble_eq_true rfl) ⟨Nat.zero_le _, Nat.zero_le _⟩ ?_
    refine J_if_eq E (tgt := 14) dX5_copy_4 (by decide) (fun c_4 => ?_) (fun c_4 => ?_)
    · skip
      have c_4 := bI_0 c_4
      exact absurd (in3 (by decide)) c_4
    · skip
      have c_4 := bI_1 c_4
      refine J_iload_n E dX5_copy_7 rfl 3 rfl ?_
      refine J_cSiN E (As := [.int (nI 2)]) (c_X5_isSheet l G (nI 2) ) cl_X5_202 yo_X5_isSheet dX5_copy_8 rfl (Nat.le_of_ble_eq_true rfl) (Nat.le_of_ble_eq_true rfl) rfl (Nat.le_of_ble_eq_true rfl) ⟨Nat.zero_le _, Nat.zero_le _⟩ ?_
      refine J_if_ne E (tgt := 20) dX5_copy_11 (by decide) (fun c_11 => ?_) (fun c_11 => ?_)
      · skip
        have c_11 := bI_1 c_11
        refine J_aload_n E dX5_copy_20 rfl 0 rfl ?_
        refine gC0_X5_44 E dX5_copy_21 ?_
        refine J_iload_n E dX5_copy_24 rfl 1 rfl ?_
        refine laC_30_3 E dX5_copy_25 ?_
        refine J_astore E (lv' := [(6, .ref (a 37)), (0, .ref (a 0)), (1, .int (nI 3)), (2, .int (nI f)), (3, .int (nI 2)), (4, .int (nI o)), (5, .int (nI m))]) dX5_copy_26 (by decide) rfl ?_
        refine J_aload_n E dX5_copy_28 rfl 1 rfl ?_
        refine gC0_X5_44 E dX5_copy_29 ?_
        refine J_iload_n E dX5_copy_32 rfl 4 rfl ?_
        refine laC_30_2 E dX5_copy_33 ?_
        refine J_astore E (lv' := [(7, .ref (a 35)), (6, .ref (a 37)), (0, .ref (a 0)), (1, .int (nI 3)), (2, .int (nI f)), (3, .int (nI 2)), (4, .int (nI o)), (5, .int (nI m))]) dX5_copy_34 (by decide) rfl ?_
        refine J_aload E dX5_copy_36 1 rfl ?_
        refine J_si11r E (As := []) (c_X2_isMissing l G (sh a 37) (x 11) ) cl_X5_212 yo_X2_isMissing dX5_copy_38 rfl (Nat.le_of_ble_eq_true rfl) (Nat.le_of_ble_eq_true rfl) rfl (Nat.le_of_ble_eq_true rfl) ⟨Nat.zero_le _, Nat.zero_le _⟩ ?_
        refine J_if_ne E (tgt := 52) dX5_copy_41 (by decide) (fun c_41 => ?_) (fun c_41 => ?_)
        · skip
          have c_41 := bI_1 c_41
          exact absurd c_41 h1
        · skip
          have c_41 := bI_0 c_41
          refine J_aload E dX5_copy_44 0 rfl ?_
          refine J_si10r E (As := []) (c_X2_isMissing l G (sh a 35) (x 10) ) cl_X5_212 yo_X2_isMissing dX5_copy_46 rfl (Nat.le_of_ble_eq_true rfl) (Nat.le_of_ble_eq_true rfl) rfl (Nat.le_of_ble_eq_true rfl) ⟨Nat.zero_le _, Nat.zero_le _⟩ ?_
          refine J_if_eq E (tgt := 58) dX5_copy_49 (by decide) (fun c_49 => ?_) (fun c_49 => ?_)
          · skip
            have c_49 := bI_0 c_49
            refine J_aload E dX5_copy_58 1 rfl ?_
            refine gC37_X5_215 E dX5_copy_60 ?_
            refine J_aload E dX5_copy_63 0 rfl ?_
            refine gC35_X5_215 E dX5_copy_65 ?_
            refine J_icmp_eq E (tgt := 77) dX5_copy_68 (by decide) (fun c_68 => ?_) (fun c_68 => ?_)
            · skip
              refine J_aload E dX5_copy_77 1 rfl ?_
              refine J_iload_n E dX5_copy_79 rfl 4 rfl ?_
              refine J_iload E dX5_copy_80 7 rfl ?_
              refine J_si11r E (As := [.int (nI f), .int (nI m)]) (c_X2_hasRun l G (sh a 37) (x 11) (nI f) (nI m) ) cl_X5_218 yo_X2_hasRun dX5_copy_82 rfl (Nat.le_of_ble_eq_true rfl) (Nat.le_of_ble_eq_true rfl) rfl (Nat.le_of_ble_eq_true rfl) ⟨Nat.zero_le _, Nat.zero_le _⟩ ?_
              refine J_if_eq E (tgt := 100) dX5_copy_85 (by decide) (fun c_85 => ?_) (fun c_85 => ?_)
              · skip
                have c_85 := bI_0 c_85
                exact absurd (runOK h5 h4 (by omega)) c_85
              · skip
                have c_85 := bI_1 c_85
                refine J_aload E dX5_copy_88 0 rfl ?_
                refine J_iload E dX5_copy_90 6 rfl ?_
                refine J_iload E dX5_copy_92 7 rfl ?_
                refine J_si10r E (As := [.int (nI o), .int (nI m)]) (c_X2_hasRun l G (sh a 35) (x 10) (nI o) (nI m) ) cl_X5_218 yo_X2_hasRun dX5_copy_94 rfl (Nat.le_of_ble_eq_true rfl) (Nat.le_of_ble_eq_true rfl) rfl (Nat.le_of_ble_eq_true rfl) ⟨Nat.zero_le _, Nat.zero_le _⟩ ?_
                refine J_if_ne E (tgt := 106) dX5_copy_97 (by decide) (fun c_97 => ?_) (fun c_97 => ?_)
                · skip
                  have c_97 := bI_1 c_97
                  refine J_aload E dX5_copy_106 1 rfl ?_
                  refine gC37_X5_221 E dX5_copy_108 ?_
                  refine J_iload_n E dX5_copy_111 rfl 4 rfl ?_
                  refine J_aload E dX5_copy_112 0 rfl ?_
                  refine gC35_X5_221 E dX5_copy_114 ?_
                  refine J_iload E dX5_copy_117 6 rfl ?_
                  refine J_iload E dX5_copy_119 7 rfl ?_
                  refine J_copyi E 38 36 ml_X5_133 na_acopy st_acopy ini_J10 dX5_copy_121 rfl rfl (nI_pos (by omega)) (nI_pos (by omega)) (nI_pos (by omega)) (by rw [nI_clamp (by omega), nI_clamp (by omega)]; omega) (by rw [nI_clamp (by omega), nI_clamp (by omega)]; omega) (by decide) (Nat.le_of_ble_eq_true rfl) ?_
                  refine J_w (ws' := wC G a (up3R x 10 0 (va_cpy (x 11 0) (x 10 0) f o m))) (by rw [nI_clamp (n := f) (by omega), nI_clamp (n := o) (by omega), nI_clamp (n := m) (by omega)]; rfl) ?_
                  refine J_iload E dX5_copy_124 7 rfl ?_
                  exact ret _ _ _ _ ⟨rfl, _, rfl, ShC.rfl'⟩ rfl dX5_copy_126
                · skip
                  have c_97 := bI_0 c_97
                  exact absurd (runOK h7 h6 (by omega)) c_97
            · skip
              exact absurd h3 c_68
          · skip
            have c_49 := bI_1 c_49
            exact absurd c_49 h2
      · skip
        have c_11 := bI_0 c_11
        exact absurd (in3 (by decide)) c_11
  · skip
    refine J_iload_n E dX5_copy_0 rfl 1 rfl ?_
    refine J_cSiN E (As := [.int (nI 3)]) (c_X5_isSheet l G (nI 3) ) cl_X5_202 yo_X5_isSheet dX5_copy_1 rfl (Nat.le_of_ble_eq_true rfl) (Nat.le_of_ble_eq_true rfl) rfl (Nat.le_of_ble_eq_true rfl) ⟨Nat.zero_le _, Nat.zero_le _⟩ ?_
    refine J_if_eq E (tgt := 14) dX5_copy_4 (by decide) (fun c_4 => ?_) (fun c_4 => ?_)
    · skip
      have c_4 := bI_0 c_4
      exact absurd (in3 (by decide)) c_4
    · skip
      have c_4 := bI_1 c_4
      refine J_iload_n E dX5_copy_7 rfl 3 rfl ?_
      refine J_cSiN E (As := [.int (nI 3)]) (c_X5_isSheet l G (nI 3) ) cl_X5_202 yo_X5_isSheet dX5_copy_8 rfl (Nat.le_of_ble_eq_true rfl) (Nat.le_of_ble_eq_true rfl) rfl (Nat.le_of_ble_eq_true rfl) ⟨Nat.zero_le _, Nat.zero_le _⟩ ?_
      refine J_if_ne E (tgt := 20) dX5_copy_11 (by decide) (fun c_11 => ?_) (fun c_11 => ?_)
      · skip
        have c_11 := bI_1 c_11
        refine J_aload_n E dX5_copy_20 rfl 0 rfl ?_
        refine gC0_X5_44 E dX5_copy_21 ?_
        refine J_iload_n E dX5_copy_24 rfl 1 rfl ?_
        refine laC_30_3 E dX5_copy_25 ?_
        refine J_astore E (lv' := [(6, .ref (a 37)), (0, .ref (a 0)), (1, .int (nI 3)), (2, .int (nI f)), (3, .int (nI 3)), (4, .int (nI o)), (5, .int (nI m))]) dX5_copy_26 (by decide) rfl ?_
        refine J_aload_n E dX5_copy_28 rfl 1 rfl ?_
        refine gC0_X5_44 E dX5_copy_29 ?_
        refine J_iload_n E dX5_copy_32 rfl 4 rfl ?_
        refine laC_30_3 E dX5_copy_33 ?_
        refine J_astore E (lv' := [(7, .ref (a 37)), (6, .ref (a 37)), (0, .ref (a 0)), (1, .int (nI 3)), (2, .int (nI f)), (3, .int (nI 3)), (4, .int (nI o)), (5, .int (nI m))]) dX5_copy_34 (by decide) rfl ?_
        refine J_aload E dX5_copy_36 1 rfl ?_
        refine J_si11r E (As := []) (c_X2_isMissing l G (sh a 37) (x 11) ) cl_X5_212 yo_X2_isMissing dX5_copy_38 rfl (Nat.le_of_ble_eq_true rfl) (Nat.le_of_ble_eq_true rfl) rfl (Nat.le_of_ble_eq_true rfl) ⟨Nat.zero_le _, Nat.zero_le _⟩ ?_
        refine J_if_ne E (tgt := 52) dX5_copy_41 (by decide) (fun c_41 => ?_) (fun c_41 => ?_)
        · skip
          have c_41 := bI_1 c_41
          exact absurd c_41 h1
        · skip
          have c_41 := bI_0 c_41
          refine J_aload E dX5_copy_44 0 rfl ?_
          refine J_si11r E (As := []) (c_X2_isMissing l G (sh a 37) (x 11) ) cl_X5_212 yo_X2_isMissing dX5_copy_46 rfl (Nat.le_of_ble_eq_true rfl) (Nat.le_of_ble_eq_true rfl) rfl (Nat.le_of_ble_eq_true rfl) ⟨Nat.zero_le _, Nat.zero_le _⟩ ?_
          refine J_if_eq E (tgt := 58) dX5_copy_49 (by decide) (fun c_49 => ?_) (fun c_49 => ?_)
          · skip
            have c_49 := bI_0 c_49
            refine J_aload E dX5_copy_58 1 rfl ?_
            refine gC37_X5_215 E dX5_copy_60 ?_
            refine J_aload E dX5_copy_63 0 rfl ?_
            refine gC37_X5_215 E dX5_copy_65 ?_
            refine J_icmp_eq E (tgt := 77) dX5_copy_68 (by decide) (fun c_68 => ?_) (fun c_68 => ?_)
            · skip
              refine J_aload E dX5_copy_77 1 rfl ?_
              refine J_iload_n E dX5_copy_79 rfl 4 rfl ?_
              refine J_iload E dX5_copy_80 7 rfl ?_
              refine J_si11r E (As := [.int (nI f), .int (nI m)]) (c_X2_hasRun l G (sh a 37) (x 11) (nI f) (nI m) ) cl_X5_218 yo_X2_hasRun dX5_copy_82 rfl (Nat.le_of_ble_eq_true rfl) (Nat.le_of_ble_eq_true rfl) rfl (Nat.le_of_ble_eq_true rfl) ⟨Nat.zero_le _, Nat.zero_le _⟩ ?_
              refine J_if_eq E (tgt := 100) dX5_copy_85 (by decide) (fun c_85 => ?_) (fun c_85 => ?_)
              · skip
                have c_85 := bI_0 c_85
                exact absurd (runOK h5 h4 (by omega)) c_85
              · skip
                have c_85 := bI_1 c_85
                refine J_aload E dX5_copy_88 0 rfl ?_
                refine J_iload E dX5_copy_90 6 rfl ?_
                refine J_iload E dX5_copy_92 7 rfl ?_
                refine J_si11r E (As := [.int (nI o), .int (nI m)]) (c_X2_hasRun l G (sh a 37) (x 11) (nI o) (nI m) ) cl_X5_218 yo_X2_hasRun dX5_copy_94 rfl (Nat.le_of_ble_eq_true rfl) (Nat.le_of_ble_eq_true rfl) rfl (Nat.le_of_ble_eq_true rfl) ⟨Nat.zero_le _, Nat.zero_le _⟩ ?_
                refine J_if_ne E (tgt := 106) dX5_copy_97 (by decide) (fun c_97 => ?_) (fun c_97 => ?_)
                · skip
                  have c_97 := bI_1 c_97
                  refine J_aload E dX5_copy_106 1 rfl ?_
                  refine gC37_X5_221 E dX5_copy_108 ?_
                  refine J_iload_n E dX5_copy_111 rfl 4 rfl ?_
                  refine J_aload E dX5_copy_112 0 rfl ?_
                  refine gC37_X5_221 E dX5_copy_114 ?_
                  refine J_iload E dX5_copy_117 6 rfl ?_
                  refine J_iload E dX5_copy_119 7 rfl ?_
                  refine J_copyi E 38 38 ml_X5_133 na_acopy st_acopy ini_J10 dX5_copy_121 rfl rfl (nI_pos (by omega)) (nI_pos (by omega)) (nI_pos (by omega)) (by rw [nI_clamp (by omega), nI_clamp (by omega)]; omega) (by rw [nI_clamp (by omega), nI_clamp (by omega)]; omega) (by decide) (Nat.le_of_ble_eq_true rfl) ?_
                  refine J_w (ws' := wC G a (up3R x 11 0 (va_cpy (x 11 0) (x 11 0) f o m))) (by rw [nI_clamp (n := f) (by omega), nI_clamp (n := o) (by omega), nI_clamp (n := m) (by omega)]; rfl) ?_
                  refine J_iload E dX5_copy_124 7 rfl ?_
                  exact ret _ _ _ _ ⟨rfl, _, rfl, ShC.rfl'⟩ rfl dX5_copy_126
                · skip
                  have c_97 := bI_0 c_97
                  exact absurd (runOK h7 h6 (by omega)) c_97
            · skip
              exact absurd h3 c_68
          · skip
            have c_49 := bI_1 c_49
            exact absurd c_49 h2
      · skip
        have c_11 := bI_0 c_11
        exact absurd (in3 (by decide)) c_11
