set_option maxHeartbeats 4000000 in
set_option maxRecDepth 20000 in
theorem c_X6_copy_miss (l : Launch) (G : GB) (b : Nat → Nat) (y : Q3) (i k : Nat) (f o n : Int32) (hi : i < 4) (hk : k < 4) (hb : y (8 + i) 1 0 = 0 ∨ y (8 + k) 1 0 = 0) : CI l yX6_copy cX6_copy 8 .int 2 45 G [.ref (b 0), .int (nI i), .int f, .int (nI k), .int o, .int n] (wM G b y) (fun vR w' => vR = tellR 5 ∧ PubM G b (tellX y 5) w') := by
  refine CI.mk (own := RX6) (by decide) rfl (Nat.le_of_ble_eq_true rfl) ?_
  intro X E ret
  show J X G 8 0 0 (wM G b y) [(0, .ref (b 0)), (1, .int (nI i)), (2, .int f), (3, .int (nI k)), (4, .int o), (5, .int n)] 0 []
  rcases (show (i = 0 ∧ k = 0) ∨ (i = 0 ∧ k = 1) ∨ (i = 0 ∧ k = 2) ∨ (i = 0 ∧ k = 3) ∨ (i = 1 ∧ k = 0) ∨ (i = 1 ∧ k = 1) ∨ (i = 1 ∧ k = 2) ∨ (i = 1 ∧ k = 3) ∨ (i = 2 ∧ k = 0) ∨ (i = 2 ∧ k = 1) ∨ (i = 2 ∧ k = 2) ∨ (i = 2 ∧ k = 3) ∨ (i = 3 ∧ k = 0) ∨ (i = 3 ∧ k = 1) ∨ (i = 3 ∧ k = 2) ∨ (i = 3 ∧ k = 3) by omega) with ⟨rfl, rfl⟩ | ⟨rfl, rfl⟩ | ⟨rfl, rfl⟩ | ⟨rfl, rfl⟩ | ⟨rfl, rfl⟩ | ⟨rfl, rfl⟩ | ⟨rfl, rfl⟩ | ⟨rfl, rfl⟩ | ⟨rfl, rfl⟩ | ⟨rfl, rfl⟩ | ⟨rfl, rfl⟩ | ⟨rfl, rfl⟩ | ⟨rfl, rfl⟩ | ⟨rfl, rfl⟩ | ⟨rfl, rfl⟩ | ⟨rfl, rfl⟩
  · skip
    refine J_iload_n E dX6_copy_0 rfl 1 rfl ?_
    refine J_cSiN E (As := [.int (nI 0)]) (c_X6_isSheet l G (nI 0) ) cl_X6_303 yo_X6_isSheet dX6_copy_1 rfl (Nat.le_of_ble_eq_true rfl) (Nat.le_of_ble_eq_true rfl) rfl (Nat.le_of_ble_eq_true rfl) ⟨Nat.zero_le _, Nat.zero_le _⟩ ?_
    refine J_if_eq E (tgt := 14) dX6_copy_4 (by decide) (fun c_4 => ?_) (fun c_4 => ?_)
    · skip
      have c_4 := bI_0 c_4
      exact absurd (in3 (by decide)) c_4
    · skip
      have c_4 := bI_1 c_4
      refine J_iload_n E dX6_copy_7 rfl 3 rfl ?_
      refine J_cSiN E (As := [.int (nI 0)]) (c_X6_isSheet l G (nI 0) ) cl_X6_303 yo_X6_isSheet dX6_copy_8 rfl (Nat.le_of_ble_eq_true rfl) (Nat.le_of_ble_eq_true rfl) rfl (Nat.le_of_ble_eq_true rfl) ⟨Nat.zero_le _, Nat.zero_le _⟩ ?_
      refine J_if_ne E (tgt := 20) dX6_copy_11 (by decide) (fun c_11 => ?_) (fun c_11 => ?_)
      · skip
        have c_11 := bI_1 c_11
        refine J_aload_n E dX6_copy_20 rfl 0 rfl ?_
        refine gM0_X6_31 E dX6_copy_21 ?_
        refine J_iload_n E dX6_copy_24 rfl 1 rfl ?_
        refine lMb_0 E  dX6_copy_25 ?_
        refine J_if_eq E (tgt := 38) dX6_copy_26 (by decide) (fun c_26 => ?_) (fun c_26 => ?_)
        · skip
          refine J_aload_n E dX6_copy_38 rfl 0 rfl ?_
          refine J_iconst E dX6_copy_39 ic_5 ?_
          refine J_cVi0 E (As := [.int 5]) (c_X6_finds l G b y 5 (by omega)) cl_X6_96 yo_X6_finds dX6_copy_40 rfl rfl rfl (Nat.le_of_ble_eq_true rfl) (Nat.le_of_ble_eq_true rfl) rfl (Nat.le_of_ble_eq_true rfl) ⟨Nat.zero_le _, Nat.zero_le _⟩ ?_
          exact ret _ _ _ _ ⟨rfl, _, rfl, by intro g h2 h5 h6; by_cases h0 : g = 0 <;> simp [tellX, upG, up3, up3R, up2, h0, h2, h5, h6]⟩ rfl dX6_copy_43
        · skip
          refine J_aload_n E dX6_copy_29 rfl 0 rfl ?_
          refine gM0_X6_31 E dX6_copy_30 ?_
          refine J_iload_n E dX6_copy_33 rfl 3 rfl ?_
          refine lMb_0 E  dX6_copy_34 ?_
          refine J_if_ne E (tgt := 44) dX6_copy_35 (by decide) (fun c_35 => ?_) (fun c_35 => ?_)
          · skip
            exact absurd hb (fun z => z.elim c_26 c_35)
          · skip
            refine J_aload_n E dX6_copy_38 rfl 0 rfl ?_
            refine J_iconst E dX6_copy_39 ic_5 ?_
            refine J_cVi0 E (As := [.int 5]) (c_X6_finds l G b y 5 (by omega)) cl_X6_96 yo_X6_finds dX6_copy_40 rfl rfl rfl (Nat.le_of_ble_eq_true rfl) (Nat.le_of_ble_eq_true rfl) rfl (Nat.le_of_ble_eq_true rfl) ⟨Nat.zero_le _, Nat.zero_le _⟩ ?_
            exact ret _ _ _ _ ⟨rfl, _, rfl, by intro g h2 h5 h6; by_cases h0 : g = 0 <;> simp [tellX, upG, up3, up3R, up2, h0, h2, h5, h6]⟩ rfl dX6_copy_43
      · skip
        have c_11 := bI_0 c_11
        exact absurd (in3 (by decide)) c_11
  · skip
    refine J_iload_n E dX6_copy_0 rfl 1 rfl ?_
    refine J_cSiN E (As := [.int (nI 0)]) (c_X6_isSheet l G (nI 0) ) cl_X6_303 yo_X6_isSheet dX6_copy_1 rfl (Nat.le_of_ble_eq_true rfl) (Nat.le_of_ble_eq_true rfl) rfl (Nat.le_of_ble_eq_true rfl) ⟨Nat.zero_le _, Nat.zero_le _⟩ ?_
    refine J_if_eq E (tgt := 14) dX6_copy_4 (by decide) (fun c_4 => ?_) (fun c_4 => ?_)
    · skip
      have c_4 := bI_0 c_4
      exact absurd (in3 (by decide)) c_4
    · skip
      have c_4 := bI_1 c_4
      refine J_iload_n E dX6_copy_7 rfl 3 rfl ?_
      refine J_cSiN E (As := [.int (nI 1)]) (c_X6_isSheet l G (nI 1) ) cl_X6_303 yo_X6_isSheet dX6_copy_8 rfl (Nat.le_of_ble_eq_true rfl) (Nat.le_of_ble_eq_true rfl) rfl (Nat.le_of_ble_eq_true rfl) ⟨Nat.zero_le _, Nat.zero_le _⟩ ?_
      refine J_if_ne E (tgt := 20) dX6_copy_11 (by decide) (fun c_11 => ?_) (fun c_11 => ?_)
      · skip
        have c_11 := bI_1 c_11
        refine J_aload_n E dX6_copy_20 rfl 0 rfl ?_
        refine gM0_X6_31 E dX6_copy_21 ?_
        refine J_iload_n E dX6_copy_24 rfl 1 rfl ?_
        refine lMb_0 E  dX6_copy_25 ?_
        refine J_if_eq E (tgt := 38) dX6_copy_26 (by decide) (fun c_26 => ?_) (fun c_26 => ?_)
        · skip
          refine J_aload_n E dX6_copy_38 rfl 0 rfl ?_
          refine J_iconst E dX6_copy_39 ic_5 ?_
          refine J_cVi0 E (As := [.int 5]) (c_X6_finds l G b y 5 (by omega)) cl_X6_96 yo_X6_finds dX6_copy_40 rfl rfl rfl (Nat.le_of_ble_eq_true rfl) (Nat.le_of_ble_eq_true rfl) rfl (Nat.le_of_ble_eq_true rfl) ⟨Nat.zero_le _, Nat.zero_le _⟩ ?_
          exact ret _ _ _ _ ⟨rfl, _, rfl, by intro g h2 h5 h6; by_cases h0 : g = 0 <;> simp [tellX, upG, up3, up3R, up2, h0, h2, h5, h6]⟩ rfl dX6_copy_43
        · skip
          refine J_aload_n E dX6_copy_29 rfl 0 rfl ?_
          refine gM0_X6_31 E dX6_copy_30 ?_
          refine J_iload_n E dX6_copy_33 rfl 3 rfl ?_
          refine lMb_1 E  dX6_copy_34 ?_
          refine J_if_ne E (tgt := 44) dX6_copy_35 (by decide) (fun c_35 => ?_) (fun c_35 => ?_)
          · skip
            exact absurd hb (fun z => z.elim c_26 c_35)
          · skip
            refine J_aload_n E dX6_copy_38 rfl 0 rfl ?_
            refine J_iconst E dX6_copy_39 ic_5 ?_
            refine J_cVi0 E (As := [.int 5]) (c_X6_finds l G b y 5 (by omega)) cl_X6_96 yo_X6_finds dX6_copy_40 rfl rfl rfl (Nat.le_of_ble_eq_true rfl) (Nat.le_of_ble_eq_true rfl) rfl (Nat.le_of_ble_eq_true rfl) ⟨Nat.zero_le _, Nat.zero_le _⟩ ?_
            exact ret _ _ _ _ ⟨rfl, _, rfl, by intro g h2 h5 h6; by_cases h0 : g = 0 <;> simp [tellX, upG, up3, up3R, up2, h0, h2, h5, h6]⟩ rfl dX6_copy_43
      · skip
        have c_11 := bI_0 c_11
        exact absurd (in3 (by decide)) c_11
  · skip
    refine J_iload_n E dX6_copy_0 rfl 1 rfl ?_
    refine J_cSiN E (As := [.int (nI 0)]) (c_X6_isSheet l G (nI 0) ) cl_X6_303 yo_X6_isSheet dX6_copy_1 rfl (Nat.le_of_ble_eq_true rfl) (Nat.le_of_ble_eq_true rfl) rfl (Nat.le_of_ble_eq_true rfl) ⟨Nat.zero_le _, Nat.zero_le _⟩ ?_
    refine J_if_eq E (tgt := 14) dX6_copy_4 (by decide) (fun c_4 => ?_) (fun c_4 => ?_)
    · skip
      have c_4 := bI_0 c_4
      exact absurd (in3 (by decide)) c_4
    · skip
      have c_4 := bI_1 c_4
      refine J_iload_n E dX6_copy_7 rfl 3 rfl ?_
      refine J_cSiN E (As := [.int (nI 2)]) (c_X6_isSheet l G (nI 2) ) cl_X6_303 yo_X6_isSheet dX6_copy_8 rfl (Nat.le_of_ble_eq_true rfl) (Nat.le_of_ble_eq_true rfl) rfl (Nat.le_of_ble_eq_true rfl) ⟨Nat.zero_le _, Nat.zero_le _⟩ ?_
      refine J_if_ne E (tgt := 20) dX6_copy_11 (by decide) (fun c_11 => ?_) (fun c_11 => ?_)
      · skip
        have c_11 := bI_1 c_11
        refine J_aload_n E dX6_copy_20 rfl 0 rfl ?_
        refine gM0_X6_31 E dX6_copy_21 ?_
        refine J_iload_n E dX6_copy_24 rfl 1 rfl ?_
        refine lMb_0 E  dX6_copy_25 ?_
        refine J_if_eq E (tgt := 38) dX6_copy_26 (by decide) (fun c_26 => ?_) (fun c_26 => ?_)
        · skip
          refine J_aload_n E dX6_copy_38 rfl 0 rfl ?_
          refine J_iconst E dX6_copy_39 ic_5 ?_
          refine J_cVi0 E (As := [.int 5]) (c_X6_finds l G b y 5 (by omega)) cl_X6_96 yo_X6_finds dX6_copy_40 rfl rfl rfl (Nat.le_of_ble_eq_true rfl) (Nat.le_of_ble_eq_true rfl) rfl (Nat.le_of_ble_eq_true rfl) ⟨Nat.zero_le _, Nat.zero_le _⟩ ?_
          exact ret _ _ _ _ ⟨rfl, _, rfl, by intro g h2 h5 h6; by_cases h0 : g = 0 <;> simp [tellX, upG, up3, up3R, up2, h0, h2, h5, h6]⟩ rfl dX6_copy_43
        · skip
          refine J_aload_n E dX6_copy_29 rfl 0 rfl ?_
          refine gM0_X6_31 E dX6_copy_30 ?_
          refine J_iload_n E dX6_copy_33 rfl 3 rfl ?_
          refine lMb_2 E  dX6_copy_34 ?_
          refine J_if_ne E (tgt := 44) dX6_copy_35 (by decide) (fun c_35 => ?_) (fun c_35 => ?_)
          · skip
            exact absurd hb (fun z => z.elim c_26 c_35)
          · skip
            refine J_aload_n E dX6_copy_38 rfl 0 rfl ?_
            refine J_iconst E dX6_copy_39 ic_5 ?_
            refine J_cVi0 E (As := [.int 5]) (c_X6_finds l G b y 5 (by omega)) cl_X6_96 yo_X6_finds dX6_copy_40 rfl rfl rfl (Nat.le_of_ble_eq_true rfl) (Nat.le_of_ble_eq_true rfl) rfl (Nat.le_of_ble_eq_true rfl) ⟨Nat.zero_le _, Nat.zero_le _⟩ ?_
            exact ret _ _ _ _ ⟨rfl, _, rfl, by intro g h2 h5 h6; by_cases h0 : g = 0 <;> simp [tellX, upG, up3, up3R, up2, h0, h2, h5, h6]⟩ rfl dX6_copy_43
      · skip
        have c_11 := bI_0 c_11
        exact absurd (in3 (by decide)) c_11
  · skip
    refine J_iload_n E dX6_copy_0 rfl 1 rfl ?_
    refine J_cSiN E (As := [.int (nI 0)]) (c_X6_isSheet l G (nI 0) ) cl_X6_303 yo_X6_isSheet dX6_copy_1 rfl (Nat.le_of_ble_eq_true rfl) (Nat.le_of_ble_eq_true rfl) rfl (Nat.le_of_ble_eq_true rfl) ⟨Nat.zero_le _, Nat.zero_le _⟩ ?_
    refine J_if_eq E (tgt := 14) dX6_copy_4 (by decide) (fun c_4 => ?_) (fun c_4 => ?_)
    · skip
      have c_4 := bI_0 c_4
      exact absurd (in3 (by decide)) c_4
    · skip
      have c_4 := bI_1 c_4
      refine J_iload_n E dX6_copy_7 rfl 3 rfl ?_
      refine J_cSiN E (As := [.int (nI 3)]) (c_X6_isSheet l G (nI 3) ) cl_X6_303 yo_X6_isSheet dX6_copy_8 rfl (Nat.le_of_ble_eq_true rfl) (Nat.le_of_ble_eq_true rfl) rfl (Nat.le_of_ble_eq_true rfl) ⟨Nat.zero_le _, Nat.zero_le _⟩ ?_
      refine J_if_ne E (tgt := 20) dX6_copy_11 (by decide) (fun c_11 => ?_) (fun c_11 => ?_)
      · skip
        have c_11 := bI_1 c_11
        refine J_aload_n E dX6_copy_20 rfl 0 rfl ?_
        refine gM0_X6_31 E dX6_copy_21 ?_
        refine J_iload_n E dX6_copy_24 rfl 1 rfl ?_
        refine lMb_0 E  dX6_copy_25 ?_
        refine J_if_eq E (tgt := 38) dX6_copy_26 (by decide) (fun c_26 => ?_) (fun c_26 => ?_)
        · skip
          refine J_aload_n E dX6_copy_38 rfl 0 rfl ?_
          refine J_iconst E dX6_copy_39 ic_5 ?_
          refine J_cVi0 E (As := [.int 5]) (c_X6_finds l G b y 5 (by omega)) cl_X6_96 yo_X6_finds dX6_copy_40 rfl rfl rfl (Nat.le_of_ble_eq_true rfl) (Nat.le_of_ble_eq_true rfl) rfl (Nat.le_of_ble_eq_true rfl) ⟨Nat.zero_le _, Nat.zero_le _⟩ ?_
          exact ret _ _ _ _ ⟨rfl, _, rfl, by intro g h2 h5 h6; by_cases h0 : g = 0 <;> simp [tellX, upG, up3, up3R, up2, h0, h2, h5, h6]⟩ rfl dX6_copy_43
        · skip
          refine J_aload_n E dX6_copy_29 rfl 0 rfl ?_
          refine gM0_X6_31 E dX6_copy_30 ?_
          refine J_iload_n E dX6_copy_33 rfl 3 rfl ?_
          refine lMb_3 E  dX6_copy_34 ?_
          refine J_if_ne E (tgt := 44) dX6_copy_35 (by decide) (fun c_35 => ?_) (fun c_35 => ?_)
          · skip
            exact absurd hb (fun z => z.elim c_26 c_35)
          · skip
            refine J_aload_n E dX6_copy_38 rfl 0 rfl ?_
            refine J_iconst E dX6_copy_39 ic_5 ?_
            refine J_cVi0 E (As := [.int 5]) (c_X6_finds l G b y 5 (by omega)) cl_X6_96 yo_X6_finds dX6_copy_40 rfl rfl rfl (Nat.le_of_ble_eq_true rfl) (Nat.le_of_ble_eq_true rfl) rfl (Nat.le_of_ble_eq_true rfl) ⟨Nat.zero_le _, Nat.zero_le _⟩ ?_
            exact ret _ _ _ _ ⟨rfl, _, rfl, by intro g h2 h5 h6; by_cases h0 : g = 0 <;> simp [tellX, upG, up3, up3R, up2, h0, h2, h5, h6]⟩ rfl dX6_copy_43
      · skip
        have c_11 := bI_0 c_11
        exact absurd (in3 (by decide)) c_11
  · skip
    refine J_iload_n E dX6_copy_0 rfl 1 rfl ?_
    refine J_cSiN E (As := [.int (nI 1)]) (c_X6_isSheet l G (nI 1) ) cl_X6_303 yo_X6_isSheet dX6_copy_1 rfl (Nat.le_of_ble_eq_true rfl) (Nat.le_of_ble_eq_true rfl) rfl (Nat.le_of_ble_eq_true rfl) ⟨Nat.zero_le _, Nat.zero_le _⟩ ?_
    refine J_if_eq E (tgt := 14) dX6_copy_4 (by decide) (fun c_4 => ?_) (fun c_4 => ?_)
    · skip
      have c_4 := bI_0 c_4
      exact absurd (in3 (by decide)) c_4
    · skip
      have c_4 := bI_1 c_4
      refine J_iload_n E dX6_copy_7 rfl 3 rfl ?_
      refine J_cSiN E (As := [.int (nI 0)]) (c_X6_isSheet l G (nI 0) ) cl_X6_303 yo_X6_isSheet dX6_copy_8 rfl (Nat.le_of_ble_eq_true rfl) (Nat.le_of_ble_eq_true rfl) rfl (Nat.le_of_ble_eq_true rfl) ⟨Nat.zero_le _, Nat.zero_le _⟩ ?_
      refine J_if_ne E (tgt := 20) dX6_copy_11 (by decide) (fun c_11 => ?_) (fun c_11 => ?_)
      · skip
        have c_11 := bI_1 c_11
        refine J_aload_n E dX6_copy_20 rfl 0 rfl ?_
        refine gM0_X6_31 E dX6_copy_21 ?_
        refine J_iload_n E dX6_copy_24 rfl 1 rfl ?_
        refine lMb_1 E  dX6_copy_25 ?_
        refine J_if_eq E (tgt := 38) dX6_copy_26 (by decide) (fun c_26 => ?_) (fun c_26 => ?_)
        · skip
          refine J_aload_n E dX6_copy_38 rfl 0 rfl ?_
          refine J_iconst E dX6_copy_39 ic_5 ?_
          refine J_cVi0 E (As := [.int 5]) (c_X6_finds l G b y 5 (by omega)) cl_X6_96 yo_X6_finds dX6_copy_40 rfl rfl rfl (Nat.le_of_ble_eq_true rfl) (Nat.le_of_ble_eq_true rfl) rfl (Nat.le_of_ble_eq_true rfl) ⟨Nat.zero_le _, Nat.zero_le _⟩ ?_
          exact ret _ _ _ _ ⟨rfl, _, rfl, by intro g h2 h5 h6; by_cases h0 : g = 0 <;> simp [tellX, upG, up3, up3R, up2, h0, h2, h5, h6]⟩ rfl dX6_copy_43
        · skip
          refine J_aload_n E dX6_copy_29 rfl 0 rfl ?_
          refine gM0_X6_31 E dX6_copy_30 ?_
          refine J_iload_n E dX6_copy_33 rfl 3 rfl ?_
          refine lMb_0 E  dX6_copy_34 ?_
          refine J_if_ne E (tgt := 44) dX6_copy_35 (by decide) (fun c_35 => ?_) (fun c_35 => ?_)
          · skip
            exact absurd hb (fun z => z.elim c_26 c_35)
          · skip
            refine J_aload_n E dX6_copy_38 rfl 0 rfl ?_
            refine J_iconst E dX6_copy_39 ic_5 ?_
            refine J_cVi0 E (As := [.int 5]) (c_X6_finds l G b y 5 (by omega)) cl_X6_96 yo_X6_finds dX6_copy_40 rfl rfl rfl (Nat.le_of_ble_eq_true rfl) (Nat.le_of_ble_eq_true rfl) rfl (Nat.le_of_ble_eq_true rfl) ⟨Nat.zero_le _, Nat.zero_le _⟩ ?_
            exact ret _ _ _ _ ⟨rfl, _, rfl, by intro g h2 h5 h6; by_cases h0 : g = 0 <;> simp [tellX, upG, up3, up3R, up2, h0, h2, h5, h6]⟩ rfl dX6_copy_43
      · skip
        have c_11 := bI_0 c_11
        exact absurd (in3 (by decide)) c_11
  · skip
    refine J_iload_n E dX6_copy_0 rfl 1 rfl ?_
    refine J_cSiN E (As := [.int (nI 1)]) (c_X6_isSheet l G (nI 1) ) cl_X6_303 yo_X6_isSheet dX6_copy_1 rfl (Nat.le_of_ble_eq_true rfl) (Nat.le_of_ble_eq_true rfl) rfl (Nat.le_of_ble_eq_true rfl) ⟨Nat.zero_le _, Nat.zero_le _⟩ ?_
    refine J_if_eq E (tgt := 14) dX6_copy_4 (by decide) (fun c_4 => ?_) (fun c_4 => ?_)
    · skip
      have c_4 := bI_0 c_4
      exact absurd (in3 (by decide)) c_4
    · skip
      have c_4 := bI_1 c_4
      refine J_iload_n E dX6_copy_7 rfl 3 rfl ?_
      refine J_cSiN E (As := [.int (nI 1)]) (c_X6_isSheet l G (nI 1) ) cl_X6_303 yo_X6_isSheet dX6_copy_8 rfl (Nat.le_of_ble_eq_true rfl) (Nat.le_of_ble_eq_true rfl) rfl (Nat.le_of_ble_eq_true rfl) ⟨Nat.zero_le _, Nat.zero_le _⟩ ?_
      refine J_if_ne E (tgt := 20) dX6_copy_11 (by decide) (fun c_11 => ?_) (fun c_11 => ?_)
      · skip
        have c_11 := bI_1 c_11
        refine J_aload_n E dX6_copy_20 rfl 0 rfl ?_
        refine gM0_X6_31 E dX6_copy_21 ?_
        refine J_iload_n E dX6_copy_24 rfl 1 rfl ?_
        refine lMb_1 E  dX6_copy_25 ?_
        refine J_if_eq E (tgt := 38) dX6_copy_26 (by decide) (fun c_26 => ?_) (fun c_26 => ?_)
        · skip
          refine J_aload_n E dX6_copy_38 rfl 0 rfl ?_
          refine J_iconst E dX6_copy_39 ic_5 ?_
          refine J_cVi0 E (As := [.int 5]) (c_X6_finds l G b y 5 (by omega)) cl_X6_96 yo_X6_finds dX6_copy_40 rfl rfl rfl (Nat.le_of_ble_eq_true rfl) (Nat.le_of_ble_eq_true rfl) rfl (Nat.le_of_ble_eq_true rfl) ⟨Nat.zero_le _, Nat.zero_le _⟩ ?_
          exact ret _ _ _ _ ⟨rfl, _, rfl, by intro g h2 h5 h6; by_cases h0 : g = 0 <;> simp [tellX, upG, up3, up3R, up2, h0, h2, h5, h6]⟩ rfl dX6_copy_43
        · skip
          refine J_aload_n E dX6_copy_29 rfl 0 rfl ?_
          refine gM0_X6_31 E dX6_copy_30 ?_
          refine J_iload_n E dX6_copy_33 rfl 3 rfl ?_
          refine lMb_1 E  dX6_copy_34 ?_
          refine J_if_ne E (tgt := 44) dX6_copy_35 (by decide) (fun c_35 => ?_) (fun c_35 => ?_)
          · skip
            exact absurd hb (fun z => z.elim c_26 c_35)
          · skip
            refine J_aload_n E dX6_copy_38 rfl 0 rfl ?_
            refine J_iconst E dX6_copy_39 ic_5 ?_
            refine J_cVi0 E (As := [.int 5]) (c_X6_finds l G b y 5 (by omega)) cl_X6_96 yo_X6_finds dX6_copy_40 rfl rfl rfl (Nat.le_of_ble_eq_true rfl) (Nat.le_of_ble_eq_true rfl) rfl (Nat.le_of_ble_eq_true rfl) ⟨Nat.zero_le _, Nat.zero_le _⟩ ?_
            exact ret _ _ _ _ ⟨rfl, _, rfl, by intro g h2 h5 h6; by_cases h0 : g = 0 <;> simp [tellX, upG, up3, up3R, up2, h0, h2, h5, h6]⟩ rfl dX6_copy_43
      · skip
        have c_11 := bI_0 c_11
        exact absurd (in3 (by decide)) c_11
  · skip
    refine J_iload_n E dX6_copy_0 rfl 1 rfl ?_
    refine J_cSiN E (As := [.int (nI 1)]) (c_X6_isSheet l G (nI 1) ) cl_X6_303 yo_X6_isSheet dX6_copy_1 rfl (Nat.le_of_ble_eq_true rfl) (Nat.le_of_ble_eq_true rfl) rfl (Nat.le_of_ble_eq_true rfl) ⟨Nat.zero_le _, Nat.zero_le _⟩ ?_
    refine J_if_eq E (tgt := 14) dX6_copy_4 (by decide) (fun c_4 => ?_) (fun c_4 => ?_)
    · skip
      have c_4 := bI_0 c_4
      exact absurd (in3 (by decide)) c_4
    · skip
      have c_4 := bI_1 c_4
      refine J_iload_n E dX6_copy_7 rfl 3 rfl ?_
      refine J_cSiN E (As := [.int (nI 2)]) (c_X6_isSheet l G (nI 2) ) cl_X6_303 yo_X6_isSheet dX6_copy_8 rfl (Nat.le_of_ble_eq_true rfl) (Nat.le_of_ble_eq_true rfl) rfl (Nat.le_of_ble_eq_true rfl) ⟨Nat.zero_le _, Nat.zero_le _⟩ ?_
      refine J_if_ne E (tgt := 20) dX6_copy_11 (by decide) (fun c_11 => ?_) (fun c_11 => ?_)
      · skip
        have c_11 := bI_1 c_11
        refine J_aload_n E dX6_copy_20 rfl 0 rfl ?_
        refine gM0_X6_31 E dX6_copy_21 ?_
        refine J_iload_n E dX6_copy_24 rfl 1 rfl ?_
        refine lMb_1 E  dX6_copy_25 ?_
        refine J_if_eq E (tgt := 38) dX6_copy_26 (by decide) (fun c_26 => ?_) (fun c_26 => ?_)
        · skip
          refine J_aload_n E dX6_copy_38 rfl 0 rfl ?_
          refine J_iconst E dX6_copy_39 ic_5 ?_
          refine J_cVi0 E (As := [.int 5]) (c_X6_finds l G b y 5 (by omega)) cl_X6_96 yo_X6_finds dX6_copy_40 rfl rfl rfl (Nat.le_of_ble_eq_true rfl) (Nat.le_of_ble_eq_true rfl) rfl (Nat.le_of_ble_eq_true rfl) ⟨Nat.zero_le _, Nat.zero_le _⟩ ?_
          exact ret _ _ _ _ ⟨rfl, _, rfl, by intro g h2 h5 h6; by_cases h0 : g = 0 <;> simp [tellX, upG, up3, up3R, up2, h0, h2, h5, h6]⟩ rfl dX6_copy_43
        · skip
          refine J_aload_n E dX6_copy_29 rfl 0 rfl ?_
          refine gM0_X6_31 E dX6_copy_30 ?_
          refine J_iload_n E dX6_copy_33 rfl 3 rfl ?_
          refine lMb_2 E  dX6_copy_34 ?_
          refine J_if_ne E (tgt := 44) dX6_copy_35 (by decide) (fun c_35 => ?_) (fun c_35 => ?_)
          · skip
            exact absurd hb (fun z => z.elim c_26 c_35)
          · skip
            refine J_aload_n E dX6_copy_38 rfl 0 rfl ?_
            refine J_iconst E dX6_copy_39 ic_5 ?_
            refine J_cVi0 E (As := [.int 5]) (c_X6_finds l G b y 5 (by omega)) cl_X6_96 yo_X6_finds dX6_copy_40 rfl rfl rfl (Nat.le_of_ble_eq_true rfl) (Nat.le_of_ble_eq_true rfl) rfl (Nat.le_of_ble_eq_true rfl) ⟨Nat.zero_le _, Nat.zero_le _⟩ ?_
            exact ret _ _ _ _ ⟨rfl, _, rfl, by intro g h2 h5 h6; by_cases h0 : g = 0 <;> simp [tellX, upG, up3, up3R, up2, h0, h2, h5, h6]⟩ rfl dX6_copy_43
      · skip
        have c_11 := bI_0 c_11
        exact absurd (in3 (by decide)) c_11
  · skip
    refine J_iload_n E dX6_copy_0 rfl 1 rfl ?_
    refine J_cSiN E (As := [.int (nI 1)]) (c_X6_isSheet l G (nI 1) ) cl_X6_303 yo_X6_isSheet dX6_copy_1 rfl (Nat.le_of_ble_eq_true rfl) (Nat.le_of_ble_eq_true rfl) rfl (Nat.le_of_ble_eq_true rfl) ⟨Nat.zero_le _, Nat.zero_le _⟩ ?_
    refine J_if_eq E (tgt := 14) dX6_copy_4 (by decide) (fun c_4 => ?_) (fun c_4 => ?_)
    · skip
      have c_4 := bI_0 c_4
      exact absurd (in3 (by decide)) c_4
    · skip
      have c_4 := bI_1 c_4
      refine J_iload_n E dX6_copy_7 rfl 3 rfl ?_
      refine J_cSiN E (As := [.int (nI 3)]) (c_X6_isSheet l G (nI 3) ) cl_X6_303 yo_X6_isSheet dX6_copy_8 rfl (Nat.le_of_ble_eq_true rfl) (Nat.le_of_ble_eq_true rfl) rfl (Nat.le_of_ble_eq_true rfl) ⟨Nat.zero_le _, Nat.zero_le _⟩ ?_
      refine J_if_ne E (tgt := 20) dX6_copy_11 (by decide) (fun c_11 => ?_) (fun c_11 => ?_)
      · skip
        have c_11 := bI_1 c_11
        refine J_aload_n E dX6_copy_20 rfl 0 rfl ?_
        refine gM0_X6_31 E dX6_copy_21 ?_
        refine J_iload_n E dX6_copy_24 rfl 1 rfl ?_
        refine lMb_1 E  dX6_copy_25 ?_
        refine J_if_eq E (tgt := 38) dX6_copy_26 (by decide) (fun c_26 => ?_) (fun c_26 => ?_)
        · skip
          refine J_aload_n E dX6_copy_38 rfl 0 rfl ?_
          refine J_iconst E dX6_copy_39 ic_5 ?_
          refine J_cVi0 E (As := [.int 5]) (c_X6_finds l G b y 5 (by omega)) cl_X6_96 yo_X6_finds dX6_copy_40 rfl rfl rfl (Nat.le_of_ble_eq_true rfl) (Nat.le_of_ble_eq_true rfl) rfl (Nat.le_of_ble_eq_true rfl) ⟨Nat.zero_le _, Nat.zero_le _⟩ ?_
          exact ret _ _ _ _ ⟨rfl, _, rfl, by intro g h2 h5 h6; by_cases h0 : g = 0 <;> simp [tellX, upG, up3, up3R, up2, h0, h2, h5, h6]⟩ rfl dX6_copy_43
        · skip
          refine J_aload_n E dX6_copy_29 rfl 0 rfl ?_
          refine gM0_X6_31 E dX6_copy_30 ?_
          refine J_iload_n E dX6_copy_33 rfl 3 rfl ?_
          refine lMb_3 E  dX6_copy_34 ?_
          refine J_if_ne E (tgt := 44) dX6_copy_35 (by decide) (fun c_35 => ?_) (fun c_35 => ?_)
          · skip
            exact absurd hb (fun z => z.elim c_26 c_35)
          · skip
            refine J_aload_n E dX6_copy_38 rfl 0 rfl ?_
            refine J_iconst E dX6_copy_39 ic_5 ?_
            refine J_cVi0 E (As := [.int 5]) (c_X6_finds l G b y 5 (by omega)) cl_X6_96 yo_X6_finds dX6_copy_40 rfl rfl rfl (Nat.le_of_ble_eq_true rfl) (Nat.le_of_ble_eq_true rfl) rfl (Nat.le_of_ble_eq_true rfl) ⟨Nat.zero_le _, Nat.zero_le _⟩ ?_
            exact ret _ _ _ _ ⟨rfl, _, rfl, by intro g h2 h5 h6; by_cases h0 : g = 0 <;> simp [tellX, upG, up3, up3R, up2, h0, h2, h5, h6]⟩ rfl dX6_copy_43
      · skip
        have c_11 := bI_0 c_11
        exact absurd (in3 (by decide)) c_11
  · skip
    refine J_iload_n E dX6_copy_0 rfl 1 rfl ?_
    refine J_cSiN E (As := [.int (nI 2)]) (c_X6_isSheet l G (nI 2) ) cl_X6_303 yo_X6_isSheet dX6_copy_1 rfl (Nat.le_of_ble_eq_true rfl) (Nat.le_of_ble_eq_true rfl) rfl (Nat.le_of_ble_eq_true rfl) ⟨Nat.zero_le _, Nat.zero_le _⟩ ?_
    refine J_if_eq E (tgt := 14) dX6_copy_4 (by decide) (fun c_4 => ?_) (fun c_4 => ?_)
    · skip
      have c_4 := bI_0 c_4
      exact absurd (in3 (by decide)) c_4
    · skip
      have c_4 := bI_1 c_4
      refine J_iload_n E dX6_copy_7 rfl 3 rfl ?_
      refine J_cSiN E (As := [.int (nI 0)]) (c_X6_isSheet l G (nI 0) ) cl_X6_303 yo_X6_isSheet dX6_copy_8 rfl (Nat.le_of_ble_eq_true rfl) (Nat.le_of_ble_eq_true rfl) rfl (Nat.le_of_ble_eq_true rfl) ⟨Nat.zero_le _, Nat.zero_le _⟩ ?_
      refine J_if_ne E (tgt := 20) dX6_copy_11 (by decide) (fun c_11 => ?_) (fun c_11 => ?_)
      · skip
        have c_11 := bI_1 c_11
        refine J_aload_n E dX6_copy_20 rfl 0 rfl ?_
        refine gM0_X6_31 E dX6_copy_21 ?_
        refine J_iload_n E dX6_copy_24 rfl 1 rfl ?_
        refine lMb_2 E  dX6_copy_25 ?_
        refine J_if_eq E (tgt := 38) dX6_copy_26 (by decide) (fun c_26 => ?_) (fun c_26 => ?_)
        · skip
          refine J_aload_n E dX6_copy_38 rfl 0 rfl ?_
          refine J_iconst E dX6_copy_39 ic_5 ?_
          refine J_cVi0 E (As := [.int 5]) (c_X6_finds l G b y 5 (by omega)) cl_X6_96 yo_X6_finds dX6_copy_40 rfl rfl rfl (Nat.le_of_ble_eq_true rfl) (Nat.le_of_ble_eq_true rfl) rfl (Nat.le_of_ble_eq_true rfl) ⟨Nat.zero_le _, Nat.zero_le _⟩ ?_
          exact ret _ _ _ _ ⟨rfl, _, rfl, by intro g h2 h5 h6; by_cases h0 : g = 0 <;> simp [tellX, upG, up3, up3R, up2, h0, h2, h5, h6]⟩ rfl dX6_copy_43
        · skip
          refine J_aload_n E dX6_copy_29 rfl 0 rfl ?_
          refine gM0_X6_31 E dX6_copy_30 ?_
          refine J_iload_n E dX6_copy_33 rfl 3 rfl ?_
          refine lMb_0 E  dX6_copy_34 ?_
          refine J_if_ne E (tgt := 44) dX6_copy_35 (by decide) (fun c_35 => ?_) (fun c_35 => ?_)
          · skip
            exact absurd hb (fun z => z.elim c_26 c_35)
          · skip
            refine J_aload_n E dX6_copy_38 rfl 0 rfl ?_
            refine J_iconst E dX6_copy_39 ic_5 ?_
            refine J_cVi0 E (As := [.int 5]) (c_X6_finds l G b y 5 (by omega)) cl_X6_96 yo_X6_finds dX6_copy_40 rfl rfl rfl (Nat.le_of_ble_eq_true rfl) (Nat.le_of_ble_eq_true rfl) rfl (Nat.le_of_ble_eq_true rfl) ⟨Nat.zero_le _, Nat.zero_le _⟩ ?_
            exact ret _ _ _ _ ⟨rfl, _, rfl, by intro g h2 h5 h6; by_cases h0 : g = 0 <;> simp [tellX, upG, up3, up3R, up2, h0, h2, h5, h6]⟩ rfl dX6_copy_43
      · skip
        have c_11 := bI_0 c_11
        exact absurd (in3 (by decide)) c_11
  · skip
    refine J_iload_n E dX6_copy_0 rfl 1 rfl ?_
    refine J_cSiN E (As := [.int (nI 2)]) (c_X6_isSheet l G (nI 2) ) cl_X6_303 yo_X6_isSheet dX6_copy_1 rfl (Nat.le_of_ble_eq_true rfl) (Nat.le_of_ble_eq_true rfl) rfl (Nat.le_of_ble_eq_true rfl) ⟨Nat.zero_le _, Nat.zero_le _⟩ ?_
    refine J_if_eq E (tgt := 14) dX6_copy_4 (by decide) (fun c_4 => ?_) (fun c_4 => ?_)
    · skip
      have c_4 := bI_0 c_4
      exact absurd (in3 (by decide)) c_4
    · skip
      have c_4 := bI_1 c_4
      refine J_iload_n E dX6_copy_7 rfl 3 rfl ?_
      refine J_cSiN E (As := [.int (nI 1)]) (c_X6_isSheet l G (nI 1) ) cl_X6_303 yo_X6_isSheet dX6_copy_8 rfl (Nat.le_of_ble_eq_true rfl) (Nat.le_of_ble_eq_true rfl) rfl (Nat.le_of_ble_eq_true rfl) ⟨Nat.zero_le _, Nat.zero_le _⟩ ?_
      refine J_if_ne E (tgt := 20) dX6_copy_11 (by decide) (fun c_11 => ?_) (fun c_11 => ?_)
      · skip
        have c_11 := bI_1 c_11
        refine J_aload_n E dX6_copy_20 rfl 0 rfl ?_
        refine gM0_X6_31 E dX6_copy_21 ?_
        refine J_iload_n E dX6_copy_24 rfl 1 rfl ?_
        refine lMb_2 E  dX6_copy_25 ?_
        refine J_if_eq E (tgt := 38) dX6_copy_26 (by decide) (fun c_26 => ?_) (fun c_26 => ?_)
        · skip
          refine J_aload_n E dX6_copy_38 rfl 0 rfl ?_
          refine J_iconst E dX6_copy_39 ic_5 ?_
          refine J_cVi0 E (As := [.int 5]) (c_X6_finds l G b y 5 (by omega)) cl_X6_96 yo_X6_finds dX6_copy_40 rfl rfl rfl (Nat.le_of_ble_eq_true rfl) (Nat.le_of_ble_eq_true rfl) rfl (Nat.le_of_ble_eq_true rfl) ⟨Nat.zero_le _, Nat.zero_le _⟩ ?_
          exact ret _ _ _ _ ⟨rfl, _, rfl, by intro g h2 h5 h6; by_cases h0 : g = 0 <;> simp [tellX, upG, up3, up3R, up2, h0, h2, h5, h6]⟩ rfl dX6_copy_43
        · skip
          refine J_aload_n E dX6_copy_29 rfl 0 rfl ?_
          refine gM0_X6_31 E dX6_copy_30 ?_
          refine J_iload_n E dX6_copy_33 rfl 3 rfl ?_
          refine lMb_1 E  dX6_copy_34 ?_
          refine J_if_ne E (tgt := 44) dX6_copy_35 (by decide) (fun c_35 => ?_) (fun c_35 => ?_)
          · skip
            exact absurd hb (fun z => z.elim c_26 c_35)
          · skip
            refine J_aload_n E dX6_copy_38 rfl 0 rfl ?_
            refine J_iconst E dX6_copy_39 ic_5 ?_
            refine J_cVi0 E (As := [.int 5]) (c_X6_finds l G b y 5 (by omega)) cl_X6_96 yo_X6_finds dX6_copy_40 rfl rfl rfl (Nat.le_of_ble_eq_true rfl) (Nat.le_of_ble_eq_true rfl) rfl (Nat.le_of_ble_eq_true rfl) ⟨Nat.zero_le _, Nat.zero_le _⟩ ?_
            exact ret _ _ _ _ ⟨rfl, _, rfl, by intro g h2 h5 h6; by_cases h0 : g = 0 <;> simp [tellX, upG, up3, up3R, up2, h0, h2, h5, h6]⟩ rfl dX6_copy_43
      · skip
        have c_11 := bI_0 c_11
        exact absurd (in3 (by decide)) c_11
  · skip
    refine J_iload_n E dX6_copy_0 rfl 1 rfl ?_
    refine J_cSiN E (As := [.int (nI 2)]) (c_X6_isSheet l G (nI 2) ) cl_X6_303 yo_X6_isSheet dX6_copy_1 rfl (Nat.le_of_ble_eq_true rfl) (Nat.le_of_ble_eq_true rfl) rfl (Nat.le_of_ble_eq_true rfl) ⟨Nat.zero_le _, Nat.zero_le _⟩ ?_
    refine J_if_eq E (tgt := 14) dX6_copy_4 (by decide) (fun c_4 => ?_) (fun c_4 => ?_)
    · skip
      have c_4 := bI_0 c_4
      exact absurd (in3 (by decide)) c_4
    · skip
      have c_4 := bI_1 c_4
      refine J_iload_n E dX6_copy_7 rfl 3 rfl ?_
      refine J_cSiN E (As := [.int (nI 2)]) (c_X6_isSheet l G (nI 2) ) cl_X6_303 yo_X6_isSheet dX6_copy_8 rfl (Nat.le_of_ble_eq_true rfl) (Nat.le_of_ble_eq_true rfl) rfl (Nat.le_of_ble_eq_true rfl) ⟨Nat.zero_le _, Nat.zero_le _⟩ ?_
      refine J_if_ne E (tgt := 20) dX6_copy_11 (by decide) (fun c_11 => ?_) (fun c_11 => ?_)
      · skip
        have c_11 := bI_1 c_11
        refine J_aload_n E dX6_copy_20 rfl 0 rfl ?_
        refine gM0_X6_31 E dX6_copy_21 ?_
        refine J_iload_n E dX6_copy_24 rfl 1 rfl ?_
        refine lMb_2 E  dX6_copy_25 ?_
        refine J_if_eq E (tgt := 38) dX6_copy_26 (by decide) (fun c_26 => ?_) (fun c_26 => ?_)
        · skip
          refine J_aload_n E dX6_copy_38 rfl 0 rfl ?_
          refine J_iconst E dX6_copy_39 ic_5 ?_
          refine J_cVi0 E (As := [.int 5]) (c_X6_finds l G b y 5 (by omega)) cl_X6_96 yo_X6_finds dX6_copy_40 rfl rfl rfl (Nat.le_of_ble_eq_true rfl) (Nat.le_of_ble_eq_true rfl) rfl (Nat.le_of_ble_eq_true rfl) ⟨Nat.zero_le _, Nat.zero_le _⟩ ?_
          exact ret _ _ _ _ ⟨rfl, _, rfl, by intro g h2 h5 h6; by_cases h0 : g = 0 <;> simp [tellX, upG, up3, up3R, up2, h0, h2, h5, h6]⟩ rfl dX6_copy_43
        · skip
          refine J_aload_n E dX6_copy_29 rfl 0 rfl ?_
          refine gM0_X6_31 E dX6_copy_30 ?_
          refine J_iload_n E dX6_copy_33 rfl 3 rfl ?_
          refine lMb_2 E  dX6_copy_34 ?_
          refine J_if_ne E (tgt := 44) dX6_copy_35 (by decide) (fun c_35 => ?_) (fun c_35 => ?_)
          · skip
            exact absurd hb (fun z => z.elim c_26 c_35)
          · skip
            refine J_aload_n E dX6_copy_38 rfl 0 rfl ?_
            refine J_iconst E dX6_copy_39 ic_5 ?_
            refine J_cVi0 E (As := [.int 5]) (c_X6_finds l G b y 5 (by omega)) cl_X6_96 yo_X6_finds dX6_copy_40 rfl rfl rfl (Nat.le_of_ble_eq_true rfl) (Nat.le_of_ble_eq_true rfl) rfl (Nat.le_of_ble_eq_true rfl) ⟨Nat.zero_le _, Nat.zero_le _⟩ ?_
            exact ret _ _ _ _ ⟨rfl, _, rfl, by intro g h2 h5 h6; by_cases h0 : g = 0 <;> simp [tellX, upG, up3, up3R, up2, h0, h2, h5, h6]⟩ rfl dX6_copy_43
      · skip
        have c_11 := bI_0 c_11
        exact absurd (in3 (by decide)) c_11
  · skip
    refine J_iload_n E dX6_copy_0 rfl 1 rfl ?_
    refine J_cSiN E (As := [.int (nI 2)]) (c_X6_isSheet l G (nI 2) ) cl_X6_303 yo_X6_isSheet dX6_copy_1 rfl (Nat.le_of_ble_eq_true rfl) (Nat.le_of_ble_eq_true rfl) rfl (Nat.le_of_ble_eq_true rfl) ⟨Nat.zero_le _, Nat.zero_le _⟩ ?_
    refine J_if_eq E (tgt := 14) dX6_copy_4 (by decide) (fun c_4 => ?_) (fun c_4 => ?_)
    · skip
      have c_4 := bI_0 c_4
      exact absurd (in3 (by decide)) c_4
    · skip
      have c_4 := bI_1 c_4
      refine J_iload_n E dX6_copy_7 rfl 3 rfl ?_
      refine J_cSiN E (As := [.int (nI 3)]) (c_X6_isSheet l G (nI 3) ) cl_X6_303 yo_X6_isSheet dX6_copy_8 rfl (Nat.le_of_ble_eq_true rfl) (Nat.le_of_ble_eq_true rfl) rfl (Nat.le_of_ble_eq_true rfl) ⟨Nat.zero_le _, Nat.zero_le _⟩ ?_
      refine J_if_ne E (tgt := 20) dX6_copy_11 (by decide) (fun c_11 => ?_) (fun c_11 => ?_)
      · skip
        have c_11 := bI_1 c_11
        refine J_aload_n E dX6_copy_20 rfl 0 rfl ?_
        refine gM0_X6_31 E dX6_copy_21 ?_
        refine J_iload_n E dX6_copy_24 rfl 1 rfl ?_
        refine lMb_2 E  dX6_copy_25 ?_
        refine J_if_eq E (tgt := 38) dX6_copy_26 (by decide) (fun c_26 => ?_) (fun c_26 => ?_)
        · skip
          refine J_aload_n E dX6_copy_38 rfl 0 rfl ?_
          refine J_iconst E dX6_copy_39 ic_5 ?_
          refine J_cVi0 E (As := [.int 5]) (c_X6_finds l G b y 5 (by omega)) cl_X6_96 yo_X6_finds dX6_copy_40 rfl rfl rfl (Nat.le_of_ble_eq_true rfl) (Nat.le_of_ble_eq_true rfl) rfl (Nat.le_of_ble_eq_true rfl) ⟨Nat.zero_le _, Nat.zero_le _⟩ ?_
          exact ret _ _ _ _ ⟨rfl, _, rfl, by intro g h2 h5 h6; by_cases h0 : g = 0 <;> simp [tellX, upG, up3, up3R, up2, h0, h2, h5, h6]⟩ rfl dX6_copy_43
        · skip
          refine J_aload_n E dX6_copy_29 rfl 0 rfl ?_
          refine gM0_X6_31 E dX6_copy_30 ?_
          refine J_iload_n E dX6_copy_33 rfl 3 rfl ?_
          refine lMb_3 E  dX6_copy_34 ?_
          refine J_if_ne E (tgt := 44) dX6_copy_35 (by decide) (fun c_35 => ?_) (fun c_35 => ?_)
          · skip
            exact absurd hb (fun z => z.elim c_26 c_35)
          · skip
            refine J_aload_n E dX6_copy_38 rfl 0 rfl ?_
            refine J_iconst E dX6_copy_39 ic_5 ?_
            refine J_cVi0 E (As := [.int 5]) (c_X6_finds l G b y 5 (by omega)) cl_X6_96 yo_X6_finds dX6_copy_40 rfl rfl rfl (Nat.le_of_ble_eq_true rfl) (Nat.le_of_ble_eq_true rfl) rfl (Nat.le_of_ble_eq_true rfl) ⟨Nat.zero_le _, Nat.zero_le _⟩ ?_
            exact ret _ _ _ _ ⟨rfl, _, rfl, by intro g h2 h5 h6; by_cases h0 : g = 0 <;> simp [tellX, upG, up3, up3R, up2, h0, h2, h5, h6]⟩ rfl dX6_copy_43
      · skip
        have c_11 := bI_0 c_11
        exact absurd (in3 (by decide)) c_11
  · skip
    refine J_iload_n E dX6_copy_0 rfl 1 rfl ?_
    refine J_cSiN E (As := [.int (nI 3)]) (c_X6_isSheet l G (nI 3) ) cl_X6_303 yo_X6_isSheet dX6_copy_1 rfl (Nat.le_of_ble_eq_true rfl) (Nat.le_of_ble_eq_true rfl) rfl (Nat.le_of_ble_eq_true rfl) ⟨Nat.zero_le _, Nat.zero_le _⟩ ?_
    refine J_if_eq E (tgt := 14) dX6_copy_4 (by decide) (fun c_4 => ?_) (fun c_4 => ?_)
    · skip
      have c_4 := bI_0 c_4
      exact absurd (in3 (by decide)) c_4
    · skip
      have c_4 := bI_1 c_4
      refine J_iload_n E dX6_copy_7 rfl 3 rfl ?_
      refine J_cSiN E (As := [.int (nI 0)]) (c_X6_isSheet l G (nI 0) ) cl_X6_303 yo_X6_isSheet dX6_copy_8 rfl (Nat.le_of_ble_eq_true rfl) (Nat.le_of_ble_eq_true rfl) rfl (Nat.le_of_ble_eq_true rfl) ⟨Nat.zero_le _, Nat.zero_le _⟩ ?_
      refine J_if_ne E (tgt := 20) dX6_copy_11 (by decide) (fun c_11 => ?_) (fun c_11 => ?_)
      · skip
        have c_11 := bI_1 c_11
        refine J_aload_n E dX6_copy_20 rfl 0 rfl ?_
        refine gM0_X6_31 E dX6_copy_21 ?_
        refine J_iload_n E dX6_copy_24 rfl 1 rfl ?_
        refine lMb_3 E  dX6_copy_25 ?_
        refine J_if_eq E (tgt := 38) dX6_copy_26 (by decide) (fun c_26 => ?_) (fun c_26 => ?_)
        · skip
          refine J_aload_n E dX6_copy_38 rfl 0 rfl ?_
          refine J_iconst E dX6_copy_39 ic_5 ?_
          refine J_cVi0 E (As := [.int 5]) (c_X6_finds l G b y 5 (by omega)) cl_X6_96 yo_X6_finds dX6_copy_40 rfl rfl rfl (Nat.le_of_ble_eq_true rfl) (Nat.le_of_ble_eq_true rfl) rfl (Nat.le_of_ble_eq_true rfl) ⟨Nat.zero_le _, Nat.zero_le _⟩ ?_
          exact ret _ _ _ _ ⟨rfl, _, rfl, by intro g h2 h5 h6; by_cases h0 : g = 0 <;> simp [tellX, upG, up3, up3R, up2, h0, h2, h5, h6]⟩ rfl dX6_copy_43
        · skip
          refine J_aload_n E dX6_copy_29 rfl 0 rfl ?_
          refine gM0_X6_31 E dX6_copy_30 ?_
          refine J_iload_n E dX6_copy_33 rfl 3 rfl ?_
          refine lMb_0 E  dX6_copy_34 ?_
          refine J_if_ne E (tgt := 44) dX6_copy_35 (by decide) (fun c_35 => ?_) (fun c_35 => ?_)
          · skip
            exact absurd hb (fun z => z.elim c_26 c_35)
          · skip
            refine J_aload_n E dX6_copy_38 rfl 0 rfl ?_
            refine J_iconst E dX6_copy_39 ic_5 ?_
            refine J_cVi0 E (As := [.int 5]) (c_X6_finds l G b y 5 (by omega)) cl_X6_96 yo_X6_finds dX6_copy_40 rfl rfl rfl (Nat.le_of_ble_eq_true rfl) (Nat.le_of_ble_eq_true rfl) rfl (Nat.le_of_ble_eq_true rfl) ⟨Nat.zero_le _, Nat.zero_le _⟩ ?_
            exact ret _ _ _ _ ⟨rfl, _, rfl, by intro g h2 h5 h6; by_cases h0 : g = 0 <;> simp [tellX, upG, up3, up3R, up2, h0, h2, h5, h6]⟩ rfl dX6_copy_43
      · skip
        have c_11 := bI_0 c_11
        exact absurd (in3 (by decide)) c_11
  · skip
    refine J_iload_n E dX6_copy_0 rfl 1 rfl ?_
    refine J_cSiN E (As := [.int (nI 3)]) (c_X6_isSheet l G (nI 3) ) cl_X6_303 yo_X6_isSheet dX6_copy_1 rfl (Nat.le_of_ble_eq_true rfl) (Nat.le_of_ble_eq_true rfl) rfl (Nat.le_of_ble_eq_true rfl) ⟨Nat.zero_le _, Nat.zero_le _⟩ ?_
    refine J_if_eq E (tgt := 14) dX6_copy_4 (by decide) (fun c_4 => ?_) (fun c_4 => ?_)
    · skip
      have c_4 := bI_0 c_4
      exact absurd (in3 (by decide)) c_4
    · skip
      have c_4 := bI_1 c_4
      refine J_iload_n E dX6_copy_7 rfl 3 rfl ?_
      refine J_cSiN E (As := [.int (nI 1)]) (c_X6_isSheet l G (nI 1) ) cl_X6_303 yo_X6_isSheet dX6_copy_8 rfl (Nat.le_of_ble_eq_true rfl) (Nat.le_of_ble_eq_true rfl) rfl (Nat.le_of_ble_eq_true rfl) ⟨Nat.zero_le _, Nat.zero_le _⟩ ?_
      refine J_if_ne E (tgt := 20) dX6_copy_11 (by decide) (fun c_11 => ?_) (fun c_11 => ?_)
      · skip
        have c_11 := bI_1 c_11
        refine J_aload_n E dX6_copy_20 rfl 0 rfl ?_
        refine gM0_X6_31 E dX6_copy_21 ?_
        refine J_iload_n E dX6_copy_24 rfl 1 rfl ?_
        refine lMb_3 E  dX6_copy_25 ?_
        refine J_if_eq E (tgt := 38) dX6_copy_26 (by decide) (fun c_26 => ?_) (fun c_26 => ?_)
        · skip
          refine J_aload_n E dX6_copy_38 rfl 0 rfl ?_
          refine J_iconst E dX6_copy_39 ic_5 ?_
          refine J_cVi0 E (As := [.int 5]) (c_X6_finds l G b y 5 (by omega)) cl_X6_96 yo_X6_finds dX6_copy_40 rfl rfl rfl (Nat.le_of_ble_eq_true rfl) (Nat.le_of_ble_eq_true rfl) rfl (Nat.le_of_ble_eq_true rfl) ⟨Nat.zero_le _, Nat.zero_le _⟩ ?_
          exact ret _ _ _ _ ⟨rfl, _, rfl, by intro g h2 h5 h6; by_cases h0 : g = 0 <;> simp [tellX, upG, up3, up3R, up2, h0, h2, h5, h6]⟩ rfl dX6_copy_43
        · skip
          refine J_aload_n E dX6_copy_29 rfl 0 rfl ?_
          refine gM0_X6_31 E dX6_copy_30 ?_
          refine J_iload_n E dX6_copy_33 rfl 3 rfl ?_
          refine lMb_1 E  dX6_copy_34 ?_
          refine J_if_ne E (tgt := 44) dX6_copy_35 (by decide) (fun c_35 => ?_) (fun c_35 => ?_)
          · skip
            exact absurd hb (fun z => z.elim c_26 c_35)
          · skip
            refine J_aload_n E dX6_copy_38 rfl 0 rfl ?_
            refine J_iconst E dX6_copy_39 ic_5 ?_
            refine J_cVi0 E (As := [.int 5]) (c_X6_finds l G b y 5 (by omega)) cl_X6_96 yo_X6_finds dX6_copy_40 rfl rfl rfl (Nat.le_of_ble_eq_true rfl) (Nat.le_of_ble_eq_true rfl) rfl (Nat.le_of_ble_eq_true rfl) ⟨Nat.zero_le _, Nat.zero_le _⟩ ?_
            exact ret _ _ _ _ ⟨rfl, _, rfl, by intro g h2 h5 h6; by_cases h0 : g = 0 <;> simp [tellX, upG, up3, up3R, up2, h0, h2, h5, h6]⟩ rfl dX6_copy_43
      · skip
        have c_11 := bI_0 c_11
        exact absurd (in3 (by decide)) c_11
  · skip
    refine J_iload_n E dX6_copy_0 rfl 1 rfl ?_
    refine J_cSiN E (As := [.int (nI 3)]) (c_X6_isSheet l G (nI 3) ) cl_X6_303 yo_X6_isSheet dX6_copy_1 rfl (Nat.le_of_ble_eq_true rfl) (Nat.le_of_ble_eq_true rfl) rfl (Nat.le_of_ble_eq_true rfl) ⟨Nat.zero_le _, Nat.zero_le _⟩ ?_
    refine J_if_eq E (tgt := 14) dX6_copy_4 (by decide) (fun c_4 => ?_) (fun c_4 => ?_)
    · skip
      have c_4 := bI_0 c_4
      exact absurd (in3 (by decide)) c_4
    · skip
      have c_4 := bI_1 c_4
      refine J_iload_n E dX6_copy_7 rfl 3 rfl ?_
      refine J_cSiN E (As := [.int (nI 2)]) (c_X6_isSheet l G (nI 2) ) cl_X6_303 yo_X6_isSheet dX6_copy_8 rfl (Nat.le_of_ble_eq_true rfl) (Nat.le_of_ble_eq_true rfl) rfl (Nat.le_of_ble_eq_true rfl) ⟨Nat.zero_le _, Nat.zero_le _⟩ ?_
      refine J_if_ne E (tgt := 20) dX6_copy_11 (by decide) (fun c_11 => ?_) (fun c_11 => ?_)
      · skip
        have c_11 := bI_1 c_11
        refine J_aload_n E dX6_copy_20 rfl 0 rfl ?_
        refine gM0_X6_31 E dX6_copy_21 ?_
        refine J_iload_n E dX6_copy_24 rfl 1 rfl ?_
        refine lMb_3 E  dX6_copy_25 ?_
        refine J_if_eq E (tgt := 38) dX6_copy_26 (by decide) (fun c_26 => ?_) (fun c_26 => ?_)
        · skip
          refine J_aload_n E dX6_copy_38 rfl 0 rfl ?_
          refine J_iconst E dX6_copy_39 ic_5 ?_
          refine J_cVi0 E (As := [.int 5]) (c_X6_finds l G b y 5 (by omega)) cl_X6_96 yo_X6_finds dX6_copy_40 rfl rfl rfl (Nat.le_of_ble_eq_true rfl) (Nat.le_of_ble_eq_true rfl) rfl (Nat.le_of_ble_eq_true rfl) ⟨Nat.zero_le _, Nat.zero_le _⟩ ?_
          exact ret _ _ _ _ ⟨rfl, _, rfl, by intro g h2 h5 h6; by_cases h0 : g = 0 <;> simp [tellX, upG, up3, up3R, up2, h0, h2, h5, h6]⟩ rfl dX6_copy_43
        · skip
          refine J_aload_n E dX6_copy_29 rfl 0 rfl ?_
          refine gM0_X6_31 E dX6_copy_30 ?_
          refine J_iload_n E dX6_copy_33 rfl 3 rfl ?_
          refine lMb_2 E  dX6_copy_34 ?_
          refine J_if_ne E (tgt := 44) dX6_copy_35 (by decide) (fun c_35 => ?_) (fun c_35 => ?_)
          · skip
            exact absurd hb (fun z => z.elim c_26 c_35)
          · skip
            refine J_aload_n E dX6_copy_38 rfl 0 rfl ?_
            refine J_iconst E dX6_copy_39 ic_5 ?_
            refine J_cVi0 E (As := [.int 5]) (c_X6_finds l G b y 5 (by omega)) cl_X6_96 yo_X6_finds dX6_copy_40 rfl rfl rfl (Nat.le_of_ble_eq_true rfl) (Nat.le_of_ble_eq_true rfl) rfl (Nat.le_of_ble_eq_true rfl) ⟨Nat.zero_le _, Nat.zero_le _⟩ ?_
            exact ret _ _ _ _ ⟨rfl, _, rfl, by intro g h2 h5 h6; by_cases h0 : g = 0 <;> simp [tellX, upG, up3, up3R, up2, h0, h2, h5, h6]⟩ rfl dX6_copy_43
      · skip
        have c_11 := bI_0 c_11
        exact absurd (in3 (by decide)) c_11
  · skip
    refine J_iload_n E dX6_copy_0 rfl 1 rfl ?_
    refine J_cSiN E (As := [.int (nI 3)]) (c_X6_isSheet l G (nI 3) ) cl_X6_303 yo_X6_isSheet dX6_copy_1 rfl (Nat.le_of_ble_eq_true rfl) (Nat.le_of_ble_eq_true rfl) rfl (Nat.le_of_ble_eq_true rfl) ⟨Nat.zero_le _, Nat.zero_le _⟩ ?_
    refine J_if_eq E (tgt := 14) dX6_copy_4 (by decide) (fun c_4 => ?_) (fun c_4 => ?_)
    · skip
      have c_4 := bI_0 c_4
      exact absurd (in3 (by decide)) c_4
    · skip
      have c_4 := bI_1 c_4
      refine J_iload_n E dX6_copy_7 rfl 3 rfl ?_
      refine J_cSiN E (As := [.int (nI 3)]) (c_X6_isSheet l G (nI 3) ) cl_X6_303 yo_X6_isSheet dX6_copy_8 rfl (Nat.le_of_ble_eq_true rfl) (Nat.le_of_ble_eq_true rfl) rfl (Nat.le_of_ble_eq_true rfl) ⟨Nat.zero_le _, Nat.zero_le _⟩ ?_
      refine J_if_ne E (tgt := 20) dX6_copy_11 (by decide) (fun c_11 => ?_) (fun c_11 => ?_)
      · skip
        have c_11 := bI_1 c_11
        refine J_aload_n E dX6_copy_20 rfl 0 rfl ?_
        refine gM0_X6_31 E dX6_copy_21 ?_
        refine J_iload_n E dX6_copy_24 rfl 1 rfl ?_
        refine lMb_3 E  dX6_copy_25 ?_
        refine J_if_eq E (tgt := 38) dX6_copy_26 (by decide) (fun c_26 => ?_) (fun c_26 => ?_)
        · skip
          refine J_aload_n E dX6_copy_38 rfl 0 rfl ?_
          refine J_iconst E dX6_copy_39 ic_5 ?_
          refine J_cVi0 E (As := [.int 5]) (c_X6_finds l G b y 5 (by omega)) cl_X6_96 yo_X6_finds dX6_copy_40 rfl rfl rfl (Nat.le_of_ble_eq_true rfl) (Nat.le_of_ble_eq_true rfl) rfl (Nat.le_of_ble_eq_true rfl) ⟨Nat.zero_le _, Nat.zero_le _⟩ ?_
          exact ret _ _ _ _ ⟨rfl, _, rfl, by intro g h2 h5 h6; by_cases h0 : g = 0 <;> simp [tellX, upG, up3, up3R, up2, h0, h2, h5, h6]⟩ rfl dX6_copy_43
        · skip
          refine J_aload_n E dX6_copy_29 rfl 0 rfl ?_
          refine gM0_X6_31 E dX6_copy_30 ?_
          refine J_iload_n E dX6_copy_33 rfl 3 rfl ?_
          refine lMb_3 E  dX6_copy_34 ?_
          refine J_if_ne E (tgt := 44) dX6_copy_35 (by decide) (fun c_35 => ?_) (fun c_35 => ?_)
          · skip
            exact absurd hb (fun z => z.elim c_26 c_35)
          · skip
            refine J_aload_n E dX6_copy_38 rfl 0 rfl ?_
            refine J_iconst E dX6_copy_39 ic_5 ?_
            refine J_cVi0 E (As := [.int 5]) (c_X6_finds l G b y 5 (by omega)) cl_X6_96 yo_X6_finds dX6_copy_40 rfl rfl rfl (Nat.le_of_ble_eq_true rfl) (Nat.le_of_ble_eq_true rfl) rfl (Nat.le_of_ble_eq_true rfl) ⟨Nat.zero_le _, Nat.zero_le _⟩ ?_
            exact ret _ _ _ _ ⟨rfl, _, rfl, by intro g h2 h5 h6; by_cases h0 : g = 0 <;> simp [tellX, upG, up3, up3R, up2, h0, h2, h5, h6]⟩ rfl dX6_copy_43
      · skip
        have c_11 := bI_0 c_11
        exact absurd (in3 (by decide)) c_11
