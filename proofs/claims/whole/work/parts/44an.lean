set_option maxHeartbeats 4000000 in
set_option maxRecDepth 20000 in
theorem c_X6_sheet_bad (l : Launch) (G : GB) (b : Nat → Nat) (y : Q3) (s c n : Int32) (hb : ¬ ((0 ≤ s ∧ s ≤ 3) ∧ (c = 0 ∨ c = 8 ∨ c = 16 ∨ c = 32))) : CI l yX6_sheet cX6_sheet 6 .int 2 45 G [.ref (b 0), .int s, .int c, .int n] (wM G b y) (fun vR w' => vR = tellR 0 ∧ PubM G b (tellX y 0) w') := by
  refine CI.mk (own := RX6) (by decide) rfl (Nat.le_of_ble_eq_true rfl) ?_
  intro X E ret
  show J X G 6 0 0 (wM G b y) [(0, .ref (b 0)), (1, .int s), (2, .int c), (3, .int n)] 0 []
  refine J_iload_n E dX6_sheet_0 rfl 2 rfl ?_
  refine J_if_eq E (tgt := 22) dX6_sheet_1 (by decide) (fun c_1 => ?_) (fun c_1 => ?_)
  · skip
    have hw : (c = 0 ∨ c = 8 ∨ c = 16 ∨ c = 32) := Or.inl c_1
    refine J_iconst E dX6_sheet_22 ic_1 ?_
    refine J_goto E (tgt := 27) dX6_sheet_23 (by decide) ?_
    refine J_istore E (lv' := [(4, .int 1), (0, .ref (b 0)), (1, .int s), (2, .int c), (3, .int n)]) dX6_sheet_27 (by decide) rfl ?_
    refine J_iload_n E dX6_sheet_29 rfl 2 rfl ?_
    refine J_cSiN E (As := [.int s]) (c_X6_isSheet l G s ) cl_X6_303 yo_X6_isSheet dX6_sheet_30 rfl (Nat.le_of_ble_eq_true rfl) (Nat.le_of_ble_eq_true rfl) rfl (Nat.le_of_ble_eq_true rfl) ⟨Nat.zero_le _, Nat.zero_le _⟩ ?_
    refine J_if_eq E (tgt := 41) dX6_sheet_33 (by decide) (fun c_33 => ?_) (fun c_33 => ?_)
    · skip
      have c_33 := bI_0 c_33
      refine J_aload_n E dX6_sheet_41 rfl 1 rfl ?_
      refine J_iconst E dX6_sheet_42 ic_0 ?_
      refine J_cVi0 E (As := [.int 0]) (c_X6_finds l G b y 0 (by omega)) cl_X6_96 yo_X6_finds dX6_sheet_43 rfl rfl rfl (Nat.le_of_ble_eq_true rfl) (Nat.le_of_ble_eq_true rfl) rfl (Nat.le_of_ble_eq_true rfl) ⟨Nat.zero_le _, Nat.zero_le _⟩ ?_
      exact ret _ _ _ _ ⟨rfl, _, rfl, by intro g h2 h5 h6; by_cases h0 : g = 0 <;> simp [tellX, upG, up3, up3R, up2, h0, h2, h5, h6]⟩ rfl dX6_sheet_46
    · skip
      have c_33 := bI_1 c_33
      refine J_iload E dX6_sheet_36 0 rfl ?_
      refine J_if_ne E (tgt := 47) dX6_sheet_38 (by decide) (fun c_38 => ?_) (fun c_38 => ?_)
      · skip
        have n_38 : ¬ 1 = 0 := cmp_ne (a := 1) (b := 0) (by omega) (by omega) c_38
        exact absurd ⟨c_33, hw⟩ hb
      · skip
        have n_38 : 1 = 0 := cmp_eq (a := 1) (b := 0) (by omega) (by omega) c_38
        exact absurd n_38 (by decide)
  · skip
    refine J_iload_n E dX6_sheet_4 rfl 2 rfl ?_
    refine J_bipush E dX6_sheet_5 bp_8 ?_
    refine J_icmp_eq E (tgt := 22) dX6_sheet_7 (by decide) (fun c_7 => ?_) (fun c_7 => ?_)
    · skip
      have hw : (c = 0 ∨ c = 8 ∨ c = 16 ∨ c = 32) := Or.inr (Or.inl c_7)
      refine J_iconst E dX6_sheet_22 ic_1 ?_
      refine J_goto E (tgt := 27) dX6_sheet_23 (by decide) ?_
      refine J_istore E (lv' := [(4, .int 1), (0, .ref (b 0)), (1, .int s), (2, .int c), (3, .int n)]) dX6_sheet_27 (by decide) rfl ?_
      refine J_iload_n E dX6_sheet_29 rfl 2 rfl ?_
      refine J_cSiN E (As := [.int s]) (c_X6_isSheet l G s ) cl_X6_303 yo_X6_isSheet dX6_sheet_30 rfl (Nat.le_of_ble_eq_true rfl) (Nat.le_of_ble_eq_true rfl) rfl (Nat.le_of_ble_eq_true rfl) ⟨Nat.zero_le _, Nat.zero_le _⟩ ?_
      refine J_if_eq E (tgt := 41) dX6_sheet_33 (by decide) (fun c_33 => ?_) (fun c_33 => ?_)
      · skip
        have c_33 := bI_0 c_33
        refine J_aload_n E dX6_sheet_41 rfl 1 rfl ?_
        refine J_iconst E dX6_sheet_42 ic_0 ?_
        refine J_cVi0 E (As := [.int 0]) (c_X6_finds l G b y 0 (by omega)) cl_X6_96 yo_X6_finds dX6_sheet_43 rfl rfl rfl (Nat.le_of_ble_eq_true rfl) (Nat.le_of_ble_eq_true rfl) rfl (Nat.le_of_ble_eq_true rfl) ⟨Nat.zero_le _, Nat.zero_le _⟩ ?_
        exact ret _ _ _ _ ⟨rfl, _, rfl, by intro g h2 h5 h6; by_cases h0 : g = 0 <;> simp [tellX, upG, up3, up3R, up2, h0, h2, h5, h6]⟩ rfl dX6_sheet_46
      · skip
        have c_33 := bI_1 c_33
        refine J_iload E dX6_sheet_36 0 rfl ?_
        refine J_if_ne E (tgt := 47) dX6_sheet_38 (by decide) (fun c_38 => ?_) (fun c_38 => ?_)
        · skip
          have n_38 : ¬ 1 = 0 := cmp_ne (a := 1) (b := 0) (by omega) (by omega) c_38
          exact absurd ⟨c_33, hw⟩ hb
        · skip
          have n_38 : 1 = 0 := cmp_eq (a := 1) (b := 0) (by omega) (by omega) c_38
          exact absurd n_38 (by decide)
    · skip
      refine J_iload_n E dX6_sheet_10 rfl 2 rfl ?_
      refine J_bipush E dX6_sheet_11 bp_16 ?_
      refine J_icmp_eq E (tgt := 22) dX6_sheet_13 (by decide) (fun c_13 => ?_) (fun c_13 => ?_)
      · skip
        have hw : (c = 0 ∨ c = 8 ∨ c = 16 ∨ c = 32) := Or.inr (Or.inr (Or.inl c_13))
        refine J_iconst E dX6_sheet_22 ic_1 ?_
        refine J_goto E (tgt := 27) dX6_sheet_23 (by decide) ?_
        refine J_istore E (lv' := [(4, .int 1), (0, .ref (b 0)), (1, .int s), (2, .int c), (3, .int n)]) dX6_sheet_27 (by decide) rfl ?_
        refine J_iload_n E dX6_sheet_29 rfl 2 rfl ?_
        refine J_cSiN E (As := [.int s]) (c_X6_isSheet l G s ) cl_X6_303 yo_X6_isSheet dX6_sheet_30 rfl (Nat.le_of_ble_eq_true rfl) (Nat.le_of_ble_eq_true rfl) rfl (Nat.le_of_ble_eq_true rfl) ⟨Nat.zero_le _, Nat.zero_le _⟩ ?_
        refine J_if_eq E (tgt := 41) dX6_sheet_33 (by decide) (fun c_33 => ?_) (fun c_33 => ?_)
        · skip
          have c_33 := bI_0 c_33
          refine J_aload_n E dX6_sheet_41 rfl 1 rfl ?_
          refine J_iconst E dX6_sheet_42 ic_0 ?_
          refine J_cVi0 E (As := [.int 0]) (c_X6_finds l G b y 0 (by omega)) cl_X6_96 yo_X6_finds dX6_sheet_43 rfl rfl rfl (Nat.le_of_ble_eq_true rfl) (Nat.le_of_ble_eq_true rfl) rfl (Nat.le_of_ble_eq_true rfl) ⟨Nat.zero_le _, Nat.zero_le _⟩ ?_
          exact ret _ _ _ _ ⟨rfl, _, rfl, by intro g h2 h5 h6; by_cases h0 : g = 0 <;> simp [tellX, upG, up3, up3R, up2, h0, h2, h5, h6]⟩ rfl dX6_sheet_46
        · skip
          have c_33 := bI_1 c_33
          refine J_iload E dX6_sheet_36 0 rfl ?_
          refine J_if_ne E (tgt := 47) dX6_sheet_38 (by decide) (fun c_38 => ?_) (fun c_38 => ?_)
          · skip
            have n_38 : ¬ 1 = 0 := cmp_ne (a := 1) (b := 0) (by omega) (by omega) c_38
            exact absurd ⟨c_33, hw⟩ hb
          · skip
            have n_38 : 1 = 0 := cmp_eq (a := 1) (b := 0) (by omega) (by omega) c_38
            exact absurd n_38 (by decide)
      · skip
        refine J_iload_n E dX6_sheet_16 rfl 2 rfl ?_
        refine J_bipush E dX6_sheet_17 bp_32 ?_
        refine J_icmp_ne E (tgt := 26) dX6_sheet_19 (by decide) (fun c_19 => ?_) (fun c_19 => ?_)
        · skip
          refine J_iconst E dX6_sheet_26 ic_0 ?_
          refine J_istore E (lv' := [(4, .int 0), (0, .ref (b 0)), (1, .int s), (2, .int c), (3, .int n)]) dX6_sheet_27 (by decide) rfl ?_
          refine J_iload_n E dX6_sheet_29 rfl 2 rfl ?_
          refine J_cSiN E (As := [.int s]) (c_X6_isSheet l G s ) cl_X6_303 yo_X6_isSheet dX6_sheet_30 rfl (Nat.le_of_ble_eq_true rfl) (Nat.le_of_ble_eq_true rfl) rfl (Nat.le_of_ble_eq_true rfl) ⟨Nat.zero_le _, Nat.zero_le _⟩ ?_
          refine J_if_eq E (tgt := 41) dX6_sheet_33 (by decide) (fun c_33 => ?_) (fun c_33 => ?_)
          · skip
            have c_33 := bI_0 c_33
            refine J_aload_n E dX6_sheet_41 rfl 1 rfl ?_
            refine J_iconst E dX6_sheet_42 ic_0 ?_
            refine J_cVi0 E (As := [.int 0]) (c_X6_finds l G b y 0 (by omega)) cl_X6_96 yo_X6_finds dX6_sheet_43 rfl rfl rfl (Nat.le_of_ble_eq_true rfl) (Nat.le_of_ble_eq_true rfl) rfl (Nat.le_of_ble_eq_true rfl) ⟨Nat.zero_le _, Nat.zero_le _⟩ ?_
            exact ret _ _ _ _ ⟨rfl, _, rfl, by intro g h2 h5 h6; by_cases h0 : g = 0 <;> simp [tellX, upG, up3, up3R, up2, h0, h2, h5, h6]⟩ rfl dX6_sheet_46
          · skip
            have c_33 := bI_1 c_33
            refine J_iload E dX6_sheet_36 0 rfl ?_
            refine J_if_ne E (tgt := 47) dX6_sheet_38 (by decide) (fun c_38 => ?_) (fun c_38 => ?_)
            · skip
              have n_38 : ¬ 0 = 0 := cmp_ne (a := 0) (b := 0) (by omega) (by omega) c_38
              exact absurd n_38 (by decide)
            · skip
              have n_38 : 0 = 0 := cmp_eq (a := 0) (b := 0) (by omega) (by omega) c_38
              refine J_aload_n E dX6_sheet_41 rfl 1 rfl ?_
              refine J_iconst E dX6_sheet_42 ic_0 ?_
              refine J_cVi0 E (As := [.int 0]) (c_X6_finds l G b y 0 (by omega)) cl_X6_96 yo_X6_finds dX6_sheet_43 rfl rfl rfl (Nat.le_of_ble_eq_true rfl) (Nat.le_of_ble_eq_true rfl) rfl (Nat.le_of_ble_eq_true rfl) ⟨Nat.zero_le _, Nat.zero_le _⟩ ?_
              exact ret _ _ _ _ ⟨rfl, _, rfl, by intro g h2 h5 h6; by_cases h0 : g = 0 <;> simp [tellX, upG, up3, up3R, up2, h0, h2, h5, h6]⟩ rfl dX6_sheet_46
        · skip
          have hw : (c = 0 ∨ c = 8 ∨ c = 16 ∨ c = 32) := Or.inr (Or.inr (Or.inr c_19))
          refine J_iconst E dX6_sheet_22 ic_1 ?_
          refine J_goto E (tgt := 27) dX6_sheet_23 (by decide) ?_
          refine J_istore E (lv' := [(4, .int 1), (0, .ref (b 0)), (1, .int s), (2, .int c), (3, .int n)]) dX6_sheet_27 (by decide) rfl ?_
          refine J_iload_n E dX6_sheet_29 rfl 2 rfl ?_
          refine J_cSiN E (As := [.int s]) (c_X6_isSheet l G s ) cl_X6_303 yo_X6_isSheet dX6_sheet_30 rfl (Nat.le_of_ble_eq_true rfl) (Nat.le_of_ble_eq_true rfl) rfl (Nat.le_of_ble_eq_true rfl) ⟨Nat.zero_le _, Nat.zero_le _⟩ ?_
          refine J_if_eq E (tgt := 41) dX6_sheet_33 (by decide) (fun c_33 => ?_) (fun c_33 => ?_)
          · skip
            have c_33 := bI_0 c_33
            refine J_aload_n E dX6_sheet_41 rfl 1 rfl ?_
            refine J_iconst E dX6_sheet_42 ic_0 ?_
            refine J_cVi0 E (As := [.int 0]) (c_X6_finds l G b y 0 (by omega)) cl_X6_96 yo_X6_finds dX6_sheet_43 rfl rfl rfl (Nat.le_of_ble_eq_true rfl) (Nat.le_of_ble_eq_true rfl) rfl (Nat.le_of_ble_eq_true rfl) ⟨Nat.zero_le _, Nat.zero_le _⟩ ?_
            exact ret _ _ _ _ ⟨rfl, _, rfl, by intro g h2 h5 h6; by_cases h0 : g = 0 <;> simp [tellX, upG, up3, up3R, up2, h0, h2, h5, h6]⟩ rfl dX6_sheet_46
          · skip
            have c_33 := bI_1 c_33
            refine J_iload E dX6_sheet_36 0 rfl ?_
            refine J_if_ne E (tgt := 47) dX6_sheet_38 (by decide) (fun c_38 => ?_) (fun c_38 => ?_)
            · skip
              have n_38 : ¬ 1 = 0 := cmp_ne (a := 1) (b := 0) (by omega) (by omega) c_38
              exact absurd ⟨c_33, hw⟩ hb
            · skip
              have n_38 : 1 = 0 := cmp_eq (a := 1) (b := 0) (by omega) (by omega) c_38
              exact absurd n_38 (by decide)

set_option maxHeartbeats 4000000 in
set_option maxRecDepth 20000 in
theorem c_X6_sheet_size (l : Launch) (G : GB) (b : Nat → Nat) (y : Q3) (s c n : Int32) (hs : 0 ≤ s ∧ s ≤ 3) (hbt : (c = 0 ∨ c = 8 ∨ c = 16 ∨ c = 32)) (hn : n < 0) : CI l yX6_sheet cX6_sheet 6 .int 2 45 G [.ref (b 0), .int s, .int c, .int n] (wM G b y) (fun vR w' => vR = tellR 6 ∧ PubM G b (tellX y 6) w') := by
  refine CI.mk (own := RX6) (by decide) rfl (Nat.le_of_ble_eq_true rfl) ?_
  intro X E ret
  show J X G 6 0 0 (wM G b y) [(0, .ref (b 0)), (1, .int s), (2, .int c), (3, .int n)] 0 []
  refine J_iload_n E dX6_sheet_0 rfl 2 rfl ?_
  refine J_if_eq E (tgt := 22) dX6_sheet_1 (by decide) (fun c_1 => ?_) (fun c_1 => ?_)
  · skip
    refine J_iconst E dX6_sheet_22 ic_1 ?_
    refine J_goto E (tgt := 27) dX6_sheet_23 (by decide) ?_
    refine J_istore E (lv' := [(4, .int 1), (0, .ref (b 0)), (1, .int s), (2, .int c), (3, .int n)]) dX6_sheet_27 (by decide) rfl ?_
    refine J_iload_n E dX6_sheet_29 rfl 2 rfl ?_
    refine J_cSiN E (As := [.int s]) (c_X6_isSheet l G s ) cl_X6_303 yo_X6_isSheet dX6_sheet_30 rfl (Nat.le_of_ble_eq_true rfl) (Nat.le_of_ble_eq_true rfl) rfl (Nat.le_of_ble_eq_true rfl) ⟨Nat.zero_le _, Nat.zero_le _⟩ ?_
    refine J_if_eq E (tgt := 41) dX6_sheet_33 (by decide) (fun c_33 => ?_) (fun c_33 => ?_)
    · skip
      have c_33 := bI_0 c_33
      exact absurd hs c_33
    · skip
      have c_33 := bI_1 c_33
      refine J_iload E dX6_sheet_36 0 rfl ?_
      refine J_if_ne E (tgt := 47) dX6_sheet_38 (by decide) (fun c_38 => ?_) (fun c_38 => ?_)
      · skip
        have n_38 : ¬ 1 = 0 := cmp_ne (a := 1) (b := 0) (by omega) (by omega) c_38
        refine J_iload_n E dX6_sheet_47 rfl 4 rfl ?_
        refine J_if_ge E (tgt := 58) dX6_sheet_48 (by decide) (fun c_48 => ?_) (fun c_48 => ?_)
        · skip
          exact absurd hn (Int32.not_lt.mpr c_48)
        · skip
          refine J_aload_n E dX6_sheet_51 rfl 1 rfl ?_
          refine J_bipush E dX6_sheet_52 bp_6 ?_
          refine J_cVi0 E (As := [.int 6]) (c_X6_finds l G b y 6 (by omega)) cl_X6_96 yo_X6_finds dX6_sheet_54 rfl rfl rfl (Nat.le_of_ble_eq_true rfl) (Nat.le_of_ble_eq_true rfl) rfl (Nat.le_of_ble_eq_true rfl) ⟨Nat.zero_le _, Nat.zero_le _⟩ ?_
          exact ret _ _ _ _ ⟨rfl, _, rfl, by intro g h2 h5 h6; by_cases h0 : g = 0 <;> simp [tellX, upG, up3, up3R, up2, h0, h2, h5, h6]⟩ rfl dX6_sheet_57
      · skip
        have n_38 : 1 = 0 := cmp_eq (a := 1) (b := 0) (by omega) (by omega) c_38
        exact absurd n_38 (by decide)
  · skip
    refine J_iload_n E dX6_sheet_4 rfl 2 rfl ?_
    refine J_bipush E dX6_sheet_5 bp_8 ?_
    refine J_icmp_eq E (tgt := 22) dX6_sheet_7 (by decide) (fun c_7 => ?_) (fun c_7 => ?_)
    · skip
      refine J_iconst E dX6_sheet_22 ic_1 ?_
      refine J_goto E (tgt := 27) dX6_sheet_23 (by decide) ?_
      refine J_istore E (lv' := [(4, .int 1), (0, .ref (b 0)), (1, .int s), (2, .int c), (3, .int n)]) dX6_sheet_27 (by decide) rfl ?_
      refine J_iload_n E dX6_sheet_29 rfl 2 rfl ?_
      refine J_cSiN E (As := [.int s]) (c_X6_isSheet l G s ) cl_X6_303 yo_X6_isSheet dX6_sheet_30 rfl (Nat.le_of_ble_eq_true rfl) (Nat.le_of_ble_eq_true rfl) rfl (Nat.le_of_ble_eq_true rfl) ⟨Nat.zero_le _, Nat.zero_le _⟩ ?_
      refine J_if_eq E (tgt := 41) dX6_sheet_33 (by decide) (fun c_33 => ?_) (fun c_33 => ?_)
      · skip
        have c_33 := bI_0 c_33
        exact absurd hs c_33
      · skip
        have c_33 := bI_1 c_33
        refine J_iload E dX6_sheet_36 0 rfl ?_
        refine J_if_ne E (tgt := 47) dX6_sheet_38 (by decide) (fun c_38 => ?_) (fun c_38 => ?_)
        · skip
          have n_38 : ¬ 1 = 0 := cmp_ne (a := 1) (b := 0) (by omega) (by omega) c_38
          refine J_iload_n E dX6_sheet_47 rfl 4 rfl ?_
          refine J_if_ge E (tgt := 58) dX6_sheet_48 (by decide) (fun c_48 => ?_) (fun c_48 => ?_)
          · skip
            exact absurd hn (Int32.not_lt.mpr c_48)
          · skip
            refine J_aload_n E dX6_sheet_51 rfl 1 rfl ?_
            refine J_bipush E dX6_sheet_52 bp_6 ?_
            refine J_cVi0 E (As := [.int 6]) (c_X6_finds l G b y 6 (by omega)) cl_X6_96 yo_X6_finds dX6_sheet_54 rfl rfl rfl (Nat.le_of_ble_eq_true rfl) (Nat.le_of_ble_eq_true rfl) rfl (Nat.le_of_ble_eq_true rfl) ⟨Nat.zero_le _, Nat.zero_le _⟩ ?_
            exact ret _ _ _ _ ⟨rfl, _, rfl, by intro g h2 h5 h6; by_cases h0 : g = 0 <;> simp [tellX, upG, up3, up3R, up2, h0, h2, h5, h6]⟩ rfl dX6_sheet_57
        · skip
          have n_38 : 1 = 0 := cmp_eq (a := 1) (b := 0) (by omega) (by omega) c_38
          exact absurd n_38 (by decide)
    · skip
      refine J_iload_n E dX6_sheet_10 rfl 2 rfl ?_
      refine J_bipush E dX6_sheet_11 bp_16 ?_
      refine J_icmp_eq E (tgt := 22) dX6_sheet_13 (by decide) (fun c_13 => ?_) (fun c_13 => ?_)
      · skip
        refine J_iconst E dX6_sheet_22 ic_1 ?_
        refine J_goto E (tgt := 27) dX6_sheet_23 (by decide) ?_
        refine J_istore E (lv' := [(4, .int 1), (0, .ref (b 0)), (1, .int s), (2, .int c), (3, .int n)]) dX6_sheet_27 (by decide) rfl ?_
        refine J_iload_n E dX6_sheet_29 rfl 2 rfl ?_
        refine J_cSiN E (As := [.int s]) (c_X6_isSheet l G s ) cl_X6_303 yo_X6_isSheet dX6_sheet_30 rfl (Nat.le_of_ble_eq_true rfl) (Nat.le_of_ble_eq_true rfl) rfl (Nat.le_of_ble_eq_true rfl) ⟨Nat.zero_le _, Nat.zero_le _⟩ ?_
        refine J_if_eq E (tgt := 41) dX6_sheet_33 (by decide) (fun c_33 => ?_) (fun c_33 => ?_)
        · skip
          have c_33 := bI_0 c_33
          exact absurd hs c_33
        · skip
          have c_33 := bI_1 c_33
          refine J_iload E dX6_sheet_36 0 rfl ?_
          refine J_if_ne E (tgt := 47) dX6_sheet_38 (by decide) (fun c_38 => ?_) (fun c_38 => ?_)
          · skip
            have n_38 : ¬ 1 = 0 := cmp_ne (a := 1) (b := 0) (by omega) (by omega) c_38
            refine J_iload_n E dX6_sheet_47 rfl 4 rfl ?_
            refine J_if_ge E (tgt := 58) dX6_sheet_48 (by decide) (fun c_48 => ?_) (fun c_48 => ?_)
            · skip
              exact absurd hn (Int32.not_lt.mpr c_48)
            · skip
              refine J_aload_n E dX6_sheet_51 rfl 1 rfl ?_
              refine J_bipush E dX6_sheet_52 bp_6 ?_
              refine J_cVi0 E (As := [.int 6]) (c_X6_finds l G b y 6 (by omega)) cl_X6_96 yo_X6_finds dX6_sheet_54 rfl rfl rfl (Nat.le_of_ble_eq_true rfl) (Nat.le_of_ble_eq_true rfl) rfl (Nat.le_of_ble_eq_true rfl) ⟨Nat.zero_le _, Nat.zero_le _⟩ ?_
              exact ret _ _ _ _ ⟨rfl, _, rfl, by intro g h2 h5 h6; by_cases h0 : g = 0 <;> simp [tellX, upG, up3, up3R, up2, h0, h2, h5, h6]⟩ rfl dX6_sheet_57
          · skip
            have n_38 : 1 = 0 := cmp_eq (a := 1) (b := 0) (by omega) (by omega) c_38
            exact absurd n_38 (by decide)
      · skip
        refine J_iload_n E dX6_sheet_16 rfl 2 rfl ?_
        refine J_bipush E dX6_sheet_17 bp_32 ?_
        refine J_icmp_ne E (tgt := 26) dX6_sheet_19 (by decide) (fun c_19 => ?_) (fun c_19 => ?_)
        · skip
          exact absurd hbt (fun z => z.elim c_1 (fun z => z.elim c_7 (fun z => z.elim c_13 c_19)))
        · skip
          refine J_iconst E dX6_sheet_22 ic_1 ?_
          refine J_goto E (tgt := 27) dX6_sheet_23 (by decide) ?_
          refine J_istore E (lv' := [(4, .int 1), (0, .ref (b 0)), (1, .int s), (2, .int c), (3, .int n)]) dX6_sheet_27 (by decide) rfl ?_
          refine J_iload_n E dX6_sheet_29 rfl 2 rfl ?_
          refine J_cSiN E (As := [.int s]) (c_X6_isSheet l G s ) cl_X6_303 yo_X6_isSheet dX6_sheet_30 rfl (Nat.le_of_ble_eq_true rfl) (Nat.le_of_ble_eq_true rfl) rfl (Nat.le_of_ble_eq_true rfl) ⟨Nat.zero_le _, Nat.zero_le _⟩ ?_
          refine J_if_eq E (tgt := 41) dX6_sheet_33 (by decide) (fun c_33 => ?_) (fun c_33 => ?_)
          · skip
            have c_33 := bI_0 c_33
            exact absurd hs c_33
          · skip
            have c_33 := bI_1 c_33
            refine J_iload E dX6_sheet_36 0 rfl ?_
            refine J_if_ne E (tgt := 47) dX6_sheet_38 (by decide) (fun c_38 => ?_) (fun c_38 => ?_)
            · skip
              have n_38 : ¬ 1 = 0 := cmp_ne (a := 1) (b := 0) (by omega) (by omega) c_38
              refine J_iload_n E dX6_sheet_47 rfl 4 rfl ?_
              refine J_if_ge E (tgt := 58) dX6_sheet_48 (by decide) (fun c_48 => ?_) (fun c_48 => ?_)
              · skip
                exact absurd hn (Int32.not_lt.mpr c_48)
              · skip
                refine J_aload_n E dX6_sheet_51 rfl 1 rfl ?_
                refine J_bipush E dX6_sheet_52 bp_6 ?_
                refine J_cVi0 E (As := [.int 6]) (c_X6_finds l G b y 6 (by omega)) cl_X6_96 yo_X6_finds dX6_sheet_54 rfl rfl rfl (Nat.le_of_ble_eq_true rfl) (Nat.le_of_ble_eq_true rfl) rfl (Nat.le_of_ble_eq_true rfl) ⟨Nat.zero_le _, Nat.zero_le _⟩ ?_
                exact ret _ _ _ _ ⟨rfl, _, rfl, by intro g h2 h5 h6; by_cases h0 : g = 0 <;> simp [tellX, upG, up3, up3R, up2, h0, h2, h5, h6]⟩ rfl dX6_sheet_57
            · skip
              have n_38 : 1 = 0 := cmp_eq (a := 1) (b := 0) (by omega) (by omega) c_38
              exact absurd n_38 (by decide)
