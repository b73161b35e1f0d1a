set_option maxHeartbeats 4000000 in
set_option maxRecDepth 20000 in
theorem c_X6_count_bad (l : Launch) (G : GB) (b : Nat → Nat) (y : Q3) (k : Int32) (hb : ¬ (0 ≤ k ∧ k ≤ 7)) : CI l yX6_count cX6_count 2 .int 1 21 G [.ref (b 0), .int k] (wM G b y) (fun vR w' => vR = tellR 0 ∧ PubM G b (tellX y 0) w') := by
  refine CI.mk (own := RX6) (by decide) rfl (Nat.le_of_ble_eq_true rfl) ?_
  intro X E ret
  show J X G 2 0 0 (wM G b y) [(0, .ref (b 0)), (1, .int k)] 0 []
  refine J_iload_n E dX6_count_0 rfl 1 rfl ?_
  by_cases c_1 : (k).toInt < 0 ∨ 7 < (k).toInt
  · refine J_tabOut E (tgt := 97) dX6_count_1 c_1 (by decide) ?_
    have n_1_0 : ¬ k = 0 := ne_out c_1 (by decide)
    have n_1_1 : ¬ k = 1 := ne_out c_1 (by decide)
    have n_1_2 : ¬ k = 2 := ne_out c_1 (by decide)
    have n_1_3 : ¬ k = 3 := ne_out c_1 (by decide)
    have n_1_4 : ¬ k = 4 := ne_out c_1 (by decide)
    have n_1_5 : ¬ k = 5 := ne_out c_1 (by decide)
    have n_1_6 : ¬ k = 6 := ne_out c_1 (by decide)
    have n_1_7 : ¬ k = 7 := ne_out c_1 (by decide)
    refine J_aload_n E dX6_count_97 rfl 0 rfl ?_
    refine J_iconst E dX6_count_98 ic_0 ?_
    refine J_cVi0 E (As := [.int 0]) (c_X6_finds l G b y 0 (by omega)) cl_X6_96 yo_X6_finds dX6_count_99 rfl rfl rfl (Nat.le_of_ble_eq_true rfl) (Nat.le_of_ble_eq_true rfl) rfl (Nat.le_of_ble_eq_true rfl) ⟨Nat.zero_le _, Nat.zero_le _⟩ ?_
    exact ret _ _ _ _ ⟨rfl, _, rfl, by intro g h2 h5 h6; by_cases h0 : g = 0 <;> simp [tellX, upG, up3, up3R, up2, h0, h2, h5, h6]⟩ rfl dX6_count_102
  · rcases sw_0_7 c_1 with i_1 | i_1 | i_1 | i_1 | i_1 | i_1 | i_1 | i_1
    · refine J_top i_1 ?_
      refine J_tabIn E (tgt := 48) (off := 47) dX6_count_1 (by decide) (by decide) rfl (by decide) ?_
      exact absurd (by rw [i_1]; decide) hb
    · refine J_top i_1 ?_
      refine J_tabIn E (tgt := 55) (off := 54) dX6_count_1 (by decide) (by decide) rfl (by decide) ?_
      exact absurd (by rw [i_1]; decide) hb
    · refine J_top i_1 ?_
      refine J_tabIn E (tgt := 60) (off := 59) dX6_count_1 (by decide) (by decide) rfl (by decide) ?_
      exact absurd (by rw [i_1]; decide) hb
    · refine J_top i_1 ?_
      refine J_tabIn E (tgt := 68) (off := 67) dX6_count_1 (by decide) (by decide) rfl (by decide) ?_
      exact absurd (by rw [i_1]; decide) hb
    · refine J_top i_1 ?_
      refine J_tabIn E (tgt := 73) (off := 72) dX6_count_1 (by decide) (by decide) rfl (by decide) ?_
      exact absurd (by rw [i_1]; decide) hb
    · refine J_top i_1 ?_
      refine J_tabIn E (tgt := 80) (off := 79) dX6_count_1 (by decide) (by decide) rfl (by decide) ?_
      exact absurd (by rw [i_1]; decide) hb
    · refine J_top i_1 ?_
      refine J_tabIn E (tgt := 85) (off := 84) dX6_count_1 (by decide) (by decide) rfl (by decide) ?_
      exact absurd (by rw [i_1]; decide) hb
    · refine J_top i_1 ?_
      refine J_tabIn E (tgt := 92) (off := 91) dX6_count_1 (by decide) (by decide) rfl (by decide) ?_
      exact absurd (by rw [i_1]; decide) hb

set_option maxHeartbeats 4000000 in
set_option maxRecDepth 20000 in
theorem c_X6_count_ok (l : Launch) (G : GB) (b : Nat → Nat) (y : Q3) (k : Nat) (hk : k < 8) (hs : okS (y 0)) : CI l yX6_count cX6_count 2 .int 2 44 G [.ref (b 0), .int (nI k)] (wM G b y) (fun vR w' => vR = countM y k ∧ PubM G b y w') := by
  refine CI.mk (own := RX6) (by decide) rfl (Nat.le_of_ble_eq_true rfl) ?_
  intro X E ret
  show J X G 2 0 0 (wM G b y) [(0, .ref (b 0)), (1, .int (nI k))] 0 []
  rcases (show k = 0 ∨ k = 1 ∨ k = 2 ∨ k = 3 ∨ k = 4 ∨ k = 5 ∨ k = 6 ∨ k = 7 by omega) with rfl | rfl | rfl | rfl | rfl | rfl | rfl | rfl
  · skip
    refine J_iload_n E dX6_count_0 rfl 1 rfl ?_
    refine J_tabIn E (tgt := 48) (off := 47) dX6_count_1 (by decide) (by decide) rfl (by decide) ?_
    refine J_aload_n E dX6_count_48 rfl 0 rfl ?_
    refine gM0_X6_9 E dX6_count_49 ?_
    refine J_iconst E dX6_count_52 ic_0 ?_
    refine lMs E (j := 0) (r := 7) (i := 0) (at_7 (by decide)) dX6_count_53 ?_
    exact ret _ _ _ _ ⟨by simp [countM], _, rfl, by intro g h2 h5 h6; by_cases h0 : g = 0 <;> simp [tellX, upG, up3, up3R, up2, h0, h2, h5, h6]⟩ rfl dX6_count_54
  · skip
    refine J_iload_n E dX6_count_0 rfl 1 rfl ?_
    refine J_tabIn E (tgt := 55) (off := 54) dX6_count_1 (by decide) (by decide) rfl (by decide) ?_
    refine J_aload_n E dX6_count_55 rfl 0 rfl ?_
    refine J_cVi0 E (As := []) (c_X6_unlikeHouses l G b y ) cl_X6_312 yo_X6_unlikeHouses dX6_count_56 rfl rfl rfl (Nat.le_of_ble_eq_true rfl) (Nat.le_of_ble_eq_true rfl) rfl (Nat.le_of_ble_eq_true rfl) ⟨Nat.zero_le _, Nat.zero_le _⟩ ?_
    exact ret _ _ _ _ ⟨by simp [countM], _, rfl, by intro g h2 h5 h6; by_cases h0 : g = 0 <;> simp [tellX, upG, up3, up3R, up2, h0, h2, h5, h6]⟩ rfl dX6_count_59
  · skip
    refine J_iload_n E dX6_count_0 rfl 1 rfl ?_
    refine J_tabIn E (tgt := 60) (off := 59) dX6_count_1 (by decide) (by decide) rfl (by decide) ?_
    refine J_aload_n E dX6_count_60 rfl 0 rfl ?_
    refine J_cVi0 E (As := []) (c_X6_dryEver l G b y ) cl_X6_150 yo_X6_dryEver dX6_count_61 rfl rfl rfl (Nat.le_of_ble_eq_true rfl) (Nat.le_of_ble_eq_true rfl) rfl (Nat.le_of_ble_eq_true rfl) ⟨Nat.zero_le _, Nat.zero_le _⟩ ?_
    refine J_cSiN E (As := [.int (setF (fun j => decide (0 < (y 0) 5 j)) 11)]) (c_X6_ones l G (setF (fun j => decide (0 < (y 0) 5 j)) 11) ) cl_X6_191 yo_X6_ones dX6_count_64 rfl (Nat.le_of_ble_eq_true rfl) (Nat.le_of_ble_eq_true rfl) rfl (Nat.le_of_ble_eq_true rfl) ⟨Nat.zero_le _, Nat.zero_le _⟩ ?_
    exact ret _ _ _ _ ⟨by simp [countM], _, rfl, by intro g h2 h5 h6; by_cases h0 : g = 0 <;> simp [tellX, upG, up3, up3R, up2, h0, h2, h5, h6]⟩ rfl dX6_count_67
  · skip
    refine J_iload_n E dX6_count_0 rfl 1 rfl ?_
    refine J_tabIn E (tgt := 68) (off := 67) dX6_count_1 (by decide) (by decide) rfl (by decide) ?_
    refine J_aload_n E dX6_count_68 rfl 0 rfl ?_
    refine J_cVi0 E (As := []) (c_X6_waters l G b y ) cl_X6_147 yo_X6_waters dX6_count_69 rfl rfl rfl (Nat.le_of_ble_eq_true rfl) (Nat.le_of_ble_eq_true rfl) rfl (Nat.le_of_ble_eq_true rfl) ⟨Nat.zero_le _, Nat.zero_le _⟩ ?_
    exact ret _ _ _ _ ⟨by simp [countM], _, rfl, by intro g h2 h5 h6; by_cases h0 : g = 0 <;> simp [tellX, upG, up3, up3R, up2, h0, h2, h5, h6]⟩ rfl dX6_count_72
  · skip
    refine J_iload_n E dX6_count_0 rfl 1 rfl ?_
    refine J_tabIn E (tgt := 73) (off := 72) dX6_count_1 (by decide) (by decide) rfl (by decide) ?_
    refine J_aload_n E dX6_count_73 rfl 0 rfl ?_
    refine gM0_X6_9 E dX6_count_74 ?_
    refine J_iconst E dX6_count_77 ic_3 ?_
    refine lMs E (j := 3) (r := 7) (i := 3) (at_7 (by decide)) dX6_count_78 ?_
    exact ret _ _ _ _ ⟨by simp [countM], _, rfl, by intro g h2 h5 h6; by_cases h0 : g = 0 <;> simp [tellX, upG, up3, up3R, up2, h0, h2, h5, h6]⟩ rfl dX6_count_79
  · skip
    refine J_iload_n E dX6_count_0 rfl 1 rfl ?_
    refine J_tabIn E (tgt := 80) (off := 79) dX6_count_1 (by decide) (by decide) rfl (by decide) ?_
    refine J_aload_n E dX6_count_80 rfl 0 rfl ?_
    refine gM0_X6_214 E dX6_count_81 ?_
    exact ret _ _ _ _ ⟨by simp [countM], _, rfl, by intro g h2 h5 h6; by_cases h0 : g = 0 <;> simp [tellX, upG, up3, up3R, up2, h0, h2, h5, h6]⟩ rfl dX6_count_84
  · skip
    refine J_iload_n E dX6_count_0 rfl 1 rfl ?_
    refine J_tabIn E (tgt := 85) (off := 84) dX6_count_1 (by decide) (by decide) rfl (by decide) ?_
    refine J_aload_n E dX6_count_85 rfl 0 rfl ?_
    refine gM0_X6_9 E dX6_count_86 ?_
    refine J_iconst E dX6_count_89 ic_1 ?_
    refine lMs E (j := 1) (r := 7) (i := 1) (at_7 (by decide)) dX6_count_90 ?_
    exact ret _ _ _ _ ⟨by simp [countM], _, rfl, by intro g h2 h5 h6; by_cases h0 : g = 0 <;> simp [tellX, upG, up3, up3R, up2, h0, h2, h5, h6]⟩ rfl dX6_count_91
  · skip
    refine J_iload_n E dX6_count_0 rfl 1 rfl ?_
    refine J_tabIn E (tgt := 92) (off := 91) dX6_count_1 (by decide) (by decide) rfl (by decide) ?_
    refine J_aload_n E dX6_count_92 rfl 0 rfl ?_
    refine J_cVi0 E (As := []) (c_X6_held l G b y hs) cl_X6_315 yo_X6_held dX6_count_93 rfl rfl rfl (Nat.le_of_ble_eq_true rfl) (Nat.le_of_ble_eq_true rfl) rfl (Nat.le_of_ble_eq_true rfl) ⟨Nat.zero_le _, Nat.zero_le _⟩ ?_
    exact ret _ _ _ _ ⟨by simp [countM], _, rfl, by intro g h2 h5 h6; by_cases h0 : g = 0 <;> simp [tellX, upG, up3, up3R, up2, h0, h2, h5, h6]⟩ rfl dX6_count_96
