set_option maxHeartbeats 4000000 in
set_option maxRecDepth 20000 in
theorem c_X6_go_bad (l : Launch) (G : GB) (b : Nat → Nat) (y : Q3) (n : Int32) (hb : ¬ (1 ≤ n ∧ n ≤ 60)) : CI l yX6_go cX6_go 2 .int 1 25 G [.ref (b 0), .int n] (wM G b y) (fun vR w' => vR = tellR 0 ∧ PubM G b (tellX y 0) w') := by
  refine CI.mk (own := RX6) (by decide) rfl (Nat.le_of_ble_eq_true rfl) ?_
  intro X E ret
  show J X G 2 0 0 (wM G b y) [(0, .ref (b 0)), (1, .int n)] 0 []
  refine J_iload_n E dX6_go_0 rfl 1 rfl ?_
  refine J_i2l E dX6_go_1 rfl ?_
  refine J_lconst E dX6_go_2 lc_1 ?_
  refine J_ldc2 E kl_X6_141 dX6_go_3 ?_
  refine J_cSiN E (As := [.long (Int32.toInt64 n), .long 1, .long 60]) (c_X6_in l G n 1 60 1 60 (by decide) (by decide) ) cl_X6_54 yo_X6_in dX6_go_6 rfl (Nat.le_of_ble_eq_true rfl) (Nat.le_of_ble_eq_true rfl) rfl (Nat.le_of_ble_eq_true rfl) ⟨Nat.zero_le _, Nat.zero_le _⟩ ?_
  refine J_if_ne E (tgt := 18) dX6_go_9 (by decide) (fun c_9 => ?_) (fun c_9 => ?_)
  · skip
    have c_9 := bI_1 c_9
    exact absurd c_9 hb
  · skip
    have c_9 := bI_0 c_9
    refine J_aload_n E dX6_go_12 rfl 0 rfl ?_
    refine J_iconst E dX6_go_13 ic_0 ?_
    refine J_cVi0 E (As := [.int 0]) (c_X6_finds l G b y 0 (by omega)) cl_X6_96 yo_X6_finds dX6_go_14 rfl rfl rfl (Nat.le_of_ble_eq_true rfl) (Nat.le_of_ble_eq_true rfl) rfl (Nat.le_of_ble_eq_true rfl) ⟨Nat.zero_le _, Nat.zero_le _⟩ ?_
    exact ret _ _ _ _ ⟨rfl, _, rfl, by intro g h2 h5 h6; by_cases h0 : g = 0 <;> simp [tellX, upG, up3, up3R, up2, h0, h2, h5, h6]⟩ rfl dX6_go_17

set_option maxHeartbeats 4000000 in
set_option maxRecDepth 20000 in
theorem c_X6_go_state (l : Launch) (G : GB) (b : Nat → Nat) (y : Q3) (n : Nat) (h1 : 1 ≤ n) (h2 : n ≤ 60) (hh : ¬ y 0 7 0 + nI n ≤ 99999) : CI l yX6_go cX6_go 2 .int 1 25 G [.ref (b 0), .int (nI n)] (wM G b y) (fun vR w' => vR = tellR 4 ∧ PubM G b (tellX y 4) w') := by
  refine CI.mk (own := RX6) (by decide) rfl (Nat.le_of_ble_eq_true rfl) ?_
  intro X E ret
  show J X G 2 0 0 (wM G b y) [(0, .ref (b 0)), (1, .int (nI n))] 0 []
  refine J_iload_n E dX6_go_0 rfl 1 rfl ?_
  refine J_i2l E dX6_go_1 rfl ?_
  refine J_lconst E dX6_go_2 lc_1 ?_
  refine J_ldc2 E kl_X6_141 dX6_go_3 ?_
  refine J_cSiN E (As := [.long (Int32.toInt64 (nI n)), .long 1, .long 60]) (c_X6_in l G (nI n) 1 60 1 60 (by decide) (by decide) ) cl_X6_54 yo_X6_in dX6_go_6 rfl (Nat.le_of_ble_eq_true rfl) (Nat.le_of_ble_eq_true rfl) rfl (Nat.le_of_ble_eq_true rfl) ⟨Nat.zero_le _, Nat.zero_le _⟩ ?_
  refine J_if_ne E (tgt := 18) dX6_go_9 (by decide) (fun c_9 => ?_) (fun c_9 => ?_)
  · skip
    have c_9 := bI_1 c_9
    refine J_aload_n E dX6_go_18 rfl 0 rfl ?_
    refine gM0_X6_9 E dX6_go_19 ?_
    refine J_iconst E dX6_go_22 ic_0 ?_
    refine lMs E (j := 0) (r := 7) (i := 0) (at_7 (by decide)) dX6_go_23 ?_
    refine J_iload_n E dX6_go_24 rfl 1 rfl ?_
    refine J_iadd E dX6_go_25 ?_
    refine J_ldc E kn_X6_143 dX6_go_26 ?_
    refine J_icmp_le E (tgt := 37) dX6_go_28 (by decide) (fun c_28 => ?_) (fun c_28 => ?_)
    · skip
      exact absurd c_28 hh
    · skip
      refine J_aload_n E dX6_go_31 rfl 0 rfl ?_
      refine J_iconst E dX6_go_32 ic_4 ?_
      refine J_cVi0 E (As := [.int 4]) (c_X6_finds l G b y 4 (by omega)) cl_X6_96 yo_X6_finds dX6_go_33 rfl rfl rfl (Nat.le_of_ble_eq_true rfl) (Nat.le_of_ble_eq_true rfl) rfl (Nat.le_of_ble_eq_true rfl) ⟨Nat.zero_le _, Nat.zero_le _⟩ ?_
      exact ret _ _ _ _ ⟨rfl, _, rfl, by intro g h2 h5 h6; by_cases h0 : g = 0 <;> simp [tellX, upG, up3, up3R, up2, h0, h2, h5, h6]⟩ rfl dX6_go_36
  · skip
    have c_9 := bI_0 c_9
    exact absurd (inB1 (b := 60) h1 h2 (by decide)) c_9

set_option maxHeartbeats 4000000 in
set_option maxRecDepth 20000 in
theorem c_X6_go_ok (l : Launch) (G : GB) (b : Nat → Nat) (y : Q3) (n : Nat) (h1 : 1 ≤ n) (h2 : n ≤ 60) (hh : y 0 7 0 + nI n ≤ 99999) (hok : okQ (y 0))  : CI l yX6_go cX6_go 2 .int 5 113 G [.ref (b 0), .int (nI n)] (wM G b y) (fun vR w' => vR = hoursR (y 0) n 7 3 ∧ PubM G b (upG y 0 (hoursR (y 0) n)) w') := by
  refine CI.mk (own := RX6) (by decide) rfl (Nat.le_of_ble_eq_true rfl) ?_
  intro X E ret
  show J X G 2 0 0 (wM G b y) [(0, .ref (b 0)), (1, .int (nI n))] 0 []
  refine J_iload_n E dX6_go_0 rfl 1 rfl ?_
  refine J_i2l E dX6_go_1 rfl ?_
  refine J_lconst E dX6_go_2 lc_1 ?_
  refine J_ldc2 E kl_X6_141 dX6_go_3 ?_
  refine J_cSiN E (As := [.long (Int32.toInt64 (nI n)), .long 1, .long 60]) (c_X6_in l G (nI n) 1 60 1 60 (by decide) (by decide) ) cl_X6_54 yo_X6_in dX6_go_6 rfl (Nat.le_of_ble_eq_true rfl) (Nat.le_of_ble_eq_true rfl) rfl (Nat.le_of_ble_eq_true rfl) ⟨Nat.zero_le _, Nat.zero_le _⟩ ?_
  refine J_if_ne E (tgt := 18) dX6_go_9 (by decide) (fun c_9 => ?_) (fun c_9 => ?_)
  · skip
    have c_9 := bI_1 c_9
    refine J_aload_n E dX6_go_18 rfl 0 rfl ?_
    refine gM0_X6_9 E dX6_go_19 ?_
    refine J_iconst E dX6_go_22 ic_0 ?_
    refine lMs E (j := 0) (r := 7) (i := 0) (at_7 (by decide)) dX6_go_23 ?_
    refine J_iload_n E dX6_go_24 rfl 1 rfl ?_
    refine J_iadd E dX6_go_25 ?_
    refine J_ldc E kn_X6_143 dX6_go_26 ?_
    refine J_icmp_le E (tgt := 37) dX6_go_28 (by decide) (fun c_28 => ?_) (fun c_28 => ?_)
    · skip
      refine J_aload_n E dX6_go_37 rfl 0 rfl ?_
      refine J_iload_n E dX6_go_38 rfl 1 rfl ?_
      refine J_callEv E (As := [.int (nI n)]) (c_X6_hours l G b y n (by omega) hok) cl_X6_144 yo_X6_hours dX6_go_39 rfl (Nat.le_of_ble_eq_true rfl) (Nat.le_of_ble_eq_true rfl) rfl (Nat.le_of_ble_eq_true rfl) ⟨Nat.zero_le _, Nat.zero_le _⟩ (fun d39_1 => ?_)
      refine J_aload_n E dX6_go_42 rfl 0 rfl ?_
      refine gM0_X6_9 E dX6_go_43 ?_
      refine J_iconst E dX6_go_46 ic_3 ?_
      refine lMs E (j := 3) (r := 7) (i := 3) (at_7 (by decide)) dX6_go_47 ?_
      refine J_top (x' := (hoursR (y 0) n) 7 3) upG_s ?_
      exact ret _ _ _ _ ⟨rfl, _, rfl, by intro g h2 h5 h6; by_cases h0 : g = 0 <;> simp [tellX, upG, up3, up3R, up2, h0, h2, h5, h6]⟩ rfl dX6_go_48
    · skip
      exact absurd hh c_28
  · skip
    have c_9 := bI_0 c_9
    exact absurd (inB1 (b := 60) h1 h2 (by decide)) c_9

set_option maxHeartbeats 4000000 in
set_option maxRecDepth 20000 in
theorem c_X6_mayBe (l : Launch) (G : GB) (k : Nat) (v : Int32) (hk : k < 6) : CI l yX6_mayBe cX6_mayBe 2 .boolean 2 45 G [.int (nI k), .int v] ([]) (fun vR w' => vR = bI (0 ≤ v ∧ v ≤ mostF (nI k)) ∧ w' = []) := by
  refine CI.mk (own := RX6) (by decide) rfl (Nat.le_of_ble_eq_true rfl) ?_
  intro X E ret
  show J X G 2 0 0 ([]) [(0, .int (nI k)), (1, .int v)] 0 []
  rcases (show k = 0 ∨ k = 1 ∨ k = 2 ∨ k = 3 ∨ k = 4 ∨ k = 5 by omega) with rfl | rfl | rfl | rfl | rfl | rfl
  · skip
    refine J_iload_n E dX6_mayBe_0 rfl 0 rfl ?_
    refine J_tabIn E (tgt := 40) (off := 39) dX6_mayBe_1 (by decide) (by decide) rfl (by decide) ?_
    refine J_iload_n E dX6_mayBe_40 rfl 1 rfl ?_
    refine J_cSiN E (As := [.int v]) (c_X6_isKind l G v ) cl_X6_77 yo_X6_isKind dX6_mayBe_41 rfl (Nat.le_of_ble_eq_true rfl) (Nat.le_of_ble_eq_true rfl) rfl (Nat.le_of_ble_eq_true rfl) ⟨Nat.zero_le _, Nat.zero_le _⟩ ?_
    exact ret _ _ _ _ ⟨rfl, rfl⟩ bI_nar dX6_mayBe_44
  · skip
    refine J_iload_n E dX6_mayBe_0 rfl 0 rfl ?_
    refine J_tabIn E (tgt := 45) (off := 44) dX6_mayBe_1 (by decide) (by decide) rfl (by decide) ?_
    refine J_iload_n E dX6_mayBe_45 rfl 1 rfl ?_
    refine J_i2l E dX6_mayBe_46 rfl ?_
    refine J_lconst E dX6_mayBe_47 lc_0 ?_
    refine J_ldc2 E kl_X6_81 dX6_mayBe_48 ?_
    refine J_cSiN E (As := [.long (Int32.toInt64 v), .long 0, .long 9999]) (c_X6_in l G v 0 9999 0 9999 (by decide) (by decide) ) cl_X6_54 yo_X6_in dX6_mayBe_51 rfl (Nat.le_of_ble_eq_true rfl) (Nat.le_of_ble_eq_true rfl) rfl (Nat.le_of_ble_eq_true rfl) ⟨Nat.zero_le _, Nat.zero_le _⟩ ?_
    exact ret _ _ _ _ ⟨rfl, rfl⟩ bI_nar dX6_mayBe_54
  · skip
    refine J_iload_n E dX6_mayBe_0 rfl 0 rfl ?_
    refine J_tabIn E (tgt := 55) (off := 54) dX6_mayBe_1 (by decide) (by decide) rfl (by decide) ?_
    refine J_iload_n E dX6_mayBe_55 rfl 1 rfl ?_
    refine J_i2l E dX6_mayBe_56 rfl ?_
    refine J_lconst E dX6_mayBe_57 lc_0 ?_
    refine J_ldc2 E kl_X6_83 dX6_mayBe_58 ?_
    refine J_cSiN E (As := [.long (Int32.toInt64 v), .long 0, .long 99]) (c_X6_in l G v 0 99 0 99 (by decide) (by decide) ) cl_X6_54 yo_X6_in dX6_mayBe_61 rfl (Nat.le_of_ble_eq_true rfl) (Nat.le_of_ble_eq_true rfl) rfl (Nat.le_of_ble_eq_true rfl) ⟨Nat.zero_le _, Nat.zero_le _⟩ ?_
    exact ret _ _ _ _ ⟨rfl, rfl⟩ bI_nar dX6_mayBe_64
  · skip
    refine J_iload_n E dX6_mayBe_0 rfl 0 rfl ?_
    refine J_tabIn E (tgt := 65) (off := 64) dX6_mayBe_1 (by decide) (by decide) rfl (by decide) ?_
    refine J_iload_n E dX6_mayBe_65 rfl 1 rfl ?_
    refine J_i2l E dX6_mayBe_66 rfl ?_
    refine J_lconst E dX6_mayBe_67 lc_0 ?_
    refine J_ldc2 E kl_X6_85 dX6_mayBe_68 ?_
    refine J_cSiN E (As := [.long (Int32.toInt64 v), .long 0, .long 999]) (c_X6_in l G v 0 999 0 999 (by decide) (by decide) ) cl_X6_54 yo_X6_in dX6_mayBe_71 rfl (Nat.le_of_ble_eq_true rfl) (Nat.le_of_ble_eq_true rfl) rfl (Nat.le_of_ble_eq_true rfl) ⟨Nat.zero_le _, Nat.zero_le _⟩ ?_
    exact ret _ _ _ _ ⟨rfl, rfl⟩ bI_nar dX6_mayBe_74
  · skip
    refine J_iload_n E dX6_mayBe_0 rfl 0 rfl ?_
    refine J_tabIn E (tgt := 75) (off := 74) dX6_mayBe_1 (by decide) (by decide) rfl (by decide) ?_
    refine J_iload_n E dX6_mayBe_75 rfl 0 rfl ?_
    refine J_iconst E dX6_mayBe_76 ic_4 ?_
    refine J_icmp_ne E (tgt := 94) dX6_mayBe_77 (by decide) (fun c_77 => ?_) (fun c_77 => ?_)
    · skip
      have n_77 : ¬ 4 = 4 := cmp_ne (a := 4) (b := 4) (by omega) (by omega) c_77
      exact absurd n_77 (by decide)
    · skip
      have n_77 : 4 = 4 := cmp_eq (a := 4) (b := 4) (by omega) (by omega) c_77
      refine J_iload_n E dX6_mayBe_80 rfl 1 rfl ?_
      refine J_i2l E dX6_mayBe_81 rfl ?_
      refine J_lconst E dX6_mayBe_82 lc_0 ?_
      refine J_lconst E dX6_mayBe_83 lc_1 ?_
      refine J_cSiN E (As := [.long (Int32.toInt64 v), .long 0, .long 1]) (c_X6_in l G v 0 1 0 1 (by decide) (by decide) ) cl_X6_54 yo_X6_in dX6_mayBe_84 rfl (Nat.le_of_ble_eq_true rfl) (Nat.le_of_ble_eq_true rfl) rfl (Nat.le_of_ble_eq_true rfl) ⟨Nat.zero_le _, Nat.zero_le _⟩ ?_
      refine J_if_eq E (tgt := 94) dX6_mayBe_87 (by decide) (fun c_87 => ?_) (fun c_87 => ?_)
      · skip
        have c_87 := bI_0 c_87
        refine J_iconst E dX6_mayBe_94 ic_0 ?_
        exact ret _ _ _ _ ⟨by first | (rw [bI_t]; exact c_87) | (rw [bI_f]; exact c_87), rfl⟩ rfl dX6_mayBe_95
      · skip
        have c_87 := bI_1 c_87
        refine J_iconst E dX6_mayBe_90 ic_1 ?_
        refine J_goto E (tgt := 95) dX6_mayBe_91 (by decide) ?_
        exact ret _ _ _ _ ⟨by first | (rw [bI_t]; exact c_87) | (rw [bI_f]; exact c_87), rfl⟩ rfl dX6_mayBe_95
  · skip
    refine J_iload_n E dX6_mayBe_0 rfl 0 rfl ?_
    refine J_tabIn E (tgt := 45) (off := 44) dX6_mayBe_1 (by decide) (by decide) rfl (by decide) ?_
    refine J_iload_n E dX6_mayBe_45 rfl 1 rfl ?_
    refine J_i2l E dX6_mayBe_46 rfl ?_
    refine J_lconst E dX6_mayBe_47 lc_0 ?_
    refine J_ldc2 E kl_X6_81 dX6_mayBe_48 ?_
    refine J_cSiN E (As := [.long (Int32.toInt64 v), .long 0, .long 9999]) (c_X6_in l G v 0 9999 0 9999 (by decide) (by decide) ) cl_X6_54 yo_X6_in dX6_mayBe_51 rfl (Nat.le_of_ble_eq_true rfl) (Nat.le_of_ble_eq_true rfl) rfl (Nat.le_of_ble_eq_true rfl) ⟨Nat.zero_le _, Nat.zero_le _⟩ ?_
    exact ret _ _ _ _ ⟨rfl, rfl⟩ bI_nar dX6_mayBe_54

set_option maxHeartbeats 4000000 in
set_option maxRecDepth 20000 in
theorem c_X6_mayBe_out (l : Launch) (G : GB) (k v : Int32) (hk : ¬ (0 ≤ k ∧ k ≤ 5)) : CI l yX6_mayBe cX6_mayBe 2 .boolean 0 0 G [.int k, .int v] ([]) (fun vR w' => vR = 0 ∧ w' = []) := by
  refine CI.mk (own := RX6) (by decide) rfl (Nat.le_of_ble_eq_true rfl) ?_
  intro X E ret
  show J X G 2 0 0 ([]) [(0, .int k), (1, .int v)] 0 []
  refine J_iload_n E dX6_mayBe_0 rfl 0 rfl ?_
  by_cases c_1 : (k).toInt < 0 ∨ 5 < (k).toInt
  · refine J_tabOut E (tgt := 75) dX6_mayBe_1 c_1 (by decide) ?_
    have n_1_0 : ¬ k = 0 := ne_out c_1 (by decide)
    have n_1_1 : ¬ k = 1 := ne_out c_1 (by decide)
    have n_1_2 : ¬ k = 2 := ne_out c_1 (by decide)
    have n_1_3 : ¬ k = 3 := ne_out c_1 (by decide)
    have n_1_4 : ¬ k = 4 := ne_out c_1 (by decide)
    have n_1_5 : ¬ k = 5 := ne_out c_1 (by decide)
    refine J_iload_n E dX6_mayBe_75 rfl 0 rfl ?_
    refine J_iconst E dX6_mayBe_76 ic_4 ?_
    refine J_icmp_ne E (tgt := 94) dX6_mayBe_77 (by decide) (fun c_77 => ?_) (fun c_77 => ?_)
    · skip
      refine J_iconst E dX6_mayBe_94 ic_0 ?_
      exact ret _ _ _ _ ⟨rfl, rfl⟩ rfl dX6_mayBe_95
    · skip
      exact absurd (by rw [c_77]; decide) hk
  · rcases sw_0_5 c_1 with i_1 | i_1 | i_1 | i_1 | i_1 | i_1
    · refine J_top i_1 ?_
      refine J_tabIn E (tgt := 40) (off := 39) dX6_mayBe_1 (by decide) (by decide) rfl (by decide) ?_
      exact absurd (by rw [i_1]; decide) hk
    · refine J_top i_1 ?_
      refine J_tabIn E (tgt := 45) (off := 44) dX6_mayBe_1 (by decide) (by decide) rfl (by decide) ?_
      exact absurd (by rw [i_1]; decide) hk
    · refine J_top i_1 ?_
      refine J_tabIn E (tgt := 55) (off := 54) dX6_mayBe_1 (by decide) (by decide) rfl (by decide) ?_
      exact absurd (by rw [i_1]; decide) hk
    · refine J_top i_1 ?_
      refine J_tabIn E (tgt := 65) (off := 64) dX6_mayBe_1 (by decide) (by decide) rfl (by decide) ?_
      exact absurd (by rw [i_1]; decide) hk
    · refine J_top i_1 ?_
      refine J_tabIn E (tgt := 75) (off := 74) dX6_mayBe_1 (by decide) (by decide) rfl (by decide) ?_
      refine J_iload_n E dX6_mayBe_75 rfl 0 rfl ?_
      refine J_iconst E dX6_mayBe_76 ic_4 ?_
      refine J_icmp_ne E (tgt := 94) dX6_mayBe_77 (by decide) (fun c_77 => ?_) (fun c_77 => ?_)
      · skip
        refine J_iconst E dX6_mayBe_94 ic_0 ?_
        exact ret _ _ _ _ ⟨rfl, rfl⟩ rfl dX6_mayBe_95
      · skip
        exact absurd (by rw [c_77]; decide) hk
    · refine J_top i_1 ?_
      refine J_tabIn E (tgt := 45) (off := 44) dX6_mayBe_1 (by decide) (by decide) rfl (by decide) ?_
      exact absurd (by rw [i_1]; decide) hk

set_option maxHeartbeats 4000000 in
set_option maxRecDepth 20000 in
theorem c_X6_change_bad (l : Launch) (G : GB) (b : Nat → Nat) (y : Q3) (h v : Int32) (k : Nat) (hk : k < 6) (hb : ¬ (okH h ∧ 0 ≤ v ∧ v ≤ mostF (nI k))) : CI l yX6_change cX6_change 4 .int 3 66 G [.ref (b 0), .int h, .int (nI k), .int v] (wM G b y) (fun vR w' => vR = tellR 0 ∧ PubM G b (tellX y 0) w') := by
  refine CI.mk (own := RX6) (by decide) rfl (Nat.le_of_ble_eq_true rfl) ?_
  intro X E ret
  show J X G 4 0 0 (wM G b y) [(0, .ref (b 0)), (1, .int h), (2, .int (nI k)), (3, .int v)] 0 []
  refine J_iload_n E dX6_change_0 rfl 1 rfl ?_
  refine J_cSiN E (As := [.int h]) (c_X6_isHouse l G h ) cl_X6_87 yo_X6_isHouse dX6_change_1 rfl (Nat.le_of_ble_eq_true rfl) (Nat.le_of_ble_eq_true rfl) rfl (Nat.le_of_ble_eq_true rfl) ⟨Nat.zero_le _, Nat.zero_le _⟩ ?_
  refine J_if_eq E (tgt := 31) dX6_change_4 (by decide) (fun c_4 => ?_) (fun c_4 => ?_)
  · skip
    have c_4 := bI_0 c_4
    refine J_aload_n E dX6_change_31 rfl 0 rfl ?_
    refine J_iconst E dX6_change_32 ic_0 ?_
    refine J_cVi0 E (As := [.int 0]) (c_X6_finds l G b y 0 (by omega)) cl_X6_96 yo_X6_finds dX6_change_33 rfl rfl rfl (Nat.le_of_ble_eq_true rfl) (Nat.le_of_ble_eq_true rfl) rfl (Nat.le_of_ble_eq_true rfl) ⟨Nat.zero_le _, Nat.zero_le _⟩ ?_
    exact ret _ _ _ _ ⟨rfl, _, rfl, by intro g h2 h5 h6; by_cases h0 : g = 0 <;> simp [tellX, upG, up3, up3R, up2, h0, h2, h5, h6]⟩ rfl dX6_change_36
  · skip
    have c_4 := bI_1 c_4
    refine J_iload_n E dX6_change_7 rfl 2 rfl ?_
    refine J_iload_n E dX6_change_8 rfl 3 rfl ?_
    refine J_cSiN E (As := [.int (nI k), .int v]) (c_X6_mayBe l G k v (by omega)) cl_X6_90 yo_X6_mayBe dX6_change_9 rfl (Nat.le_of_ble_eq_true rfl) (Nat.le_of_ble_eq_true rfl) rfl (Nat.le_of_ble_eq_true rfl) ⟨Nat.zero_le _, Nat.zero_le _⟩ ?_
    refine J_if_eq E (tgt := 31) dX6_change_12 (by decide) (fun c_12 => ?_) (fun c_12 => ?_)
    · skip
      have c_12 := bI_0 c_12
      refine J_aload_n E dX6_change_31 rfl 0 rfl ?_
      refine J_iconst E dX6_change_32 ic_0 ?_
      refine J_cVi0 E (As := [.int 0]) (c_X6_finds l G b y 0 (by omega)) cl_X6_96 yo_X6_finds dX6_change_33 rfl rfl rfl (Nat.le_of_ble_eq_true rfl) (Nat.le_of_ble_eq_true rfl) rfl (Nat.le_of_ble_eq_true rfl) ⟨Nat.zero_le _, Nat.zero_le _⟩ ?_
      exact ret _ _ _ _ ⟨rfl, _, rfl, by intro g h2 h5 h6; by_cases h0 : g = 0 <;> simp [tellX, upG, up3, up3R, up2, h0, h2, h5, h6]⟩ rfl dX6_change_36
    · skip
      have c_12 := bI_1 c_12
      exact absurd ⟨c_4, c_12⟩ hb

set_option maxHeartbeats 4000000 in
set_option maxRecDepth 20000 in
theorem c_X6_change_out (l : Launch) (G : GB) (b : Nat → Nat) (y : Q3) (h w v : Int32) (hk : ¬ (0 ≤ w ∧ w ≤ 5)) : CI l yX6_change cX6_change 4 .int 3 66 G [.ref (b 0), .int h, .int w, .int v] (wM G b y) (fun vR w' => vR = tellR 0 ∧ PubM G b (tellX y 0) w') := by
  refine CI.mk (own := RX6) (by decide) rfl (Nat.le_of_ble_eq_true rfl) ?_
  intro X E ret
  show J X G 4 0 0 (wM G b y) [(0, .ref (b 0)), (1, .int h), (2, .int w), (3, .int v)] 0 []
  refine J_iload_n E dX6_change_0 rfl 1 rfl ?_
  refine J_cSiN E (As := [.int h]) (c_X6_isHouse l G h ) cl_X6_87 yo_X6_isHouse dX6_change_1 rfl (Nat.le_of_ble_eq_true rfl) (Nat.le_of_ble_eq_true rfl) rfl (Nat.le_of_ble_eq_true rfl) ⟨Nat.zero_le _, Nat.zero_le _⟩ ?_
  refine J_if_eq E (tgt := 31) dX6_change_4 (by decide) (fun c_4 => ?_) (fun c_4 => ?_)
  · skip
    have c_4 := bI_0 c_4
    refine J_aload_n E dX6_change_31 rfl 0 rfl ?_
    refine J_iconst E dX6_change_32 ic_0 ?_
    refine J_cVi0 E (As := [.int 0]) (c_X6_finds l G b y 0 (by omega)) cl_X6_96 yo_X6_finds dX6_change_33 rfl rfl rfl (Nat.le_of_ble_eq_true rfl) (Nat.le_of_ble_eq_true rfl) rfl (Nat.le_of_ble_eq_true rfl) ⟨Nat.zero_le _, Nat.zero_le _⟩ ?_
    exact ret _ _ _ _ ⟨rfl, _, rfl, by intro g h2 h5 h6; by_cases h0 : g = 0 <;> simp [tellX, upG, up3, up3R, up2, h0, h2, h5, h6]⟩ rfl dX6_change_36
  · skip
    have c_4 := bI_1 c_4
    refine J_iload_n E dX6_change_7 rfl 2 rfl ?_
    refine J_iload_n E dX6_change_8 rfl 3 rfl ?_
    refine J_cSiN E (As := [.int w, .int v]) (c_X6_mayBe_out l G w v hk) cl_X6_90 yo_X6_mayBe dX6_change_9 rfl (Nat.le_of_ble_eq_true rfl) (Nat.le_of_ble_eq_true rfl) rfl (Nat.le_of_ble_eq_true rfl) ⟨Nat.zero_le _, Nat.zero_le _⟩ ?_
    refine J_if_eq E (tgt := 31) dX6_change_12 (by decide) (fun c_12 => ?_) (fun c_12 => ?_)
    · skip
      have n_12 : 0 = 0 := cmp_eq (a := 0) (b := 0) (by omega) (by omega) c_12
      refine J_aload_n E dX6_change_31 rfl 0 rfl ?_
      refine J_iconst E dX6_change_32 ic_0 ?_
      refine J_cVi0 E (As := [.int 0]) (c_X6_finds l G b y 0 (by omega)) cl_X6_96 yo_X6_finds dX6_change_33 rfl rfl rfl (Nat.le_of_ble_eq_true rfl) (Nat.le_of_ble_eq_true rfl) rfl (Nat.le_of_ble_eq_true rfl) ⟨Nat.zero_le _, Nat.zero_le _⟩ ?_
      exact ret _ _ _ _ ⟨rfl, _, rfl, by intro g h2 h5 h6; by_cases h0 : g = 0 <;> simp [tellX, upG, up3, up3R, up2, h0, h2, h5, h6]⟩ rfl dX6_change_36
    · skip
      have n_12 : ¬ 0 = 0 := cmp_ne (a := 0) (b := 0) (by omega) (by omega) c_12
      exact absurd n_12 (by decide)

set_option maxHeartbeats 4000000 in
set_option maxRecDepth 20000 in
theorem c_X6_change_ok (l : Launch) (G : GB) (b : Nat → Nat) (y : Q3) (j k : Nat) (v : Int32) (hj : j < 11) (hk : k < 6) (hv : 0 ≤ v ∧ v ≤ mostF (nI k)) : CI l yX6_change cX6_change 4 .int 3 66 G [.ref (b 0), .int (nI j), .int (nI k), .int v] (wM G b y) (fun vR w' => vR = y 0 k j ∧ PubM G b (up3 y 0 k j v) w') := by
  refine CI.mk (own := RX6) (by decide) rfl (Nat.le_of_ble_eq_true rfl) ?_
  intro X E ret
  show J X G 4 0 0 (wM G b y) [(0, .ref (b 0)), (1, .int (nI j)), (2, .int (nI k)), (3, .int v)] 0 []
  refine J_iload_n E dX6_change_0 rfl 1 rfl ?_
  refine J_cSiN E (As := [.int (nI j)]) (c_X6_isHouse l G (nI j) ) cl_X6_87 yo_X6_isHouse dX6_change_1 rfl (Nat.le_of_ble_eq_true rfl) (Nat.le_of_ble_eq_true rfl) rfl (Nat.le_of_ble_eq_true rfl) ⟨Nat.zero_le _, Nat.zero_le _⟩ ?_
  refine J_if_eq E (tgt := 31) dX6_change_4 (by decide) (fun c_4 => ?_) (fun c_4 => ?_)
  · skip
    have c_4 := bI_0 c_4
    exact absurd (inB (a := j) (b := 10) (by omega) (by decide)) c_4
  · skip
    have c_4 := bI_1 c_4
    refine J_iload_n E dX6_change_7 rfl 2 rfl ?_
    refine J_iload_n E dX6_change_8 rfl 3 rfl ?_
    refine J_cSiN E (As := [.int (nI k), .int v]) (c_X6_mayBe l G k v (by omega)) cl_X6_90 yo_X6_mayBe dX6_change_9 rfl (Nat.le_of_ble_eq_true rfl) (Nat.le_of_ble_eq_true rfl) rfl (Nat.le_of_ble_eq_true rfl) ⟨Nat.zero_le _, Nat.zero_le _⟩ ?_
    refine J_if_eq E (tgt := 31) dX6_change_12 (by decide) (fun c_12 => ?_) (fun c_12 => ?_)
    · skip
      have c_12 := bI_0 c_12
      exact absurd hv c_12
    · skip
      have c_12 := bI_1 c_12
      refine J_aload_n E dX6_change_15 rfl 0 rfl ?_
      refine J_iconst E dX6_change_16 ic_5 ?_
      refine J_bipush E dX6_change_17 bp_6 ?_
      refine J_iload_n E dX6_change_19 rfl 1 rfl ?_
      refine J_imul E dX6_change_20 ?_
      refine J_top (x' := nI (6 * j)) (pk_mul 6 j) ?_
      refine J_iadd E dX6_change_21 ?_
      refine J_top (x' := nI (5 + 6 * j)) (nI_add 5 _) ?_
      refine J_iload_n E dX6_change_22 rfl 2 rfl ?_
      refine J_iadd E dX6_change_23 ?_
      refine J_top (x' := nI (5 + 6 * j + k)) (nI_add _ _) ?_
      refine J_iload_n E dX6_change_24 rfl 3 rfl ?_
      refine J_cVi0 E (As := [.int (nI (5 + 6 * j + k)), .int v]) (c_X6_becomes l G b y (5 + 6 * j + k) k j v (at_h hk hj rfl)) cl_X6_93 yo_X6_becomes dX6_change_25 rfl rfl rfl (Nat.le_of_ble_eq_true rfl) (Nat.le_of_ble_eq_true rfl) rfl (Nat.le_of_ble_eq_true rfl) ⟨Nat.zero_le _, Nat.zero_le _⟩ ?_
      refine J_goto E (tgt := 36) dX6_change_28 (by decide) ?_
      exact ret _ _ _ _ ⟨rfl, _, rfl, by intro g h2 h5 h6; by_cases h0 : g = 0 <;> simp [tellX, upG, up3, up3R, up2, h0, h2, h5, h6]⟩ rfl dX6_change_36

set_option maxHeartbeats 4000000 in
set_option maxRecDepth 20000 in
theorem c_X6_of_bad (l : Launch) (G : GB) (b : Nat → Nat) (y : Q3) (h w : Int32) (hb : ¬ (okH h ∧ 0 ≤ w ∧ w ≤ 9)) : CI l yX6_of cX6_of 3 .int 2 45 G [.ref (b 0), .int h, .int w] (wM G b y) (fun vR w' => vR = tellR 0 ∧ PubM G b (tellX y 0) w') := by
  refine CI.mk (own := RX6) (by decide) rfl (Nat.le_of_ble_eq_true rfl) ?_
  intro X E ret
  show J X G 3 0 0 (wM G b y) [(0, .ref (b 0)), (1, .int h), (2, .int w)] 0 []
  refine J_iload_n E dX6_of_0 rfl 1 rfl ?_
  refine J_cSiN E (As := [.int h]) (c_X6_isHouse l G h ) cl_X6_87 yo_X6_isHouse dX6_of_1 rfl (Nat.le_of_ble_eq_true rfl) (Nat.le_of_ble_eq_true rfl) rfl (Nat.le_of_ble_eq_true rfl) ⟨Nat.zero_le _, Nat.zero_le _⟩ ?_
  refine J_if_eq E (tgt := 19) dX6_of_4 (by decide) (fun c_4 => ?_) (fun c_4 => ?_)
  · skip
    have c_4 := bI_0 c_4
    refine J_aload_n E dX6_of_19 rfl 0 rfl ?_
    refine J_iconst E dX6_of_20 ic_0 ?_
    refine J_cVi0 E (As := [.int 0]) (c_X6_finds l G b y 0 (by omega)) cl_X6_96 yo_X6_finds dX6_of_21 rfl rfl rfl (Nat.le_of_ble_eq_true rfl) (Nat.le_of_ble_eq_true rfl) rfl (Nat.le_of_ble_eq_true rfl) ⟨Nat.zero_le _, Nat.zero_le _⟩ ?_
    exact ret _ _ _ _ ⟨rfl, _, rfl, by intro g h2 h5 h6; by_cases h0 : g = 0 <;> simp [tellX, upG, up3, up3R, up2, h0, h2, h5, h6]⟩ rfl dX6_of_24
  · skip
    have c_4 := bI_1 c_4
    refine J_iload_n E dX6_of_7 rfl 2 rfl ?_
    refine J_i2l E dX6_of_8 rfl ?_
    refine J_lconst E dX6_of_9 lc_0 ?_
    refine J_ldc2 E kl_X6_99 dX6_of_10 ?_
    refine J_cSiN E (As := [.long (Int32.toInt64 w), .long 0, .long 9]) (c_X6_in l G w 0 9 0 9 (by decide) (by decide) ) cl_X6_54 yo_X6_in dX6_of_13 rfl (Nat.le_of_ble_eq_true rfl) (Nat.le_of_ble_eq_true rfl) rfl (Nat.le_of_ble_eq_true rfl) ⟨Nat.zero_le _, Nat.zero_le _⟩ ?_
    refine J_if_ne E (tgt := 25) dX6_of_16 (by decide) (fun c_16 => ?_) (fun c_16 => ?_)
    · skip
      have c_16 := bI_1 c_16
      exact absurd ⟨c_4, c_16⟩ hb
    · skip
      have c_16 := bI_0 c_16
      refine J_aload_n E dX6_of_19 rfl 0 rfl ?_
      refine J_iconst E dX6_of_20 ic_0 ?_
      refine J_cVi0 E (As := [.int 0]) (c_X6_finds l G b y 0 (by omega)) cl_X6_96 yo_X6_finds dX6_of_21 rfl rfl rfl (Nat.le_of_ble_eq_true rfl) (Nat.le_of_ble_eq_true rfl) rfl (Nat.le_of_ble_eq_true rfl) ⟨Nat.zero_le _, Nat.zero_le _⟩ ?_
      exact ret _ _ _ _ ⟨rfl, _, rfl, by intro g h2 h5 h6; by_cases h0 : g = 0 <;> simp [tellX, upG, up3, up3R, up2, h0, h2, h5, h6]⟩ rfl dX6_of_24

set_option maxHeartbeats 4000000 in
set_option maxRecDepth 20000 in
theorem c_X6_of_ok (l : Launch) (G : GB) (b : Nat → Nat) (y : Q3) (j k : Nat) (hj : j < 11) (hk : k < 10) (kd : Nat) (hkd1 : kd < 7) (hkd2 : y 0 0 j = nI kd) : CI l yX6_of cX6_of 3 .int 3 64 G [.ref (b 0), .int (nI j), .int (nI k)] (wM G b y) (fun vR w' => vR = ofF (y 0) j k ∧ PubM G b y w') := by
  refine CI.mk (own := RX6) (by decide) rfl (Nat.le_of_ble_eq_true rfl) ?_
  intro X E ret
  show J X G 3 0 0 (wM G b y) [(0, .ref (b 0)), (1, .int (nI j)), (2, .int (nI k))] 0 []
  rcases (show k = 0 ∨ k = 1 ∨ k = 2 ∨ k = 3 ∨ k = 4 ∨ k = 5 ∨ k = 6 ∨ k = 7 ∨ k = 8 ∨ k = 9 by omega) with rfl | rfl | rfl | rfl | rfl | rfl | rfl | rfl | rfl | rfl
  · skip
    refine J_iload_n E dX6_of_0 rfl 1 rfl ?_
    refine J_cSiN E (As := [.int (nI j)]) (c_X6_isHouse l G (nI j) ) cl_X6_87 yo_X6_isHouse dX6_of_1 rfl (Nat.le_of_ble_eq_true rfl) (Nat.le_of_ble_eq_true rfl) rfl (Nat.le_of_ble_eq_true rfl) ⟨Nat.zero_le _, Nat.zero_le _⟩ ?_
    refine J_if_eq E (tgt := 19) dX6_of_4 (by decide) (fun c_4 => ?_) (fun c_4 => ?_)
    · skip
      have c_4 := bI_0 c_4
      exact absurd (inB (a := j) (b := 10) (by omega) (by decide)) c_4
    · skip
      have c_4 := bI_1 c_4
      refine J_iload_n E dX6_of_7 rfl 2 rfl ?_
      refine J_i2l E dX6_of_8 rfl ?_
      refine J_lconst E dX6_of_9 lc_0 ?_
      refine J_ldc2 E kl_X6_99 dX6_of_10 ?_
      refine J_cSiN E (As := [.long (Int32.toInt64 (nI 0)), .long 0, .long 9]) (c_X6_in l G (nI 0) 0 9 0 9 (by decide) (by decide) ) cl_X6_54 yo_X6_in dX6_of_13 rfl (Nat.le_of_ble_eq_true rfl) (Nat.le_of_ble_eq_true rfl) rfl (Nat.le_of_ble_eq_true rfl) ⟨Nat.zero_le _, Nat.zero_le _⟩ ?_
      refine J_if_ne E (tgt := 25) dX6_of_16 (by decide) (fun c_16 => ?_) (fun c_16 => ?_)
      · skip
        have c_16 := bI_1 c_16
        refine J_iload_n E dX6_of_25 rfl 2 rfl ?_
        refine J_tabOut E (tgt := 80) dX6_of_26 (by decide) (by decide) ?_
        refine J_aload_n E dX6_of_80 rfl 0 rfl ?_
        refine J_iload_n E dX6_of_81 rfl 1 rfl ?_
        refine J_iload_n E dX6_of_82 rfl 2 rfl ?_
        refine J_cVi0 E (As := [.int (nI j), .int (nI 0)]) (c_X6_its l G b y j 0 (by omega) (by omega)) cl_X6_64 yo_X6_its dX6_of_83 rfl rfl rfl (Nat.le_of_ble_eq_true rfl) (Nat.le_of_ble_eq_true rfl) rfl (Nat.le_of_ble_eq_true rfl) ⟨Nat.zero_le _, Nat.zero_le _⟩ ?_
        exact ret _ _ _ _ ⟨by simp [ofF], _, rfl, by intro g h2 h5 h6; by_cases h0 : g = 0 <;> simp [tellX, upG, up3, up3R, up2, h0, h2, h5, h6]⟩ rfl dX6_of_86
      · skip
        have c_16 := bI_0 c_16
        exact absurd (inB (a := 0) (b := 9) (by omega) (by decide)) c_16
  · skip
    refine J_iload_n E dX6_of_0 rfl 1 rfl ?_
    refine J_cSiN E (As := [.int (nI j)]) (c_X6_isHouse l G (nI j) ) cl_X6_87 yo_X6_isHouse dX6_of_1 rfl (Nat.le_of_ble_eq_true rfl) (Nat.le_of_ble_eq_true rfl) rfl (Nat.le_of_ble_eq_true rfl) ⟨Nat.zero_le _, Nat.zero_le _⟩ ?_
    refine J_if_eq E (tgt := 19) dX6_of_4 (by decide) (fun c_4 => ?_) (fun c_4 => ?_)
    · skip
      have c_4 := bI_0 c_4
      exact absurd (inB (a := j) (b := 10) (by omega) (by decide)) c_4
    · skip
      have c_4 := bI_1 c_4
      refine J_iload_n E dX6_of_7 rfl 2 rfl ?_
      refine J_i2l E dX6_of_8 rfl ?_
      refine J_lconst E dX6_of_9 lc_0 ?_
      refine J_ldc2 E kl_X6_99 dX6_of_10 ?_
      refine J_cSiN E (As := [.long (Int32.toInt64 (nI 1)), .long 0, .long 9]) (c_X6_in l G (nI 1) 0 9 0 9 (by decide) (by decide) ) cl_X6_54 yo_X6_in dX6_of_13 rfl (Nat.le_of_ble_eq_true rfl) (Nat.le_of_ble_eq_true rfl) rfl (Nat.le_of_ble_eq_true rfl) ⟨Nat.zero_le _, Nat.zero_le _⟩ ?_
      refine J_if_ne E (tgt := 25) dX6_of_16 (by decide) (fun c_16 => ?_) (fun c_16 => ?_)
      · skip
        have c_16 := bI_1 c_16
        refine J_iload_n E dX6_of_25 rfl 2 rfl ?_
        refine J_tabOut E (tgt := 80) dX6_of_26 (by decide) (by decide) ?_
        refine J_aload_n E dX6_of_80 rfl 0 rfl ?_
        refine J_iload_n E dX6_of_81 rfl 1 rfl ?_
        refine J_iload_n E dX6_of_82 rfl 2 rfl ?_
        refine J_cVi0 E (As := [.int (nI j), .int (nI 1)]) (c_X6_its l G b y j 1 (by omega) (by omega)) cl_X6_64 yo_X6_its dX6_of_83 rfl rfl rfl (Nat.le_of_ble_eq_true rfl) (Nat.le_of_ble_eq_true rfl) rfl (Nat.le_of_ble_eq_true rfl) ⟨Nat.zero_le _, Nat.zero_le _⟩ ?_
        exact ret _ _ _ _ ⟨by simp [ofF], _, rfl, by intro g h2 h5 h6; by_cases h0 : g = 0 <;> simp [tellX, upG, up3, up3R, up2, h0, h2, h5, h6]⟩ rfl dX6_of_86
      · skip
        have c_16 := bI_0 c_16
        exact absurd (inB (a := 1) (b := 9) (by omega) (by decide)) c_16
  · skip
    refine J_iload_n E dX6_of_0 rfl 1 rfl ?_
    refine J_cSiN E (As := [.int (nI j)]) (c_X6_isHouse l G (nI j) ) cl_X6_87 yo_X6_isHouse dX6_of_1 rfl (Nat.le_of_ble_eq_true rfl) (Nat.le_of_ble_eq_true rfl) rfl (Nat.le_of_ble_eq_true rfl) ⟨Nat.zero_le _, Nat.zero_le _⟩ ?_
    refine J_if_eq E (tgt := 19) dX6_of_4 (by decide) (fun c_4 => ?_) (fun c_4 => ?_)
    · skip
      have c_4 := bI_0 c_4
      exact absurd (inB (a := j) (b := 10) (by omega) (by decide)) c_4
    · skip
      have c_4 := bI_1 c_4
      refine J_iload_n E dX6_of_7 rfl 2 rfl ?_
      refine J_i2l E dX6_of_8 rfl ?_
      refine J_lconst E dX6_of_9 lc_0 ?_
      refine J_ldc2 E kl_X6_99 dX6_of_10 ?_
      refine J_cSiN E (As := [.long (Int32.toInt64 (nI 2)), .long 0, .long 9]) (c_X6_in l G (nI 2) 0 9 0 9 (by decide) (by decide) ) cl_X6_54 yo_X6_in dX6_of_13 rfl (Nat.le_of_ble_eq_true rfl) (Nat.le_of_ble_eq_true rfl) rfl (Nat.le_of_ble_eq_true rfl) ⟨Nat.zero_le _, Nat.zero_le _⟩ ?_
      refine J_if_ne E (tgt := 25) dX6_of_16 (by decide) (fun c_16 => ?_) (fun c_16 => ?_)
      · skip
        have c_16 := bI_1 c_16
        refine J_iload_n E dX6_of_25 rfl 2 rfl ?_
        refine J_tabOut E (tgt := 80) dX6_of_26 (by decide) (by decide) ?_
        refine J_aload_n E dX6_of_80 rfl 0 rfl ?_
        refine J_iload_n E dX6_of_81 rfl 1 rfl ?_
        refine J_iload_n E dX6_of_82 rfl 2 rfl ?_
        refine J_cVi0 E (As := [.int (nI j), .int (nI 2)]) (c_X6_its l G b y j 2 (by omega) (by omega)) cl_X6_64 yo_X6_its dX6_of_83 rfl rfl rfl (Nat.le_of_ble_eq_true rfl) (Nat.le_of_ble_eq_true rfl) rfl (Nat.le_of_ble_eq_true rfl) ⟨Nat.zero_le _, Nat.zero_le _⟩ ?_
        exact ret _ _ _ _ ⟨by simp [ofF], _, rfl, by intro g h2 h5 h6; by_cases h0 : g = 0 <;> simp [tellX, upG, up3, up3R, up2, h0, h2, h5, h6]⟩ rfl dX6_of_86
      · skip
        have c_16 := bI_0 c_16
        exact absurd (inB (a := 2) (b := 9) (by omega) (by decide)) c_16
  · skip
    refine J_iload_n E dX6_of_0 rfl 1 rfl ?_
    refine J_cSiN E (As := [.int (nI j)]) (c_X6_isHouse l G (nI j) ) cl_X6_87 yo_X6_isHouse dX6_of_1 rfl (Nat.le_of_ble_eq_true rfl) (Nat.le_of_ble_eq_true rfl) rfl (Nat.le_of_ble_eq_true rfl) ⟨Nat.zero_le _, Nat.zero_le _⟩ ?_
    refine J_if_eq E (tgt := 19) dX6_of_4 (by decide) (fun c_4 => ?_) (fun c_4 => ?_)
    · skip
      have c_4 := bI_0 c_4
      exact absurd (inB (a := j) (b := 10) (by omega) (by decide)) c_4
    · skip
      have c_4 := bI_1 c_4
      refine J_iload_n E dX6_of_7 rfl 2 rfl ?_
      refine J_i2l E dX6_of_8 rfl ?_
      refine J_lconst E dX6_of_9 lc_0 ?_
      refine J_ldc2 E kl_X6_99 dX6_of_10 ?_
      refine J_cSiN E (As := [.long (Int32.toInt64 (nI 3)), .long 0, .long 9]) (c_X6_in l G (nI 3) 0 9 0 9 (by decide) (by decide) ) cl_X6_54 yo_X6_in dX6_of_13 rfl (Nat.le_of_ble_eq_true rfl) (Nat.le_of_ble_eq_true rfl) rfl (Nat.le_of_ble_eq_true rfl) ⟨Nat.zero_le _, Nat.zero_le _⟩ ?_
      refine J_if_ne E (tgt := 25) dX6_of_16 (by decide) (fun c_16 => ?_) (fun c_16 => ?_)
      · skip
        have c_16 := bI_1 c_16
        refine J_iload_n E dX6_of_25 rfl 2 rfl ?_
        refine J_tabOut E (tgt := 80) dX6_of_26 (by decide) (by decide) ?_
        refine J_aload_n E dX6_of_80 rfl 0 rfl ?_
        refine J_iload_n E dX6_of_81 rfl 1 rfl ?_
        refine J_iload_n E dX6_of_82 rfl 2 rfl ?_
        refine J_cVi0 E (As := [.int (nI j), .int (nI 3)]) (c_X6_its l G b y j 3 (by omega) (by omega)) cl_X6_64 yo_X6_its dX6_of_83 rfl rfl rfl (Nat.le_of_ble_eq_true rfl) (Nat.le_of_ble_eq_true rfl) rfl (Nat.le_of_ble_eq_true rfl) ⟨Nat.zero_le _, Nat.zero_le _⟩ ?_
        exact ret _ _ _ _ ⟨by simp [ofF], _, rfl, by intro g h2 h5 h6; by_cases h0 : g = 0 <;> simp [tellX, upG, up3, up3R, up2, h0, h2, h5, h6]⟩ rfl dX6_of_86
      · skip
        have c_16 := bI_0 c_16
        exact absurd (inB (a := 3) (b := 9) (by omega) (by decide)) c_16
  · skip
    refine J_iload_n E dX6_of_0 rfl 1 rfl ?_
    refine J_cSiN E (As := [.int (nI j)]) (c_X6_isHouse l G (nI j) ) cl_X6_87 yo_X6_isHouse dX6_of_1 rfl (Nat.le_of_ble_eq_true rfl) (Nat.le_of_ble_eq_true rfl) rfl (Nat.le_of_ble_eq_true rfl) ⟨Nat.zero_le _, Nat.zero_le _⟩ ?_
    refine J_if_eq E (tgt := 19) dX6_of_4 (by decide) (fun c_4 => ?_) (fun c_4 => ?_)
    · skip
      have c_4 := bI_0 c_4
      exact absurd (inB (a := j) (b := 10) (by omega) (by decide)) c_4
    · skip
      have c_4 := bI_1 c_4
      refine J_iload_n E dX6_of_7 rfl 2 rfl ?_
      refine J_i2l E dX6_of_8 rfl ?_
      refine J_lconst E dX6_of_9 lc_0 ?_
      refine J_ldc2 E kl_X6_99 dX6_of_10 ?_
      refine J_cSiN E (As := [.long (Int32.toInt64 (nI 4)), .long 0, .long 9]) (c_X6_in l G (nI 4) 0 9 0 9 (by decide) (by decide) ) cl_X6_54 yo_X6_in dX6_of_13 rfl (Nat.le_of_ble_eq_true rfl) (Nat.le_of_ble_eq_true rfl) rfl (Nat.le_of_ble_eq_true rfl) ⟨Nat.zero_le _, Nat.zero_le _⟩ ?_
      refine J_if_ne E (tgt := 25) dX6_of_16 (by decide) (fun c_16 => ?_) (fun c_16 => ?_)
      · skip
        have c_16 := bI_1 c_16
        refine J_iload_n E dX6_of_25 rfl 2 rfl ?_
        refine J_tabOut E (tgt := 80) dX6_of_26 (by decide) (by decide) ?_
        refine J_aload_n E dX6_of_80 rfl 0 rfl ?_
        refine J_iload_n E dX6_of_81 rfl 1 rfl ?_
        refine J_iload_n E dX6_of_82 rfl 2 rfl ?_
        refine J_cVi0 E (As := [.int (nI j), .int (nI 4)]) (c_X6_its l G b y j 4 (by omega) (by omega)) cl_X6_64 yo_X6_its dX6_of_83 rfl rfl rfl (Nat.le_of_ble_eq_true rfl) (Nat.le_of_ble_eq_true rfl) rfl (Nat.le_of_ble_eq_true rfl) ⟨Nat.zero_le _, Nat.zero_le _⟩ ?_
        exact ret _ _ _ _ ⟨by simp [ofF], _, rfl, by intro g h2 h5 h6; by_cases h0 : g = 0 <;> simp [tellX, upG, up3, up3R, up2, h0, h2, h5, h6]⟩ rfl dX6_of_86
      · skip
        have c_16 := bI_0 c_16
        exact absurd (inB (a := 4) (b := 9) (by omega) (by decide)) c_16
  · skip
    refine J_iload_n E dX6_of_0 rfl 1 rfl ?_
    refine J_cSiN E (As := [.int (nI j)]) (c_X6_isHouse l G (nI j) ) cl_X6_87 yo_X6_isHouse dX6_of_1 rfl (Nat.le_of_ble_eq_true rfl) (Nat.le_of_ble_eq_true rfl) rfl (Nat.le_of_ble_eq_true rfl) ⟨Nat.zero_le _, Nat.zero_le _⟩ ?_
    refine J_if_eq E (tgt := 19) dX6_of_4 (by decide) (fun c_4 => ?_) (fun c_4 => ?_)
    · skip
      have c_4 := bI_0 c_4
      exact absurd (inB (a := j) (b := 10) (by omega) (by decide)) c_4
    · skip
      have c_4 := bI_1 c_4
      refine J_iload_n E dX6_of_7 rfl 2 rfl ?_
      refine J_i2l E dX6_of_8 rfl ?_
      refine J_lconst E dX6_of_9 lc_0 ?_
      refine J_ldc2 E kl_X6_99 dX6_of_10 ?_
      refine J_cSiN E (As := [.long (Int32.toInt64 (nI 5)), .long 0, .long 9]) (c_X6_in l G (nI 5) 0 9 0 9 (by decide) (by decide) ) cl_X6_54 yo_X6_in dX6_of_13 rfl (Nat.le_of_ble_eq_true rfl) (Nat.le_of_ble_eq_true rfl) rfl (Nat.le_of_ble_eq_true rfl) ⟨Nat.zero_le _, Nat.zero_le _⟩ ?_
      refine J_if_ne E (tgt := 25) dX6_of_16 (by decide) (fun c_16 => ?_) (fun c_16 => ?_)
      · skip
        have c_16 := bI_1 c_16
        refine J_iload_n E dX6_of_25 rfl 2 rfl ?_
        refine J_tabOut E (tgt := 80) dX6_of_26 (by decide) (by decide) ?_
        refine J_aload_n E dX6_of_80 rfl 0 rfl ?_
        refine J_iload_n E dX6_of_81 rfl 1 rfl ?_
        refine J_iload_n E dX6_of_82 rfl 2 rfl ?_
        refine J_cVi0 E (As := [.int (nI j), .int (nI 5)]) (c_X6_its l G b y j 5 (by omega) (by omega)) cl_X6_64 yo_X6_its dX6_of_83 rfl rfl rfl (Nat.le_of_ble_eq_true rfl) (Nat.le_of_ble_eq_true rfl) rfl (Nat.le_of_ble_eq_true rfl) ⟨Nat.zero_le _, Nat.zero_le _⟩ ?_
        exact ret _ _ _ _ ⟨by simp [ofF], _, rfl, by intro g h2 h5 h6; by_cases h0 : g = 0 <;> simp [tellX, upG, up3, up3R, up2, h0, h2, h5, h6]⟩ rfl dX6_of_86
      · skip
        have c_16 := bI_0 c_16
        exact absurd (inB (a := 5) (b := 9) (by omega) (by decide)) c_16
  · skip
    refine J_iload_n E dX6_of_0 rfl 1 rfl ?_
    refine J_cSiN E (As := [.int (nI j)]) (c_X6_isHouse l G (nI j) ) cl_X6_87 yo_X6_isHouse dX6_of_1 rfl (Nat.le_of_ble_eq_true rfl) (Nat.le_of_ble_eq_true rfl) rfl (Nat.le_of_ble_eq_true rfl) ⟨Nat.zero_le _, Nat.zero_le _⟩ ?_
    refine J_if_eq E (tgt := 19) dX6_of_4 (by decide) (fun c_4 => ?_) (fun c_4 => ?_)
    · skip
      have c_4 := bI_0 c_4
      exact absurd (inB (a := j) (b := 10) (by omega) (by decide)) c_4
    · skip
      have c_4 := bI_1 c_4
      refine J_iload_n E dX6_of_7 rfl 2 rfl ?_
      refine J_i2l E dX6_of_8 rfl ?_
      refine J_lconst E dX6_of_9 lc_0 ?_
      refine J_ldc2 E kl_X6_99 dX6_of_10 ?_
      refine J_cSiN E (As := [.long (Int32.toInt64 (nI 6)), .long 0, .long 9]) (c_X6_in l G (nI 6) 0 9 0 9 (by decide) (by decide) ) cl_X6_54 yo_X6_in dX6_of_13 rfl (Nat.le_of_ble_eq_true rfl) (Nat.le_of_ble_eq_true rfl) rfl (Nat.le_of_ble_eq_true rfl) ⟨Nat.zero_le _, Nat.zero_le _⟩ ?_
      refine J_if_ne E (tgt := 25) dX6_of_16 (by decide) (fun c_16 => ?_) (fun c_16 => ?_)
      · skip
        have c_16 := bI_1 c_16
        refine J_iload_n E dX6_of_25 rfl 2 rfl ?_
        refine J_tabIn E (tgt := 56) (off := 30) dX6_of_26 (by decide) (by decide) rfl (by decide) ?_
        refine J_aload_n E dX6_of_56 rfl 0 rfl ?_
        refine J_iload_n E dX6_of_57 rfl 1 rfl ?_
        refine J_cVi0 E (As := [.int (nI j)]) (c_X6_uses l G b y j (by omega)) cl_X6_101 yo_X6_uses dX6_of_58 rfl rfl rfl (Nat.le_of_ble_eq_true rfl) (Nat.le_of_ble_eq_true rfl) rfl (Nat.le_of_ble_eq_true rfl) ⟨Nat.zero_le _, Nat.zero_le _⟩ ?_
        exact ret _ _ _ _ ⟨by simp [ofF], _, rfl, by intro g h2 h5 h6; by_cases h0 : g = 0 <;> simp [tellX, upG, up3, up3R, up2, h0, h2, h5, h6]⟩ rfl dX6_of_61
      · skip
        have c_16 := bI_0 c_16
        exact absurd (inB (a := 6) (b := 9) (by omega) (by decide)) c_16
  · skip
    refine J_iload_n E dX6_of_0 rfl 1 rfl ?_
    refine J_cSiN E (As := [.int (nI j)]) (c_X6_isHouse l G (nI j) ) cl_X6_87 yo_X6_isHouse dX6_of_1 rfl (Nat.le_of_ble_eq_true rfl) (Nat.le_of_ble_eq_true rfl) rfl (Nat.le_of_ble_eq_true rfl) ⟨Nat.zero_le _, Nat.zero_le _⟩ ?_
    refine J_if_eq E (tgt := 19) dX6_of_4 (by decide) (fun c_4 => ?_) (fun c_4 => ?_)
    · skip
      have c_4 := bI_0 c_4
      exact absurd (inB (a := j) (b := 10) (by omega) (by decide)) c_4
    · skip
      have c_4 := bI_1 c_4
      refine J_iload_n E dX6_of_7 rfl 2 rfl ?_
      refine J_i2l E dX6_of_8 rfl ?_
      refine J_lconst E dX6_of_9 lc_0 ?_
      refine J_ldc2 E kl_X6_99 dX6_of_10 ?_
      refine J_cSiN E (As := [.long (Int32.toInt64 (nI 7)), .long 0, .long 9]) (c_X6_in l G (nI 7) 0 9 0 9 (by decide) (by decide) ) cl_X6_54 yo_X6_in dX6_of_13 rfl (Nat.le_of_ble_eq_true rfl) (Nat.le_of_ble_eq_true rfl) rfl (Nat.le_of_ble_eq_true rfl) ⟨Nat.zero_le _, Nat.zero_le _⟩ ?_
      refine J_if_ne E (tgt := 25) dX6_of_16 (by decide) (fun c_16 => ?_) (fun c_16 => ?_)
      · skip
        have c_16 := bI_1 c_16
        refine J_iload_n E dX6_of_25 rfl 2 rfl ?_
        refine J_tabIn E (tgt := 62) (off := 36) dX6_of_26 (by decide) (by decide) rfl (by decide) ?_
        refine J_aload_n E dX6_of_62 rfl 0 rfl ?_
        refine J_iload_n E dX6_of_63 rfl 1 rfl ?_
        refine J_cVi0 E (As := [.int (nI j)]) (c_X6_keeps l G b y j (by omega)) cl_X6_104 yo_X6_keeps dX6_of_64 rfl rfl rfl (Nat.le_of_ble_eq_true rfl) (Nat.le_of_ble_eq_true rfl) rfl (Nat.le_of_ble_eq_true rfl) ⟨Nat.zero_le _, Nat.zero_le _⟩ ?_
        exact ret _ _ _ _ ⟨by simp [ofF], _, rfl, by intro g h2 h5 h6; by_cases h0 : g = 0 <;> simp [tellX, upG, up3, up3R, up2, h0, h2, h5, h6]⟩ rfl dX6_of_67
      · skip
        have c_16 := bI_0 c_16
        exact absurd (inB (a := 7) (b := 9) (by omega) (by decide)) c_16
  · skip
    refine J_iload_n E dX6_of_0 rfl 1 rfl ?_
    refine J_cSiN E (As := [.int (nI j)]) (c_X6_isHouse l G (nI j) ) cl_X6_87 yo_X6_isHouse dX6_of_1 rfl (Nat.le_of_ble_eq_true rfl) (Nat.le_of_ble_eq_true rfl) rfl (Nat.le_of_ble_eq_true rfl) ⟨Nat.zero_le _, Nat.zero_le _⟩ ?_
    refine J_if_eq E (tgt := 19) dX6_of_4 (by decide) (fun c_4 => ?_) (fun c_4 => ?_)
    · skip
      have c_4 := bI_0 c_4
      exact absurd (inB (a := j) (b := 10) (by omega) (by decide)) c_4
    · skip
      have c_4 := bI_1 c_4
      refine J_iload_n E dX6_of_7 rfl 2 rfl ?_
      refine J_i2l E dX6_of_8 rfl ?_
      refine J_lconst E dX6_of_9 lc_0 ?_
      refine J_ldc2 E kl_X6_99 dX6_of_10 ?_
      refine J_cSiN E (As := [.long (Int32.toInt64 (nI 8)), .long 0, .long 9]) (c_X6_in l G (nI 8) 0 9 0 9 (by decide) (by decide) ) cl_X6_54 yo_X6_in dX6_of_13 rfl (Nat.le_of_ble_eq_true rfl) (Nat.le_of_ble_eq_true rfl) rfl (Nat.le_of_ble_eq_true rfl) ⟨Nat.zero_le _, Nat.zero_le _⟩ ?_
      refine J_if_ne E (tgt := 25) dX6_of_16 (by decide) (fun c_16 => ?_) (fun c_16 => ?_)
      · skip
        have c_16 := bI_1 c_16
        refine J_iload_n E dX6_of_25 rfl 2 rfl ?_
        refine J_tabIn E (tgt := 68) (off := 42) dX6_of_26 (by decide) (by decide) rfl (by decide) ?_
        refine J_aload_n E dX6_of_68 rfl 0 rfl ?_
        refine J_iload_n E dX6_of_69 rfl 1 rfl ?_
        refine J_cVi0 E (As := [.int (nI j)]) (c_X6_loses l G b y j (by omega) _ hkd1 hkd2) cl_X6_107 yo_X6_loses dX6_of_70 rfl rfl rfl (Nat.le_of_ble_eq_true rfl) (Nat.le_of_ble_eq_true rfl) rfl (Nat.le_of_ble_eq_true rfl) ⟨Nat.zero_le _, Nat.zero_le _⟩ ?_
        exact ret _ _ _ _ ⟨by simp [ofF], _, rfl, by intro g h2 h5 h6; by_cases h0 : g = 0 <;> simp [tellX, upG, up3, up3R, up2, h0, h2, h5, h6]⟩ rfl dX6_of_73
      · skip
        have c_16 := bI_0 c_16
        exact absurd (inB (a := 8) (b := 9) (by omega) (by decide)) c_16
  · skip
    refine J_iload_n E dX6_of_0 rfl 1 rfl ?_
    refine J_cSiN E (As := [.int (nI j)]) (c_X6_isHouse l G (nI j) ) cl_X6_87 yo_X6_isHouse dX6_of_1 rfl (Nat.le_of_ble_eq_true rfl) (Nat.le_of_ble_eq_true rfl) rfl (Nat.le_of_ble_eq_true rfl) ⟨Nat.zero_le _, Nat.zero_le _⟩ ?_
    refine J_if_eq E (tgt := 19) dX6_of_4 (by decide) (fun c_4 => ?_) (fun c_4 => ?_)
    · skip
      have c_4 := bI_0 c_4
      exact absurd (inB (a := j) (b := 10) (by omega) (by decide)) c_4
    · skip
      have c_4 := bI_1 c_4
      refine J_iload_n E dX6_of_7 rfl 2 rfl ?_
      refine J_i2l E dX6_of_8 rfl ?_
      refine J_lconst E dX6_of_9 lc_0 ?_
      refine J_ldc2 E kl_X6_99 dX6_of_10 ?_
      refine J_cSiN E (As := [.long (Int32.toInt64 (nI 9)), .long 0, .long 9]) (c_X6_in l G (nI 9) 0 9 0 9 (by decide) (by decide) ) cl_X6_54 yo_X6_in dX6_of_13 rfl (Nat.le_of_ble_eq_true rfl) (Nat.le_of_ble_eq_true rfl) rfl (Nat.le_of_ble_eq_true rfl) ⟨Nat.zero_le _, Nat.zero_le _⟩ ?_
      refine J_if_ne E (tgt := 25) dX6_of_16 (by decide) (fun c_16 => ?_) (fun c_16 => ?_)
      · skip
        have c_16 := bI_1 c_16
        refine J_iload_n E dX6_of_25 rfl 2 rfl ?_
        refine J_tabIn E (tgt := 74) (off := 48) dX6_of_26 (by decide) (by decide) rfl (by decide) ?_
        refine J_aload_n E dX6_of_74 rfl 0 rfl ?_
        refine J_iload_n E dX6_of_75 rfl 1 rfl ?_
        refine J_cVi0 E (As := [.int (nI j)]) (c_X6_leads l G b y j (by omega)) cl_X6_110 yo_X6_leads dX6_of_76 rfl rfl rfl (Nat.le_of_ble_eq_true rfl) (Nat.le_of_ble_eq_true rfl) rfl (Nat.le_of_ble_eq_true rfl) ⟨Nat.zero_le _, Nat.zero_le _⟩ ?_
        exact ret _ _ _ _ ⟨by simp [ofF], _, rfl, by intro g h2 h5 h6; by_cases h0 : g = 0 <;> simp [tellX, upG, up3, up3R, up2, h0, h2, h5, h6]⟩ rfl dX6_of_79
      · skip
        have c_16 := bI_0 c_16
        exact absurd (inB (a := 9) (b := 9) (by omega) (by decide)) c_16

set_option maxHeartbeats 4000000 in
set_option maxRecDepth 20000 in
theorem c_X6_rain_bad (l : Launch) (G : GB) (b : Nat → Nat) (y : Q3) (v : Int32) (hb : ¬ (0 ≤ v ∧ v ≤ 999)) : CI l yX6_rain cX6_rain 2 .int 1 25 G [.ref (b 0), .int v] (wM G b y) (fun vR w' => vR = tellR 0 ∧ PubM G b (tellX y 0) w') := by
  refine CI.mk (own := RX6) (by decide) rfl (Nat.le_of_ble_eq_true rfl) ?_
  intro X E ret
  show J X G 2 0 0 (wM G b y) [(0, .ref (b 0)), (1, .int v)] 0 []
  refine J_iload_n E dX6_rain_0 rfl 1 rfl ?_
  refine J_i2l E dX6_rain_1 rfl ?_
  refine J_lconst E dX6_rain_2 lc_0 ?_
  refine J_ldc2 E kl_X6_85 dX6_rain_3 ?_
  refine J_cSiN E (As := [.long (Int32.toInt64 v), .long 0, .long 999]) (c_X6_in l G v 0 999 0 999 (by decide) (by decide) ) cl_X6_54 yo_X6_in dX6_rain_6 rfl (Nat.le_of_ble_eq_true rfl) (Nat.le_of_ble_eq_true rfl) rfl (Nat.le_of_ble_eq_true rfl) ⟨Nat.zero_le _, Nat.zero_le _⟩ ?_
  refine J_if_eq E (tgt := 21) dX6_rain_9 (by decide) (fun c_9 => ?_) (fun c_9 => ?_)
  · skip
    have c_9 := bI_0 c_9
    refine J_aload_n E dX6_rain_21 rfl 0 rfl ?_
    refine J_iconst E dX6_rain_22 ic_0 ?_
    refine J_cVi0 E (As := [.int 0]) (c_X6_finds l G b y 0 (by omega)) cl_X6_96 yo_X6_finds dX6_rain_23 rfl rfl rfl (Nat.le_of_ble_eq_true rfl) (Nat.le_of_ble_eq_true rfl) rfl (Nat.le_of_ble_eq_true rfl) ⟨Nat.zero_le _, Nat.zero_le _⟩ ?_
    exact ret _ _ _ _ ⟨rfl, _, rfl, by intro g h2 h5 h6; by_cases h0 : g = 0 <;> simp [tellX, upG, up3, up3R, up2, h0, h2, h5, h6]⟩ rfl dX6_rain_26
  · skip
    have c_9 := bI_1 c_9
    exact absurd c_9 hb

set_option maxHeartbeats 4000000 in
set_option maxRecDepth 20000 in
theorem c_X6_rain_ok (l : Launch) (G : GB) (b : Nat → Nat) (y : Q3) (v : Int32) (hv : 0 ≤ v ∧ v ≤ 999) : CI l yX6_rain cX6_rain 2 .int 1 25 G [.ref (b 0), .int v] (wM G b y) (fun vR w' => vR = y 0 7 2 ∧ PubM G b (up3 y 0 7 2 v) w') := by
  refine CI.mk (own := RX6) (by decide) rfl (Nat.le_of_ble_eq_true rfl) ?_
  intro X E ret
  show J X G 2 0 0 (wM G b y) [(0, .ref (b 0)), (1, .int v)] 0 []
  refine J_iload_n E dX6_rain_0 rfl 1 rfl ?_
  refine J_i2l E dX6_rain_1 rfl ?_
  refine J_lconst E dX6_rain_2 lc_0 ?_
  refine J_ldc2 E kl_X6_85 dX6_rain_3 ?_
  refine J_cSiN E (As := [.long (Int32.toInt64 v), .long 0, .long 999]) (c_X6_in l G v 0 999 0 999 (by decide) (by decide) ) cl_X6_54 yo_X6_in dX6_rain_6 rfl (Nat.le_of_ble_eq_true rfl) (Nat.le_of_ble_eq_true rfl) rfl (Nat.le_of_ble_eq_true rfl) ⟨Nat.zero_le _, Nat.zero_le _⟩ ?_
  refine J_if_eq E (tgt := 21) dX6_rain_9 (by decide) (fun c_9 => ?_) (fun c_9 => ?_)
  · skip
    have c_9 := bI_0 c_9
    exact absurd (by assumption) c_9
  · skip
    have c_9 := bI_1 c_9
    refine J_aload_n E dX6_rain_12 rfl 0 rfl ?_
    refine J_iconst E dX6_rain_13 ic_2 ?_
    refine J_iload_n E dX6_rain_14 rfl 1 rfl ?_
    refine J_cVi0 E (As := [.int 2, .int v]) (c_X6_becomes l G b y 2 7 2 v (at_7 (by decide))) cl_X6_93 yo_X6_becomes dX6_rain_15 rfl rfl rfl (Nat.le_of_ble_eq_true rfl) (Nat.le_of_ble_eq_true rfl) rfl (Nat.le_of_ble_eq_true rfl) ⟨Nat.zero_le _, Nat.zero_le _⟩ ?_
    refine J_goto E (tgt := 26) dX6_rain_18 (by decide) ?_
    exact ret _ _ _ _ ⟨rfl, _, rfl, by intro g h2 h5 h6; by_cases h0 : g = 0 <;> simp [tellX, upG, up3, up3R, up2, h0, h2, h5, h6]⟩ rfl dX6_rain_26

set_option maxHeartbeats 4000000 in
set_option maxRecDepth 20000 in
theorem c_X6_spouts_bad (l : Launch) (G : GB) (b : Nat → Nat) (y : Q3) (v : Int32) (hb : ¬ (0 ≤ v ∧ v ≤ 2047)) : CI l yX6_spouts cX6_spouts 4 .int 1 25 G [.ref (b 0), .int v] (wM G b y) (fun vR w' => vR = tellR 0 ∧ PubM G b (tellX y 0) w') := by
  refine CI.mk (own := RX6) (by decide) rfl (Nat.le_of_ble_eq_true rfl) ?_
  intro X E ret
  show J X G 4 0 0 (wM G b y) [(0, .ref (b 0)), (1, .int v)] 0 []
  refine J_iload_n E dX6_spouts_0 rfl 1 rfl ?_
  refine J_i2l E dX6_spouts_1 rfl ?_
  refine J_lconst E dX6_spouts_2 lc_0 ?_
  refine J_ldc2 E kl_X6_113 dX6_spouts_3 ?_
  refine J_cSiN E (As := [.long (Int32.toInt64 v), .long 0, .long 2047]) (c_X6_in l G v 0 2047 0 2047 (by decide) (by decide) ) cl_X6_54 yo_X6_in dX6_spouts_6 rfl (Nat.le_of_ble_eq_true rfl) (Nat.le_of_ble_eq_true rfl) rfl (Nat.le_of_ble_eq_true rfl) ⟨Nat.zero_le _, Nat.zero_le _⟩ ?_
  refine J_if_ne E (tgt := 18) dX6_spouts_9 (by decide) (fun c_9 => ?_) (fun c_9 => ?_)
  · skip
    have c_9 := bI_1 c_9
    exact absurd c_9 hb
  · skip
    have c_9 := bI_0 c_9
    refine J_aload_n E dX6_spouts_12 rfl 0 rfl ?_
    refine J_iconst E dX6_spouts_13 ic_0 ?_
    refine J_cVi0 E (As := [.int 0]) (c_X6_finds l G b y 0 (by omega)) cl_X6_96 yo_X6_finds dX6_spouts_14 rfl rfl rfl (Nat.le_of_ble_eq_true rfl) (Nat.le_of_ble_eq_true rfl) rfl (Nat.le_of_ble_eq_true rfl) ⟨Nat.zero_le _, Nat.zero_le _⟩ ?_
    exact ret _ _ _ _ ⟨rfl, _, rfl, by intro g h2 h5 h6; by_cases h0 : g = 0 <;> simp [tellX, upG, up3, up3R, up2, h0, h2, h5, h6]⟩ rfl dX6_spouts_17

set_option maxHeartbeats 4000000 in
set_option maxRecDepth 20000 in
theorem c_X6_spouts_ok (l : Launch) (G : GB) (b : Nat → Nat) (y : Q3) (v : Int32) (hv : 0 ≤ v ∧ v ≤ 2047) : CI l yX6_spouts cX6_spouts 4 .int 2 44 G [.ref (b 0), .int v] (wM G b y) (fun vR w' => vR = spoF (y 0) 11 ∧ PubM G b (upG y 0 (sputS (y 0) v 11)) w') := by
  refine CI.mk (own := RX6) (by decide) rfl (Nat.le_of_ble_eq_true rfl) ?_
  intro X E ret
  show J X G 4 0 0 (wM G b y) [(0, .ref (b 0)), (1, .int v)] 0 []
  refine J_iload_n E dX6_spouts_0 rfl 1 rfl ?_
  refine J_i2l E dX6_spouts_1 rfl ?_
  refine J_lconst E dX6_spouts_2 lc_0 ?_
  refine J_ldc2 E kl_X6_113 dX6_spouts_3 ?_
  refine J_cSiN E (As := [.long (Int32.toInt64 v), .long 0, .long 2047]) (c_X6_in l G v 0 2047 0 2047 (by decide) (by decide) ) cl_X6_54 yo_X6_in dX6_spouts_6 rfl (Nat.le_of_ble_eq_true rfl) (Nat.le_of_ble_eq_true rfl) rfl (Nat.le_of_ble_eq_true rfl) ⟨Nat.zero_le _, Nat.zero_le _⟩ ?_
  refine J_if_ne E (tgt := 18) dX6_spouts_9 (by decide) (fun c_9 => ?_) (fun c_9 => ?_)
  · skip
    have c_9 := bI_1 c_9
    refine J_aload_n E dX6_spouts_18 rfl 0 rfl ?_
    refine J_cVi0 E (As := []) (c_X6_spoutSet l G b y ) cl_X6_115 yo_X6_spoutSet dX6_spouts_19 rfl rfl rfl (Nat.le_of_ble_eq_true rfl) (Nat.le_of_ble_eq_true rfl) rfl (Nat.le_of_ble_eq_true rfl) ⟨Nat.zero_le _, Nat.zero_le _⟩ ?_
    refine J_istore_n E (lv' := [(2, .int (spoF ((y 0)) 11)), (0, .ref (b 0)), (1, .int v)]) dX6_spouts_22 rfl (by decide) rfl ?_
    refine J_iconst E dX6_spouts_23 ic_0 ?_
    refine J_istore_n E (lv' := [(3, .int 0), (2, .int (spoF ((y 0)) 11)), (0, .ref (b 0)), (1, .int v)]) dX6_spouts_24 rfl (by decide) rfl ?_
    refine J_w (ws' := wM G b (upG y 0 (y 0))) (congrArg (wM G b) upG_id.symm) ?_
    have lp25 : ∀ (fu : Nat) (i : Nat) (r : Q2), (i ≤ 11) → (r = sputS (y 0) v i) → 11 - i < fu → J X G 4 0 0 (wM G b (upG y 0 r)) [(0, .ref (b 0)), (1, .int v), (2, .int (spoF ((y 0)) 11)), (3, .int (nI i))] 25 [] := by
      intro fu
      induction fu with
      | zero => intro i r hi hr hm; exact absurd hm (Nat.not_lt_zero _)
      | succ fu ih25 =>
        intro i r hi hr hm
        refine J_iload_n E dX6_spouts_25 rfl 3 rfl ?_
        refine J_bipush E dX6_spouts_26 bp_11 ?_
        refine J_icmp_ge E (tgt := 48) dX6_spouts_28 (by decide) (fun c_28 => ?_) (fun c_28 => ?_)
        · skip
          have n_28 : 11 ≤ i := cmp_le (a := 11) (b := i) (by omega) (by omega) c_28
          refine J_iload_n E dX6_spouts_48 rfl 2 rfl ?_
          exact ret _ _ _ _ ⟨rfl, _, rfl, by rw [hr, show i = 11 by omega]; exact ShM.rfl'⟩ rfl dX6_spouts_49
        · skip
          have n_28 : ¬ 11 ≤ i := cmp_nle (a := 11) (b := i) (by omega) (by omega) c_28
          refine J_aload_n E dX6_spouts_31 rfl 0 rfl ?_
          refine J_iload_n E dX6_spouts_32 rfl 3 rfl ?_
          refine J_iconst E dX6_spouts_33 ic_4 ?_
          refine J_iload_n E dX6_spouts_34 rfl 1 rfl ?_
          refine J_iload_n E dX6_spouts_35 rfl 3 rfl ?_
          refine J_ishr E dX6_spouts_36 ?_
          refine J_iconst E dX6_spouts_37 ic_1 ?_
          refine J_iand E dX6_spouts_38 ?_
          refine J_cVv0 E (As := [.int (nI i), .int 4, .int ((v >>> ((nI i) &&& 31)) &&& 1)]) (c_X6_sets l G b (upG y 0 r) i 4 ((v >>> ((nI i) &&& 31)) &&& 1) (by omega) (by omega)) cl_X6_43 yo_X6_sets dX6_spouts_39 rfl rfl rfl (Nat.le_of_ble_eq_true rfl) (Nat.le_of_ble_eq_true rfl) rfl (Nat.le_of_ble_eq_true rfl) ⟨Nat.zero_le _, Nat.zero_le _⟩ ?_
          refine J_iinc E (lv' := [(3, .int (nI (i + 1))), (0, .ref (b 0)), (1, .int v), (2, .int (spoF ((y 0)) 11))]) dX6_spouts_42 3 rfl (nI_inc _) (by decide) rfl ?_
          refine J_goto E (tgt := 25) dX6_spouts_45 (by decide) ?_
          refine J_lv [1, 2, 3, 0] rfl ?_
          refine J_w (ws' := wM G b (upG y 0 (up2 r 4 i ((v >>> ((nI i) &&& 31)) &&& 1)))) (wM_c rfl rfl rfl rfl rfl rfl rfl rfl rfl rfl rfl) ?_
          exact ih25 (i + 1) (up2 r 4 i ((v >>> ((nI i) &&& 31)) &&& 1)) (by omega) (by rw [hr]; rfl) (by omega)
    refine J_lv [2, 3, 1, 0] rfl ?_
    refine J_w (ws' := wM G b (upG y 0 (y 0))) (wM_c rfl rfl rfl rfl rfl rfl rfl rfl rfl rfl rfl) ?_
    exact lp25 _ 0 (y 0) (by omega) rfl (Nat.lt_succ_self _)
  · skip
    have c_9 := bI_0 c_9
    exact absurd (by assumption) c_9

set_option maxHeartbeats 4000000 in
set_option maxRecDepth 20000 in
theorem c_X6_pour_bad (l : Launch) (G : GB) (b : Nat → Nat) (y : Q3) (h v : Int32) (hb : ¬ (okH h ∧ 0 ≤ v ∧ v ≤ 9999)) : CI l yX6_pour cX6_pour 3 .int 2 45 G [.ref (b 0), .int h, .int v] (wM G b y) (fun vR w' => vR = tellR 0 ∧ PubM G b (tellX y 0) w') := by
  refine CI.mk (own := RX6) (by decide) rfl (Nat.le_of_ble_eq_true rfl) ?_
  intro X E ret
  show J X G 3 0 0 (wM G b y) [(0, .ref (b 0)), (1, .int h), (2, .int v)] 0 []
  refine J_iload_n E dX6_pour_0 rfl 1 rfl ?_
  refine J_cSiN E (As := [.int h]) (c_X6_isHouse l G h ) cl_X6_87 yo_X6_isHouse dX6_pour_1 rfl (Nat.le_of_ble_eq_true rfl) (Nat.le_of_ble_eq_true rfl) rfl (Nat.le_of_ble_eq_true rfl) ⟨Nat.zero_le _, Nat.zero_le _⟩ ?_
  refine J_if_eq E (tgt := 19) dX6_pour_4 (by decide) (fun c_4 => ?_) (fun c_4 => ?_)
  · skip
    have c_4 := bI_0 c_4
    refine J_aload_n E dX6_pour_19 rfl 0 rfl ?_
    refine J_iconst E dX6_pour_20 ic_0 ?_
    refine J_cVi0 E (As := [.int 0]) (c_X6_finds l G b y 0 (by omega)) cl_X6_96 yo_X6_finds dX6_pour_21 rfl rfl rfl (Nat.le_of_ble_eq_true rfl) (Nat.le_of_ble_eq_true rfl) rfl (Nat.le_of_ble_eq_true rfl) ⟨Nat.zero_le _, Nat.zero_le _⟩ ?_
    exact ret _ _ _ _ ⟨rfl, _, rfl, by intro g h2 h5 h6; by_cases h0 : g = 0 <;> simp [tellX, upG, up3, up3R, up2, h0, h2, h5, h6]⟩ rfl dX6_pour_24
  · skip
    have c_4 := bI_1 c_4
    refine J_iload_n E dX6_pour_7 rfl 2 rfl ?_
    refine J_i2l E dX6_pour_8 rfl ?_
    refine J_lconst E dX6_pour_9 lc_0 ?_
    refine J_ldc2 E kl_X6_81 dX6_pour_10 ?_
    refine J_cSiN E (As := [.long (Int32.toInt64 v), .long 0, .long 9999]) (c_X6_in l G v 0 9999 0 9999 (by decide) (by decide) ) cl_X6_54 yo_X6_in dX6_pour_13 rfl (Nat.le_of_ble_eq_true rfl) (Nat.le_of_ble_eq_true rfl) rfl (Nat.le_of_ble_eq_true rfl) ⟨Nat.zero_le _, Nat.zero_le _⟩ ?_
    refine J_if_ne E (tgt := 25) dX6_pour_16 (by decide) (fun c_16 => ?_) (fun c_16 => ?_)
    · skip
      have c_16 := bI_1 c_16
      exact absurd ⟨c_4, c_16⟩ hb
    · skip
      have c_16 := bI_0 c_16
      refine J_aload_n E dX6_pour_19 rfl 0 rfl ?_
      refine J_iconst E dX6_pour_20 ic_0 ?_
      refine J_cVi0 E (As := [.int 0]) (c_X6_finds l G b y 0 (by omega)) cl_X6_96 yo_X6_finds dX6_pour_21 rfl rfl rfl (Nat.le_of_ble_eq_true rfl) (Nat.le_of_ble_eq_true rfl) rfl (Nat.le_of_ble_eq_true rfl) ⟨Nat.zero_le _, Nat.zero_le _⟩ ?_
      exact ret _ _ _ _ ⟨rfl, _, rfl, by intro g h2 h5 h6; by_cases h0 : g = 0 <;> simp [tellX, upG, up3, up3R, up2, h0, h2, h5, h6]⟩ rfl dX6_pour_24

set_option maxHeartbeats 4000000 in
set_option maxRecDepth 20000 in
theorem c_X6_pour_ok (l : Launch) (G : GB) (b : Nat → Nat) (y : Q3) (j : Nat) (v : Int32) (hj : j < 11) (hv : 0 ≤ v ∧ v ≤ 9999) : CI l yX6_pour cX6_pour 3 .int 3 65 G [.ref (b 0), .int (nI j), .int v] (wM G b y) (fun vR w' => vR = comesR (y 0) j v 1 j ∧ PubM G b (upG y 0 (comesR (y 0) j v)) w') := by
  refine CI.mk (own := RX6) (by decide) rfl (Nat.le_of_ble_eq_true rfl) ?_
  intro X E ret
  show J X G 3 0 0 (wM G b y) [(0, .ref (b 0)), (1, .int (nI j)), (2, .int v)] 0 []
  refine J_iload_n E dX6_pour_0 rfl 1 rfl ?_
  refine J_cSiN E (As := [.int (nI j)]) (c_X6_isHouse l G (nI j) ) cl_X6_87 yo_X6_isHouse dX6_pour_1 rfl (Nat.le_of_ble_eq_true rfl) (Nat.le_of_ble_eq_true rfl) rfl (Nat.le_of_ble_eq_true rfl) ⟨Nat.zero_le _, Nat.zero_le _⟩ ?_
  refine J_if_eq E (tgt := 19) dX6_pour_4 (by decide) (fun c_4 => ?_) (fun c_4 => ?_)
  · skip
    have c_4 := bI_0 c_4
    exact absurd (inB (a := j) (b := 10) (by omega) (by decide)) c_4
  · skip
    have c_4 := bI_1 c_4
    refine J_iload_n E dX6_pour_7 rfl 2 rfl ?_
    refine J_i2l E dX6_pour_8 rfl ?_
    refine J_lconst E dX6_pour_9 lc_0 ?_
    refine J_ldc2 E kl_X6_81 dX6_pour_10 ?_
    refine J_cSiN E (As := [.long (Int32.toInt64 v), .long 0, .long 9999]) (c_X6_in l G v 0 9999 0 9999 (by decide) (by decide) ) cl_X6_54 yo_X6_in dX6_pour_13 rfl (Nat.le_of_ble_eq_true rfl) (Nat.le_of_ble_eq_true rfl) rfl (Nat.le_of_ble_eq_true rfl) ⟨Nat.zero_le _, Nat.zero_le _⟩ ?_
    refine J_if_ne E (tgt := 25) dX6_pour_16 (by decide) (fun c_16 => ?_) (fun c_16 => ?_)
    · skip
      have c_16 := bI_1 c_16
      refine J_aload_n E dX6_pour_25 rfl 0 rfl ?_
      refine J_iload_n E dX6_pour_26 rfl 1 rfl ?_
      refine J_iload_n E dX6_pour_27 rfl 2 rfl ?_
      refine J_cVv0 E (As := [.int (nI j), .int v]) (c_X6_comes l G b y j (by omega) v ) cl_X6_127 yo_X6_comes dX6_pour_28 rfl rfl rfl (Nat.le_of_ble_eq_true rfl) (Nat.le_of_ble_eq_true rfl) rfl (Nat.le_of_ble_eq_true rfl) ⟨Nat.zero_le _, Nat.zero_le _⟩ ?_
      refine J_aload_n E dX6_pour_31 rfl 0 rfl ?_
      refine J_iload_n E dX6_pour_32 rfl 1 rfl ?_
      refine J_iconst E dX6_pour_33 ic_1 ?_
      refine J_cVi0 E (As := [.int (nI j), .int 1]) (c_X6_its l G b (upG y 0 (comesR (y 0) j v)) j 1 (by omega) (by omega)) cl_X6_64 yo_X6_its dX6_pour_34 rfl rfl rfl (Nat.le_of_ble_eq_true rfl) (Nat.le_of_ble_eq_true rfl) rfl (Nat.le_of_ble_eq_true rfl) ⟨Nat.zero_le _, Nat.zero_le _⟩ ?_
      refine J_top (x' := (comesR (y 0) j v) 1 j) (upG_s) ?_
      exact ret _ _ _ _ ⟨rfl, _, rfl, by intro g h2 h5 h6; by_cases h0 : g = 0 <;> simp [tellX, upG, up3, up3R, up2, h0, h2, h5, h6]⟩ rfl dX6_pour_37
    · skip
      have c_16 := bI_0 c_16
      exact absurd (by assumption) c_16

set_option maxHeartbeats 4000000 in
set_option maxRecDepth 20000 in
theorem c_X6_now_bad (l : Launch) (G : GB) (b : Nat → Nat) (y : Q3) (k : Int32) (hb : ¬ (0 ≤ k ∧ k ≤ 6)) : CI l yX6_now cX6_now 2 .int 1 21 G [.ref (b 0), .int k] (wM G b y) (fun vR w' => vR = tellR 0 ∧ PubM G b (tellX y 0) w') := by
  refine CI.mk (own := RX6) (by decide) rfl (Nat.le_of_ble_eq_true rfl) ?_
  intro X E ret
  show J X G 2 0 0 (wM G b y) [(0, .ref (b 0)), (1, .int k)] 0 []
  refine J_iload_n E dX6_now_0 rfl 1 rfl ?_
  by_cases c_1 : (k).toInt < 0 ∨ 6 < (k).toInt
  · refine J_tabOut E (tgt := 87) dX6_now_1 c_1 (by decide) ?_
    have n_1_0 : ¬ k = 0 := ne_out c_1 (by decide)
    have n_1_1 : ¬ k = 1 := ne_out c_1 (by decide)
    have n_1_2 : ¬ k = 2 := ne_out c_1 (by decide)
    have n_1_3 : ¬ k = 3 := ne_out c_1 (by decide)
    have n_1_4 : ¬ k = 4 := ne_out c_1 (by decide)
    have n_1_5 : ¬ k = 5 := ne_out c_1 (by decide)
    have n_1_6 : ¬ k = 6 := ne_out c_1 (by decide)
    refine J_aload_n E dX6_now_87 rfl 0 rfl ?_
    refine J_iconst E dX6_now_88 ic_0 ?_
    refine J_cVi0 E (As := [.int 0]) (c_X6_finds l G b y 0 (by omega)) cl_X6_96 yo_X6_finds dX6_now_89 rfl rfl rfl (Nat.le_of_ble_eq_true rfl) (Nat.le_of_ble_eq_true rfl) rfl (Nat.le_of_ble_eq_true rfl) ⟨Nat.zero_le _, Nat.zero_le _⟩ ?_
    exact ret _ _ _ _ ⟨rfl, _, rfl, by intro g h2 h5 h6; by_cases h0 : g = 0 <;> simp [tellX, upG, up3, up3R, up2, h0, h2, h5, h6]⟩ rfl dX6_now_92
  · rcases sw_0_6 c_1 with i_1 | i_1 | i_1 | i_1 | i_1 | i_1 | i_1
    · refine J_top i_1 ?_
      refine J_tabIn E (tgt := 44) (off := 43) dX6_now_1 (by decide) (by decide) rfl (by decide) ?_
      exact absurd (by rw [i_1]; decide) hb
    · refine J_top i_1 ?_
      refine J_tabIn E (tgt := 51) (off := 50) dX6_now_1 (by decide) (by decide) rfl (by decide) ?_
      exact absurd (by rw [i_1]; decide) hb
    · refine J_top i_1 ?_
      refine J_tabIn E (tgt := 56) (off := 55) dX6_now_1 (by decide) (by decide) rfl (by decide) ?_
      exact absurd (by rw [i_1]; decide) hb
    · refine J_top i_1 ?_
      refine J_tabIn E (tgt := 63) (off := 62) dX6_now_1 (by decide) (by decide) rfl (by decide) ?_
      exact absurd (by rw [i_1]; decide) hb
    · refine J_top i_1 ?_
      refine J_tabIn E (tgt := 70) (off := 69) dX6_now_1 (by decide) (by decide) rfl (by decide) ?_
      exact absurd (by rw [i_1]; decide) hb
    · refine J_top i_1 ?_
      refine J_tabIn E (tgt := 75) (off := 74) dX6_now_1 (by decide) (by decide) rfl (by decide) ?_
      exact absurd (by rw [i_1]; decide) hb
    · refine J_top i_1 ?_
      refine J_tabIn E (tgt := 80) (off := 79) dX6_now_1 (by decide) (by decide) rfl (by decide) ?_
      exact absurd (by rw [i_1]; decide) hb

set_option maxHeartbeats 4000000 in
set_option maxRecDepth 20000 in
theorem c_X6_now_ok (l : Launch) (G : GB) (b : Nat → Nat) (y : Q3) (k : Nat) (hk : k < 7) : CI l yX6_now cX6_now 2 .int 2 44 G [.ref (b 0), .int (nI k)] (wM G b y) (fun vR w' => vR = nowF (y 0) k ∧ PubM G b y w') := by
  refine CI.mk (own := RX6) (by decide) rfl (Nat.le_of_ble_eq_true rfl) ?_
  intro X E ret
  show J X G 2 0 0 (wM G b y) [(0, .ref (b 0)), (1, .int (nI k))] 0 []
  rcases (show k = 0 ∨ k = 1 ∨ k = 2 ∨ k = 3 ∨ k = 4 ∨ k = 5 ∨ k = 6 by omega) with rfl | rfl | rfl | rfl | rfl | rfl | rfl
  · skip
    refine J_iload_n E dX6_now_0 rfl 1 rfl ?_
    refine J_tabIn E (tgt := 44) (off := 43) dX6_now_1 (by decide) (by decide) rfl (by decide) ?_
    refine J_aload_n E dX6_now_44 rfl 0 rfl ?_
    refine gM0_X6_9 E dX6_now_45 ?_
    refine J_iconst E dX6_now_48 ic_0 ?_
    refine lMs E (j := 0) (r := 7) (i := 0) (at_7 (by decide)) dX6_now_49 ?_
    exact ret _ _ _ _ ⟨by simp [nowF], _, rfl, by intro g h2 h5 h6; by_cases h0 : g = 0 <;> simp [tellX, upG, up3, up3R, up2, h0, h2, h5, h6]⟩ rfl dX6_now_50
  · skip
    refine J_iload_n E dX6_now_0 rfl 1 rfl ?_
    refine J_tabIn E (tgt := 51) (off := 50) dX6_now_1 (by decide) (by decide) rfl (by decide) ?_
    refine J_aload_n E dX6_now_51 rfl 0 rfl ?_
    refine J_cVi0 E (As := []) (c_X6_waters l G b y ) cl_X6_147 yo_X6_waters dX6_now_52 rfl rfl rfl (Nat.le_of_ble_eq_true rfl) (Nat.le_of_ble_eq_true rfl) rfl (Nat.le_of_ble_eq_true rfl) ⟨Nat.zero_le _, Nat.zero_le _⟩ ?_
    exact ret _ _ _ _ ⟨by simp [nowF], _, rfl, by intro g h2 h5 h6; by_cases h0 : g = 0 <;> simp [tellX, upG, up3, up3R, up2, h0, h2, h5, h6]⟩ rfl dX6_now_55
  · skip
    refine J_iload_n E dX6_now_0 rfl 1 rfl ?_
    refine J_tabIn E (tgt := 56) (off := 55) dX6_now_1 (by decide) (by decide) rfl (by decide) ?_
    refine J_aload_n E dX6_now_56 rfl 0 rfl ?_
    refine gM0_X6_9 E dX6_now_57 ?_
    refine J_iconst E dX6_now_60 ic_3 ?_
    refine lMs E (j := 3) (r := 7) (i := 3) (at_7 (by decide)) dX6_now_61 ?_
    exact ret _ _ _ _ ⟨by simp [nowF], _, rfl, by intro g h2 h5 h6; by_cases h0 : g = 0 <;> simp [tellX, upG, up3, up3R, up2, h0, h2, h5, h6]⟩ rfl dX6_now_62
  · skip
    refine J_iload_n E dX6_now_0 rfl 1 rfl ?_
    refine J_tabIn E (tgt := 63) (off := 62) dX6_now_1 (by decide) (by decide) rfl (by decide) ?_
    refine J_aload_n E dX6_now_63 rfl 0 rfl ?_
    refine gM0_X6_9 E dX6_now_64 ?_
    refine J_iconst E dX6_now_67 ic_4 ?_
    refine lMs E (j := 4) (r := 7) (i := 4) (at_7 (by decide)) dX6_now_68 ?_
    exact ret _ _ _ _ ⟨by simp [nowF], _, rfl, by intro g h2 h5 h6; by_cases h0 : g = 0 <;> simp [tellX, upG, up3, up3R, up2, h0, h2, h5, h6]⟩ rfl dX6_now_69
  · skip
    refine J_iload_n E dX6_now_0 rfl 1 rfl ?_
    refine J_tabIn E (tgt := 70) (off := 69) dX6_now_1 (by decide) (by decide) rfl (by decide) ?_
    refine J_aload_n E dX6_now_70 rfl 0 rfl ?_
    refine J_cVi0 E (As := []) (c_X6_dryEver l G b y ) cl_X6_150 yo_X6_dryEver dX6_now_71 rfl rfl rfl (Nat.le_of_ble_eq_true rfl) (Nat.le_of_ble_eq_true rfl) rfl (Nat.le_of_ble_eq_true rfl) ⟨Nat.zero_le _, Nat.zero_le _⟩ ?_
    exact ret _ _ _ _ ⟨by simp [nowF], _, rfl, by intro g h2 h5 h6; by_cases h0 : g = 0 <;> simp [tellX, upG, up3, up3R, up2, h0, h2, h5, h6]⟩ rfl dX6_now_74
  · skip
    refine J_iload_n E dX6_now_0 rfl 1 rfl ?_
    refine J_tabIn E (tgt := 75) (off := 74) dX6_now_1 (by decide) (by decide) rfl (by decide) ?_
    refine J_aload_n E dX6_now_75 rfl 0 rfl ?_
    refine J_cVi0 E (As := []) (c_X6_spoutSet l G b y ) cl_X6_115 yo_X6_spoutSet dX6_now_76 rfl rfl rfl (Nat.le_of_ble_eq_true rfl) (Nat.le_of_ble_eq_true rfl) rfl (Nat.le_of_ble_eq_true rfl) ⟨Nat.zero_le _, Nat.zero_le _⟩ ?_
    exact ret _ _ _ _ ⟨by simp [nowF], _, rfl, by intro g h2 h5 h6; by_cases h0 : g = 0 <;> simp [tellX, upG, up3, up3R, up2, h0, h2, h5, h6]⟩ rfl dX6_now_79
  · skip
    refine J_iload_n E dX6_now_0 rfl 1 rfl ?_
    refine J_tabIn E (tgt := 80) (off := 79) dX6_now_1 (by decide) (by decide) rfl (by decide) ?_
    refine J_aload_n E dX6_now_80 rfl 0 rfl ?_
    refine gM0_X6_9 E dX6_now_81 ?_
    refine J_iconst E dX6_now_84 ic_2 ?_
    refine lMs E (j := 2) (r := 7) (i := 2) (at_7 (by decide)) dX6_now_85 ?_
    exact ret _ _ _ _ ⟨by simp [nowF], _, rfl, by intro g h2 h5 h6; by_cases h0 : g = 0 <;> simp [tellX, upG, up3, up3R, up2, h0, h2, h5, h6]⟩ rfl dX6_now_86

set_option maxHeartbeats 4000000 in
set_option maxRecDepth 20000 in
theorem c_X6_ahead_bad (l : Launch) (G : GB) (b : Nat → Nat) (y : Q3) (h w n : Int32) (hb : ¬ (okH h ∧ (w = 1 ∨ w = 5) ∧ 0 ≤ n ∧ n ≤ 100)) : CI l yX6_ahead cX6_ahead 5 .int 2 45 G [.ref (b 0), .int h, .int w, .int n] (wM G b y) (fun vR w' => vR = tellR 0 ∧ PubM G b (tellX y 0) w') := by
  refine CI.mk (own := RX6) (by decide) rfl (Nat.le_of_ble_eq_true rfl) ?_
  intro X E ret
  show J X G 5 0 0 (wM G b y) [(0, .ref (b 0)), (1, .int h), (2, .int w), (3, .int n)] 0 []
  refine J_iload_n E dX6_ahead_0 rfl 1 rfl ?_
  refine J_cSiN E (As := [.int h]) (c_X6_isHouse l G h ) cl_X6_87 yo_X6_isHouse dX6_ahead_1 rfl (Nat.le_of_ble_eq_true rfl) (Nat.le_of_ble_eq_true rfl) rfl (Nat.le_of_ble_eq_true rfl) ⟨Nat.zero_le _, Nat.zero_le _⟩ ?_
  refine J_if_eq E (tgt := 24) dX6_ahead_4 (by decide) (fun c_4 => ?_) (fun c_4 => ?_)
  · skip
    have c_4 := bI_0 c_4
    refine J_aload_n E dX6_ahead_24 rfl 0 rfl ?_
    refine J_iconst E dX6_ahead_25 ic_0 ?_
    refine J_cVi0 E (As := [.int 0]) (c_X6_finds l G b y 0 (by omega)) cl_X6_96 yo_X6_finds dX6_ahead_26 rfl rfl rfl (Nat.le_of_ble_eq_true rfl) (Nat.le_of_ble_eq_true rfl) rfl (Nat.le_of_ble_eq_true rfl) ⟨Nat.zero_le _, Nat.zero_le _⟩ ?_
    exact ret _ _ _ _ ⟨rfl, _, rfl, by intro g h2 h5 h6; by_cases h0 : g = 0 <;> simp [tellX, upG, up3, up3R, up2, h0, h2, h5, h6]⟩ rfl dX6_ahead_29
  · skip
    have c_4 := bI_1 c_4
    refine J_iload_n E dX6_ahead_7 rfl 2 rfl ?_
    refine J_iconst E dX6_ahead_8 ic_1 ?_
    refine J_icmp_eq E (tgt := 17) dX6_ahead_9 (by decide) (fun c_9 => ?_) (fun c_9 => ?_)
    · skip
      have hw : w = 1 ∨ w = 5 := Or.inl c_9
      refine J_iload_n E dX6_ahead_17 rfl 3 rfl ?_
      refine J_cSiN E (As := [.int n]) (c_X6_isAhead l G n ) cl_X6_157 yo_X6_isAhead dX6_ahead_18 rfl (Nat.le_of_ble_eq_true rfl) (Nat.le_of_ble_eq_true rfl) rfl (Nat.le_of_ble_eq_true rfl) ⟨Nat.zero_le _, Nat.zero_le _⟩ ?_
      refine J_if_ne E (tgt := 30) dX6_ahead_21 (by decide) (fun c_21 => ?_) (fun c_21 => ?_)
      · skip
        have c_21 := bI_1 c_21
        exact absurd ⟨c_4, hw, c_21⟩ hb
      · skip
        have c_21 := bI_0 c_21
        refine J_aload_n E dX6_ahead_24 rfl 0 rfl ?_
        refine J_iconst E dX6_ahead_25 ic_0 ?_
        refine J_cVi0 E (As := [.int 0]) (c_X6_finds l G b y 0 (by omega)) cl_X6_96 yo_X6_finds dX6_ahead_26 rfl rfl rfl (Nat.le_of_ble_eq_true rfl) (Nat.le_of_ble_eq_true rfl) rfl (Nat.le_of_ble_eq_true rfl) ⟨Nat.zero_le _, Nat.zero_le _⟩ ?_
        exact ret _ _ _ _ ⟨rfl, _, rfl, by intro g h2 h5 h6; by_cases h0 : g = 0 <;> simp [tellX, upG, up3, up3R, up2, h0, h2, h5, h6]⟩ rfl dX6_ahead_29
    · skip
      refine J_iload_n E dX6_ahead_12 rfl 2 rfl ?_
      refine J_iconst E dX6_ahead_13 ic_5 ?_
      refine J_icmp_ne E (tgt := 24) dX6_ahead_14 (by decide) (fun c_14 => ?_) (fun c_14 => ?_)
      · skip
        refine J_aload_n E dX6_ahead_24 rfl 0 rfl ?_
        refine J_iconst E dX6_ahead_25 ic_0 ?_
        refine J_cVi0 E (As := [.int 0]) (c_X6_finds l G b y 0 (by omega)) cl_X6_96 yo_X6_finds dX6_ahead_26 rfl rfl rfl (Nat.le_of_ble_eq_true rfl) (Nat.le_of_ble_eq_true rfl) rfl (Nat.le_of_ble_eq_true rfl) ⟨Nat.zero_le _, Nat.zero_le _⟩ ?_
        exact ret _ _ _ _ ⟨rfl, _, rfl, by intro g h2 h5 h6; by_cases h0 : g = 0 <;> simp [tellX, upG, up3, up3R, up2, h0, h2, h5, h6]⟩ rfl dX6_ahead_29
      · skip
        have hw : w = 1 ∨ w = 5 := Or.inr c_14
        refine J_iload_n E dX6_ahead_17 rfl 3 rfl ?_
        refine J_cSiN E (As := [.int n]) (c_X6_isAhead l G n ) cl_X6_157 yo_X6_isAhead dX6_ahead_18 rfl (Nat.le_of_ble_eq_true rfl) (Nat.le_of_ble_eq_true rfl) rfl (Nat.le_of_ble_eq_true rfl) ⟨Nat.zero_le _, Nat.zero_le _⟩ ?_
        refine J_if_ne E (tgt := 30) dX6_ahead_21 (by decide) (fun c_21 => ?_) (fun c_21 => ?_)
        · skip
          have c_21 := bI_1 c_21
          exact absurd ⟨c_4, hw, c_21⟩ hb
        · skip
          have c_21 := bI_0 c_21
          refine J_aload_n E dX6_ahead_24 rfl 0 rfl ?_
          refine J_iconst E dX6_ahead_25 ic_0 ?_
          refine J_cVi0 E (As := [.int 0]) (c_X6_finds l G b y 0 (by omega)) cl_X6_96 yo_X6_finds dX6_ahead_26 rfl rfl rfl (Nat.le_of_ble_eq_true rfl) (Nat.le_of_ble_eq_true rfl) rfl (Nat.le_of_ble_eq_true rfl) ⟨Nat.zero_le _, Nat.zero_le _⟩ ?_
          exact ret _ _ _ _ ⟨rfl, _, rfl, by intro g h2 h5 h6; by_cases h0 : g = 0 <;> simp [tellX, upG, up3, up3R, up2, h0, h2, h5, h6]⟩ rfl dX6_ahead_29

set_option maxHeartbeats 4000000 in
set_option maxRecDepth 20000 in
theorem c_X6_ahead_ok (l : Launch) (G : GB) (b : Nat → Nat) (y : Q3) (j k n : Nat) (hj : j < 11) (hk : k = 1 ∨ k = 5) (hn : n ≤ 100) (hok : okQ (y 0))  : CI l yX6_ahead cX6_ahead 5 .int 5 113 G [.ref (b 0), .int (nI j), .int (nI k), .int (nI n)] (wM G b y) (fun vR w' => vR = hoursR (y 0) n k j ∧ PubM G b y w') := by
  refine CI.mk (own := RX6) (by decide) rfl (Nat.le_of_ble_eq_true rfl) ?_
  intro X E ret
  show J X G 5 0 0 (wM G b y) [(0, .ref (b 0)), (1, .int (nI j)), (2, .int (nI k)), (3, .int (nI n))] 0 []
  rcases hk with rfl | rfl
  · skip
    refine J_iload_n E dX6_ahead_0 rfl 1 rfl ?_
    refine J_cSiN E (As := [.int (nI j)]) (c_X6_isHouse l G (nI j) ) cl_X6_87 yo_X6_isHouse dX6_ahead_1 rfl (Nat.le_of_ble_eq_true rfl) (Nat.le_of_ble_eq_true rfl) rfl (Nat.le_of_ble_eq_true rfl) ⟨Nat.zero_le _, Nat.zero_le _⟩ ?_
    refine J_if_eq E (tgt := 24) dX6_ahead_4 (by decide) (fun c_4 => ?_) (fun c_4 => ?_)
    · skip
      have c_4 := bI_0 c_4
      exact absurd (inB (a := j) (b := 10) (by omega) (by decide)) c_4
    · skip
      have c_4 := bI_1 c_4
      refine J_iload_n E dX6_ahead_7 rfl 2 rfl ?_
      refine J_iconst E dX6_ahead_8 ic_1 ?_
      refine J_icmp_eq E (tgt := 17) dX6_ahead_9 (by decide) (fun c_9 => ?_) (fun c_9 => ?_)
      · skip
        have n_9 : 1 = 1 := cmp_eq (a := 1) (b := 1) (by omega) (by omega) c_9
        refine J_iload_n E dX6_ahead_17 rfl 3 rfl ?_
        refine J_cSiN E (As := [.int (nI n)]) (c_X6_isAhead l G (nI n) ) cl_X6_157 yo_X6_isAhead dX6_ahead_18 rfl (Nat.le_of_ble_eq_true rfl) (Nat.le_of_ble_eq_true rfl) rfl (Nat.le_of_ble_eq_true rfl) ⟨Nat.zero_le _, Nat.zero_le _⟩ ?_
        refine J_if_ne E (tgt := 30) dX6_ahead_21 (by decide) (fun c_21 => ?_) (fun c_21 => ?_)
        · skip
          have c_21 := bI_1 c_21
          refine J_aload_n E dX6_ahead_30 rfl 0 rfl ?_
          refine J_cVv0 E (As := []) (c_X6_lends l G b y ) cl_X6_160 yo_X6_lends dX6_ahead_31 rfl rfl rfl (Nat.le_of_ble_eq_true rfl) (Nat.le_of_ble_eq_true rfl) rfl (Nat.le_of_ble_eq_true rfl) ⟨Nat.zero_le _, Nat.zero_le _⟩ ?_
          refine J_aload_n E dX6_ahead_34 rfl 0 rfl ?_
          refine J_iload_n E dX6_ahead_35 rfl 3 rfl ?_
          refine J_callEv E (As := [.int (nI n)]) (c_X6_hours l G b (upG y 2 (y 0)) n (by omega) hok) cl_X6_144 yo_X6_hours dX6_ahead_36 rfl (Nat.le_of_ble_eq_true rfl) (Nat.le_of_ble_eq_true rfl) rfl (Nat.le_of_ble_eq_true rfl) ⟨Nat.zero_le _, Nat.zero_le _⟩ (fun d36_1 => ?_)
          refine J_w (ws' := wM G b (upG (upG (upG y 2 (y 0)) 5 d36_1) 0 (hoursR (y 0) n))) (wM_c rfl rfl rfl rfl rfl rfl rfl rfl rfl rfl rfl) ?_
          refine J_aload_n E dX6_ahead_39 rfl 0 rfl ?_
          refine J_iload_n E dX6_ahead_40 rfl 1 rfl ?_
          refine J_iload_n E dX6_ahead_41 rfl 2 rfl ?_
          refine J_cVi0 E (As := [.int (nI j), .int (nI 1)]) (c_X6_its l G b (upG (upG (upG y 2 (y 0)) 5 d36_1) 0 (hoursR (y 0) n)) j 1 (by omega) (by omega)) cl_X6_64 yo_X6_its dX6_ahead_42 rfl rfl rfl (Nat.le_of_ble_eq_true rfl) (Nat.le_of_ble_eq_true rfl) rfl (Nat.le_of_ble_eq_true rfl) ⟨Nat.zero_le _, Nat.zero_le _⟩ ?_
          refine J_top (x' := (hoursR (y 0) n) 1 j) (upG_s) ?_
          refine J_istore E (lv' := [(4, .int ((hoursR (y 0) n) 1 j)), (0, .ref (b 0)), (1, .int (nI j)), (2, .int (nI 1)), (3, .int (nI n))]) dX6_ahead_45 (by decide) rfl ?_
          refine J_aload_n E dX6_ahead_47 rfl 1 rfl ?_
          refine J_cVv0 E (As := []) (c_X6_laysBack l G b (upG (upG (upG y 2 (y 0)) 5 d36_1) 0 (hoursR (y 0) n)) ) cl_X6_163 yo_X6_laysBack dX6_ahead_48 rfl rfl rfl (Nat.le_of_ble_eq_true rfl) (Nat.le_of_ble_eq_true rfl) rfl (Nat.le_of_ble_eq_true rfl) ⟨Nat.zero_le _, Nat.zero_le _⟩ ?_
          refine J_iload E dX6_ahead_51 0 rfl ?_
          exact ret _ _ _ _ ⟨rfl, _, rfl, by intro g h2 h5 h6; by_cases h0 : g = 0 <;> simp [tellX, upG, up3, up3R, up2, h0, h2, h5, h6]⟩ rfl dX6_ahead_53
        · skip
          have c_21 := bI_0 c_21
          exact absurd (inB (a := n) (b := 100) (by omega) (by decide)) c_21
      · skip
        have n_9 : ¬ 1 = 1 := cmp_ne (a := 1) (b := 1) (by omega) (by omega) c_9
        exact absurd n_9 (by decide)
  · skip
    refine J_iload_n E dX6_ahead_0 rfl 1 rfl ?_
    refine J_cSiN E (As := [.int (nI j)]) (c_X6_isHouse l G (nI j) ) cl_X6_87 yo_X6_isHouse dX6_ahead_1 rfl (Nat.le_of_ble_eq_true rfl) (Nat.le_of_ble_eq_true rfl) rfl (Nat.le_of_ble_eq_true rfl) ⟨Nat.zero_le _, Nat.zero_le _⟩ ?_
    refine J_if_eq E (tgt := 24) dX6_ahead_4 (by decide) (fun c_4 => ?_) (fun c_4 => ?_)
    · skip
      have c_4 := bI_0 c_4
      exact absurd (inB (a := j) (b := 10) (by omega) (by decide)) c_4
    · skip
      have c_4 := bI_1 c_4
      refine J_iload_n E dX6_ahead_7 rfl 2 rfl ?_
      refine J_iconst E dX6_ahead_8 ic_1 ?_
      refine J_icmp_eq E (tgt := 17) dX6_ahead_9 (by decide) (fun c_9 => ?_) (fun c_9 => ?_)
      · skip
        have n_9 : 5 = 1 := cmp_eq (a := 5) (b := 1) (by omega) (by omega) c_9
        exact absurd n_9 (by decide)
      · skip
        have n_9 : ¬ 5 = 1 := cmp_ne (a := 5) (b := 1) (by omega) (by omega) c_9
        refine J_iload_n E dX6_ahead_12 rfl 2 rfl ?_
        refine J_iconst E dX6_ahead_13 ic_5 ?_
        refine J_icmp_ne E (tgt := 24) dX6_ahead_14 (by decide) (fun c_14 => ?_) (fun c_14 => ?_)
        · skip
          have n_14 : ¬ 5 = 5 := cmp_ne (a := 5) (b := 5) (by omega) (by omega) c_14
          exact absurd n_14 (by decide)
        · skip
          have n_14 : 5 = 5 := cmp_eq (a := 5) (b := 5) (by omega) (by omega) c_14
          refine J_iload_n E dX6_ahead_17 rfl 3 rfl ?_
          refine J_cSiN E (As := [.int (nI n)]) (c_X6_isAhead l G (nI n) ) cl_X6_157 yo_X6_isAhead dX6_ahead_18 rfl (Nat.le_of_ble_eq_true rfl) (Nat.le_of_ble_eq_true rfl) rfl (Nat.le_of_ble_eq_true rfl) ⟨Nat.zero_le _, Nat.zero_le _⟩ ?_
          refine J_if_ne E (tgt := 30) dX6_ahead_21 (by decide) (fun c_21 => ?_) (fun c_21 => ?_)
          · skip
            have c_21 := bI_1 c_21
            refine J_aload_n E dX6_ahead_30 rfl 0 rfl ?_
            refine J_cVv0 E (As := []) (c_X6_lends l G b y ) cl_X6_160 yo_X6_lends dX6_ahead_31 rfl rfl rfl (Nat.le_of_ble_eq_true rfl) (Nat.le_of_ble_eq_true rfl) rfl (Nat.le_of_ble_eq_true rfl) ⟨Nat.zero_le _, Nat.zero_le _⟩ ?_
            refine J_aload_n E dX6_ahead_34 rfl 0 rfl ?_
            refine J_iload_n E dX6_ahead_35 rfl 3 rfl ?_
            refine J_callEv E (As := [.int (nI n)]) (c_X6_hours l G b (upG y 2 (y 0)) n (by omega) hok) cl_X6_144 yo_X6_hours dX6_ahead_36 rfl (Nat.le_of_ble_eq_true rfl) (Nat.le_of_ble_eq_true rfl) rfl (Nat.le_of_ble_eq_true rfl) ⟨Nat.zero_le _, Nat.zero_le _⟩ (fun d36_2 => ?_)
            refine J_w (ws' := wM G b (upG (upG (upG y 2 (y 0)) 5 d36_2) 0 (hoursR (y 0) n))) (wM_c rfl rfl rfl rfl rfl rfl rfl rfl rfl rfl rfl) ?_
            refine J_aload_n E dX6_ahead_39 rfl 0 rfl ?_
            refine J_iload_n E dX6_ahead_40 rfl 1 rfl ?_
            refine J_iload_n E dX6_ahead_41 rfl 2 rfl ?_
            refine J_cVi0 E (As := [.int (nI j), .int (nI 5)]) (c_X6_its l G b (upG (upG (upG y 2 (y 0)) 5 d36_2) 0 (hoursR (y 0) n)) j 5 (by omega) (by omega)) cl_X6_64 yo_X6_its dX6_ahead_42 rfl rfl rfl (Nat.le_of_ble_eq_true rfl) (Nat.le_of_ble_eq_true rfl) rfl (Nat.le_of_ble_eq_true rfl) ⟨Nat.zero_le _, Nat.zero_le _⟩ ?_
            refine J_top (x' := (hoursR (y 0) n) 5 j) (upG_s) ?_
            refine J_istore E (lv' := [(4, .int ((hoursR (y 0) n) 5 j)), (0, .ref (b 0)), (1, .int (nI j)), (2, .int (nI 5)), (3, .int (nI n))]) dX6_ahead_45 (by decide) rfl ?_
            refine J_aload_n E dX6_ahead_47 rfl 1 rfl ?_
            refine J_cVv0 E (As := []) (c_X6_laysBack l G b (upG (upG (upG y 2 (y 0)) 5 d36_2) 0 (hoursR (y 0) n)) ) cl_X6_163 yo_X6_laysBack dX6_ahead_48 rfl rfl rfl (Nat.le_of_ble_eq_true rfl) (Nat.le_of_ble_eq_true rfl) rfl (Nat.le_of_ble_eq_true rfl) ⟨Nat.zero_le _, Nat.zero_le _⟩ ?_
            refine J_iload E dX6_ahead_51 0 rfl ?_
            exact ret _ _ _ _ ⟨rfl, _, rfl, by intro g h2 h5 h6; by_cases h0 : g = 0 <;> simp [tellX, upG, up3, up3R, up2, h0, h2, h5, h6]⟩ rfl dX6_ahead_53
          · skip
            have c_21 := bI_0 c_21
            exact absurd (inB (a := n) (b := 100) (by omega) (by decide)) c_21

set_option maxHeartbeats 4000000 in
set_option maxRecDepth 20000 in
theorem c_X6_alleyIn (l : Launch) (G : GB) (b : Nat → Nat) (y : Q3) (m : Nat) (hm : m ≤ 1000) (hok : okQ (y 0))  : CI l yX6_alleyIn cX6_alleyIn 3 .int 5 113 G [.ref (b 0), .int (nI m)] (wM G b y) (fun vR w' => vR = hoursR (y 0) m 7 3 ∧ ∃ d : Q2, w' = wM G b (upG (upG y 5 d) 0 (y 2))) := by
  refine CI.mk (own := RX6) (by decide) rfl (Nat.le_of_ble_eq_true rfl) ?_
  intro X E ret
  show J X G 3 0 0 (wM G b y) [(0, .ref (b 0)), (1, .int (nI m))] 0 []
  refine J_aload_n E dX6_alleyIn_0 rfl 0 rfl ?_
  refine J_iload_n E dX6_alleyIn_1 rfl 1 rfl ?_
  refine J_callEv E (As := [.int (nI m)]) (c_X6_hours l G b y m (by omega) hok) cl_X6_144 yo_X6_hours dX6_alleyIn_2 rfl (Nat.le_of_ble_eq_true rfl) (Nat.le_of_ble_eq_true rfl) rfl (Nat.le_of_ble_eq_true rfl) ⟨Nat.zero_le _, Nat.zero_le _⟩ (fun d2_1 => ?_)
  refine J_aload_n E dX6_alleyIn_5 rfl 0 rfl ?_
  refine gM0_X6_9 E dX6_alleyIn_6 ?_
  refine J_iconst E dX6_alleyIn_9 ic_3 ?_
  refine lMs E (j := 3) (r := 7) (i := 3) (at_7 (by decide)) dX6_alleyIn_10 ?_
  refine J_top (x' := (hoursR (y 0) m) 7 3) upG_s ?_
  refine J_istore_n E (lv' := [(2, .int ((hoursR (y 0) m) 7 3)), (0, .ref (b 0)), (1, .int (nI m))]) dX6_alleyIn_11 rfl (by decide) rfl ?_
  refine J_aload_n E dX6_alleyIn_12 rfl 1 rfl ?_
  refine J_cVv0 E (As := []) (c_X6_laysBack l G b (upG (upG y 5 d2_1) 0 (hoursR (y 0) m)) ) cl_X6_163 yo_X6_laysBack dX6_alleyIn_13 rfl rfl rfl (Nat.le_of_ble_eq_true rfl) (Nat.le_of_ble_eq_true rfl) rfl (Nat.le_of_ble_eq_true rfl) ⟨Nat.zero_le _, Nat.zero_le _⟩ ?_
  refine J_iload_n E dX6_alleyIn_16 rfl 0 rfl ?_
  exact ret _ _ _ _ ⟨rfl, d2_1, (wM_c rfl rfl rfl rfl rfl rfl rfl rfl rfl rfl rfl)⟩ rfl dX6_alleyIn_17

set_option maxHeartbeats 4000000 in
set_option maxRecDepth 20000 in
theorem c_X6_alley_bad (l : Launch) (G : GB) (b : Nat → Nat) (y : Q3) (n : Int32) (hb : ¬ (0 ≤ n ∧ n ≤ 100)) : CI l yX6_alley cX6_alley 2 .int 2 45 G [.ref (b 0), .int n] (wM G b y) (fun vR w' => vR = tellR 0 ∧ PubM G b (tellX y 0) w') := by
  refine CI.mk (own := RX6) (by decide) rfl (Nat.le_of_ble_eq_true rfl) ?_
  intro X E ret
  show J X G 2 0 0 (wM G b y) [(0, .ref (b 0)), (1, .int n)] 0 []
  refine J_iload_n E dX6_alley_0 rfl 1 rfl ?_
  refine J_cSiN E (As := [.int n]) (c_X6_isAhead l G n ) cl_X6_157 yo_X6_isAhead dX6_alley_1 rfl (Nat.le_of_ble_eq_true rfl) (Nat.le_of_ble_eq_true rfl) rfl (Nat.le_of_ble_eq_true rfl) ⟨Nat.zero_le _, Nat.zero_le _⟩ ?_
  refine J_if_ne E (tgt := 13) dX6_alley_4 (by decide) (fun c_4 => ?_) (fun c_4 => ?_)
  · skip
    have c_4 := bI_1 c_4
    exact absurd c_4 hb
  · skip
    have c_4 := bI_0 c_4
    refine J_aload_n E dX6_alley_7 rfl 0 rfl ?_
    refine J_iconst E dX6_alley_8 ic_0 ?_
    refine J_cVi0 E (As := [.int 0]) (c_X6_finds l G b y 0 (by omega)) cl_X6_96 yo_X6_finds dX6_alley_9 rfl rfl rfl (Nat.le_of_ble_eq_true rfl) (Nat.le_of_ble_eq_true rfl) rfl (Nat.le_of_ble_eq_true rfl) ⟨Nat.zero_le _, Nat.zero_le _⟩ ?_
    exact ret _ _ _ _ ⟨rfl, _, rfl, by intro g h2 h5 h6; by_cases h0 : g = 0 <;> simp [tellX, upG, up3, up3R, up2, h0, h2, h5, h6]⟩ rfl dX6_alley_12

set_option maxHeartbeats 4000000 in
set_option maxRecDepth 20000 in
theorem c_X6_alley_ok (l : Launch) (G : GB) (b : Nat → Nat) (y : Q3) (n : Nat) (hn : n ≤ 100) (hok : okQ (y 0))  : CI l yX6_alley cX6_alley 2 .int 6 135 G [.ref (b 0), .int (nI n)] (wM G b y) (fun vR w' => vR = hoursR (y 0) n 7 3 ∧ PubM G b y w') := by
  refine CI.mk (own := RX6) (by decide) rfl (Nat.le_of_ble_eq_true rfl) ?_
  intro X E ret
  show J X G 2 0 0 (wM G b y) [(0, .ref (b 0)), (1, .int (nI n))] 0 []
  refine J_iload_n E dX6_alley_0 rfl 1 rfl ?_
  refine J_cSiN E (As := [.int (nI n)]) (c_X6_isAhead l G (nI n) ) cl_X6_157 yo_X6_isAhead dX6_alley_1 rfl (Nat.le_of_ble_eq_true rfl) (Nat.le_of_ble_eq_true rfl) rfl (Nat.le_of_ble_eq_true rfl) ⟨Nat.zero_le _, Nat.zero_le _⟩ ?_
  refine J_if_ne E (tgt := 13) dX6_alley_4 (by decide) (fun c_4 => ?_) (fun c_4 => ?_)
  · skip
    have c_4 := bI_1 c_4
    refine J_aload_n E dX6_alley_13 rfl 0 rfl ?_
    refine J_cVv0 E (As := []) (c_X6_lends l G b y ) cl_X6_160 yo_X6_lends dX6_alley_14 rfl rfl rfl (Nat.le_of_ble_eq_true rfl) (Nat.le_of_ble_eq_true rfl) rfl (Nat.le_of_ble_eq_true rfl) ⟨Nat.zero_le _, Nat.zero_le _⟩ ?_
    refine J_aload_n E dX6_alley_17 rfl 0 rfl ?_
    refine J_iload_n E dX6_alley_18 rfl 1 rfl ?_
    refine J_callEi E (As := [.int (nI n)]) (c_X6_alleyIn l G b (upG y 2 (y 0)) n (by omega) hok) cl_X6_166 yo_X6_alleyIn dX6_alley_19 rfl (Nat.le_of_ble_eq_true rfl) (Nat.le_of_ble_eq_true rfl) rfl (Nat.le_of_ble_eq_true rfl) ⟨Nat.zero_le _, Nat.zero_le _⟩ (fun d19_1 => ?_)
    refine J_w (ws' := wM G b (upG (upG (upG y 2 (y 0)) 5 d19_1) 0 (y 0))) (wM_c rfl rfl rfl rfl rfl rfl rfl rfl rfl rfl rfl) ?_
    refine J_top (x' := hoursR (y 0) n 7 3) rfl ?_
    exact ret _ _ _ _ ⟨rfl, _, rfl, by intro g h2 h5 h6; by_cases h0 : g = 0 <;> simp [tellX, upG, up3, up3R, up2, h0, h2, h5, h6]⟩ rfl dX6_alley_22
  · skip
    have c_4 := bI_0 c_4
    exact absurd (inB (a := n) (b := 100) (by omega) (by decide)) c_4

set_option maxHeartbeats 4000000 in
set_option maxRecDepth 20000 in
theorem c_X6_dry_bad (l : Launch) (G : GB) (b : Nat → Nat) (y : Q3) (n : Int32) (hb : ¬ (0 ≤ n ∧ n ≤ 100)) : CI l yX6_dry cX6_dry 3 .int 2 45 G [.ref (b 0), .int n] (wM G b y) (fun vR w' => vR = tellR 0 ∧ PubM G b (tellX y 0) w') := by
  refine CI.mk (own := RX6) (by decide) rfl (Nat.le_of_ble_eq_true rfl) ?_
  intro X E ret
  show J X G 3 0 0 (wM G b y) [(0, .ref (b 0)), (1, .int n)] 0 []
  refine J_iload_n E dX6_dry_0 rfl 1 rfl ?_
  refine J_cSiN E (As := [.int n]) (c_X6_isAhead l G n ) cl_X6_157 yo_X6_isAhead dX6_dry_1 rfl (Nat.le_of_ble_eq_true rfl) (Nat.le_of_ble_eq_true rfl) rfl (Nat.le_of_ble_eq_true rfl) ⟨Nat.zero_le _, Nat.zero_le _⟩ ?_
  refine J_if_ne E (tgt := 13) dX6_dry_4 (by decide) (fun c_4 => ?_) (fun c_4 => ?_)
  · skip
    have c_4 := bI_1 c_4
    exact absurd c_4 hb
  · skip
    have c_4 := bI_0 c_4
    refine J_aload_n E dX6_dry_7 rfl 0 rfl ?_
    refine J_iconst E dX6_dry_8 ic_0 ?_
    refine J_cVi0 E (As := [.int 0]) (c_X6_finds l G b y 0 (by omega)) cl_X6_96 yo_X6_finds dX6_dry_9 rfl rfl rfl (Nat.le_of_ble_eq_true rfl) (Nat.le_of_ble_eq_true rfl) rfl (Nat.le_of_ble_eq_true rfl) ⟨Nat.zero_le _, Nat.zero_le _⟩ ?_
    exact ret _ _ _ _ ⟨rfl, _, rfl, by intro g h2 h5 h6; by_cases h0 : g = 0 <;> simp [tellX, upG, up3, up3R, up2, h0, h2, h5, h6]⟩ rfl dX6_dry_12

set_option maxHeartbeats 4000000 in
set_option maxRecDepth 20000 in
theorem c_X6_dry_ok (l : Launch) (G : GB) (b : Nat → Nat) (y : Q3) (n : Nat) (hn : n ≤ 100) (hok : okQ (y 0))  : CI l yX6_dry cX6_dry 3 .int 5 114 G [.ref (b 0), .int (nI n)] (wM G b y) (fun vR w' => vR = drysR (y 0) n ∧ PubM G b y w') := by
  refine CI.mk (own := RX6) (by decide) rfl (Nat.le_of_ble_eq_true rfl) ?_
  intro X E ret
  show J X G 3 0 0 (wM G b y) [(0, .ref (b 0)), (1, .int (nI n))] 0 []
  refine J_iload_n E dX6_dry_0 rfl 1 rfl ?_
  refine J_cSiN E (As := [.int (nI n)]) (c_X6_isAhead l G (nI n) ) cl_X6_157 yo_X6_isAhead dX6_dry_1 rfl (Nat.le_of_ble_eq_true rfl) (Nat.le_of_ble_eq_true rfl) rfl (Nat.le_of_ble_eq_true rfl) ⟨Nat.zero_le _, Nat.zero_le _⟩ ?_
  refine J_if_ne E (tgt := 13) dX6_dry_4 (by decide) (fun c_4 => ?_) (fun c_4 => ?_)
  · skip
    have c_4 := bI_1 c_4
    refine J_aload_n E dX6_dry_13 rfl 0 rfl ?_
    refine J_cVv0 E (As := []) (c_X6_lends l G b y ) cl_X6_160 yo_X6_lends dX6_dry_14 rfl rfl rfl (Nat.le_of_ble_eq_true rfl) (Nat.le_of_ble_eq_true rfl) rfl (Nat.le_of_ble_eq_true rfl) ⟨Nat.zero_le _, Nat.zero_le _⟩ ?_
    refine J_aload_n E dX6_dry_17 rfl 0 rfl ?_
    refine J_iload_n E dX6_dry_18 rfl 1 rfl ?_
    refine J_callEi E (As := [.int (nI n)]) (c_X6_dryIn l G b (upG y 2 (y 0)) n (by omega) hok) cl_X6_169 yo_X6_dryIn dX6_dry_19 rfl (Nat.le_of_ble_eq_true rfl) (Nat.le_of_ble_eq_true rfl) rfl (Nat.le_of_ble_eq_true rfl) ⟨Nat.zero_le _, Nat.zero_le _⟩ (fun d19_1 => ?_)
    refine J_w (ws' := wM G b (upG (upG (upG y 2 (y 0)) 5 d19_1) 0 (hoursR (y 0) n))) (wM_c rfl rfl rfl rfl rfl rfl rfl rfl rfl rfl rfl) ?_
    refine J_top (x' := drysR (y 0) n) rfl ?_
    refine J_istore_n E (lv' := [(2, .int (drysR (y 0) n)), (0, .ref (b 0)), (1, .int (nI n))]) dX6_dry_22 rfl (by decide) rfl ?_
    refine J_aload_n E dX6_dry_23 rfl 1 rfl ?_
    refine J_cVv0 E (As := []) (c_X6_laysBack l G b (upG (upG (upG y 2 (y 0)) 5 d19_1) 0 (hoursR (y 0) n)) ) cl_X6_163 yo_X6_laysBack dX6_dry_24 rfl rfl rfl (Nat.le_of_ble_eq_true rfl) (Nat.le_of_ble_eq_true rfl) rfl (Nat.le_of_ble_eq_true rfl) ⟨Nat.zero_le _, Nat.zero_le _⟩ ?_
    refine J_iload_n E dX6_dry_27 rfl 0 rfl ?_
    exact ret _ _ _ _ ⟨rfl, _, rfl, by intro g h2 h5 h6; by_cases h0 : g = 0 <;> simp [tellX, upG, up3, up3R, up2, h0, h2, h5, h6]⟩ rfl dX6_dry_28
  · skip
    have c_4 := bI_0 c_4
    exact absurd (inB (a := n) (b := 100) (by omega) (by decide)) c_4
