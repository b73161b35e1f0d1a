set_option maxHeartbeats 4000000 in
set_option maxRecDepth 20000 in
theorem c_X6_hold_bad (l : Launch) (G : GB) (b : Nat → Nat) (y : Q3) (s h : Int32) (hb : ¬ ((0 ≤ s ∧ s ≤ 9) ∧ (h = -1 ∨ okH h))) : CI l yX6_hold cX6_hold 3 .int 2 45 G [.ref (b 0), .int s, .int h] (wM G b y) (fun vR w' => vR = tellR 0 ∧ PubM G b (tellX y 0) w') := by
  refine CI.mk (own := RX6) (by decide) rfl (Nat.le_of_ble_eq_true rfl) ?_
  intro X E ret
  show J X G 3 0 0 (wM G b y) [(0, .ref (b 0)), (1, .int s), (2, .int h)] 0 []
  refine J_iload_n E dX6_hold_0 rfl 1 rfl ?_
  refine J_cSiN E (As := [.int s]) (c_X6_isSpot l G s ) cl_X6_298 yo_X6_isSpot dX6_hold_1 rfl (Nat.le_of_ble_eq_true rfl) (Nat.le_of_ble_eq_true rfl) rfl (Nat.le_of_ble_eq_true rfl) ⟨Nat.zero_le _, Nat.zero_le _⟩ ?_
  refine J_if_eq E (tgt := 19) dX6_hold_4 (by decide) (fun c_4 => ?_) (fun c_4 => ?_)
  · skip
    have c_4 := bI_0 c_4
    refine J_aload_n E dX6_hold_19 rfl 0 rfl ?_
    refine J_iconst E dX6_hold_20 ic_0 ?_
    refine J_cVi0 E (As := [.int 0]) (c_X6_finds l G b y 0 (by omega)) cl_X6_96 yo_X6_finds dX6_hold_21 rfl rfl rfl (Nat.le_of_ble_eq_true rfl) (Nat.le_of_ble_eq_true rfl) rfl (Nat.le_of_ble_eq_true rfl) ⟨Nat.zero_le _, Nat.zero_le _⟩ ?_
    exact ret _ _ _ _ ⟨rfl, _, rfl, by intro g h2 h5 h6; by_cases h0 : g = 0 <;> simp [tellX, upG, up3, up3R, up2, h0, h2, h5, h6]⟩ rfl dX6_hold_24
  · skip
    have c_4 := bI_1 c_4
    refine J_iload_n E dX6_hold_7 rfl 2 rfl ?_
    refine J_iconst E dX6_hold_8 ic_m1 ?_
    refine J_icmp_eq E (tgt := 25) dX6_hold_9 (by decide) (fun c_9 => ?_) (fun c_9 => ?_)
    · skip
      have hw : h = -1 ∨ okH h := Or.inl c_9
      exact absurd ⟨c_4, hw⟩ hb
    · skip
      refine J_iload_n E dX6_hold_12 rfl 2 rfl ?_
      refine J_cSiN E (As := [.int h]) (c_X6_isHouse l G h ) cl_X6_87 yo_X6_isHouse dX6_hold_13 rfl (Nat.le_of_ble_eq_true rfl) (Nat.le_of_ble_eq_true rfl) rfl (Nat.le_of_ble_eq_true rfl) ⟨Nat.zero_le _, Nat.zero_le _⟩ ?_
      refine J_if_ne E (tgt := 25) dX6_hold_16 (by decide) (fun c_16 => ?_) (fun c_16 => ?_)
      · skip
        have c_16 := bI_1 c_16
        have hw : h = -1 ∨ okH h := Or.inr c_16
        exact absurd ⟨c_4, hw⟩ hb
      · skip
        have c_16 := bI_0 c_16
        refine J_aload_n E dX6_hold_19 rfl 0 rfl ?_
        refine J_iconst E dX6_hold_20 ic_0 ?_
        refine J_cVi0 E (As := [.int 0]) (c_X6_finds l G b y 0 (by omega)) cl_X6_96 yo_X6_finds dX6_hold_21 rfl rfl rfl (Nat.le_of_ble_eq_true rfl) (Nat.le_of_ble_eq_true rfl) rfl (Nat.le_of_ble_eq_true rfl) ⟨Nat.zero_le _, Nat.zero_le _⟩ ?_
        exact ret _ _ _ _ ⟨rfl, _, rfl, by intro g h2 h5 h6; by_cases h0 : g = 0 <;> simp [tellX, upG, up3, up3R, up2, h0, h2, h5, h6]⟩ rfl dX6_hold_24

set_option maxHeartbeats 4000000 in
set_option maxRecDepth 20000 in
theorem c_X6_hold_ok (l : Launch) (G : GB) (b : Nat → Nat) (y : Q3) (s : Nat) (h : Int32) (hs : s < 10) (hh : h = -1 ∨ okH h) : CI l yX6_hold cX6_hold 3 .int 2 45 G [.ref (b 0), .int (nI s), .int h] (wM G b y) (fun vR w' => vR = 1 ∧ PubM G b (up3 y 0 6 s h) w') := by
  refine CI.mk (own := RX6) (by decide) rfl (Nat.le_of_ble_eq_true rfl) ?_
  intro X E ret
  show J X G 3 0 0 (wM G b y) [(0, .ref (b 0)), (1, .int (nI s)), (2, .int h)] 0 []
  refine J_iload_n E dX6_hold_0 rfl 1 rfl ?_
  refine J_cSiN E (As := [.int (nI s)]) (c_X6_isSpot l G (nI s) ) cl_X6_298 yo_X6_isSpot dX6_hold_1 rfl (Nat.le_of_ble_eq_true rfl) (Nat.le_of_ble_eq_true rfl) rfl (Nat.le_of_ble_eq_true rfl) ⟨Nat.zero_le _, Nat.zero_le _⟩ ?_
  refine J_if_eq E (tgt := 19) dX6_hold_4 (by decide) (fun c_4 => ?_) (fun c_4 => ?_)
  · skip
    have c_4 := bI_0 c_4
    exact absurd (inB (a := s) (b := 9) (by omega) (by decide)) c_4
  · skip
    have c_4 := bI_1 c_4
    refine J_iload_n E dX6_hold_7 rfl 2 rfl ?_
    refine J_iconst E dX6_hold_8 ic_m1 ?_
    refine J_icmp_eq E (tgt := 25) dX6_hold_9 (by decide) (fun c_9 => ?_) (fun c_9 => ?_)
    · skip
      refine J_aload_n E dX6_hold_25 rfl 0 rfl ?_
      refine gM0_X6_9 E dX6_hold_26 ?_
      refine J_bipush E dX6_hold_29 bp_71 ?_
      refine J_iload_n E dX6_hold_31 rfl 1 rfl ?_
      refine J_iadd E dX6_hold_32 ?_
      refine J_top (x' := nI (71 + s)) (nI_add 71 s) ?_
      refine J_iload_n E dX6_hold_33 rfl 2 rfl ?_
      refine sMs E (j := (71 + s)) (r := 6) (i := s) (at_s (by omega) rfl) dX6_hold_34 ?_
      refine J_w (ws' := wM G b (upG y 0 (up2 (y 0) 6 s h))) rfl ?_
      refine J_iconst E dX6_hold_35 ic_1 ?_
      exact ret _ _ _ _ ⟨rfl, _, rfl, by intro g h2 h5 h6; by_cases h0 : g = 0 <;> simp [tellX, upG, up3, up3R, up2, h0, h2, h5, h6]⟩ rfl dX6_hold_36
    · skip
      refine J_iload_n E dX6_hold_12 rfl 2 rfl ?_
      refine J_cSiN E (As := [.int h]) (c_X6_isHouse l G h ) cl_X6_87 yo_X6_isHouse dX6_hold_13 rfl (Nat.le_of_ble_eq_true rfl) (Nat.le_of_ble_eq_true rfl) rfl (Nat.le_of_ble_eq_true rfl) ⟨Nat.zero_le _, Nat.zero_le _⟩ ?_
      refine J_if_ne E (tgt := 25) dX6_hold_16 (by decide) (fun c_16 => ?_) (fun c_16 => ?_)
      · skip
        have c_16 := bI_1 c_16
        refine J_aload_n E dX6_hold_25 rfl 0 rfl ?_
        refine gM0_X6_9 E dX6_hold_26 ?_
        refine J_bipush E dX6_hold_29 bp_71 ?_
        refine J_iload_n E dX6_hold_31 rfl 1 rfl ?_
        refine J_iadd E dX6_hold_32 ?_
        refine J_top (x' := nI (71 + s)) (nI_add 71 s) ?_
        refine J_iload_n E dX6_hold_33 rfl 2 rfl ?_
        refine sMs E (j := (71 + s)) (r := 6) (i := s) (at_s (by omega) rfl) dX6_hold_34 ?_
        refine J_w (ws' := wM G b (upG y 0 (up2 (y 0) 6 s h))) rfl ?_
        refine J_iconst E dX6_hold_35 ic_1 ?_
        exact ret _ _ _ _ ⟨rfl, _, rfl, by intro g h2 h5 h6; by_cases h0 : g = 0 <;> simp [tellX, upG, up3, up3R, up2, h0, h2, h5, h6]⟩ rfl dX6_hold_36
      · skip
        have c_16 := bI_0 c_16
        exact absurd (hh.resolve_left c_9) c_16
