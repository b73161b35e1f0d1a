set_option maxHeartbeats 4000000 in
set_option maxRecDepth 20000 in
theorem c_X6_as_bad (l : Launch) (G : GB) (b : Nat → Nat) (y : Q3) (s k : Int32) (hb : ¬ ((0 ≤ s ∧ s ≤ 9) ∧ 0 ≤ k ∧ k ≤ 6)) : CI l yX6_as cX6_as 4 .int 2 45 G [.ref (b 0), .int s, .int k] (wM G b y) (fun vR w' => vR = tellR 0 ∧ PubM G b (tellX y 0) w') := by
  refine CI.mk (own := RX6) (by decide) rfl (Nat.le_of_ble_eq_true rfl) ?_
  intro X E ret
  show J X G 4 0 0 (wM G b y) [(0, .ref (b 0)), (1, .int s), (2, .int k)] 0 []
  refine J_iload_n E dX6_as_0 rfl 1 rfl ?_
  refine J_cSiN E (As := [.int s]) (c_X6_isSpot l G s ) cl_X6_298 yo_X6_isSpot dX6_as_1 rfl (Nat.le_of_ble_eq_true rfl) (Nat.le_of_ble_eq_true rfl) rfl (Nat.le_of_ble_eq_true rfl) ⟨Nat.zero_le _, Nat.zero_le _⟩ ?_
  refine J_if_eq E (tgt := 14) dX6_as_4 (by decide) (fun c_4 => ?_) (fun c_4 => ?_)
  · skip
    have c_4 := bI_0 c_4
    refine J_aload_n E dX6_as_14 rfl 0 rfl ?_
    refine J_iconst E dX6_as_15 ic_0 ?_
    refine J_cVi0 E (As := [.int 0]) (c_X6_finds l G b y 0 (by omega)) cl_X6_96 yo_X6_finds dX6_as_16 rfl rfl rfl (Nat.le_of_ble_eq_true rfl) (Nat.le_of_ble_eq_true rfl) rfl (Nat.le_of_ble_eq_true rfl) ⟨Nat.zero_le _, Nat.zero_le _⟩ ?_
    exact ret _ _ _ _ ⟨rfl, _, rfl, by intro g h2 h5 h6; by_cases h0 : g = 0 <;> simp [tellX, upG, up3, up3R, up2, h0, h2, h5, h6]⟩ rfl dX6_as_19
  · skip
    have c_4 := bI_1 c_4
    refine J_iload_n E dX6_as_7 rfl 2 rfl ?_
    refine J_cSiN E (As := [.int k]) (c_X6_isKind l G k ) cl_X6_77 yo_X6_isKind dX6_as_8 rfl (Nat.le_of_ble_eq_true rfl) (Nat.le_of_ble_eq_true rfl) rfl (Nat.le_of_ble_eq_true rfl) ⟨Nat.zero_le _, Nat.zero_le _⟩ ?_
    refine J_if_ne E (tgt := 20) dX6_as_11 (by decide) (fun c_11 => ?_) (fun c_11 => ?_)
    · skip
      have c_11 := bI_1 c_11
      exact absurd ⟨c_4, c_11⟩ hb
    · skip
      have c_11 := bI_0 c_11
      refine J_aload_n E dX6_as_14 rfl 0 rfl ?_
      refine J_iconst E dX6_as_15 ic_0 ?_
      refine J_cVi0 E (As := [.int 0]) (c_X6_finds l G b y 0 (by omega)) cl_X6_96 yo_X6_finds dX6_as_16 rfl rfl rfl (Nat.le_of_ble_eq_true rfl) (Nat.le_of_ble_eq_true rfl) rfl (Nat.le_of_ble_eq_true rfl) ⟨Nat.zero_le _, Nat.zero_le _⟩ ?_
      exact ret _ _ _ _ ⟨rfl, _, rfl, by intro g h2 h5 h6; by_cases h0 : g = 0 <;> simp [tellX, upG, up3, up3R, up2, h0, h2, h5, h6]⟩ rfl dX6_as_19

set_option maxHeartbeats 4000000 in
set_option maxRecDepth 20000 in
theorem c_X6_as_miss (l : Launch) (G : GB) (b : Nat → Nat) (y : Q3) (s k : Nat) (hs : s < 10) (hk : k < 7) (hv : y 0 6 s = -1) : CI l yX6_as cX6_as 4 .int 2 45 G [.ref (b 0), .int (nI s), .int (nI k)] (wM G b y) (fun vR w' => vR = tellR 5 ∧ PubM G b (tellX y 5) w') := by
  refine CI.mk (own := RX6) (by decide) rfl (Nat.le_of_ble_eq_true rfl) ?_
  intro X E ret
  show J X G 4 0 0 (wM G b y) [(0, .ref (b 0)), (1, .int (nI s)), (2, .int (nI k))] 0 []
  refine J_iload_n E dX6_as_0 rfl 1 rfl ?_
  refine J_cSiN E (As := [.int (nI s)]) (c_X6_isSpot l G (nI s) ) cl_X6_298 yo_X6_isSpot dX6_as_1 rfl (Nat.le_of_ble_eq_true rfl) (Nat.le_of_ble_eq_true rfl) rfl (Nat.le_of_ble_eq_true rfl) ⟨Nat.zero_le _, Nat.zero_le _⟩ ?_
  refine J_if_eq E (tgt := 14) dX6_as_4 (by decide) (fun c_4 => ?_) (fun c_4 => ?_)
  · skip
    have c_4 := bI_0 c_4
    exact absurd (inB (a := s) (b := 9) (by omega) (by decide)) c_4
  · skip
    have c_4 := bI_1 c_4
    refine J_iload_n E dX6_as_7 rfl 2 rfl ?_
    refine J_cSiN E (As := [.int (nI k)]) (c_X6_isKind l G (nI k) ) cl_X6_77 yo_X6_isKind dX6_as_8 rfl (Nat.le_of_ble_eq_true rfl) (Nat.le_of_ble_eq_true rfl) rfl (Nat.le_of_ble_eq_true rfl) ⟨Nat.zero_le _, Nat.zero_le _⟩ ?_
    refine J_if_ne E (tgt := 20) dX6_as_11 (by decide) (fun c_11 => ?_) (fun c_11 => ?_)
    · skip
      have c_11 := bI_1 c_11
      refine J_aload_n E dX6_as_20 rfl 0 rfl ?_
      refine gM0_X6_9 E dX6_as_21 ?_
      refine J_bipush E dX6_as_24 bp_71 ?_
      refine J_iload_n E dX6_as_26 rfl 1 rfl ?_
      refine J_iadd E dX6_as_27 ?_
      refine J_top (x' := nI (71 + s)) (nI_add 71 s) ?_
      refine lMs E (j := (71 + s)) (r := 6) (i := s) (at_s (by omega) rfl) dX6_as_28 ?_
      refine J_top (x' := (-1)) (hv) ?_
      refine J_istore_n E (lv' := [(3, .int (-1)), (0, .ref (b 0)), (1, .int (nI s)), (2, .int (nI k))]) dX6_as_29 rfl (by decide) rfl ?_
      refine J_iload_n E dX6_as_30 rfl 0 rfl ?_
      refine J_if_ge E (tgt := 40) dX6_as_31 (by decide) (fun c_31 => ?_) (fun c_31 => ?_)
      · skip
        exact absurd c_31 (by decide)
      · skip
        refine J_aload_n E dX6_as_34 rfl 1 rfl ?_
        refine J_iconst E dX6_as_35 ic_5 ?_
        refine J_cVi0 E (As := [.int 5]) (c_X6_finds l G b y 5 (by omega)) cl_X6_96 yo_X6_finds dX6_as_36 rfl rfl rfl (Nat.le_of_ble_eq_true rfl) (Nat.le_of_ble_eq_true rfl) rfl (Nat.le_of_ble_eq_true rfl) ⟨Nat.zero_le _, Nat.zero_le _⟩ ?_
        exact ret _ _ _ _ ⟨rfl, _, rfl, by intro g h2 h5 h6; by_cases h0 : g = 0 <;> simp [tellX, upG, up3, up3R, up2, h0, h2, h5, h6]⟩ rfl dX6_as_39
    · skip
      have c_11 := bI_0 c_11
      exact absurd (inB (a := k) (b := 6) (by omega) (by decide)) c_11

set_option maxHeartbeats 4000000 in
set_option maxRecDepth 20000 in
theorem c_X6_as_no (l : Launch) (G : GB) (b : Nat → Nat) (y : Q3) (s k j kd : Nat) (hs : s < 10) (hk : k < 7) (hj : j < 11) (hkd : kd < 7) (hv : y 0 6 s = nI j) (hw : y 0 0 j = nI kd) (hu : ¬ undF kd k = true) : CI l yX6_as cX6_as 4 .int 2 45 G [.ref (b 0), .int (nI s), .int (nI k)] (wM G b y) (fun vR w' => vR = tellR 2 ∧ PubM G b (tellX y 2) w') := by
  refine CI.mk (own := RX6) (by decide) rfl (Nat.le_of_ble_eq_true rfl) ?_
  intro X E ret
  show J X G 4 0 0 (wM G b y) [(0, .ref (b 0)), (1, .int (nI s)), (2, .int (nI k))] 0 []
  refine J_iload_n E dX6_as_0 rfl 1 rfl ?_
  refine J_cSiN E (As := [.int (nI s)]) (c_X6_isSpot l G (nI s) ) cl_X6_298 yo_X6_isSpot dX6_as_1 rfl (Nat.le_of_ble_eq_true rfl) (Nat.le_of_ble_eq_true rfl) rfl (Nat.le_of_ble_eq_true rfl) ⟨Nat.zero_le _, Nat.zero_le _⟩ ?_
  refine J_if_eq E (tgt := 14) dX6_as_4 (by decide) (fun c_4 => ?_) (fun c_4 => ?_)
  · skip
    have c_4 := bI_0 c_4
    exact absurd (inB (a := s) (b := 9) (by omega) (by decide)) c_4
  · skip
    have c_4 := bI_1 c_4
    refine J_iload_n E dX6_as_7 rfl 2 rfl ?_
    refine J_cSiN E (As := [.int (nI k)]) (c_X6_isKind l G (nI k) ) cl_X6_77 yo_X6_isKind dX6_as_8 rfl (Nat.le_of_ble_eq_true rfl) (Nat.le_of_ble_eq_true rfl) rfl (Nat.le_of_ble_eq_true rfl) ⟨Nat.zero_le _, Nat.zero_le _⟩ ?_
    refine J_if_ne E (tgt := 20) dX6_as_11 (by decide) (fun c_11 => ?_) (fun c_11 => ?_)
    · skip
      have c_11 := bI_1 c_11
      refine J_aload_n E dX6_as_20 rfl 0 rfl ?_
      refine gM0_X6_9 E dX6_as_21 ?_
      refine J_bipush E dX6_as_24 bp_71 ?_
      refine J_iload_n E dX6_as_26 rfl 1 rfl ?_
      refine J_iadd E dX6_as_27 ?_
      refine J_top (x' := nI (71 + s)) (nI_add 71 s) ?_
      refine lMs E (j := (71 + s)) (r := 6) (i := s) (at_s (by omega) rfl) dX6_as_28 ?_
      refine J_top (x' := nI j) (hv) ?_
      refine J_istore_n E (lv' := [(3, .int (nI j)), (0, .ref (b 0)), (1, .int (nI s)), (2, .int (nI k))]) dX6_as_29 rfl (by decide) rfl ?_
      refine J_iload_n E dX6_as_30 rfl 0 rfl ?_
      refine J_if_ge E (tgt := 40) dX6_as_31 (by decide) (fun c_31 => ?_) (fun c_31 => ?_)
      · skip
        have n_31 : 0 ≤ j := cmp_le (a := 0) (b := j) (by omega) (by omega) c_31
        refine J_aload_n E dX6_as_40 rfl 1 rfl ?_
        refine J_iload_n E dX6_as_41 rfl 0 rfl ?_
        refine J_iconst E dX6_as_42 ic_0 ?_
        refine J_cVi0 E (As := [.int (nI j), .int 0]) (c_X6_its l G b y j 0 (by omega) (by omega)) cl_X6_64 yo_X6_its dX6_as_43 rfl rfl rfl (Nat.le_of_ble_eq_true rfl) (Nat.le_of_ble_eq_true rfl) rfl (Nat.le_of_ble_eq_true rfl) ⟨Nat.zero_le _, Nat.zero_le _⟩ ?_
        refine J_top (x' := nI kd) (hw) ?_
        refine J_iload_n E dX6_as_46 rfl 3 rfl ?_
        refine J_cSiN E (As := [.int (nI kd), .int (nI k)]) (c_X6_isUnder l G kd k (by omega) (by omega)) cl_X6_73 yo_X6_isUnder dX6_as_47 rfl (Nat.le_of_ble_eq_true rfl) (Nat.le_of_ble_eq_true rfl) rfl (Nat.le_of_ble_eq_true rfl) ⟨Nat.zero_le _, Nat.zero_le _⟩ ?_
        refine J_if_eq E (tgt := 57) dX6_as_50 (by decide) (fun c_50 => ?_) (fun c_50 => ?_)
        · skip
          have c_50 := bI_0 c_50
          refine J_aload_n E dX6_as_57 rfl 1 rfl ?_
          refine J_iconst E dX6_as_58 ic_2 ?_
          refine J_cVi0 E (As := [.int 2]) (c_X6_finds l G b y 2 (by omega)) cl_X6_96 yo_X6_finds dX6_as_59 rfl rfl rfl (Nat.le_of_ble_eq_true rfl) (Nat.le_of_ble_eq_true rfl) rfl (Nat.le_of_ble_eq_true rfl) ⟨Nat.zero_le _, Nat.zero_le _⟩ ?_
          exact ret _ _ _ _ ⟨rfl, _, rfl, by intro g h2 h5 h6; by_cases h0 : g = 0 <;> simp [tellX, upG, up3, up3R, up2, h0, h2, h5, h6]⟩ rfl dX6_as_62
        · skip
          have c_50 := bI_1 c_50
          exact absurd c_50 hu
      · skip
        have n_31 : ¬ 0 ≤ j := cmp_nle (a := 0) (b := j) (by omega) (by omega) c_31
        exact absurd n_31 (by omega)
    · skip
      have c_11 := bI_0 c_11
      exact absurd (inB (a := k) (b := 6) (by omega) (by decide)) c_11

set_option maxHeartbeats 4000000 in
set_option maxRecDepth 20000 in
theorem c_X6_as_ok (l : Launch) (G : GB) (b : Nat → Nat) (y : Q3) (s k j kd : Nat) (hs : s < 10) (hk : k < 7) (hj : j < 11) (hkd : kd < 7) (hv : y 0 6 s = nI j) (hw : y 0 0 j = nI kd) (hu : undF kd k = true) : CI l yX6_as cX6_as 4 .int 2 45 G [.ref (b 0), .int (nI s), .int (nI k)] (wM G b y) (fun vR w' => vR = nI j ∧ PubM G b y w') := by
  refine CI.mk (own := RX6) (by decide) rfl (Nat.le_of_ble_eq_true rfl) ?_
  intro X E ret
  show J X G 4 0 0 (wM G b y) [(0, .ref (b 0)), (1, .int (nI s)), (2, .int (nI k))] 0 []
  refine J_iload_n E dX6_as_0 rfl 1 rfl ?_
  refine J_cSiN E (As := [.int (nI s)]) (c_X6_isSpot l G (nI s) ) cl_X6_298 yo_X6_isSpot dX6_as_1 rfl (Nat.le_of_ble_eq_true rfl) (Nat.le_of_ble_eq_true rfl) rfl (Nat.le_of_ble_eq_true rfl) ⟨Nat.zero_le _, Nat.zero_le _⟩ ?_
  refine J_if_eq E (tgt := 14) dX6_as_4 (by decide) (fun c_4 => ?_) (fun c_4 => ?_)
  · skip
    have c_4 := bI_0 c_4
    exact absurd (inB (a := s) (b := 9) (by omega) (by decide)) c_4
  · skip
    have c_4 := bI_1 c_4
    refine J_iload_n E dX6_as_7 rfl 2 rfl ?_
    refine J_cSiN E (As := [.int (nI k)]) (c_X6_isKind l G (nI k) ) cl_X6_77 yo_X6_isKind dX6_as_8 rfl (Nat.le_of_ble_eq_true rfl) (Nat.le_of_ble_eq_true rfl) rfl (Nat.le_of_ble_eq_true rfl) ⟨Nat.zero_le _, Nat.zero_le _⟩ ?_
    refine J_if_ne E (tgt := 20) dX6_as_11 (by decide) (fun c_11 => ?_) (fun c_11 => ?_)
    · skip
      have c_11 := bI_1 c_11
      refine J_aload_n E dX6_as_20 rfl 0 rfl ?_
      refine gM0_X6_9 E dX6_as_21 ?_
      refine J_bipush E dX6_as_24 bp_71 ?_
      refine J_iload_n E dX6_as_26 rfl 1 rfl ?_
      refine J_iadd E dX6_as_27 ?_
      refine J_top (x' := nI (71 + s)) (nI_add 71 s) ?_
      refine lMs E (j := (71 + s)) (r := 6) (i := s) (at_s (by omega) rfl) dX6_as_28 ?_
      refine J_top (x' := nI j) (hv) ?_
      refine J_istore_n E (lv' := [(3, .int (nI j)), (0, .ref (b 0)), (1, .int (nI s)), (2, .int (nI k))]) dX6_as_29 rfl (by decide) rfl ?_
      refine J_iload_n E dX6_as_30 rfl 0 rfl ?_
      refine J_if_ge E (tgt := 40) dX6_as_31 (by decide) (fun c_31 => ?_) (fun c_31 => ?_)
      · skip
        have n_31 : 0 ≤ j := cmp_le (a := 0) (b := j) (by omega) (by omega) c_31
        refine J_aload_n E dX6_as_40 rfl 1 rfl ?_
        refine J_iload_n E dX6_as_41 rfl 0 rfl ?_
        refine J_iconst E dX6_as_42 ic_0 ?_
        refine J_cVi0 E (As := [.int (nI j), .int 0]) (c_X6_its l G b y j 0 (by omega) (by omega)) cl_X6_64 yo_X6_its dX6_as_43 rfl rfl rfl (Nat.le_of_ble_eq_true rfl) (Nat.le_of_ble_eq_true rfl) rfl (Nat.le_of_ble_eq_true rfl) ⟨Nat.zero_le _, Nat.zero_le _⟩ ?_
        refine J_top (x' := nI kd) (hw) ?_
        refine J_iload_n E dX6_as_46 rfl 3 rfl ?_
        refine J_cSiN E (As := [.int (nI kd), .int (nI k)]) (c_X6_isUnder l G kd k (by omega) (by omega)) cl_X6_73 yo_X6_isUnder dX6_as_47 rfl (Nat.le_of_ble_eq_true rfl) (Nat.le_of_ble_eq_true rfl) rfl (Nat.le_of_ble_eq_true rfl) ⟨Nat.zero_le _, Nat.zero_le _⟩ ?_
        refine J_if_eq E (tgt := 57) dX6_as_50 (by decide) (fun c_50 => ?_) (fun c_50 => ?_)
        · skip
          have c_50 := bI_0 c_50
          exact absurd hu c_50
        · skip
          have c_50 := bI_1 c_50
          refine J_iload_n E dX6_as_53 rfl 0 rfl ?_
          refine J_goto E (tgt := 62) dX6_as_54 (by decide) ?_
          exact ret _ _ _ _ ⟨rfl, _, rfl, by intro g h2 h5 h6; by_cases h0 : g = 0 <;> simp [tellX, upG, up3, up3R, up2, h0, h2, h5, h6]⟩ rfl dX6_as_62
      · skip
        have n_31 : ¬ 0 ≤ j := cmp_nle (a := 0) (b := j) (by omega) (by omega) c_31
        exact absurd n_31 (by omega)
    · skip
      have c_11 := bI_0 c_11
      exact absurd (inB (a := k) (b := 6) (by omega) (by decide)) c_11
