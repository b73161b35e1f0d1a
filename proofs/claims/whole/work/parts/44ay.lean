set_option maxHeartbeats 4000000 in
set_option maxRecDepth 20000 in
theorem c_X6_goesOn_0 (l : Launch) (G : GB) (b : Nat → Nat) (y : Q3) (i : Nat) (hi : i < 40) (hp : 0 < i → okH (y 8 0 (i - 1))) : CI l yX6_goesOn cX6_goesOn 4 .boolean 2 45 G [.ref (b 0), .int (nI 0), .int (nI i)] (wM G b y) (fun vR w' => vR = bI (judgP (y 0) (y 8 0) i = true) ∧ w' = wM G b y) := by
  refine CI.mk (own := RX6) (by decide) rfl (Nat.le_of_ble_eq_true rfl) ?_
  intro X E ret
  show J X G 4 0 0 (wM G b y) [(0, .ref (b 0)), (1, .int (nI 0)), (2, .int (nI i))] 0 []
  refine J_aload_n E dX6_goesOn_0 rfl 0 rfl ?_
  refine gM0_X6_37 E dX6_goesOn_1 ?_
  refine J_bipush E dX6_goesOn_4 bp_40 ?_
  refine J_iload_n E dX6_goesOn_6 rfl 1 rfl ?_
  refine J_imul E dX6_goesOn_7 ?_
  refine J_top (x' := nI 0) (by decide) ?_
  refine J_iload_n E dX6_goesOn_8 rfl 2 rfl ?_
  refine J_iadd E dX6_goesOn_9 ?_
  refine J_top (x' := nI (0 + i)) (nI_add 0 i) ?_
  refine lMn_0 E (j := (0 + i)) (i := i) rfl (by omega) dX6_goesOn_10 ?_
  refine J_istore_n E (lv' := [(3, .int (y 8 0 i)), (0, .ref (b 0)), (1, .int (nI 0)), (2, .int (nI i))]) dX6_goesOn_11 rfl (by decide) rfl ?_
  refine J_iload_n E dX6_goesOn_12 rfl 0 rfl ?_
  refine J_cSiN E (As := [.int (y 8 0 i)]) (c_X6_isHouse l G (y 8 0 i) ) cl_X6_87 yo_X6_isHouse dX6_goesOn_13 rfl (Nat.le_of_ble_eq_true rfl) (Nat.le_of_ble_eq_true rfl) rfl (Nat.le_of_ble_eq_true rfl) ⟨Nat.zero_le _, Nat.zero_le _⟩ ?_
  refine J_if_eq E (tgt := 48) dX6_goesOn_16 (by decide) (fun c_16 => ?_) (fun c_16 => ?_)
  · skip
    have c_16 := bI_0 c_16
    refine J_iconst E dX6_goesOn_48 ic_0 ?_
    exact ret _ _ _ _ ⟨by first | exact (bI_t (show judgP (y 0) (y 8 0) i = true from decide_eq_true ⟨c_16, Or.inl (by omega)⟩)).symm | exact (bI_t (show judgP (y 0) (y 8 0) (u + 1) = true from decide_eq_true ⟨c_16, Or.inr (by rw [show u + 1 - 1 = u by omega, hp2, nI_clamp (by omega)]; exact c_41)⟩)).symm | exact (bI_f (fun z => c_16 (of_decide_eq_true z).1)).symm | exact (bI_f (fun z => by have z2 := (of_decide_eq_true z).2.resolve_left (by omega); rw [show u + 1 - 1 = u by omega, hp2, nI_clamp (by omega)] at z2; exact c_41 z2)).symm, (congrArg (wM G b) (rfl))⟩ rfl dX6_goesOn_49
  · skip
    have c_16 := bI_1 c_16
    refine J_iload_n E dX6_goesOn_19 rfl 3 rfl ?_
    refine J_if_eq E (tgt := 44) dX6_goesOn_20 (by decide) (fun c_20 => ?_) (fun c_20 => ?_)
    · skip
      have n_20 : i = 0 := cmp_eq (a := i) (b := 0) (by omega) (by omega) c_20
      refine J_iconst E dX6_goesOn_44 ic_1 ?_
      refine J_goto E (tgt := 49) dX6_goesOn_45 (by decide) ?_
      exact ret _ _ _ _ ⟨by first | exact (bI_t (show judgP (y 0) (y 8 0) i = true from decide_eq_true ⟨c_16, Or.inl (by omega)⟩)).symm | exact (bI_t (show judgP (y 0) (y 8 0) (u + 1) = true from decide_eq_true ⟨c_16, Or.inr (by rw [show u + 1 - 1 = u by omega, hp2, nI_clamp (by omega)]; exact c_41)⟩)).symm | exact (bI_f (fun z => c_16 (of_decide_eq_true z).1)).symm | exact (bI_f (fun z => by have z2 := (of_decide_eq_true z).2.resolve_left (by omega); rw [show u + 1 - 1 = u by omega, hp2, nI_clamp (by omega)] at z2; exact c_41 z2)).symm, (congrArg (wM G b) (rfl))⟩ rfl dX6_goesOn_49
    · skip
      have n_20 : ¬ i = 0 := cmp_ne (a := i) (b := 0) (by omega) (by omega) c_20
      obtain ⟨u, rfl⟩ : ∃ u, i = u + 1 := ⟨i - 1, by omega⟩
      obtain ⟨p, hp1, hp2⟩ := okH_of (hp (by omega))
      have hp2 : y 8 0 u = nI p := hp2
      refine J_aload_n E dX6_goesOn_23 rfl 1 rfl ?_
      refine J_aload_n E dX6_goesOn_24 rfl 1 rfl ?_
      refine gM0_X6_37 E dX6_goesOn_25 ?_
      refine J_bipush E dX6_goesOn_28 bp_40 ?_
      refine J_iload_n E dX6_goesOn_30 rfl 2 rfl ?_
      refine J_imul E dX6_goesOn_31 ?_
      refine J_top (x' := nI 0) (by decide) ?_
      refine J_iload_n E dX6_goesOn_32 rfl 3 rfl ?_
      refine J_iadd E dX6_goesOn_33 ?_
      refine J_top (x' := nI (0 + (u + 1))) (nI_add 0 (u + 1)) ?_
      refine J_iconst E dX6_goesOn_34 ic_1 ?_
      refine J_isub E dX6_goesOn_35 ?_
      refine J_top (x' := nI (0 + u)) (nI_pred (0 + u)) ?_
      refine lMn_0 E (j := (0 + u)) (i := u) rfl (by omega) dX6_goesOn_36 ?_
      refine J_top (x' := nI p) (hp2) ?_
      refine J_cVi0 E (As := [.int (nI p)]) (c_X6_leads l G b y p (by omega)) cl_X6_110 yo_X6_leads dX6_goesOn_37 rfl rfl rfl (Nat.le_of_ble_eq_true rfl) (Nat.le_of_ble_eq_true rfl) rfl (Nat.le_of_ble_eq_true rfl) ⟨Nat.zero_le _, Nat.zero_le _⟩ ?_
      refine J_iload_n E dX6_goesOn_40 rfl 0 rfl ?_
      refine J_icmp_ne E (tgt := 48) dX6_goesOn_41 (by decide) (fun c_41 => ?_) (fun c_41 => ?_)
      · skip
        refine J_iconst E dX6_goesOn_48 ic_0 ?_
        exact ret _ _ _ _ ⟨by first | exact (bI_t (show judgP (y 0) (y 8 0) i = true from decide_eq_true ⟨c_16, Or.inl (by omega)⟩)).symm | exact (bI_t (show judgP (y 0) (y 8 0) (u + 1) = true from decide_eq_true ⟨c_16, Or.inr (by rw [show u + 1 - 1 = u by omega, hp2, nI_clamp (by omega)]; exact c_41)⟩)).symm | exact (bI_f (fun z => c_16 (of_decide_eq_true z).1)).symm | exact (bI_f (fun z => by have z2 := (of_decide_eq_true z).2.resolve_left (by omega); rw [show u + 1 - 1 = u by omega, hp2, nI_clamp (by omega)] at z2; exact c_41 z2)).symm, (congrArg (wM G b) (rfl))⟩ rfl dX6_goesOn_49
      · skip
        refine J_iconst E dX6_goesOn_44 ic_1 ?_
        refine J_goto E (tgt := 49) dX6_goesOn_45 (by decide) ?_
        exact ret _ _ _ _ ⟨by first | exact (bI_t (show judgP (y 0) (y 8 0) i = true from decide_eq_true ⟨c_16, Or.inl (by omega)⟩)).symm | exact (bI_t (show judgP (y 0) (y 8 0) (u + 1) = true from decide_eq_true ⟨c_16, Or.inr (by rw [show u + 1 - 1 = u by omega, hp2, nI_clamp (by omega)]; exact c_41)⟩)).symm | exact (bI_f (fun z => c_16 (of_decide_eq_true z).1)).symm | exact (bI_f (fun z => by have z2 := (of_decide_eq_true z).2.resolve_left (by omega); rw [show u + 1 - 1 = u by omega, hp2, nI_clamp (by omega)] at z2; exact c_41 z2)).symm, (congrArg (wM G b) (rfl))⟩ rfl dX6_goesOn_49

set_option maxHeartbeats 4000000 in
set_option maxRecDepth 20000 in
theorem c_X6_goesOn_1 (l : Launch) (G : GB) (b : Nat → Nat) (y : Q3) (i : Nat) (hi : i < 40) (hp : 0 < i → okH (y 9 0 (i - 1))) : CI l yX6_goesOn cX6_goesOn 4 .boolean 2 45 G [.ref (b 0), .int (nI 1), .int (nI i)] (wM G b y) (fun vR w' => vR = bI (judgP (y 0) (y 9 0) i = true) ∧ w' = wM G b y) := by
  refine CI.mk (own := RX6) (by decide) rfl (Nat.le_of_ble_eq_true rfl) ?_
  intro X E ret
  show J X G 4 0 0 (wM G b y) [(0, .ref (b 0)), (1, .int (nI 1)), (2, .int (nI i))] 0 []
  refine J_aload_n E dX6_goesOn_0 rfl 0 rfl ?_
  refine gM0_X6_37 E dX6_goesOn_1 ?_
  refine J_bipush E dX6_goesOn_4 bp_40 ?_
  refine J_iload_n E dX6_goesOn_6 rfl 1 rfl ?_
  refine J_imul E dX6_goesOn_7 ?_
  refine J_top (x' := nI 40) (by decide) ?_
  refine J_iload_n E dX6_goesOn_8 rfl 2 rfl ?_
  refine J_iadd E dX6_goesOn_9 ?_
  refine J_top (x' := nI (40 + i)) (nI_add 40 i) ?_
  refine lMn_1 E (j := (40 + i)) (i := i) rfl (by omega) dX6_goesOn_10 ?_
  refine J_istore_n E (lv' := [(3, .int (y 9 0 i)), (0, .ref (b 0)), (1, .int (nI 1)), (2, .int (nI i))]) dX6_goesOn_11 rfl (by decide) rfl ?_
  refine J_iload_n E dX6_goesOn_12 rfl 0 rfl ?_
  refine J_cSiN E (As := [.int (y 9 0 i)]) (c_X6_isHouse l G (y 9 0 i) ) cl_X6_87 yo_X6_isHouse dX6_goesOn_13 rfl (Nat.le_of_ble_eq_true rfl) (Nat.le_of_ble_eq_true rfl) rfl (Nat.le_of_ble_eq_true rfl) ⟨Nat.zero_le _, Nat.zero_le _⟩ ?_
  refine J_if_eq E (tgt := 48) dX6_goesOn_16 (by decide) (fun c_16 => ?_) (fun c_16 => ?_)
  · skip
    have c_16 := bI_0 c_16
    refine J_iconst E dX6_goesOn_48 ic_0 ?_
    exact ret _ _ _ _ ⟨by first | exact (bI_t (show judgP (y 0) (y 9 0) i = true from decide_eq_true ⟨c_16, Or.inl (by omega)⟩)).symm | exact (bI_t (show judgP (y 0) (y 9 0) (u + 1) = true from decide_eq_true ⟨c_16, Or.inr (by rw [show u + 1 - 1 = u by omega, hp2, nI_clamp (by omega)]; exact c_41)⟩)).symm | exact (bI_f (fun z => c_16 (of_decide_eq_true z).1)).symm | exact (bI_f (fun z => by have z2 := (of_decide_eq_true z).2.resolve_left (by omega); rw [show u + 1 - 1 = u by omega, hp2, nI_clamp (by omega)] at z2; exact c_41 z2)).symm, (congrArg (wM G b) (rfl))⟩ rfl dX6_goesOn_49
  · skip
    have c_16 := bI_1 c_16
    refine J_iload_n E dX6_goesOn_19 rfl 3 rfl ?_
    refine J_if_eq E (tgt := 44) dX6_goesOn_20 (by decide) (fun c_20 => ?_) (fun c_20 => ?_)
    · skip
      have n_20 : i = 0 := cmp_eq (a := i) (b := 0) (by omega) (by omega) c_20
      refine J_iconst E dX6_goesOn_44 ic_1 ?_
      refine J_goto E (tgt := 49) dX6_goesOn_45 (by decide) ?_
      exact ret _ _ _ _ ⟨by first | exact (bI_t (show judgP (y 0) (y 9 0) i = true from decide_eq_true ⟨c_16, Or.inl (by omega)⟩)).symm | exact (bI_t (show judgP (y 0) (y 9 0) (u + 1) = true from decide_eq_true ⟨c_16, Or.inr (by rw [show u + 1 - 1 = u by omega, hp2, nI_clamp (by omega)]; exact c_41)⟩)).symm | exact (bI_f (fun z => c_16 (of_decide_eq_true z).1)).symm | exact (bI_f (fun z => by have z2 := (of_decide_eq_true z).2.resolve_left (by omega); rw [show u + 1 - 1 = u by omega, hp2, nI_clamp (by omega)] at z2; exact c_41 z2)).symm, (congrArg (wM G b) (rfl))⟩ rfl dX6_goesOn_49
    · skip
      have n_20 : ¬ i = 0 := cmp_ne (a := i) (b := 0) (by omega) (by omega) c_20
      obtain ⟨u, rfl⟩ : ∃ u, i = u + 1 := ⟨i - 1, by omega⟩
      obtain ⟨p, hp1, hp2⟩ := okH_of (hp (by omega))
      have hp2 : y 9 0 u = nI p := hp2
      refine J_aload_n E dX6_goesOn_23 rfl 1 rfl ?_
      refine J_aload_n E dX6_goesOn_24 rfl 1 rfl ?_
      refine gM0_X6_37 E dX6_goesOn_25 ?_
      refine J_bipush E dX6_goesOn_28 bp_40 ?_
      refine J_iload_n E dX6_goesOn_30 rfl 2 rfl ?_
      refine J_imul E dX6_goesOn_31 ?_
      refine J_top (x' := nI 40) (by decide) ?_
      refine J_iload_n E dX6_goesOn_32 rfl 3 rfl ?_
      refine J_iadd E dX6_goesOn_33 ?_
      refine J_top (x' := nI (40 + (u + 1))) (nI_add 40 (u + 1)) ?_
      refine J_iconst E dX6_goesOn_34 ic_1 ?_
      refine J_isub E dX6_goesOn_35 ?_
      refine J_top (x' := nI (40 + u)) (nI_pred (40 + u)) ?_
      refine lMn_1 E (j := (40 + u)) (i := u) rfl (by omega) dX6_goesOn_36 ?_
      refine J_top (x' := nI p) (hp2) ?_
      refine J_cVi0 E (As := [.int (nI p)]) (c_X6_leads l G b y p (by omega)) cl_X6_110 yo_X6_leads dX6_goesOn_37 rfl rfl rfl (Nat.le_of_ble_eq_true rfl) (Nat.le_of_ble_eq_true rfl) rfl (Nat.le_of_ble_eq_true rfl) ⟨Nat.zero_le _, Nat.zero_le _⟩ ?_
      refine J_iload_n E dX6_goesOn_40 rfl 0 rfl ?_
      refine J_icmp_ne E (tgt := 48) dX6_goesOn_41 (by decide) (fun c_41 => ?_) (fun c_41 => ?_)
      · skip
        refine J_iconst E dX6_goesOn_48 ic_0 ?_
        exact ret _ _ _ _ ⟨by first | exact (bI_t (show judgP (y 0) (y 9 0) i = true from decide_eq_true ⟨c_16, Or.inl (by omega)⟩)).symm | exact (bI_t (show judgP (y 0) (y 9 0) (u + 1) = true from decide_eq_true ⟨c_16, Or.inr (by rw [show u + 1 - 1 = u by omega, hp2, nI_clamp (by omega)]; exact c_41)⟩)).symm | exact (bI_f (fun z => c_16 (of_decide_eq_true z).1)).symm | exact (bI_f (fun z => by have z2 := (of_decide_eq_true z).2.resolve_left (by omega); rw [show u + 1 - 1 = u by omega, hp2, nI_clamp (by omega)] at z2; exact c_41 z2)).symm, (congrArg (wM G b) (rfl))⟩ rfl dX6_goesOn_49
      · skip
        refine J_iconst E dX6_goesOn_44 ic_1 ?_
        refine J_goto E (tgt := 49) dX6_goesOn_45 (by decide) ?_
        exact ret _ _ _ _ ⟨by first | exact (bI_t (show judgP (y 0) (y 9 0) i = true from decide_eq_true ⟨c_16, Or.inl (by omega)⟩)).symm | exact (bI_t (show judgP (y 0) (y 9 0) (u + 1) = true from decide_eq_true ⟨c_16, Or.inr (by rw [show u + 1 - 1 = u by omega, hp2, nI_clamp (by omega)]; exact c_41)⟩)).symm | exact (bI_f (fun z => c_16 (of_decide_eq_true z).1)).symm | exact (bI_f (fun z => by have z2 := (of_decide_eq_true z).2.resolve_left (by omega); rw [show u + 1 - 1 = u by omega, hp2, nI_clamp (by omega)] at z2; exact c_41 z2)).symm, (congrArg (wM G b) (rfl))⟩ rfl dX6_goesOn_49

set_option maxHeartbeats 4000000 in
set_option maxRecDepth 20000 in
theorem c_X6_goesOn_2 (l : Launch) (G : GB) (b : Nat → Nat) (y : Q3) (i : Nat) (hi : i < 40) (hp : 0 < i → okH (y 10 0 (i - 1))) : CI l yX6_goesOn cX6_goesOn 4 .boolean 2 45 G [.ref (b 0), .int (nI 2), .int (nI i)] (wM G b y) (fun vR w' => vR = bI (judgP (y 0) (y 10 0) i = true) ∧ w' = wM G b y) := by
  refine CI.mk (own := RX6) (by decide) rfl (Nat.le_of_ble_eq_true rfl) ?_
  intro X E ret
  show J X G 4 0 0 (wM G b y) [(0, .ref (b 0)), (1, .int (nI 2)), (2, .int (nI i))] 0 []
  refine J_aload_n E dX6_goesOn_0 rfl 0 rfl ?_
  refine gM0_X6_37 E dX6_goesOn_1 ?_
  refine J_bipush E dX6_goesOn_4 bp_40 ?_
  refine J_iload_n E dX6_goesOn_6 rfl 1 rfl ?_
  refine J_imul E dX6_goesOn_7 ?_
  refine J_top (x' := nI 80) (by decide) ?_
  refine J_iload_n E dX6_goesOn_8 rfl 2 rfl ?_
  refine J_iadd E dX6_goesOn_9 ?_
  refine J_top (x' := nI (80 + i)) (nI_add 80 i) ?_
  refine lMn_2 E (j := (80 + i)) (i := i) rfl (by omega) dX6_goesOn_10 ?_
  refine J_istore_n E (lv' := [(3, .int (y 10 0 i)), (0, .ref (b 0)), (1, .int (nI 2)), (2, .int (nI i))]) dX6_goesOn_11 rfl (by decide) rfl ?_
  refine J_iload_n E dX6_goesOn_12 rfl 0 rfl ?_
  refine J_cSiN E (As := [.int (y 10 0 i)]) (c_X6_isHouse l G (y 10 0 i) ) cl_X6_87 yo_X6_isHouse dX6_goesOn_13 rfl (Nat.le_of_ble_eq_true rfl) (Nat.le_of_ble_eq_true rfl) rfl (Nat.le_of_ble_eq_true rfl) ⟨Nat.zero_le _, Nat.zero_le _⟩ ?_
  refine J_if_eq E (tgt := 48) dX6_goesOn_16 (by decide) (fun c_16 => ?_) (fun c_16 => ?_)
  · skip
    have c_16 := bI_0 c_16
    refine J_iconst E dX6_goesOn_48 ic_0 ?_
    exact ret _ _ _ _ ⟨by first | exact (bI_t (show judgP (y 0) (y 10 0) i = true from decide_eq_true ⟨c_16, Or.inl (by omega)⟩)).symm | exact (bI_t (show judgP (y 0) (y 10 0) (u + 1) = true from decide_eq_true ⟨c_16, Or.inr (by rw [show u + 1 - 1 = u by omega, hp2, nI_clamp (by omega)]; exact c_41)⟩)).symm | exact (bI_f (fun z => c_16 (of_decide_eq_true z).1)).symm | exact (bI_f (fun z => by have z2 := (of_decide_eq_true z).2.resolve_left (by omega); rw [show u + 1 - 1 = u by omega, hp2, nI_clamp (by omega)] at z2; exact c_41 z2)).symm, (congrArg (wM G b) (rfl))⟩ rfl dX6_goesOn_49
  · skip
    have c_16 := bI_1 c_16
    refine J_iload_n E dX6_goesOn_19 rfl 3 rfl ?_
    refine J_if_eq E (tgt := 44) dX6_goesOn_20 (by decide) (fun c_20 => ?_) (fun c_20 => ?_)
    · skip
      have n_20 : i = 0 := cmp_eq (a := i) (b := 0) (by omega) (by omega) c_20
      refine J_iconst E dX6_goesOn_44 ic_1 ?_
      refine J_goto E (tgt := 49) dX6_goesOn_45 (by decide) ?_
      exact ret _ _ _ _ ⟨by first | exact (bI_t (show judgP (y 0) (y 10 0) i = true from decide_eq_true ⟨c_16, Or.inl (by omega)⟩)).symm | exact (bI_t (show judgP (y 0) (y 10 0) (u + 1) = true from decide_eq_true ⟨c_16, Or.inr (by rw [show u + 1 - 1 = u by omega, hp2, nI_clamp (by omega)]; exact c_41)⟩)).symm | exact (bI_f (fun z => c_16 (of_decide_eq_true z).1)).symm | exact (bI_f (fun z => by have z2 := (of_decide_eq_true z).2.resolve_left (by omega); rw [show u + 1 - 1 = u by omega, hp2, nI_clamp (by omega)] at z2; exact c_41 z2)).symm, (congrArg (wM G b) (rfl))⟩ rfl dX6_goesOn_49
    · skip
      have n_20 : ¬ i = 0 := cmp_ne (a := i) (b := 0) (by omega) (by omega) c_20
      obtain ⟨u, rfl⟩ : ∃ u, i = u + 1 := ⟨i - 1, by omega⟩
      obtain ⟨p, hp1, hp2⟩ := okH_of (hp (by omega))
      have hp2 : y 10 0 u = nI p := hp2
      refine J_aload_n E dX6_goesOn_23 rfl 1 rfl ?_
      refine J_aload_n E dX6_goesOn_24 rfl 1 rfl ?_
      refine gM0_X6_37 E dX6_goesOn_25 ?_
      refine J_bipush E dX6_goesOn_28 bp_40 ?_
      refine J_iload_n E dX6_goesOn_30 rfl 2 rfl ?_
      refine J_imul E dX6_goesOn_31 ?_
      refine J_top (x' := nI 80) (by decide) ?_
      refine J_iload_n E dX6_goesOn_32 rfl 3 rfl ?_
      refine J_iadd E dX6_goesOn_33 ?_
      refine J_top (x' := nI (80 + (u + 1))) (nI_add 80 (u + 1)) ?_
      refine J_iconst E dX6_goesOn_34 ic_1 ?_
      refine J_isub E dX6_goesOn_35 ?_
      refine J_top (x' := nI (80 + u)) (nI_pred (80 + u)) ?_
      refine lMn_2 E (j := (80 + u)) (i := u) rfl (by omega) dX6_goesOn_36 ?_
      refine J_top (x' := nI p) (hp2) ?_
      refine J_cVi0 E (As := [.int (nI p)]) (c_X6_leads l G b y p (by omega)) cl_X6_110 yo_X6_leads dX6_goesOn_37 rfl rfl rfl (Nat.le_of_ble_eq_true rfl) (Nat.le_of_ble_eq_true rfl) rfl (Nat.le_of_ble_eq_true rfl) ⟨Nat.zero_le _, Nat.zero_le _⟩ ?_
      refine J_iload_n E dX6_goesOn_40 rfl 0 rfl ?_
      refine J_icmp_ne E (tgt := 48) dX6_goesOn_41 (by decide) (fun c_41 => ?_) (fun c_41 => ?_)
      · skip
        refine J_iconst E dX6_goesOn_48 ic_0 ?_
        exact ret _ _ _ _ ⟨by first | exact (bI_t (show judgP (y 0) (y 10 0) i = true from decide_eq_true ⟨c_16, Or.inl (by omega)⟩)).symm | exact (bI_t (show judgP (y 0) (y 10 0) (u + 1) = true from decide_eq_true ⟨c_16, Or.inr (by rw [show u + 1 - 1 = u by omega, hp2, nI_clamp (by omega)]; exact c_41)⟩)).symm | exact (bI_f (fun z => c_16 (of_decide_eq_true z).1)).symm | exact (bI_f (fun z => by have z2 := (of_decide_eq_true z).2.resolve_left (by omega); rw [show u + 1 - 1 = u by omega, hp2, nI_clamp (by omega)] at z2; exact c_41 z2)).symm, (congrArg (wM G b) (rfl))⟩ rfl dX6_goesOn_49
      · skip
        refine J_iconst E dX6_goesOn_44 ic_1 ?_
        refine J_goto E (tgt := 49) dX6_goesOn_45 (by decide) ?_
        exact ret _ _ _ _ ⟨by first | exact (bI_t (show judgP (y 0) (y 10 0) i = true from decide_eq_true ⟨c_16, Or.inl (by omega)⟩)).symm | exact (bI_t (show judgP (y 0) (y 10 0) (u + 1) = true from decide_eq_true ⟨c_16, Or.inr (by rw [show u + 1 - 1 = u by omega, hp2, nI_clamp (by omega)]; exact c_41)⟩)).symm | exact (bI_f (fun z => c_16 (of_decide_eq_true z).1)).symm | exact (bI_f (fun z => by have z2 := (of_decide_eq_true z).2.resolve_left (by omega); rw [show u + 1 - 1 = u by omega, hp2, nI_clamp (by omega)] at z2; exact c_41 z2)).symm, (congrArg (wM G b) (rfl))⟩ rfl dX6_goesOn_49

set_option maxHeartbeats 4000000 in
set_option maxRecDepth 20000 in
theorem c_X6_goesOn_3 (l : Launch) (G : GB) (b : Nat → Nat) (y : Q3) (i : Nat) (hi : i < 40) (hp : 0 < i → okH (y 11 0 (i - 1))) : CI l yX6_goesOn cX6_goesOn 4 .boolean 2 45 G [.ref (b 0), .int (nI 3), .int (nI i)] (wM G b y) (fun vR w' => vR = bI (judgP (y 0) (y 11 0) i = true) ∧ w' = wM G b y) := by
  refine CI.mk (own := RX6) (by decide) rfl (Nat.le_of_ble_eq_true rfl) ?_
  intro X E ret
  show J X G 4 0 0 (wM G b y) [(0, .ref (b 0)), (1, .int (nI 3)), (2, .int (nI i))] 0 []
  refine J_aload_n E dX6_goesOn_0 rfl 0 rfl ?_
  refine gM0_X6_37 E dX6_goesOn_1 ?_
  refine J_bipush E dX6_goesOn_4 bp_40 ?_
  refine J_iload_n E dX6_goesOn_6 rfl 1 rfl ?_
  refine J_imul E dX6_goesOn_7 ?_
  refine J_top (x' := nI 120) (by decide) ?_
  refine J_iload_n E dX6_goesOn_8 rfl 2 rfl ?_
  refine J_iadd E dX6_goesOn_9 ?_
  refine J_top (x' := nI (120 + i)) (nI_add 120 i) ?_
  refine lMn_3 E (j := (120 + i)) (i := i) rfl (by omega) dX6_goesOn_10 ?_
  refine J_istore_n E (lv' := [(3, .int (y 11 0 i)), (0, .ref (b 0)), (1, .int (nI 3)), (2, .int (nI i))]) dX6_goesOn_11 rfl (by decide) rfl ?_
  refine J_iload_n E dX6_goesOn_12 rfl 0 rfl ?_
  refine J_cSiN E (As := [.int (y 11 0 i)]) (c_X6_isHouse l G (y 11 0 i) ) cl_X6_87 yo_X6_isHouse dX6_goesOn_13 rfl (Nat.le_of_ble_eq_true rfl) (Nat.le_of_ble_eq_true rfl) rfl (Nat.le_of_ble_eq_true rfl) ⟨Nat.zero_le _, Nat.zero_le _⟩ ?_
  refine J_if_eq E (tgt := 48) dX6_goesOn_16 (by decide) (fun c_16 => ?_) (fun c_16 => ?_)
  · skip
    have c_16 := bI_0 c_16
    refine J_iconst E dX6_goesOn_48 ic_0 ?_
    exact ret _ _ _ _ ⟨by first | exact (bI_t (show judgP (y 0) (y 11 0) i = true from decide_eq_true ⟨c_16, Or.inl (by omega)⟩)).symm | exact (bI_t (show judgP (y 0) (y 11 0) (u + 1) = true from decide_eq_true ⟨c_16, Or.inr (by rw [show u + 1 - 1 = u by omega, hp2, nI_clamp (by omega)]; exact c_41)⟩)).symm | exact (bI_f (fun z => c_16 (of_decide_eq_true z).1)).symm | exact (bI_f (fun z => by have z2 := (of_decide_eq_true z).2.resolve_left (by omega); rw [show u + 1 - 1 = u by omega, hp2, nI_clamp (by omega)] at z2; exact c_41 z2)).symm, (congrArg (wM G b) (rfl))⟩ rfl dX6_goesOn_49
  · skip
    have c_16 := bI_1 c_16
    refine J_iload_n E dX6_goesOn_19 rfl 3 rfl ?_
    refine J_if_eq E (tgt := 44) dX6_goesOn_20 (by decide) (fun c_20 => ?_) (fun c_20 => ?_)
    · skip
      have n_20 : i = 0 := cmp_eq (a := i) (b := 0) (by omega) (by omega) c_20
      refine J_iconst E dX6_goesOn_44 ic_1 ?_
      refine J_goto E (tgt := 49) dX6_goesOn_45 (by decide) ?_
      exact ret _ _ _ _ ⟨by first | exact (bI_t (show judgP (y 0) (y 11 0) i = true from decide_eq_true ⟨c_16, Or.inl (by omega)⟩)).symm | exact (bI_t (show judgP (y 0) (y 11 0) (u + 1) = true from decide_eq_true ⟨c_16, Or.inr (by rw [show u + 1 - 1 = u by omega, hp2, nI_clamp (by omega)]; exact c_41)⟩)).symm | exact (bI_f (fun z => c_16 (of_decide_eq_true z).1)).symm | exact (bI_f (fun z => by have z2 := (of_decide_eq_true z).2.resolve_left (by omega); rw [show u + 1 - 1 = u by omega, hp2, nI_clamp (by omega)] at z2; exact c_41 z2)).symm, (congrArg (wM G b) (rfl))⟩ rfl dX6_goesOn_49
    · skip
      have n_20 : ¬ i = 0 := cmp_ne (a := i) (b := 0) (by omega) (by omega) c_20
      obtain ⟨u, rfl⟩ : ∃ u, i = u + 1 := ⟨i - 1, by omega⟩
      obtain ⟨p, hp1, hp2⟩ := okH_of (hp (by omega))
      have hp2 : y 11 0 u = nI p := hp2
      refine J_aload_n E dX6_goesOn_23 rfl 1 rfl ?_
      refine J_aload_n E dX6_goesOn_24 rfl 1 rfl ?_
      refine gM0_X6_37 E dX6_goesOn_25 ?_
      refine J_bipush E dX6_goesOn_28 bp_40 ?_
      refine J_iload_n E dX6_goesOn_30 rfl 2 rfl ?_
      refine J_imul E dX6_goesOn_31 ?_
      refine J_top (x' := nI 120) (by decide) ?_
      refine J_iload_n E dX6_goesOn_32 rfl 3 rfl ?_
      refine J_iadd E dX6_goesOn_33 ?_
      refine J_top (x' := nI (120 + (u + 1))) (nI_add 120 (u + 1)) ?_
      refine J_iconst E dX6_goesOn_34 ic_1 ?_
      refine J_isub E dX6_goesOn_35 ?_
      refine J_top (x' := nI (120 + u)) (nI_pred (120 + u)) ?_
      refine lMn_3 E (j := (120 + u)) (i := u) rfl (by omega) dX6_goesOn_36 ?_
      refine J_top (x' := nI p) (hp2) ?_
      refine J_cVi0 E (As := [.int (nI p)]) (c_X6_leads l G b y p (by omega)) cl_X6_110 yo_X6_leads dX6_goesOn_37 rfl rfl rfl (Nat.le_of_ble_eq_true rfl) (Nat.le_of_ble_eq_true rfl) rfl (Nat.le_of_ble_eq_true rfl) ⟨Nat.zero_le _, Nat.zero_le _⟩ ?_
      refine J_iload_n E dX6_goesOn_40 rfl 0 rfl ?_
      refine J_icmp_ne E (tgt := 48) dX6_goesOn_41 (by decide) (fun c_41 => ?_) (fun c_41 => ?_)
      · skip
        refine J_iconst E dX6_goesOn_48 ic_0 ?_
        exact ret _ _ _ _ ⟨by first | exact (bI_t (show judgP (y 0) (y 11 0) i = true from decide_eq_true ⟨c_16, Or.inl (by omega)⟩)).symm | exact (bI_t (show judgP (y 0) (y 11 0) (u + 1) = true from decide_eq_true ⟨c_16, Or.inr (by rw [show u + 1 - 1 = u by omega, hp2, nI_clamp (by omega)]; exact c_41)⟩)).symm | exact (bI_f (fun z => c_16 (of_decide_eq_true z).1)).symm | exact (bI_f (fun z => by have z2 := (of_decide_eq_true z).2.resolve_left (by omega); rw [show u + 1 - 1 = u by omega, hp2, nI_clamp (by omega)] at z2; exact c_41 z2)).symm, (congrArg (wM G b) (rfl))⟩ rfl dX6_goesOn_49
      · skip
        refine J_iconst E dX6_goesOn_44 ic_1 ?_
        refine J_goto E (tgt := 49) dX6_goesOn_45 (by decide) ?_
        exact ret _ _ _ _ ⟨by first | exact (bI_t (show judgP (y 0) (y 11 0) i = true from decide_eq_true ⟨c_16, Or.inl (by omega)⟩)).symm | exact (bI_t (show judgP (y 0) (y 11 0) (u + 1) = true from decide_eq_true ⟨c_16, Or.inr (by rw [show u + 1 - 1 = u by omega, hp2, nI_clamp (by omega)]; exact c_41)⟩)).symm | exact (bI_f (fun z => c_16 (of_decide_eq_true z).1)).symm | exact (bI_f (fun z => by have z2 := (of_decide_eq_true z).2.resolve_left (by omega); rw [show u + 1 - 1 = u by omega, hp2, nI_clamp (by omega)] at z2; exact c_41 z2)).symm, (congrArg (wM G b) (rfl))⟩ rfl dX6_goesOn_49
