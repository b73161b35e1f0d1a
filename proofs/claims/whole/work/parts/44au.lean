set_option maxHeartbeats 4000000 in
set_option maxRecDepth 20000 in
theorem c_X6_write_bad_2 (l : Launch) (G : GB) (b : Nat → Nat) (y : Q3) (i v : Int32) (n : Nat) (hb : ¬ y 10 1 0 = 0) (hn : y 10 1 1 = nI n) (hn2 : n ≤ 40) (hi : ¬ (0 ≤ i ∧ i < nI n)) : CI l yX6_write cX6_write 5 .int 3 66 G [.ref (b 0), .int (nI 2), .int i, .int v] (wM G b y) (fun vR w' => vR = tellR 0 ∧ PubM G b (tellX y 0) w') := by
  refine CI.mk (own := RX6) (by decide) rfl (Nat.le_of_ble_eq_true rfl) ?_
  intro X E ret
  show J X G 5 0 0 (wM G b y) [(0, .ref (b 0)), (1, .int (nI 2)), (2, .int i), (3, .int v)] 0 []
  refine J_aload_n E dX6_write_0 rfl 0 rfl ?_
  refine J_iload_n E dX6_write_1 rfl 1 rfl ?_
  refine J_cVi0 E (As := [.int (nI 2)]) (c_X6_lacks_2_1 l G b y hb ) cl_X6_197 yo_X6_lacks dX6_write_2 rfl rfl rfl (Nat.le_of_ble_eq_true rfl) (Nat.le_of_ble_eq_true rfl) rfl (Nat.le_of_ble_eq_true rfl) ⟨Nat.zero_le _, Nat.zero_le _⟩ ?_
  refine J_istore E (lv' := [(4, .int (-1)), (0, .ref (b 0)), (1, .int (nI 2)), (2, .int i), (3, .int v)]) dX6_write_5 (by decide) rfl ?_
  refine J_iload E dX6_write_7 0 rfl ?_
  refine J_if_lt E (tgt := 19) dX6_write_9 (by decide) (fun c_9 => ?_) (fun c_9 => ?_)
  · skip
    refine J_iload_n E dX6_write_19 rfl 3 rfl ?_
    refine J_i2l E dX6_write_20 rfl ?_
    refine J_lconst E dX6_write_21 lc_0 ?_
    refine J_aload_n E dX6_write_22 rfl 1 rfl ?_
    refine gM0_X6_34 E dX6_write_23 ?_
    refine J_iload_n E dX6_write_26 rfl 2 rfl ?_
    refine lMz_2 E  dX6_write_27 ?_
    refine J_top (x' := nI n) (hn) ?_
    refine J_iconst E dX6_write_28 ic_1 ?_
    refine J_isub E dX6_write_29 ?_
    refine J_i2l E dX6_write_30 rfl ?_
    refine J_cSiN E (As := [.long (Int32.toInt64 i), .long 0, .long (Int32.toInt64 ((nI n) - 1))]) (c_X6_in l G i 0 ((nI n) - 1) 0 (Int32.toInt64 ((nI n) - 1)) (by decide) rfl ) cl_X6_54 yo_X6_in dX6_write_31 rfl (Nat.le_of_ble_eq_true rfl) (Nat.le_of_ble_eq_true rfl) rfl (Nat.le_of_ble_eq_true rfl) ⟨Nat.zero_le _, Nat.zero_le _⟩ ?_
    refine J_if_ne E (tgt := 43) dX6_write_34 (by decide) (fun c_34 => ?_) (fun c_34 => ?_)
    · skip
      have c_34 := bI_1 c_34
      exact absurd ((le_pred hn2).mp c_34) hi
    · skip
      have c_34 := bI_0 c_34
      refine J_aload_n E dX6_write_37 rfl 1 rfl ?_
      refine J_iconst E dX6_write_38 ic_0 ?_
      refine J_cVi0 E (As := [.int 0]) (c_X6_finds l G b y 0 (by omega)) cl_X6_96 yo_X6_finds dX6_write_39 rfl rfl rfl (Nat.le_of_ble_eq_true rfl) (Nat.le_of_ble_eq_true rfl) rfl (Nat.le_of_ble_eq_true rfl) ⟨Nat.zero_le _, Nat.zero_le _⟩ ?_
      exact ret _ _ _ _ ⟨rfl, _, rfl, by intro g h2 h5 h6; by_cases h0 : g = 0 <;> simp [tellX, upG, up3, up3R, up2, h0, h2, h5, h6]⟩ rfl dX6_write_42
  · skip
    exact absurd c_9 (by decide)

set_option maxHeartbeats 4000000 in
set_option maxRecDepth 20000 in
theorem c_X6_write_ok_2 (l : Launch) (G : GB) (b : Nat → Nat) (y : Q3) (j n : Nat) (v : Int32) (hb : ¬ y 10 1 0 = 0) (hn : y 10 1 1 = nI n) (hn2 : n ≤ 40) (hj : j < n) : CI l yX6_write cX6_write 5 .int 3 66 G [.ref (b 0), .int (nI 2), .int (nI j), .int v] (wM G b y) (fun vR w' => vR = 1 ∧ PubM G b (upG y 10 (up2 (y 10) 0 j (narS (y 10 1 0) v))) w') := by
  refine CI.mk (own := RX6) (by decide) rfl (Nat.le_of_ble_eq_true rfl) ?_
  intro X E ret
  show J X G 5 0 0 (wM G b y) [(0, .ref (b 0)), (1, .int (nI 2)), (2, .int (nI j)), (3, .int v)] 0 []
  refine J_aload_n E dX6_write_0 rfl 0 rfl ?_
  refine J_iload_n E dX6_write_1 rfl 1 rfl ?_
  refine J_cVi0 E (As := [.int (nI 2)]) (c_X6_lacks_2_1 l G b y hb ) cl_X6_197 yo_X6_lacks dX6_write_2 rfl rfl rfl (Nat.le_of_ble_eq_true rfl) (Nat.le_of_ble_eq_true rfl) rfl (Nat.le_of_ble_eq_true rfl) ⟨Nat.zero_le _, Nat.zero_le _⟩ ?_
  refine J_istore E (lv' := [(4, .int (-1)), (0, .ref (b 0)), (1, .int (nI 2)), (2, .int (nI j)), (3, .int v)]) dX6_write_5 (by decide) rfl ?_
  refine J_iload E dX6_write_7 0 rfl ?_
  refine J_if_lt E (tgt := 19) dX6_write_9 (by decide) (fun c_9 => ?_) (fun c_9 => ?_)
  · skip
    refine J_iload_n E dX6_write_19 rfl 3 rfl ?_
    refine J_i2l E dX6_write_20 rfl ?_
    refine J_lconst E dX6_write_21 lc_0 ?_
    refine J_aload_n E dX6_write_22 rfl 1 rfl ?_
    refine gM0_X6_34 E dX6_write_23 ?_
    refine J_iload_n E dX6_write_26 rfl 2 rfl ?_
    refine lMz_2 E  dX6_write_27 ?_
    refine J_top (x' := nI n) (hn) ?_
    refine J_iconst E dX6_write_28 ic_1 ?_
    refine J_isub E dX6_write_29 ?_
    refine J_i2l E dX6_write_30 rfl ?_
    refine J_cSiN E (As := [.long (Int32.toInt64 (nI j)), .long 0, .long (Int32.toInt64 ((nI n) - 1))]) (c_X6_in l G (nI j) 0 ((nI n) - 1) 0 (Int32.toInt64 ((nI n) - 1)) (by decide) rfl ) cl_X6_54 yo_X6_in dX6_write_31 rfl (Nat.le_of_ble_eq_true rfl) (Nat.le_of_ble_eq_true rfl) rfl (Nat.le_of_ble_eq_true rfl) ⟨Nat.zero_le _, Nat.zero_le _⟩ ?_
    refine J_if_ne E (tgt := 43) dX6_write_34 (by decide) (fun c_34 => ?_) (fun c_34 => ?_)
    · skip
      have c_34 := bI_1 c_34
      refine J_aload_n E dX6_write_43 rfl 1 rfl ?_
      refine gM0_X6_37 E dX6_write_44 ?_
      refine J_bipush E dX6_write_47 bp_40 ?_
      refine J_iload_n E dX6_write_49 rfl 2 rfl ?_
      refine J_imul E dX6_write_50 ?_
      refine J_top (x' := nI 80) (by decide) ?_
      refine J_iload_n E dX6_write_51 rfl 3 rfl ?_
      refine J_iadd E dX6_write_52 ?_
      refine J_top (x' := nI (80 + j)) (nI_add 80 j) ?_
      refine J_aload_n E dX6_write_53 rfl 1 rfl ?_
      refine gM0_X6_31 E dX6_write_54 ?_
      refine J_iload_n E dX6_write_57 rfl 2 rfl ?_
      refine lMb_2 E  dX6_write_58 ?_
      refine J_bipush E dX6_write_59 bp_8 ?_
      refine J_icmp_ne E (tgt := 69) dX6_write_61 (by decide) (fun c_61 => ?_) (fun c_61 => ?_)
      · skip
        refine J_aload_n E dX6_write_69 rfl 1 rfl ?_
        refine gM0_X6_31 E dX6_write_70 ?_
        refine J_iload_n E dX6_write_73 rfl 2 rfl ?_
        refine lMb_2 E  dX6_write_74 ?_
        refine J_bipush E dX6_write_75 bp_16 ?_
        refine J_icmp_ne E (tgt := 85) dX6_write_77 (by decide) (fun c_77 => ?_) (fun c_77 => ?_)
        · skip
          refine J_iload_n E dX6_write_85 rfl 4 rfl ?_
          refine J_top (x' := narS (y 10 1 0) v) (by simp [narS, c_9, c_34, c_61, c_77]) ?_
          refine sMn_2 E (j := (80 + j)) (i := j) rfl (by omega) dX6_write_86 ?_
          refine J_iconst E dX6_write_87 ic_1 ?_
          exact ret _ _ _ _ ⟨rfl, _, rfl, ShM.rfl'⟩ rfl dX6_write_88
        · skip
          refine J_iload_n E dX6_write_80 rfl 4 rfl ?_
          refine J_i2s E dX6_write_81 rfl ?_
          refine J_goto E (tgt := 86) dX6_write_82 (by decide) ?_
          refine J_top (x' := narS (y 10 1 0) v) (by simp [narS, c_9, c_34, c_61, c_77]) ?_
          refine sMn_2 E (j := (80 + j)) (i := j) rfl (by omega) dX6_write_86 ?_
          refine J_iconst E dX6_write_87 ic_1 ?_
          exact ret _ _ _ _ ⟨rfl, _, rfl, ShM.rfl'⟩ rfl dX6_write_88
      · skip
        refine J_iload_n E dX6_write_64 rfl 4 rfl ?_
        refine J_i2b E dX6_write_65 rfl ?_
        refine J_goto E (tgt := 86) dX6_write_66 (by decide) ?_
        refine J_top (x' := narS (y 10 1 0) v) (by simp [narS, c_9, c_34, c_61]) ?_
        refine sMn_2 E (j := (80 + j)) (i := j) rfl (by omega) dX6_write_86 ?_
        refine J_iconst E dX6_write_87 ic_1 ?_
        exact ret _ _ _ _ ⟨rfl, _, rfl, ShM.rfl'⟩ rfl dX6_write_88
    · skip
      have c_34 := bI_0 c_34
      exact absurd ((le_pred hn2).mpr ⟨nI_pos' (by omega), nI_lt hj (by omega)⟩) c_34
  · skip
    exact absurd c_9 (by decide)

set_option maxHeartbeats 4000000 in
set_option maxRecDepth 20000 in
theorem c_X6_write_bad_3 (l : Launch) (G : GB) (b : Nat → Nat) (y : Q3) (i v : Int32) (n : Nat) (hb : ¬ y 11 1 0 = 0) (hn : y 11 1 1 = nI n) (hn2 : n ≤ 40) (hi : ¬ (0 ≤ i ∧ i < nI n)) : CI l yX6_write cX6_write 5 .int 3 66 G [.ref (b 0), .int (nI 3), .int i, .int v] (wM G b y) (fun vR w' => vR = tellR 0 ∧ PubM G b (tellX y 0) w') := by
  refine CI.mk (own := RX6) (by decide) rfl (Nat.le_of_ble_eq_true rfl) ?_
  intro X E ret
  show J X G 5 0 0 (wM G b y) [(0, .ref (b 0)), (1, .int (nI 3)), (2, .int i), (3, .int v)] 0 []
  refine J_aload_n E dX6_write_0 rfl 0 rfl ?_
  refine J_iload_n E dX6_write_1 rfl 1 rfl ?_
  refine J_cVi0 E (As := [.int (nI 3)]) (c_X6_lacks_3_1 l G b y hb ) cl_X6_197 yo_X6_lacks dX6_write_2 rfl rfl rfl (Nat.le_of_ble_eq_true rfl) (Nat.le_of_ble_eq_true rfl) rfl (Nat.le_of_ble_eq_true rfl) ⟨Nat.zero_le _, Nat.zero_le _⟩ ?_
  refine J_istore E (lv' := [(4, .int (-1)), (0, .ref (b 0)), (1, .int (nI 3)), (2, .int i), (3, .int v)]) dX6_write_5 (by decide) rfl ?_
  refine J_iload E dX6_write_7 0 rfl ?_
  refine J_if_lt E (tgt := 19) dX6_write_9 (by decide) (fun c_9 => ?_) (fun c_9 => ?_)
  · skip
    refine J_iload_n E dX6_write_19 rfl 3 rfl ?_
    refine J_i2l E dX6_write_20 rfl ?_
    refine J_lconst E dX6_write_21 lc_0 ?_
    refine J_aload_n E dX6_write_22 rfl 1 rfl ?_
    refine gM0_X6_34 E dX6_write_23 ?_
    refine J_iload_n E dX6_write_26 rfl 2 rfl ?_
    refine lMz_3 E  dX6_write_27 ?_
    refine J_top (x' := nI n) (hn) ?_
    refine J_iconst E dX6_write_28 ic_1 ?_
    refine J_isub E dX6_write_29 ?_
    refine J_i2l E dX6_write_30 rfl ?_
    refine J_cSiN E (As := [.long (Int32.toInt64 i), .long 0, .long (Int32.toInt64 ((nI n) - 1))]) (c_X6_in l G i 0 ((nI n) - 1) 0 (Int32.toInt64 ((nI n) - 1)) (by decide) rfl ) cl_X6_54 yo_X6_in dX6_write_31 rfl (Nat.le_of_ble_eq_true rfl) (Nat.le_of_ble_eq_true rfl) rfl (Nat.le_of_ble_eq_true rfl) ⟨Nat.zero_le _, Nat.zero_le _⟩ ?_
    refine J_if_ne E (tgt := 43) dX6_write_34 (by decide) (fun c_34 => ?_) (fun c_34 => ?_)
    · skip
      have c_34 := bI_1 c_34
      exact absurd ((le_pred hn2).mp c_34) hi
    · skip
      have c_34 := bI_0 c_34
      refine J_aload_n E dX6_write_37 rfl 1 rfl ?_
      refine J_iconst E dX6_write_38 ic_0 ?_
      refine J_cVi0 E (As := [.int 0]) (c_X6_finds l G b y 0 (by omega)) cl_X6_96 yo_X6_finds dX6_write_39 rfl rfl rfl (Nat.le_of_ble_eq_true rfl) (Nat.le_of_ble_eq_true rfl) rfl (Nat.le_of_ble_eq_true rfl) ⟨Nat.zero_le _, Nat.zero_le _⟩ ?_
      exact ret _ _ _ _ ⟨rfl, _, rfl, by intro g h2 h5 h6; by_cases h0 : g = 0 <;> simp [tellX, upG, up3, up3R, up2, h0, h2, h5, h6]⟩ rfl dX6_write_42
  · skip
    exact absurd c_9 (by decide)

set_option maxHeartbeats 4000000 in
set_option maxRecDepth 20000 in
theorem c_X6_write_ok_3 (l : Launch) (G : GB) (b : Nat → Nat) (y : Q3) (j n : Nat) (v : Int32) (hb : ¬ y 11 1 0 = 0) (hn : y 11 1 1 = nI n) (hn2 : n ≤ 40) (hj : j < n) : CI l yX6_write cX6_write 5 .int 3 66 G [.ref (b 0), .int (nI 3), .int (nI j), .int v] (wM G b y) (fun vR w' => vR = 1 ∧ PubM G b (upG y 11 (up2 (y 11) 0 j (narS (y 11 1 0) v))) w') := by
  refine CI.mk (own := RX6) (by decide) rfl (Nat.le_of_ble_eq_true rfl) ?_
  intro X E ret
  show J X G 5 0 0 (wM G b y) [(0, .ref (b 0)), (1, .int (nI 3)), (2, .int (nI j)), (3, .int v)] 0 []
  refine J_aload_n E dX6_write_0 rfl 0 rfl ?_
  refine J_iload_n E dX6_write_1 rfl 1 rfl ?_
  refine J_cVi0 E (As := [.int (nI 3)]) (c_X6_lacks_3_1 l G b y hb ) cl_X6_197 yo_X6_lacks dX6_write_2 rfl rfl rfl (Nat.le_of_ble_eq_true rfl) (Nat.le_of_ble_eq_true rfl) rfl (Nat.le_of_ble_eq_true rfl) ⟨Nat.zero_le _, Nat.zero_le _⟩ ?_
  refine J_istore E (lv' := [(4, .int (-1)), (0, .ref (b 0)), (1, .int (nI 3)), (2, .int (nI j)), (3, .int v)]) dX6_write_5 (by decide) rfl ?_
  refine J_iload E dX6_write_7 0 rfl ?_
  refine J_if_lt E (tgt := 19) dX6_write_9 (by decide) (fun c_9 => ?_) (fun c_9 => ?_)
  · skip
    refine J_iload_n E dX6_write_19 rfl 3 rfl ?_
    refine J_i2l E dX6_write_20 rfl ?_
    refine J_lconst E dX6_write_21 lc_0 ?_
    refine J_aload_n E dX6_write_22 rfl 1 rfl ?_
    refine gM0_X6_34 E dX6_write_23 ?_
    refine J_iload_n E dX6_write_26 rfl 2 rfl ?_
    refine lMz_3 E  dX6_write_27 ?_
    refine J_top (x' := nI n) (hn) ?_
    refine J_iconst E dX6_write_28 ic_1 ?_
    refine J_isub E dX6_write_29 ?_
    refine J_i2l E dX6_write_30 rfl ?_
    refine J_cSiN E (As := [.long (Int32.toInt64 (nI j)), .long 0, .long (Int32.toInt64 ((nI n) - 1))]) (c_X6_in l G (nI j) 0 ((nI n) - 1) 0 (Int32.toInt64 ((nI n) - 1)) (by decide) rfl ) cl_X6_54 yo_X6_in dX6_write_31 rfl (Nat.le_of_ble_eq_true rfl) (Nat.le_of_ble_eq_true rfl) rfl (Nat.le_of_ble_eq_true rfl) ⟨Nat.zero_le _, Nat.zero_le _⟩ ?_
    refine J_if_ne E (tgt := 43) dX6_write_34 (by decide) (fun c_34 => ?_) (fun c_34 => ?_)
    · skip
      have c_34 := bI_1 c_34
      refine J_aload_n E dX6_write_43 rfl 1 rfl ?_
      refine gM0_X6_37 E dX6_write_44 ?_
      refine J_bipush E dX6_write_47 bp_40 ?_
      refine J_iload_n E dX6_write_49 rfl 2 rfl ?_
      refine J_imul E dX6_write_50 ?_
      refine J_top (x' := nI 120) (by decide) ?_
      refine J_iload_n E dX6_write_51 rfl 3 rfl ?_
      refine J_iadd E dX6_write_52 ?_
      refine J_top (x' := nI (120 + j)) (nI_add 120 j) ?_
      refine J_aload_n E dX6_write_53 rfl 1 rfl ?_
      refine gM0_X6_31 E dX6_write_54 ?_
      refine J_iload_n E dX6_write_57 rfl 2 rfl ?_
      refine lMb_3 E  dX6_write_58 ?_
      refine J_bipush E dX6_write_59 bp_8 ?_
      refine J_icmp_ne E (tgt := 69) dX6_write_61 (by decide) (fun c_61 => ?_) (fun c_61 => ?_)
      · skip
        refine J_aload_n E dX6_write_69 rfl 1 rfl ?_
        refine gM0_X6_31 E dX6_write_70 ?_
        refine J_iload_n E dX6_write_73 rfl 2 rfl ?_
        refine lMb_3 E  dX6_write_74 ?_
        refine J_bipush E dX6_write_75 bp_16 ?_
        refine J_icmp_ne E (tgt := 85) dX6_write_77 (by decide) (fun c_77 => ?_) (fun c_77 => ?_)
        · skip
          refine J_iload_n E dX6_write_85 rfl 4 rfl ?_
          refine J_top (x' := narS (y 11 1 0) v) (by simp [narS, c_9, c_34, c_61, c_77]) ?_
          refine sMn_3 E (j := (120 + j)) (i := j) rfl (by omega) dX6_write_86 ?_
          refine J_iconst E dX6_write_87 ic_1 ?_
          exact ret _ _ _ _ ⟨rfl, _, rfl, ShM.rfl'⟩ rfl dX6_write_88
        · skip
          refine J_iload_n E dX6_write_80 rfl 4 rfl ?_
          refine J_i2s E dX6_write_81 rfl ?_
          refine J_goto E (tgt := 86) dX6_write_82 (by decide) ?_
          refine J_top (x' := narS (y 11 1 0) v) (by simp [narS, c_9, c_34, c_61, c_77]) ?_
          refine sMn_3 E (j := (120 + j)) (i := j) rfl (by omega) dX6_write_86 ?_
          refine J_iconst E dX6_write_87 ic_1 ?_
          exact ret _ _ _ _ ⟨rfl, _, rfl, ShM.rfl'⟩ rfl dX6_write_88
      · skip
        refine J_iload_n E dX6_write_64 rfl 4 rfl ?_
        refine J_i2b E dX6_write_65 rfl ?_
        refine J_goto E (tgt := 86) dX6_write_66 (by decide) ?_
        refine J_top (x' := narS (y 11 1 0) v) (by simp [narS, c_9, c_34, c_61]) ?_
        refine sMn_3 E (j := (120 + j)) (i := j) rfl (by omega) dX6_write_86 ?_
        refine J_iconst E dX6_write_87 ic_1 ?_
        exact ret _ _ _ _ ⟨rfl, _, rfl, ShM.rfl'⟩ rfl dX6_write_88
    · skip
      have c_34 := bI_0 c_34
      exact absurd ((le_pred hn2).mpr ⟨nI_pos' (by omega), nI_lt hj (by omega)⟩) c_34
  · skip
    exact absurd c_9 (by decide)
