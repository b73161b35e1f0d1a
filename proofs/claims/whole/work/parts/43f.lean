set_option maxHeartbeats 4000000 in
set_option maxRecDepth 20000 in
theorem c_X6_best_bad (l : Launch) (G : GB) (b : Nat → Nat) (y : Q3) (n : Int32) (hb : ¬ (0 ≤ n ∧ n ≤ 40)) : CI l yX6_best cX6_best 6 .int 2 45 G [.ref (b 0), .int n] (wM G b y) (fun vR w' => vR = tellR 0 ∧ PubM G b (tellX y 0) w') := by
  refine CI.mk (own := RX6) (by decide) rfl (Nat.le_of_ble_eq_true rfl) ?_
  intro X E ret
  show J X G 6 0 0 (wM G b y) [(0, .ref (b 0)), (1, .int n)] 0 []
  refine J_iload_n E dX6_best_0 rfl 1 rfl ?_
  refine J_cSiN E (As := [.int n]) (c_X6_isSoon l G n ) cl_X6_176 yo_X6_isSoon dX6_best_1 rfl (Nat.le_of_ble_eq_true rfl) (Nat.le_of_ble_eq_true rfl) rfl (Nat.le_of_ble_eq_true rfl) ⟨Nat.zero_le _, Nat.zero_le _⟩ ?_
  refine J_if_ne E (tgt := 13) dX6_best_4 (by decide) (fun c_4 => ?_) (fun c_4 => ?_)
  · skip
    have c_4 := bI_1 c_4
    exact absurd c_4 hb
  · skip
    have c_4 := bI_0 c_4
    refine J_aload_n E dX6_best_7 rfl 0 rfl ?_
    refine J_iconst E dX6_best_8 ic_0 ?_
    refine J_cVi0 E (As := [.int 0]) (c_X6_finds l G b y 0 (by omega)) cl_X6_96 yo_X6_finds dX6_best_9 rfl rfl rfl (Nat.le_of_ble_eq_true rfl) (Nat.le_of_ble_eq_true rfl) rfl (Nat.le_of_ble_eq_true rfl) ⟨Nat.zero_le _, Nat.zero_le _⟩ ?_
    exact ret _ _ _ _ ⟨rfl, _, rfl, by intro g h2 h5 h6; by_cases h0 : g = 0 <;> simp [tellX, upG, up3, up3R, up2, h0, h2, h5, h6]⟩ rfl dX6_best_12

set_option maxHeartbeats 4000000 in
set_option maxRecDepth 20000 in
theorem c_X6_best_ok (l : Launch) (G : GB) (b : Nat → Nat) (y : Q3) (m : Nat) (hm : m ≤ 40) (hok : okQ (y 0))  : CI l yX6_best cX6_best 6 .int 6 137 G [.ref (b 0), .int (nI m)] (wM G b y) (fun vR w' => vR = nI (minF (fun o => onesF (drysR (turnRQ (y 0) (bitI o)) m) 11) 11).2 ∧ PubM G b y w') := by
  refine CI.mk (own := RX6) (by decide) rfl (Nat.le_of_ble_eq_true rfl) ?_
  intro X E ret
  show J X G 6 0 0 (wM G b y) [(0, .ref (b 0)), (1, .int (nI m))] 0 []
  refine J_iload_n E dX6_best_0 rfl 1 rfl ?_
  refine J_cSiN E (As := [.int (nI m)]) (c_X6_isSoon l G (nI m) ) cl_X6_176 yo_X6_isSoon dX6_best_1 rfl (Nat.le_of_ble_eq_true rfl) (Nat.le_of_ble_eq_true rfl) rfl (Nat.le_of_ble_eq_true rfl) ⟨Nat.zero_le _, Nat.zero_le _⟩ ?_
  refine J_if_ne E (tgt := 13) dX6_best_4 (by decide) (fun c_4 => ?_) (fun c_4 => ?_)
  · skip
    have c_4 := bI_1 c_4
    refine J_iconst E dX6_best_13 ic_0 ?_
    refine J_istore_n E (lv' := [(2, .int 0), (0, .ref (b 0)), (1, .int (nI m))]) dX6_best_14 rfl (by decide) rfl ?_
    refine J_bipush E dX6_best_15 bp_12 ?_
    refine J_istore_n E (lv' := [(3, .int 12), (2, .int 0), (0, .ref (b 0)), (1, .int (nI m))]) dX6_best_17 rfl (by decide) rfl ?_
    refine J_iconst E dX6_best_18 ic_0 ?_
    refine J_istore E (lv' := [(4, .int 0), (3, .int 12), (2, .int 0), (0, .ref (b 0)), (1, .int (nI m))]) dX6_best_19 (by decide) rfl ?_
    refine J_w (ws' := wM G b (upG y 5 (y 5))) (congrArg (wM G b) upG_id.symm) ?_
    have lp21 : ∀ (fu : Nat) (i : Nat) (bs : Int32) (mo : Int32) (d : Q2) (z : Q2), (i ≤ 11) → (bs = nI (minF (fun o => onesF (drysR (turnRQ (y 0) (bitI o)) m) 11) i).2) → (mo = (minF (fun o => onesF (drysR (turnRQ (y 0) (bitI o)) m) 11) i).1) → 11 - i < fu → J X G 6 0 0 (wM G b (upG (upG y 5 d) 2 z)) [(0, .ref (b 0)), (1, .int (nI m)), (2, .int bs), (3, .int mo), (4, .int (nI i))] 21 [] := by
      intro fu
      induction fu with
      | zero => intro i bs mo d z hi hb hm2 hm; exact absurd hm (Nat.not_lt_zero _)
      | succ fu ih21 =>
        intro i bs mo d z hi hb hm2 hm
        refine J_iload E dX6_best_21 4 rfl ?_
        refine J_bipush E dX6_best_23 bp_11 ?_
        refine J_icmp_ge E (tgt := 68) dX6_best_25 (by decide) (fun c_25 => ?_) (fun c_25 => ?_)
        · skip
          have n_25 : 11 ≤ i := cmp_le (a := 11) (b := i) (by omega) (by omega) c_25
          refine J_iload_n E dX6_best_68 rfl 2 rfl ?_
          exact ret _ _ _ _ ⟨by rw [hb, show i = 11 by omega], _, rfl, by intro g h2 h5 h6; by_cases h0 : g = 0 <;> simp [tellX, upG, up3, up3R, up2, h0, h2, h5, h6]⟩ rfl dX6_best_69
        · skip
          have n_25 : ¬ 11 ≤ i := cmp_nle (a := 11) (b := i) (by omega) (by omega) c_25
          refine J_aload_n E dX6_best_28 rfl 0 rfl ?_
          refine J_iconst E dX6_best_29 ic_1 ?_
          refine J_iload E dX6_best_30 4 rfl ?_
          refine J_ishl E dX6_best_32 ?_
          refine J_top (x' := bitI i) (rfl) ?_
          refine J_iload_n E dX6_best_33 rfl 1 rfl ?_
          refine J_callEi E (As := [.int (bitI i), .int (nI m)]) (c_X6_dryBy l G b (upG (upG y 5 d) 2 z) (bitI i) m (by omega) hok) cl_X6_194 yo_X6_dryBy dX6_best_34 rfl (Nat.le_of_ble_eq_true rfl) (Nat.le_of_ble_eq_true rfl) rfl (Nat.le_of_ble_eq_true rfl) ⟨Nat.zero_le _, Nat.zero_le _⟩ (fun d34_1 => ?_)
          refine J_w (ws' := wM G b (upG (upG (upG (upG (upG y 5 d) 2 z) 2 (y 0)) 5 d34_1) 0 (y 0))) (wM_c rfl rfl rfl rfl rfl rfl rfl rfl rfl rfl rfl) ?_
          refine J_top (x' := drysR (turnRQ (y 0) (bitI i)) m) rfl ?_
          refine J_cSiN E (As := [.int (drysR (turnRQ (y 0) (bitI i)) m)]) (c_X6_ones l G (drysR (turnRQ (y 0) (bitI i)) m) ) cl_X6_191 yo_X6_ones dX6_best_37 rfl (Nat.le_of_ble_eq_true rfl) (Nat.le_of_ble_eq_true rfl) rfl (Nat.le_of_ble_eq_true rfl) ⟨Nat.zero_le _, Nat.zero_le _⟩ ?_
          refine J_istore E (lv' := [(5, .int (onesF (drysR (turnRQ (y 0) (bitI i)) m) 11)), (0, .ref (b 0)), (1, .int (nI m)), (2, .int bs), (3, .int mo), (4, .int (nI i))]) dX6_best_40 (by decide) rfl ?_
          refine J_iload E dX6_best_42 0 rfl ?_
          refine J_iload_n E dX6_best_44 rfl 4 rfl ?_
          refine J_icmp_ge E (tgt := 53) dX6_best_45 (by decide) (fun c_45 => ?_) (fun c_45 => ?_)
          · skip
            refine J_iload_n E dX6_best_53 rfl 3 rfl ?_
            refine J_istore_n E (lv' := [(2, .int bs), (5, .int (onesF (drysR (turnRQ (y 0) (bitI i)) m) 11)), (0, .ref (b 0)), (1, .int (nI m)), (3, .int mo), (4, .int (nI i))]) dX6_best_54 rfl (by decide) rfl ?_
            refine J_iload_n E dX6_best_55 rfl 4 rfl ?_
            refine J_iload E dX6_best_56 1 rfl ?_
            refine J_mmin E ml_X6_120 st_mmin ini_J9 co_mmin dX6_best_58 (by decide) (Nat.le_of_ble_eq_true rfl) ⟨Nat.zero_le _, Nat.zero_le _⟩ ?_
            refine J_istore_n E (lv' := [(3, .int (mn mo (onesF (drysR (turnRQ (y 0) (bitI i)) m) 11))), (2, .int bs), (5, .int (onesF (drysR (turnRQ (y 0) (bitI i)) m) 11)), (0, .ref (b 0)), (1, .int (nI m)), (4, .int (nI i))]) dX6_best_61 rfl (by decide) rfl ?_
            refine J_iinc E (lv' := [(4, .int (nI (i + 1))), (3, .int (mn mo (onesF (drysR (turnRQ (y 0) (bitI i)) m) 11))), (2, .int bs), (5, .int (onesF (drysR (turnRQ (y 0) (bitI i)) m) 11)), (0, .ref (b 0)), (1, .int (nI m))]) dX6_best_62 5 rfl (nI_inc _) (by decide) rfl ?_
            refine J_goto E (tgt := 21) dX6_best_65 (by decide) ?_
            refine J_lv [4, 5, 2, 1, 0] rfl ?_
            refine J_w (ws' := wM G b (upG (upG y 5 d34_1) 2 (y 0))) (wM_c rfl rfl rfl rfl rfl rfl rfl rfl rfl rfl rfl) ?_
            exact ih21 (i + 1) bs (mn mo (onesF (drysR (turnRQ (y 0) (bitI i)) m) 11)) d34_1 (y 0) (by omega) (by rw [hb]; exact minF_k (f := fun o => onesF (drysR (turnRQ (y 0) (bitI o)) m) 11) (n := i) hm2 c_45) (minF_mn (f := fun o => onesF (drysR (turnRQ (y 0) (bitI o)) m) 11) (n := i) hm2) (by omega)
          · skip
            refine J_iload E dX6_best_48 5 rfl ?_
            refine J_goto E (tgt := 54) dX6_best_50 (by decide) ?_
            refine J_istore_n E (lv' := [(2, .int (nI i)), (5, .int (onesF (drysR (turnRQ (y 0) (bitI i)) m) 11)), (0, .ref (b 0)), (1, .int (nI m)), (3, .int mo), (4, .int (nI i))]) dX6_best_54 rfl (by decide) rfl ?_
            refine J_iload_n E dX6_best_55 rfl 4 rfl ?_
            refine J_iload E dX6_best_56 1 rfl ?_
            refine J_mmin E ml_X6_120 st_mmin ini_J9 co_mmin dX6_best_58 (by decide) (Nat.le_of_ble_eq_true rfl) ⟨Nat.zero_le _, Nat.zero_le _⟩ ?_
            refine J_istore_n E (lv' := [(3, .int (mn mo (onesF (drysR (turnRQ (y 0) (bitI i)) m) 11))), (2, .int (nI i)), (5, .int (onesF (drysR (turnRQ (y 0) (bitI i)) m) 11)), (0, .ref (b 0)), (1, .int (nI m)), (4, .int (nI i))]) dX6_best_61 rfl (by decide) rfl ?_
            refine J_iinc E (lv' := [(4, .int (nI (i + 1))), (3, .int (mn mo (onesF (drysR (turnRQ (y 0) (bitI i)) m) 11))), (2, .int (nI i)), (5, .int (onesF (drysR (turnRQ (y 0) (bitI i)) m) 11)), (0, .ref (b 0)), (1, .int (nI m))]) dX6_best_62 5 rfl (nI_inc _) (by decide) rfl ?_
            refine J_goto E (tgt := 21) dX6_best_65 (by decide) ?_
            refine J_lv [4, 5, 2, 1, 0] rfl ?_
            refine J_w (ws' := wM G b (upG (upG y 5 d34_1) 2 (y 0))) (wM_c rfl rfl rfl rfl rfl rfl rfl rfl rfl rfl rfl) ?_
            exact ih21 (i + 1) (nI i) (mn mo (onesF (drysR (turnRQ (y 0) (bitI i)) m) 11)) d34_1 (y 0) (by omega) (minF_b (f := fun o => onesF (drysR (turnRQ (y 0) (bitI o)) m) 11) (n := i) hm2 c_45) (minF_mn (f := fun o => onesF (drysR (turnRQ (y 0) (bitI o)) m) 11) (n := i) hm2) (by omega)
    refine J_lv [3, 4, 2, 1, 0] rfl ?_
    refine J_w (ws' := wM G b (upG (upG y 5 (y 5)) 2 (y 2))) (wM_c rfl rfl rfl rfl rfl rfl rfl rfl rfl rfl rfl) ?_
    exact lp21 _ 0 0 12 (y 5) (y 2) (by omega) rfl rfl (Nat.lt_succ_self _)
  · skip
    have c_4 := bI_0 c_4
    exact absurd (inB (a := m) (b := 40) (by omega) (by decide)) c_4
