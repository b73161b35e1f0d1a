set_option maxHeartbeats 4000000 in
set_option maxRecDepth 20000 in
theorem c_X6_turn_bad (l : Launch) (G : GB) (b : Nat → Nat) (y : Q3) (v n : Int32) (hb : ¬ ((0 ≤ v ∧ v ≤ 2047) ∧ 0 ≤ n ∧ n ≤ 12)) : CI l yX6_turn cX6_turn 6 .int 1 25 G [.ref (b 0), .int v, .int n] (wM G b y) (fun vR w' => vR = tellR 0 ∧ PubM G b (tellX y 0) w') := by
  refine CI.mk (own := RX6) (by decide) rfl (Nat.le_of_ble_eq_true rfl) ?_
  intro X E ret
  show J X G 6 0 0 (wM G b y) [(0, .ref (b 0)), (1, .int v), (2, .int n)] 0 []
  refine J_iload_n E dX6_turn_0 rfl 1 rfl ?_
  refine J_i2l E dX6_turn_1 rfl ?_
  refine J_lconst E dX6_turn_2 lc_0 ?_
  refine J_ldc2 E kl_X6_113 dX6_turn_3 ?_
  refine J_cSiN E (As := [.long (Int32.toInt64 v), .long 0, .long 2047]) (c_X6_in l G v 0 2047 0 2047 (by decide) (by decide) ) cl_X6_54 yo_X6_in dX6_turn_6 rfl (Nat.le_of_ble_eq_true rfl) (Nat.le_of_ble_eq_true rfl) rfl (Nat.le_of_ble_eq_true rfl) ⟨Nat.zero_le _, Nat.zero_le _⟩ ?_
  refine J_if_eq E (tgt := 24) dX6_turn_9 (by decide) (fun c_9 => ?_) (fun c_9 => ?_)
  · skip
    have c_9 := bI_0 c_9
    refine J_aload_n E dX6_turn_24 rfl 0 rfl ?_
    refine J_iconst E dX6_turn_25 ic_0 ?_
    refine J_cVi0 E (As := [.int 0]) (c_X6_finds l G b y 0 (by omega)) cl_X6_96 yo_X6_finds dX6_turn_26 rfl rfl rfl (Nat.le_of_ble_eq_true rfl) (Nat.le_of_ble_eq_true rfl) rfl (Nat.le_of_ble_eq_true rfl) ⟨Nat.zero_le _, Nat.zero_le _⟩ ?_
    exact ret _ _ _ _ ⟨rfl, _, rfl, by intro g h2 h5 h6; by_cases h0 : g = 0 <;> simp [tellX, upG, up3, up3R, up2, h0, h2, h5, h6]⟩ rfl dX6_turn_29
  · skip
    have c_9 := bI_1 c_9
    refine J_iload_n E dX6_turn_12 rfl 2 rfl ?_
    refine J_i2l E dX6_turn_13 rfl ?_
    refine J_lconst E dX6_turn_14 lc_0 ?_
    refine J_ldc2 E kl_X6_189 dX6_turn_15 ?_
    refine J_cSiN E (As := [.long (Int32.toInt64 n), .long 0, .long 12]) (c_X6_in l G n 0 12 0 12 (by decide) (by decide) ) cl_X6_54 yo_X6_in dX6_turn_18 rfl (Nat.le_of_ble_eq_true rfl) (Nat.le_of_ble_eq_true rfl) rfl (Nat.le_of_ble_eq_true rfl) ⟨Nat.zero_le _, Nat.zero_le _⟩ ?_
    refine J_if_ne E (tgt := 30) dX6_turn_21 (by decide) (fun c_21 => ?_) (fun c_21 => ?_)
    · skip
      have c_21 := bI_1 c_21
      exact absurd ⟨c_9, c_21⟩ hb
    · skip
      have c_21 := bI_0 c_21
      refine J_aload_n E dX6_turn_24 rfl 0 rfl ?_
      refine J_iconst E dX6_turn_25 ic_0 ?_
      refine J_cVi0 E (As := [.int 0]) (c_X6_finds l G b y 0 (by omega)) cl_X6_96 yo_X6_finds dX6_turn_26 rfl rfl rfl (Nat.le_of_ble_eq_true rfl) (Nat.le_of_ble_eq_true rfl) rfl (Nat.le_of_ble_eq_true rfl) ⟨Nat.zero_le _, Nat.zero_le _⟩ ?_
      exact ret _ _ _ _ ⟨rfl, _, rfl, by intro g h2 h5 h6; by_cases h0 : g = 0 <;> simp [tellX, upG, up3, up3R, up2, h0, h2, h5, h6]⟩ rfl dX6_turn_29

set_option maxHeartbeats 4000000 in
set_option maxRecDepth 20000 in
theorem c_X6_turn_ok (l : Launch) (G : GB) (b : Nat → Nat) (y : Q3) (v : Int32) (m : Nat) (hv : 0 ≤ v ∧ v ≤ 2047) (hm : m ≤ 12) (hok : okQ (y 0))  : CI l yX6_turn cX6_turn 6 .int 6 137 G [.ref (b 0), .int v, .int (nI m)] (wM G b y) (fun vR w' => vR = (if tbF (y 0) v m 2048 < 0 then tellR 3 else tbF (y 0) v m 2048) ∧ PubM G b (if tbF (y 0) v m 2048 < 0 then tellX y 3 else y) w') := by
  refine CI.mk (own := RX6) (by decide) rfl (Nat.le_of_ble_eq_true rfl) ?_
  intro X E ret
  show J X G 6 0 0 (wM G b y) [(0, .ref (b 0)), (1, .int v), (2, .int (nI m))] 0 []
  refine J_iload_n E dX6_turn_0 rfl 1 rfl ?_
  refine J_i2l E dX6_turn_1 rfl ?_
  refine J_lconst E dX6_turn_2 lc_0 ?_
  refine J_ldc2 E kl_X6_113 dX6_turn_3 ?_
  refine J_cSiN E (As := [.long (Int32.toInt64 v), .long 0, .long 2047]) (c_X6_in l G v 0 2047 0 2047 (by decide) (by decide) ) cl_X6_54 yo_X6_in dX6_turn_6 rfl (Nat.le_of_ble_eq_true rfl) (Nat.le_of_ble_eq_true rfl) rfl (Nat.le_of_ble_eq_true rfl) ⟨Nat.zero_le _, Nat.zero_le _⟩ ?_
  refine J_if_eq E (tgt := 24) dX6_turn_9 (by decide) (fun c_9 => ?_) (fun c_9 => ?_)
  · skip
    have c_9 := bI_0 c_9
    exact absurd (by assumption) c_9
  · skip
    have c_9 := bI_1 c_9
    refine J_iload_n E dX6_turn_12 rfl 2 rfl ?_
    refine J_i2l E dX6_turn_13 rfl ?_
    refine J_lconst E dX6_turn_14 lc_0 ?_
    refine J_ldc2 E kl_X6_189 dX6_turn_15 ?_
    refine J_cSiN E (As := [.long (Int32.toInt64 (nI m)), .long 0, .long 12]) (c_X6_in l G (nI m) 0 12 0 12 (by decide) (by decide) ) cl_X6_54 yo_X6_in dX6_turn_18 rfl (Nat.le_of_ble_eq_true rfl) (Nat.le_of_ble_eq_true rfl) rfl (Nat.le_of_ble_eq_true rfl) ⟨Nat.zero_le _, Nat.zero_le _⟩ ?_
    refine J_if_ne E (tgt := 30) dX6_turn_21 (by decide) (fun c_21 => ?_) (fun c_21 => ?_)
    · skip
      have c_21 := bI_1 c_21
      refine J_iconst E dX6_turn_30 ic_m1 ?_
      refine J_istore_n E (lv' := [(3, .int (-1)), (0, .ref (b 0)), (1, .int v), (2, .int (nI m))]) dX6_turn_31 rfl (by decide) rfl ?_
      refine J_iconst E dX6_turn_32 ic_0 ?_
      refine J_istore E (lv' := [(4, .int 0), (3, .int (-1)), (0, .ref (b 0)), (1, .int v), (2, .int (nI m))]) dX6_turn_33 (by decide) rfl ?_
      refine J_w (ws' := wM G b (upG y 5 (y 5))) (congrArg (wM G b) upG_id.symm) ?_
      have lp35 : ∀ (fu : Nat) (i : Nat) (t : Int32) (d : Q2) (z : Q2), (i ≤ 2048) → (t = tbF (y 0) v m i) → 2048 - i < fu → J X G 6 0 0 (wM G b (upG (upG y 5 d) 2 z)) [(0, .ref (b 0)), (1, .int v), (2, .int (nI m)), (3, .int t), (4, .int (nI i))] 35 [] := by
        intro fu
        induction fu with
        | zero => intro i t d z hi h1 hm; exact absurd hm (Nat.not_lt_zero _)
        | succ fu ih35 =>
          intro i t d z hi h1 hm
          refine J_iload E dX6_turn_35 4 rfl ?_
          refine J_sipush E dX6_turn_37 sp_2047 ?_
          refine J_icmp_gt E (tgt := 96) dX6_turn_40 (by decide) (fun c_40 => ?_) (fun c_40 => ?_)
          · skip
            have n_40 : 2047 < i := cmp_lt (a := 2047) (b := i) (by omega) (by omega) c_40
            refine J_iload_n E dX6_turn_96 rfl 3 rfl ?_
            refine J_if_ge E (tgt := 108) dX6_turn_97 (by decide) (fun c_97 => ?_) (fun c_97 => ?_)
            · skip
              refine J_iload_n E dX6_turn_108 rfl 3 rfl ?_
              exact ret _ _ _ _ ⟨by first | (rw [h1, show i = 2048 by omega] at c_97; rw [if_neg (Int32.not_lt.mpr c_97), h1, show i = 2048 by omega]) | (rw [h1, show i = 2048 by omega] at c_97; rw [if_pos (Int32.not_le.mp c_97)]), _, rfl, by first | (rw [h1, show i = 2048 by omega] at c_97; rw [if_neg (Int32.not_lt.mpr c_97)]; intro g h2 h5 h6; by_cases h0 : g = 0 <;> simp [optX, tellX, upG, up3, h0, h2, h5, h6]; done; done) | (rw [h1, show i = 2048 by omega] at c_97; rw [if_pos (Int32.not_le.mp c_97)]; intro g h2 h5 h6; by_cases h0 : g = 0 <;> simp [optX, tellX, upG, up3, h0, h2, h5, h6]; done; done)⟩ rfl dX6_turn_109
            · skip
              refine J_aload_n E dX6_turn_100 rfl 0 rfl ?_
              refine J_iconst E dX6_turn_101 ic_3 ?_
              refine J_cVi0 E (As := [.int 3]) (c_X6_finds l G b (upG (upG y 5 d) 2 z) 3 (by omega)) cl_X6_96 yo_X6_finds dX6_turn_102 rfl rfl rfl (Nat.le_of_ble_eq_true rfl) (Nat.le_of_ble_eq_true rfl) rfl (Nat.le_of_ble_eq_true rfl) ⟨Nat.zero_le _, Nat.zero_le _⟩ ?_
              refine J_top (x' := tellR 3) rfl ?_
              refine J_goto E (tgt := 109) dX6_turn_105 (by decide) ?_
              exact ret _ _ _ _ ⟨by first | (rw [h1, show i = 2048 by omega] at c_97; rw [if_neg (Int32.not_lt.mpr c_97), h1, show i = 2048 by omega]) | (rw [h1, show i = 2048 by omega] at c_97; rw [if_pos (Int32.not_le.mp c_97)]), _, rfl, by first | (rw [h1, show i = 2048 by omega] at c_97; rw [if_neg (Int32.not_lt.mpr c_97)]; intro g h2 h5 h6; by_cases h0 : g = 0 <;> simp [optX, tellX, upG, up3, h0, h2, h5, h6]; done; done) | (rw [h1, show i = 2048 by omega] at c_97; rw [if_pos (Int32.not_le.mp c_97)]; intro g h2 h5 h6; by_cases h0 : g = 0 <;> simp [optX, tellX, upG, up3, h0, h2, h5, h6]; done; done)⟩ rfl dX6_turn_109
          · skip
            have n_40 : ¬ 2047 < i := cmp_nlt (a := 2047) (b := i) (by omega) (by omega) c_40
            refine J_iload_n E dX6_turn_43 rfl 3 rfl ?_
            refine J_if_lt E (tgt := 59) dX6_turn_44 (by decide) (fun c_44 => ?_) (fun c_44 => ?_)
            · skip
              refine J_iconst E dX6_turn_59 ic_1 ?_
              refine J_goto E (tgt := 64) dX6_turn_60 (by decide) ?_
              refine J_istore E (lv' := [(5, .int 1), (0, .ref (b 0)), (1, .int v), (2, .int (nI m)), (3, .int t), (4, .int (nI i))]) dX6_turn_64 (by decide) rfl ?_
              refine J_iload E dX6_turn_66 0 rfl ?_
              refine J_if_eq E (tgt := 88) dX6_turn_68 (by decide) (fun c_68 => ?_) (fun c_68 => ?_)
              · skip
                have n_68 : 1 = 0 := cmp_eq (a := 1) (b := 0) (by omega) (by omega) c_68
                exact absurd n_68 (by decide)
              · skip
                have n_68 : ¬ 1 = 0 := cmp_ne (a := 1) (b := 0) (by omega) (by omega) c_68
                refine J_aload_n E dX6_turn_71 rfl 1 rfl ?_
                refine J_iload E dX6_turn_72 5 rfl ?_
                refine J_iload_n E dX6_turn_74 rfl 3 rfl ?_
                refine J_callEi E (As := [.int (nI i), .int (nI m)]) (c_X6_dryBy l G b (upG (upG y 5 d) 2 z) (nI i) m (by omega) hok) cl_X6_194 yo_X6_dryBy dX6_turn_75 rfl (Nat.le_of_ble_eq_true rfl) (Nat.le_of_ble_eq_true rfl) rfl (Nat.le_of_ble_eq_true rfl) ⟨Nat.zero_le _, Nat.zero_le _⟩ (fun d75_1 => ?_)
                refine J_w (ws' := wM G b (upG (upG (upG (upG (upG y 5 d) 2 z) 2 (y 0)) 5 d75_1) 0 (y 0))) (wM_c rfl rfl rfl rfl rfl rfl rfl rfl rfl rfl rfl) ?_
                refine J_top (x' := drysR (turnRQ (y 0) (nI i)) m) rfl ?_
                refine J_iload_n E dX6_turn_78 rfl 2 rfl ?_
                refine J_iand E dX6_turn_79 ?_
                refine J_if_ne E (tgt := 88) dX6_turn_80 (by decide) (fun c_80 => ?_) (fun c_80 => ?_)
                · skip
                  refine J_iload_n E dX6_turn_88 rfl 4 rfl ?_
                  refine J_istore_n E (lv' := [(3, .int t), (5, .int 1), (0, .ref (b 0)), (1, .int v), (2, .int (nI m)), (4, .int (nI i))]) dX6_turn_89 rfl (by decide) rfl ?_
                  refine J_iinc E (lv' := [(4, .int (nI (i + 1))), (3, .int t), (5, .int 1), (0, .ref (b 0)), (1, .int v), (2, .int (nI m))]) dX6_turn_90 5 rfl (nI_inc _) (by decide) rfl ?_
                  refine J_goto E (tgt := 35) dX6_turn_93 (by decide) ?_
                  refine J_lv [3, 4, 5, 1, 0] rfl ?_
                  refine J_w (ws' := wM G b (upG (upG y 5 d75_1) 2 (y 0))) (wM_c rfl rfl rfl rfl rfl rfl rfl rfl rfl rfl rfl) ?_
                  exact ih35 (i + 1) t d75_1 (y 0) (by omega) (by first | exact tb_y h1 (Or.inl c_44) c_80 | exact tb_y h1 (Or.inr (Int32.not_le.mp c_56)) c_80 | exact tb_n1 h1 c_80 | exact tb_n2 h1 c_44 (Int32.not_lt.mpr c_56)) (by omega)
                · skip
                  refine J_iload E dX6_turn_83 5 rfl ?_
                  refine J_goto E (tgt := 89) dX6_turn_85 (by decide) ?_
                  refine J_istore_n E (lv' := [(3, .int (nI i)), (5, .int 1), (0, .ref (b 0)), (1, .int v), (2, .int (nI m)), (4, .int (nI i))]) dX6_turn_89 rfl (by decide) rfl ?_
                  refine J_iinc E (lv' := [(4, .int (nI (i + 1))), (3, .int (nI i)), (5, .int 1), (0, .ref (b 0)), (1, .int v), (2, .int (nI m))]) dX6_turn_90 5 rfl (nI_inc _) (by decide) rfl ?_
                  refine J_goto E (tgt := 35) dX6_turn_93 (by decide) ?_
                  refine J_lv [3, 4, 5, 1, 0] rfl ?_
                  refine J_w (ws' := wM G b (upG (upG y 5 d75_1) 2 (y 0))) (wM_c rfl rfl rfl rfl rfl rfl rfl rfl rfl rfl rfl) ?_
                  exact ih35 (i + 1) (nI i) d75_1 (y 0) (by omega) (by first | exact tb_y h1 (Or.inl c_44) c_80 | exact tb_y h1 (Or.inr (Int32.not_le.mp c_56)) c_80 | exact tb_n1 h1 c_80 | exact tb_n2 h1 c_44 (Int32.not_lt.mpr c_56)) (by omega)
            · skip
              refine J_iload E dX6_turn_47 4 rfl ?_
              refine J_cSiN E (As := [.int (nI i)]) (c_X6_ones l G (nI i) ) cl_X6_191 yo_X6_ones dX6_turn_49 rfl (Nat.le_of_ble_eq_true rfl) (Nat.le_of_ble_eq_true rfl) rfl (Nat.le_of_ble_eq_true rfl) ⟨Nat.zero_le _, Nat.zero_le _⟩ ?_
              refine J_iload_n E dX6_turn_52 rfl 3 rfl ?_
              refine J_cSiN E (As := [.int t]) (c_X6_ones l G t ) cl_X6_191 yo_X6_ones dX6_turn_53 rfl (Nat.le_of_ble_eq_true rfl) (Nat.le_of_ble_eq_true rfl) rfl (Nat.le_of_ble_eq_true rfl) ⟨Nat.zero_le _, Nat.zero_le _⟩ ?_
              refine J_icmp_ge E (tgt := 63) dX6_turn_56 (by decide) (fun c_56 => ?_) (fun c_56 => ?_)
              · skip
                refine J_iconst E dX6_turn_63 ic_0 ?_
                refine J_istore E (lv' := [(5, .int 0), (0, .ref (b 0)), (1, .int v), (2, .int (nI m)), (3, .int t), (4, .int (nI i))]) dX6_turn_64 (by decide) rfl ?_
                refine J_iload E dX6_turn_66 0 rfl ?_
                refine J_if_eq E (tgt := 88) dX6_turn_68 (by decide) (fun c_68 => ?_) (fun c_68 => ?_)
                · skip
                  have n_68 : 0 = 0 := cmp_eq (a := 0) (b := 0) (by omega) (by omega) c_68
                  refine J_iload_n E dX6_turn_88 rfl 4 rfl ?_
                  refine J_istore_n E (lv' := [(3, .int t), (5, .int 0), (0, .ref (b 0)), (1, .int v), (2, .int (nI m)), (4, .int (nI i))]) dX6_turn_89 rfl (by decide) rfl ?_
                  refine J_iinc E (lv' := [(4, .int (nI (i + 1))), (3, .int t), (5, .int 0), (0, .ref (b 0)), (1, .int v), (2, .int (nI m))]) dX6_turn_90 5 rfl (nI_inc _) (by decide) rfl ?_
                  refine J_goto E (tgt := 35) dX6_turn_93 (by decide) ?_
                  refine J_lv [3, 4, 5, 1, 0] rfl ?_
                  refine J_w (ws' := wM G b (upG (upG y 5 d) 2 z)) (wM_c rfl rfl rfl rfl rfl rfl rfl rfl rfl rfl rfl) ?_
                  exact ih35 (i + 1) t d z (by omega) (by first | exact tb_y h1 (Or.inl c_44) c_80 | exact tb_y h1 (Or.inr (Int32.not_le.mp c_56)) c_80 | exact tb_n1 h1 c_80 | exact tb_n2 h1 c_44 (Int32.not_lt.mpr c_56)) (by omega)
                · skip
                  have n_68 : ¬ 0 = 0 := cmp_ne (a := 0) (b := 0) (by omega) (by omega) c_68
                  exact absurd n_68 (by decide)
              · skip
                refine J_iconst E dX6_turn_59 ic_1 ?_
                refine J_goto E (tgt := 64) dX6_turn_60 (by decide) ?_
                refine J_istore E (lv' := [(5, .int 1), (0, .ref (b 0)), (1, .int v), (2, .int (nI m)), (3, .int t), (4, .int (nI i))]) dX6_turn_64 (by decide) rfl ?_
                refine J_iload E dX6_turn_66 0 rfl ?_
                refine J_if_eq E (tgt := 88) dX6_turn_68 (by decide) (fun c_68 => ?_) (fun c_68 => ?_)
                · skip
                  have n_68 : 1 = 0 := cmp_eq (a := 1) (b := 0) (by omega) (by omega) c_68
                  exact absurd n_68 (by decide)
                · skip
                  have n_68 : ¬ 1 = 0 := cmp_ne (a := 1) (b := 0) (by omega) (by omega) c_68
                  refine J_aload_n E dX6_turn_71 rfl 1 rfl ?_
                  refine J_iload E dX6_turn_72 5 rfl ?_
                  refine J_iload_n E dX6_turn_74 rfl 3 rfl ?_
                  refine J_callEi E (As := [.int (nI i), .int (nI m)]) (c_X6_dryBy l G b (upG (upG y 5 d) 2 z) (nI i) m (by omega) hok) cl_X6_194 yo_X6_dryBy dX6_turn_75 rfl (Nat.le_of_ble_eq_true rfl) (Nat.le_of_ble_eq_true rfl) rfl (Nat.le_of_ble_eq_true rfl) ⟨Nat.zero_le _, Nat.zero_le _⟩ (fun d75_2 => ?_)
                  refine J_w (ws' := wM G b (upG (upG (upG (upG (upG y 5 d) 2 z) 2 (y 0)) 5 d75_2) 0 (y 0))) (wM_c rfl rfl rfl rfl rfl rfl rfl rfl rfl rfl rfl) ?_
                  refine J_top (x' := drysR (turnRQ (y 0) (nI i)) m) rfl ?_
                  refine J_iload_n E dX6_turn_78 rfl 2 rfl ?_
                  refine J_iand E dX6_turn_79 ?_
                  refine J_if_ne E (tgt := 88) dX6_turn_80 (by decide) (fun c_80 => ?_) (fun c_80 => ?_)
                  · skip
                    refine J_iload_n E dX6_turn_88 rfl 4 rfl ?_
                    refine J_istore_n E (lv' := [(3, .int t), (5, .int 1), (0, .ref (b 0)), (1, .int v), (2, .int (nI m)), (4, .int (nI i))]) dX6_turn_89 rfl (by decide) rfl ?_
                    refine J_iinc E (lv' := [(4, .int (nI (i + 1))), (3, .int t), (5, .int 1), (0, .ref (b 0)), (1, .int v), (2, .int (nI m))]) dX6_turn_90 5 rfl (nI_inc _) (by decide) rfl ?_
                    refine J_goto E (tgt := 35) dX6_turn_93 (by decide) ?_
                    refine J_lv [3, 4, 5, 1, 0] rfl ?_
                    refine J_w (ws' := wM G b (upG (upG y 5 d75_2) 2 (y 0))) (wM_c rfl rfl rfl rfl rfl rfl rfl rfl rfl rfl rfl) ?_
                    exact ih35 (i + 1) t d75_2 (y 0) (by omega) (by first | exact tb_y h1 (Or.inl c_44) c_80 | exact tb_y h1 (Or.inr (Int32.not_le.mp c_56)) c_80 | exact tb_n1 h1 c_80 | exact tb_n2 h1 c_44 (Int32.not_lt.mpr c_56)) (by omega)
                  · skip
                    refine J_iload E dX6_turn_83 5 rfl ?_
                    refine J_goto E (tgt := 89) dX6_turn_85 (by decide) ?_
                    refine J_istore_n E (lv' := [(3, .int (nI i)), (5, .int 1), (0, .ref (b 0)), (1, .int v), (2, .int (nI m)), (4, .int (nI i))]) dX6_turn_89 rfl (by decide) rfl ?_
                    refine J_iinc E (lv' := [(4, .int (nI (i + 1))), (3, .int (nI i)), (5, .int 1), (0, .ref (b 0)), (1, .int v), (2, .int (nI m))]) dX6_turn_90 5 rfl (nI_inc _) (by decide) rfl ?_
                    refine J_goto E (tgt := 35) dX6_turn_93 (by decide) ?_
                    refine J_lv [3, 4, 5, 1, 0] rfl ?_
                    refine J_w (ws' := wM G b (upG (upG y 5 d75_2) 2 (y 0))) (wM_c rfl rfl rfl rfl rfl rfl rfl rfl rfl rfl rfl) ?_
                    exact ih35 (i + 1) (nI i) d75_2 (y 0) (by omega) (by first | exact tb_y h1 (Or.inl c_44) c_80 | exact tb_y h1 (Or.inr (Int32.not_le.mp c_56)) c_80 | exact tb_n1 h1 c_80 | exact tb_n2 h1 c_44 (Int32.not_lt.mpr c_56)) (by omega)
      refine J_lv [2, 3, 4, 1, 0] rfl ?_
      refine J_w (ws' := wM G b (upG (upG y 5 (y 5)) 2 (y 2))) (wM_c rfl rfl rfl rfl rfl rfl rfl rfl rfl rfl rfl) ?_
      exact lp35 _ 0 (-1) (y 5) (y 2) (by omega) rfl (Nat.lt_succ_self _)
    · skip
      have c_21 := bI_0 c_21
      exact absurd (inB (a := m) (b := 12) (by omega) (by decide)) c_21
