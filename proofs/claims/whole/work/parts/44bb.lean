set_option maxHeartbeats 4000000 in
set_option maxRecDepth 20000 in
theorem c_X6_image (l : Launch) (G : GB) (b : Nat → Nat) (y : Q3)  : CI l yX6_image cX6_image 1 .int 1 22 G [.ref (b 0)] (wM G b y) (fun vR w' => vR = 1 ∧ PubM G b (up3 (upG y 1 (y 0)) 3 1 0 1) w') := by
  refine CI.mk (own := RX6) (by decide) rfl (Nat.le_of_ble_eq_true rfl) ?_
  intro X E ret
  show J X G 1 0 0 (wM G b y) [(0, .ref (b 0))] 0 []
  refine J_aload_n E dX6_image_0 rfl 0 rfl ?_
  refine gM0_X6_9 E dX6_image_1 ?_
  refine J_aload_n E dX6_image_4 rfl 0 rfl ?_
  refine gM0_X6_13 E dX6_image_5 ?_
  refine J_m01 E dX6_image_8 (Nat.le_of_ble_eq_true rfl) (Nat.le_of_ble_eq_true rfl) (Nat.le_of_ble_eq_true rfl) ⟨Nat.zero_le _, Nat.zero_le _⟩ ?_
  refine J_aload_n E dX6_image_11 rfl 0 rfl ?_
  refine J_iconst E dX6_image_12 ic_1 ?_
  refine pM0_X6_309 E rfl rfl dX6_image_13 ?_
  refine J_iconst E dX6_image_16 ic_1 ?_
  exact ret _ _ _ _ ⟨rfl, _, rfl, by intro g h2 h5 h6; by_cases h0 : g = 0 <;> simp [tellX, upG, up3, up3R, up2, h0, h2, h5, h6]⟩ rfl dX6_image_17

set_option maxHeartbeats 4000000 in
set_option maxRecDepth 20000 in
theorem c_X6_undo_none (l : Launch) (G : GB) (b : Nat → Nat) (y : Q3) (hk : y 3 1 0 = 0) : CI l yX6_undo cX6_undo 1 .int 1 21 G [.ref (b 0)] (wM G b y) (fun vR w' => vR = tellR 3 ∧ PubM G b (tellX y 3) w') := by
  refine CI.mk (own := RX6) (by decide) rfl (Nat.le_of_ble_eq_true rfl) ?_
  intro X E ret
  show J X G 1 0 0 (wM G b y) [(0, .ref (b 0))] 0 []
  refine J_aload_n E dX6_undo_0 rfl 0 rfl ?_
  refine gM0_X6_309 E dX6_undo_1 ?_
  refine J_if_ne E (tgt := 13) dX6_undo_4 (by decide) (fun c_4 => ?_) (fun c_4 => ?_)
  · skip
    exact absurd hk c_4
  · skip
    refine J_aload_n E dX6_undo_7 rfl 0 rfl ?_
    refine J_iconst E dX6_undo_8 ic_3 ?_
    refine J_cVi0 E (As := [.int 3]) (c_X6_finds l G b y 3 (by omega)) cl_X6_96 yo_X6_finds dX6_undo_9 rfl rfl rfl (Nat.le_of_ble_eq_true rfl) (Nat.le_of_ble_eq_true rfl) rfl (Nat.le_of_ble_eq_true rfl) ⟨Nat.zero_le _, Nat.zero_le _⟩ ?_
    exact ret _ _ _ _ ⟨rfl, _, rfl, by intro g h2 h5 h6; by_cases h0 : g = 0 <;> simp [tellX, upG, up3, up3R, up2, h0, h2, h5, h6]⟩ rfl dX6_undo_12

set_option maxHeartbeats 4000000 in
set_option maxRecDepth 20000 in
theorem c_X6_undo_ok (l : Launch) (G : GB) (b : Nat → Nat) (y : Q3) (hk : ¬ y 3 1 0 = 0) : CI l yX6_undo cX6_undo 1 .int 1 22 G [.ref (b 0)] (wM G b y) (fun vR w' => vR = y 1 7 0 ∧ PubM G b (upG y 0 (y 1)) w') := by
  refine CI.mk (own := RX6) (by decide) rfl (Nat.le_of_ble_eq_true rfl) ?_
  intro X E ret
  show J X G 1 0 0 (wM G b y) [(0, .ref (b 0))] 0 []
  refine J_aload_n E dX6_undo_0 rfl 0 rfl ?_
  refine gM0_X6_309 E dX6_undo_1 ?_
  refine J_if_ne E (tgt := 13) dX6_undo_4 (by decide) (fun c_4 => ?_) (fun c_4 => ?_)
  · skip
    refine J_aload_n E dX6_undo_13 rfl 0 rfl ?_
    refine gM0_X6_13 E dX6_undo_14 ?_
    refine J_aload_n E dX6_undo_17 rfl 0 rfl ?_
    refine gM0_X6_9 E dX6_undo_18 ?_
    refine J_m10 E dX6_undo_21 (Nat.le_of_ble_eq_true rfl) (Nat.le_of_ble_eq_true rfl) (Nat.le_of_ble_eq_true rfl) ⟨Nat.zero_le _, Nat.zero_le _⟩ ?_
    refine J_aload_n E dX6_undo_24 rfl 0 rfl ?_
    refine gM0_X6_9 E dX6_undo_25 ?_
    refine J_iconst E dX6_undo_28 ic_0 ?_
    refine lMs E (j := 0) (r := 7) (i := 0) (at_7 (by decide)) dX6_undo_29 ?_
    refine J_top (x' := (y 1) 7 0) upG_s ?_
    exact ret _ _ _ _ ⟨rfl, _, rfl, by intro g h2 h5 h6; by_cases h0 : g = 0 <;> simp [tellX, upG, up3, up3R, up2, h0, h2, h5, h6]⟩ rfl dX6_undo_30
  · skip
    exact absurd c_4 hk

set_option maxHeartbeats 4000000 in
set_option maxRecDepth 20000 in
theorem c_X6_tear (l : Launch) (G : GB) (b : Nat → Nat) (y : Q3)  : CI l yX6_tear cX6_tear 2 .int 0 0 G [.ref (b 0)] (wM G b y) (fun vR w' => vR = (if y 3 1 0 = 0 then 0 else 1) ∧ PubM G b (up3 y 3 1 0 0) w') := by
  refine CI.mk (own := RX6) (by decide) rfl (Nat.le_of_ble_eq_true rfl) ?_
  intro X E ret
  show J X G 2 0 0 (wM G b y) [(0, .ref (b 0))] 0 []
  refine J_aload_n E dX6_tear_0 rfl 0 rfl ?_
  refine gM0_X6_309 E dX6_tear_1 ?_
  refine J_if_eq E (tgt := 11) dX6_tear_4 (by decide) (fun c_4 => ?_) (fun c_4 => ?_)
  · skip
    refine J_iconst E dX6_tear_11 ic_0 ?_
    refine J_istore_n E (lv' := [(1, .int 0), (0, .ref (b 0))]) dX6_tear_12 rfl (by decide) rfl ?_
    refine J_aload_n E dX6_tear_13 rfl 1 rfl ?_
    refine J_iconst E dX6_tear_14 ic_0 ?_
    refine pM0_X6_309 E rfl rfl dX6_tear_15 ?_
    refine J_iload_n E dX6_tear_18 rfl 0 rfl ?_
    exact ret _ _ _ _ ⟨by first | rw [if_pos c_4] | rw [if_neg c_4], _, rfl, by intro g h2 h5 h6; by_cases h0 : g = 0 <;> simp [tellX, upG, up3, up3R, up2, h0, h2, h5, h6]⟩ rfl dX6_tear_19
  · skip
    refine J_iconst E dX6_tear_7 ic_1 ?_
    refine J_goto E (tgt := 12) dX6_tear_8 (by decide) ?_
    refine J_istore_n E (lv' := [(1, .int 1), (0, .ref (b 0))]) dX6_tear_12 rfl (by decide) rfl ?_
    refine J_aload_n E dX6_tear_13 rfl 1 rfl ?_
    refine J_iconst E dX6_tear_14 ic_0 ?_
    refine pM0_X6_309 E rfl rfl dX6_tear_15 ?_
    refine J_iload_n E dX6_tear_18 rfl 0 rfl ?_
    exact ret _ _ _ _ ⟨by first | rw [if_pos c_4] | rw [if_neg c_4], _, rfl, by intro g h2 h5 h6; by_cases h0 : g = 0 <;> simp [tellX, upG, up3, up3R, up2, h0, h2, h5, h6]⟩ rfl dX6_tear_19

set_option maxHeartbeats 4000000 in
set_option maxRecDepth 20000 in
theorem c_X6_held (l : Launch) (G : GB) (b : Nat → Nat) (y : Q3) (hs : okS (y 0)) : CI l yX6_held cX6_held 3 .int 0 0 G [.ref (b 0)] (wM G b y) (fun vR w' => vR = cntF (fun j => decide (¬ y 0 6 j = -1)) 10 ∧ w' = wM G b y) := by
  refine CI.mk (own := RX6) (by decide) rfl (Nat.le_of_ble_eq_true rfl) ?_
  intro X E ret
  show J X G 3 0 0 (wM G b y) [(0, .ref (b 0))] 0 []
  refine J_iconst E dX6_held_0 ic_0 ?_
  refine J_istore_n E (lv' := [(1, .int 0), (0, .ref (b 0))]) dX6_held_1 rfl (by decide) rfl ?_
  refine J_iconst E dX6_held_2 ic_0 ?_
  refine J_istore_n E (lv' := [(2, .int 0), (1, .int 0), (0, .ref (b 0))]) dX6_held_3 rfl (by decide) rfl ?_
  have lp4 : ∀ (fu : Nat) (i : Nat) (c : Int32), (i ≤ 10) → (c = cntF (fun j => decide (¬ y 0 6 j = -1)) i) → 10 - i < fu → J X G 3 0 0 (wM G b y) [(0, .ref (b 0)), (1, .int c), (2, .int (nI i))] 4 [] := by
    intro fu
    induction fu with
    | zero => intro i c hi h1 hm; exact absurd hm (Nat.not_lt_zero _)
    | succ fu ih4 =>
      intro i c hi h1 hm
      refine J_iload_n E dX6_held_4 rfl 2 rfl ?_
      refine J_bipush E dX6_held_5 bp_10 ?_
      refine J_icmp_ge E (tgt := 36) dX6_held_7 (by decide) (fun c_7 => ?_) (fun c_7 => ?_)
      · skip
        have n_7 : 10 ≤ i := cmp_le (a := 10) (b := i) (by omega) (by omega) c_7
        refine J_iload_n E dX6_held_36 rfl 1 rfl ?_
        exact ret _ _ _ _ ⟨by rw [h1, show i = 10 by omega], (congrArg (wM G b) (rfl))⟩ rfl dX6_held_37
      · skip
        have n_7 : ¬ 10 ≤ i := cmp_nle (a := 10) (b := i) (by omega) (by omega) c_7
        refine J_iload_n E dX6_held_10 rfl 1 rfl ?_
        refine J_aload_n E dX6_held_11 rfl 0 rfl ?_
        refine gM0_X6_9 E dX6_held_12 ?_
        refine J_bipush E dX6_held_15 bp_71 ?_
        refine J_iload_n E dX6_held_17 rfl 2 rfl ?_
        refine J_iadd E dX6_held_18 ?_
        refine J_top (x' := nI (71 + i)) (nI_add 71 i) ?_
        refine lMs E (j := (71 + i)) (r := 6) (i := i) (at_s (by omega) rfl) dX6_held_19 ?_
        refine J_if_ge E (tgt := 27) dX6_held_20 (by decide) (fun c_20 => ?_) (fun c_20 => ?_)
        · skip
          refine J_iconst E dX6_held_27 ic_1 ?_
          refine J_iadd E dX6_held_28 ?_
          refine J_istore_n E (lv' := [(1, .int (c + 1)), (0, .ref (b 0)), (2, .int (nI i))]) dX6_held_29 rfl (by decide) rfl ?_
          refine J_iinc E (lv' := [(2, .int (nI (i + 1))), (1, .int (c + 1)), (0, .ref (b 0))]) dX6_held_30 2 rfl (nI_inc _) (by decide) rfl ?_
          refine J_goto E (tgt := 4) dX6_held_33 (by decide) ?_
          refine J_lv [2, 1, 0] rfl ?_
          exact ih4 (i + 1) (c + 1) (by omega) (by rw [h1, cntF]; rcases hs i (by omega) with e | ⟨w, hw, e⟩ <;> rw [e] at c_20 ⊢ <;> first | exact absurd c_20 (by decide) | exact absurd (nI_pos' (by omega)) c_20 | (rw [if_neg (by decide), Int32.add_zero]) | (rw [if_pos (decide_eq_true (m1_ne hw))])) (by omega)
        · skip
          refine J_iconst E dX6_held_23 ic_0 ?_
          refine J_goto E (tgt := 28) dX6_held_24 (by decide) ?_
          refine J_iadd E dX6_held_28 ?_
          refine J_istore_n E (lv' := [(1, .int (c + 0)), (0, .ref (b 0)), (2, .int (nI i))]) dX6_held_29 rfl (by decide) rfl ?_
          refine J_iinc E (lv' := [(2, .int (nI (i + 1))), (1, .int (c + 0)), (0, .ref (b 0))]) dX6_held_30 2 rfl (nI_inc _) (by decide) rfl ?_
          refine J_goto E (tgt := 4) dX6_held_33 (by decide) ?_
          refine J_lv [2, 1, 0] rfl ?_
          exact ih4 (i + 1) (c + 0) (by omega) (by rw [h1, cntF]; rcases hs i (by omega) with e | ⟨w, hw, e⟩ <;> rw [e] at c_20 ⊢ <;> first | exact absurd c_20 (by decide) | exact absurd (nI_pos' (by omega)) c_20 | (rw [if_neg (by decide), Int32.add_zero]) | (rw [if_pos (decide_eq_true (m1_ne hw))])) (by omega)
  refine J_lv [2, 1, 0] rfl ?_
  exact lp4 _ 0 0 (by omega) rfl (Nat.lt_succ_self _)

set_option maxHeartbeats 4000000 in
set_option maxRecDepth 20000 in
theorem c_X6_unlikeHouses (l : Launch) (G : GB) (b : Nat → Nat) (y : Q3)  : CI l yX6_unlikeHouses cX6_unlikeHouses 3 .int 1 22 G [.ref (b 0)] (wM G b y) (fun vR w' => vR = cntF (fun j => decide (¬ y 0 0 j = 0)) 11 ∧ w' = wM G b y) := by
  refine CI.mk (own := RX6) (by decide) rfl (Nat.le_of_ble_eq_true rfl) ?_
  intro X E ret
  show J X G 3 0 0 (wM G b y) [(0, .ref (b 0))] 0 []
  refine J_iconst E dX6_unlikeHouses_0 ic_0 ?_
  refine J_istore_n E (lv' := [(1, .int 0), (0, .ref (b 0))]) dX6_unlikeHouses_1 rfl (by decide) rfl ?_
  refine J_iconst E dX6_unlikeHouses_2 ic_0 ?_
  refine J_istore_n E (lv' := [(2, .int 0), (1, .int 0), (0, .ref (b 0))]) dX6_unlikeHouses_3 rfl (by decide) rfl ?_
  have lp4 : ∀ (fu : Nat) (i : Nat) (c : Int32), (i ≤ 11) → (c = cntF (fun j => decide (¬ y 0 0 j = 0)) i) → 11 - i < fu → J X G 3 0 0 (wM G b y) [(0, .ref (b 0)), (1, .int c), (2, .int (nI i))] 4 [] := by
    intro fu
    induction fu with
    | zero => intro i c hi h1 hm; exact absurd hm (Nat.not_lt_zero _)
    | succ fu ih4 =>
      intro i c hi h1 hm
      refine J_iload_n E dX6_unlikeHouses_4 rfl 2 rfl ?_
      refine J_bipush E dX6_unlikeHouses_5 bp_11 ?_
      refine J_icmp_ge E (tgt := 33) dX6_unlikeHouses_7 (by decide) (fun c_7 => ?_) (fun c_7 => ?_)
      · skip
        have n_7 : 11 ≤ i := cmp_le (a := 11) (b := i) (by omega) (by omega) c_7
        refine J_iload_n E dX6_unlikeHouses_33 rfl 1 rfl ?_
        exact ret _ _ _ _ ⟨by rw [h1, show i = 11 by omega], (congrArg (wM G b) (rfl))⟩ rfl dX6_unlikeHouses_34
      · skip
        have n_7 : ¬ 11 ≤ i := cmp_nle (a := 11) (b := i) (by omega) (by omega) c_7
        refine J_iload_n E dX6_unlikeHouses_10 rfl 1 rfl ?_
        refine J_aload_n E dX6_unlikeHouses_11 rfl 0 rfl ?_
        refine J_iload_n E dX6_unlikeHouses_12 rfl 2 rfl ?_
        refine J_iconst E dX6_unlikeHouses_13 ic_0 ?_
        refine J_cVi0 E (As := [.int (nI i), .int 0]) (c_X6_its l G b y i 0 (by omega) (by omega)) cl_X6_64 yo_X6_its dX6_unlikeHouses_14 rfl rfl rfl (Nat.le_of_ble_eq_true rfl) (Nat.le_of_ble_eq_true rfl) rfl (Nat.le_of_ble_eq_true rfl) ⟨Nat.zero_le _, Nat.zero_le _⟩ ?_
        refine J_if_ne E (tgt := 24) dX6_unlikeHouses_17 (by decide) (fun c_17 => ?_) (fun c_17 => ?_)
        · skip
          refine J_iconst E dX6_unlikeHouses_24 ic_1 ?_
          refine J_iadd E dX6_unlikeHouses_25 ?_
          refine J_istore_n E (lv' := [(1, .int (c + 1)), (0, .ref (b 0)), (2, .int (nI i))]) dX6_unlikeHouses_26 rfl (by decide) rfl ?_
          refine J_iinc E (lv' := [(2, .int (nI (i + 1))), (1, .int (c + 1)), (0, .ref (b 0))]) dX6_unlikeHouses_27 2 rfl (nI_inc _) (by decide) rfl ?_
          refine J_goto E (tgt := 4) dX6_unlikeHouses_30 (by decide) ?_
          refine J_lv [2, 1, 0] rfl ?_
          exact ih4 (i + 1) (c + 1) (by omega) (by rw [h1, cntF]; first | (rw [if_pos (decide_eq_true c_17)]) | (rw [if_neg (c := decide (¬ y 0 0 i = 0) = true) (fun z => (of_decide_eq_true z) c_17), Int32.add_zero])) (by omega)
        · skip
          refine J_iconst E dX6_unlikeHouses_20 ic_0 ?_
          refine J_goto E (tgt := 25) dX6_unlikeHouses_21 (by decide) ?_
          refine J_iadd E dX6_unlikeHouses_25 ?_
          refine J_istore_n E (lv' := [(1, .int (c + 0)), (0, .ref (b 0)), (2, .int (nI i))]) dX6_unlikeHouses_26 rfl (by decide) rfl ?_
          refine J_iinc E (lv' := [(2, .int (nI (i + 1))), (1, .int (c + 0)), (0, .ref (b 0))]) dX6_unlikeHouses_27 2 rfl (nI_inc _) (by decide) rfl ?_
          refine J_goto E (tgt := 4) dX6_unlikeHouses_30 (by decide) ?_
          refine J_lv [2, 1, 0] rfl ?_
          exact ih4 (i + 1) (c + 0) (by omega) (by rw [h1, cntF]; first | (rw [if_pos (decide_eq_true c_17)]) | (rw [if_neg (c := decide (¬ y 0 0 i = 0) = true) (fun z => (of_decide_eq_true z) c_17), Int32.add_zero])) (by omega)
  refine J_lv [2, 1, 0] rfl ?_
  exact lp4 _ 0 0 (by omega) rfl (Nat.lt_succ_self _)
