set_option maxHeartbeats 4000000 in
set_option maxRecDepth 20000 in
theorem c_X6_judge_out (l : Launch) (G : GB) (b : Nat → Nat) (y : Q3) (s : Int32)  (hs : ¬ (0 ≤ s ∧ s ≤ 3)) : CI l yX6_judge cX6_judge 4 .int 3 66 G [.ref (b 0), .int s] (wM G b y) (fun vR w' => vR = tellR 0 ∧ PubM G b (tellX y 0) w') := by
  refine CI.mk (own := RX6) (by decide) rfl (Nat.le_of_ble_eq_true rfl) ?_
  intro X E ret
  show J X G 4 0 0 (wM G b y) [(0, .ref (b 0)), (1, .int s)] 0 []
  refine J_aload_n E dX6_judge_0 rfl 0 rfl ?_
  refine J_iload_n E dX6_judge_1 rfl 1 rfl ?_
  refine J_cVi0 E (As := [.int s]) (c_X6_lacks_out l G b y s hs ) cl_X6_197 yo_X6_lacks dX6_judge_2 rfl rfl rfl (Nat.le_of_ble_eq_true rfl) (Nat.le_of_ble_eq_true rfl) rfl (Nat.le_of_ble_eq_true rfl) ⟨Nat.zero_le _, Nat.zero_le _⟩ ?_
  refine J_istore_n E (lv' := [(2, .int 0), (0, .ref (b 0)), (1, .int s)]) dX6_judge_5 rfl (by decide) rfl ?_
  refine J_iload_n E dX6_judge_6 rfl 0 rfl ?_
  refine J_if_lt E (tgt := 16) dX6_judge_7 (by decide) (fun c_7 => ?_) (fun c_7 => ?_)
  · skip
    have n_7 : 0 < 0 := cmp_lt (a := 0) (b := 0) (by omega) (by omega) c_7
    exact absurd n_7 (by decide)
  · skip
    have n_7 : ¬ 0 < 0 := cmp_nlt (a := 0) (b := 0) (by omega) (by omega) c_7
    refine J_aload_n E dX6_judge_10 rfl 1 rfl ?_
    refine J_iload_n E dX6_judge_11 rfl 0 rfl ?_
    refine J_cVi0 E (As := [.int 0]) (c_X6_finds l G b y 0 (by omega)) cl_X6_96 yo_X6_finds dX6_judge_12 rfl rfl rfl (Nat.le_of_ble_eq_true rfl) (Nat.le_of_ble_eq_true rfl) rfl (Nat.le_of_ble_eq_true rfl) ⟨Nat.zero_le _, Nat.zero_le _⟩ ?_
    exact ret _ _ _ _ ⟨rfl, _, rfl, by intro g h2 h5 h6; by_cases h0 : g = 0 <;> simp [tellX, upG, up3, up3R, up2, h0, h2, h5, h6]⟩ rfl dX6_judge_15

set_option maxHeartbeats 4000000 in
set_option maxRecDepth 20000 in
theorem c_X6_judge_miss_0 (l : Launch) (G : GB) (b : Nat → Nat) (y : Q3)  (hb : y 8 1 0 = 0) : CI l yX6_judge cX6_judge 4 .int 3 66 G [.ref (b 0), .int (nI 0)] (wM G b y) (fun vR w' => vR = tellR 5 ∧ PubM G b (tellX y 5) w') := by
  refine CI.mk (own := RX6) (by decide) rfl (Nat.le_of_ble_eq_true rfl) ?_
  intro X E ret
  show J X G 4 0 0 (wM G b y) [(0, .ref (b 0)), (1, .int (nI 0))] 0 []
  refine J_aload_n E dX6_judge_0 rfl 0 rfl ?_
  refine J_iload_n E dX6_judge_1 rfl 1 rfl ?_
  refine J_cVi0 E (As := [.int (nI 0)]) (c_X6_lacks_0_0 l G b y hb ) cl_X6_197 yo_X6_lacks dX6_judge_2 rfl rfl rfl (Nat.le_of_ble_eq_true rfl) (Nat.le_of_ble_eq_true rfl) rfl (Nat.le_of_ble_eq_true rfl) ⟨Nat.zero_le _, Nat.zero_le _⟩ ?_
  refine J_istore_n E (lv' := [(2, .int 5), (0, .ref (b 0)), (1, .int (nI 0))]) dX6_judge_5 rfl (by decide) rfl ?_
  refine J_iload_n E dX6_judge_6 rfl 0 rfl ?_
  refine J_if_lt E (tgt := 16) dX6_judge_7 (by decide) (fun c_7 => ?_) (fun c_7 => ?_)
  · skip
    have n_7 : 5 < 0 := cmp_lt (a := 5) (b := 0) (by omega) (by omega) c_7
    exact absurd n_7 (by decide)
  · skip
    have n_7 : ¬ 5 < 0 := cmp_nlt (a := 5) (b := 0) (by omega) (by omega) c_7
    refine J_aload_n E dX6_judge_10 rfl 1 rfl ?_
    refine J_iload_n E dX6_judge_11 rfl 0 rfl ?_
    refine J_cVi0 E (As := [.int 5]) (c_X6_finds l G b y 5 (by omega)) cl_X6_96 yo_X6_finds dX6_judge_12 rfl rfl rfl (Nat.le_of_ble_eq_true rfl) (Nat.le_of_ble_eq_true rfl) rfl (Nat.le_of_ble_eq_true rfl) ⟨Nat.zero_le _, Nat.zero_le _⟩ ?_
    exact ret _ _ _ _ ⟨rfl, _, rfl, by intro g h2 h5 h6; by_cases h0 : g = 0 <;> simp [tellX, upG, up3, up3R, up2, h0, h2, h5, h6]⟩ rfl dX6_judge_15

set_option maxHeartbeats 4000000 in
set_option maxRecDepth 20000 in
theorem c_X6_judge_miss_1 (l : Launch) (G : GB) (b : Nat → Nat) (y : Q3)  (hb : y 9 1 0 = 0) : CI l yX6_judge cX6_judge 4 .int 3 66 G [.ref (b 0), .int (nI 1)] (wM G b y) (fun vR w' => vR = tellR 5 ∧ PubM G b (tellX y 5) w') := by
  refine CI.mk (own := RX6) (by decide) rfl (Nat.le_of_ble_eq_true rfl) ?_
  intro X E ret
  show J X G 4 0 0 (wM G b y) [(0, .ref (b 0)), (1, .int (nI 1))] 0 []
  refine J_aload_n E dX6_judge_0 rfl 0 rfl ?_
  refine J_iload_n E dX6_judge_1 rfl 1 rfl ?_
  refine J_cVi0 E (As := [.int (nI 1)]) (c_X6_lacks_1_0 l G b y hb ) cl_X6_197 yo_X6_lacks dX6_judge_2 rfl rfl rfl (Nat.le_of_ble_eq_true rfl) (Nat.le_of_ble_eq_true rfl) rfl (Nat.le_of_ble_eq_true rfl) ⟨Nat.zero_le _, Nat.zero_le _⟩ ?_
  refine J_istore_n E (lv' := [(2, .int 5), (0, .ref (b 0)), (1, .int (nI 1))]) dX6_judge_5 rfl (by decide) rfl ?_
  refine J_iload_n E dX6_judge_6 rfl 0 rfl ?_
  refine J_if_lt E (tgt := 16) dX6_judge_7 (by decide) (fun c_7 => ?_) (fun c_7 => ?_)
  · skip
    have n_7 : 5 < 0 := cmp_lt (a := 5) (b := 0) (by omega) (by omega) c_7
    exact absurd n_7 (by decide)
  · skip
    have n_7 : ¬ 5 < 0 := cmp_nlt (a := 5) (b := 0) (by omega) (by omega) c_7
    refine J_aload_n E dX6_judge_10 rfl 1 rfl ?_
    refine J_iload_n E dX6_judge_11 rfl 0 rfl ?_
    refine J_cVi0 E (As := [.int 5]) (c_X6_finds l G b y 5 (by omega)) cl_X6_96 yo_X6_finds dX6_judge_12 rfl rfl rfl (Nat.le_of_ble_eq_true rfl) (Nat.le_of_ble_eq_true rfl) rfl (Nat.le_of_ble_eq_true rfl) ⟨Nat.zero_le _, Nat.zero_le _⟩ ?_
    exact ret _ _ _ _ ⟨rfl, _, rfl, by intro g h2 h5 h6; by_cases h0 : g = 0 <;> simp [tellX, upG, up3, up3R, up2, h0, h2, h5, h6]⟩ rfl dX6_judge_15

set_option maxHeartbeats 4000000 in
set_option maxRecDepth 20000 in
theorem c_X6_judge_miss_2 (l : Launch) (G : GB) (b : Nat → Nat) (y : Q3)  (hb : y 10 1 0 = 0) : CI l yX6_judge cX6_judge 4 .int 3 66 G [.ref (b 0), .int (nI 2)] (wM G b y) (fun vR w' => vR = tellR 5 ∧ PubM G b (tellX y 5) w') := by
  refine CI.mk (own := RX6) (by decide) rfl (Nat.le_of_ble_eq_true rfl) ?_
  intro X E ret
  show J X G 4 0 0 (wM G b y) [(0, .ref (b 0)), (1, .int (nI 2))] 0 []
  refine J_aload_n E dX6_judge_0 rfl 0 rfl ?_
  refine J_iload_n E dX6_judge_1 rfl 1 rfl ?_
  refine J_cVi0 E (As := [.int (nI 2)]) (c_X6_lacks_2_0 l G b y hb ) cl_X6_197 yo_X6_lacks dX6_judge_2 rfl rfl rfl (Nat.le_of_ble_eq_true rfl) (Nat.le_of_ble_eq_true rfl) rfl (Nat.le_of_ble_eq_true rfl) ⟨Nat.zero_le _, Nat.zero_le _⟩ ?_
  refine J_istore_n E (lv' := [(2, .int 5), (0, .ref (b 0)), (1, .int (nI 2))]) dX6_judge_5 rfl (by decide) rfl ?_
  refine J_iload_n E dX6_judge_6 rfl 0 rfl ?_
  refine J_if_lt E (tgt := 16) dX6_judge_7 (by decide) (fun c_7 => ?_) (fun c_7 => ?_)
  · skip
    have n_7 : 5 < 0 := cmp_lt (a := 5) (b := 0) (by omega) (by omega) c_7
    exact absurd n_7 (by decide)
  · skip
    have n_7 : ¬ 5 < 0 := cmp_nlt (a := 5) (b := 0) (by omega) (by omega) c_7
    refine J_aload_n E dX6_judge_10 rfl 1 rfl ?_
    refine J_iload_n E dX6_judge_11 rfl 0 rfl ?_
    refine J_cVi0 E (As := [.int 5]) (c_X6_finds l G b y 5 (by omega)) cl_X6_96 yo_X6_finds dX6_judge_12 rfl rfl rfl (Nat.le_of_ble_eq_true rfl) (Nat.le_of_ble_eq_true rfl) rfl (Nat.le_of_ble_eq_true rfl) ⟨Nat.zero_le _, Nat.zero_le _⟩ ?_
    exact ret _ _ _ _ ⟨rfl, _, rfl, by intro g h2 h5 h6; by_cases h0 : g = 0 <;> simp [tellX, upG, up3, up3R, up2, h0, h2, h5, h6]⟩ rfl dX6_judge_15

set_option maxHeartbeats 4000000 in
set_option maxRecDepth 20000 in
theorem c_X6_judge_miss_3 (l : Launch) (G : GB) (b : Nat → Nat) (y : Q3)  (hb : y 11 1 0 = 0) : CI l yX6_judge cX6_judge 4 .int 3 66 G [.ref (b 0), .int (nI 3)] (wM G b y) (fun vR w' => vR = tellR 5 ∧ PubM G b (tellX y 5) w') := by
  refine CI.mk (own := RX6) (by decide) rfl (Nat.le_of_ble_eq_true rfl) ?_
  intro X E ret
  show J X G 4 0 0 (wM G b y) [(0, .ref (b 0)), (1, .int (nI 3))] 0 []
  refine J_aload_n E dX6_judge_0 rfl 0 rfl ?_
  refine J_iload_n E dX6_judge_1 rfl 1 rfl ?_
  refine J_cVi0 E (As := [.int (nI 3)]) (c_X6_lacks_3_0 l G b y hb ) cl_X6_197 yo_X6_lacks dX6_judge_2 rfl rfl rfl (Nat.le_of_ble_eq_true rfl) (Nat.le_of_ble_eq_true rfl) rfl (Nat.le_of_ble_eq_true rfl) ⟨Nat.zero_le _, Nat.zero_le _⟩ ?_
  refine J_istore_n E (lv' := [(2, .int 5), (0, .ref (b 0)), (1, .int (nI 3))]) dX6_judge_5 rfl (by decide) rfl ?_
  refine J_iload_n E dX6_judge_6 rfl 0 rfl ?_
  refine J_if_lt E (tgt := 16) dX6_judge_7 (by decide) (fun c_7 => ?_) (fun c_7 => ?_)
  · skip
    have n_7 : 5 < 0 := cmp_lt (a := 5) (b := 0) (by omega) (by omega) c_7
    exact absurd n_7 (by decide)
  · skip
    have n_7 : ¬ 5 < 0 := cmp_nlt (a := 5) (b := 0) (by omega) (by omega) c_7
    refine J_aload_n E dX6_judge_10 rfl 1 rfl ?_
    refine J_iload_n E dX6_judge_11 rfl 0 rfl ?_
    refine J_cVi0 E (As := [.int 5]) (c_X6_finds l G b y 5 (by omega)) cl_X6_96 yo_X6_finds dX6_judge_12 rfl rfl rfl (Nat.le_of_ble_eq_true rfl) (Nat.le_of_ble_eq_true rfl) rfl (Nat.le_of_ble_eq_true rfl) ⟨Nat.zero_le _, Nat.zero_le _⟩ ?_
    exact ret _ _ _ _ ⟨rfl, _, rfl, by intro g h2 h5 h6; by_cases h0 : g = 0 <;> simp [tellX, upG, up3, up3R, up2, h0, h2, h5, h6]⟩ rfl dX6_judge_15
