set_option maxHeartbeats 4000000 in
set_option maxRecDepth 20000 in
theorem c_X6_turns (l : Launch) (G : GB) (b : Nat → Nat) (y : Q3) (h : Nat) (hh : h < 11) : CV l yX6_turns cX6_turns 2 1 23 0 0 G [.ref (b 0), .int (nI h)] (wM G b y) (fun w' => w' = wM G b (upG y 0 (turn1 (y 0) h))) := by
  refine CV.mk (own := RX6) (by decide) rfl (Nat.le_of_ble_eq_true rfl) ?_
  intro X E _ _ _ ret
  show J X G 2 0 0 (wM G b y) [(0, .ref (b 0)), (1, .int (nI h))] 0 []
  refine J_aload_n E dX6_turns_0 rfl 0 rfl ?_
  refine J_iload_n E dX6_turns_1 rfl 1 rfl ?_
  refine J_iconst E dX6_turns_2 ic_4 ?_
  refine J_iconst E dX6_turns_3 ic_1 ?_
  refine J_aload_n E dX6_turns_4 rfl 0 rfl ?_
  refine J_iload_n E dX6_turns_5 rfl 1 rfl ?_
  refine J_iconst E dX6_turns_6 ic_4 ?_
  refine J_cVi0 E (As := [.int (nI h), .int 4]) (c_X6_its l G b y h 4 (by omega) (by omega)) cl_X6_64 yo_X6_its dX6_turns_7 rfl rfl rfl (Nat.le_of_ble_eq_true rfl) (Nat.le_of_ble_eq_true rfl) rfl (Nat.le_of_ble_eq_true rfl) ⟨Nat.zero_le _, Nat.zero_le _⟩ ?_
  refine J_isub E dX6_turns_10 ?_
  refine J_cVv0 E (As := [.int (nI h), .int 4, .int (1 - (y 0 4 h))]) (c_X6_sets l G b y h 4 (1 - (y 0 4 h)) (by omega) (by omega)) cl_X6_43 yo_X6_sets dX6_turns_11 rfl rfl rfl (Nat.le_of_ble_eq_true rfl) (Nat.le_of_ble_eq_true rfl) rfl (Nat.le_of_ble_eq_true rfl) ⟨Nat.zero_le _, Nat.zero_le _⟩ ?_
  exact ret _ _ _ (congrArg (wM G b) (rfl)) dX6_turns_14

set_option maxHeartbeats 4000000 in
set_option maxRecDepth 20000 in
theorem c_X6_dryBy (l : Launch) (G : GB) (b : Nat → Nat) (y : Q3) (s : Int32) (m : Nat) (hm : m ≤ 1000) (hok : okQ (y 0))  : CI l yX6_dryBy cX6_dryBy 4 .int 5 114 G [.ref (b 0), .int s, .int (nI m)] (wM G b y) (fun vR w' => vR = drysR (turnRQ (y 0) s) m ∧ ∃ d : Q2, w' = wM G b (upG (upG (upG y 2 (y 0)) 5 d) 0 (y 0))) := by
  refine CI.mk (own := RX6) (by decide) rfl (Nat.le_of_ble_eq_true rfl) ?_
  intro X E ret
  show J X G 4 0 0 (wM G b y) [(0, .ref (b 0)), (1, .int s), (2, .int (nI m))] 0 []
  refine J_aload_n E dX6_dryBy_0 rfl 0 rfl ?_
  refine J_cVv0 E (As := []) (c_X6_lends l G b y ) cl_X6_160 yo_X6_lends dX6_dryBy_1 rfl rfl rfl (Nat.le_of_ble_eq_true rfl) (Nat.le_of_ble_eq_true rfl) rfl (Nat.le_of_ble_eq_true rfl) ⟨Nat.zero_le _, Nat.zero_le _⟩ ?_
  refine J_iconst E dX6_dryBy_4 ic_0 ?_
  refine J_istore_n E (lv' := [(3, .int 0), (0, .ref (b 0)), (1, .int s), (2, .int (nI m))]) dX6_dryBy_5 rfl (by decide) rfl ?_
  have lp6 : ∀ (fu : Nat) (i : Nat) (z : Q2) (r : Q2), (z = y 0) → (i ≤ 11) → (r = turnRS (y 0) s i) → 11 - i < fu → J X G 4 0 0 (wM G b (upG (upG y 2 z) 0 r)) [(0, .ref (b 0)), (1, .int s), (2, .int (nI m)), (3, .int (nI i))] 6 [] := by
    intro fu
    induction fu with
    | zero => intro i z r hz hi hr hm; exact absurd hm (Nat.not_lt_zero _)
    | succ fu ih6 =>
      intro i z r hz hi hr hm
      refine J_iload_n E dX6_dryBy_6 rfl 3 rfl ?_
      refine J_bipush E dX6_dryBy_7 bp_11 ?_
      refine J_icmp_ge E (tgt := 32) dX6_dryBy_9 (by decide) (fun c_9 => ?_) (fun c_9 => ?_)
      · skip
        have n_9 : 11 ≤ i := cmp_le (a := 11) (b := i) (by omega) (by omega) c_9
        refine J_aload_n E dX6_dryBy_32 rfl 0 rfl ?_
        refine J_iload_n E dX6_dryBy_33 rfl 2 rfl ?_
        refine J_callEi E (As := [.int (nI m)]) (c_X6_dryIn l G b (upG (upG y 2 z) 0 r) m (by omega) (by rw [hr]; exact okQ_t hok s i hi)) cl_X6_169 yo_X6_dryIn dX6_dryBy_34 rfl (Nat.le_of_ble_eq_true rfl) (Nat.le_of_ble_eq_true rfl) rfl (Nat.le_of_ble_eq_true rfl) ⟨Nat.zero_le _, Nat.zero_le _⟩ (fun d34_1 => ?_)
        refine J_w (ws' := wM G b (upG (upG (upG (upG y 2 z) 0 r) 5 d34_1) 0 (hoursR r m))) (wM_c rfl rfl rfl rfl rfl rfl rfl rfl rfl rfl rfl) ?_
        refine J_top (x' := drysR r m) rfl ?_
        refine J_istore_n E (lv' := [(3, .int (drysR r m)), (0, .ref (b 0)), (1, .int s), (2, .int (nI m))]) dX6_dryBy_37 rfl (by decide) rfl ?_
        refine J_aload_n E dX6_dryBy_38 rfl 1 rfl ?_
        refine J_cVv0 E (As := []) (c_X6_laysBack l G b (upG (upG (upG (upG y 2 z) 0 r) 5 d34_1) 0 (hoursR r m)) ) cl_X6_163 yo_X6_laysBack dX6_dryBy_39 rfl rfl rfl (Nat.le_of_ble_eq_true rfl) (Nat.le_of_ble_eq_true rfl) rfl (Nat.le_of_ble_eq_true rfl) ⟨Nat.zero_le _, Nat.zero_le _⟩ ?_
        refine J_iload_n E dX6_dryBy_42 rfl 0 rfl ?_
        exact ret _ _ _ _ ⟨by rw [hr, show i = 11 by omega]; rfl, d34_1, by subst hz; exact (wM_c rfl rfl rfl rfl rfl rfl rfl rfl rfl rfl rfl)⟩ rfl dX6_dryBy_43
      · skip
        have n_9 : ¬ 11 ≤ i := cmp_nle (a := 11) (b := i) (by omega) (by omega) c_9
        refine J_iload_n E dX6_dryBy_12 rfl 1 rfl ?_
        refine J_iload_n E dX6_dryBy_13 rfl 3 rfl ?_
        refine J_ishr E dX6_dryBy_14 ?_
        refine J_iconst E dX6_dryBy_15 ic_1 ?_
        refine J_iand E dX6_dryBy_16 ?_
        refine J_iconst E dX6_dryBy_17 ic_1 ?_
        refine J_icmp_ne E (tgt := 26) dX6_dryBy_18 (by decide) (fun c_18 => ?_) (fun c_18 => ?_)
        · skip
          refine J_iinc E (lv' := [(3, .int (nI (i + 1))), (0, .ref (b 0)), (1, .int s), (2, .int (nI m))]) dX6_dryBy_26 3 rfl (nI_inc _) (by decide) rfl ?_
          refine J_goto E (tgt := 6) dX6_dryBy_29 (by decide) ?_
          refine J_lv [1, 2, 3, 0] rfl ?_
          refine J_w (ws' := wM G b (upG (upG y 2 z) 0 r)) (wM_c rfl rfl rfl rfl rfl rfl rfl rfl rfl rfl rfl) ?_
          exact ih6 (i + 1) z r hz (by omega) (by rw [hr, turnRS]; first | rw [if_pos c_18] | rw [if_neg c_18]) (by omega)
        · skip
          refine J_aload_n E dX6_dryBy_21 rfl 0 rfl ?_
          refine J_iload_n E dX6_dryBy_22 rfl 3 rfl ?_
          refine J_cVv0 E (As := [.int (nI i)]) (c_X6_turns l G b (upG (upG y 2 z) 0 r) i (by omega)) cl_X6_186 yo_X6_turns dX6_dryBy_23 rfl rfl rfl (Nat.le_of_ble_eq_true rfl) (Nat.le_of_ble_eq_true rfl) rfl (Nat.le_of_ble_eq_true rfl) ⟨Nat.zero_le _, Nat.zero_le _⟩ ?_
          refine J_iinc E (lv' := [(3, .int (nI (i + 1))), (0, .ref (b 0)), (1, .int s), (2, .int (nI m))]) dX6_dryBy_26 3 rfl (nI_inc _) (by decide) rfl ?_
          refine J_goto E (tgt := 6) dX6_dryBy_29 (by decide) ?_
          refine J_lv [1, 2, 3, 0] rfl ?_
          refine J_w (ws' := wM G b (upG (upG y 2 z) 0 (turn1 r i))) (wM_c rfl rfl rfl rfl rfl rfl rfl rfl rfl rfl rfl) ?_
          exact ih6 (i + 1) z (turn1 r i) hz (by omega) (by rw [hr, turnRS]; first | rw [if_pos c_18] | rw [if_neg c_18]) (by omega)
  refine J_lv [1, 2, 3, 0] rfl ?_
  refine J_w (ws' := wM G b (upG (upG y 2 (y 0)) 0 (y 0))) (wM_c rfl rfl rfl rfl rfl rfl rfl rfl rfl rfl rfl) ?_
  exact lp6 _ 0 (y 0) (y 0) rfl (by omega) rfl (Nat.lt_succ_self _)
