set_option maxHeartbeats 4000000 in
set_option maxRecDepth 20000 in
theorem c_X6_kinds_miss_2 (l : Launch) (G : GB) (b : Nat → Nat) (y : Q3) (h : Int32) (hb : y 10 1 0 = 0) : CI l yX6_kinds cX6_kinds 6 .int 4 89 G [.ref (b 0), .int (nI 2), .int h] (wM G b y) (fun vR w' => vR = tellR 5 ∧ PubM G b (tellX y 5) w') := by
  refine CI.mk (own := RX6) (by decide) rfl (Nat.le_of_ble_eq_true rfl) ?_
  intro X E ret
  show J X G 6 0 0 (wM G b y) [(0, .ref (b 0)), (1, .int (nI 2)), (2, .int h)] 0 []
  refine J_aload_n E dX6_kinds_0 rfl 0 rfl ?_
  refine J_iload_n E dX6_kinds_1 rfl 1 rfl ?_
  refine J_iload_n E dX6_kinds_2 rfl 2 rfl ?_
  refine J_cVi0 E (As := [.int (nI 2), .int h]) (c_X6_lacksHouse_2_0 l G b y h hb ) cl_X6_200 yo_X6_lacksHouse dX6_kinds_3 rfl rfl rfl (Nat.le_of_ble_eq_true rfl) (Nat.le_of_ble_eq_true rfl) rfl (Nat.le_of_ble_eq_true rfl) ⟨Nat.zero_le _, Nat.zero_le _⟩ ?_
  refine J_istore_n E (lv' := [(3, .int 5), (0, .ref (b 0)), (1, .int (nI 2)), (2, .int h)]) dX6_kinds_6 rfl (by decide) rfl ?_
  refine J_iload_n E dX6_kinds_7 rfl 0 rfl ?_
  refine J_if_lt E (tgt := 17) dX6_kinds_8 (by decide) (fun c_8 => ?_) (fun c_8 => ?_)
  · skip
    have n_8 : 5 < 0 := cmp_lt (a := 5) (b := 0) (by omega) (by omega) c_8
    exact absurd n_8 (by decide)
  · skip
    have n_8 : ¬ 5 < 0 := cmp_nlt (a := 5) (b := 0) (by omega) (by omega) c_8
    refine J_aload_n E dX6_kinds_11 rfl 1 rfl ?_
    refine J_iload_n E dX6_kinds_12 rfl 0 rfl ?_
    refine J_cVi0 E (As := [.int 5]) (c_X6_finds l G b y 5 (by omega)) cl_X6_96 yo_X6_finds dX6_kinds_13 rfl rfl rfl (Nat.le_of_ble_eq_true rfl) (Nat.le_of_ble_eq_true rfl) rfl (Nat.le_of_ble_eq_true rfl) ⟨Nat.zero_le _, Nat.zero_le _⟩ ?_
    exact ret _ _ _ _ ⟨rfl, _, rfl, by intro g h2 h5 h6; by_cases h0 : g = 0 <;> simp [tellX, upG, up3, up3R, up2, h0, h2, h5, h6]⟩ rfl dX6_kinds_16

set_option maxHeartbeats 4000000 in
set_option maxRecDepth 20000 in
theorem c_X6_kinds_bad_2 (l : Launch) (G : GB) (b : Nat → Nat) (y : Q3) (h : Int32) (hb : ¬ y 10 1 0 = 0) (hh : ¬ okH h) : CI l yX6_kinds cX6_kinds 6 .int 4 89 G [.ref (b 0), .int (nI 2), .int h] (wM G b y) (fun vR w' => vR = tellR 0 ∧ PubM G b (tellX y 0) w') := by
  refine CI.mk (own := RX6) (by decide) rfl (Nat.le_of_ble_eq_true rfl) ?_
  intro X E ret
  show J X G 6 0 0 (wM G b y) [(0, .ref (b 0)), (1, .int (nI 2)), (2, .int h)] 0 []
  refine J_aload_n E dX6_kinds_0 rfl 0 rfl ?_
  refine J_iload_n E dX6_kinds_1 rfl 1 rfl ?_
  refine J_iload_n E dX6_kinds_2 rfl 2 rfl ?_
  refine J_cVi0 E (As := [.int (nI 2), .int h]) (c_X6_lacksHouse_2_2 l G b y h hb hh ) cl_X6_200 yo_X6_lacksHouse dX6_kinds_3 rfl rfl rfl (Nat.le_of_ble_eq_true rfl) (Nat.le_of_ble_eq_true rfl) rfl (Nat.le_of_ble_eq_true rfl) ⟨Nat.zero_le _, Nat.zero_le _⟩ ?_
  refine J_istore_n E (lv' := [(3, .int 0), (0, .ref (b 0)), (1, .int (nI 2)), (2, .int h)]) dX6_kinds_6 rfl (by decide) rfl ?_
  refine J_iload_n E dX6_kinds_7 rfl 0 rfl ?_
  refine J_if_lt E (tgt := 17) dX6_kinds_8 (by decide) (fun c_8 => ?_) (fun c_8 => ?_)
  · skip
    have n_8 : 0 < 0 := cmp_lt (a := 0) (b := 0) (by omega) (by omega) c_8
    exact absurd n_8 (by decide)
  · skip
    have n_8 : ¬ 0 < 0 := cmp_nlt (a := 0) (b := 0) (by omega) (by omega) c_8
    refine J_aload_n E dX6_kinds_11 rfl 1 rfl ?_
    refine J_iload_n E dX6_kinds_12 rfl 0 rfl ?_
    refine J_cVi0 E (As := [.int 0]) (c_X6_finds l G b y 0 (by omega)) cl_X6_96 yo_X6_finds dX6_kinds_13 rfl rfl rfl (Nat.le_of_ble_eq_true rfl) (Nat.le_of_ble_eq_true rfl) rfl (Nat.le_of_ble_eq_true rfl) ⟨Nat.zero_le _, Nat.zero_le _⟩ ?_
    exact ret _ _ _ _ ⟨rfl, _, rfl, by intro g h2 h5 h6; by_cases h0 : g = 0 <;> simp [tellX, upG, up3, up3R, up2, h0, h2, h5, h6]⟩ rfl dX6_kinds_16

set_option maxHeartbeats 4000000 in
set_option maxRecDepth 20000 in
theorem c_X6_kinds_ok_2 (l : Launch) (G : GB) (b : Nat → Nat) (y : Q3) (j n : Nat) (hb : ¬ y 10 1 0 = 0) (hj : j < 11) (hn : y 10 1 1 = nI n) (hn2 : n ≤ 40) (hok : okQ (y 0))  : CI l yX6_kinds cX6_kinds 6 .int 5 116 G [.ref (b 0), .int (nI 2), .int (nI j)] (wM G b y) (fun vR w' => vR = setF (fun o => soF (y 10 0) j (up2 (y 0) 0 j (nI o)) n) 7 ∧ PubM G b y w') := by
  refine CI.mk (own := RX6) (by decide) rfl (Nat.le_of_ble_eq_true rfl) ?_
  intro X E ret
  show J X G 6 0 0 (wM G b y) [(0, .ref (b 0)), (1, .int (nI 2)), (2, .int (nI j))] 0 []
  refine J_aload_n E dX6_kinds_0 rfl 0 rfl ?_
  refine J_iload_n E dX6_kinds_1 rfl 1 rfl ?_
  refine J_iload_n E dX6_kinds_2 rfl 2 rfl ?_
  refine J_cVi0 E (As := [.int (nI 2), .int (nI j)]) (c_X6_lacksHouse_2_1 l G b y (nI j) hb (inB (a := j) (b := 10) (by omega) (by decide)) ) cl_X6_200 yo_X6_lacksHouse dX6_kinds_3 rfl rfl rfl (Nat.le_of_ble_eq_true rfl) (Nat.le_of_ble_eq_true rfl) rfl (Nat.le_of_ble_eq_true rfl) ⟨Nat.zero_le _, Nat.zero_le _⟩ ?_
  refine J_istore_n E (lv' := [(3, .int (-1)), (0, .ref (b 0)), (1, .int (nI 2)), (2, .int (nI j))]) dX6_kinds_6 rfl (by decide) rfl ?_
  refine J_iload_n E dX6_kinds_7 rfl 0 rfl ?_
  refine J_if_lt E (tgt := 17) dX6_kinds_8 (by decide) (fun c_8 => ?_) (fun c_8 => ?_)
  · skip
    refine J_iconst E dX6_kinds_17 ic_0 ?_
    refine J_istore E (lv' := [(4, .int 0), (3, .int (-1)), (0, .ref (b 0)), (1, .int (nI 2)), (2, .int (nI j))]) dX6_kinds_18 (by decide) rfl ?_
    refine J_iconst E dX6_kinds_20 ic_0 ?_
    refine J_istore E (lv' := [(5, .int 0), (4, .int 0), (3, .int (-1)), (0, .ref (b 0)), (1, .int (nI 2)), (2, .int (nI j))]) dX6_kinds_21 (by decide) rfl ?_
    refine J_w (ws' := wM G b (upG y 5 (y 5))) (congrArg (wM G b) upG_id.symm) ?_
    have lp23 : ∀ (fu : Nat) (o : Nat) (t : Int32) (d : Q2) (z : Q2), (o ≤ 7) → (t = setF (fun o => soF (y 10 0) j (up2 (y 0) 0 j (nI o)) n) o) → 7 - o < fu → J X G 6 0 0 (wM G b (upG (upG y 5 d) 2 z)) [(0, .ref (b 0)), (1, .int (nI 2)), (2, .int (nI j)), (4, .int t), (5, .int (nI o))] 23 [] := by
      intro fu
      induction fu with
      | zero => intro o t d z hi h1 hm; exact absurd hm (Nat.not_lt_zero _)
      | succ fu ih23 =>
        intro o t d z hi h1 hm
        refine J_iload E dX6_kinds_23 4 rfl ?_
        refine J_bipush E dX6_kinds_25 bp_6 ?_
        refine J_icmp_gt E (tgt := 74) dX6_kinds_27 (by decide) (fun c_27 => ?_) (fun c_27 => ?_)
        · skip
          have n_27 : 6 < o := cmp_lt (a := 6) (b := o) (by omega) (by omega) c_27
          refine J_iload E dX6_kinds_74 3 rfl ?_
          exact ret _ _ _ _ ⟨by rw [h1, show o = 7 by omega], _, rfl, by intro g h2 h5 h6; by_cases h0 : g = 0 <;> simp [tellX, upG, up3, up3R, up2, h0, h2, h5, h6]⟩ rfl dX6_kinds_76
        · skip
          have n_27 : ¬ 6 < o := cmp_nlt (a := 6) (b := o) (by omega) (by omega) c_27
          refine J_aload_n E dX6_kinds_30 rfl 0 rfl ?_
          refine J_cVv0 E (As := []) (c_X6_lends l G b (upG (upG y 5 d) 2 z) ) cl_X6_160 yo_X6_lends dX6_kinds_31 rfl rfl rfl (Nat.le_of_ble_eq_true rfl) (Nat.le_of_ble_eq_true rfl) rfl (Nat.le_of_ble_eq_true rfl) ⟨Nat.zero_le _, Nat.zero_le _⟩ ?_
          refine J_aload_n E dX6_kinds_34 rfl 0 rfl ?_
          refine J_iload_n E dX6_kinds_35 rfl 2 rfl ?_
          refine J_iconst E dX6_kinds_36 ic_0 ?_
          refine J_iload E dX6_kinds_37 4 rfl ?_
          refine J_cVv0 E (As := [.int (nI j), .int 0, .int (nI o)]) (c_X6_sets l G b (upG (upG (upG y 5 d) 2 z) 2 (y 0)) j 0 (nI o) (by omega) (by omega)) cl_X6_43 yo_X6_sets dX6_kinds_39 rfl rfl rfl (Nat.le_of_ble_eq_true rfl) (Nat.le_of_ble_eq_true rfl) rfl (Nat.le_of_ble_eq_true rfl) ⟨Nat.zero_le _, Nat.zero_le _⟩ ?_
          refine J_iload E dX6_kinds_42 3 rfl ?_
          refine J_aload_n E dX6_kinds_44 rfl 0 rfl ?_
          refine J_iload_n E dX6_kinds_45 rfl 1 rfl ?_
          refine J_iload_n E dX6_kinds_46 rfl 2 rfl ?_
          refine J_callEi E (As := [.int (nI 2), .int (nI j)]) (c_X6_isSo_2 l G b (upG (upG (upG (upG y 5 d) 2 z) 2 (y 0)) 0 (up2 (y 0) 0 j (nI o))) j n hj hn hn2 (okQ_k hok _ (by omega))) cl_X6_203 yo_X6_isSo dX6_kinds_47 rfl (Nat.le_of_ble_eq_true rfl) (Nat.le_of_ble_eq_true rfl) rfl (Nat.le_of_ble_eq_true rfl) ⟨Nat.zero_le _, Nat.zero_le _⟩ (fun d47_1 => ?_)
          refine J_w (ws' := wM G b (upG (upG (upG (upG (upG (upG y 5 d) 2 z) 2 (y 0)) 0 (up2 (y 0) 0 j (nI o))) 5 d47_1) 0 (hoursR (up2 (y 0) 0 j (nI o)) n))) (wM_c rfl rfl rfl rfl rfl rfl rfl rfl rfl rfl rfl) ?_
          refine J_top (x' := bI (soF (y 10 0) j (up2 (y 0) 0 j (nI o)) n = true)) rfl ?_
          refine J_if_eq E (tgt := 60) dX6_kinds_50 (by decide) (fun c_50 => ?_) (fun c_50 => ?_)
          · skip
            have c_50 := bI_0 c_50
            refine J_iconst E dX6_kinds_60 ic_0 ?_
            refine J_ior E dX6_kinds_61 ?_
            refine J_istore E (lv' := [(4, .int (t ||| 0)), (0, .ref (b 0)), (1, .int (nI 2)), (2, .int (nI j)), (5, .int (nI o))]) dX6_kinds_62 (by decide) rfl ?_
            refine J_aload_n E dX6_kinds_64 rfl 1 rfl ?_
            refine J_cVv0 E (As := []) (c_X6_laysBack l G b (upG (upG (upG (upG (upG (upG y 5 d) 2 z) 2 (y 0)) 0 (up2 (y 0) 0 j (nI o))) 5 d47_1) 0 (hoursR (up2 (y 0) 0 j (nI o)) n)) ) cl_X6_163 yo_X6_laysBack dX6_kinds_65 rfl rfl rfl (Nat.le_of_ble_eq_true rfl) (Nat.le_of_ble_eq_true rfl) rfl (Nat.le_of_ble_eq_true rfl) ⟨Nat.zero_le _, Nat.zero_le _⟩ ?_
            refine J_iinc E (lv' := [(5, .int (nI (o + 1))), (4, .int (t ||| 0)), (0, .ref (b 0)), (1, .int (nI 2)), (2, .int (nI j))]) dX6_kinds_68 4 rfl (nI_inc _) (by decide) rfl ?_
            refine J_goto E (tgt := 23) dX6_kinds_71 (by decide) ?_
            refine J_lv [2, 3, 4, 1, 0] rfl ?_
            refine J_w (ws' := wM G b (upG (upG y 5 d47_1) 2 (y 0))) (wM_c rfl rfl rfl rfl rfl rfl rfl rfl rfl rfl rfl) ?_
            exact ih23 (o + 1) (t ||| 0) d47_1 (y 0) (by omega) (by rw [h1, setF]; first | (rw [if_pos c_50]; rfl) | (rw [if_neg c_50, or_0])) (by omega)
          · skip
            have c_50 := bI_1 c_50
            refine J_iconst E dX6_kinds_53 ic_1 ?_
            refine J_iload E dX6_kinds_54 4 rfl ?_
            refine J_ishl E dX6_kinds_56 ?_
            refine J_goto E (tgt := 61) dX6_kinds_57 (by decide) ?_
            refine J_ior E dX6_kinds_61 ?_
            refine J_istore E (lv' := [(4, .int (t ||| (1 <<< ((nI o) &&& 31)))), (0, .ref (b 0)), (1, .int (nI 2)), (2, .int (nI j)), (5, .int (nI o))]) dX6_kinds_62 (by decide) rfl ?_
            refine J_aload_n E dX6_kinds_64 rfl 1 rfl ?_
            refine J_cVv0 E (As := []) (c_X6_laysBack l G b (upG (upG (upG (upG (upG (upG y 5 d) 2 z) 2 (y 0)) 0 (up2 (y 0) 0 j (nI o))) 5 d47_1) 0 (hoursR (up2 (y 0) 0 j (nI o)) n)) ) cl_X6_163 yo_X6_laysBack dX6_kinds_65 rfl rfl rfl (Nat.le_of_ble_eq_true rfl) (Nat.le_of_ble_eq_true rfl) rfl (Nat.le_of_ble_eq_true rfl) ⟨Nat.zero_le _, Nat.zero_le _⟩ ?_
            refine J_iinc E (lv' := [(5, .int (nI (o + 1))), (4, .int (t ||| (1 <<< ((nI o) &&& 31)))), (0, .ref (b 0)), (1, .int (nI 2)), (2, .int (nI j))]) dX6_kinds_68 4 rfl (nI_inc _) (by decide) rfl ?_
            refine J_goto E (tgt := 23) dX6_kinds_71 (by decide) ?_
            refine J_lv [2, 3, 4, 1, 0] rfl ?_
            refine J_w (ws' := wM G b (upG (upG y 5 d47_1) 2 (y 0))) (wM_c rfl rfl rfl rfl rfl rfl rfl rfl rfl rfl rfl) ?_
            exact ih23 (o + 1) (t ||| (1 <<< ((nI o) &&& 31))) d47_1 (y 0) (by omega) (by rw [h1, setF]; first | (rw [if_pos c_50]; rfl) | (rw [if_neg c_50, or_0])) (by omega)
    refine J_lv [3, 4, 5, 1, 0] rfl ?_
    refine J_w (ws' := wM G b (upG (upG y 5 (y 5)) 2 (y 2))) (wM_c rfl rfl rfl rfl rfl rfl rfl rfl rfl rfl rfl) ?_
    exact lp23 _ 0 0 (y 5) (y 2) (by omega) rfl (Nat.lt_succ_self _)
  · skip
    exact absurd c_8 (by decide)

set_option maxHeartbeats 4000000 in
set_option maxRecDepth 20000 in
theorem c_X6_kinds_miss_3 (l : Launch) (G : GB) (b : Nat → Nat) (y : Q3) (h : Int32) (hb : y 11 1 0 = 0) : CI l yX6_kinds cX6_kinds 6 .int 4 89 G [.ref (b 0), .int (nI 3), .int h] (wM G b y) (fun vR w' => vR = tellR 5 ∧ PubM G b (tellX y 5) w') := by
  refine CI.mk (own := RX6) (by decide) rfl (Nat.le_of_ble_eq_true rfl) ?_
  intro X E ret
  show J X G 6 0 0 (wM G b y) [(0, .ref (b 0)), (1, .int (nI 3)), (2, .int h)] 0 []
  refine J_aload_n E dX6_kinds_0 rfl 0 rfl ?_
  refine J_iload_n E dX6_kinds_1 rfl 1 rfl ?_
  refine J_iload_n E dX6_kinds_2 rfl 2 rfl ?_
  refine J_cVi0 E (As := [.int (nI 3), .int h]) (c_X6_lacksHouse_3_0 l G b y h hb ) cl_X6_200 yo_X6_lacksHouse dX6_kinds_3 rfl rfl rfl (Nat.le_of_ble_eq_true rfl) (Nat.le_of_ble_eq_true rfl) rfl (Nat.le_of_ble_eq_true rfl) ⟨Nat.zero_le _, Nat.zero_le _⟩ ?_
  refine J_istore_n E (lv' := [(3, .int 5), (0, .ref (b 0)), (1, .int (nI 3)), (2, .int h)]) dX6_kinds_6 rfl (by decide) rfl ?_
  refine J_iload_n E dX6_kinds_7 rfl 0 rfl ?_
  refine J_if_lt E (tgt := 17) dX6_kinds_8 (by decide) (fun c_8 => ?_) (fun c_8 => ?_)
  · skip
    have n_8 : 5 < 0 := cmp_lt (a := 5) (b := 0) (by omega) (by omega) c_8
    exact absurd n_8 (by decide)
  · skip
    have n_8 : ¬ 5 < 0 := cmp_nlt (a := 5) (b := 0) (by omega) (by omega) c_8
    refine J_aload_n E dX6_kinds_11 rfl 1 rfl ?_
    refine J_iload_n E dX6_kinds_12 rfl 0 rfl ?_
    refine J_cVi0 E (As := [.int 5]) (c_X6_finds l G b y 5 (by omega)) cl_X6_96 yo_X6_finds dX6_kinds_13 rfl rfl rfl (Nat.le_of_ble_eq_true rfl) (Nat.le_of_ble_eq_true rfl) rfl (Nat.le_of_ble_eq_true rfl) ⟨Nat.zero_le _, Nat.zero_le _⟩ ?_
    exact ret _ _ _ _ ⟨rfl, _, rfl, by intro g h2 h5 h6; by_cases h0 : g = 0 <;> simp [tellX, upG, up3, up3R, up2, h0, h2, h5, h6]⟩ rfl dX6_kinds_16

set_option maxHeartbeats 4000000 in
set_option maxRecDepth 20000 in
theorem c_X6_kinds_bad_3 (l : Launch) (G : GB) (b : Nat → Nat) (y : Q3) (h : Int32) (hb : ¬ y 11 1 0 = 0) (hh : ¬ okH h) : CI l yX6_kinds cX6_kinds 6 .int 4 89 G [.ref (b 0), .int (nI 3), .int h] (wM G b y) (fun vR w' => vR = tellR 0 ∧ PubM G b (tellX y 0) w') := by
  refine CI.mk (own := RX6) (by decide) rfl (Nat.le_of_ble_eq_true rfl) ?_
  intro X E ret
  show J X G 6 0 0 (wM G b y) [(0, .ref (b 0)), (1, .int (nI 3)), (2, .int h)] 0 []
  refine J_aload_n E dX6_kinds_0 rfl 0 rfl ?_
  refine J_iload_n E dX6_kinds_1 rfl 1 rfl ?_
  refine J_iload_n E dX6_kinds_2 rfl 2 rfl ?_
  refine J_cVi0 E (As := [.int (nI 3), .int h]) (c_X6_lacksHouse_3_2 l G b y h hb hh ) cl_X6_200 yo_X6_lacksHouse dX6_kinds_3 rfl rfl rfl (Nat.le_of_ble_eq_true rfl) (Nat.le_of_ble_eq_true rfl) rfl (Nat.le_of_ble_eq_true rfl) ⟨Nat.zero_le _, Nat.zero_le _⟩ ?_
  refine J_istore_n E (lv' := [(3, .int 0), (0, .ref (b 0)), (1, .int (nI 3)), (2, .int h)]) dX6_kinds_6 rfl (by decide) rfl ?_
  refine J_iload_n E dX6_kinds_7 rfl 0 rfl ?_
  refine J_if_lt E (tgt := 17) dX6_kinds_8 (by decide) (fun c_8 => ?_) (fun c_8 => ?_)
  · skip
    have n_8 : 0 < 0 := cmp_lt (a := 0) (b := 0) (by omega) (by omega) c_8
    exact absurd n_8 (by decide)
  · skip
    have n_8 : ¬ 0 < 0 := cmp_nlt (a := 0) (b := 0) (by omega) (by omega) c_8
    refine J_aload_n E dX6_kinds_11 rfl 1 rfl ?_
    refine J_iload_n E dX6_kinds_12 rfl 0 rfl ?_
    refine J_cVi0 E (As := [.int 0]) (c_X6_finds l G b y 0 (by omega)) cl_X6_96 yo_X6_finds dX6_kinds_13 rfl rfl rfl (Nat.le_of_ble_eq_true rfl) (Nat.le_of_ble_eq_true rfl) rfl (Nat.le_of_ble_eq_true rfl) ⟨Nat.zero_le _, Nat.zero_le _⟩ ?_
    exact ret _ _ _ _ ⟨rfl, _, rfl, by intro g h2 h5 h6; by_cases h0 : g = 0 <;> simp [tellX, upG, up3, up3R, up2, h0, h2, h5, h6]⟩ rfl dX6_kinds_16

set_option maxHeartbeats 4000000 in
set_option maxRecDepth 20000 in
theorem c_X6_kinds_ok_3 (l : Launch) (G : GB) (b : Nat → Nat) (y : Q3) (j n : Nat) (hb : ¬ y 11 1 0 = 0) (hj : j < 11) (hn : y 11 1 1 = nI n) (hn2 : n ≤ 40) (hok : okQ (y 0))  : CI l yX6_kinds cX6_kinds 6 .int 5 116 G [.ref (b 0), .int (nI 3), .int (nI j)] (wM G b y) (fun vR w' => vR = setF (fun o => soF (y 11 0) j (up2 (y 0) 0 j (nI o)) n) 7 ∧ PubM G b y w') := by
  refine CI.mk (own := RX6) (by decide) rfl (Nat.le_of_ble_eq_true rfl) ?_
  intro X E ret
  show J X G 6 0 0 (wM G b y) [(0, .ref (b 0)), (1, .int (nI 3)), (2, .int (nI j))] 0 []
  refine J_aload_n E dX6_kinds_0 rfl 0 rfl ?_
  refine J_iload_n E dX6_kinds_1 rfl 1 rfl ?_
  refine J_iload_n E dX6_kinds_2 rfl 2 rfl ?_
  refine J_cVi0 E (As := [.int (nI 3), .int (nI j)]) (c_X6_lacksHouse_3_1 l G b y (nI j) hb (inB (a := j) (b := 10) (by omega) (by decide)) ) cl_X6_200 yo_X6_lacksHouse dX6_kinds_3 rfl rfl rfl (Nat.le_of_ble_eq_true rfl) (Nat.le_of_ble_eq_true rfl) rfl (Nat.le_of_ble_eq_true rfl) ⟨Nat.zero_le _, Nat.zero_le _⟩ ?_
  refine J_istore_n E (lv' := [(3, .int (-1)), (0, .ref (b 0)), (1, .int (nI 3)), (2, .int (nI j))]) dX6_kinds_6 rfl (by decide) rfl ?_
  refine J_iload_n E dX6_kinds_7 rfl 0 rfl ?_
  refine J_if_lt E (tgt := 17) dX6_kinds_8 (by decide) (fun c_8 => ?_) (fun c_8 => ?_)
  · skip
    refine J_iconst E dX6_kinds_17 ic_0 ?_
    refine J_istore E (lv' := [(4, .int 0), (3, .int (-1)), (0, .ref (b 0)), (1, .int (nI 3)), (2, .int (nI j))]) dX6_kinds_18 (by decide) rfl ?_
    refine J_iconst E dX6_kinds_20 ic_0 ?_
    refine J_istore E (lv' := [(5, .int 0), (4, .int 0), (3, .int (-1)), (0, .ref (b 0)), (1, .int (nI 3)), (2, .int (nI j))]) dX6_kinds_21 (by decide) rfl ?_
    refine J_w (ws' := wM G b (upG y 5 (y 5))) (congrArg (wM G b) upG_id.symm) ?_
    have lp23 : ∀ (fu : Nat) (o : Nat) (t : Int32) (d : Q2) (z : Q2), (o ≤ 7) → (t = setF (fun o => soF (y 11 0) j (up2 (y 0) 0 j (nI o)) n) o) → 7 - o < fu → J X G 6 0 0 (wM G b (upG (upG y 5 d) 2 z)) [(0, .ref (b 0)), (1, .int (nI 3)), (2, .int (nI j)), (4, .int t), (5, .int (nI o))] 23 [] := by
      intro fu
      induction fu with
      | zero => intro o t d z hi h1 hm; exact absurd hm (Nat.not_lt_zero _)
      | succ fu ih23 =>
        intro o t d z hi h1 hm
        refine J_iload E dX6_kinds_23 4 rfl ?_
        refine J_bipush E dX6_kinds_25 bp_6 ?_
        refine J_icmp_gt E (tgt := 74) dX6_kinds_27 (by decide) (fun c_27 => ?_) (fun c_27 => ?_)
        · skip
          have n_27 : 6 < o := cmp_lt (a := 6) (b := o) (by omega) (by omega) c_27
          refine J_iload E dX6_kinds_74 3 rfl ?_
          exact ret _ _ _ _ ⟨by rw [h1, show o = 7 by omega], _, rfl, by intro g h2 h5 h6; by_cases h0 : g = 0 <;> simp [tellX, upG, up3, up3R, up2, h0, h2, h5, h6]⟩ rfl dX6_kinds_76
        · skip
          have n_27 : ¬ 6 < o := cmp_nlt (a := 6) (b := o) (by omega) (by omega) c_27
          refine J_aload_n E dX6_kinds_30 rfl 0 rfl ?_
          refine J_cVv0 E (As := []) (c_X6_lends l G b (upG (upG y 5 d) 2 z) ) cl_X6_160 yo_X6_lends dX6_kinds_31 rfl rfl rfl (Nat.le_of_ble_eq_true rfl) (Nat.le_of_ble_eq_true rfl) rfl (Nat.le_of_ble_eq_true rfl) ⟨Nat.zero_le _, Nat.zero_le _⟩ ?_
          refine J_aload_n E dX6_kinds_34 rfl 0 rfl ?_
          refine J_iload_n E dX6_kinds_35 rfl 2 rfl ?_
          refine J_iconst E dX6_kinds_36 ic_0 ?_
          refine J_iload E dX6_kinds_37 4 rfl ?_
          refine J_cVv0 E (As := [.int (nI j), .int 0, .int (nI o)]) (c_X6_sets l G b (upG (upG (upG y 5 d) 2 z) 2 (y 0)) j 0 (nI o) (by omega) (by omega)) cl_X6_43 yo_X6_sets dX6_kinds_39 rfl rfl rfl (Nat.le_of_ble_eq_true rfl) (Nat.le_of_ble_eq_true rfl) rfl (Nat.le_of_ble_eq_true rfl) ⟨Nat.zero_le _, Nat.zero_le _⟩ ?_
          refine J_iload E dX6_kinds_42 3 rfl ?_
          refine J_aload_n E dX6_kinds_44 rfl 0 rfl ?_
          refine J_iload_n E dX6_kinds_45 rfl 1 rfl ?_
          refine J_iload_n E dX6_kinds_46 rfl 2 rfl ?_
          refine J_callEi E (As := [.int (nI 3), .int (nI j)]) (c_X6_isSo_3 l G b (upG (upG (upG (upG y 5 d) 2 z) 2 (y 0)) 0 (up2 (y 0) 0 j (nI o))) j n hj hn hn2 (okQ_k hok _ (by omega))) cl_X6_203 yo_X6_isSo dX6_kinds_47 rfl (Nat.le_of_ble_eq_true rfl) (Nat.le_of_ble_eq_true rfl) rfl (Nat.le_of_ble_eq_true rfl) ⟨Nat.zero_le _, Nat.zero_le _⟩ (fun d47_1 => ?_)
          refine J_w (ws' := wM G b (upG (upG (upG (upG (upG (upG y 5 d) 2 z) 2 (y 0)) 0 (up2 (y 0) 0 j (nI o))) 5 d47_1) 0 (hoursR (up2 (y 0) 0 j (nI o)) n))) (wM_c rfl rfl rfl rfl rfl rfl rfl rfl rfl rfl rfl) ?_
          refine J_top (x' := bI (soF (y 11 0) j (up2 (y 0) 0 j (nI o)) n = true)) rfl ?_
          refine J_if_eq E (tgt := 60) dX6_kinds_50 (by decide) (fun c_50 => ?_) (fun c_50 => ?_)
          · skip
            have c_50 := bI_0 c_50
            refine J_iconst E dX6_kinds_60 ic_0 ?_
            refine J_ior E dX6_kinds_61 ?_
            refine J_istore E (lv' := [(4, .int (t ||| 0)), (0, .ref (b 0)), (1, .int (nI 3)), (2, .int (nI j)), (5, .int (nI o))]) dX6_kinds_62 (by decide) rfl ?_
            refine J_aload_n E dX6_kinds_64 rfl 1 rfl ?_
            refine J_cVv0 E (As := []) (c_X6_laysBack l G b (upG (upG (upG (upG (upG (upG y 5 d) 2 z) 2 (y 0)) 0 (up2 (y 0) 0 j (nI o))) 5 d47_1) 0 (hoursR (up2 (y 0) 0 j (nI o)) n)) ) cl_X6_163 yo_X6_laysBack dX6_kinds_65 rfl rfl rfl (Nat.le_of_ble_eq_true rfl) (Nat.le_of_ble_eq_true rfl) rfl (Nat.le_of_ble_eq_true rfl) ⟨Nat.zero_le _, Nat.zero_le _⟩ ?_
            refine J_iinc E (lv' := [(5, .int (nI (o + 1))), (4, .int (t ||| 0)), (0, .ref (b 0)), (1, .int (nI 3)), (2, .int (nI j))]) dX6_kinds_68 4 rfl (nI_inc _) (by decide) rfl ?_
            refine J_goto E (tgt := 23) dX6_kinds_71 (by decide) ?_
            refine J_lv [2, 3, 4, 1, 0] rfl ?_
            refine J_w (ws' := wM G b (upG (upG y 5 d47_1) 2 (y 0))) (wM_c rfl rfl rfl rfl rfl rfl rfl rfl rfl rfl rfl) ?_
            exact ih23 (o + 1) (t ||| 0) d47_1 (y 0) (by omega) (by rw [h1, setF]; first | (rw [if_pos c_50]; rfl) | (rw [if_neg c_50, or_0])) (by omega)
          · skip
            have c_50 := bI_1 c_50
            refine J_iconst E dX6_kinds_53 ic_1 ?_
            refine J_iload E dX6_kinds_54 4 rfl ?_
            refine J_ishl E dX6_kinds_56 ?_
            refine J_goto E (tgt := 61) dX6_kinds_57 (by decide) ?_
            refine J_ior E dX6_kinds_61 ?_
            refine J_istore E (lv' := [(4, .int (t ||| (1 <<< ((nI o) &&& 31)))), (0, .ref (b 0)), (1, .int (nI 3)), (2, .int (nI j)), (5, .int (nI o))]) dX6_kinds_62 (by decide) rfl ?_
            refine J_aload_n E dX6_kinds_64 rfl 1 rfl ?_
            refine J_cVv0 E (As := []) (c_X6_laysBack l G b (upG (upG (upG (upG (upG (upG y 5 d) 2 z) 2 (y 0)) 0 (up2 (y 0) 0 j (nI o))) 5 d47_1) 0 (hoursR (up2 (y 0) 0 j (nI o)) n)) ) cl_X6_163 yo_X6_laysBack dX6_kinds_65 rfl rfl rfl (Nat.le_of_ble_eq_true rfl) (Nat.le_of_ble_eq_true rfl) rfl (Nat.le_of_ble_eq_true rfl) ⟨Nat.zero_le _, Nat.zero_le _⟩ ?_
            refine J_iinc E (lv' := [(5, .int (nI (o + 1))), (4, .int (t ||| (1 <<< ((nI o) &&& 31)))), (0, .ref (b 0)), (1, .int (nI 3)), (2, .int (nI j))]) dX6_kinds_68 4 rfl (nI_inc _) (by decide) rfl ?_
            refine J_goto E (tgt := 23) dX6_kinds_71 (by decide) ?_
            refine J_lv [2, 3, 4, 1, 0] rfl ?_
            refine J_w (ws' := wM G b (upG (upG y 5 d47_1) 2 (y 0))) (wM_c rfl rfl rfl rfl rfl rfl rfl rfl rfl rfl rfl) ?_
            exact ih23 (o + 1) (t ||| (1 <<< ((nI o) &&& 31))) d47_1 (y 0) (by omega) (by rw [h1, setF]; first | (rw [if_pos c_50]; rfl) | (rw [if_neg c_50, or_0])) (by omega)
    refine J_lv [3, 4, 5, 1, 0] rfl ?_
    refine J_w (ws' := wM G b (upG (upG y 5 (y 5)) 2 (y 2))) (wM_c rfl rfl rfl rfl rfl rfl rfl rfl rfl rfl rfl) ?_
    exact lp23 _ 0 0 (y 5) (y 2) (by omega) rfl (Nat.lt_succ_self _)
  · skip
    exact absurd c_8 (by decide)
