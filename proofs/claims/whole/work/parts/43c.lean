set_option maxHeartbeats 4000000 in
set_option maxRecDepth 20000 in
theorem c_X6_kindsFor_bad (l : Launch) (G : GB) (b : Nat → Nat) (y : Q3) (h n : Int32) (hb : ¬ (okH h ∧ 0 ≤ n ∧ n ≤ 40)) : CI l yX6_kindsFor cX6_kindsFor 5 .int 2 45 G [.ref (b 0), .int h, .int n] (wM G b y) (fun vR w' => vR = tellR 0 ∧ PubM G b (tellX y 0) w') := by
  refine CI.mk (own := RX6) (by decide) rfl (Nat.le_of_ble_eq_true rfl) ?_
  intro X E ret
  show J X G 5 0 0 (wM G b y) [(0, .ref (b 0)), (1, .int h), (2, .int n)] 0 []
  refine J_iload_n E dX6_kindsFor_0 rfl 1 rfl ?_
  refine J_cSiN E (As := [.int h]) (c_X6_isHouse l G h ) cl_X6_87 yo_X6_isHouse dX6_kindsFor_1 rfl (Nat.le_of_ble_eq_true rfl) (Nat.le_of_ble_eq_true rfl) rfl (Nat.le_of_ble_eq_true rfl) ⟨Nat.zero_le _, Nat.zero_le _⟩ ?_
  refine J_if_eq E (tgt := 14) dX6_kindsFor_4 (by decide) (fun c_4 => ?_) (fun c_4 => ?_)
  · skip
    have c_4 := bI_0 c_4
    refine J_aload_n E dX6_kindsFor_14 rfl 0 rfl ?_
    refine J_iconst E dX6_kindsFor_15 ic_0 ?_
    refine J_cVi0 E (As := [.int 0]) (c_X6_finds l G b y 0 (by omega)) cl_X6_96 yo_X6_finds dX6_kindsFor_16 rfl rfl rfl (Nat.le_of_ble_eq_true rfl) (Nat.le_of_ble_eq_true rfl) rfl (Nat.le_of_ble_eq_true rfl) ⟨Nat.zero_le _, Nat.zero_le _⟩ ?_
    exact ret _ _ _ _ ⟨rfl, _, rfl, by intro g h2 h5 h6; by_cases h0 : g = 0 <;> simp [tellX, upG, up3, up3R, up2, h0, h2, h5, h6]⟩ rfl dX6_kindsFor_19
  · skip
    have c_4 := bI_1 c_4
    refine J_iload_n E dX6_kindsFor_7 rfl 2 rfl ?_
    refine J_cSiN E (As := [.int n]) (c_X6_isSoon l G n ) cl_X6_176 yo_X6_isSoon dX6_kindsFor_8 rfl (Nat.le_of_ble_eq_true rfl) (Nat.le_of_ble_eq_true rfl) rfl (Nat.le_of_ble_eq_true rfl) ⟨Nat.zero_le _, Nat.zero_le _⟩ ?_
    refine J_if_ne E (tgt := 20) dX6_kindsFor_11 (by decide) (fun c_11 => ?_) (fun c_11 => ?_)
    · skip
      have c_11 := bI_1 c_11
      exact absurd ⟨c_4, c_11⟩ hb
    · skip
      have c_11 := bI_0 c_11
      refine J_aload_n E dX6_kindsFor_14 rfl 0 rfl ?_
      refine J_iconst E dX6_kindsFor_15 ic_0 ?_
      refine J_cVi0 E (As := [.int 0]) (c_X6_finds l G b y 0 (by omega)) cl_X6_96 yo_X6_finds dX6_kindsFor_16 rfl rfl rfl (Nat.le_of_ble_eq_true rfl) (Nat.le_of_ble_eq_true rfl) rfl (Nat.le_of_ble_eq_true rfl) ⟨Nat.zero_le _, Nat.zero_le _⟩ ?_
      exact ret _ _ _ _ ⟨rfl, _, rfl, by intro g h2 h5 h6; by_cases h0 : g = 0 <;> simp [tellX, upG, up3, up3R, up2, h0, h2, h5, h6]⟩ rfl dX6_kindsFor_19

set_option maxHeartbeats 4000000 in
set_option maxRecDepth 20000 in
theorem c_X6_kindsFor_ok (l : Launch) (G : GB) (b : Nat → Nat) (y : Q3) (j m : Nat) (hj : j < 11) (hm : m ≤ 40) (hok : okQ (y 0))  : CI l yX6_kindsFor cX6_kindsFor 5 .int 7 161 G [.ref (b 0), .int (nI j), .int (nI m)] (wM G b y) (fun vR w' => vR = setF (fun k => wetB (up2 (y 0) 0 j (nI k)) j m) 7 ∧ PubM G b y w') := by
  refine CI.mk (own := RX6) (by decide) rfl (Nat.le_of_ble_eq_true rfl) ?_
  intro X E ret
  show J X G 5 0 0 (wM G b y) [(0, .ref (b 0)), (1, .int (nI j)), (2, .int (nI m))] 0 []
  refine J_iload_n E dX6_kindsFor_0 rfl 1 rfl ?_
  refine J_cSiN E (As := [.int (nI j)]) (c_X6_isHouse l G (nI j) ) cl_X6_87 yo_X6_isHouse dX6_kindsFor_1 rfl (Nat.le_of_ble_eq_true rfl) (Nat.le_of_ble_eq_true rfl) rfl (Nat.le_of_ble_eq_true rfl) ⟨Nat.zero_le _, Nat.zero_le _⟩ ?_
  refine J_if_eq E (tgt := 14) dX6_kindsFor_4 (by decide) (fun c_4 => ?_) (fun c_4 => ?_)
  · skip
    have c_4 := bI_0 c_4
    exact absurd (inB (a := j) (b := 10) (by omega) (by decide)) c_4
  · skip
    have c_4 := bI_1 c_4
    refine J_iload_n E dX6_kindsFor_7 rfl 2 rfl ?_
    refine J_cSiN E (As := [.int (nI m)]) (c_X6_isSoon l G (nI m) ) cl_X6_176 yo_X6_isSoon dX6_kindsFor_8 rfl (Nat.le_of_ble_eq_true rfl) (Nat.le_of_ble_eq_true rfl) rfl (Nat.le_of_ble_eq_true rfl) ⟨Nat.zero_le _, Nat.zero_le _⟩ ?_
    refine J_if_ne E (tgt := 20) dX6_kindsFor_11 (by decide) (fun c_11 => ?_) (fun c_11 => ?_)
    · skip
      have c_11 := bI_1 c_11
      refine J_iconst E dX6_kindsFor_20 ic_0 ?_
      refine J_istore_n E (lv' := [(3, .int 0), (0, .ref (b 0)), (1, .int (nI j)), (2, .int (nI m))]) dX6_kindsFor_21 rfl (by decide) rfl ?_
      refine J_iconst E dX6_kindsFor_22 ic_0 ?_
      refine J_istore E (lv' := [(4, .int 0), (3, .int 0), (0, .ref (b 0)), (1, .int (nI j)), (2, .int (nI m))]) dX6_kindsFor_23 (by decide) rfl ?_
      refine J_w (ws' := wM G b (upG y 5 (y 5))) (congrArg (wM G b) upG_id.symm) ?_
      have lp25 : ∀ (fu : Nat) (i : Nat) (s : Int32) (d : Q2) (z : Q2), (i ≤ 7) → (s = setF (fun k => wetB (up2 (y 0) 0 j (nI k)) j m) i) → 7 - i < fu → J X G 5 0 0 (wM G b (upG (upG y 5 d) 2 z)) [(0, .ref (b 0)), (1, .int (nI j)), (2, .int (nI m)), (3, .int s), (4, .int (nI i))] 25 [] := by
        intro fu
        induction fu with
        | zero => intro i s d z hi h1 hm; exact absurd hm (Nat.not_lt_zero _)
        | succ fu ih25 =>
          intro i s d z hi h1 hm
          refine J_iload E dX6_kindsFor_25 4 rfl ?_
          refine J_bipush E dX6_kindsFor_27 bp_6 ?_
          refine J_icmp_gt E (tgt := 61) dX6_kindsFor_29 (by decide) (fun c_29 => ?_) (fun c_29 => ?_)
          · skip
            have n_29 : 6 < i := cmp_lt (a := 6) (b := i) (by omega) (by omega) c_29
            refine J_iload_n E dX6_kindsFor_61 rfl 3 rfl ?_
            exact ret _ _ _ _ ⟨by rw [h1, show i = 7 by omega], _, rfl, by intro g h2 h5 h6; by_cases h0 : g = 0 <;> simp [tellX, upG, up3, up3R, up2, h0, h2, h5, h6]⟩ rfl dX6_kindsFor_62
          · skip
            have n_29 : ¬ 6 < i := cmp_nlt (a := 6) (b := i) (by omega) (by omega) c_29
            refine J_iload_n E dX6_kindsFor_32 rfl 3 rfl ?_
            refine J_aload_n E dX6_kindsFor_33 rfl 0 rfl ?_
            refine J_iload_n E dX6_kindsFor_34 rfl 1 rfl ?_
            refine J_iload_n E dX6_kindsFor_35 rfl 2 rfl ?_
            refine J_iconst E dX6_kindsFor_36 ic_0 ?_
            refine J_iload E dX6_kindsFor_37 4 rfl ?_
            refine J_callEi E (As := [.int (nI j), .int (nI m), .int 0, .int (nI i)]) (c_X6_isWetBy l G b (upG (upG y 5 d) 2 z) j m 0 (nI i) (by omega) (by omega) (by decide) (okQ_k hok _ (by omega))) cl_X6_182 yo_X6_isWetBy dX6_kindsFor_39 rfl (Nat.le_of_ble_eq_true rfl) (Nat.le_of_ble_eq_true rfl) rfl (Nat.le_of_ble_eq_true rfl) ⟨Nat.zero_le _, Nat.zero_le _⟩ (fun d39_1 => ?_)
            refine J_w (ws' := wM G b (upG (upG (upG (upG (upG y 5 d) 2 z) 2 (y 0)) 5 d39_1) 0 (y 0))) (wM_c rfl rfl rfl rfl rfl rfl rfl rfl rfl rfl rfl) ?_
            refine J_top (x' := bI (wetB (up2 (y 0) 0 j (nI i)) j m = true)) rfl ?_
            refine J_if_eq E (tgt := 52) dX6_kindsFor_42 (by decide) (fun c_42 => ?_) (fun c_42 => ?_)
            · skip
              have c_42 := bI_0 c_42
              refine J_iconst E dX6_kindsFor_52 ic_0 ?_
              refine J_ior E dX6_kindsFor_53 ?_
              refine J_istore_n E (lv' := [(3, .int (s ||| 0)), (0, .ref (b 0)), (1, .int (nI j)), (2, .int (nI m)), (4, .int (nI i))]) dX6_kindsFor_54 rfl (by decide) rfl ?_
              refine J_iinc E (lv' := [(4, .int (nI (i + 1))), (3, .int (s ||| 0)), (0, .ref (b 0)), (1, .int (nI j)), (2, .int (nI m))]) dX6_kindsFor_55 4 rfl (nI_inc _) (by decide) rfl ?_
              refine J_goto E (tgt := 25) dX6_kindsFor_58 (by decide) ?_
              refine J_lv [2, 3, 4, 1, 0] rfl ?_
              refine J_w (ws' := wM G b (upG (upG y 5 d39_1) 2 (y 0))) (wM_c rfl rfl rfl rfl rfl rfl rfl rfl rfl rfl rfl) ?_
              exact ih25 (i + 1) (s ||| 0) d39_1 (y 0) (by omega) (by rw [h1, setF]; first | (rw [if_pos c_42]; rfl) | (rw [if_neg c_42, or_0])) (by omega)
            · skip
              have c_42 := bI_1 c_42
              refine J_iconst E dX6_kindsFor_45 ic_1 ?_
              refine J_iload E dX6_kindsFor_46 4 rfl ?_
              refine J_ishl E dX6_kindsFor_48 ?_
              refine J_goto E (tgt := 53) dX6_kindsFor_49 (by decide) ?_
              refine J_ior E dX6_kindsFor_53 ?_
              refine J_istore_n E (lv' := [(3, .int (s ||| (1 <<< ((nI i) &&& 31)))), (0, .ref (b 0)), (1, .int (nI j)), (2, .int (nI m)), (4, .int (nI i))]) dX6_kindsFor_54 rfl (by decide) rfl ?_
              refine J_iinc E (lv' := [(4, .int (nI (i + 1))), (3, .int (s ||| (1 <<< ((nI i) &&& 31)))), (0, .ref (b 0)), (1, .int (nI j)), (2, .int (nI m))]) dX6_kindsFor_55 4 rfl (nI_inc _) (by decide) rfl ?_
              refine J_goto E (tgt := 25) dX6_kindsFor_58 (by decide) ?_
              refine J_lv [2, 3, 4, 1, 0] rfl ?_
              refine J_w (ws' := wM G b (upG (upG y 5 d39_1) 2 (y 0))) (wM_c rfl rfl rfl rfl rfl rfl rfl rfl rfl rfl rfl) ?_
              exact ih25 (i + 1) (s ||| (1 <<< ((nI i) &&& 31))) d39_1 (y 0) (by omega) (by rw [h1, setF]; first | (rw [if_pos c_42]; rfl) | (rw [if_neg c_42, or_0])) (by omega)
      refine J_lv [2, 3, 4, 1, 0] rfl ?_
      refine J_w (ws' := wM G b (upG (upG y 5 (y 5)) 2 (y 2))) (wM_c rfl rfl rfl rfl rfl rfl rfl rfl rfl rfl rfl) ?_
      exact lp25 _ 0 0 (y 5) (y 2) (by omega) rfl (Nat.lt_succ_self _)
    · skip
      have c_11 := bI_0 c_11
      exact absurd (inB (a := m) (b := 40) (by omega) (by decide)) c_11

set_option maxHeartbeats 4000000 in
set_option maxRecDepth 20000 in
theorem c_X6_kindFor_bad (l : Launch) (G : GB) (b : Nat → Nat) (y : Q3) (h n : Int32) (hb : ¬ (okH h ∧ 0 ≤ n ∧ n ≤ 40)) : CI l yX6_kindFor cX6_kindFor 7 .int 2 45 G [.ref (b 0), .int h, .int n] (wM G b y) (fun vR w' => vR = tellR 0 ∧ PubM G b (tellX y 0) w') := by
  refine CI.mk (own := RX6) (by decide) rfl (Nat.le_of_ble_eq_true rfl) ?_
  intro X E ret
  show J X G 7 0 0 (wM G b y) [(0, .ref (b 0)), (1, .int h), (2, .int n)] 0 []
  refine J_iload_n E dX6_kindFor_0 rfl 1 rfl ?_
  refine J_cSiN E (As := [.int h]) (c_X6_isHouse l G h ) cl_X6_87 yo_X6_isHouse dX6_kindFor_1 rfl (Nat.le_of_ble_eq_true rfl) (Nat.le_of_ble_eq_true rfl) rfl (Nat.le_of_ble_eq_true rfl) ⟨Nat.zero_le _, Nat.zero_le _⟩ ?_
  refine J_if_eq E (tgt := 14) dX6_kindFor_4 (by decide) (fun c_4 => ?_) (fun c_4 => ?_)
  · skip
    have c_4 := bI_0 c_4
    refine J_aload_n E dX6_kindFor_14 rfl 0 rfl ?_
    refine J_iconst E dX6_kindFor_15 ic_0 ?_
    refine J_cVi0 E (As := [.int 0]) (c_X6_finds l G b y 0 (by omega)) cl_X6_96 yo_X6_finds dX6_kindFor_16 rfl rfl rfl (Nat.le_of_ble_eq_true rfl) (Nat.le_of_ble_eq_true rfl) rfl (Nat.le_of_ble_eq_true rfl) ⟨Nat.zero_le _, Nat.zero_le _⟩ ?_
    exact ret _ _ _ _ ⟨rfl, _, rfl, by intro g h2 h5 h6; by_cases h0 : g = 0 <;> simp [tellX, upG, up3, up3R, up2, h0, h2, h5, h6]⟩ rfl dX6_kindFor_19
  · skip
    have c_4 := bI_1 c_4
    refine J_iload_n E dX6_kindFor_7 rfl 2 rfl ?_
    refine J_cSiN E (As := [.int n]) (c_X6_isSoon l G n ) cl_X6_176 yo_X6_isSoon dX6_kindFor_8 rfl (Nat.le_of_ble_eq_true rfl) (Nat.le_of_ble_eq_true rfl) rfl (Nat.le_of_ble_eq_true rfl) ⟨Nat.zero_le _, Nat.zero_le _⟩ ?_
    refine J_if_ne E (tgt := 20) dX6_kindFor_11 (by decide) (fun c_11 => ?_) (fun c_11 => ?_)
    · skip
      have c_11 := bI_1 c_11
      exact absurd ⟨c_4, c_11⟩ hb
    · skip
      have c_11 := bI_0 c_11
      refine J_aload_n E dX6_kindFor_14 rfl 0 rfl ?_
      refine J_iconst E dX6_kindFor_15 ic_0 ?_
      refine J_cVi0 E (As := [.int 0]) (c_X6_finds l G b y 0 (by omega)) cl_X6_96 yo_X6_finds dX6_kindFor_16 rfl rfl rfl (Nat.le_of_ble_eq_true rfl) (Nat.le_of_ble_eq_true rfl) rfl (Nat.le_of_ble_eq_true rfl) ⟨Nat.zero_le _, Nat.zero_le _⟩ ?_
      exact ret _ _ _ _ ⟨rfl, _, rfl, by intro g h2 h5 h6; by_cases h0 : g = 0 <;> simp [tellX, upG, up3, up3R, up2, h0, h2, h5, h6]⟩ rfl dX6_kindFor_19

set_option maxHeartbeats 4000000 in
set_option maxRecDepth 20000 in
theorem c_X6_kindFor_ok (l : Launch) (G : GB) (b : Nat → Nat) (y : Q3) (j m : Nat) (hj : j < 11) (hm : m ≤ 40) (hok : okQ (y 0))  : CI l yX6_kindFor cX6_kindFor 7 .int 6 135 G [.ref (b 0), .int (nI j), .int (nI m)] (wM G b y) (fun vR w' => vR = nI (argF (fun k => hoursR (up2 (y 0) 0 j (nI k)) m 7 3) 7).2 ∧ PubM G b y w') := by
  refine CI.mk (own := RX6) (by decide) rfl (Nat.le_of_ble_eq_true rfl) ?_
  intro X E ret
  show J X G 7 0 0 (wM G b y) [(0, .ref (b 0)), (1, .int (nI j)), (2, .int (nI m))] 0 []
  refine J_iload_n E dX6_kindFor_0 rfl 1 rfl ?_
  refine J_cSiN E (As := [.int (nI j)]) (c_X6_isHouse l G (nI j) ) cl_X6_87 yo_X6_isHouse dX6_kindFor_1 rfl (Nat.le_of_ble_eq_true rfl) (Nat.le_of_ble_eq_true rfl) rfl (Nat.le_of_ble_eq_true rfl) ⟨Nat.zero_le _, Nat.zero_le _⟩ ?_
  refine J_if_eq E (tgt := 14) dX6_kindFor_4 (by decide) (fun c_4 => ?_) (fun c_4 => ?_)
  · skip
    have c_4 := bI_0 c_4
    exact absurd (inB (a := j) (b := 10) (by omega) (by decide)) c_4
  · skip
    have c_4 := bI_1 c_4
    refine J_iload_n E dX6_kindFor_7 rfl 2 rfl ?_
    refine J_cSiN E (As := [.int (nI m)]) (c_X6_isSoon l G (nI m) ) cl_X6_176 yo_X6_isSoon dX6_kindFor_8 rfl (Nat.le_of_ble_eq_true rfl) (Nat.le_of_ble_eq_true rfl) rfl (Nat.le_of_ble_eq_true rfl) ⟨Nat.zero_le _, Nat.zero_le _⟩ ?_
    refine J_if_ne E (tgt := 20) dX6_kindFor_11 (by decide) (fun c_11 => ?_) (fun c_11 => ?_)
    · skip
      have c_11 := bI_1 c_11
      refine J_iconst E dX6_kindFor_20 ic_0 ?_
      refine J_istore_n E (lv' := [(3, .int 0), (0, .ref (b 0)), (1, .int (nI j)), (2, .int (nI m))]) dX6_kindFor_21 rfl (by decide) rfl ?_
      refine J_iconst E dX6_kindFor_22 ic_m1 ?_
      refine J_istore E (lv' := [(4, .int (-1)), (3, .int 0), (0, .ref (b 0)), (1, .int (nI j)), (2, .int (nI m))]) dX6_kindFor_23 (by decide) rfl ?_
      refine J_iconst E dX6_kindFor_25 ic_0 ?_
      refine J_istore E (lv' := [(5, .int 0), (4, .int (-1)), (3, .int 0), (0, .ref (b 0)), (1, .int (nI j)), (2, .int (nI m))]) dX6_kindFor_26 (by decide) rfl ?_
      refine J_w (ws' := wM G b (upG y 5 (y 5))) (congrArg (wM G b) upG_id.symm) ?_
      have lp28 : ∀ (fu : Nat) (i : Nat) (bs : Int32) (mo : Int32) (d : Q2) (z : Q2), (i ≤ 7) → (bs = nI (argF (fun k => hoursR (up2 (y 0) 0 j (nI k)) m 7 3) i).2) → (mo = (argF (fun k => hoursR (up2 (y 0) 0 j (nI k)) m 7 3) i).1) → 7 - i < fu → J X G 7 0 0 (wM G b (upG (upG y 5 d) 2 z)) [(0, .ref (b 0)), (1, .int (nI j)), (2, .int (nI m)), (3, .int bs), (4, .int mo), (5, .int (nI i))] 28 [] := by
        intro fu
        induction fu with
        | zero => intro i bs mo d z hi hb hm2 hm; exact absurd hm (Nat.not_lt_zero _)
        | succ fu ih28 =>
          intro i bs mo d z hi hb hm2 hm
          refine J_iload E dX6_kindFor_28 5 rfl ?_
          refine J_bipush E dX6_kindFor_30 bp_6 ?_
          refine J_icmp_gt E (tgt := 83) dX6_kindFor_32 (by decide) (fun c_32 => ?_) (fun c_32 => ?_)
          · skip
            have n_32 : 6 < i := cmp_lt (a := 6) (b := i) (by omega) (by omega) c_32
            refine J_iload_n E dX6_kindFor_83 rfl 3 rfl ?_
            exact ret _ _ _ _ ⟨by rw [hb, show i = 7 by omega], _, rfl, by intro g h2 h5 h6; by_cases h0 : g = 0 <;> simp [tellX, upG, up3, up3R, up2, h0, h2, h5, h6]⟩ rfl dX6_kindFor_84
          · skip
            have n_32 : ¬ 6 < i := cmp_nlt (a := 6) (b := i) (by omega) (by omega) c_32
            refine J_aload_n E dX6_kindFor_35 rfl 0 rfl ?_
            refine J_cVv0 E (As := []) (c_X6_lends l G b (upG (upG y 5 d) 2 z) ) cl_X6_160 yo_X6_lends dX6_kindFor_36 rfl rfl rfl (Nat.le_of_ble_eq_true rfl) (Nat.le_of_ble_eq_true rfl) rfl (Nat.le_of_ble_eq_true rfl) ⟨Nat.zero_le _, Nat.zero_le _⟩ ?_
            refine J_aload_n E dX6_kindFor_39 rfl 0 rfl ?_
            refine J_iload_n E dX6_kindFor_40 rfl 1 rfl ?_
            refine J_iconst E dX6_kindFor_41 ic_0 ?_
            refine J_iload E dX6_kindFor_42 5 rfl ?_
            refine J_cVv0 E (As := [.int (nI j), .int 0, .int (nI i)]) (c_X6_sets l G b (upG (upG (upG y 5 d) 2 z) 2 (y 0)) j 0 (nI i) (by omega) (by omega)) cl_X6_43 yo_X6_sets dX6_kindFor_44 rfl rfl rfl (Nat.le_of_ble_eq_true rfl) (Nat.le_of_ble_eq_true rfl) rfl (Nat.le_of_ble_eq_true rfl) ⟨Nat.zero_le _, Nat.zero_le _⟩ ?_
            refine J_aload_n E dX6_kindFor_47 rfl 0 rfl ?_
            refine J_iload_n E dX6_kindFor_48 rfl 2 rfl ?_
            refine J_callEi E (As := [.int (nI m)]) (c_X6_alleyIn l G b (upG (upG (upG (upG y 5 d) 2 z) 2 (y 0)) 0 (up2 (y 0) 0 j (nI i))) m (by omega) (okQ_k hok _ (by omega))) cl_X6_166 yo_X6_alleyIn dX6_kindFor_49 rfl (Nat.le_of_ble_eq_true rfl) (Nat.le_of_ble_eq_true rfl) rfl (Nat.le_of_ble_eq_true rfl) ⟨Nat.zero_le _, Nat.zero_le _⟩ (fun d49_1 => ?_)
            refine J_w (ws' := wM G b (upG (upG (upG (upG (upG (upG y 5 d) 2 z) 2 (y 0)) 0 (up2 (y 0) 0 j (nI i))) 5 d49_1) 0 (y 0))) (wM_c rfl rfl rfl rfl rfl rfl rfl rfl rfl rfl rfl) ?_
            refine J_top (x' := hoursR (up2 (y 0) 0 j (nI i)) m 7 3) rfl ?_
            refine J_istore E (lv' := [(6, .int (hoursR (up2 (y 0) 0 j (nI i)) m 7 3)), (0, .ref (b 0)), (1, .int (nI j)), (2, .int (nI m)), (3, .int bs), (4, .int mo), (5, .int (nI i))]) dX6_kindFor_52 (by decide) rfl ?_
            refine J_iload E dX6_kindFor_54 0 rfl ?_
            refine J_iload E dX6_kindFor_56 5 rfl ?_
            refine J_icmp_le E (tgt := 66) dX6_kindFor_58 (by decide) (fun c_58 => ?_) (fun c_58 => ?_)
            · skip
              refine J_iload_n E dX6_kindFor_66 rfl 4 rfl ?_
              refine J_istore_n E (lv' := [(3, .int bs), (6, .int (hoursR (up2 (y 0) 0 j (nI i)) m 7 3)), (0, .ref (b 0)), (1, .int (nI j)), (2, .int (nI m)), (4, .int mo), (5, .int (nI i))]) dX6_kindFor_67 rfl (by decide) rfl ?_
              refine J_iload E dX6_kindFor_68 5 rfl ?_
              refine J_iload E dX6_kindFor_70 1 rfl ?_
              refine J_mmax E ml_X6_68 st_mmax ini_J9 co_mmax dX6_kindFor_72 (by decide) (Nat.le_of_ble_eq_true rfl) ⟨Nat.zero_le _, Nat.zero_le _⟩ ?_
              refine J_istore E (lv' := [(4, .int (mx mo (hoursR (up2 (y 0) 0 j (nI i)) m 7 3))), (3, .int bs), (6, .int (hoursR (up2 (y 0) 0 j (nI i)) m 7 3)), (0, .ref (b 0)), (1, .int (nI j)), (2, .int (nI m)), (5, .int (nI i))]) dX6_kindFor_75 (by decide) rfl ?_
              refine J_iinc E (lv' := [(5, .int (nI (i + 1))), (4, .int (mx mo (hoursR (up2 (y 0) 0 j (nI i)) m 7 3))), (3, .int bs), (6, .int (hoursR (up2 (y 0) 0 j (nI i)) m 7 3)), (0, .ref (b 0)), (1, .int (nI j)), (2, .int (nI m))]) dX6_kindFor_77 6 rfl (nI_inc _) (by decide) rfl ?_
              refine J_goto E (tgt := 28) dX6_kindFor_80 (by decide) ?_
              refine J_lv [4, 5, 6, 2, 1, 0] rfl ?_
              refine J_w (ws' := wM G b (upG (upG y 5 d49_1) 2 (y 0))) (wM_c rfl rfl rfl rfl rfl rfl rfl rfl rfl rfl rfl) ?_
              exact ih28 (i + 1) bs (mx mo (hoursR (up2 (y 0) 0 j (nI i)) m 7 3)) d49_1 (y 0) (by omega) (by rw [hb]; exact argF_k hm2 c_58) (argF_mx hm2) (by omega)
            · skip
              refine J_iload E dX6_kindFor_61 6 rfl ?_
              refine J_goto E (tgt := 67) dX6_kindFor_63 (by decide) ?_
              refine J_istore_n E (lv' := [(3, .int (nI i)), (6, .int (hoursR (up2 (y 0) 0 j (nI i)) m 7 3)), (0, .ref (b 0)), (1, .int (nI j)), (2, .int (nI m)), (4, .int mo), (5, .int (nI i))]) dX6_kindFor_67 rfl (by decide) rfl ?_
              refine J_iload E dX6_kindFor_68 5 rfl ?_
              refine J_iload E dX6_kindFor_70 1 rfl ?_
              refine J_mmax E ml_X6_68 st_mmax ini_J9 co_mmax dX6_kindFor_72 (by decide) (Nat.le_of_ble_eq_true rfl) ⟨Nat.zero_le _, Nat.zero_le _⟩ ?_
              refine J_istore E (lv' := [(4, .int (mx mo (hoursR (up2 (y 0) 0 j (nI i)) m 7 3))), (3, .int (nI i)), (6, .int (hoursR (up2 (y 0) 0 j (nI i)) m 7 3)), (0, .ref (b 0)), (1, .int (nI j)), (2, .int (nI m)), (5, .int (nI i))]) dX6_kindFor_75 (by decide) rfl ?_
              refine J_iinc E (lv' := [(5, .int (nI (i + 1))), (4, .int (mx mo (hoursR (up2 (y 0) 0 j (nI i)) m 7 3))), (3, .int (nI i)), (6, .int (hoursR (up2 (y 0) 0 j (nI i)) m 7 3)), (0, .ref (b 0)), (1, .int (nI j)), (2, .int (nI m))]) dX6_kindFor_77 6 rfl (nI_inc _) (by decide) rfl ?_
              refine J_goto E (tgt := 28) dX6_kindFor_80 (by decide) ?_
              refine J_lv [4, 5, 6, 2, 1, 0] rfl ?_
              refine J_w (ws' := wM G b (upG (upG y 5 d49_1) 2 (y 0))) (wM_c rfl rfl rfl rfl rfl rfl rfl rfl rfl rfl rfl) ?_
              exact ih28 (i + 1) (nI i) (mx mo (hoursR (up2 (y 0) 0 j (nI i)) m 7 3)) d49_1 (y 0) (by omega) (argF_b hm2 c_58) (argF_mx hm2) (by omega)
      refine J_lv [3, 4, 5, 2, 1, 0] rfl ?_
      refine J_w (ws' := wM G b (upG (upG y 5 (y 5)) 2 (y 2))) (wM_c rfl rfl rfl rfl rfl rfl rfl rfl rfl rfl rfl) ?_
      exact lp28 _ 0 0 (-1) (y 5) (y 2) (by omega) rfl rfl (Nat.lt_succ_self _)
    · skip
      have c_11 := bI_0 c_11
      exact absurd (inB (a := m) (b := 40) (by omega) (by decide)) c_11
