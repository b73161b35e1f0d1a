set_option maxHeartbeats 4000000 in
set_option maxRecDepth 20000 in
theorem c_X6_holdsFor_bad (l : Launch) (G : GB) (b : Nat → Nat) (y : Q3) (h n : Int32) (hb : ¬ (okH h ∧ 0 ≤ n ∧ n ≤ 40)) : CI l yX6_holdsFor cX6_holdsFor 4 .int 2 45 G [.ref (b 0), .int h, .int n] (wM G b y) (fun vR w' => vR = tellR 0 ∧ PubM G b (tellX y 0) w') := by
  refine CI.mk (own := RX6) (by decide) rfl (Nat.le_of_ble_eq_true rfl) ?_
  intro X E ret
  show J X G 4 0 0 (wM G b y) [(0, .ref (b 0)), (1, .int h), (2, .int n)] 0 []
  refine J_iload_n E dX6_holdsFor_0 rfl 1 rfl ?_
  refine J_cSiN E (As := [.int h]) (c_X6_isHouse l G h ) cl_X6_87 yo_X6_isHouse dX6_holdsFor_1 rfl (Nat.le_of_ble_eq_true rfl) (Nat.le_of_ble_eq_true rfl) rfl (Nat.le_of_ble_eq_true rfl) ⟨Nat.zero_le _, Nat.zero_le _⟩ ?_
  refine J_if_eq E (tgt := 14) dX6_holdsFor_4 (by decide) (fun c_4 => ?_) (fun c_4 => ?_)
  · skip
    have c_4 := bI_0 c_4
    refine J_aload_n E dX6_holdsFor_14 rfl 0 rfl ?_
    refine J_iconst E dX6_holdsFor_15 ic_0 ?_
    refine J_cVi0 E (As := [.int 0]) (c_X6_finds l G b y 0 (by omega)) cl_X6_96 yo_X6_finds dX6_holdsFor_16 rfl rfl rfl (Nat.le_of_ble_eq_true rfl) (Nat.le_of_ble_eq_true rfl) rfl (Nat.le_of_ble_eq_true rfl) ⟨Nat.zero_le _, Nat.zero_le _⟩ ?_
    exact ret _ _ _ _ ⟨rfl, _, rfl, by intro g h2 h5 h6; by_cases h0 : g = 0 <;> simp [tellX, upG, up3, up3R, up2, h0, h2, h5, h6]⟩ rfl dX6_holdsFor_19
  · skip
    have c_4 := bI_1 c_4
    refine J_iload_n E dX6_holdsFor_7 rfl 2 rfl ?_
    refine J_cSiN E (As := [.int n]) (c_X6_isSoon l G n ) cl_X6_176 yo_X6_isSoon dX6_holdsFor_8 rfl (Nat.le_of_ble_eq_true rfl) (Nat.le_of_ble_eq_true rfl) rfl (Nat.le_of_ble_eq_true rfl) ⟨Nat.zero_le _, Nat.zero_le _⟩ ?_
    refine J_if_ne E (tgt := 20) dX6_holdsFor_11 (by decide) (fun c_11 => ?_) (fun c_11 => ?_)
    · skip
      have c_11 := bI_1 c_11
      exact absurd ⟨c_4, c_11⟩ hb
    · skip
      have c_11 := bI_0 c_11
      refine J_aload_n E dX6_holdsFor_14 rfl 0 rfl ?_
      refine J_iconst E dX6_holdsFor_15 ic_0 ?_
      refine J_cVi0 E (As := [.int 0]) (c_X6_finds l G b y 0 (by omega)) cl_X6_96 yo_X6_finds dX6_holdsFor_16 rfl rfl rfl (Nat.le_of_ble_eq_true rfl) (Nat.le_of_ble_eq_true rfl) rfl (Nat.le_of_ble_eq_true rfl) ⟨Nat.zero_le _, Nat.zero_le _⟩ ?_
      exact ret _ _ _ _ ⟨rfl, _, rfl, by intro g h2 h5 h6; by_cases h0 : g = 0 <;> simp [tellX, upG, up3, up3R, up2, h0, h2, h5, h6]⟩ rfl dX6_holdsFor_19

set_option maxHeartbeats 4000000 in
set_option maxRecDepth 20000 in
theorem c_X6_holdsFor_ok (l : Launch) (G : GB) (b : Nat → Nat) (y : Q3) (j m : Nat) (hj : j < 11) (hm : m ≤ 40) (hok : okQ (y 0))  : CI l yX6_holdsFor cX6_holdsFor 4 .int 7 161 G [.ref (b 0), .int (nI j), .int (nI m)] (wM G b y) (fun vR w' => vR = optR (upF (fun v => wetB (up2 (y 0) 3 j (nI v)) j m) 201 0) ∧ PubM G b (optX y (upF (fun v => wetB (up2 (y 0) 3 j (nI v)) j m) 201 0)) w') := by
  refine CI.mk (own := RX6) (by decide) rfl (Nat.le_of_ble_eq_true rfl) ?_
  intro X E ret
  show J X G 4 0 0 (wM G b y) [(0, .ref (b 0)), (1, .int (nI j)), (2, .int (nI m))] 0 []
  refine J_iload_n E dX6_holdsFor_0 rfl 1 rfl ?_
  refine J_cSiN E (As := [.int (nI j)]) (c_X6_isHouse l G (nI j) ) cl_X6_87 yo_X6_isHouse dX6_holdsFor_1 rfl (Nat.le_of_ble_eq_true rfl) (Nat.le_of_ble_eq_true rfl) rfl (Nat.le_of_ble_eq_true rfl) ⟨Nat.zero_le _, Nat.zero_le _⟩ ?_
  refine J_if_eq E (tgt := 14) dX6_holdsFor_4 (by decide) (fun c_4 => ?_) (fun c_4 => ?_)
  · skip
    have c_4 := bI_0 c_4
    exact absurd (inB (a := j) (b := 10) (by omega) (by decide)) c_4
  · skip
    have c_4 := bI_1 c_4
    refine J_iload_n E dX6_holdsFor_7 rfl 2 rfl ?_
    refine J_cSiN E (As := [.int (nI m)]) (c_X6_isSoon l G (nI m) ) cl_X6_176 yo_X6_isSoon dX6_holdsFor_8 rfl (Nat.le_of_ble_eq_true rfl) (Nat.le_of_ble_eq_true rfl) rfl (Nat.le_of_ble_eq_true rfl) ⟨Nat.zero_le _, Nat.zero_le _⟩ ?_
    refine J_if_ne E (tgt := 20) dX6_holdsFor_11 (by decide) (fun c_11 => ?_) (fun c_11 => ?_)
    · skip
      have c_11 := bI_1 c_11
      refine J_iconst E dX6_holdsFor_20 ic_0 ?_
      refine J_istore_n E (lv' := [(3, .int 0), (0, .ref (b 0)), (1, .int (nI j)), (2, .int (nI m))]) dX6_holdsFor_21 rfl (by decide) rfl ?_
      refine J_w (ws' := wM G b (upG y 5 (y 5))) (congrArg (wM G b) upG_id.symm) ?_
      have lp22 : ∀ (fu : Nat) (i : Nat) (d : Q2) (z : Q2), (i ≤ 201) → (upF (fun v => wetB (up2 (y 0) 3 j (nI v)) j m) 201 0 = upF (fun v => wetB (up2 (y 0) 3 j (nI v)) j m) (201 - i) i) → 201 - i < fu → J X G 4 0 0 (wM G b (upG (upG y 5 d) 2 z)) [(0, .ref (b 0)), (1, .int (nI j)), (2, .int (nI m)), (3, .int (nI i))] 22 [] := by
        intro fu
        induction fu with
        | zero => intro i d z hi h1 hm; exact absurd hm (Nat.not_lt_zero _)
        | succ fu ih22 =>
          intro i d z hi h1 hm
          refine J_iload_n E dX6_holdsFor_22 rfl 3 rfl ?_
          refine J_sipush E dX6_holdsFor_23 sp_200 ?_
          refine J_icmp_gt E (tgt := 46) dX6_holdsFor_26 (by decide) (fun c_26 => ?_) (fun c_26 => ?_)
          · skip
            have n_26 : 200 < i := cmp_lt (a := 200) (b := i) (by omega) (by omega) c_26
            have h2 : upF (fun v => wetB (up2 (y 0) 3 j (nI v)) j m) 201 0 = none := by rw [h1, show 201 - i = 0 by omega]; rfl
            refine J_iload_n E dX6_holdsFor_46 rfl 3 rfl ?_
            refine J_sipush E dX6_holdsFor_47 sp_200 ?_
            refine J_icmp_gt E (tgt := 57) dX6_holdsFor_50 (by decide) (fun c_50 => ?_) (fun c_50 => ?_)
            · skip
              have n_50 : 200 < i := cmp_lt (a := 200) (b := i) (by omega) (by omega) c_50
              refine J_aload_n E dX6_holdsFor_57 rfl 0 rfl ?_
              refine J_iconst E dX6_holdsFor_58 ic_3 ?_
              refine J_cVi0 E (As := [.int 3]) (c_X6_finds l G b (upG (upG y 5 d) 2 z) 3 (by omega)) cl_X6_96 yo_X6_finds dX6_holdsFor_59 rfl rfl rfl (Nat.le_of_ble_eq_true rfl) (Nat.le_of_ble_eq_true rfl) rfl (Nat.le_of_ble_eq_true rfl) ⟨Nat.zero_le _, Nat.zero_le _⟩ ?_
              refine J_top (x' := tellR 3) rfl ?_
              exact ret _ _ _ _ ⟨by first | (rw [h2]; rfl) | (exfalso; omega), _, rfl, by first | (rw [h2]; intro g h2 h5 h6; by_cases h0 : g = 0 <;> simp [optX, tellX, upG, up3, h0, h2, h5, h6]; done) | (exfalso; omega)⟩ rfl dX6_holdsFor_62
            · skip
              have n_50 : ¬ 200 < i := cmp_nlt (a := 200) (b := i) (by omega) (by omega) c_50
              refine J_iload_n E dX6_holdsFor_53 rfl 3 rfl ?_
              refine J_goto E (tgt := 62) dX6_holdsFor_54 (by decide) ?_
              exact ret _ _ _ _ ⟨by first | (rw [h2]; rfl) | (exfalso; omega), _, rfl, by first | (rw [h2]; intro g h2 h5 h6; by_cases h0 : g = 0 <;> simp [optX, tellX, upG, up3, h0, h2, h5, h6]; done) | (exfalso; omega)⟩ rfl dX6_holdsFor_62
          · skip
            have n_26 : ¬ 200 < i := cmp_nlt (a := 200) (b := i) (by omega) (by omega) c_26
            refine J_aload_n E dX6_holdsFor_29 rfl 0 rfl ?_
            refine J_iload_n E dX6_holdsFor_30 rfl 1 rfl ?_
            refine J_iload_n E dX6_holdsFor_31 rfl 2 rfl ?_
            refine J_iconst E dX6_holdsFor_32 ic_3 ?_
            refine J_iload_n E dX6_holdsFor_33 rfl 3 rfl ?_
            refine J_callEi E (As := [.int (nI j), .int (nI m), .int 3, .int (nI i)]) (c_X6_isWetBy l G b (upG (upG y 5 d) 2 z) j m 3 (nI i) (by omega) (by omega) (by decide) (okQ_w hok _ _ (by decide) (by decide))) cl_X6_182 yo_X6_isWetBy dX6_holdsFor_34 rfl (Nat.le_of_ble_eq_true rfl) (Nat.le_of_ble_eq_true rfl) rfl (Nat.le_of_ble_eq_true rfl) ⟨Nat.zero_le _, Nat.zero_le _⟩ (fun d34_1 => ?_)
            refine J_w (ws' := wM G b (upG (upG (upG (upG (upG y 5 d) 2 z) 2 (y 0)) 5 d34_1) 0 (y 0))) (wM_c rfl rfl rfl rfl rfl rfl rfl rfl rfl rfl rfl) ?_
            refine J_top (x' := bI (wetB (up2 (y 0) 3 j (nI i)) j m = true)) rfl ?_
            refine J_if_ne E (tgt := 46) dX6_holdsFor_37 (by decide) (fun c_37 => ?_) (fun c_37 => ?_)
            · skip
              have c_37 := bI_1 c_37
              have h2 : upF (fun v => wetB (up2 (y 0) 3 j (nI v)) j m) 201 0 = some i := by rw [h1, show 201 - i = (200 - i) + 1 by omega]; exact upF_t c_37
              refine J_iload_n E dX6_holdsFor_46 rfl 3 rfl ?_
              refine J_sipush E dX6_holdsFor_47 sp_200 ?_
              refine J_icmp_gt E (tgt := 57) dX6_holdsFor_50 (by decide) (fun c_50 => ?_) (fun c_50 => ?_)
              · skip
                have n_50 : 200 < i := cmp_lt (a := 200) (b := i) (by omega) (by omega) c_50
                refine J_aload_n E dX6_holdsFor_57 rfl 0 rfl ?_
                refine J_iconst E dX6_holdsFor_58 ic_3 ?_
                refine J_cVi0 E (As := [.int 3]) (c_X6_finds l G b (upG (upG (upG (upG (upG y 5 d) 2 z) 2 (y 0)) 5 d34_1) 0 (y 0)) 3 (by omega)) cl_X6_96 yo_X6_finds dX6_holdsFor_59 rfl rfl rfl (Nat.le_of_ble_eq_true rfl) (Nat.le_of_ble_eq_true rfl) rfl (Nat.le_of_ble_eq_true rfl) ⟨Nat.zero_le _, Nat.zero_le _⟩ ?_
                refine J_top (x' := tellR 3) rfl ?_
                exact ret _ _ _ _ ⟨by first | (rw [h2]; rfl) | (exfalso; omega), _, rfl, by first | (rw [h2]; intro g h2 h5 h6; by_cases h0 : g = 0 <;> simp [optX, tellX, upG, up3, h0, h2, h5, h6]; done) | (exfalso; omega)⟩ rfl dX6_holdsFor_62
              · skip
                have n_50 : ¬ 200 < i := cmp_nlt (a := 200) (b := i) (by omega) (by omega) c_50
                refine J_iload_n E dX6_holdsFor_53 rfl 3 rfl ?_
                refine J_goto E (tgt := 62) dX6_holdsFor_54 (by decide) ?_
                exact ret _ _ _ _ ⟨by first | (rw [h2]; rfl) | (exfalso; omega), _, rfl, by first | (rw [h2]; intro g h2 h5 h6; by_cases h0 : g = 0 <;> simp [optX, tellX, upG, up3, h0, h2, h5, h6]; done) | (exfalso; omega)⟩ rfl dX6_holdsFor_62
            · skip
              have c_37 := bI_0 c_37
              refine J_iinc E (lv' := [(3, .int (nI (i + 1))), (0, .ref (b 0)), (1, .int (nI j)), (2, .int (nI m))]) dX6_holdsFor_40 3 rfl (nI_inc _) (by decide) rfl ?_
              refine J_goto E (tgt := 22) dX6_holdsFor_43 (by decide) ?_
              refine J_lv [1, 2, 3, 0] rfl ?_
              refine J_w (ws' := wM G b (upG (upG y 5 d34_1) 2 (y 0))) (wM_c rfl rfl rfl rfl rfl rfl rfl rfl rfl rfl rfl) ?_
              exact ih22 (i + 1) d34_1 (y 0) (by omega) (by rw [h1, show 201 - i = (201 - (i + 1)) + 1 by omega]; exact upF_f c_37) (by omega)
      refine J_lv [1, 2, 3, 0] rfl ?_
      refine J_w (ws' := wM G b (upG (upG y 5 (y 5)) 2 (y 2))) (wM_c rfl rfl rfl rfl rfl rfl rfl rfl rfl rfl rfl) ?_
      exact lp22 _ 0 (y 5) (y 2) (by omega) rfl (Nat.lt_succ_self _)
    · skip
      have c_11 := bI_0 c_11
      exact absurd (inB (a := m) (b := 40) (by omega) (by decide)) c_11

set_option maxHeartbeats 4000000 in
set_option maxRecDepth 20000 in
theorem c_X6_needFor_bad (l : Launch) (G : GB) (b : Nat → Nat) (y : Q3) (h n : Int32) (hb : ¬ (okH h ∧ 0 ≤ n ∧ n ≤ 40)) : CI l yX6_needFor cX6_needFor 4 .int 2 45 G [.ref (b 0), .int h, .int n] (wM G b y) (fun vR w' => vR = tellR 0 ∧ PubM G b (tellX y 0) w') := by
  refine CI.mk (own := RX6) (by decide) rfl (Nat.le_of_ble_eq_true rfl) ?_
  intro X E ret
  show J X G 4 0 0 (wM G b y) [(0, .ref (b 0)), (1, .int h), (2, .int n)] 0 []
  refine J_iload_n E dX6_needFor_0 rfl 1 rfl ?_
  refine J_cSiN E (As := [.int h]) (c_X6_isHouse l G h ) cl_X6_87 yo_X6_isHouse dX6_needFor_1 rfl (Nat.le_of_ble_eq_true rfl) (Nat.le_of_ble_eq_true rfl) rfl (Nat.le_of_ble_eq_true rfl) ⟨Nat.zero_le _, Nat.zero_le _⟩ ?_
  refine J_if_eq E (tgt := 14) dX6_needFor_4 (by decide) (fun c_4 => ?_) (fun c_4 => ?_)
  · skip
    have c_4 := bI_0 c_4
    refine J_aload_n E dX6_needFor_14 rfl 0 rfl ?_
    refine J_iconst E dX6_needFor_15 ic_0 ?_
    refine J_cVi0 E (As := [.int 0]) (c_X6_finds l G b y 0 (by omega)) cl_X6_96 yo_X6_finds dX6_needFor_16 rfl rfl rfl (Nat.le_of_ble_eq_true rfl) (Nat.le_of_ble_eq_true rfl) rfl (Nat.le_of_ble_eq_true rfl) ⟨Nat.zero_le _, Nat.zero_le _⟩ ?_
    exact ret _ _ _ _ ⟨rfl, _, rfl, by intro g h2 h5 h6; by_cases h0 : g = 0 <;> simp [tellX, upG, up3, up3R, up2, h0, h2, h5, h6]⟩ rfl dX6_needFor_19
  · skip
    have c_4 := bI_1 c_4
    refine J_iload_n E dX6_needFor_7 rfl 2 rfl ?_
    refine J_cSiN E (As := [.int n]) (c_X6_isSoon l G n ) cl_X6_176 yo_X6_isSoon dX6_needFor_8 rfl (Nat.le_of_ble_eq_true rfl) (Nat.le_of_ble_eq_true rfl) rfl (Nat.le_of_ble_eq_true rfl) ⟨Nat.zero_le _, Nat.zero_le _⟩ ?_
    refine J_if_ne E (tgt := 20) dX6_needFor_11 (by decide) (fun c_11 => ?_) (fun c_11 => ?_)
    · skip
      have c_11 := bI_1 c_11
      exact absurd ⟨c_4, c_11⟩ hb
    · skip
      have c_11 := bI_0 c_11
      refine J_aload_n E dX6_needFor_14 rfl 0 rfl ?_
      refine J_iconst E dX6_needFor_15 ic_0 ?_
      refine J_cVi0 E (As := [.int 0]) (c_X6_finds l G b y 0 (by omega)) cl_X6_96 yo_X6_finds dX6_needFor_16 rfl rfl rfl (Nat.le_of_ble_eq_true rfl) (Nat.le_of_ble_eq_true rfl) rfl (Nat.le_of_ble_eq_true rfl) ⟨Nat.zero_le _, Nat.zero_le _⟩ ?_
      exact ret _ _ _ _ ⟨rfl, _, rfl, by intro g h2 h5 h6; by_cases h0 : g = 0 <;> simp [tellX, upG, up3, up3R, up2, h0, h2, h5, h6]⟩ rfl dX6_needFor_19

set_option maxHeartbeats 4000000 in
set_option maxRecDepth 20000 in
theorem c_X6_needFor_ok (l : Launch) (G : GB) (b : Nat → Nat) (y : Q3) (j m : Nat) (hj : j < 11) (hm : m ≤ 40) (hok : okQ (y 0))  : CI l yX6_needFor cX6_needFor 4 .int 7 161 G [.ref (b 0), .int (nI j), .int (nI m)] (wM G b y) (fun vR w' => vR = optR (topF (fun v => wetB (up2 (y 0) 2 j (nI v)) j m) 100) ∧ PubM G b (optX y (topF (fun v => wetB (up2 (y 0) 2 j (nI v)) j m) 100)) w') := by
  refine CI.mk (own := RX6) (by decide) rfl (Nat.le_of_ble_eq_true rfl) ?_
  intro X E ret
  show J X G 4 0 0 (wM G b y) [(0, .ref (b 0)), (1, .int (nI j)), (2, .int (nI m))] 0 []
  refine J_iload_n E dX6_needFor_0 rfl 1 rfl ?_
  refine J_cSiN E (As := [.int (nI j)]) (c_X6_isHouse l G (nI j) ) cl_X6_87 yo_X6_isHouse dX6_needFor_1 rfl (Nat.le_of_ble_eq_true rfl) (Nat.le_of_ble_eq_true rfl) rfl (Nat.le_of_ble_eq_true rfl) ⟨Nat.zero_le _, Nat.zero_le _⟩ ?_
  refine J_if_eq E (tgt := 14) dX6_needFor_4 (by decide) (fun c_4 => ?_) (fun c_4 => ?_)
  · skip
    have c_4 := bI_0 c_4
    exact absurd (inB (a := j) (b := 10) (by omega) (by decide)) c_4
  · skip
    have c_4 := bI_1 c_4
    refine J_iload_n E dX6_needFor_7 rfl 2 rfl ?_
    refine J_cSiN E (As := [.int (nI m)]) (c_X6_isSoon l G (nI m) ) cl_X6_176 yo_X6_isSoon dX6_needFor_8 rfl (Nat.le_of_ble_eq_true rfl) (Nat.le_of_ble_eq_true rfl) rfl (Nat.le_of_ble_eq_true rfl) ⟨Nat.zero_le _, Nat.zero_le _⟩ ?_
    refine J_if_ne E (tgt := 20) dX6_needFor_11 (by decide) (fun c_11 => ?_) (fun c_11 => ?_)
    · skip
      have c_11 := bI_1 c_11
      refine J_bipush E dX6_needFor_20 bp_99 ?_
      refine J_istore_n E (lv' := [(3, .int 99), (0, .ref (b 0)), (1, .int (nI j)), (2, .int (nI m))]) dX6_needFor_22 rfl (by decide) rfl ?_
      refine J_w (ws' := wM G b (upG y 5 (y 5))) (congrArg (wM G b) upG_id.symm) ?_
      have lp23 : ∀ (fu : Nat) (i : Nat) (xh : Int32) (d : Q2) (z : Q2), (xh = nI i + (-1)) → (i ≤ 100) → (topF (fun v => wetB (up2 (y 0) 2 j (nI v)) j m) 100 = topF (fun v => wetB (up2 (y 0) 2 j (nI v)) j m) i) → i < fu → J X G 4 0 0 (wM G b (upG (upG y 5 d) 2 z)) [(0, .ref (b 0)), (1, .int (nI j)), (2, .int (nI m)), (3, .int xh)] 23 [] := by
        intro fu
        induction fu with
        | zero => intro i xh d z hxh hi h1 hm; exact absurd hm (Nat.not_lt_zero _)
        | succ fu ih23 =>
          intro i xh d z hxh hi h1 hm
          refine J_iload_n E dX6_needFor_23 rfl 3 rfl ?_
          refine J_if_lt E (tgt := 44) dX6_needFor_24 (by decide) (fun c_24 => ?_) (fun c_24 => ?_)
          · skip
            have hi0 := dec_neg hxh (by omega) c_24
            have h2 : topF (fun v => wetB (up2 (y 0) 2 j (nI v)) j m) 100 = none := by rw [h1, hi0]; rfl
            refine J_iload_n E dX6_needFor_44 rfl 3 rfl ?_
            refine J_if_lt E (tgt := 52) dX6_needFor_45 (by decide) (fun c_45 => ?_) (fun c_45 => ?_)
            · skip
              refine J_aload_n E dX6_needFor_52 rfl 0 rfl ?_
              refine J_iconst E dX6_needFor_53 ic_3 ?_
              refine J_cVi0 E (As := [.int 3]) (c_X6_finds l G b (upG (upG y 5 d) 2 z) 3 (by omega)) cl_X6_96 yo_X6_finds dX6_needFor_54 rfl rfl rfl (Nat.le_of_ble_eq_true rfl) (Nat.le_of_ble_eq_true rfl) rfl (Nat.le_of_ble_eq_true rfl) ⟨Nat.zero_le _, Nat.zero_le _⟩ ?_
              refine J_top (x' := tellR 3) rfl ?_
              exact ret _ _ _ _ ⟨by first | (rw [h2]; rfl) | exact absurd c_45 (nI_pos (by omega)) | exact absurd c_24 c_45, _, rfl, by first | (rw [h2]; intro g h2 h5 h6; by_cases h0 : g = 0 <;> simp [optX, tellX, upG, up3, h0, h2, h5, h6]; done) | exact absurd c_45 (nI_pos (by omega)) | exact absurd c_24 c_45⟩ rfl dX6_needFor_57
            · skip
              refine J_iload_n E dX6_needFor_48 rfl 3 rfl ?_
              refine J_goto E (tgt := 57) dX6_needFor_49 (by decide) ?_
              exact ret _ _ _ _ ⟨by first | (rw [h2]; rfl) | exact absurd c_45 (nI_pos (by omega)) | exact absurd c_24 c_45, _, rfl, by first | (rw [h2]; intro g h2 h5 h6; by_cases h0 : g = 0 <;> simp [optX, tellX, upG, up3, h0, h2, h5, h6]; done) | exact absurd c_45 (nI_pos (by omega)) | exact absurd c_24 c_45⟩ rfl dX6_needFor_57
          · skip
            obtain ⟨u, rfl, rfl⟩ := dec_pos hxh (by omega) c_24
            refine J_aload_n E dX6_needFor_27 rfl 0 rfl ?_
            refine J_iload_n E dX6_needFor_28 rfl 1 rfl ?_
            refine J_iload_n E dX6_needFor_29 rfl 2 rfl ?_
            refine J_iconst E dX6_needFor_30 ic_2 ?_
            refine J_iload_n E dX6_needFor_31 rfl 3 rfl ?_
            refine J_callEi E (As := [.int (nI j), .int (nI m), .int 2, .int (nI u)]) (c_X6_isWetBy l G b (upG (upG y 5 d) 2 z) j m 2 (nI u) (by omega) (by omega) (by decide) (okQ_w hok _ _ (by decide) (by decide))) cl_X6_182 yo_X6_isWetBy dX6_needFor_32 rfl (Nat.le_of_ble_eq_true rfl) (Nat.le_of_ble_eq_true rfl) rfl (Nat.le_of_ble_eq_true rfl) ⟨Nat.zero_le _, Nat.zero_le _⟩ (fun d32_1 => ?_)
            refine J_w (ws' := wM G b (upG (upG (upG (upG (upG y 5 d) 2 z) 2 (y 0)) 5 d32_1) 0 (y 0))) (wM_c rfl rfl rfl rfl rfl rfl rfl rfl rfl rfl rfl) ?_
            refine J_top (x' := bI (wetB (up2 (y 0) 2 j (nI u)) j m = true)) rfl ?_
            refine J_if_ne E (tgt := 44) dX6_needFor_35 (by decide) (fun c_35 => ?_) (fun c_35 => ?_)
            · skip
              have c_35 := bI_1 c_35
              have h2 : topF (fun v => wetB (up2 (y 0) 2 j (nI v)) j m) 100 = some u := by rw [h1]; exact topF_t c_35
              refine J_iload_n E dX6_needFor_44 rfl 3 rfl ?_
              refine J_if_lt E (tgt := 52) dX6_needFor_45 (by decide) (fun c_45 => ?_) (fun c_45 => ?_)
              · skip
                have n_45 : u < 0 := cmp_lt (a := u) (b := 0) (by omega) (by omega) c_45
                refine J_aload_n E dX6_needFor_52 rfl 0 rfl ?_
                refine J_iconst E dX6_needFor_53 ic_3 ?_
                refine J_cVi0 E (As := [.int 3]) (c_X6_finds l G b (upG (upG (upG (upG (upG y 5 d) 2 z) 2 (y 0)) 5 d32_1) 0 (y 0)) 3 (by omega)) cl_X6_96 yo_X6_finds dX6_needFor_54 rfl rfl rfl (Nat.le_of_ble_eq_true rfl) (Nat.le_of_ble_eq_true rfl) rfl (Nat.le_of_ble_eq_true rfl) ⟨Nat.zero_le _, Nat.zero_le _⟩ ?_
                refine J_top (x' := tellR 3) rfl ?_
                exact ret _ _ _ _ ⟨by first | (rw [h2]; rfl) | exact absurd c_45 (nI_pos (by omega)) | exact absurd c_24 c_45, _, rfl, by first | (rw [h2]; intro g h2 h5 h6; by_cases h0 : g = 0 <;> simp [optX, tellX, upG, up3, h0, h2, h5, h6]; done) | exact absurd c_45 (nI_pos (by omega)) | exact absurd c_24 c_45⟩ rfl dX6_needFor_57
              · skip
                have n_45 : ¬ u < 0 := cmp_nlt (a := u) (b := 0) (by omega) (by omega) c_45
                refine J_iload_n E dX6_needFor_48 rfl 3 rfl ?_
                refine J_goto E (tgt := 57) dX6_needFor_49 (by decide) ?_
                exact ret _ _ _ _ ⟨by first | (rw [h2]; rfl) | exact absurd c_45 (nI_pos (by omega)) | exact absurd c_24 c_45, _, rfl, by first | (rw [h2]; intro g h2 h5 h6; by_cases h0 : g = 0 <;> simp [optX, tellX, upG, up3, h0, h2, h5, h6]; done) | exact absurd c_45 (nI_pos (by omega)) | exact absurd c_24 c_45⟩ rfl dX6_needFor_57
            · skip
              have c_35 := bI_0 c_35
              refine J_iinc E (lv' := [(3, .int ((nI u) + (-1))), (0, .ref (b 0)), (1, .int (nI j)), (2, .int (nI m))]) dX6_needFor_38 3 rfl (i_dec _) (by decide) rfl ?_
              refine J_goto E (tgt := 23) dX6_needFor_41 (by decide) ?_
              refine J_lv [1, 2, 3, 0] rfl ?_
              refine J_w (ws' := wM G b (upG (upG y 5 d32_1) 2 (y 0))) (wM_c rfl rfl rfl rfl rfl rfl rfl rfl rfl rfl rfl) ?_
              exact ih23 u ((nI u) + (-1)) d32_1 (y 0) rfl (by omega) (by rw [h1]; exact topF_f c_35) (by omega)
      refine J_lv [1, 2, 3, 0] rfl ?_
      refine J_w (ws' := wM G b (upG (upG y 5 (y 5)) 2 (y 2))) (wM_c rfl rfl rfl rfl rfl rfl rfl rfl rfl rfl rfl) ?_
      exact lp23 _ 100 99 (y 5) (y 2) (by decide) (by decide) rfl (Nat.lt_succ_self _)
    · skip
      have c_11 := bI_0 c_11
      exact absurd (inB (a := m) (b := 40) (by omega) (by decide)) c_11
