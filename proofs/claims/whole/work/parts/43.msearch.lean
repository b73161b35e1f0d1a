theorem argF_mx {f : Nat → Int32} {n : Nat} {a : Int32} (h : a = (argF f n).1) : mx a (f n) = (argF f (n + 1)).1 := by
  rw [argF, mx, h]
  split <;> rfl
theorem minF_mn {f : Nat → Int32} {n : Nat} {a : Int32} (h : a = (minF f n).1) : mn a (f n) = (minF f (n + 1)).1 := by
  rw [minF, mn, h]
  split <;> rfl
theorem argF_b {f : Nat → Int32} {n : Nat} {a : Int32} (h : a = (argF f n).1) (c : ¬ f n ≤ a) : nI n = nI (argF f (n + 1)).2 := by
  rw [argF, if_pos (by rw [← h]; exact Int32.not_le.mp c)]
theorem argF_k {f : Nat → Int32} {n : Nat} {a : Int32} (h : a = (argF f n).1) (c : f n ≤ a) : nI (argF f n).2 = nI (argF f (n + 1)).2 := by
  rw [argF, if_neg (by rw [← h]; exact Int32.not_lt.mpr c)]
theorem minF_b {f : Nat → Int32} {n : Nat} {a : Int32} (h : a = (minF f n).1) (c : ¬ a ≤ f n) : nI n = nI (minF f (n + 1)).2 := by
  rw [minF, if_pos (by rw [← h]; exact Int32.not_le.mp c)]
theorem minF_k {f : Nat → Int32} {n : Nat} {a : Int32} (h : a = (minF f n).1) (c : a ≤ f n) : nI (minF f n).2 = nI (minF f (n + 1)).2 := by
  rw [minF, if_neg (by rw [← h]; exact Int32.not_lt.mpr c)]

set_option maxHeartbeats 4000000 in
set_option maxRecDepth 20000 in
theorem c_X6_rainFor_bad (l : Launch) (G : GB) (b : Nat → Nat) (y : Q3) (h n : Int32) (hb : ¬ (okH h ∧ 0 ≤ n ∧ n ≤ 40)) : CI l yX6_rainFor cX6_rainFor 4 .int 2 45 G [.ref (b 0), .int h, .int n] (wM G b y) (fun vR w' => vR = tellR 0 ∧ PubM G b (tellX y 0) w') := by
  refine CI.mk (own := RX6) (by decide) rfl (Nat.le_of_ble_eq_true rfl) ?_
  intro X E ret
  show J X G 4 0 0 (wM G b y) [(0, .ref (b 0)), (1, .int h), (2, .int n)] 0 []
  refine J_iload_n E dX6_rainFor_0 rfl 1 rfl ?_
  refine J_cSiN E (As := [.int h]) (c_X6_isHouse l G h ) cl_X6_87 yo_X6_isHouse dX6_rainFor_1 rfl (Nat.le_of_ble_eq_true rfl) (Nat.le_of_ble_eq_true rfl) rfl (Nat.le_of_ble_eq_true rfl) ⟨Nat.zero_le _, Nat.zero_le _⟩ ?_
  refine J_if_eq E (tgt := 14) dX6_rainFor_4 (by decide) (fun c_4 => ?_) (fun c_4 => ?_)
  · skip
    have c_4 := bI_0 c_4
    refine J_aload_n E dX6_rainFor_14 rfl 0 rfl ?_
    refine J_iconst E dX6_rainFor_15 ic_0 ?_
    refine J_cVi0 E (As := [.int 0]) (c_X6_finds l G b y 0 (by omega)) cl_X6_96 yo_X6_finds dX6_rainFor_16 rfl rfl rfl (Nat.le_of_ble_eq_true rfl) (Nat.le_of_ble_eq_true rfl) rfl (Nat.le_of_ble_eq_true rfl) ⟨Nat.zero_le _, Nat.zero_le _⟩ ?_
    exact ret _ _ _ _ ⟨rfl, _, rfl, by intro g h2 h5 h6; by_cases h0 : g = 0 <;> simp [tellX, upG, up3, up3R, up2, h0, h2, h5, h6]⟩ rfl dX6_rainFor_19
  · skip
    have c_4 := bI_1 c_4
    refine J_iload_n E dX6_rainFor_7 rfl 2 rfl ?_
    refine J_cSiN E (As := [.int n]) (c_X6_isSoon l G n ) cl_X6_176 yo_X6_isSoon dX6_rainFor_8 rfl (Nat.le_of_ble_eq_true rfl) (Nat.le_of_ble_eq_true rfl) rfl (Nat.le_of_ble_eq_true rfl) ⟨Nat.zero_le _, Nat.zero_le _⟩ ?_
    refine J_if_ne E (tgt := 20) dX6_rainFor_11 (by decide) (fun c_11 => ?_) (fun c_11 => ?_)
    · skip
      have c_11 := bI_1 c_11
      exact absurd ⟨c_4, c_11⟩ hb
    · skip
      have c_11 := bI_0 c_11
      refine J_aload_n E dX6_rainFor_14 rfl 0 rfl ?_
      refine J_iconst E dX6_rainFor_15 ic_0 ?_
      refine J_cVi0 E (As := [.int 0]) (c_X6_finds l G b y 0 (by omega)) cl_X6_96 yo_X6_finds dX6_rainFor_16 rfl rfl rfl (Nat.le_of_ble_eq_true rfl) (Nat.le_of_ble_eq_true rfl) rfl (Nat.le_of_ble_eq_true rfl) ⟨Nat.zero_le _, Nat.zero_le _⟩ ?_
      exact ret _ _ _ _ ⟨rfl, _, rfl, by intro g h2 h5 h6; by_cases h0 : g = 0 <;> simp [tellX, upG, up3, up3R, up2, h0, h2, h5, h6]⟩ rfl dX6_rainFor_19

set_option maxHeartbeats 4000000 in
set_option maxRecDepth 20000 in
theorem c_X6_rainFor_ok (l : Launch) (G : GB) (b : Nat → Nat) (y : Q3) (j m : Nat) (hj : j < 11) (hm : m ≤ 40) (hok : okQ (y 0))  : CI l yX6_rainFor cX6_rainFor 4 .int 6 137 G [.ref (b 0), .int (nI j), .int (nI m)] (wM G b y) (fun vR w' => vR = optR (upF (fun v => wetB (up2 (y 0) 7 2 (nI v)) j m) 1000 0) ∧ PubM G b (optX y (upF (fun v => wetB (up2 (y 0) 7 2 (nI v)) j m) 1000 0)) w') := by
  refine CI.mk (own := RX6) (by decide) rfl (Nat.le_of_ble_eq_true rfl) ?_
  intro X E ret
  show J X G 4 0 0 (wM G b y) [(0, .ref (b 0)), (1, .int (nI j)), (2, .int (nI m))] 0 []
  refine J_iload_n E dX6_rainFor_0 rfl 1 rfl ?_
  refine J_cSiN E (As := [.int (nI j)]) (c_X6_isHouse l G (nI j) ) cl_X6_87 yo_X6_isHouse dX6_rainFor_1 rfl (Nat.le_of_ble_eq_true rfl) (Nat.le_of_ble_eq_true rfl) rfl (Nat.le_of_ble_eq_true rfl) ⟨Nat.zero_le _, Nat.zero_le _⟩ ?_
  refine J_if_eq E (tgt := 14) dX6_rainFor_4 (by decide) (fun c_4 => ?_) (fun c_4 => ?_)
  · skip
    have c_4 := bI_0 c_4
    exact absurd (inB (a := j) (b := 10) (by omega) (by decide)) c_4
  · skip
    have c_4 := bI_1 c_4
    refine J_iload_n E dX6_rainFor_7 rfl 2 rfl ?_
    refine J_cSiN E (As := [.int (nI m)]) (c_X6_isSoon l G (nI m) ) cl_X6_176 yo_X6_isSoon dX6_rainFor_8 rfl (Nat.le_of_ble_eq_true rfl) (Nat.le_of_ble_eq_true rfl) rfl (Nat.le_of_ble_eq_true rfl) ⟨Nat.zero_le _, Nat.zero_le _⟩ ?_
    refine J_if_ne E (tgt := 20) dX6_rainFor_11 (by decide) (fun c_11 => ?_) (fun c_11 => ?_)
    · skip
      have c_11 := bI_1 c_11
      refine J_iconst E dX6_rainFor_20 ic_0 ?_
      refine J_istore_n E (lv' := [(3, .int 0), (0, .ref (b 0)), (1, .int (nI j)), (2, .int (nI m))]) dX6_rainFor_21 rfl (by decide) rfl ?_
      refine J_w (ws' := wM G b (upG y 5 (y 5))) (congrArg (wM G b) upG_id.symm) ?_
      have lp22 : ∀ (fu : Nat) (i : Nat) (d : Q2) (z : Q2), (i ≤ 1000) → (upF (fun v => wetB (up2 (y 0) 7 2 (nI v)) j m) 1000 0 = upF (fun v => wetB (up2 (y 0) 7 2 (nI v)) j m) (1000 - i) i) → 1000 - i < fu → J X G 4 0 0 (wM G b (upG (upG y 5 d) 2 z)) [(0, .ref (b 0)), (1, .int (nI j)), (2, .int (nI m)), (3, .int (nI i))] 22 [] := by
        intro fu
        induction fu with
        | zero => intro i d z hi h1 hm; exact absurd hm (Nat.not_lt_zero _)
        | succ fu ih22 =>
          intro i d z hi h1 hm
          refine J_iload_n E dX6_rainFor_22 rfl 3 rfl ?_
          refine J_sipush E dX6_rainFor_23 sp_999 ?_
          refine J_icmp_gt E (tgt := 57) dX6_rainFor_26 (by decide) (fun c_26 => ?_) (fun c_26 => ?_)
          · skip
            have n_26 : 999 < i := cmp_lt (a := 999) (b := i) (by omega) (by omega) c_26
            have h2 : upF (fun v => wetB (up2 (y 0) 7 2 (nI v)) j m) 1000 0 = none := by rw [h1, show 1000 - i = 0 by omega]; rfl
            refine J_aload_n E dX6_rainFor_57 rfl 0 rfl ?_
            refine J_iconst E dX6_rainFor_58 ic_3 ?_
            refine J_cVi0 E (As := [.int 3]) (c_X6_finds l G b (upG (upG y 5 d) 2 z) 3 (by omega)) cl_X6_96 yo_X6_finds dX6_rainFor_59 rfl rfl rfl (Nat.le_of_ble_eq_true rfl) (Nat.le_of_ble_eq_true rfl) rfl (Nat.le_of_ble_eq_true rfl) ⟨Nat.zero_le _, Nat.zero_le _⟩ ?_
            refine J_top (x' := tellR 3) rfl ?_
            exact ret _ _ _ _ ⟨by rw [h2]; rfl, _, rfl, by rw [h2]; intro g h2 h5 h6; by_cases h0 : g = 0 <;> simp [optX, tellX, upG, up3, h0, h2, h5, h6]; done⟩ rfl dX6_rainFor_62
          · skip
            have n_26 : ¬ 999 < i := cmp_nlt (a := 999) (b := i) (by omega) (by omega) c_26
            refine J_aload_n E dX6_rainFor_29 rfl 0 rfl ?_
            refine J_cVv0 E (As := []) (c_X6_lends l G b (upG (upG y 5 d) 2 z) ) cl_X6_160 yo_X6_lends dX6_rainFor_30 rfl rfl rfl (Nat.le_of_ble_eq_true rfl) (Nat.le_of_ble_eq_true rfl) rfl (Nat.le_of_ble_eq_true rfl) ⟨Nat.zero_le _, Nat.zero_le _⟩ ?_
            refine J_aload_n E dX6_rainFor_33 rfl 0 rfl ?_
            refine gM0_X6_9 E dX6_rainFor_34 ?_
            refine J_iconst E dX6_rainFor_37 ic_2 ?_
            refine J_iload_n E dX6_rainFor_38 rfl 3 rfl ?_
            refine sMs E (j := 2) (r := 7) (i := 2) (at_7 (by decide)) dX6_rainFor_39 ?_
            refine J_w (ws' := wM G b (upG (upG (upG (upG y 5 d) 2 z) 2 (y 0)) 0 (up2 (y 0) 7 2 (nI i)))) rfl ?_
            refine J_aload_n E dX6_rainFor_40 rfl 0 rfl ?_
            refine J_iload_n E dX6_rainFor_41 rfl 1 rfl ?_
            refine J_iload_n E dX6_rainFor_42 rfl 2 rfl ?_
            refine J_callEi E (As := [.int (nI j), .int (nI m)]) (c_X6_isWet l G b (upG (upG (upG (upG y 5 d) 2 z) 2 (y 0)) 0 (up2 (y 0) 7 2 (nI i))) j m (by omega) (by omega) (show okQ (up2 (y 0) 7 2 (nI i)) from okQ_w hok _ _ (by decide) (by decide))) cl_X6_179 yo_X6_isWet dX6_rainFor_43 rfl (Nat.le_of_ble_eq_true rfl) (Nat.le_of_ble_eq_true rfl) rfl (Nat.le_of_ble_eq_true rfl) ⟨Nat.zero_le _, Nat.zero_le _⟩ (fun d43_1 => ?_)
            refine J_w (ws' := wM G b (upG (upG (upG (upG (upG (upG y 5 d) 2 z) 2 (y 0)) 0 (up2 (y 0) 7 2 (nI i))) 5 d43_1) 0 (y 0))) (wM_c rfl rfl rfl rfl rfl rfl rfl rfl rfl rfl rfl) ?_
            refine J_top (x' := bI (wetB (up2 (y 0) 7 2 (nI i)) j m = true)) rfl ?_
            refine J_if_eq E (tgt := 51) dX6_rainFor_46 (by decide) (fun c_46 => ?_) (fun c_46 => ?_)
            · skip
              have c_46 := bI_0 c_46
              exact absurd (by assumption) c_46
            · skip
              have c_46 := bI_1 c_46
              have h2 : upF (fun v => wetB (up2 (y 0) 7 2 (nI v)) j m) 1000 0 = some i := by rw [h1, show 1000 - i = (999 - i) + 1 by omega]; exact upF_t c_46
              refine J_iload_n E dX6_rainFor_49 rfl 3 rfl ?_
              exact ret _ _ _ _ ⟨by rw [h2]; rfl, _, rfl, by rw [h2]; intro g h2 h5 h6; by_cases h0 : g = 0 <;> simp [optX, tellX, upG, up3, h0, h2, h5, h6]; done⟩ rfl dX6_rainFor_50
      refine J_lv [1, 2, 3, 0] rfl ?_
      refine J_w (ws' := wM G b (upG (upG y 5 (y 5)) 2 (y 2))) (wM_c rfl rfl rfl rfl rfl rfl rfl rfl rfl rfl rfl) ?_
      exact lp22 _ 0 (y 5) (y 2) (by omega) rfl (Nat.lt_succ_self _)
    · skip
      have c_11 := bI_0 c_11
      exact absurd (inB (a := m) (b := 40) (by omega) (by decide)) c_11

set_option maxHeartbeats 4000000 in
set_option maxRecDepth 20000 in
theorem c_X6_holdsFor_bad (l : Launch) (G : GB) (b : Nat → Nat) (y : Q3) (h n : Int32) (hb : ¬ (okH h ∧ 0 ≤ n ∧ n ≤ 40)) : CI l yX6_holdsFor cX6_holdsFor 4 .int 2 45 G [.ref (b 0), .int h, .int n] (wM G b y) (fun vR w' => vR = tellR 0 ∧ PubM G b (tellX y 0) w') := by
  refine CI.mk (own := RX6) (by decide) rfl (Nat.le_of_ble_eq_true rfl) ?_
  intro X E ret
  show J X G 4 0 0 (wM G b y) [(0, .ref (b 0)), (1, .int h), (2, .int n)] 0 []
  refine J_iload_n E dX6_holdsFor_0 rfl 1 rfl ?_
  refine J_cSiN E (As := [.int h]) (c_X6_isHouse l G h ) cl_X6_87 yo_X6_isHouse dX6_holdsFor_1 rfl (Nat.le_of_ble_eq_true rfl) (Nat.le_of_ble_eq_true rfl) rfl (Nat.le_of_ble_eq_true rfl) ⟨Nat.zero_le _, Nat.zero_le _⟩ ?_
  refine J_if_eq E (tgt := 14) dX6_holdsFor_4 (by decide) (fun c_4 => ?_) (fun c_4 => ?_)
  · skip
    have c_4 := bI_0 c_4
    refine J_aload_n E dX6_holdsFor_14 rfl 0 rfl ?_
    refine J_iconst E dX6_holdsFor_15 ic_0 ?_
    refine J_cVi0 E (As := [.int 0]) (c_X6_finds l G b y 0 (by omega)) cl_X6_96 yo_X6_finds dX6_holdsFor_16 rfl rfl rfl (Nat.le_of_ble_eq_true rfl) (Nat.le_of_ble_eq_true rfl) rfl (Nat.le_of_ble_eq_true rfl) ⟨Nat.zero_le _, Nat.zero_le _⟩ ?_
    exact ret _ _ _ _ ⟨rfl, _, rfl, by intro g h2 h5 h6; by_cases h0 : g = 0 <;> simp [tellX, upG, up3, up3R, up2, h0, h2, h5, h6]⟩ rfl dX6_holdsFor_19
  · skip
    have c_4 := bI_1 c_4
    refine J_iload_n E dX6_holdsFor_7 rfl 2 rfl ?_
    refine J_cSiN E (As := [.int n]) (c_X6_isSoon l G n ) cl_X6_176 yo_X6_isSoon dX6_holdsFor_8 rfl (Nat.le_of_ble_eq_true rfl) (Nat.le_of_ble_eq_true rfl) rfl (Nat.le_of_ble_eq_true rfl) ⟨Nat.zero_le _, Nat.zero_le _⟩ ?_
    refine J_if_ne E (tgt := 20) dX6_holdsFor_11 (by decide) (fun c_11 => ?_) (fun c_11 => ?_)
    · skip
      have c_11 := bI_1 c_11
      exact absurd ⟨c_4, c_11⟩ hb
    · skip
      have c_11 := bI_0 c_11
      refine J_aload_n E dX6_holdsFor_14 rfl 0 rfl ?_
      refine J_iconst E dX6_holdsFor_15 ic_0 ?_
      refine J_cVi0 E (As := [.int 0]) (c_X6_finds l G b y 0 (by omega)) cl_X6_96 yo_X6_finds dX6_holdsFor_16 rfl rfl rfl (Nat.le_of_ble_eq_true rfl) (Nat.le_of_ble_eq_true rfl) rfl (Nat.le_of_ble_eq_true rfl) ⟨Nat.zero_le _, Nat.zero_le _⟩ ?_
      exact ret _ _ _ _ ⟨rfl, _, rfl, by intro g h2 h5 h6; by_cases h0 : g = 0 <;> simp [tellX, upG, up3, up3R, up2, h0, h2, h5, h6]⟩ rfl dX6_holdsFor_19

set_option maxHeartbeats 4000000 in
set_option maxRecDepth 20000 in
theorem c_X6_holdsFor_ok (l : Launch) (G : GB) (b : Nat → Nat) (y : Q3) (j m : Nat) (hj : j < 11) (hm : m ≤ 40) (hok : okQ (y 0))  : CI l yX6_holdsFor cX6_holdsFor 4 .int 7 161 G [.ref (b 0), .int (nI j), .int (nI m)] (wM G b y) (fun vR w' => vR = optR (upF (fun v => wetB (up2 (y 0) 3 j (nI v)) j m) 201 0) ∧ PubM G b (optX y (upF (fun v => wetB (up2 (y 0) 3 j (nI v)) j m) 201 0)) w') := by
  refine CI.mk (own := RX6) (by decide) rfl (Nat.le_of_ble_eq_true rfl) ?_
  intro X E ret
  show J X G 4 0 0 (wM G b y) [(0, .ref (b 0)), (1, .int (nI j)), (2, .int (nI m))] 0 []
  refine J_iload_n E dX6_holdsFor_0 rfl 1 rfl ?_
  refine J_cSiN E (As := [.int (nI j)]) (c_X6_isHouse l G (nI j) ) cl_X6_87 yo_X6_isHouse dX6_holdsFor_1 rfl (Nat.le_of_ble_eq_true rfl) (Nat.le_of_ble_eq_true rfl) rfl (Nat.le_of_ble_eq_true rfl) ⟨Nat.zero_le _, Nat.zero_le _⟩ ?_
  refine J_if_eq E (tgt := 14) dX6_holdsFor_4 (by decide) (fun c_4 => ?_) (fun c_4 => ?_)
  · skip
    have c_4 := bI_0 c_4
    exact absurd (inB (a := j) (b := 10) (by omega) (by decide)) c_4
  · skip
    have c_4 := bI_1 c_4
    refine J_iload_n E dX6_holdsFor_7 rfl 2 rfl ?_
    refine J_cSiN E (As := [.int (nI m)]) (c_X6_isSoon l G (nI m) ) cl_X6_176 yo_X6_isSoon dX6_holdsFor_8 rfl (Nat.le_of_ble_eq_true rfl) (Nat.le_of_ble_eq_true rfl) rfl (Nat.le_of_ble_eq_true rfl) ⟨Nat.zero_le _, Nat.zero_le _⟩ ?_
    refine J_if_ne E (tgt := 20) dX6_holdsFor_11 (by decide) (fun c_11 => ?_) (fun c_11 => ?_)
    · skip
      have c_11 := bI_1 c_11
      refine J_iconst E dX6_holdsFor_20 ic_0 ?_
      refine J_istore_n E (lv' := [(3, .int 0), (0, .ref (b 0)), (1, .int (nI j)), (2, .int (nI m))]) dX6_holdsFor_21 rfl (by decide) rfl ?_
      refine J_w (ws' := wM G b (upG y 5 (y 5))) (congrArg (wM G b) upG_id.symm) ?_
      have lp22 : ∀ (fu : Nat) (i : Nat) (d : Q2) (z : Q2), (i ≤ 201) → (upF (fun v => wetB (up2 (y 0) 3 j (nI v)) j m) 201 0 = upF (fun v => wetB (up2 (y 0) 3 j (nI v)) j m) (201 - i) i) → 201 - i < fu → J X G 4 0 0 (wM G b (upG (upG y 5 d) 2 z)) [(0, .ref (b 0)), (1, .int (nI j)), (2, .int (nI m)), (3, .int (nI i))] 22 [] := by
        intro fu
        induction fu with
        | zero => intro i d z hi h1 hm; exact absurd hm (Nat.not_lt_zero _)
        | succ fu ih22 =>
          intro i d z hi h1 hm
          refine J_iload_n E dX6_holdsFor_22 rfl 3 rfl ?_
          refine J_sipush E dX6_holdsFor_23 sp_200 ?_
          refine J_icmp_gt E (tgt := 46) dX6_holdsFor_26 (by decide) (fun c_26 => ?_) (fun c_26 => ?_)
          · skip
            have n_26 : 200 < i := cmp_lt (a := 200) (b := i) (by omega) (by omega) c_26
            have h2 : upF (fun v => wetB (up2 (y 0) 3 j (nI v)) j m) 201 0 = none := by rw [h1, show 201 - i = 0 by omega]; rfl
            refine J_iload_n E dX6_holdsFor_46 rfl 3 rfl ?_
            refine J_sipush E dX6_holdsFor_47 sp_200 ?_
            refine J_icmp_gt E (tgt := 57) dX6_holdsFor_50 (by decide) (fun c_50 => ?_) (fun c_50 => ?_)
            · skip
              have n_50 : 200 < i := cmp_lt (a := 200) (b := i) (by omega) (by omega) c_50
              refine J_aload_n E dX6_holdsFor_57 rfl 0 rfl ?_
              refine J_iconst E dX6_holdsFor_58 ic_3 ?_
              refine J_cVi0 E (As := [.int 3]) (c_X6_finds l G b (upG (upG y 5 d) 2 z) 3 (by omega)) cl_X6_96 yo_X6_finds dX6_holdsFor_59 rfl rfl rfl (Nat.le_of_ble_eq_true rfl) (Nat.le_of_ble_eq_true rfl) rfl (Nat.le_of_ble_eq_true rfl) ⟨Nat.zero_le _, Nat.zero_le _⟩ ?_
              refine J_top (x' := tellR 3) rfl ?_
              exact ret _ _ _ _ ⟨by first | (rw [h2]; rfl) | (exfalso; omega), _, rfl, by first | (rw [h2]; intro g h2 h5 h6; by_cases h0 : g = 0 <;> simp [optX, tellX, upG, up3, h0, h2, h5, h6]; done) | (exfalso; omega)⟩ rfl dX6_holdsFor_62
            · skip
              have n_50 : ¬ 200 < i := cmp_nlt (a := 200) (b := i) (by omega) (by omega) c_50
              refine J_iload_n E dX6_holdsFor_53 rfl 3 rfl ?_
              refine J_goto E (tgt := 62) dX6_holdsFor_54 (by decide) ?_
              exact ret _ _ _ _ ⟨by first | (rw [h2]; rfl) | (exfalso; omega), _, rfl, by first | (rw [h2]; intro g h2 h5 h6; by_cases h0 : g = 0 <;> simp [optX, tellX, upG, up3, h0, h2, h5, h6]; done) | (exfalso; omega)⟩ rfl dX6_holdsFor_62
          · skip
            have n_26 : ¬ 200 < i := cmp_nlt (a := 200) (b := i) (by omega) (by omega) c_26
            refine J_aload_n E dX6_holdsFor_29 rfl 0 rfl ?_
            refine J_iload_n E dX6_holdsFor_30 rfl 1 rfl ?_
            refine J_iload_n E dX6_holdsFor_31 rfl 2 rfl ?_
            refine J_iconst E dX6_holdsFor_32 ic_3 ?_
            refine J_iload_n E dX6_holdsFor_33 rfl 3 rfl ?_
            refine J_callEi E (As := [.int (nI j), .int (nI m), .int 3, .int (nI i)]) (c_X6_isWetBy l G b (upG (upG y 5 d) 2 z) j m 3 (nI i) (by omega) (by omega) (by decide) (okQ_w hok _ _ (by decide) (by decide))) cl_X6_182 yo_X6_isWetBy dX6_holdsFor_34 rfl (Nat.le_of_ble_eq_true rfl) (Nat.le_of_ble_eq_true rfl) rfl (Nat.le_of_ble_eq_true rfl) ⟨Nat.zero_le _, Nat.zero_le _⟩ (fun d34_1 => ?_)
            refine J_w (ws' := wM G b (upG (upG (upG (upG (upG y 5 d) 2 z) 2 (y 0)) 5 d34_1) 0 (y 0))) (wM_c rfl rfl rfl rfl rfl rfl rfl rfl rfl rfl rfl) ?_
            refine J_top (x' := bI (wetB (up2 (y 0) 3 j (nI i)) j m = true)) rfl ?_
            refine J_if_ne E (tgt := 46) dX6_holdsFor_37 (by decide) (fun c_37 => ?_) (fun c_37 => ?_)
            · skip
              have c_37 := bI_1 c_37
              have h2 : upF (fun v => wetB (up2 (y 0) 3 j (nI v)) j m) 201 0 = some i := by rw [h1, show 201 - i = (200 - i) + 1 by omega]; exact upF_t c_37
              refine J_iload_n E dX6_holdsFor_46 rfl 3 rfl ?_
              refine J_sipush E dX6_holdsFor_47 sp_200 ?_
              refine J_icmp_gt E (tgt := 57) dX6_holdsFor_50 (by decide) (fun c_50 => ?_) (fun c_50 => ?_)
              · skip
                have n_50 : 200 < i := cmp_lt (a := 200) (b := i) (by omega) (by omega) c_50
                refine J_aload_n E dX6_holdsFor_57 rfl 0 rfl ?_
                refine J_iconst E dX6_holdsFor_58 ic_3 ?_
                refine J_cVi0 E (As := [.int 3]) (c_X6_finds l G b (upG (upG (upG (upG (upG y 5 d) 2 z) 2 (y 0)) 5 d34_1) 0 (y 0)) 3 (by omega)) cl_X6_96 yo_X6_finds dX6_holdsFor_59 rfl rfl rfl (Nat.le_of_ble_eq_true rfl) (Nat.le_of_ble_eq_true rfl) rfl (Nat.le_of_ble_eq_true rfl) ⟨Nat.zero_le _, Nat.zero_le _⟩ ?_
                refine J_top (x' := tellR 3) rfl ?_
                exact ret _ _ _ _ ⟨by first | (rw [h2]; rfl) | (exfalso; omega), _, rfl, by first | (rw [h2]; intro g h2 h5 h6; by_cases h0 : g = 0 <;> simp [optX, tellX, upG, up3, h0, h2, h5, h6]; done) | (exfalso; omega)⟩ rfl dX6_holdsFor_62
              · skip
                have n_50 : ¬ 200 < i := cmp_nlt (a := 200) (b := i) (by omega) (by omega) c_50
                refine J_iload_n E dX6_holdsFor_53 rfl 3 rfl ?_
                refine J_goto E (tgt := 62) dX6_holdsFor_54 (by decide) ?_
                exact ret _ _ _ _ ⟨by first | (rw [h2]; rfl) | (exfalso; omega), _, rfl, by first | (rw [h2]; intro g h2 h5 h6; by_cases h0 : g = 0 <;> simp [optX, tellX, upG, up3, h0, h2, h5, h6]; done) | (exfalso; omega)⟩ rfl dX6_holdsFor_62
            · skip
              have c_37 := bI_0 c_37
              refine J_iinc E (lv' := [(3, .int (nI (i + 1))), (0, .ref (b 0)), (1, .int (nI j)), (2, .int (nI m))]) dX6_holdsFor_40 3 rfl (nI_inc _) (by decide) rfl ?_
              refine J_goto E (tgt := 22) dX6_holdsFor_43 (by decide) ?_
              refine J_lv [1, 2, 3, 0] rfl ?_
              refine J_w (ws' := wM G b (upG (upG y 5 d34_1) 2 (y 0))) (wM_c rfl rfl rfl rfl rfl rfl rfl rfl rfl rfl rfl) ?_
              exact ih22 (i + 1) d34_1 (y 0) (by omega) (by rw [h1, show 201 - i = (201 - (i + 1)) + 1 by omega]; exact upF_f c_37) (by omega)
      refine J_lv [1, 2, 3, 0] rfl ?_
      refine J_w (ws' := wM G b (upG (upG y 5 (y 5)) 2 (y 2))) (wM_c rfl rfl rfl rfl rfl rfl rfl rfl rfl rfl rfl) ?_
      exact lp22 _ 0 (y 5) (y 2) (by omega) rfl (Nat.lt_succ_self _)
    · skip
      have c_11 := bI_0 c_11
      exact absurd (inB (a := m) (b := 40) (by omega) (by decide)) c_11

set_option maxHeartbeats 4000000 in
set_option maxRecDepth 20000 in
theorem c_X6_needFor_bad (l : Launch) (G : GB) (b : Nat → Nat) (y : Q3) (h n : Int32) (hb : ¬ (okH h ∧ 0 ≤ n ∧ n ≤ 40)) : CI l yX6_needFor cX6_needFor 4 .int 2 45 G [.ref (b 0), .int h, .int n] (wM G b y) (fun vR w' => vR = tellR 0 ∧ PubM G b (tellX y 0) w') := by
  refine CI.mk (own := RX6) (by decide) rfl (Nat.le_of_ble_eq_true rfl) ?_
  intro X E ret
  show J X G 4 0 0 (wM G b y) [(0, .ref (b 0)), (1, .int h), (2, .int n)] 0 []
  refine J_iload_n E dX6_needFor_0 rfl 1 rfl ?_
  refine J_cSiN E (As := [.int h]) (c_X6_isHouse l G h ) cl_X6_87 yo_X6_isHouse dX6_needFor_1 rfl (Nat.le_of_ble_eq_true rfl) (Nat.le_of_ble_eq_true rfl) rfl (Nat.le_of_ble_eq_true rfl) ⟨Nat.zero_le _, Nat.zero_le _⟩ ?_
  refine J_if_eq E (tgt := 14) dX6_needFor_4 (by decide) (fun c_4 => ?_) (fun c_4 => ?_)
  · skip
    have c_4 := bI_0 c_4
    refine J_aload_n E dX6_needFor_14 rfl 0 rfl ?_
    refine J_iconst E dX6_needFor_15 ic_0 ?_
    refine J_cVi0 E (As := [.int 0]) (c_X6_finds l G b y 0 (by omega)) cl_X6_96 yo_X6_finds dX6_needFor_16 rfl rfl rfl (Nat.le_of_ble_eq_true rfl) (Nat.le_of_ble_eq_true rfl) rfl (Nat.le_of_ble_eq_true rfl) ⟨Nat.zero_le _, Nat.zero_le _⟩ ?_
    exact ret _ _ _ _ ⟨rfl, _, rfl, by intro g h2 h5 h6; by_cases h0 : g = 0 <;> simp [tellX, upG, up3, up3R, up2, h0, h2, h5, h6]⟩ rfl dX6_needFor_19
  · skip
    have c_4 := bI_1 c_4
    refine J_iload_n E dX6_needFor_7 rfl 2 rfl ?_
    refine J_cSiN E (As := [.int n]) (c_X6_isSoon l G n ) cl_X6_176 yo_X6_isSoon dX6_needFor_8 rfl (Nat.le_of_ble_eq_true rfl) (Nat.le_of_ble_eq_true rfl) rfl (Nat.le_of_ble_eq_true rfl) ⟨Nat.zero_le _, Nat.zero_le _⟩ ?_
    refine J_if_ne E (tgt := 20) dX6_needFor_11 (by decide) (fun c_11 => ?_) (fun c_11 => ?_)
    · skip
      have c_11 := bI_1 c_11
      exact absurd ⟨c_4, c_11⟩ hb
    · skip
      have c_11 := bI_0 c_11
      refine J_aload_n E dX6_needFor_14 rfl 0 rfl ?_
      refine J_iconst E dX6_needFor_15 ic_0 ?_
      refine J_cVi0 E (As := [.int 0]) (c_X6_finds l G b y 0 (by omega)) cl_X6_96 yo_X6_finds dX6_needFor_16 rfl rfl rfl (Nat.le_of_ble_eq_true rfl) (Nat.le_of_ble_eq_true rfl) rfl (Nat.le_of_ble_eq_true rfl) ⟨Nat.zero_le _, Nat.zero_le _⟩ ?_
      exact ret _ _ _ _ ⟨rfl, _, rfl, by intro g h2 h5 h6; by_cases h0 : g = 0 <;> simp [tellX, upG, up3, up3R, up2, h0, h2, h5, h6]⟩ rfl dX6_needFor_19

set_option maxHeartbeats 4000000 in
set_option maxRecDepth 20000 in
theorem c_X6_needFor_ok (l : Launch) (G : GB) (b : Nat → Nat) (y : Q3) (j m : Nat) (hj : j < 11) (hm : m ≤ 40) (hok : okQ (y 0))  : CI l yX6_needFor cX6_needFor 4 .int 7 161 G [.ref (b 0), .int (nI j), .int (nI m)] (wM G b y) (fun vR w' => vR = optR (topF (fun v => wetB (up2 (y 0) 2 j (nI v)) j m) 100) ∧ PubM G b (optX y (topF (fun v => wetB (up2 (y 0) 2 j (nI v)) j m) 100)) w') := by
  refine CI.mk (own := RX6) (by decide) rfl (Nat.le_of_ble_eq_true rfl) ?_
  intro X E ret
  show J X G 4 0 0 (wM G b y) [(0, .ref (b 0)), (1, .int (nI j)), (2, .int (nI m))] 0 []
  refine J_iload_n E dX6_needFor_0 rfl 1 rfl ?_
  refine J_cSiN E (As := [.int (nI j)]) (c_X6_isHouse l G (nI j) ) cl_X6_87 yo_X6_isHouse dX6_needFor_1 rfl (Nat.le_of_ble_eq_true rfl) (Nat.le_of_ble_eq_true rfl) rfl (Nat.le_of_ble_eq_true rfl) ⟨Nat.zero_le _, Nat.zero_le _⟩ ?_
  refine J_if_eq E (tgt := 14) dX6_needFor_4 (by decide) (fun c_4 => ?_) (fun c_4 => ?_)
  · skip
    have c_4 := bI_0 c_4
    exact absurd (inB (a := j) (b := 10) (by omega) (by decide)) c_4
  · skip
    have c_4 := bI_1 c_4
    refine J_iload_n E dX6_needFor_7 rfl 2 rfl ?_
    refine J_cSiN E (As := [.int (nI m)]) (c_X6_isSoon l G (nI m) ) cl_X6_176 yo_X6_isSoon dX6_needFor_8 rfl (Nat.le_of_ble_eq_true rfl) (Nat.le_of_ble_eq_true rfl) rfl (Nat.le_of_ble_eq_true rfl) ⟨Nat.zero_le _, Nat.zero_le _⟩ ?_
    refine J_if_ne E (tgt := 20) dX6_needFor_11 (by decide) (fun c_11 => ?_) (fun c_11 => ?_)
    · skip
      have c_11 := bI_1 c_11
      refine J_bipush E dX6_needFor_20 bp_99 ?_
      refine J_istore_n E (lv' := [(3, .int 99), (0, .ref (b 0)), (1, .int (nI j)), (2, .int (nI m))]) dX6_needFor_22 rfl (by decide) rfl ?_
      refine J_w (ws' := wM G b (upG y 5 (y 5))) (congrArg (wM G b) upG_id.symm) ?_
      have lp23 : ∀ (fu : Nat) (i : Nat) (xh : Int32) (d : Q2) (z : Q2), (xh = nI i + (-1)) → (i ≤ 100) → (topF (fun v => wetB (up2 (y 0) 2 j (nI v)) j m) 100 = topF (fun v => wetB (up2 (y 0) 2 j (nI v)) j m) i) → i < fu → J X G 4 0 0 (wM G b (upG (upG y 5 d) 2 z)) [(0, .ref (b 0)), (1, .int (nI j)), (2, .int (nI m)), (3, .int xh)] 23 [] := by
        intro fu
        induction fu with
        | zero => intro i xh d z hxh hi h1 hm; exact absurd hm (Nat.not_lt_zero _)
        | succ fu ih23 =>
          intro i xh d z hxh hi h1 hm
          refine J_iload_n E dX6_needFor_23 rfl 3 rfl ?_
          refine J_if_lt E (tgt := 44) dX6_needFor_24 (by decide) (fun c_24 => ?_) (fun c_24 => ?_)
          · skip
            have hi0 := dec_neg hxh (by omega) c_24
            have h2 : topF (fun v => wetB (up2 (y 0) 2 j (nI v)) j m) 100 = none := by rw [h1, hi0]; rfl
            refine J_iload_n E dX6_needFor_44 rfl 3 rfl ?_
            refine J_if_lt E (tgt := 52) dX6_needFor_45 (by decide) (fun c_45 => ?_) (fun c_45 => ?_)
            · skip
              refine J_aload_n E dX6_needFor_52 rfl 0 rfl ?_
              refine J_iconst E dX6_needFor_53 ic_3 ?_
              refine J_cVi0 E (As := [.int 3]) (c_X6_finds l G b (upG (upG y 5 d) 2 z) 3 (by omega)) cl_X6_96 yo_X6_finds dX6_needFor_54 rfl rfl rfl (Nat.le_of_ble_eq_true rfl) (Nat.le_of_ble_eq_true rfl) rfl (Nat.le_of_ble_eq_true rfl) ⟨Nat.zero_le _, Nat.zero_le _⟩ ?_
              refine J_top (x' := tellR 3) rfl ?_
              exact ret _ _ _ _ ⟨by first | (rw [h2]; rfl) | exact absurd c_45 (nI_pos (by omega)) | exact absurd c_24 c_45, _, rfl, by first | (rw [h2]; intro g h2 h5 h6; by_cases h0 : g = 0 <;> simp [optX, tellX, upG, up3, h0, h2, h5, h6]; done) | exact absurd c_45 (nI_pos (by omega)) | exact absurd c_24 c_45⟩ rfl dX6_needFor_57
            · skip
              refine J_iload_n E dX6_needFor_48 rfl 3 rfl ?_
              refine J_goto E (tgt := 57) dX6_needFor_49 (by decide) ?_
              exact ret _ _ _ _ ⟨by first | (rw [h2]; rfl) | exact absurd c_45 (nI_pos (by omega)) | exact absurd c_24 c_45, _, rfl, by first | (rw [h2]; intro g h2 h5 h6; by_cases h0 : g = 0 <;> simp [optX, tellX, upG, up3, h0, h2, h5, h6]; done) | exact absurd c_45 (nI_pos (by omega)) | exact absurd c_24 c_45⟩ rfl dX6_needFor_57
          · skip
            obtain ⟨u, rfl, rfl⟩ := dec_pos hxh (by omega) c_24
            refine J_aload_n E dX6_needFor_27 rfl 0 rfl ?_
            refine J_iload_n E dX6_needFor_28 rfl 1 rfl ?_
            refine J_iload_n E dX6_needFor_29 rfl 2 rfl ?_
            refine J_iconst E dX6_needFor_30 ic_2 ?_
            refine J_iload_n E dX6_needFor_31 rfl 3 rfl ?_
            refine J_callEi E (As := [.int (nI j), .int (nI m), .int 2, .int (nI u)]) (c_X6_isWetBy l G b (upG (upG y 5 d) 2 z) j m 2 (nI u) (by omega) (by omega) (by decide) (okQ_w hok _ _ (by decide) (by decide))) cl_X6_182 yo_X6_isWetBy dX6_needFor_32 rfl (Nat.le_of_ble_eq_true rfl) (Nat.le_of_ble_eq_true rfl) rfl (Nat.le_of_ble_eq_true rfl) ⟨Nat.zero_le _, Nat.zero_le _⟩ (fun d32_1 => ?_)
            refine J_w (ws' := wM G b (upG (upG (upG (upG (upG y 5 d) 2 z) 2 (y 0)) 5 d32_1) 0 (y 0))) (wM_c rfl rfl rfl rfl rfl rfl rfl rfl rfl rfl rfl) ?_
            refine J_top (x' := bI (wetB (up2 (y 0) 2 j (nI u)) j m = true)) rfl ?_
            refine J_if_ne E (tgt := 44) dX6_needFor_35 (by decide) (fun c_35 => ?_) (fun c_35 => ?_)
            · skip
              have c_35 := bI_1 c_35
              have h2 : topF (fun v => wetB (up2 (y 0) 2 j (nI v)) j m) 100 = some u := by rw [h1]; exact topF_t c_35
              refine J_iload_n E dX6_needFor_44 rfl 3 rfl ?_
              refine J_if_lt E (tgt := 52) dX6_needFor_45 (by decide) (fun c_45 => ?_) (fun c_45 => ?_)
              · skip
                have n_45 : u < 0 := cmp_lt (a := u) (b := 0) (by omega) (by omega) c_45
                refine J_aload_n E dX6_needFor_52 rfl 0 rfl ?_
                refine J_iconst E dX6_needFor_53 ic_3 ?_
                refine J_cVi0 E (As := [.int 3]) (c_X6_finds l G b (upG (upG (upG (upG (upG y 5 d) 2 z) 2 (y 0)) 5 d32_1) 0 (y 0)) 3 (by omega)) cl_X6_96 yo_X6_finds dX6_needFor_54 rfl rfl rfl (Nat.le_of_ble_eq_true rfl) (Nat.le_of_ble_eq_true rfl) rfl (Nat.le_of_ble_eq_true rfl) ⟨Nat.zero_le _, Nat.zero_le _⟩ ?_
                refine J_top (x' := tellR 3) rfl ?_
                exact ret _ _ _ _ ⟨by first | (rw [h2]; rfl) | exact absurd c_45 (nI_pos (by omega)) | exact absurd c_24 c_45, _, rfl, by first | (rw [h2]; intro g h2 h5 h6; by_cases h0 : g = 0 <;> simp [optX, tellX, upG, up3, h0, h2, h5, h6]; done) | exact absurd c_45 (nI_pos (by omega)) | exact absurd c_24 c_45⟩ rfl dX6_needFor_57
              · skip
                have n_45 : ¬ u < 0 := cmp_nlt (a := u) (b := 0) (by omega) (by omega) c_45
                refine J_iload_n E dX6_needFor_48 rfl 3 rfl ?_
                refine J_goto E (tgt := 57) dX6_needFor_49 (by decide) ?_
                exact ret _ _ _ _ ⟨by first | (rw [h2]; rfl) | exact absurd c_45 (nI_pos (by omega)) | exact absurd c_24 c_45, _, rfl, by first | (rw [h2]; intro g h2 h5 h6; by_cases h0 : g = 0 <;> simp [optX, tellX, upG, up3, h0, h2, h5, h6]; done) | exact absurd c_45 (nI_pos (by omega)) | exact absurd c_24 c_45⟩ rfl dX6_needFor_57
            · skip
              have c_35 := bI_0 c_35
              refine J_iinc E (lv' := [(3, .int ((nI u) + (-1))), (0, .ref (b 0)), (1, .int (nI j)), (2, .int (nI m))]) dX6_needFor_38 3 rfl (i_dec _) (by decide) rfl ?_
              refine J_goto E (tgt := 23) dX6_needFor_41 (by decide) ?_
              refine J_lv [1, 2, 3, 0] rfl ?_
              refine J_w (ws' := wM G b (upG (upG y 5 d32_1) 2 (y 0))) (wM_c rfl rfl rfl rfl rfl rfl rfl rfl rfl rfl rfl) ?_
              exact ih23 u ((nI u) + (-1)) d32_1 (y 0) rfl (by omega) (by rw [h1]; exact topF_f c_35) (by omega)
      refine J_lv [1, 2, 3, 0] rfl ?_
      refine J_w (ws' := wM G b (upG (upG y 5 (y 5)) 2 (y 2))) (wM_c rfl rfl rfl rfl rfl rfl rfl rfl rfl rfl rfl) ?_
      exact lp23 _ 100 99 (y 5) (y 2) (by decide) (by decide) rfl (Nat.lt_succ_self _)
    · skip
      have c_11 := bI_0 c_11
      exact absurd (inB (a := m) (b := 40) (by omega) (by decide)) c_11

set_option maxHeartbeats 4000000 in
set_option maxRecDepth 20000 in
theorem c_X6_kindsFor_bad (l : Launch) (G : GB) (b : Nat → Nat) (y : Q3) (h n : Int32) (hb : ¬ (okH h ∧ 0 ≤ n ∧ n ≤ 40)) : CI l yX6_kindsFor cX6_kindsFor 5 .int 2 45 G [.ref (b 0), .int h, .int n] (wM G b y) (fun vR w' => vR = tellR 0 ∧ PubM G b (tellX y 0) w') := by
  refine CI.mk (own := RX6) (by decide) rfl (Nat.le_of_ble_eq_true rfl) ?_
  intro X E ret
  show J X G 5 0 0 (wM G b y) [(0, .ref (b 0)), (1, .int h), (2, .int n)] 0 []
  refine J_iload_n E dX6_kindsFor_0 rfl 1 rfl ?_
  refine J_cSiN E (As := [.int h]) (c_X6_isHouse l G h ) cl_X6_87 yo_X6_isHouse dX6_kindsFor_1 rfl (Nat.le_of_ble_eq_true rfl) (Nat.le_of_ble_eq_true rfl) rfl (Nat.le_of_ble_eq_true rfl) ⟨Nat.zero_le _, Nat.zero_le _⟩ ?_
  refine J_if_eq E (tgt := 14) dX6_kindsFor_4 (by decide) (fun c_4 => ?_) (fun c_4 => ?_)
  · skip
    have c_4 := bI_0 c_4
    refine J_aload_n E dX6_kindsFor_14 rfl 0 rfl ?_
    refine J_iconst E dX6_kindsFor_15 ic_0 ?_
    refine J_cVi0 E (As := [.int 0]) (c_X6_finds l G b y 0 (by omega)) cl_X6_96 yo_X6_finds dX6_kindsFor_16 rfl rfl rfl (Nat.le_of_ble_eq_true rfl) (Nat.le_of_ble_eq_true rfl) rfl (Nat.le_of_ble_eq_true rfl) ⟨Nat.zero_le _, Nat.zero_le _⟩ ?_
    exact ret _ _ _ _ ⟨rfl, _, rfl, by intro g h2 h5 h6; by_cases h0 : g = 0 <;> simp [tellX, upG, up3, up3R, up2, h0, h2, h5, h6]⟩ rfl dX6_kindsFor_19
  · skip
    have c_4 := bI_1 c_4
    refine J_iload_n E dX6_kindsFor_7 rfl 2 rfl ?_
    refine J_cSiN E (As := [.int n]) (c_X6_isSoon l G n ) cl_X6_176 yo_X6_isSoon dX6_kindsFor_8 rfl (Nat.le_of_ble_eq_true rfl) (Nat.le_of_ble_eq_true rfl) rfl (Nat.le_of_ble_eq_true rfl) ⟨Nat.zero_le _, Nat.zero_le _⟩ ?_
    refine J_if_ne E (tgt := 20) dX6_kindsFor_11 (by decide) (fun c_11 => ?_) (fun c_11 => ?_)
    · skip
      have c_11 := bI_1 c_11
      exact absurd ⟨c_4, c_11⟩ hb
    · skip
      have c_11 := bI_0 c_11
      refine J_aload_n E dX6_kindsFor_14 rfl 0 rfl ?_
      refine J_iconst E dX6_kindsFor_15 ic_0 ?_
      refine J_cVi0 E (As := [.int 0]) (c_X6_finds l G b y 0 (by omega)) cl_X6_96 yo_X6_finds dX6_kindsFor_16 rfl rfl rfl (Nat.le_of_ble_eq_true rfl) (Nat.le_of_ble_eq_true rfl) rfl (Nat.le_of_ble_eq_true rfl) ⟨Nat.zero_le _, Nat.zero_le _⟩ ?_
      exact ret _ _ _ _ ⟨rfl, _, rfl, by intro g h2 h5 h6; by_cases h0 : g = 0 <;> simp [tellX, upG, up3, up3R, up2, h0, h2, h5, h6]⟩ rfl dX6_kindsFor_19

set_option maxHeartbeats 4000000 in
set_option maxRecDepth 20000 in
theorem c_X6_kindsFor_ok (l : Launch) (G : GB) (b : Nat → Nat) (y : Q3) (j m : Nat) (hj : j < 11) (hm : m ≤ 40) (hok : okQ (y 0))  : CI l yX6_kindsFor cX6_kindsFor 5 .int 7 161 G [.ref (b 0), .int (nI j), .int (nI m)] (wM G b y) (fun vR w' => vR = setF (fun k => wetB (up2 (y 0) 0 j (nI k)) j m) 7 ∧ PubM G b y w') := by
  refine CI.mk (own := RX6) (by decide) rfl (Nat.le_of_ble_eq_true rfl) ?_
  intro X E ret
  show J X G 5 0 0 (wM G b y) [(0, .ref (b 0)), (1, .int (nI j)), (2, .int (nI m))] 0 []
  refine J_iload_n E dX6_kindsFor_0 rfl 1 rfl ?_
  refine J_cSiN E (As := [.int (nI j)]) (c_X6_isHouse l G (nI j) ) cl_X6_87 yo_X6_isHouse dX6_kindsFor_1 rfl (Nat.le_of_ble_eq_true rfl) (Nat.le_of_ble_eq_true rfl) rfl (Nat.le_of_ble_eq_true rfl) ⟨Nat.zero_le _, Nat.zero_le _⟩ ?_
  refine J_if_eq E (tgt := 14) dX6_kindsFor_4 (by decide) (fun c_4 => ?_) (fun c_4 => ?_)
  · skip
    have c_4 := bI_0 c_4
    exact absurd (inB (a := j) (b := 10) (by omega) (by decide)) c_4
  · skip
    have c_4 := bI_1 c_4
    refine J_iload_n E dX6_kindsFor_7 rfl 2 rfl ?_
    refine J_cSiN E (As := [.int (nI m)]) (c_X6_isSoon l G (nI m) ) cl_X6_176 yo_X6_isSoon dX6_kindsFor_8 rfl (Nat.le_of_ble_eq_true rfl) (Nat.le_of_ble_eq_true rfl) rfl (Nat.le_of_ble_eq_true rfl) ⟨Nat.zero_le _, Nat.zero_le _⟩ ?_
    refine J_if_ne E (tgt := 20) dX6_kindsFor_11 (by decide) (fun c_11 => ?_) (fun c_11 => ?_)
    · skip
      have c_11 := bI_1 c_11
      refine J_iconst E dX6_kindsFor_20 ic_0 ?_
      refine J_istore_n E (lv' := [(3, .int 0), (0, .ref (b 0)), (1, .int (nI j)), (2, .int (nI m))]) dX6_kindsFor_21 rfl (by decide) rfl ?_
      refine J_iconst E dX6_kindsFor_22 ic_0 ?_
      refine J_istore E (lv' := [(4, .int 0), (3, .int 0), (0, .ref (b 0)), (1, .int (nI j)), (2, .int (nI m))]) dX6_kindsFor_23 (by decide) rfl ?_
      refine J_w (ws' := wM G b (upG y 5 (y 5))) (congrArg (wM G b) upG_id.symm) ?_
      have lp25 : ∀ (fu : Nat) (i : Nat) (s : Int32) (d : Q2) (z : Q2), (i ≤ 7) → (s = setF (fun k => wetB (up2 (y 0) 0 j (nI k)) j m) i) → 7 - i < fu → J X G 5 0 0 (wM G b (upG (upG y 5 d) 2 z)) [(0, .ref (b 0)), (1, .int (nI j)), (2, .int (nI m)), (3, .int s), (4, .int (nI i))] 25 [] := by
        intro fu
        induction fu with
        | zero => intro i s d z hi h1 hm; exact absurd hm (Nat.not_lt_zero _)
        | succ fu ih25 =>
          intro i s d z hi h1 hm
          refine J_iload E dX6_kindsFor_25 4 rfl ?_
          refine J_bipush E dX6_kindsFor_27 bp_6 ?_
          refine J_icmp_gt E (tgt := 61) dX6_kindsFor_29 (by decide) (fun c_29 => ?_) (fun c_29 => ?_)
          · skip
            have n_29 : 6 < i := cmp_lt (a := 6) (b := i) (by omega) (by omega) c_29
            refine J_iload_n E dX6_kindsFor_61 rfl 3 rfl ?_
            exact ret _ _ _ _ ⟨by rw [h1, show i = 7 by omega], _, rfl, by intro g h2 h5 h6; by_cases h0 : g = 0 <;> simp [tellX, upG, up3, up3R, up2, h0, h2, h5, h6]⟩ rfl dX6_kindsFor_62
          · skip
            have n_29 : ¬ 6 < i := cmp_nlt (a := 6) (b := i) (by omega) (by omega) c_29
            refine J_iload_n E dX6_kindsFor_32 rfl 3 rfl ?_
            refine J_aload_n E dX6_kindsFor_33 rfl 0 rfl ?_
            refine J_iload_n E dX6_kindsFor_34 rfl 1 rfl ?_
            refine J_iload_n E dX6_kindsFor_35 rfl 2 rfl ?_
            refine J_iconst E dX6_kindsFor_36 ic_0 ?_
            refine J_iload E dX6_kindsFor_37 4 rfl ?_
            refine J_callEi E (As := [.int (nI j), .int (nI m), .int 0, .int (nI i)]) (c_X6_isWetBy l G b (upG (upG y 5 d) 2 z) j m 0 (nI i) (by omega) (by omega) (by decide) (okQ_k hok _ (by omega))) cl_X6_182 yo_X6_isWetBy dX6_kindsFor_39 rfl (Nat.le_of_ble_eq_true rfl) (Nat.le_of_ble_eq_true rfl) rfl (Nat.le_of_ble_eq_true rfl) ⟨Nat.zero_le _, Nat.zero_le _⟩ (fun d39_1 => ?_)
            refine J_w (ws' := wM G b (upG (upG (upG (upG (upG y 5 d) 2 z) 2 (y 0)) 5 d39_1) 0 (y 0))) (wM_c rfl rfl rfl rfl rfl rfl rfl rfl rfl rfl rfl) ?_
            refine J_top (x' := bI (wetB (up2 (y 0) 0 j (nI i)) j m = true)) rfl ?_
            refine J_if_eq E (tgt := 52) dX6_kindsFor_42 (by decide) (fun c_42 => ?_) (fun c_42 => ?_)
            · skip
              have c_42 := bI_0 c_42
              refine J_iconst E dX6_kindsFor_52 ic_0 ?_
              refine J_ior E dX6_kindsFor_53 ?_
              refine J_istore_n E (lv' := [(3, .int (s ||| 0)), (0, .ref (b 0)), (1, .int (nI j)), (2, .int (nI m)), (4, .int (nI i))]) dX6_kindsFor_54 rfl (by decide) rfl ?_
              refine J_iinc E (lv' := [(4, .int (nI (i + 1))), (3, .int (s ||| 0)), (0, .ref (b 0)), (1, .int (nI j)), (2, .int (nI m))]) dX6_kindsFor_55 4 rfl (nI_inc _) (by decide) rfl ?_
              refine J_goto E (tgt := 25) dX6_kindsFor_58 (by decide) ?_
              refine J_lv [2, 3, 4, 1, 0] rfl ?_
              refine J_w (ws' := wM G b (upG (upG y 5 d39_1) 2 (y 0))) (wM_c rfl rfl rfl rfl rfl rfl rfl rfl rfl rfl rfl) ?_
              exact ih25 (i + 1) (s ||| 0) d39_1 (y 0) (by omega) (by rw [h1, setF]; first | (rw [if_pos c_42]; rfl) | (rw [if_neg c_42, or_0])) (by omega)
            · skip
              have c_42 := bI_1 c_42
              refine J_iconst E dX6_kindsFor_45 ic_1 ?_
              refine J_iload E dX6_kindsFor_46 4 rfl ?_
              refine J_ishl E dX6_kindsFor_48 ?_
              refine J_goto E (tgt := 53) dX6_kindsFor_49 (by decide) ?_
              refine J_ior E dX6_kindsFor_53 ?_
              refine J_istore_n E (lv' := [(3, .int (s ||| (1 <<< ((nI i) &&& 31)))), (0, .ref (b 0)), (1, .int (nI j)), (2, .int (nI m)), (4, .int (nI i))]) dX6_kindsFor_54 rfl (by decide) rfl ?_
              refine J_iinc E (lv' := [(4, .int (nI (i + 1))), (3, .int (s ||| (1 <<< ((nI i) &&& 31)))), (0, .ref (b 0)), (1, .int (nI j)), (2, .int (nI m))]) dX6_kindsFor_55 4 rfl (nI_inc _) (by decide) rfl ?_
              refine J_goto E (tgt := 25) dX6_kindsFor_58 (by decide) ?_
              refine J_lv [2, 3, 4, 1, 0] rfl ?_
              refine J_w (ws' := wM G b (upG (upG y 5 d39_1) 2 (y 0))) (wM_c rfl rfl rfl rfl rfl rfl rfl rfl rfl rfl rfl) ?_
              exact ih25 (i + 1) (s ||| (1 <<< ((nI i) &&& 31))) d39_1 (y 0) (by omega) (by rw [h1, setF]; first | (rw [if_pos c_42]; rfl) | (rw [if_neg c_42, or_0])) (by omega)
      refine J_lv [2, 3, 4, 1, 0] rfl ?_
      refine J_w (ws' := wM G b (upG (upG y 5 (y 5)) 2 (y 2))) (wM_c rfl rfl rfl rfl rfl rfl rfl rfl rfl rfl rfl) ?_
      exact lp25 _ 0 0 (y 5) (y 2) (by omega) rfl (Nat.lt_succ_self _)
    · skip
      have c_11 := bI_0 c_11
      exact absurd (inB (a := m) (b := 40) (by omega) (by decide)) c_11

set_option maxHeartbeats 4000000 in
set_option maxRecDepth 20000 in
theorem c_X6_kindFor_bad (l : Launch) (G : GB) (b : Nat → Nat) (y : Q3) (h n : Int32) (hb : ¬ (okH h ∧ 0 ≤ n ∧ n ≤ 40)) : CI l yX6_kindFor cX6_kindFor 7 .int 2 45 G [.ref (b 0), .int h, .int n] (wM G b y) (fun vR w' => vR = tellR 0 ∧ PubM G b (tellX y 0) w') := by
  refine CI.mk (own := RX6) (by decide) rfl (Nat.le_of_ble_eq_true rfl) ?_
  intro X E ret
  show J X G 7 0 0 (wM G b y) [(0, .ref (b 0)), (1, .int h), (2, .int n)] 0 []
  refine J_iload_n E dX6_kindFor_0 rfl 1 rfl ?_
  refine J_cSiN E (As := [.int h]) (c_X6_isHouse l G h ) cl_X6_87 yo_X6_isHouse dX6_kindFor_1 rfl (Nat.le_of_ble_eq_true rfl) (Nat.le_of_ble_eq_true rfl) rfl (Nat.le_of_ble_eq_true rfl) ⟨Nat.zero_le _, Nat.zero_le _⟩ ?_
  refine J_if_eq E (tgt := 14) dX6_kindFor_4 (by decide) (fun c_4 => ?_) (fun c_4 => ?_)
  · skip
    have c_4 := bI_0 c_4
    refine J_aload_n E dX6_kindFor_14 rfl 0 rfl ?_
    refine J_iconst E dX6_kindFor_15 ic_0 ?_
    refine J_cVi0 E (As := [.int 0]) (c_X6_finds l G b y 0 (by omega)) cl_X6_96 yo_X6_finds dX6_kindFor_16 rfl rfl rfl (Nat.le_of_ble_eq_true rfl) (Nat.le_of_ble_eq_true rfl) rfl (Nat.le_of_ble_eq_true rfl) ⟨Nat.zero_le _, Nat.zero_le _⟩ ?_
    exact ret _ _ _ _ ⟨rfl, _, rfl, by intro g h2 h5 h6; by_cases h0 : g = 0 <;> simp [tellX, upG, up3, up3R, up2, h0, h2, h5, h6]⟩ rfl dX6_kindFor_19
  · skip
    have c_4 := bI_1 c_4
    refine J_iload_n E dX6_kindFor_7 rfl 2 rfl ?_
    refine J_cSiN E (As := [.int n]) (c_X6_isSoon l G n ) cl_X6_176 yo_X6_isSoon dX6_kindFor_8 rfl (Nat.le_of_ble_eq_true rfl) (Nat.le_of_ble_eq_true rfl) rfl (Nat.le_of_ble_eq_true rfl) ⟨Nat.zero_le _, Nat.zero_le _⟩ ?_
    refine J_if_ne E (tgt := 20) dX6_kindFor_11 (by decide) (fun c_11 => ?_) (fun c_11 => ?_)
    · skip
      have c_11 := bI_1 c_11
      exact absurd ⟨c_4, c_11⟩ hb
    · skip
      have c_11 := bI_0 c_11
      refine J_aload_n E dX6_kindFor_14 rfl 0 rfl ?_
      refine J_iconst E dX6_kindFor_15 ic_0 ?_
      refine J_cVi0 E (As := [.int 0]) (c_X6_finds l G b y 0 (by omega)) cl_X6_96 yo_X6_finds dX6_kindFor_16 rfl rfl rfl (Nat.le_of_ble_eq_true rfl) (Nat.le_of_ble_eq_true rfl) rfl (Nat.le_of_ble_eq_true rfl) ⟨Nat.zero_le _, Nat.zero_le _⟩ ?_
      exact ret _ _ _ _ ⟨rfl, _, rfl, by intro g h2 h5 h6; by_cases h0 : g = 0 <;> simp [tellX, upG, up3, up3R, up2, h0, h2, h5, h6]⟩ rfl dX6_kindFor_19

set_option maxHeartbeats 4000000 in
set_option maxRecDepth 20000 in
theorem c_X6_kindFor_ok (l : Launch) (G : GB) (b : Nat → Nat) (y : Q3) (j m : Nat) (hj : j < 11) (hm : m ≤ 40) (hok : okQ (y 0))  : CI l yX6_kindFor cX6_kindFor 7 .int 6 135 G [.ref (b 0), .int (nI j), .int (nI m)] (wM G b y) (fun vR w' => vR = nI (argF (fun k => hoursR (up2 (y 0) 0 j (nI k)) m 7 3) 7).2 ∧ PubM G b y w') := by
  refine CI.mk (own := RX6) (by decide) rfl (Nat.le_of_ble_eq_true rfl) ?_
  intro X E ret
  show J X G 7 0 0 (wM G b y) [(0, .ref (b 0)), (1, .int (nI j)), (2, .int (nI m))] 0 []
  refine J_iload_n E dX6_kindFor_0 rfl 1 rfl ?_
  refine J_cSiN E (As := [.int (nI j)]) (c_X6_isHouse l G (nI j) ) cl_X6_87 yo_X6_isHouse dX6_kindFor_1 rfl (Nat.le_of_ble_eq_true rfl) (Nat.le_of_ble_eq_true rfl) rfl (Nat.le_of_ble_eq_true rfl) ⟨Nat.zero_le _, Nat.zero_le _⟩ ?_
  refine J_if_eq E (tgt := 14) dX6_kindFor_4 (by decide) (fun c_4 => ?_) (fun c_4 => ?_)
  · skip
    have c_4 := bI_0 c_4
    exact absurd (inB (a := j) (b := 10) (by omega) (by decide)) c_4
  · skip
    have c_4 := bI_1 c_4
    refine J_iload_n E dX6_kindFor_7 rfl 2 rfl ?_
    refine J_cSiN E (As := [.int (nI m)]) (c_X6_isSoon l G (nI m) ) cl_X6_176 yo_X6_isSoon dX6_kindFor_8 rfl (Nat.le_of_ble_eq_true rfl) (Nat.le_of_ble_eq_true rfl) rfl (Nat.le_of_ble_eq_true rfl) ⟨Nat.zero_le _, Nat.zero_le _⟩ ?_
    refine J_if_ne E (tgt := 20) dX6_kindFor_11 (by decide) (fun c_11 => ?_) (fun c_11 => ?_)
    · skip
      have c_11 := bI_1 c_11
      refine J_iconst E dX6_kindFor_20 ic_0 ?_
      refine J_istore_n E (lv' := [(3, .int 0), (0, .ref (b 0)), (1, .int (nI j)), (2, .int (nI m))]) dX6_kindFor_21 rfl (by decide) rfl ?_
      refine J_iconst E dX6_kindFor_22 ic_m1 ?_
      refine J_istore E (lv' := [(4, .int (-1)), (3, .int 0), (0, .ref (b 0)), (1, .int (nI j)), (2, .int (nI m))]) dX6_kindFor_23 (by decide) rfl ?_
      refine J_iconst E dX6_kindFor_25 ic_0 ?_
      refine J_istore E (lv' := [(5, .int 0), (4, .int (-1)), (3, .int 0), (0, .ref (b 0)), (1, .int (nI j)), (2, .int (nI m))]) dX6_kindFor_26 (by decide) rfl ?_
      refine J_w (ws' := wM G b (upG y 5 (y 5))) (congrArg (wM G b) upG_id.symm) ?_
      have lp28 : ∀ (fu : Nat) (i : Nat) (bs : Int32) (mo : Int32) (d : Q2) (z : Q2), (i ≤ 7) → (bs = nI (argF (fun k => hoursR (up2 (y 0) 0 j (nI k)) m 7 3) i).2) → (mo = (argF (fun k => hoursR (up2 (y 0) 0 j (nI k)) m 7 3) i).1) → 7 - i < fu → J X G 7 0 0 (wM G b (upG (upG y 5 d) 2 z)) [(0, .ref (b 0)), (1, .int (nI j)), (2, .int (nI m)), (3, .int bs), (4, .int mo), (5, .int (nI i))] 28 [] := by
        intro fu
        induction fu with
        | zero => intro i bs mo d z hi hb hm2 hm; exact absurd hm (Nat.not_lt_zero _)
        | succ fu ih28 =>
          intro i bs mo d z hi hb hm2 hm
          refine J_iload E dX6_kindFor_28 5 rfl ?_
          refine J_bipush E dX6_kindFor_30 bp_6 ?_
          refine J_icmp_gt E (tgt := 83) dX6_kindFor_32 (by decide) (fun c_32 => ?_) (fun c_32 => ?_)
          · skip
            have n_32 : 6 < i := cmp_lt (a := 6) (b := i) (by omega) (by omega) c_32
            refine J_iload_n E dX6_kindFor_83 rfl 3 rfl ?_
            exact ret _ _ _ _ ⟨by rw [hb, show i = 7 by omega], _, rfl, by intro g h2 h5 h6; by_cases h0 : g = 0 <;> simp [tellX, upG, up3, up3R, up2, h0, h2, h5, h6]⟩ rfl dX6_kindFor_84
          · skip
            have n_32 : ¬ 6 < i := cmp_nlt (a := 6) (b := i) (by omega) (by omega) c_32
            refine J_aload_n E dX6_kindFor_35 rfl 0 rfl ?_
            refine J_cVv0 E (As := []) (c_X6_lends l G b (upG (upG y 5 d) 2 z) ) cl_X6_160 yo_X6_lends dX6_kindFor_36 rfl rfl rfl (Nat.le_of_ble_eq_true rfl) (Nat.le_of_ble_eq_true rfl) rfl (Nat.le_of_ble_eq_true rfl) ⟨Nat.zero_le _, Nat.zero_le _⟩ ?_
            refine J_aload_n E dX6_kindFor_39 rfl 0 rfl ?_
            refine J_iload_n E dX6_kindFor_40 rfl 1 rfl ?_
            refine J_iconst E dX6_kindFor_41 ic_0 ?_
            refine J_iload E dX6_kindFor_42 5 rfl ?_
            refine J_cVv0 E (As := [.int (nI j), .int 0, .int (nI i)]) (c_X6_sets l G b (upG (upG (upG y 5 d) 2 z) 2 (y 0)) j 0 (nI i) (by omega) (by omega)) cl_X6_43 yo_X6_sets dX6_kindFor_44 rfl rfl rfl (Nat.le_of_ble_eq_true rfl) (Nat.le_of_ble_eq_true rfl) rfl (Nat.le_of_ble_eq_true rfl) ⟨Nat.zero_le _, Nat.zero_le _⟩ ?_
            refine J_aload_n E dX6_kindFor_47 rfl 0 rfl ?_
            refine J_iload_n E dX6_kindFor_48 rfl 2 rfl ?_
            refine J_callEi E (As := [.int (nI m)]) (c_X6_alleyIn l G b (upG (upG (upG (upG y 5 d) 2 z) 2 (y 0)) 0 (up2 (y 0) 0 j (nI i))) m (by omega) (okQ_k hok _ (by omega))) cl_X6_166 yo_X6_alleyIn dX6_kindFor_49 rfl (Nat.le_of_ble_eq_true rfl) (Nat.le_of_ble_eq_true rfl) rfl (Nat.le_of_ble_eq_true rfl) ⟨Nat.zero_le _, Nat.zero_le _⟩ (fun d49_1 => ?_)
            refine J_w (ws' := wM G b (upG (upG (upG (upG (upG (upG y 5 d) 2 z) 2 (y 0)) 0 (up2 (y 0) 0 j (nI i))) 5 d49_1) 0 (y 0))) (wM_c rfl rfl rfl rfl rfl rfl rfl rfl rfl rfl rfl) ?_
            refine J_top (x' := hoursR (up2 (y 0) 0 j (nI i)) m 7 3) rfl ?_
            refine J_istore E (lv' := [(6, .int (hoursR (up2 (y 0) 0 j (nI i)) m 7 3)), (0, .ref (b 0)), (1, .int (nI j)), (2, .int (nI m)), (3, .int bs), (4, .int mo), (5, .int (nI i))]) dX6_kindFor_52 (by decide) rfl ?_
            refine J_iload E dX6_kindFor_54 0 rfl ?_
            refine J_iload E dX6_kindFor_56 5 rfl ?_
            refine J_icmp_le E (tgt := 66) dX6_kindFor_58 (by decide) (fun c_58 => ?_) (fun c_58 => ?_)
            · skip
              refine J_iload_n E dX6_kindFor_66 rfl 4 rfl ?_
              refine J_istore_n E (lv' := [(3, .int bs), (6, .int (hoursR (up2 (y 0) 0 j (nI i)) m 7 3)), (0, .ref (b 0)), (1, .int (nI j)), (2, .int (nI m)), (4, .int mo), (5, .int (nI i))]) dX6_kindFor_67 rfl (by decide) rfl ?_
              refine J_iload E dX6_kindFor_68 5 rfl ?_
              refine J_iload E dX6_kindFor_70 1 rfl ?_
              refine J_mmax E ml_X6_68 st_mmax ini_J9 co_mmax dX6_kindFor_72 (by decide) (Nat.le_of_ble_eq_true rfl) ⟨Nat.zero_le _, Nat.zero_le _⟩ ?_
              refine J_istore E (lv' := [(4, .int (mx mo (hoursR (up2 (y 0) 0 j (nI i)) m 7 3))), (3, .int bs), (6, .int (hoursR (up2 (y 0) 0 j (nI i)) m 7 3)), (0, .ref (b 0)), (1, .int (nI j)), (2, .int (nI m)), (5, .int (nI i))]) dX6_kindFor_75 (by decide) rfl ?_
              refine J_iinc E (lv' := [(5, .int (nI (i + 1))), (4, .int (mx mo (hoursR (up2 (y 0) 0 j (nI i)) m 7 3))), (3, .int bs), (6, .int (hoursR (up2 (y 0) 0 j (nI i)) m 7 3)), (0, .ref (b 0)), (1, .int (nI j)), (2, .int (nI m))]) dX6_kindFor_77 6 rfl (nI_inc _) (by decide) rfl ?_
              refine J_goto E (tgt := 28) dX6_kindFor_80 (by decide) ?_
              refine J_lv [4, 5, 6, 2, 1, 0] rfl ?_
              refine J_w (ws' := wM G b (upG (upG y 5 d49_1) 2 (y 0))) (wM_c rfl rfl rfl rfl rfl rfl rfl rfl rfl rfl rfl) ?_
              exact ih28 (i + 1) bs (mx mo (hoursR (up2 (y 0) 0 j (nI i)) m 7 3)) d49_1 (y 0) (by omega) (by first | exact argF_b hm2 c_58 | (rw [hb]; exact argF_k hm2 c_58)) (argF_mx hm2) (by omega)
            · skip
              refine J_iload E dX6_kindFor_61 6 rfl ?_
              refine J_goto E (tgt := 67) dX6_kindFor_63 (by decide) ?_
              refine J_istore_n E (lv' := [(3, .int (nI i)), (6, .int (hoursR (up2 (y 0) 0 j (nI i)) m 7 3)), (0, .ref (b 0)), (1, .int (nI j)), (2, .int (nI m)), (4, .int mo), (5, .int (nI i))]) dX6_kindFor_67 rfl (by decide) rfl ?_
              refine J_iload E dX6_kindFor_68 5 rfl ?_
              refine J_iload E dX6_kindFor_70 1 rfl ?_
              refine J_mmax E ml_X6_68 st_mmax ini_J9 co_mmax dX6_kindFor_72 (by decide) (Nat.le_of_ble_eq_true rfl) ⟨Nat.zero_le _, Nat.zero_le _⟩ ?_
              refine J_istore E (lv' := [(4, .int (mx mo (hoursR (up2 (y 0) 0 j (nI i)) m 7 3))), (3, .int (nI i)), (6, .int (hoursR (up2 (y 0) 0 j (nI i)) m 7 3)), (0, .ref (b 0)), (1, .int (nI j)), (2, .int (nI m)), (5, .int (nI i))]) dX6_kindFor_75 (by decide) rfl ?_
              refine J_iinc E (lv' := [(5, .int (nI (i + 1))), (4, .int (mx mo (hoursR (up2 (y 0) 0 j (nI i)) m 7 3))), (3, .int (nI i)), (6, .int (hoursR (up2 (y 0) 0 j (nI i)) m 7 3)), (0, .ref (b 0)), (1, .int (nI j)), (2, .int (nI m))]) dX6_kindFor_77 6 rfl (nI_inc _) (by decide) rfl ?_
              refine J_goto E (tgt := 28) dX6_kindFor_80 (by decide) ?_
              refine J_lv [4, 5, 6, 2, 1, 0] rfl ?_
              refine J_w (ws' := wM G b (upG (upG y 5 d49_1) 2 (y 0))) (wM_c rfl rfl rfl rfl rfl rfl rfl rfl rfl rfl rfl) ?_
              exact ih28 (i + 1) (nI i) (mx mo (hoursR (up2 (y 0) 0 j (nI i)) m 7 3)) d49_1 (y 0) (by omega) (by first | exact argF_b hm2 c_58 | (rw [hb]; exact argF_k hm2 c_58)) (argF_mx hm2) (by omega)
      refine J_lv [3, 4, 5, 2, 1, 0] rfl ?_
      refine J_w (ws' := wM G b (upG (upG y 5 (y 5)) 2 (y 2))) (wM_c rfl rfl rfl rfl rfl rfl rfl rfl rfl rfl rfl) ?_
      exact lp28 _ 0 0 (-1) (y 5) (y 2) (by omega) rfl rfl (Nat.lt_succ_self _)
    · skip
      have c_11 := bI_0 c_11
      exact absurd (inB (a := m) (b := 40) (by omega) (by decide)) c_11

set_option maxHeartbeats 4000000 in
set_option maxRecDepth 20000 in
theorem c_X6_turns (l : Launch) (G : GB) (b : Nat → Nat) (y : Q3) (h : Nat) (hh : h < 11) : CV l yX6_turns cX6_turns 2 1 23 0 0 G [.ref (b 0), .int (nI h)] (wM G b y) (fun w' => w' = wM G b (upG y 0 (turn1 (y 0) h))) := by
  refine CV.mk (own := RX6) (by decide) rfl (Nat.le_of_ble_eq_true rfl) ?_
  intro X E _ _ _ ret
  show J X G 2 0 0 (wM G b y) [(0, .ref (b 0)), (1, .int (nI h))] 0 []
  refine J_aload_n E dX6_turns_0 rfl 0 rfl ?_
  refine J_iload_n E dX6_turns_1 rfl 1 rfl ?_
  refine J_iconst E dX6_turns_2 ic_4 ?_
  refine J_iconst E dX6_turns_3 ic_1 ?_
  refine J_aload_n E dX6_turns_4 rfl 0 rfl ?_
  refine J_iload_n E dX6_turns_5 rfl 1 rfl ?_
  refine J_iconst E dX6_turns_6 ic_4 ?_
  refine J_cVi0 E (As := [.int (nI h), .int 4]) (c_X6_its l G b y h 4 (by omega) (by omega)) cl_X6_64 yo_X6_its dX6_turns_7 rfl rfl rfl (Nat.le_of_ble_eq_true rfl) (Nat.le_of_ble_eq_true rfl) rfl (Nat.le_of_ble_eq_true rfl) ⟨Nat.zero_le _, Nat.zero_le _⟩ ?_
  refine J_isub E dX6_turns_10 ?_
  refine J_cVv0 E (As := [.int (nI h), .int 4, .int (1 - (y 0 4 h))]) (c_X6_sets l G b y h 4 (1 - (y 0 4 h)) (by omega) (by omega)) cl_X6_43 yo_X6_sets dX6_turns_11 rfl rfl rfl (Nat.le_of_ble_eq_true rfl) (Nat.le_of_ble_eq_true rfl) rfl (Nat.le_of_ble_eq_true rfl) ⟨Nat.zero_le _, Nat.zero_le _⟩ ?_
  exact ret _ _ _ (congrArg (wM G b) (rfl)) dX6_turns_14

set_option maxHeartbeats 4000000 in
set_option maxRecDepth 20000 in
theorem c_X6_dryBy (l : Launch) (G : GB) (b : Nat → Nat) (y : Q3) (s : Int32) (m : Nat) (hm : m ≤ 1000) (hok : okQ (y 0))  : CI l yX6_dryBy cX6_dryBy 4 .int 5 114 G [.ref (b 0), .int s, .int (nI m)] (wM G b y) (fun vR w' => vR = drysR (turnRQ (y 0) s) m ∧ ∃ d : Q2, w' = wM G b (upG (upG (upG y 2 (y 0)) 5 d) 0 (y 0))) := by
  refine CI.mk (own := RX6) (by decide) rfl (Nat.le_of_ble_eq_true rfl) ?_
  intro X E ret
  show J X G 4 0 0 (wM G b y) [(0, .ref (b 0)), (1, .int s), (2, .int (nI m))] 0 []
  refine J_aload_n E dX6_dryBy_0 rfl 0 rfl ?_
  refine J_cVv0 E (As := []) (c_X6_lends l G b y ) cl_X6_160 yo_X6_lends dX6_dryBy_1 rfl rfl rfl (Nat.le_of_ble_eq_true rfl) (Nat.le_of_ble_eq_true rfl) rfl (Nat.le_of_ble_eq_true rfl) ⟨Nat.zero_le _, Nat.zero_le _⟩ ?_
  refine J_iconst E dX6_dryBy_4 ic_0 ?_
  refine J_istore_n E (lv' := [(3, .int 0), (0, .ref (b 0)), (1, .int s), (2, .int (nI m))]) dX6_dryBy_5 rfl (by decide) rfl ?_
  have lp6 : ∀ (fu : Nat) (i : Nat) (z : Q2) (r : Q2), (z = y 0) → (i ≤ 11) → (r = turnRS (y 0) s i) → 11 - i < fu → J X G 4 0 0 (wM G b (upG (upG y 2 z) 0 r)) [(0, .ref (b 0)), (1, .int s), (2, .int (nI m)), (3, .int (nI i))] 6 [] := by
    intro fu
    induction fu with
    | zero => intro i z r hz hi hr hm; exact absurd hm (Nat.not_lt_zero _)
    | succ fu ih6 =>
      intro i z r hz hi hr hm
      refine J_iload_n E dX6_dryBy_6 rfl 3 rfl ?_
      refine J_bipush E dX6_dryBy_7 bp_11 ?_
      refine J_icmp_ge E (tgt := 32) dX6_dryBy_9 (by decide) (fun c_9 => ?_) (fun c_9 => ?_)
      · skip
        have n_9 : 11 ≤ i := cmp_le (a := 11) (b := i) (by omega) (by omega) c_9
        refine J_aload_n E dX6_dryBy_32 rfl 0 rfl ?_
        refine J_iload_n E dX6_dryBy_33 rfl 2 rfl ?_
        refine J_callEi E (As := [.int (nI m)]) (c_X6_dryIn l G b (upG (upG y 2 z) 0 r) m (by omega) (by rw [hr]; exact okQ_t hok s i hi)) cl_X6_169 yo_X6_dryIn dX6_dryBy_34 rfl (Nat.le_of_ble_eq_true rfl) (Nat.le_of_ble_eq_true rfl) rfl (Nat.le_of_ble_eq_true rfl) ⟨Nat.zero_le _, Nat.zero_le _⟩ (fun d34_1 => ?_)
        refine J_w (ws' := wM G b (upG (upG (upG (upG y 2 z) 0 r) 5 d34_1) 0 (hoursR r m))) (wM_c rfl rfl rfl rfl rfl rfl rfl rfl rfl rfl rfl) ?_
        refine J_top (x' := drysR r m) rfl ?_
        refine J_istore_n E (lv' := [(3, .int (drysR r m)), (0, .ref (b 0)), (1, .int s), (2, .int (nI m))]) dX6_dryBy_37 rfl (by decide) rfl ?_
        refine J_aload_n E dX6_dryBy_38 rfl 1 rfl ?_
        refine J_cVv0 E (As := []) (c_X6_laysBack l G b (upG (upG (upG (upG y 2 z) 0 r) 5 d34_1) 0 (hoursR r m)) ) cl_X6_163 yo_X6_laysBack dX6_dryBy_39 rfl rfl rfl (Nat.le_of_ble_eq_true rfl) (Nat.le_of_ble_eq_true rfl) rfl (Nat.le_of_ble_eq_true rfl) ⟨Nat.zero_le _, Nat.zero_le _⟩ ?_
        refine J_iload_n E dX6_dryBy_42 rfl 0 rfl ?_
        exact ret _ _ _ _ ⟨by rw [hr, show i = 11 by omega]; rfl, d34_1, by subst hz; exact (wM_c rfl rfl rfl rfl rfl rfl rfl rfl rfl rfl rfl)⟩ rfl dX6_dryBy_43
      · skip
        have n_9 : ¬ 11 ≤ i := cmp_nle (a := 11) (b := i) (by omega) (by omega) c_9
        refine J_iload_n E dX6_dryBy_12 rfl 1 rfl ?_
        refine J_iload_n E dX6_dryBy_13 rfl 3 rfl ?_
        refine J_ishr E dX6_dryBy_14 ?_
        refine J_iconst E dX6_dryBy_15 ic_1 ?_
        refine J_iand E dX6_dryBy_16 ?_
        refine J_iconst E dX6_dryBy_17 ic_1 ?_
        refine J_icmp_ne E (tgt := 26) dX6_dryBy_18 (by decide) (fun c_18 => ?_) (fun c_18 => ?_)
        · skip
          refine J_iinc E (lv' := [(3, .int (nI (i + 1))), (0, .ref (b 0)), (1, .int s), (2, .int (nI m))]) dX6_dryBy_26 3 rfl (nI_inc _) (by decide) rfl ?_
          refine J_goto E (tgt := 6) dX6_dryBy_29 (by decide) ?_
          refine J_lv [1, 2, 3, 0] rfl ?_
          refine J_w (ws' := wM G b (upG (upG y 2 z) 0 r)) (wM_c rfl rfl rfl rfl rfl rfl rfl rfl rfl rfl rfl) ?_
          exact ih6 (i + 1) z r hz (by omega) (by rw [hr, turnRS]; first | rw [if_pos c_18] | rw [if_neg c_18]) (by omega)
        · skip
          refine J_aload_n E dX6_dryBy_21 rfl 0 rfl ?_
          refine J_iload_n E dX6_dryBy_22 rfl 3 rfl ?_
          refine J_cVv0 E (As := [.int (nI i)]) (c_X6_turns l G b (upG (upG y 2 z) 0 r) i (by omega)) cl_X6_186 yo_X6_turns dX6_dryBy_23 rfl rfl rfl (Nat.le_of_ble_eq_true rfl) (Nat.le_of_ble_eq_true rfl) rfl (Nat.le_of_ble_eq_true rfl) ⟨Nat.zero_le _, Nat.zero_le _⟩ ?_
          refine J_iinc E (lv' := [(3, .int (nI (i + 1))), (0, .ref (b 0)), (1, .int s), (2, .int (nI m))]) dX6_dryBy_26 3 rfl (nI_inc _) (by decide) rfl ?_
          refine J_goto E (tgt := 6) dX6_dryBy_29 (by decide) ?_
          refine J_lv [1, 2, 3, 0] rfl ?_
          refine J_w (ws' := wM G b (upG (upG y 2 z) 0 (turn1 r i))) (wM_c rfl rfl rfl rfl rfl rfl rfl rfl rfl rfl rfl) ?_
          exact ih6 (i + 1) z (turn1 r i) hz (by omega) (by rw [hr, turnRS]; first | rw [if_pos c_18] | rw [if_neg c_18]) (by omega)
  refine J_lv [1, 2, 3, 0] rfl ?_
  refine J_w (ws' := wM G b (upG (upG y 2 (y 0)) 0 (y 0))) (wM_c rfl rfl rfl rfl rfl rfl rfl rfl rfl rfl rfl) ?_
  exact lp6 _ 0 (y 0) (y 0) rfl (by omega) rfl (Nat.lt_succ_self _)

set_option maxHeartbeats 4000000 in
set_option maxRecDepth 20000 in
theorem c_X6_turn_bad (l : Launch) (G : GB) (b : Nat → Nat) (y : Q3) (v n : Int32) (hb : ¬ ((0 ≤ v ∧ v ≤ 2047) ∧ 0 ≤ n ∧ n ≤ 12)) : CI l yX6_turn cX6_turn 6 .int 1 25 G [.ref (b 0), .int v, .int n] (wM G b y) (fun vR w' => vR = tellR 0 ∧ PubM G b (tellX y 0) w') := by
  refine CI.mk (own := RX6) (by decide) rfl (Nat.le_of_ble_eq_true rfl) ?_
  intro X E ret
  show J X G 6 0 0 (wM G b y) [(0, .ref (b 0)), (1, .int v), (2, .int n)] 0 []
  refine J_iload_n E dX6_turn_0 rfl 1 rfl ?_
  refine J_i2l E dX6_turn_1 rfl ?_
  refine J_lconst E dX6_turn_2 lc_0 ?_
  refine J_ldc2 E kl_X6_113 dX6_turn_3 ?_
  refine J_cSiN E (As := [.long (Int32.toInt64 v), .long 0, .long 2047]) (c_X6_in l G v 0 2047 0 2047 (by decide) (by decide) ) cl_X6_54 yo_X6_in dX6_turn_6 rfl (Nat.le_of_ble_eq_true rfl) (Nat.le_of_ble_eq_true rfl) rfl (Nat.le_of_ble_eq_true rfl) ⟨Nat.zero_le _, Nat.zero_le _⟩ ?_
  refine J_if_eq E (tgt := 24) dX6_turn_9 (by decide) (fun c_9 => ?_) (fun c_9 => ?_)
  · skip
    have c_9 := bI_0 c_9
    refine J_aload_n E dX6_turn_24 rfl 0 rfl ?_
    refine J_iconst E dX6_turn_25 ic_0 ?_
    refine J_cVi0 E (As := [.int 0]) (c_X6_finds l G b y 0 (by omega)) cl_X6_96 yo_X6_finds dX6_turn_26 rfl rfl rfl (Nat.le_of_ble_eq_true rfl) (Nat.le_of_ble_eq_true rfl) rfl (Nat.le_of_ble_eq_true rfl) ⟨Nat.zero_le _, Nat.zero_le _⟩ ?_
    exact ret _ _ _ _ ⟨rfl, _, rfl, by intro g h2 h5 h6; by_cases h0 : g = 0 <;> simp [tellX, upG, up3, up3R, up2, h0, h2, h5, h6]⟩ rfl dX6_turn_29
  · skip
    have c_9 := bI_1 c_9
    refine J_iload_n E dX6_turn_12 rfl 2 rfl ?_
    refine J_i2l E dX6_turn_13 rfl ?_
    refine J_lconst E dX6_turn_14 lc_0 ?_
    refine J_ldc2 E kl_X6_189 dX6_turn_15 ?_
    refine J_cSiN E (As := [.long (Int32.toInt64 n), .long 0, .long 12]) (c_X6_in l G n 0 12 0 12 (by decide) (by decide) ) cl_X6_54 yo_X6_in dX6_turn_18 rfl (Nat.le_of_ble_eq_true rfl) (Nat.le_of_ble_eq_true rfl) rfl (Nat.le_of_ble_eq_true rfl) ⟨Nat.zero_le _, Nat.zero_le _⟩ ?_
    refine J_if_ne E (tgt := 30) dX6_turn_21 (by decide) (fun c_21 => ?_) (fun c_21 => ?_)
    · skip
      have c_21 := bI_1 c_21
      exact absurd ⟨c_9, c_21⟩ hb
    · skip
      have c_21 := bI_0 c_21
      refine J_aload_n E dX6_turn_24 rfl 0 rfl ?_
      refine J_iconst E dX6_turn_25 ic_0 ?_
      refine J_cVi0 E (As := [.int 0]) (c_X6_finds l G b y 0 (by omega)) cl_X6_96 yo_X6_finds dX6_turn_26 rfl rfl rfl (Nat.le_of_ble_eq_true rfl) (Nat.le_of_ble_eq_true rfl) rfl (Nat.le_of_ble_eq_true rfl) ⟨Nat.zero_le _, Nat.zero_le _⟩ ?_
      exact ret _ _ _ _ ⟨rfl, _, rfl, by intro g h2 h5 h6; by_cases h0 : g = 0 <;> simp [tellX, upG, up3, up3R, up2, h0, h2, h5, h6]⟩ rfl dX6_turn_29

set_option maxHeartbeats 4000000 in
set_option maxRecDepth 20000 in
theorem c_X6_turn_ok (l : Launch) (G : GB) (b : Nat → Nat) (y : Q3) (v : Int32) (m : Nat) (hv : 0 ≤ v ∧ v ≤ 2047) (hm : m ≤ 12) (hok : okQ (y 0))  : CI l yX6_turn cX6_turn 6 .int 6 137 G [.ref (b 0), .int v, .int (nI m)] (wM G b y) (fun vR w' => vR = (if tbF (y 0) v m 2048 < 0 then tellR 3 else tbF (y 0) v m 2048) ∧ PubM G b (if tbF (y 0) v m 2048 < 0 then tellX y 3 else y) w') := by
  refine CI.mk (own := RX6) (by decide) rfl (Nat.le_of_ble_eq_true rfl) ?_
  intro X E ret
  show J X G 6 0 0 (wM G b y) [(0, .ref (b 0)), (1, .int v), (2, .int (nI m))] 0 []
  refine J_iload_n E dX6_turn_0 rfl 1 rfl ?_
  refine J_i2l E dX6_turn_1 rfl ?_
  refine J_lconst E dX6_turn_2 lc_0 ?_
  refine J_ldc2 E kl_X6_113 dX6_turn_3 ?_
  refine J_cSiN E (As := [.long (Int32.toInt64 v), .long 0, .long 2047]) (c_X6_in l G v 0 2047 0 2047 (by decide) (by decide) ) cl_X6_54 yo_X6_in dX6_turn_6 rfl (Nat.le_of_ble_eq_true rfl) (Nat.le_of_ble_eq_true rfl) rfl (Nat.le_of_ble_eq_true rfl) ⟨Nat.zero_le _, Nat.zero_le _⟩ ?_
  refine J_if_eq E (tgt := 24) dX6_turn_9 (by decide) (fun c_9 => ?_) (fun c_9 => ?_)
  · skip
    have c_9 := bI_0 c_9
    exact absurd (by assumption) c_9
  · skip
    have c_9 := bI_1 c_9
    refine J_iload_n E dX6_turn_12 rfl 2 rfl ?_
    refine J_i2l E dX6_turn_13 rfl ?_
    refine J_lconst E dX6_turn_14 lc_0 ?_
    refine J_ldc2 E kl_X6_189 dX6_turn_15 ?_
    refine J_cSiN E (As := [.long (Int32.toInt64 (nI m)), .long 0, .long 12]) (c_X6_in l G (nI m) 0 12 0 12 (by decide) (by decide) ) cl_X6_54 yo_X6_in dX6_turn_18 rfl (Nat.le_of_ble_eq_true rfl) (Nat.le_of_ble_eq_true rfl) rfl (Nat.le_of_ble_eq_true rfl) ⟨Nat.zero_le _, Nat.zero_le _⟩ ?_
    refine J_if_ne E (tgt := 30) dX6_turn_21 (by decide) (fun c_21 => ?_) (fun c_21 => ?_)
    · skip
      have c_21 := bI_1 c_21
      refine J_iconst E dX6_turn_30 ic_m1 ?_
      refine J_istore_n E (lv' := [(3, .int (-1)), (0, .ref (b 0)), (1, .int v), (2, .int (nI m))]) dX6_turn_31 rfl (by decide) rfl ?_
      refine J_iconst E dX6_turn_32 ic_0 ?_
      refine J_istore E (lv' := [(4, .int 0), (3, .int (-1)), (0, .ref (b 0)), (1, .int v), (2, .int (nI m))]) dX6_turn_33 (by decide) rfl ?_
      refine J_w (ws' := wM G b (upG y 5 (y 5))) (congrArg (wM G b) upG_id.symm) ?_
      have lp35 : ∀ (fu : Nat) (i : Nat) (t : Int32) (d : Q2) (z : Q2), (i ≤ 2048) → (t = tbF (y 0) v m i) → 2048 - i < fu → J X G 6 0 0 (wM G b (upG (upG y 5 d) 2 z)) [(0, .ref (b 0)), (1, .int v), (2, .int (nI m)), (3, .int t), (4, .int (nI i))] 35 [] := by
        intro fu
        induction fu with
        | zero => intro i t d z hi h1 hm; exact absurd hm (Nat.not_lt_zero _)
        | succ fu ih35 =>
          intro i t d z hi h1 hm
          refine J_iload E dX6_turn_35 4 rfl ?_
          refine J_sipush E dX6_turn_37 sp_2047 ?_
          refine J_icmp_gt E (tgt := 96) dX6_turn_40 (by decide) (fun c_40 => ?_) (fun c_40 => ?_)
          · skip
            have n_40 : 2047 < i := cmp_lt (a := 2047) (b := i) (by omega) (by omega) c_40
            refine J_iload_n E dX6_turn_96 rfl 3 rfl ?_
            refine J_if_ge E (tgt := 108) dX6_turn_97 (by decide) (fun c_97 => ?_) (fun c_97 => ?_)
            · skip
              refine J_iload_n E dX6_turn_108 rfl 3 rfl ?_
              exact ret _ _ _ _ ⟨by first | (rw [h1, show i = 2048 by omega] at c_97; rw [if_neg (Int32.not_lt.mpr c_97), h1, show i = 2048 by omega]) | (rw [h1, show i = 2048 by omega] at c_97; rw [if_pos (Int32.not_le.mp c_97)]), _, rfl, by first | (rw [h1, show i = 2048 by omega] at c_97; rw [if_neg (Int32.not_lt.mpr c_97)]; intro g h2 h5 h6; by_cases h0 : g = 0 <;> simp [optX, tellX, upG, up3, h0, h2, h5, h6]; done; done) | (rw [h1, show i = 2048 by omega] at c_97; rw [if_pos (Int32.not_le.mp c_97)]; intro g h2 h5 h6; by_cases h0 : g = 0 <;> simp [optX, tellX, upG, up3, h0, h2, h5, h6]; done; done)⟩ rfl dX6_turn_109
            · skip
              refine J_aload_n E dX6_turn_100 rfl 0 rfl ?_
              refine J_iconst E dX6_turn_101 ic_3 ?_
              refine J_cVi0 E (As := [.int 3]) (c_X6_finds l G b (upG (upG y 5 d) 2 z) 3 (by omega)) cl_X6_96 yo_X6_finds dX6_turn_102 rfl rfl rfl (Nat.le_of_ble_eq_true rfl) (Nat.le_of_ble_eq_true rfl) rfl (Nat.le_of_ble_eq_true rfl) ⟨Nat.zero_le _, Nat.zero_le _⟩ ?_
              refine J_top (x' := tellR 3) rfl ?_
              refine J_goto E (tgt := 109) dX6_turn_105 (by decide) ?_
              exact ret _ _ _ _ ⟨by first | (rw [h1, show i = 2048 by omega] at c_97; rw [if_neg (Int32.not_lt.mpr c_97), h1, show i = 2048 by omega]) | (rw [h1, show i = 2048 by omega] at c_97; rw [if_pos (Int32.not_le.mp c_97)]), _, rfl, by first | (rw [h1, show i = 2048 by omega] at c_97; rw [if_neg (Int32.not_lt.mpr c_97)]; intro g h2 h5 h6; by_cases h0 : g = 0 <;> simp [optX, tellX, upG, up3, h0, h2, h5, h6]; done; done) | (rw [h1, show i = 2048 by omega] at c_97; rw [if_pos (Int32.not_le.mp c_97)]; intro g h2 h5 h6; by_cases h0 : g = 0 <;> simp [optX, tellX, upG, up3, h0, h2, h5, h6]; done; done)⟩ rfl dX6_turn_109
          · skip
            have n_40 : ¬ 2047 < i := cmp_nlt (a := 2047) (b := i) (by omega) (by omega) c_40
            refine J_iload_n E dX6_turn_43 rfl 3 rfl ?_
            refine J_if_lt E (tgt := 59) dX6_turn_44 (by decide) (fun c_44 => ?_) (fun c_44 => ?_)
            · skip
              refine J_iconst E dX6_turn_59 ic_1 ?_
              refine J_goto E (tgt := 64) dX6_turn_60 (by decide) ?_
              refine J_istore E (lv' := [(5, .int 1), (0, .ref (b 0)), (1, .int v), (2, .int (nI m)), (3, .int t), (4, .int (nI i))]) dX6_turn_64 (by decide) rfl ?_
              refine J_iload E dX6_turn_66 0 rfl ?_
              refine J_if_eq E (tgt := 88) dX6_turn_68 (by decide) (fun c_68 => ?_) (fun c_68 => ?_)
              · skip
                have n_68 : 1 = 0 := cmp_eq (a := 1) (b := 0) (by omega) (by omega) c_68
                exact absurd n_68 (by decide)
              · skip
                have n_68 : ¬ 1 = 0 := cmp_ne (a := 1) (b := 0) (by omega) (by omega) c_68
                refine J_aload_n E dX6_turn_71 rfl 1 rfl ?_
                refine J_iload E dX6_turn_72 5 rfl ?_
                refine J_iload_n E dX6_turn_74 rfl 3 rfl ?_
                refine J_callEi E (As := [.int (nI i), .int (nI m)]) (c_X6_dryBy l G b (upG (upG y 5 d) 2 z) (nI i) m (by omega) hok) cl_X6_194 yo_X6_dryBy dX6_turn_75 rfl (Nat.le_of_ble_eq_true rfl) (Nat.le_of_ble_eq_true rfl) rfl (Nat.le_of_ble_eq_true rfl) ⟨Nat.zero_le _, Nat.zero_le _⟩ (fun d75_1 => ?_)
                refine J_w (ws' := wM G b (upG (upG (upG (upG (upG y 5 d) 2 z) 2 (y 0)) 5 d75_1) 0 (y 0))) (wM_c rfl rfl rfl rfl rfl rfl rfl rfl rfl rfl rfl) ?_
                refine J_top (x' := drysR (turnRQ (y 0) (nI i)) m) rfl ?_
                refine J_iload_n E dX6_turn_78 rfl 2 rfl ?_
                refine J_iand E dX6_turn_79 ?_
                refine J_if_ne E (tgt := 88) dX6_turn_80 (by decide) (fun c_80 => ?_) (fun c_80 => ?_)
                · skip
                  refine J_iload_n E dX6_turn_88 rfl 4 rfl ?_
                  refine J_istore_n E (lv' := [(3, .int t), (5, .int 1), (0, .ref (b 0)), (1, .int v), (2, .int (nI m)), (4, .int (nI i))]) dX6_turn_89 rfl (by decide) rfl ?_
                  refine J_iinc E (lv' := [(4, .int (nI (i + 1))), (3, .int t), (5, .int 1), (0, .ref (b 0)), (1, .int v), (2, .int (nI m))]) dX6_turn_90 5 rfl (nI_inc _) (by decide) rfl ?_
                  refine J_goto E (tgt := 35) dX6_turn_93 (by decide) ?_
                  refine J_lv [3, 4, 5, 1, 0] rfl ?_
                  refine J_w (ws' := wM G b (upG (upG y 5 d75_1) 2 (y 0))) (wM_c rfl rfl rfl rfl rfl rfl rfl rfl rfl rfl rfl) ?_
                  exact ih35 (i + 1) t d75_1 (y 0) (by omega) (by rw [h1] at *; rw [tbF]; first | rw [if_pos ⟨Or.inl c_44, c_80⟩] | rw [if_pos ⟨Or.inr c_56, c_80⟩] | rw [if_neg (fun z => c_80 z.2)] | rw [if_neg (fun z => z.1.elim c_44 c_56)]) (by omega)
                · skip
                  refine J_iload E dX6_turn_83 5 rfl ?_
                  refine J_goto E (tgt := 89) dX6_turn_85 (by decide) ?_
                  refine J_istore_n E (lv' := [(3, .int (nI i)), (5, .int 1), (0, .ref (b 0)), (1, .int v), (2, .int (nI m)), (4, .int (nI i))]) dX6_turn_89 rfl (by decide) rfl ?_
                  refine J_iinc E (lv' := [(4, .int (nI (i + 1))), (3, .int (nI i)), (5, .int 1), (0, .ref (b 0)), (1, .int v), (2, .int (nI m))]) dX6_turn_90 5 rfl (nI_inc _) (by decide) rfl ?_
                  refine J_goto E (tgt := 35) dX6_turn_93 (by decide) ?_
                  refine J_lv [3, 4, 5, 1, 0] rfl ?_
                  refine J_w (ws' := wM G b (upG (upG y 5 d75_1) 2 (y 0))) (wM_c rfl rfl rfl rfl rfl rfl rfl rfl rfl rfl rfl) ?_
                  exact ih35 (i + 1) (nI i) d75_1 (y 0) (by omega) (by rw [h1] at *; rw [tbF]; first | rw [if_pos ⟨Or.inl c_44, c_80⟩] | rw [if_pos ⟨Or.inr c_56, c_80⟩] | rw [if_neg (fun z => c_80 z.2)] | rw [if_neg (fun z => z.1.elim c_44 c_56)]) (by omega)
            · skip
              refine J_iload E dX6_turn_47 4 rfl ?_
              refine J_cSiN E (As := [.int (nI i)]) (c_X6_ones l G (nI i) ) cl_X6_191 yo_X6_ones dX6_turn_49 rfl (Nat.le_of_ble_eq_true rfl) (Nat.le_of_ble_eq_true rfl) rfl (Nat.le_of_ble_eq_true rfl) ⟨Nat.zero_le _, Nat.zero_le _⟩ ?_
              refine J_iload_n E dX6_turn_52 rfl 3 rfl ?_
              refine J_cSiN E (As := [.int t]) (c_X6_ones l G t ) cl_X6_191 yo_X6_ones dX6_turn_53 rfl (Nat.le_of_ble_eq_true rfl) (Nat.le_of_ble_eq_true rfl) rfl (Nat.le_of_ble_eq_true rfl) ⟨Nat.zero_le _, Nat.zero_le _⟩ ?_
              refine J_icmp_ge E (tgt := 63) dX6_turn_56 (by decide) (fun c_56 => ?_) (fun c_56 => ?_)
              · skip
                refine J_iconst E dX6_turn_63 ic_0 ?_
                refine J_istore E (lv' := [(5, .int 0), (0, .ref (b 0)), (1, .int v), (2, .int (nI m)), (3, .int t), (4, .int (nI i))]) dX6_turn_64 (by decide) rfl ?_
                refine J_iload E dX6_turn_66 0 rfl ?_
                refine J_if_eq E (tgt := 88) dX6_turn_68 (by decide) (fun c_68 => ?_) (fun c_68 => ?_)
                · skip
                  have n_68 : 0 = 0 := cmp_eq (a := 0) (b := 0) (by omega) (by omega) c_68
                  refine J_iload_n E dX6_turn_88 rfl 4 rfl ?_
                  refine J_istore_n E (lv' := [(3, .int t), (5, .int 0), (0, .ref (b 0)), (1, .int v), (2, .int (nI m)), (4, .int (nI i))]) dX6_turn_89 rfl (by decide) rfl ?_
                  refine J_iinc E (lv' := [(4, .int (nI (i + 1))), (3, .int t), (5, .int 0), (0, .ref (b 0)), (1, .int v), (2, .int (nI m))]) dX6_turn_90 5 rfl (nI_inc _) (by decide) rfl ?_
                  refine J_goto E (tgt := 35) dX6_turn_93 (by decide) ?_
                  refine J_lv [3, 4, 5, 1, 0] rfl ?_
                  refine J_w (ws' := wM G b (upG (upG y 5 d) 2 z)) (wM_c rfl rfl rfl rfl rfl rfl rfl rfl rfl rfl rfl) ?_
                  exact ih35 (i + 1) t d z (by omega) (by rw [h1] at *; rw [tbF]; first | rw [if_pos ⟨Or.inl c_44, c_80⟩] | rw [if_pos ⟨Or.inr c_56, c_80⟩] | rw [if_neg (fun z => c_80 z.2)] | rw [if_neg (fun z => z.1.elim c_44 c_56)]) (by omega)
                · skip
                  have n_68 : ¬ 0 = 0 := cmp_ne (a := 0) (b := 0) (by omega) (by omega) c_68
                  exact absurd n_68 (by decide)
              · skip
                refine J_iconst E dX6_turn_59 ic_1 ?_
                refine J_goto E (tgt := 64) dX6_turn_60 (by decide) ?_
                refine J_istore E (lv' := [(5, .int 1), (0, .ref (b 0)), (1, .int v), (2, .int (nI m)), (3, .int t), (4, .int (nI i))]) dX6_turn_64 (by decide) rfl ?_
                refine J_iload E dX6_turn_66 0 rfl ?_
                refine J_if_eq E (tgt := 88) dX6_turn_68 (by decide) (fun c_68 => ?_) (fun c_68 => ?_)
                · skip
                  have n_68 : 1 = 0 := cmp_eq (a := 1) (b := 0) (by omega) (by omega) c_68
                  exact absurd n_68 (by decide)
                · skip
                  have n_68 : ¬ 1 = 0 := cmp_ne (a := 1) (b := 0) (by omega) (by omega) c_68
                  refine J_aload_n E dX6_turn_71 rfl 1 rfl ?_
                  refine J_iload E dX6_turn_72 5 rfl ?_
                  refine J_iload_n E dX6_turn_74 rfl 3 rfl ?_
                  refine J_callEi E (As := [.int (nI i), .int (nI m)]) (c_X6_dryBy l G b (upG (upG y 5 d) 2 z) (nI i) m (by omega) hok) cl_X6_194 yo_X6_dryBy dX6_turn_75 rfl (Nat.le_of_ble_eq_true rfl) (Nat.le_of_ble_eq_true rfl) rfl (Nat.le_of_ble_eq_true rfl) ⟨Nat.zero_le _, Nat.zero_le _⟩ (fun d75_2 => ?_)
                  refine J_w (ws' := wM G b (upG (upG (upG (upG (upG y 5 d) 2 z) 2 (y 0)) 5 d75_2) 0 (y 0))) (wM_c rfl rfl rfl rfl rfl rfl rfl rfl rfl rfl rfl) ?_
                  refine J_top (x' := drysR (turnRQ (y 0) (nI i)) m) rfl ?_
                  refine J_iload_n E dX6_turn_78 rfl 2 rfl ?_
                  refine J_iand E dX6_turn_79 ?_
                  refine J_if_ne E (tgt := 88) dX6_turn_80 (by decide) (fun c_80 => ?_) (fun c_80 => ?_)
                  · skip
                    refine J_iload_n E dX6_turn_88 rfl 4 rfl ?_
                    refine J_istore_n E (lv' := [(3, .int t), (5, .int 1), (0, .ref (b 0)), (1, .int v), (2, .int (nI m)), (4, .int (nI i))]) dX6_turn_89 rfl (by decide) rfl ?_
                    refine J_iinc E (lv' := [(4, .int (nI (i + 1))), (3, .int t), (5, .int 1), (0, .ref (b 0)), (1, .int v), (2, .int (nI m))]) dX6_turn_90 5 rfl (nI_inc _) (by decide) rfl ?_
                    refine J_goto E (tgt := 35) dX6_turn_93 (by decide) ?_
                    refine J_lv [3, 4, 5, 1, 0] rfl ?_
                    refine J_w (ws' := wM G b (upG (upG y 5 d75_2) 2 (y 0))) (wM_c rfl rfl rfl rfl rfl rfl rfl rfl rfl rfl rfl) ?_
                    exact ih35 (i + 1) t d75_2 (y 0) (by omega) (by rw [h1] at *; rw [tbF]; first | rw [if_pos ⟨Or.inl c_44, c_80⟩] | rw [if_pos ⟨Or.inr c_56, c_80⟩] | rw [if_neg (fun z => c_80 z.2)] | rw [if_neg (fun z => z.1.elim c_44 c_56)]) (by omega)
                  · skip
                    refine J_iload E dX6_turn_83 5 rfl ?_
                    refine J_goto E (tgt := 89) dX6_turn_85 (by decide) ?_
                    refine J_istore_n E (lv' := [(3, .int (nI i)), (5, .int 1), (0, .ref (b 0)), (1, .int v), (2, .int (nI m)), (4, .int (nI i))]) dX6_turn_89 rfl (by decide) rfl ?_
                    refine J_iinc E (lv' := [(4, .int (nI (i + 1))), (3, .int (nI i)), (5, .int 1), (0, .ref (b 0)), (1, .int v), (2, .int (nI m))]) dX6_turn_90 5 rfl (nI_inc _) (by decide) rfl ?_
                    refine J_goto E (tgt := 35) dX6_turn_93 (by decide) ?_
                    refine J_lv [3, 4, 5, 1, 0] rfl ?_
                    refine J_w (ws' := wM G b (upG (upG y 5 d75_2) 2 (y 0))) (wM_c rfl rfl rfl rfl rfl rfl rfl rfl rfl rfl rfl) ?_
                    exact ih35 (i + 1) (nI i) d75_2 (y 0) (by omega) (by rw [h1] at *; rw [tbF]; first | rw [if_pos ⟨Or.inl c_44, c_80⟩] | rw [if_pos ⟨Or.inr c_56, c_80⟩] | rw [if_neg (fun z => c_80 z.2)] | rw [if_neg (fun z => z.1.elim c_44 c_56)]) (by omega)
      refine J_lv [2, 3, 4, 1, 0] rfl ?_
      refine J_w (ws' := wM G b (upG (upG y 5 (y 5)) 2 (y 2))) (wM_c rfl rfl rfl rfl rfl rfl rfl rfl rfl rfl rfl) ?_
      exact lp35 _ 0 (-1) (y 5) (y 2) (by omega) rfl (Nat.lt_succ_self _)
    · skip
      have c_21 := bI_0 c_21
      exact absurd (inB (a := m) (b := 12) (by omega) (by decide)) c_21

set_option maxHeartbeats 4000000 in
set_option maxRecDepth 20000 in
theorem c_X6_best_bad (l : Launch) (G : GB) (b : Nat → Nat) (y : Q3) (n : Int32) (hb : ¬ (0 ≤ n ∧ n ≤ 40)) : CI l yX6_best cX6_best 6 .int 2 45 G [.ref (b 0), .int n] (wM G b y) (fun vR w' => vR = tellR 0 ∧ PubM G b (tellX y 0) w') := by
  refine CI.mk (own := RX6) (by decide) rfl (Nat.le_of_ble_eq_true rfl) ?_
  intro X E ret
  show J X G 6 0 0 (wM G b y) [(0, .ref (b 0)), (1, .int n)] 0 []
  refine J_iload_n E dX6_best_0 rfl 1 rfl ?_
  refine J_cSiN E (As := [.int n]) (c_X6_isSoon l G n ) cl_X6_176 yo_X6_isSoon dX6_best_1 rfl (Nat.le_of_ble_eq_true rfl) (Nat.le_of_ble_eq_true rfl) rfl (Nat.le_of_ble_eq_true rfl) ⟨Nat.zero_le _, Nat.zero_le _⟩ ?_
  refine J_if_ne E (tgt := 13) dX6_best_4 (by decide) (fun c_4 => ?_) (fun c_4 => ?_)
  · skip
    have c_4 := bI_1 c_4
    exact absurd c_4 hb
  · skip
    have c_4 := bI_0 c_4
    refine J_aload_n E dX6_best_7 rfl 0 rfl ?_
    refine J_iconst E dX6_best_8 ic_0 ?_
    refine J_cVi0 E (As := [.int 0]) (c_X6_finds l G b y 0 (by omega)) cl_X6_96 yo_X6_finds dX6_best_9 rfl rfl rfl (Nat.le_of_ble_eq_true rfl) (Nat.le_of_ble_eq_true rfl) rfl (Nat.le_of_ble_eq_true rfl) ⟨Nat.zero_le _, Nat.zero_le _⟩ ?_
    exact ret _ _ _ _ ⟨rfl, _, rfl, by intro g h2 h5 h6; by_cases h0 : g = 0 <;> simp [tellX, upG, up3, up3R, up2, h0, h2, h5, h6]⟩ rfl dX6_best_12

set_option maxHeartbeats 4000000 in
set_option maxRecDepth 20000 in
theorem c_X6_best_ok (l : Launch) (G : GB) (b : Nat → Nat) (y : Q3) (m : Nat) (hm : m ≤ 40) (hok : okQ (y 0))  : CI l yX6_best cX6_best 6 .int 6 137 G [.ref (b 0), .int (nI m)] (wM G b y) (fun vR w' => vR = nI (minF (fun o => onesF (drysR (turnRQ (y 0) (bitI o)) m) 11) 11).2 ∧ PubM G b y w') := by
  refine CI.mk (own := RX6) (by decide) rfl (Nat.le_of_ble_eq_true rfl) ?_
  intro X E ret
  show J X G 6 0 0 (wM G b y) [(0, .ref (b 0)), (1, .int (nI m))] 0 []
  refine J_iload_n E dX6_best_0 rfl 1 rfl ?_
  refine J_cSiN E (As := [.int (nI m)]) (c_X6_isSoon l G (nI m) ) cl_X6_176 yo_X6_isSoon dX6_best_1 rfl (Nat.le_of_ble_eq_true rfl) (Nat.le_of_ble_eq_true rfl) rfl (Nat.le_of_ble_eq_true rfl) ⟨Nat.zero_le _, Nat.zero_le _⟩ ?_
  refine J_if_ne E (tgt := 13) dX6_best_4 (by decide) (fun c_4 => ?_) (fun c_4 => ?_)
  · skip
    have c_4 := bI_1 c_4
    refine J_iconst E dX6_best_13 ic_0 ?_
    refine J_istore_n E (lv' := [(2, .int 0), (0, .ref (b 0)), (1, .int (nI m))]) dX6_best_14 rfl (by decide) rfl ?_
    refine J_bipush E dX6_best_15 bp_12 ?_
    refine J_istore_n E (lv' := [(3, .int 12), (2, .int 0), (0, .ref (b 0)), (1, .int (nI m))]) dX6_best_17 rfl (by decide) rfl ?_
    refine J_iconst E dX6_best_18 ic_0 ?_
    refine J_istore E (lv' := [(4, .int 0), (3, .int 12), (2, .int 0), (0, .ref (b 0)), (1, .int (nI m))]) dX6_best_19 (by decide) rfl ?_
    refine J_w (ws' := wM G b (upG y 5 (y 5))) (congrArg (wM G b) upG_id.symm) ?_
    have lp21 : ∀ (fu : Nat) (i : Nat) (bs : Int32) (mo : Int32) (d : Q2) (z : Q2), (i ≤ 11) → (bs = nI (minF (fun o => onesF (drysR (turnRQ (y 0) (bitI o)) m) 11) i).2) → (mo = (minF (fun o => onesF (drysR (turnRQ (y 0) (bitI o)) m) 11) i).1) → 11 - i < fu → J X G 6 0 0 (wM G b (upG (upG y 5 d) 2 z)) [(0, .ref (b 0)), (1, .int (nI m)), (2, .int bs), (3, .int mo), (4, .int (nI i))] 21 [] := by
      intro fu
      induction fu with
      | zero => intro i bs mo d z hi hb hm2 hm; exact absurd hm (Nat.not_lt_zero _)
      | succ fu ih21 =>
        intro i bs mo d z hi hb hm2 hm
        refine J_iload E dX6_best_21 4 rfl ?_
        refine J_bipush E dX6_best_23 bp_11 ?_
        refine J_icmp_ge E (tgt := 68) dX6_best_25 (by decide) (fun c_25 => ?_) (fun c_25 => ?_)
        · skip
          have n_25 : 11 ≤ i := cmp_le (a := 11) (b := i) (by omega) (by omega) c_25
          refine J_iload_n E dX6_best_68 rfl 2 rfl ?_
          exact ret _ _ _ _ ⟨by rw [hb, show i = 11 by omega], _, rfl, by intro g h2 h5 h6; by_cases h0 : g = 0 <;> simp [tellX, upG, up3, up3R, up2, h0, h2, h5, h6]⟩ rfl dX6_best_69
        · skip
          have n_25 : ¬ 11 ≤ i := cmp_nle (a := 11) (b := i) (by omega) (by omega) c_25
          refine J_aload_n E dX6_best_28 rfl 0 rfl ?_
          refine J_iconst E dX6_best_29 ic_1 ?_
          refine J_iload E dX6_best_30 4 rfl ?_
          refine J_ishl E dX6_best_32 ?_
          refine J_iload_n E dX6_best_33 rfl 1 rfl ?_
          refine J_callEi E (As := [.int (1 <<< ((nI i) &&& 31)), .int (nI m)]) (c_X6_dryBy l G b (upG (upG y 5 d) 2 z) (1 <<< ((nI i) &&& 31)) m (by omega) hok) cl_X6_194 yo_X6_dryBy dX6_best_34 rfl (Nat.le_of_ble_eq_true rfl) (Nat.le_of_ble_eq_true rfl) rfl (Nat.le_of_ble_eq_true rfl) ⟨Nat.zero_le _, Nat.zero_le _⟩ (fun d34_1 => ?_)
          refine J_w (ws' := wM G b (upG (upG (upG (upG (upG y 5 d) 2 z) 2 (y 0)) 5 d34_1) 0 (y 0))) (wM_c rfl rfl rfl rfl rfl rfl rfl rfl rfl rfl rfl) ?_
          refine J_top (x' := drysR (turnRQ (y 0) (1 <<< ((nI i) &&& 31))) m) rfl ?_
          refine J_cSiN E (As := [.int (drysR (turnRQ (y 0) (1 <<< ((nI i) &&& 31))) m)]) (c_X6_ones l G (drysR (turnRQ (y 0) (1 <<< ((nI i) &&& 31))) m) ) cl_X6_191 yo_X6_ones dX6_best_37 rfl (Nat.le_of_ble_eq_true rfl) (Nat.le_of_ble_eq_true rfl) rfl (Nat.le_of_ble_eq_true rfl) ⟨Nat.zero_le _, Nat.zero_le _⟩ ?_
          refine J_istore E (lv' := [(5, .int (onesF (drysR (turnRQ (y 0) (1 <<< ((nI i) &&& 31))) m) 11)), (0, .ref (b 0)), (1, .int (nI m)), (2, .int bs), (3, .int mo), (4, .int (nI i))]) dX6_best_40 (by decide) rfl ?_
          refine J_iload E dX6_best_42 0 rfl ?_
          refine J_iload_n E dX6_best_44 rfl 4 rfl ?_
          refine J_icmp_ge E (tgt := 53) dX6_best_45 (by decide) (fun c_45 => ?_) (fun c_45 => ?_)
          · skip
            refine J_iload_n E dX6_best_53 rfl 3 rfl ?_
            refine J_istore_n E (lv' := [(2, .int bs), (5, .int (onesF (drysR (turnRQ (y 0) (1 <<< ((nI i) &&& 31))) m) 11)), (0, .ref (b 0)), (1, .int (nI m)), (3, .int mo), (4, .int (nI i))]) dX6_best_54 rfl (by decide) rfl ?_
            refine J_iload_n E dX6_best_55 rfl 4 rfl ?_
            refine J_iload E dX6_best_56 1 rfl ?_
            refine J_mmin E ml_X6_120 st_mmin ini_J9 co_mmin dX6_best_58 (by decide) (Nat.le_of_ble_eq_true rfl) ⟨Nat.zero_le _, Nat.zero_le _⟩ ?_
            refine J_istore_n E (lv' := [(3, .int (mn mo (onesF (drysR (turnRQ (y 0) (1 <<< ((nI i) &&& 31))) m) 11))), (2, .int bs), (5, .int (onesF (drysR (turnRQ (y 0) (1 <<< ((nI i) &&& 31))) m) 11)), (0, .ref (b 0)), (1, .int (nI m)), (4, .int (nI i))]) dX6_best_61 rfl (by decide) rfl ?_
            refine J_iinc E (lv' := [(4, .int (nI (i + 1))), (3, .int (mn mo (onesF (drysR (turnRQ (y 0) (1 <<< ((nI i) &&& 31))) m) 11))), (2, .int bs), (5, .int (onesF (drysR (turnRQ (y 0) (1 <<< ((nI i) &&& 31))) m) 11)), (0, .ref (b 0)), (1, .int (nI m))]) dX6_best_62 5 rfl (nI_inc _) (by decide) rfl ?_
            refine J_goto E (tgt := 21) dX6_best_65 (by decide) ?_
            refine J_lv [4, 5, 2, 1, 0] rfl ?_
            refine J_w (ws' := wM G b (upG (upG y 5 d34_1) 2 (y 0))) (wM_c rfl rfl rfl rfl rfl rfl rfl rfl rfl rfl rfl) ?_
            exact ih21 (i + 1) bs (mn mo (onesF (drysR (turnRQ (y 0) (1 <<< ((nI i) &&& 31))) m) 11)) d34_1 (y 0) (by omega) (by first | exact minF_b hm2 c_45 | (rw [hb]; exact minF_k hm2 c_45)) (minF_mn hm2) (by omega)
          · skip
            refine J_iload E dX6_best_48 5 rfl ?_
            refine J_goto E (tgt := 54) dX6_best_50 (by decide) ?_
            refine J_istore_n E (lv' := [(2, .int (nI i)), (5, .int (onesF (drysR (turnRQ (y 0) (1 <<< ((nI i) &&& 31))) m) 11)), (0, .ref (b 0)), (1, .int (nI m)), (3, .int mo), (4, .int (nI i))]) dX6_best_54 rfl (by decide) rfl ?_
            refine J_iload_n E dX6_best_55 rfl 4 rfl ?_
            refine J_iload E dX6_best_56 1 rfl ?_
            refine J_mmin E ml_X6_120 st_mmin ini_J9 co_mmin dX6_best_58 (by decide) (Nat.le_of_ble_eq_true rfl) ⟨Nat.zero_le _, Nat.zero_le _⟩ ?_
            refine J_istore_n E (lv' := [(3, .int (mn mo (onesF (drysR (turnRQ (y 0) (1 <<< ((nI i) &&& 31))) m) 11))), (2, .int (nI i)), (5, .int (onesF (drysR (turnRQ (y 0) (1 <<< ((nI i) &&& 31))) m) 11)), (0, .ref (b 0)), (1, .int (nI m)), (4, .int (nI i))]) dX6_best_61 rfl (by decide) rfl ?_
            refine J_iinc E (lv' := [(4, .int (nI (i + 1))), (3, .int (mn mo (onesF (drysR (turnRQ (y 0) (1 <<< ((nI i) &&& 31))) m) 11))), (2, .int (nI i)), (5, .int (onesF (drysR (turnRQ (y 0) (1 <<< ((nI i) &&& 31))) m) 11)), (0, .ref (b 0)), (1, .int (nI m))]) dX6_best_62 5 rfl (nI_inc _) (by decide) rfl ?_
            refine J_goto E (tgt := 21) dX6_best_65 (by decide) ?_
            refine J_lv [4, 5, 2, 1, 0] rfl ?_
            refine J_w (ws' := wM G b (upG (upG y 5 d34_1) 2 (y 0))) (wM_c rfl rfl rfl rfl rfl rfl rfl rfl rfl rfl rfl) ?_
            exact ih21 (i + 1) (nI i) (mn mo (onesF (drysR (turnRQ (y 0) (1 <<< ((nI i) &&& 31))) m) 11)) d34_1 (y 0) (by omega) (by first | exact minF_b hm2 c_45 | (rw [hb]; exact minF_k hm2 c_45)) (minF_mn hm2) (by omega)
    refine J_lv [3, 4, 2, 1, 0] rfl ?_
    refine J_w (ws' := wM G b (upG (upG y 5 (y 5)) 2 (y 2))) (wM_c rfl rfl rfl rfl rfl rfl rfl rfl rfl rfl rfl) ?_
    exact lp21 _ 0 0 12 (y 5) (y 2) (by omega) rfl rfl (Nat.lt_succ_self _)
  · skip
    have c_4 := bI_0 c_4
    exact absurd (inB (a := m) (b := 40) (by omega) (by decide)) c_4

set_option maxHeartbeats 4000000 in
set_option maxRecDepth 20000 in
theorem c_X6_love_bad (l : Launch) (G : GB) (b : Nat → Nat) (y : Q3) (h n : Int32) (hb : ¬ (okH h ∧ 0 ≤ n ∧ n ≤ 40)) : CI l yX6_love cX6_love 7 .int 2 45 G [.ref (b 0), .int h, .int n] (wM G b y) (fun vR w' => vR = tellR 0 ∧ PubM G b (tellX y 0) w') := by
  refine CI.mk (own := RX6) (by decide) rfl (Nat.le_of_ble_eq_true rfl) ?_
  intro X E ret
  show J X G 7 0 0 (wM G b y) [(0, .ref (b 0)), (1, .int h), (2, .int n)] 0 []
  refine J_iload_n E dX6_love_0 rfl 1 rfl ?_
  refine J_cSiN E (As := [.int h]) (c_X6_isHouse l G h ) cl_X6_87 yo_X6_isHouse dX6_love_1 rfl (Nat.le_of_ble_eq_true rfl) (Nat.le_of_ble_eq_true rfl) rfl (Nat.le_of_ble_eq_true rfl) ⟨Nat.zero_le _, Nat.zero_le _⟩ ?_
  refine J_if_eq E (tgt := 14) dX6_love_4 (by decide) (fun c_4 => ?_) (fun c_4 => ?_)
  · skip
    have c_4 := bI_0 c_4
    refine J_aload_n E dX6_love_14 rfl 0 rfl ?_
    refine J_iconst E dX6_love_15 ic_0 ?_
    refine J_cVi0 E (As := [.int 0]) (c_X6_finds l G b y 0 (by omega)) cl_X6_96 yo_X6_finds dX6_love_16 rfl rfl rfl (Nat.le_of_ble_eq_true rfl) (Nat.le_of_ble_eq_true rfl) rfl (Nat.le_of_ble_eq_true rfl) ⟨Nat.zero_le _, Nat.zero_le _⟩ ?_
    exact ret _ _ _ _ ⟨rfl, _, rfl, by intro g h2 h5 h6; by_cases h0 : g = 0 <;> simp [tellX, upG, up3, up3R, up2, h0, h2, h5, h6]⟩ rfl dX6_love_19
  · skip
    have c_4 := bI_1 c_4
    refine J_iload_n E dX6_love_7 rfl 2 rfl ?_
    refine J_cSiN E (As := [.int n]) (c_X6_isSoon l G n ) cl_X6_176 yo_X6_isSoon dX6_love_8 rfl (Nat.le_of_ble_eq_true rfl) (Nat.le_of_ble_eq_true rfl) rfl (Nat.le_of_ble_eq_true rfl) ⟨Nat.zero_le _, Nat.zero_le _⟩ ?_
    refine J_if_ne E (tgt := 20) dX6_love_11 (by decide) (fun c_11 => ?_) (fun c_11 => ?_)
    · skip
      have c_11 := bI_1 c_11
      exact absurd ⟨c_4, c_11⟩ hb
    · skip
      have c_11 := bI_0 c_11
      refine J_aload_n E dX6_love_14 rfl 0 rfl ?_
      refine J_iconst E dX6_love_15 ic_0 ?_
      refine J_cVi0 E (As := [.int 0]) (c_X6_finds l G b y 0 (by omega)) cl_X6_96 yo_X6_finds dX6_love_16 rfl rfl rfl (Nat.le_of_ble_eq_true rfl) (Nat.le_of_ble_eq_true rfl) rfl (Nat.le_of_ble_eq_true rfl) ⟨Nat.zero_le _, Nat.zero_le _⟩ ?_
      exact ret _ _ _ _ ⟨rfl, _, rfl, by intro g h2 h5 h6; by_cases h0 : g = 0 <;> simp [tellX, upG, up3, up3R, up2, h0, h2, h5, h6]⟩ rfl dX6_love_19

set_option maxHeartbeats 4000000 in
set_option maxRecDepth 20000 in
theorem c_X6_love_ok (l : Launch) (G : GB) (b : Nat → Nat) (y : Q3) (j m : Nat) (hj : j < 11) (hm : m ≤ 40) (hok : okQ (y 0))  : CI l yX6_love cX6_love 7 .int 5 113 G [.ref (b 0), .int (nI j), .int (nI m)] (wM G b y) (fun vR w' => vR = nI (argF (fun o => hoursR (turn1 (y 0) o) m 1 j) 11).2 ∧ PubM G b y w') := by
  refine CI.mk (own := RX6) (by decide) rfl (Nat.le_of_ble_eq_true rfl) ?_
  intro X E ret
  show J X G 7 0 0 (wM G b y) [(0, .ref (b 0)), (1, .int (nI j)), (2, .int (nI m))] 0 []
  refine J_iload_n E dX6_love_0 rfl 1 rfl ?_
  refine J_cSiN E (As := [.int (nI j)]) (c_X6_isHouse l G (nI j) ) cl_X6_87 yo_X6_isHouse dX6_love_1 rfl (Nat.le_of_ble_eq_true rfl) (Nat.le_of_ble_eq_true rfl) rfl (Nat.le_of_ble_eq_true rfl) ⟨Nat.zero_le _, Nat.zero_le _⟩ ?_
  refine J_if_eq E (tgt := 14) dX6_love_4 (by decide) (fun c_4 => ?_) (fun c_4 => ?_)
  · skip
    have c_4 := bI_0 c_4
    exact absurd (inB (a := j) (b := 10) (by omega) (by decide)) c_4
  · skip
    have c_4 := bI_1 c_4
    refine J_iload_n E dX6_love_7 rfl 2 rfl ?_
    refine J_cSiN E (As := [.int (nI m)]) (c_X6_isSoon l G (nI m) ) cl_X6_176 yo_X6_isSoon dX6_love_8 rfl (Nat.le_of_ble_eq_true rfl) (Nat.le_of_ble_eq_true rfl) rfl (Nat.le_of_ble_eq_true rfl) ⟨Nat.zero_le _, Nat.zero_le _⟩ ?_
    refine J_if_ne E (tgt := 20) dX6_love_11 (by decide) (fun c_11 => ?_) (fun c_11 => ?_)
    · skip
      have c_11 := bI_1 c_11
      refine J_iconst E dX6_love_20 ic_0 ?_
      refine J_istore_n E (lv' := [(3, .int 0), (0, .ref (b 0)), (1, .int (nI j)), (2, .int (nI m))]) dX6_love_21 rfl (by decide) rfl ?_
      refine J_iconst E dX6_love_22 ic_m1 ?_
      refine J_istore E (lv' := [(4, .int (-1)), (3, .int 0), (0, .ref (b 0)), (1, .int (nI j)), (2, .int (nI m))]) dX6_love_23 (by decide) rfl ?_
      refine J_iconst E dX6_love_25 ic_0 ?_
      refine J_istore E (lv' := [(5, .int 0), (4, .int (-1)), (3, .int 0), (0, .ref (b 0)), (1, .int (nI j)), (2, .int (nI m))]) dX6_love_26 (by decide) rfl ?_
      refine J_w (ws' := wM G b (upG y 5 (y 5))) (congrArg (wM G b) upG_id.symm) ?_
      have lp28 : ∀ (fu : Nat) (i : Nat) (bs : Int32) (mo : Int32) (d : Q2) (z : Q2), (i ≤ 11) → (bs = nI (argF (fun o => hoursR (turn1 (y 0) o) m 1 j) i).2) → (mo = (argF (fun o => hoursR (turn1 (y 0) o) m 1 j) i).1) → 11 - i < fu → J X G 7 0 0 (wM G b (upG (upG y 5 d) 2 z)) [(0, .ref (b 0)), (1, .int (nI j)), (2, .int (nI m)), (3, .int bs), (4, .int mo), (5, .int (nI i))] 28 [] := by
        intro fu
        induction fu with
        | zero => intro i bs mo d z hi hb hm2 hm; exact absurd hm (Nat.not_lt_zero _)
        | succ fu ih28 =>
          intro i bs mo d z hi hb hm2 hm
          refine J_iload E dX6_love_28 5 rfl ?_
          refine J_bipush E dX6_love_30 bp_11 ?_
          refine J_icmp_ge E (tgt := 91) dX6_love_32 (by decide) (fun c_32 => ?_) (fun c_32 => ?_)
          · skip
            have n_32 : 11 ≤ i := cmp_le (a := 11) (b := i) (by omega) (by omega) c_32
            refine J_iload_n E dX6_love_91 rfl 3 rfl ?_
            exact ret _ _ _ _ ⟨by rw [hb, show i = 11 by omega], _, rfl, by intro g h2 h5 h6; by_cases h0 : g = 0 <;> simp [tellX, upG, up3, up3R, up2, h0, h2, h5, h6]⟩ rfl dX6_love_92
          · skip
            have n_32 : ¬ 11 ≤ i := cmp_nle (a := 11) (b := i) (by omega) (by omega) c_32
            refine J_aload_n E dX6_love_35 rfl 0 rfl ?_
            refine J_cVv0 E (As := []) (c_X6_lends l G b (upG (upG y 5 d) 2 z) ) cl_X6_160 yo_X6_lends dX6_love_36 rfl rfl rfl (Nat.le_of_ble_eq_true rfl) (Nat.le_of_ble_eq_true rfl) rfl (Nat.le_of_ble_eq_true rfl) ⟨Nat.zero_le _, Nat.zero_le _⟩ ?_
            refine J_aload_n E dX6_love_39 rfl 0 rfl ?_
            refine J_iload E dX6_love_40 5 rfl ?_
            refine J_cVv0 E (As := [.int (nI i)]) (c_X6_turns l G b (upG (upG (upG y 5 d) 2 z) 2 (y 0)) i (by omega)) cl_X6_186 yo_X6_turns dX6_love_42 rfl rfl rfl (Nat.le_of_ble_eq_true rfl) (Nat.le_of_ble_eq_true rfl) rfl (Nat.le_of_ble_eq_true rfl) ⟨Nat.zero_le _, Nat.zero_le _⟩ ?_
            refine J_aload_n E dX6_love_45 rfl 0 rfl ?_
            refine J_iload_n E dX6_love_46 rfl 2 rfl ?_
            refine J_callEv E (As := [.int (nI m)]) (c_X6_hours l G b (upG (upG (upG (upG y 5 d) 2 z) 2 (y 0)) 0 (turn1 (y 0) i)) m (by omega) (okQ_1 hok _ (by omega))) cl_X6_144 yo_X6_hours dX6_love_47 rfl (Nat.le_of_ble_eq_true rfl) (Nat.le_of_ble_eq_true rfl) rfl (Nat.le_of_ble_eq_true rfl) ⟨Nat.zero_le _, Nat.zero_le _⟩ (fun d47_1 => ?_)
            refine J_w (ws' := wM G b (upG (upG (upG (upG (upG (upG y 5 d) 2 z) 2 (y 0)) 0 (turn1 (y 0) i)) 5 d47_1) 0 (hoursR (turn1 (y 0) i) m))) (wM_c rfl rfl rfl rfl rfl rfl rfl rfl rfl rfl rfl) ?_
            refine J_aload_n E dX6_love_50 rfl 0 rfl ?_
            refine J_iload_n E dX6_love_51 rfl 1 rfl ?_
            refine J_iconst E dX6_love_52 ic_1 ?_
            refine J_cVi0 E (As := [.int (nI j), .int 1]) (c_X6_its l G b (upG (upG (upG (upG (upG (upG y 5 d) 2 z) 2 (y 0)) 0 (turn1 (y 0) i)) 5 d47_1) 0 (hoursR (turn1 (y 0) i) m)) j 1 (by omega) (by omega)) cl_X6_64 yo_X6_its dX6_love_53 rfl rfl rfl (Nat.le_of_ble_eq_true rfl) (Nat.le_of_ble_eq_true rfl) rfl (Nat.le_of_ble_eq_true rfl) ⟨Nat.zero_le _, Nat.zero_le _⟩ ?_
            refine J_top (x' := (hoursR (turn1 (y 0) i) m) 1 j) (upG_s) ?_
            refine J_istore E (lv' := [(6, .int ((hoursR (turn1 (y 0) i) m) 1 j)), (0, .ref (b 0)), (1, .int (nI j)), (2, .int (nI m)), (3, .int bs), (4, .int mo), (5, .int (nI i))]) dX6_love_56 (by decide) rfl ?_
            refine J_aload_n E dX6_love_58 rfl 1 rfl ?_
            refine J_cVv0 E (As := []) (c_X6_laysBack l G b (upG (upG (upG (upG (upG (upG y 5 d) 2 z) 2 (y 0)) 0 (turn1 (y 0) i)) 5 d47_1) 0 (hoursR (turn1 (y 0) i) m)) ) cl_X6_163 yo_X6_laysBack dX6_love_59 rfl rfl rfl (Nat.le_of_ble_eq_true rfl) (Nat.le_of_ble_eq_true rfl) rfl (Nat.le_of_ble_eq_true rfl) ⟨Nat.zero_le _, Nat.zero_le _⟩ ?_
            refine J_iload E dX6_love_62 0 rfl ?_
            refine J_iload E dX6_love_64 5 rfl ?_
            refine J_icmp_le E (tgt := 74) dX6_love_66 (by decide) (fun c_66 => ?_) (fun c_66 => ?_)
            · skip
              refine J_iload_n E dX6_love_74 rfl 4 rfl ?_
              refine J_istore_n E (lv' := [(3, .int bs), (6, .int ((hoursR (turn1 (y 0) i) m) 1 j)), (0, .ref (b 0)), (1, .int (nI j)), (2, .int (nI m)), (4, .int mo), (5, .int (nI i))]) dX6_love_75 rfl (by decide) rfl ?_
              refine J_iload E dX6_love_76 5 rfl ?_
              refine J_iload E dX6_love_78 1 rfl ?_
              refine J_mmax E ml_X6_68 st_mmax ini_J9 co_mmax dX6_love_80 (by decide) (Nat.le_of_ble_eq_true rfl) ⟨Nat.zero_le _, Nat.zero_le _⟩ ?_
              refine J_istore E (lv' := [(4, .int (mx mo ((hoursR (turn1 (y 0) i) m) 1 j))), (3, .int bs), (6, .int ((hoursR (turn1 (y 0) i) m) 1 j)), (0, .ref (b 0)), (1, .int (nI j)), (2, .int (nI m)), (5, .int (nI i))]) dX6_love_83 (by decide) rfl ?_
              refine J_iinc E (lv' := [(5, .int (nI (i + 1))), (4, .int (mx mo ((hoursR (turn1 (y 0) i) m) 1 j))), (3, .int bs), (6, .int ((hoursR (turn1 (y 0) i) m) 1 j)), (0, .ref (b 0)), (1, .int (nI j)), (2, .int (nI m))]) dX6_love_85 6 rfl (nI_inc _) (by decide) rfl ?_
              refine J_goto E (tgt := 28) dX6_love_88 (by decide) ?_
              refine J_lv [4, 5, 6, 2, 1, 0] rfl ?_
              refine J_w (ws' := wM G b (upG (upG y 5 d47_1) 2 (y 0))) (wM_c rfl rfl rfl rfl rfl rfl rfl rfl rfl rfl rfl) ?_
              exact ih28 (i + 1) bs (mx mo ((hoursR (turn1 (y 0) i) m) 1 j)) d47_1 (y 0) (by omega) (by first | exact argF_b hm2 c_66 | (rw [hb]; exact argF_k hm2 c_66)) (argF_mx hm2) (by omega)
            · skip
              refine J_iload E dX6_love_69 6 rfl ?_
              refine J_goto E (tgt := 75) dX6_love_71 (by decide) ?_
              refine J_istore_n E (lv' := [(3, .int (nI i)), (6, .int ((hoursR (turn1 (y 0) i) m) 1 j)), (0, .ref (b 0)), (1, .int (nI j)), (2, .int (nI m)), (4, .int mo), (5, .int (nI i))]) dX6_love_75 rfl (by decide) rfl ?_
              refine J_iload E dX6_love_76 5 rfl ?_
              refine J_iload E dX6_love_78 1 rfl ?_
              refine J_mmax E ml_X6_68 st_mmax ini_J9 co_mmax dX6_love_80 (by decide) (Nat.le_of_ble_eq_true rfl) ⟨Nat.zero_le _, Nat.zero_le _⟩ ?_
              refine J_istore E (lv' := [(4, .int (mx mo ((hoursR (turn1 (y 0) i) m) 1 j))), (3, .int (nI i)), (6, .int ((hoursR (turn1 (y 0) i) m) 1 j)), (0, .ref (b 0)), (1, .int (nI j)), (2, .int (nI m)), (5, .int (nI i))]) dX6_love_83 (by decide) rfl ?_
              refine J_iinc E (lv' := [(5, .int (nI (i + 1))), (4, .int (mx mo ((hoursR (turn1 (y 0) i) m) 1 j))), (3, .int (nI i)), (6, .int ((hoursR (turn1 (y 0) i) m) 1 j)), (0, .ref (b 0)), (1, .int (nI j)), (2, .int (nI m))]) dX6_love_85 6 rfl (nI_inc _) (by decide) rfl ?_
              refine J_goto E (tgt := 28) dX6_love_88 (by decide) ?_
              refine J_lv [4, 5, 6, 2, 1, 0] rfl ?_
              refine J_w (ws' := wM G b (upG (upG y 5 d47_1) 2 (y 0))) (wM_c rfl rfl rfl rfl rfl rfl rfl rfl rfl rfl rfl) ?_
              exact ih28 (i + 1) (nI i) (mx mo ((hoursR (turn1 (y 0) i) m) 1 j)) d47_1 (y 0) (by omega) (by first | exact argF_b hm2 c_66 | (rw [hb]; exact argF_k hm2 c_66)) (argF_mx hm2) (by omega)
      refine J_lv [3, 4, 5, 2, 1, 0] rfl ?_
      refine J_w (ws' := wM G b (upG (upG y 5 (y 5)) 2 (y 2))) (wM_c rfl rfl rfl rfl rfl rfl rfl rfl rfl rfl rfl) ?_
      exact lp28 _ 0 0 (-1) (y 5) (y 2) (by omega) rfl rfl (Nat.lt_succ_self _)
    · skip
      have c_11 := bI_0 c_11
      exact absurd (inB (a := m) (b := 40) (by omega) (by decide)) c_11

set_option maxHeartbeats 4000000 in
set_option maxRecDepth 20000 in
theorem c_X6_burst_bad (l : Launch) (G : GB) (b : Nat → Nat) (y : Q3) (h v n : Int32) (hb : ¬ (okH h ∧ (0 ≤ v ∧ v ≤ 9999) ∧ 0 ≤ n ∧ n ≤ 40)) : CI l yX6_burst cX6_burst 5 .int 2 45 G [.ref (b 0), .int h, .int v, .int n] (wM G b y) (fun vR w' => vR = tellR 0 ∧ PubM G b (tellX y 0) w') := by
  refine CI.mk (own := RX6) (by decide) rfl (Nat.le_of_ble_eq_true rfl) ?_
  intro X E ret
  show J X G 5 0 0 (wM G b y) [(0, .ref (b 0)), (1, .int h), (2, .int v), (3, .int n)] 0 []
  refine J_iload_n E dX6_burst_0 rfl 1 rfl ?_
  refine J_cSiN E (As := [.int h]) (c_X6_isHouse l G h ) cl_X6_87 yo_X6_isHouse dX6_burst_1 rfl (Nat.le_of_ble_eq_true rfl) (Nat.le_of_ble_eq_true rfl) rfl (Nat.le_of_ble_eq_true rfl) ⟨Nat.zero_le _, Nat.zero_le _⟩ ?_
  refine J_if_eq E (tgt := 26) dX6_burst_4 (by decide) (fun c_4 => ?_) (fun c_4 => ?_)
  · skip
    have c_4 := bI_0 c_4
    refine J_aload_n E dX6_burst_26 rfl 0 rfl ?_
    refine J_iconst E dX6_burst_27 ic_0 ?_
    refine J_cVi0 E (As := [.int 0]) (c_X6_finds l G b y 0 (by omega)) cl_X6_96 yo_X6_finds dX6_burst_28 rfl rfl rfl (Nat.le_of_ble_eq_true rfl) (Nat.le_of_ble_eq_true rfl) rfl (Nat.le_of_ble_eq_true rfl) ⟨Nat.zero_le _, Nat.zero_le _⟩ ?_
    exact ret _ _ _ _ ⟨rfl, _, rfl, by intro g h2 h5 h6; by_cases h0 : g = 0 <;> simp [tellX, upG, up3, up3R, up2, h0, h2, h5, h6]⟩ rfl dX6_burst_31
  · skip
    have c_4 := bI_1 c_4
    refine J_iload_n E dX6_burst_7 rfl 2 rfl ?_
    refine J_i2l E dX6_burst_8 rfl ?_
    refine J_lconst E dX6_burst_9 lc_0 ?_
    refine J_ldc2 E kl_X6_81 dX6_burst_10 ?_
    refine J_cSiN E (As := [.long (Int32.toInt64 v), .long 0, .long 9999]) (c_X6_in l G v 0 9999 0 9999 (by decide) (by decide) ) cl_X6_54 yo_X6_in dX6_burst_13 rfl (Nat.le_of_ble_eq_true rfl) (Nat.le_of_ble_eq_true rfl) rfl (Nat.le_of_ble_eq_true rfl) ⟨Nat.zero_le _, Nat.zero_le _⟩ ?_
    refine J_if_eq E (tgt := 26) dX6_burst_16 (by decide) (fun c_16 => ?_) (fun c_16 => ?_)
    · skip
      have c_16 := bI_0 c_16
      refine J_aload_n E dX6_burst_26 rfl 0 rfl ?_
      refine J_iconst E dX6_burst_27 ic_0 ?_
      refine J_cVi0 E (As := [.int 0]) (c_X6_finds l G b y 0 (by omega)) cl_X6_96 yo_X6_finds dX6_burst_28 rfl rfl rfl (Nat.le_of_ble_eq_true rfl) (Nat.le_of_ble_eq_true rfl) rfl (Nat.le_of_ble_eq_true rfl) ⟨Nat.zero_le _, Nat.zero_le _⟩ ?_
      exact ret _ _ _ _ ⟨rfl, _, rfl, by intro g h2 h5 h6; by_cases h0 : g = 0 <;> simp [tellX, upG, up3, up3R, up2, h0, h2, h5, h6]⟩ rfl dX6_burst_31
    · skip
      have c_16 := bI_1 c_16
      refine J_iload_n E dX6_burst_19 rfl 3 rfl ?_
      refine J_cSiN E (As := [.int n]) (c_X6_isSoon l G n ) cl_X6_176 yo_X6_isSoon dX6_burst_20 rfl (Nat.le_of_ble_eq_true rfl) (Nat.le_of_ble_eq_true rfl) rfl (Nat.le_of_ble_eq_true rfl) ⟨Nat.zero_le _, Nat.zero_le _⟩ ?_
      refine J_if_ne E (tgt := 32) dX6_burst_23 (by decide) (fun c_23 => ?_) (fun c_23 => ?_)
      · skip
        have c_23 := bI_1 c_23
        exact absurd ⟨c_4, c_16, c_23⟩ hb
      · skip
        have c_23 := bI_0 c_23
        refine J_aload_n E dX6_burst_26 rfl 0 rfl ?_
        refine J_iconst E dX6_burst_27 ic_0 ?_
        refine J_cVi0 E (As := [.int 0]) (c_X6_finds l G b y 0 (by omega)) cl_X6_96 yo_X6_finds dX6_burst_28 rfl rfl rfl (Nat.le_of_ble_eq_true rfl) (Nat.le_of_ble_eq_true rfl) rfl (Nat.le_of_ble_eq_true rfl) ⟨Nat.zero_le _, Nat.zero_le _⟩ ?_
        exact ret _ _ _ _ ⟨rfl, _, rfl, by intro g h2 h5 h6; by_cases h0 : g = 0 <;> simp [tellX, upG, up3, up3R, up2, h0, h2, h5, h6]⟩ rfl dX6_burst_31

set_option maxHeartbeats 4000000 in
set_option maxRecDepth 20000 in
theorem c_X6_burst_ok (l : Launch) (G : GB) (b : Nat → Nat) (y : Q3) (j : Nat) (v : Int32) (m : Nat) (hj : j < 11) (hv : 0 ≤ v ∧ v ≤ 9999) (hm : m ≤ 40) (hok : okQ (y 0))  : CI l yX6_burst cX6_burst 5 .int 6 135 G [.ref (b 0), .int (nI j), .int v, .int (nI m)] (wM G b y) (fun vR w' => vR = hoursR (comesR (y 0) j v) m 7 3 - hoursR (y 0) m 7 3 ∧ PubM G b y w') := by
  refine CI.mk (own := RX6) (by decide) rfl (Nat.le_of_ble_eq_true rfl) ?_
  intro X E ret
  show J X G 5 0 0 (wM G b y) [(0, .ref (b 0)), (1, .int (nI j)), (2, .int v), (3, .int (nI m))] 0 []
  refine J_iload_n E dX6_burst_0 rfl 1 rfl ?_
  refine J_cSiN E (As := [.int (nI j)]) (c_X6_isHouse l G (nI j) ) cl_X6_87 yo_X6_isHouse dX6_burst_1 rfl (Nat.le_of_ble_eq_true rfl) (Nat.le_of_ble_eq_true rfl) rfl (Nat.le_of_ble_eq_true rfl) ⟨Nat.zero_le _, Nat.zero_le _⟩ ?_
  refine J_if_eq E (tgt := 26) dX6_burst_4 (by decide) (fun c_4 => ?_) (fun c_4 => ?_)
  · skip
    have c_4 := bI_0 c_4
    exact absurd (inB (a := j) (b := 10) (by omega) (by decide)) c_4
  · skip
    have c_4 := bI_1 c_4
    refine J_iload_n E dX6_burst_7 rfl 2 rfl ?_
    refine J_i2l E dX6_burst_8 rfl ?_
    refine J_lconst E dX6_burst_9 lc_0 ?_
    refine J_ldc2 E kl_X6_81 dX6_burst_10 ?_
    refine J_cSiN E (As := [.long (Int32.toInt64 v), .long 0, .long 9999]) (c_X6_in l G v 0 9999 0 9999 (by decide) (by decide) ) cl_X6_54 yo_X6_in dX6_burst_13 rfl (Nat.le_of_ble_eq_true rfl) (Nat.le_of_ble_eq_true rfl) rfl (Nat.le_of_ble_eq_true rfl) ⟨Nat.zero_le _, Nat.zero_le _⟩ ?_
    refine J_if_eq E (tgt := 26) dX6_burst_16 (by decide) (fun c_16 => ?_) (fun c_16 => ?_)
    · skip
      have c_16 := bI_0 c_16
      exact absurd (by assumption) c_16
    · skip
      have c_16 := bI_1 c_16
      refine J_iload_n E dX6_burst_19 rfl 3 rfl ?_
      refine J_cSiN E (As := [.int (nI m)]) (c_X6_isSoon l G (nI m) ) cl_X6_176 yo_X6_isSoon dX6_burst_20 rfl (Nat.le_of_ble_eq_true rfl) (Nat.le_of_ble_eq_true rfl) rfl (Nat.le_of_ble_eq_true rfl) ⟨Nat.zero_le _, Nat.zero_le _⟩ ?_
      refine J_if_ne E (tgt := 32) dX6_burst_23 (by decide) (fun c_23 => ?_) (fun c_23 => ?_)
      · skip
        have c_23 := bI_1 c_23
        refine J_aload_n E dX6_burst_32 rfl 0 rfl ?_
        refine J_cVv0 E (As := []) (c_X6_lends l G b y ) cl_X6_160 yo_X6_lends dX6_burst_33 rfl rfl rfl (Nat.le_of_ble_eq_true rfl) (Nat.le_of_ble_eq_true rfl) rfl (Nat.le_of_ble_eq_true rfl) ⟨Nat.zero_le _, Nat.zero_le _⟩ ?_
        refine J_aload_n E dX6_burst_36 rfl 0 rfl ?_
        refine J_iload_n E dX6_burst_37 rfl 3 rfl ?_
        refine J_callEi E (As := [.int (nI m)]) (c_X6_alleyIn l G b (upG y 2 (y 0)) m (by omega) hok) cl_X6_166 yo_X6_alleyIn dX6_burst_38 rfl (Nat.le_of_ble_eq_true rfl) (Nat.le_of_ble_eq_true rfl) rfl (Nat.le_of_ble_eq_true rfl) ⟨Nat.zero_le _, Nat.zero_le _⟩ (fun d38_1 => ?_)
        refine J_w (ws' := wM G b (upG (upG (upG y 2 (y 0)) 5 d38_1) 0 (y 0))) (wM_c rfl rfl rfl rfl rfl rfl rfl rfl rfl rfl rfl) ?_
        refine J_top (x' := hoursR (y 0) m 7 3) rfl ?_
        refine J_istore E (lv' := [(4, .int (hoursR (y 0) m 7 3)), (0, .ref (b 0)), (1, .int (nI j)), (2, .int v), (3, .int (nI m))]) dX6_burst_41 (by decide) rfl ?_
        refine J_aload_n E dX6_burst_43 rfl 1 rfl ?_
        refine J_cVv0 E (As := []) (c_X6_lends l G b (upG (upG (upG y 2 (y 0)) 5 d38_1) 0 (y 0)) ) cl_X6_160 yo_X6_lends dX6_burst_44 rfl rfl rfl (Nat.le_of_ble_eq_true rfl) (Nat.le_of_ble_eq_true rfl) rfl (Nat.le_of_ble_eq_true rfl) ⟨Nat.zero_le _, Nat.zero_le _⟩ ?_
        refine J_aload_n E dX6_burst_47 rfl 1 rfl ?_
        refine J_iload_n E dX6_burst_48 rfl 2 rfl ?_
        refine J_iload_n E dX6_burst_49 rfl 3 rfl ?_
        refine J_cVv0 E (As := [.int (nI j), .int v]) (c_X6_comes l G b (upG (upG (upG (upG y 2 (y 0)) 5 d38_1) 0 (y 0)) 2 (y 0)) j (by omega) v ) cl_X6_127 yo_X6_comes dX6_burst_50 rfl rfl rfl (Nat.le_of_ble_eq_true rfl) (Nat.le_of_ble_eq_true rfl) rfl (Nat.le_of_ble_eq_true rfl) ⟨Nat.zero_le _, Nat.zero_le _⟩ ?_
        refine J_aload_n E dX6_burst_53 rfl 1 rfl ?_
        refine J_iload_n E dX6_burst_54 rfl 4 rfl ?_
        refine J_callEi E (As := [.int (nI m)]) (c_X6_alleyIn l G b (upG (upG (upG (upG (upG y 2 (y 0)) 5 d38_1) 0 (y 0)) 2 (y 0)) 0 (comesR (y 0) j v)) m (by omega) (okQ_com hok _ _)) cl_X6_166 yo_X6_alleyIn dX6_burst_55 rfl (Nat.le_of_ble_eq_true rfl) (Nat.le_of_ble_eq_true rfl) rfl (Nat.le_of_ble_eq_true rfl) ⟨Nat.zero_le _, Nat.zero_le _⟩ (fun d55_2 => ?_)
        refine J_w (ws' := wM G b (upG (upG (upG (upG (upG (upG (upG y 2 (y 0)) 5 d38_1) 0 (y 0)) 2 (y 0)) 0 (comesR (y 0) j v)) 5 d55_2) 0 (y 0))) (wM_c rfl rfl rfl rfl rfl rfl rfl rfl rfl rfl rfl) ?_
        refine J_top (x' := hoursR (comesR (y 0) j v) m 7 3) rfl ?_
        refine J_iload E dX6_burst_58 0 rfl ?_
        refine J_isub E dX6_burst_60 ?_
        exact ret _ _ _ _ ⟨rfl, _, rfl, by intro g h2 h5 h6; by_cases h0 : g = 0 <;> simp [tellX, upG, up3, up3R, up2, h0, h2, h5, h6]⟩ rfl dX6_burst_61
      · skip
        have c_23 := bI_0 c_23
        exact absurd (inB (a := m) (b := 40) (by omega) (by decide)) c_23
