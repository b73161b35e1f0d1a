theorem argF_mx {f : Nat → Int32} {n : Nat} {a : Int32} (h : a = (argF f n).1) : mx a (f n) = (argF f (n + 1)).1 := by
  rw [argF, mx, h]
  split <;> rfl
theorem minF_mn {f : Nat → Int32} {n : Nat} {a : Int32} (h : a = (minF f n).1) : mn a (f n) = (minF f (n + 1)).1 := by
  rw [minF, mn, h]
  split <;> rfl
theorem argF_b {f : Nat → Int32} {n : Nat} {a : Int32} (h : a = (argF f n).1) (c : ¬ f n ≤ a) : nI n = nI (argF f (n + 1)).2 := by
  rw [argF, if_pos (by rw [← h]; exact Int32.not_le.mp c)]
theorem argF_k {f : Nat → Int32} {n : Nat} {a : Int32} (h : a = (argF f n).1) (c : f n ≤ a) : nI (argF f n).2 = nI (argF f (n + 1)).2 := by
  rw [argF, if_neg (by rw [← h]; exact Int32.not_lt.mpr c)]
theorem minF_b {f : Nat → Int32} {n : Nat} {a : Int32} (h : a = (minF f n).1) (c : ¬ a ≤ f n) : nI n = nI (minF f (n + 1)).2 := by
  rw [minF, if_pos (by rw [← h]; exact Int32.not_le.mp c)]
theorem minF_k {f : Nat → Int32} {n : Nat} {a : Int32} (h : a = (minF f n).1) (c : a ≤ f n) : nI (minF f n).2 = nI (minF f (n + 1)).2 := by
  rw [minF, if_neg (by rw [← h]; exact Int32.not_lt.mpr c)]
theorem tb_y {q : Q2} {v t : Int32} {m i : Nat} (h1 : t = tbF q v m i) (hc : t < 0 ∨ onesF (nI i) 11 < onesF t 11) (hd : drysR (turnRQ q (nI i)) m &&& v = 0) : nI i = tbF q v m (i + 1) := by
  subst h1
  rw [tbF, if_pos ⟨hc, hd⟩]
theorem tb_n1 {q : Q2} {v t : Int32} {m i : Nat} (h1 : t = tbF q v m i) (hd : ¬ drysR (turnRQ q (nI i)) m &&& v = 0) : t = tbF q v m (i + 1) := by
  subst h1
  rw [tbF, if_neg (fun z => hd z.2)]
theorem tb_n2 {q : Q2} {v t : Int32} {m i : Nat} (h1 : t = tbF q v m i) (ha : ¬ t < 0) (hb : ¬ onesF (nI i) 11 < onesF t 11) : t = tbF q v m (i + 1) := by
  subst h1
  rw [tbF, if_neg (fun z => z.1.elim ha hb)]

set_option maxHeartbeats 4000000 in
set_option maxRecDepth 20000 in
theorem c_X6_rainFor_bad (l : Launch) (G : GB) (b : Nat → Nat) (y : Q3) (h n : Int32) (hb : ¬ (okH h ∧ 0 ≤ n ∧ n ≤ 40)) : CI l yX6_rainFor cX6_rainFor 4 .int 2 45 G [.ref (b 0), .int h, .int n] (wM G b y) (fun vR w' => vR = tellR 0 ∧ PubM G b (tellX y 0) w') := by
  refine CI.mk (own := RX6) (by decide) rfl (Nat.le_of_ble_eq_true rfl) ?_
  intro X E ret
  show J X G 4 0 0 (wM G b y) [(0, .ref (b 0)), (1, .int h), (2, .int n)] 0 []
  refine J_iload_n E dX6_rainFor_0 rfl 1 rfl ?_
  refine J_cSiN E (As := [.int h]) (c_X6_isHouse l G h ) cl_X6_87 yo_X6_isHouse dX6_rainFor_1 rfl (Nat.le_of_ble_eq_true rfl) (Nat.le_of_ble_eq_true rfl) rfl (Nat.le_of_ble_eq_true rfl) ⟨Nat.zero_le _, Nat.zero_le _⟩ ?_
  refine J_if_eq E (tgt := 14) dX6_rainFor_4 (by decide) (fun c_4 => ?_) (fun c_4 => ?_)
  · skip
    have c_4 := bI_0 c_4
    refine J_aload_n E dX6_rainFor_14 rfl 0 rfl ?_
    refine J_iconst E dX6_rainFor_15 ic_0 ?_
    refine J_cVi0 E (As := [.int 0]) (c_X6_finds l G b y 0 (by omega)) cl_X6_96 yo_X6_finds dX6_rainFor_16 rfl rfl rfl (Nat.le_of_ble_eq_true rfl) (Nat.le_of_ble_eq_true rfl) rfl (Nat.le_of_ble_eq_true rfl) ⟨Nat.zero_le _, Nat.zero_le _⟩ ?_
    exact ret _ _ _ _ ⟨rfl, _, rfl, by intro g h2 h5 h6; by_cases h0 : g = 0 <;> simp [tellX, upG, up3, up3R, up2, h0, h2, h5, h6]⟩ rfl dX6_rainFor_19
  · skip
    have c_4 := bI_1 c_4
    refine J_iload_n E dX6_rainFor_7 rfl 2 rfl ?_
    refine J_cSiN E (As := [.int n]) (c_X6_isSoon l G n ) cl_X6_176 yo_X6_isSoon dX6_rainFor_8 rfl (Nat.le_of_ble_eq_true rfl) (Nat.le_of_ble_eq_true rfl) rfl (Nat.le_of_ble_eq_true rfl) ⟨Nat.zero_le _, Nat.zero_le _⟩ ?_
    refine J_if_ne E (tgt := 20) dX6_rainFor_11 (by decide) (fun c_11 => ?_) (fun c_11 => ?_)
    · skip
      have c_11 := bI_1 c_11
      exact absurd ⟨c_4, c_11⟩ hb
    · skip
      have c_11 := bI_0 c_11
      refine J_aload_n E dX6_rainFor_14 rfl 0 rfl ?_
      refine J_iconst E dX6_rainFor_15 ic_0 ?_
      refine J_cVi0 E (As := [.int 0]) (c_X6_finds l G b y 0 (by omega)) cl_X6_96 yo_X6_finds dX6_rainFor_16 rfl rfl rfl (Nat.le_of_ble_eq_true rfl) (Nat.le_of_ble_eq_true rfl) rfl (Nat.le_of_ble_eq_true rfl) ⟨Nat.zero_le _, Nat.zero_le _⟩ ?_
      exact ret _ _ _ _ ⟨rfl, _, rfl, by intro g h2 h5 h6; by_cases h0 : g = 0 <;> simp [tellX, upG, up3, up3R, up2, h0, h2, h5, h6]⟩ rfl dX6_rainFor_19

set_option maxHeartbeats 4000000 in
set_option maxRecDepth 20000 in
theorem c_X6_rainFor_ok (l : Launch) (G : GB) (b : Nat → Nat) (y : Q3) (j m : Nat) (hj : j < 11) (hm : m ≤ 40) (hok : okQ (y 0))  : CI l yX6_rainFor cX6_rainFor 4 .int 6 137 G [.ref (b 0), .int (nI j), .int (nI m)] (wM G b y) (fun vR w' => vR = optR (upF (fun v => wetB (up2 (y 0) 7 2 (nI v)) j m) 1000 0) ∧ PubM G b (optX y (upF (fun v => wetB (up2 (y 0) 7 2 (nI v)) j m) 1000 0)) w') := by
  refine CI.mk (own := RX6) (by decide) rfl (Nat.le_of_ble_eq_true rfl) ?_
  intro X E ret
  show J X G 4 0 0 (wM G b y) [(0, .ref (b 0)), (1, .int (nI j)), (2, .int (nI m))] 0 []
  refine J_iload_n E dX6_rainFor_0 rfl 1 rfl ?_
  refine J_cSiN E (As := [.int (nI j)]) (c_X6_isHouse l G (nI j) ) cl_X6_87 yo_X6_isHouse dX6_rainFor_1 rfl (Nat.le_of_ble_eq_true rfl) (Nat.le_of_ble_eq_true rfl) rfl (Nat.le_of_ble_eq_true rfl) ⟨Nat.zero_le _, Nat.zero_le _⟩ ?_
  refine J_if_eq E (tgt := 14) dX6_rainFor_4 (by decide) (fun c_4 => ?_) (fun c_4 => ?_)
  · skip
    have c_4 := bI_0 c_4
    exact absurd (inB (a := j) (b := 10) (by omega) (by decide)) c_4
  · skip
    have c_4 := bI_1 c_4
    refine J_iload_n E dX6_rainFor_7 rfl 2 rfl ?_
    refine J_cSiN E (As := [.int (nI m)]) (c_X6_isSoon l G (nI m) ) cl_X6_176 yo_X6_isSoon dX6_rainFor_8 rfl (Nat.le_of_ble_eq_true rfl) (Nat.le_of_ble_eq_true rfl) rfl (Nat.le_of_ble_eq_true rfl) ⟨Nat.zero_le _, Nat.zero_le _⟩ ?_
    refine J_if_ne E (tgt := 20) dX6_rainFor_11 (by decide) (fun c_11 => ?_) (fun c_11 => ?_)
    · skip
      have c_11 := bI_1 c_11
      refine J_iconst E dX6_rainFor_20 ic_0 ?_
      refine J_istore_n E (lv' := [(3, .int 0), (0, .ref (b 0)), (1, .int (nI j)), (2, .int (nI m))]) dX6_rainFor_21 rfl (by decide) rfl ?_
      refine J_w (ws' := wM G b (upG y 5 (y 5))) (congrArg (wM G b) upG_id.symm) ?_
      have lp22 : ∀ (fu : Nat) (i : Nat) (d : Q2) (z : Q2), (i ≤ 1000) → (upF (fun v => wetB (up2 (y 0) 7 2 (nI v)) j m) 1000 0 = upF (fun v => wetB (up2 (y 0) 7 2 (nI v)) j m) (1000 - i) i) → 1000 - i < fu → J X G 4 0 0 (wM G b (upG (upG y 5 d) 2 z)) [(0, .ref (b 0)), (1, .int (nI j)), (2, .int (nI m)), (3, .int (nI i))] 22 [] := by
        intro fu
        induction fu with
        | zero => intro i d z hi h1 hm; exact absurd hm (Nat.not_lt_zero _)
        | succ fu ih22 =>
          intro i d z hi h1 hm
          refine J_iload_n E dX6_rainFor_22 rfl 3 rfl ?_
          refine J_sipush E dX6_rainFor_23 sp_999 ?_
          refine J_icmp_gt E (tgt := 57) dX6_rainFor_26 (by decide) (fun c_26 => ?_) (fun c_26 => ?_)
          · skip
            have n_26 : 999 < i := cmp_lt (a := 999) (b := i) (by omega) (by omega) c_26
            have h2 : upF (fun v => wetB (up2 (y 0) 7 2 (nI v)) j m) 1000 0 = none := by rw [h1, show 1000 - i = 0 by omega]; rfl
            refine J_aload_n E dX6_rainFor_57 rfl 0 rfl ?_
            refine J_iconst E dX6_rainFor_58 ic_3 ?_
            refine J_cVi0 E (As := [.int 3]) (c_X6_finds l G b (upG (upG y 5 d) 2 z) 3 (by omega)) cl_X6_96 yo_X6_finds dX6_rainFor_59 rfl rfl rfl (Nat.le_of_ble_eq_true rfl) (Nat.le_of_ble_eq_true rfl) rfl (Nat.le_of_ble_eq_true rfl) ⟨Nat.zero_le _, Nat.zero_le _⟩ ?_
            refine J_top (x' := tellR 3) rfl ?_
            exact ret _ _ _ _ ⟨by rw [h2]; rfl, _, rfl, by rw [h2]; intro g h2 h5 h6; by_cases h0 : g = 0 <;> simp [optX, tellX, upG, up3, h0, h2, h5, h6]; done⟩ rfl dX6_rainFor_62
          · skip
            have n_26 : ¬ 999 < i := cmp_nlt (a := 999) (b := i) (by omega) (by omega) c_26
            refine J_aload_n E dX6_rainFor_29 rfl 0 rfl ?_
            refine J_cVv0 E (As := []) (c_X6_lends l G b (upG (upG y 5 d) 2 z) ) cl_X6_160 yo_X6_lends dX6_rainFor_30 rfl rfl rfl (Nat.le_of_ble_eq_true rfl) (Nat.le_of_ble_eq_true rfl) rfl (Nat.le_of_ble_eq_true rfl) ⟨Nat.zero_le _, Nat.zero_le _⟩ ?_
            refine J_aload_n E dX6_rainFor_33 rfl 0 rfl ?_
            refine gM0_X6_9 E dX6_rainFor_34 ?_
            refine J_iconst E dX6_rainFor_37 ic_2 ?_
            refine J_iload_n E dX6_rainFor_38 rfl 3 rfl ?_
            refine sMs E (j := 2) (r := 7) (i := 2) (at_7 (by decide)) dX6_rainFor_39 ?_
            refine J_w (ws' := wM G b (upG (upG (upG (upG y 5 d) 2 z) 2 (y 0)) 0 (up2 (y 0) 7 2 (nI i)))) rfl ?_
            refine J_aload_n E dX6_rainFor_40 rfl 0 rfl ?_
            refine J_iload_n E dX6_rainFor_41 rfl 1 rfl ?_
            refine J_iload_n E dX6_rainFor_42 rfl 2 rfl ?_
            refine J_callEi E (As := [.int (nI j), .int (nI m)]) (c_X6_isWet l G b (upG (upG (upG (upG y 5 d) 2 z) 2 (y 0)) 0 (up2 (y 0) 7 2 (nI i))) j m (by omega) (by omega) (show okQ (up2 (y 0) 7 2 (nI i)) from okQ_w hok _ _ (by decide) (by decide))) cl_X6_179 yo_X6_isWet dX6_rainFor_43 rfl (Nat.le_of_ble_eq_true rfl) (Nat.le_of_ble_eq_true rfl) rfl (Nat.le_of_ble_eq_true rfl) ⟨Nat.zero_le _, Nat.zero_le _⟩ (fun d43_1 => ?_)
            refine J_w (ws' := wM G b (upG (upG (upG (upG (upG (upG y 5 d) 2 z) 2 (y 0)) 0 (up2 (y 0) 7 2 (nI i))) 5 d43_1) 0 (y 0))) (wM_c rfl rfl rfl rfl rfl rfl rfl rfl rfl rfl rfl) ?_
            refine J_top (x' := bI (wetB (up2 (y 0) 7 2 (nI i)) j m = true)) rfl ?_
            refine J_if_eq E (tgt := 51) dX6_rainFor_46 (by decide) (fun c_46 => ?_) (fun c_46 => ?_)
            · skip
              have c_46 := bI_0 c_46
              refine J_iinc E (lv' := [(3, .int (nI (i + 1))), (0, .ref (b 0)), (1, .int (nI j)), (2, .int (nI m))]) dX6_rainFor_51 3 rfl (nI_inc _) (by decide) rfl ?_
              refine J_goto E (tgt := 22) dX6_rainFor_54 (by decide) ?_
              refine J_lv [1, 2, 3, 0] rfl ?_
              refine J_w (ws' := wM G b (upG (upG y 5 d43_1) 2 (y 0))) (wM_c rfl rfl rfl rfl rfl rfl rfl rfl rfl rfl rfl) ?_
              exact ih22 (i + 1) d43_1 (y 0) (by omega) (by rw [h1, show 1000 - i = (1000 - (i + 1)) + 1 by omega]; exact upF_f c_46) (by omega)
            · skip
              have c_46 := bI_1 c_46
              have h2 : upF (fun v => wetB (up2 (y 0) 7 2 (nI v)) j m) 1000 0 = some i := by rw [h1, show 1000 - i = (999 - i) + 1 by omega]; exact upF_t c_46
              refine J_iload_n E dX6_rainFor_49 rfl 3 rfl ?_
              exact ret _ _ _ _ ⟨by rw [h2]; rfl, _, rfl, by rw [h2]; intro g h2 h5 h6; by_cases h0 : g = 0 <;> simp [optX, tellX, upG, up3, h0, h2, h5, h6]; done⟩ rfl dX6_rainFor_50
      refine J_lv [1, 2, 3, 0] rfl ?_
      refine J_w (ws' := wM G b (upG (upG y 5 (y 5)) 2 (y 2))) (wM_c rfl rfl rfl rfl rfl rfl rfl rfl rfl rfl rfl) ?_
      exact lp22 _ 0 (y 5) (y 2) (by omega) rfl (Nat.lt_succ_self _)
    · skip
      have c_11 := bI_0 c_11
      exact absurd (inB (a := m) (b := 40) (by omega) (by decide)) c_11
