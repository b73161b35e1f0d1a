set_option maxHeartbeats 4000000 in
set_option maxRecDepth 20000 in
theorem c_X6_draw (l : Launch) (G : GB) (b : Nat → Nat) (y : Q3)  : CI l yX6_draw cX6_draw 1 .int 0 0 G [.ref (b 0)] (wM G b y) (fun vR w' => vR = ((drawF (y 0 7 1)).toUInt32 >>> ((8 : Int32).toUInt32 &&& Int32.toUInt32 31)).toInt32 ∧ w' = wM G b (upG y 0 (up2 (y 0) 7 1 (drawF (y 0 7 1))))) := by
  refine CI.mk (own := RX6) (by decide) rfl (Nat.le_of_ble_eq_true rfl) ?_
  intro X E ret
  show J X G 1 0 0 (wM G b y) [(0, .ref (b 0))] 0 []
  refine J_aload_n E dX6_draw_0 rfl 0 rfl ?_
  refine gM0_X6_9 E dX6_draw_1 ?_
  refine J_iconst E dX6_draw_4 ic_1 ?_
  refine J_aload_n E dX6_draw_5 rfl 0 rfl ?_
  refine gM0_X6_9 E dX6_draw_6 ?_
  refine J_iconst E dX6_draw_9 ic_1 ?_
  refine lMs E (j := 1) (r := 7) (i := 1) (at_7 (by decide)) dX6_draw_10 ?_
  refine J_ldc E kn_X6_206 dX6_draw_11 ?_
  refine J_imul E dX6_draw_13 ?_
  refine J_sipush E dX6_draw_14 sp_12345 ?_
  refine J_iadd E dX6_draw_17 ?_
  refine sMs E (j := 1) (r := 7) (i := 1) (at_7 (by decide)) dX6_draw_18 ?_
  refine J_w (ws' := wM G b (upG y 0 (up2 (y 0) 7 1 (((y 0 7 1) * 1103515245) + 12345)))) rfl ?_
  refine J_aload_n E dX6_draw_19 rfl 0 rfl ?_
  refine gM0_X6_9 E dX6_draw_20 ?_
  refine J_iconst E dX6_draw_23 ic_1 ?_
  refine lMs E (j := 1) (r := 7) (i := 1) (at_7 (by decide)) dX6_draw_24 ?_
  refine J_top (x' := (up2 (y 0) 7 1 (((y 0 7 1) * 1103515245) + 12345)) 7 1) upG_s ?_
  refine J_top (x' := drawF (y 0 7 1)) (up2_s) ?_
  refine J_bipush E dX6_draw_25 bp_8 ?_
  refine J_iushr E dX6_draw_27 rfl ?_
  exact ret _ _ _ _ ⟨rfl, (congrArg (wM G b) (rfl))⟩ rfl dX6_draw_28

set_option maxHeartbeats 4000000 in
set_option maxRecDepth 20000 in
theorem c_X6_showers_bad (l : Launch) (G : GB) (b : Nat → Nat) (y : Q3) (n : Int32) (hb : ¬ (1 ≤ n ∧ n ≤ 20)) : CI l yX6_showers cX6_showers 4 .int 1 25 G [.ref (b 0), .int n] (wM G b y) (fun vR w' => vR = tellR 0 ∧ PubM G b (tellX y 0) w') := by
  refine CI.mk (own := RX6) (by decide) rfl (Nat.le_of_ble_eq_true rfl) ?_
  intro X E ret
  show J X G 4 0 0 (wM G b y) [(0, .ref (b 0)), (1, .int n)] 0 []
  refine J_iload_n E dX6_showers_0 rfl 1 rfl ?_
  refine J_i2l E dX6_showers_1 rfl ?_
  refine J_lconst E dX6_showers_2 lc_1 ?_
  refine J_ldc2 E kl_X6_207 dX6_showers_3 ?_
  refine J_cSiN E (As := [.long (Int32.toInt64 n), .long 1, .long 20]) (c_X6_in l G n 1 20 1 20 (by decide) (by decide) ) cl_X6_54 yo_X6_in dX6_showers_6 rfl (Nat.le_of_ble_eq_true rfl) (Nat.le_of_ble_eq_true rfl) rfl (Nat.le_of_ble_eq_true rfl) ⟨Nat.zero_le _, Nat.zero_le _⟩ ?_
  refine J_if_ne E (tgt := 18) dX6_showers_9 (by decide) (fun c_9 => ?_) (fun c_9 => ?_)
  · skip
    have c_9 := bI_1 c_9
    exact absurd c_9 hb
  · skip
    have c_9 := bI_0 c_9
    refine J_aload_n E dX6_showers_12 rfl 0 rfl ?_
    refine J_iconst E dX6_showers_13 ic_0 ?_
    refine J_cVi0 E (As := [.int 0]) (c_X6_finds l G b y 0 (by omega)) cl_X6_96 yo_X6_finds dX6_showers_14 rfl rfl rfl (Nat.le_of_ble_eq_true rfl) (Nat.le_of_ble_eq_true rfl) rfl (Nat.le_of_ble_eq_true rfl) ⟨Nat.zero_le _, Nat.zero_le _⟩ ?_
    exact ret _ _ _ _ ⟨rfl, _, rfl, by intro g h2 h5 h6; by_cases h0 : g = 0 <;> simp [tellX, upG, up3, up3R, up2, h0, h2, h5, h6]⟩ rfl dX6_showers_17

set_option maxHeartbeats 4000000 in
set_option maxRecDepth 20000 in
theorem c_X6_showers_state (l : Launch) (G : GB) (b : Nat → Nat) (y : Q3) (n : Nat) (h1 : 1 ≤ n) (h2 : n ≤ 20) (hh : ¬ y 0 7 0 + nI n ≤ 99999) : CI l yX6_showers cX6_showers 4 .int 1 25 G [.ref (b 0), .int (nI n)] (wM G b y) (fun vR w' => vR = tellR 4 ∧ PubM G b (tellX y 4) w') := by
  refine CI.mk (own := RX6) (by decide) rfl (Nat.le_of_ble_eq_true rfl) ?_
  intro X E ret
  show J X G 4 0 0 (wM G b y) [(0, .ref (b 0)), (1, .int (nI n))] 0 []
  refine J_iload_n E dX6_showers_0 rfl 1 rfl ?_
  refine J_i2l E dX6_showers_1 rfl ?_
  refine J_lconst E dX6_showers_2 lc_1 ?_
  refine J_ldc2 E kl_X6_207 dX6_showers_3 ?_
  refine J_cSiN E (As := [.long (Int32.toInt64 (nI n)), .long 1, .long 20]) (c_X6_in l G (nI n) 1 20 1 20 (by decide) (by decide) ) cl_X6_54 yo_X6_in dX6_showers_6 rfl (Nat.le_of_ble_eq_true rfl) (Nat.le_of_ble_eq_true rfl) rfl (Nat.le_of_ble_eq_true rfl) ⟨Nat.zero_le _, Nat.zero_le _⟩ ?_
  refine J_if_ne E (tgt := 18) dX6_showers_9 (by decide) (fun c_9 => ?_) (fun c_9 => ?_)
  · skip
    have c_9 := bI_1 c_9
    refine J_aload_n E dX6_showers_18 rfl 0 rfl ?_
    refine gM0_X6_9 E dX6_showers_19 ?_
    refine J_iconst E dX6_showers_22 ic_0 ?_
    refine lMs E (j := 0) (r := 7) (i := 0) (at_7 (by decide)) dX6_showers_23 ?_
    refine J_iload_n E dX6_showers_24 rfl 1 rfl ?_
    refine J_iadd E dX6_showers_25 ?_
    refine J_ldc E kn_X6_143 dX6_showers_26 ?_
    refine J_icmp_le E (tgt := 37) dX6_showers_28 (by decide) (fun c_28 => ?_) (fun c_28 => ?_)
    · skip
      exact absurd c_28 hh
    · skip
      refine J_aload_n E dX6_showers_31 rfl 0 rfl ?_
      refine J_iconst E dX6_showers_32 ic_4 ?_
      refine J_cVi0 E (As := [.int 4]) (c_X6_finds l G b y 4 (by omega)) cl_X6_96 yo_X6_finds dX6_showers_33 rfl rfl rfl (Nat.le_of_ble_eq_true rfl) (Nat.le_of_ble_eq_true rfl) rfl (Nat.le_of_ble_eq_true rfl) ⟨Nat.zero_le _, Nat.zero_le _⟩ ?_
      exact ret _ _ _ _ ⟨rfl, _, rfl, by intro g h2 h5 h6; by_cases h0 : g = 0 <;> simp [tellX, upG, up3, up3R, up2, h0, h2, h5, h6]⟩ rfl dX6_showers_36
  · skip
    have c_9 := bI_0 c_9
    exact absurd (inB1 (b := 20) h1 h2 (by decide)) c_9

set_option maxHeartbeats 4000000 in
set_option maxRecDepth 20000 in
theorem c_X6_showers_ok (l : Launch) (G : GB) (b : Nat → Nat) (y : Q3) (n : Nat) (h1 : 1 ≤ n) (h2 : n ≤ 20) (hh : y 0 7 0 + nI n ≤ 99999) (hok : okQ (y 0))  : CI l yX6_showers cX6_showers 4 .int 4 91 G [.ref (b 0), .int (nI n)] (wM G b y) (fun vR w' => vR = showRN (y 0) n ∧ PubM G b (upG y 0 (showR (y 0) n)) w') := by
  refine CI.mk (own := RX6) (by decide) rfl (Nat.le_of_ble_eq_true rfl) ?_
  intro X E ret
  show J X G 4 0 0 (wM G b y) [(0, .ref (b 0)), (1, .int (nI n))] 0 []
  refine J_iload_n E dX6_showers_0 rfl 1 rfl ?_
  refine J_i2l E dX6_showers_1 rfl ?_
  refine J_lconst E dX6_showers_2 lc_1 ?_
  refine J_ldc2 E kl_X6_207 dX6_showers_3 ?_
  refine J_cSiN E (As := [.long (Int32.toInt64 (nI n)), .long 1, .long 20]) (c_X6_in l G (nI n) 1 20 1 20 (by decide) (by decide) ) cl_X6_54 yo_X6_in dX6_showers_6 rfl (Nat.le_of_ble_eq_true rfl) (Nat.le_of_ble_eq_true rfl) rfl (Nat.le_of_ble_eq_true rfl) ⟨Nat.zero_le _, Nat.zero_le _⟩ ?_
  refine J_if_ne E (tgt := 18) dX6_showers_9 (by decide) (fun c_9 => ?_) (fun c_9 => ?_)
  · skip
    have c_9 := bI_1 c_9
    refine J_aload_n E dX6_showers_18 rfl 0 rfl ?_
    refine gM0_X6_9 E dX6_showers_19 ?_
    refine J_iconst E dX6_showers_22 ic_0 ?_
    refine lMs E (j := 0) (r := 7) (i := 0) (at_7 (by decide)) dX6_showers_23 ?_
    refine J_iload_n E dX6_showers_24 rfl 1 rfl ?_
    refine J_iadd E dX6_showers_25 ?_
    refine J_ldc E kn_X6_143 dX6_showers_26 ?_
    refine J_icmp_le E (tgt := 37) dX6_showers_28 (by decide) (fun c_28 => ?_) (fun c_28 => ?_)
    · skip
      refine J_iconst E dX6_showers_37 ic_0 ?_
      refine J_istore_n E (lv' := [(2, .int 0), (0, .ref (b 0)), (1, .int (nI n))]) dX6_showers_38 rfl (by decide) rfl ?_
      refine J_iconst E dX6_showers_39 ic_0 ?_
      refine J_istore_n E (lv' := [(3, .int 0), (2, .int 0), (0, .ref (b 0)), (1, .int (nI n))]) dX6_showers_40 rfl (by decide) rfl ?_
      refine J_w (ws' := wM G b (upG y 5 (y 5))) (congrArg (wM G b) upG_id.symm) ?_
      have lp41 : ∀ (fu : Nat) (i : Nat) (c : Int32) (d : Q2) (r : Q2), (i ≤ n) → (r = showR (y 0) i) → (c = showRN (y 0) i) → n - i < fu → J X G 4 0 0 (wM G b (upG (upG y 5 d) 0 r)) [(0, .ref (b 0)), (1, .int (nI n)), (2, .int c), (3, .int (nI i))] 41 [] := by
        intro fu
        induction fu with
        | zero => intro i c d r hi hr hc hm; exact absurd hm (Nat.not_lt_zero _)
        | succ fu ih41 =>
          intro i c d r hi hr hc hm
          refine J_iload_n E dX6_showers_41 rfl 3 rfl ?_
          refine J_iload_n E dX6_showers_42 rfl 1 rfl ?_
          refine J_icmp_ge E (tgt := 84) dX6_showers_43 (by decide) (fun c_43 => ?_) (fun c_43 => ?_)
          · skip
            have n_43 : n ≤ i := cmp_le (a := n) (b := i) (by omega) (by omega) c_43
            refine J_iload_n E dX6_showers_84 rfl 2 rfl ?_
            exact ret _ _ _ _ ⟨by rw [hc, show i = n by omega], _, rfl, by rw [hr, show i = n by omega]; intro g h2 h5 h6; by_cases h0 : g = 0 <;> simp [upG, h0, h5]⟩ rfl dX6_showers_85
          · skip
            have n_43 : ¬ n ≤ i := cmp_nle (a := n) (b := i) (by omega) (by omega) c_43
            refine J_aload_n E dX6_showers_46 rfl 0 rfl ?_
            refine gM0_X6_9 E dX6_showers_47 ?_
            refine J_iconst E dX6_showers_50 ic_2 ?_
            refine J_aload_n E dX6_showers_51 rfl 0 rfl ?_
            refine J_cVi0 E (As := []) (c_X6_draw l G b (upG (upG y 5 d) 0 r) ) cl_X6_209 yo_X6_draw dX6_showers_52 rfl rfl rfl (Nat.le_of_ble_eq_true rfl) (Nat.le_of_ble_eq_true rfl) rfl (Nat.le_of_ble_eq_true rfl) ⟨Nat.zero_le _, Nat.zero_le _⟩ ?_
            refine J_top (x' := ((drawF (r 7 1)).toUInt32 >>> ((8 : Int32).toUInt32 &&& Int32.toUInt32 31)).toInt32) rfl ?_
            refine J_bipush E dX6_showers_55 bp_100 ?_
            refine J_irem E dX6_showers_57 (by decide) ?_
            refine sMs E (j := 2) (r := 7) (i := 2) (at_7 (by decide)) dX6_showers_58 ?_
            refine J_w (ws' := wM G b (upG (upG (upG (upG y 5 d) 0 r) 0 (up2 r 7 1 (drawF (r 7 1)))) 0 (up2 (up2 r 7 1 (drawF (r 7 1))) 7 2 ((((drawF (r 7 1)).toUInt32 >>> ((8 : Int32).toUInt32 &&& Int32.toUInt32 31)).toInt32) - (((drawF (r 7 1)).toUInt32 >>> ((8 : Int32).toUInt32 &&& Int32.toUInt32 31)).toInt32) / 100 * 100)))) rfl ?_
            refine J_w (ws' := wM G b (upG (upG y 5 d) 0 (rainD r))) (congrArg (wM G b) (by rw [upG_upG, upG_upG]; rfl)) ?_
            refine J_aload_n E dX6_showers_59 rfl 0 rfl ?_
            refine J_cVv0 E (As := []) (c_X6_anHour l G b (upG (upG y 5 d) 0 (rainD r)) (by rw [hr]; exact okQ_rain (okQ_show hok i))) cl_X6_138 yo_X6_anHour dX6_showers_60 rfl rfl rfl (Nat.le_of_ble_eq_true rfl) (Nat.le_of_ble_eq_true rfl) rfl (Nat.le_of_ble_eq_true rfl) ⟨Nat.zero_le _, Nat.zero_le _⟩ ?_
            refine J_iload_n E dX6_showers_63 rfl 2 rfl ?_
            refine J_aload_n E dX6_showers_64 rfl 0 rfl ?_
            refine gM0_X6_131 E dX6_showers_65 ?_
            refine J_top (x' := (hd5 (rainD r) d) 2 0) (Eq.trans (upG_n (by decide)) upG_s) ?_
            refine J_top (x' := dryR (rainD r)) (hd5_2 _ _) ?_
            refine J_if_ne E (tgt := 75) dX6_showers_68 (by decide) (fun c_68 => ?_) (fun c_68 => ?_)
            · skip
              refine J_iconst E dX6_showers_75 ic_1 ?_
              refine J_iadd E dX6_showers_76 ?_
              refine J_istore_n E (lv' := [(2, .int (c + 1)), (0, .ref (b 0)), (1, .int (nI n)), (3, .int (nI i))]) dX6_showers_77 rfl (by decide) rfl ?_
              refine J_iinc E (lv' := [(3, .int (nI (i + 1))), (2, .int (c + 1)), (0, .ref (b 0)), (1, .int (nI n))]) dX6_showers_78 3 rfl (nI_inc _) (by decide) rfl ?_
              refine J_goto E (tgt := 41) dX6_showers_81 (by decide) ?_
              refine J_lv [2, 3, 1, 0] rfl ?_
              refine J_w (ws' := wM G b (upG (upG y 5 (hd5 (rainD r) d)) 0 (hourR0 (rainD r)))) (wM_c rfl rfl rfl rfl rfl rfl rfl rfl rfl rfl rfl) ?_
              exact ih41 (i + 1) (c + 1) (hd5 (rainD r) d) (hourR0 (rainD r)) (by omega) (by rw [hr]; rfl) (by rw [hc, showRN, ← hr]; first | (rw [if_pos c_68, Int32.add_zero]) | rw [if_neg c_68]) (by omega)
            · skip
              refine J_iconst E dX6_showers_71 ic_0 ?_
              refine J_goto E (tgt := 76) dX6_showers_72 (by decide) ?_
              refine J_iadd E dX6_showers_76 ?_
              refine J_istore_n E (lv' := [(2, .int (c + 0)), (0, .ref (b 0)), (1, .int (nI n)), (3, .int (nI i))]) dX6_showers_77 rfl (by decide) rfl ?_
              refine J_iinc E (lv' := [(3, .int (nI (i + 1))), (2, .int (c + 0)), (0, .ref (b 0)), (1, .int (nI n))]) dX6_showers_78 3 rfl (nI_inc _) (by decide) rfl ?_
              refine J_goto E (tgt := 41) dX6_showers_81 (by decide) ?_
              refine J_lv [2, 3, 1, 0] rfl ?_
              refine J_w (ws' := wM G b (upG (upG y 5 (hd5 (rainD r) d)) 0 (hourR0 (rainD r)))) (wM_c rfl rfl rfl rfl rfl rfl rfl rfl rfl rfl rfl) ?_
              exact ih41 (i + 1) (c + 0) (hd5 (rainD r) d) (hourR0 (rainD r)) (by omega) (by rw [hr]; rfl) (by rw [hc, showRN, ← hr]; first | (rw [if_pos c_68, Int32.add_zero]) | rw [if_neg c_68]) (by omega)
      refine J_lv [2, 3, 1, 0] rfl ?_
      refine J_w (ws' := wM G b (upG (upG y 5 (y 5)) 0 (y 0))) (wM_c rfl rfl rfl rfl rfl rfl rfl rfl rfl rfl rfl) ?_
      exact lp41 _ 0 0 (y 5) (y 0) (by omega) rfl rfl (Nat.lt_succ_self _)
    · skip
      exact absurd hh c_28
  · skip
    have c_9 := bI_0 c_9
    exact absurd (inB1 (b := 20) h1 h2 (by decide)) c_9
