set_option maxHeartbeats 4000000 in
set_option maxRecDepth 20000 in
theorem c_X6_seed (l : Launch) (G : GB) (b : Nat → Nat) (y : Q3) (v : Int32) : CI l yX6_seed cX6_seed 2 .int 1 23 G [.ref (b 0), .int v] (wM G b y) (fun vR w' => vR = y 0 7 1 ∧ PubM G b (up3 y 0 7 1 v) w') := by
  refine CI.mk (own := RX6) (by decide) rfl (Nat.le_of_ble_eq_true rfl) ?_
  intro X E ret
  show J X G 2 0 0 (wM G b y) [(0, .ref (b 0)), (1, .int v)] 0 []
  refine J_aload_n E dX6_seed_0 rfl 0 rfl ?_
  refine J_iconst E dX6_seed_1 ic_1 ?_
  refine J_iload_n E dX6_seed_2 rfl 1 rfl ?_
  refine J_cVi0 E (As := [.int 1, .int v]) (c_X6_becomes l G b y 1 7 1 v (at_7 (by decide))) cl_X6_93 yo_X6_becomes dX6_seed_3 rfl rfl rfl (Nat.le_of_ble_eq_true rfl) (Nat.le_of_ble_eq_true rfl) rfl (Nat.le_of_ble_eq_true rfl) ⟨Nat.zero_le _, Nat.zero_le _⟩ ?_
  exact ret _ _ _ _ ⟨rfl, _, rfl, by intro g h2 h5 h6; by_cases h0 : g = 0 <;> simp [tellX, upG, up3, up3R, up2, h0, h2, h5, h6]⟩ rfl dX6_seed_6

set_option maxHeartbeats 4000000 in
set_option maxRecDepth 20000 in
theorem c_X6_feed_bad (l : Launch) (G : GB) (b : Nat → Nat) (y : Q3) (c n : Int32) (hb : ¬ (1 ≤ n ∧ n ≤ 4)) : CI l yX6_feed cX6_feed 4 .int 1 25 G [.ref (b 0), .int c, .int n] (wM G b y) (fun vR w' => vR = tellR 0 ∧ PubM G b (tellX y 0) w') := by
  refine CI.mk (own := RX6) (by decide) rfl (Nat.le_of_ble_eq_true rfl) ?_
  intro X E ret
  show J X G 4 0 0 (wM G b y) [(0, .ref (b 0)), (1, .int c), (2, .int n)] 0 []
  refine J_iload_n E dX6_feed_0 rfl 2 rfl ?_
  refine J_i2l E dX6_feed_1 rfl ?_
  refine J_lconst E dX6_feed_2 lc_1 ?_
  refine J_ldc2 E kl_X6_212 dX6_feed_3 ?_
  refine J_cSiN E (As := [.long (Int32.toInt64 n), .long 1, .long 4]) (c_X6_in l G n 1 4 1 4 (by decide) (by decide) ) cl_X6_54 yo_X6_in dX6_feed_6 rfl (Nat.le_of_ble_eq_true rfl) (Nat.le_of_ble_eq_true rfl) rfl (Nat.le_of_ble_eq_true rfl) ⟨Nat.zero_le _, Nat.zero_le _⟩ ?_
  refine J_if_ne E (tgt := 18) dX6_feed_9 (by decide) (fun c_9 => ?_) (fun c_9 => ?_)
  · skip
    have c_9 := bI_1 c_9
    exact absurd c_9 hb
  · skip
    have c_9 := bI_0 c_9
    refine J_aload_n E dX6_feed_12 rfl 0 rfl ?_
    refine J_iconst E dX6_feed_13 ic_0 ?_
    refine J_cVi0 E (As := [.int 0]) (c_X6_finds l G b y 0 (by omega)) cl_X6_96 yo_X6_finds dX6_feed_14 rfl rfl rfl (Nat.le_of_ble_eq_true rfl) (Nat.le_of_ble_eq_true rfl) rfl (Nat.le_of_ble_eq_true rfl) ⟨Nat.zero_le _, Nat.zero_le _⟩ ?_
    exact ret _ _ _ _ ⟨rfl, _, rfl, by intro g h2 h5 h6; by_cases h0 : g = 0 <;> simp [tellX, upG, up3, up3R, up2, h0, h2, h5, h6]⟩ rfl dX6_feed_17

set_option maxHeartbeats 4000000 in
set_option maxRecDepth 20000 in
theorem c_X6_feed_full (l : Launch) (G : GB) (b : Nat → Nat) (y : Q3) (c : Int32) (n k : Nat) (h1 : 1 ≤ n) (h2 : n ≤ 4) (hk : y 7 1 0 = nI k) (hk2 : k ≤ 120) (hf : 120 < k + n) : CI l yX6_feed cX6_feed 4 .int 1 25 G [.ref (b 0), .int c, .int (nI n)] (wM G b y) (fun vR w' => vR = tellR 1 ∧ PubM G b (tellX y 1) w') := by
  refine CI.mk (own := RX6) (by decide) rfl (Nat.le_of_ble_eq_true rfl) ?_
  intro X E ret
  show J X G 4 0 0 (wM G b y) [(0, .ref (b 0)), (1, .int c), (2, .int (nI n))] 0 []
  refine J_iload_n E dX6_feed_0 rfl 2 rfl ?_
  refine J_i2l E dX6_feed_1 rfl ?_
  refine J_lconst E dX6_feed_2 lc_1 ?_
  refine J_ldc2 E kl_X6_212 dX6_feed_3 ?_
  refine J_cSiN E (As := [.long (Int32.toInt64 (nI n)), .long 1, .long 4]) (c_X6_in l G (nI n) 1 4 1 4 (by decide) (by decide) ) cl_X6_54 yo_X6_in dX6_feed_6 rfl (Nat.le_of_ble_eq_true rfl) (Nat.le_of_ble_eq_true rfl) rfl (Nat.le_of_ble_eq_true rfl) ⟨Nat.zero_le _, Nat.zero_le _⟩ ?_
  refine J_if_ne E (tgt := 18) dX6_feed_9 (by decide) (fun c_9 => ?_) (fun c_9 => ?_)
  · skip
    have c_9 := bI_1 c_9
    refine J_aload_n E dX6_feed_18 rfl 0 rfl ?_
    refine gM0_X6_214 E dX6_feed_19 ?_
    refine J_top (x' := nI k) (hk) ?_
    refine J_iload_n E dX6_feed_22 rfl 2 rfl ?_
    refine J_iadd E dX6_feed_23 ?_
    refine J_top (x' := nI (k + n)) (nI_add _ _) ?_
    refine J_bipush E dX6_feed_24 bp_120 ?_
    refine J_icmp_le E (tgt := 35) dX6_feed_26 (by decide) (fun c_26 => ?_) (fun c_26 => ?_)
    · skip
      have n_26 : (k + n) ≤ 120 := cmp_le (a := (k + n)) (b := 120) (by omega) (by omega) c_26
      exact absurd n_26 (by omega)
    · skip
      have n_26 : ¬ (k + n) ≤ 120 := cmp_nle (a := (k + n)) (b := 120) (by omega) (by omega) c_26
      refine J_aload_n E dX6_feed_29 rfl 0 rfl ?_
      refine J_iconst E dX6_feed_30 ic_1 ?_
      refine J_cVi0 E (As := [.int 1]) (c_X6_finds l G b y 1 (by omega)) cl_X6_96 yo_X6_finds dX6_feed_31 rfl rfl rfl (Nat.le_of_ble_eq_true rfl) (Nat.le_of_ble_eq_true rfl) rfl (Nat.le_of_ble_eq_true rfl) ⟨Nat.zero_le _, Nat.zero_le _⟩ ?_
      exact ret _ _ _ _ ⟨rfl, _, rfl, by intro g h2 h5 h6; by_cases h0 : g = 0 <;> simp [tellX, upG, up3, up3R, up2, h0, h2, h5, h6]⟩ rfl dX6_feed_34
  · skip
    have c_9 := bI_0 c_9
    exact absurd (inB1 (b := 4) h1 h2 (by decide)) c_9

set_option maxHeartbeats 4000000 in
set_option maxRecDepth 20000 in
theorem c_X6_feed_ok (l : Launch) (G : GB) (b : Nat → Nat) (y : Q3) (c : Int32) (n k : Nat) (h1 : 1 ≤ n) (h2 : n ≤ 4) (hk : y 7 1 0 = nI k) (hk2 : k ≤ 120) (hf : k + n ≤ 120) : CI l yX6_feed cX6_feed 4 .int 1 25 G [.ref (b 0), .int c, .int (nI n)] (wM G b y) (fun vR w' => vR = feedT (y 7) c n 1 0 ∧ PubM G b (upG y 7 (feedT (y 7) c n)) w') := by
  refine CI.mk (own := RX6) (by decide) rfl (Nat.le_of_ble_eq_true rfl) ?_
  intro X E ret
  show J X G 4 0 0 (wM G b y) [(0, .ref (b 0)), (1, .int c), (2, .int (nI n))] 0 []
  refine J_iload_n E dX6_feed_0 rfl 2 rfl ?_
  refine J_i2l E dX6_feed_1 rfl ?_
  refine J_lconst E dX6_feed_2 lc_1 ?_
  refine J_ldc2 E kl_X6_212 dX6_feed_3 ?_
  refine J_cSiN E (As := [.long (Int32.toInt64 (nI n)), .long 1, .long 4]) (c_X6_in l G (nI n) 1 4 1 4 (by decide) (by decide) ) cl_X6_54 yo_X6_in dX6_feed_6 rfl (Nat.le_of_ble_eq_true rfl) (Nat.le_of_ble_eq_true rfl) rfl (Nat.le_of_ble_eq_true rfl) ⟨Nat.zero_le _, Nat.zero_le _⟩ ?_
  refine J_if_ne E (tgt := 18) dX6_feed_9 (by decide) (fun c_9 => ?_) (fun c_9 => ?_)
  · skip
    have c_9 := bI_1 c_9
    refine J_aload_n E dX6_feed_18 rfl 0 rfl ?_
    refine gM0_X6_214 E dX6_feed_19 ?_
    refine J_top (x' := nI k) (hk) ?_
    refine J_iload_n E dX6_feed_22 rfl 2 rfl ?_
    refine J_iadd E dX6_feed_23 ?_
    refine J_top (x' := nI (k + n)) (nI_add _ _) ?_
    refine J_bipush E dX6_feed_24 bp_120 ?_
    refine J_icmp_le E (tgt := 35) dX6_feed_26 (by decide) (fun c_26 => ?_) (fun c_26 => ?_)
    · skip
      have n_26 : (k + n) ≤ 120 := cmp_le (a := (k + n)) (b := 120) (by omega) (by omega) c_26
      refine J_iload_n E dX6_feed_35 rfl 2 rfl ?_
      refine J_iconst E dX6_feed_36 ic_1 ?_
      refine J_isub E dX6_feed_37 ?_
      refine J_top (x' := nI n + (-1)) (sub1m) ?_
      refine J_istore_n E (lv' := [(3, .int (nI n + (-1))), (0, .ref (b 0)), (1, .int c), (2, .int (nI n))]) dX6_feed_38 rfl (by decide) rfl ?_
      refine J_w (ws' := wM G b (upG y 7 (y 7))) (congrArg (wM G b) upG_id.symm) ?_
      have lp39 : ∀ (fu : Nat) (i : Nat) (xh : Int32) (r : Q2), (xh = nI i + (-1)) → (i ≤ n) → (feedT (y 7) c n = feedT r c i) → (r 1 0 = nI (k + (n - i))) → i < fu → J X G 4 0 0 (wM G b (upG y 7 r)) [(0, .ref (b 0)), (1, .int c), (2, .int (nI n)), (3, .int xh)] 39 [] := by
        intro fu
        induction fu with
        | zero => intro i xh r hxh hi h3 h4 hm; exact absurd hm (Nat.not_lt_zero _)
        | succ fu ih39 =>
          intro i xh r hxh hi h3 h4 hm
          refine J_iload_n E dX6_feed_39 rfl 3 rfl ?_
          refine J_if_lt E (tgt := 78) dX6_feed_40 (by decide) (fun c_40 => ?_) (fun c_40 => ?_)
          · skip
            have hi0 := dec_neg hxh (by omega) c_40
            refine J_aload_n E dX6_feed_78 rfl 0 rfl ?_
            refine gM0_X6_214 E dX6_feed_79 ?_
            refine J_top (x' := r 1 0) upG_s ?_
            exact ret _ _ _ _ ⟨by rw [h3, hi0]; rfl, _, rfl, by rw [h3, hi0]; exact ShM.rfl'⟩ rfl dX6_feed_82
          · skip
            obtain ⟨u, rfl, rfl⟩ := dec_pos hxh (by omega) c_40
            refine J_aload_n E dX6_feed_43 rfl 0 rfl ?_
            refine gM0_X6_28 E dX6_feed_44 ?_
            refine J_aload_n E dX6_feed_47 rfl 0 rfl ?_
            refine gM0_X6_214 E dX6_feed_48 ?_
            refine J_top (x' := r 1 0) upG_s ?_
            refine J_top (x' := nI (k + (n - (u + 1)))) (h4) ?_
            refine J_iload_n E dX6_feed_51 rfl 1 rfl ?_
            refine J_bipush E dX6_feed_52 bp_8 ?_
            refine J_iload_n E dX6_feed_54 rfl 3 rfl ?_
            refine J_imul E dX6_feed_55 ?_
            refine J_top (x' := nI (8 * u)) (mul8 u) ?_
            refine J_ishr E dX6_feed_56 ?_
            refine J_sipush E dX6_feed_57 sp_255 ?_
            refine J_iand E dX6_feed_60 ?_
            refine sM_7 E (j := (k + (n - (u + 1)))) dX6_feed_61 (by omega) ?_
            refine J_aload_n E dX6_feed_62 rfl 0 rfl ?_
            refine J_dup E dX6_feed_63 rfl ?_
            refine gM0_X6_214 E dX6_feed_64 ?_
            refine J_top (x' := r 1 0) (Eq.trans (up3_row (by decide)) upG_s) ?_
            refine J_iconst E dX6_feed_67 ic_1 ?_
            refine J_iadd E dX6_feed_68 ?_
            refine pM0_X6_214 E dX6_feed_69 ?_
            refine J_w (ws' := wM G b (upG (up3 (up3 (upG y 7 r) 7 0 (k + (n - (u + 1))) ((c >>> ((nI (8 * u)) &&& 31)) &&& 255)) 7 1 0 ((r 1 0) + 1)) 7 (addT r (c >>> (nI (8 * u) &&& 31) &&& 255)))) (by rw [addT, h4, nI_clamp (by omega)]; rfl) ?_
            refine J_iinc E (lv' := [(3, .int ((nI u) + (-1))), (0, .ref (b 0)), (1, .int c), (2, .int (nI n))]) dX6_feed_72 3 rfl (i_dec _) (by decide) rfl ?_
            refine J_goto E (tgt := 39) dX6_feed_75 (by decide) ?_
            refine J_lv [1, 2, 3, 0] rfl ?_
            refine J_w (ws' := wM G b (upG y 7 (addT r (c >>> (nI (8 * u) &&& 31) &&& 255)))) (wM_c rfl rfl rfl rfl rfl rfl rfl rfl rfl rfl rfl) ?_
            exact ih39 u ((nI u) + (-1)) (addT r (c >>> (nI (8 * u) &&& 31) &&& 255)) rfl (by omega) (by rw [h3]; rfl) (by rw [addT_sz h4, show k + (n - (u + 1)) + 1 = k + (n - u) by omega]) (by omega)
      refine J_lv [1, 2, 3, 0] rfl ?_
      refine J_w (ws' := wM G b (upG y 7 (y 7))) (wM_c rfl rfl rfl rfl rfl rfl rfl rfl rfl rfl rfl) ?_
      exact lp39 _ n (nI n + (-1)) (y 7) rfl (by omega) rfl (by rw [Nat.sub_self]; exact hk) (Nat.lt_succ_self _)
    · skip
      have n_26 : ¬ (k + n) ≤ 120 := cmp_nle (a := (k + n)) (b := 120) (by omega) (by omega) c_26
      exact absurd hf n_26
  · skip
    have c_9 := bI_0 c_9
    exact absurd (inB1 (b := 4) h1 h2 (by decide)) c_9

set_option maxHeartbeats 4000000 in
set_option maxRecDepth 20000 in
theorem c_X6_wipe (l : Launch) (G : GB) (b : Nat → Nat) (y : Q3)  : CI l yX6_wipe cX6_wipe 2 .int 0 0 G [.ref (b 0)] (wM G b y) (fun vR w' => vR = y 7 1 0 ∧ PubM G b (up3 y 7 1 0 0) w') := by
  refine CI.mk (own := RX6) (by decide) rfl (Nat.le_of_ble_eq_true rfl) ?_
  intro X E ret
  show J X G 2 0 0 (wM G b y) [(0, .ref (b 0))] 0 []
  refine J_aload_n E dX6_wipe_0 rfl 0 rfl ?_
  refine gM0_X6_214 E dX6_wipe_1 ?_
  refine J_istore_n E (lv' := [(1, .int (y 7 1 0)), (0, .ref (b 0))]) dX6_wipe_4 rfl (by decide) rfl ?_
  refine J_aload_n E dX6_wipe_5 rfl 1 rfl ?_
  refine J_iconst E dX6_wipe_6 ic_0 ?_
  refine pM0_X6_214 E dX6_wipe_7 ?_
  refine J_iload_n E dX6_wipe_10 rfl 0 rfl ?_
  exact ret _ _ _ _ ⟨rfl, _, rfl, by intro g h2 h5 h6; by_cases h0 : g = 0 <;> simp [tellX, upG, up3, up3R, up2, h0, h2, h5, h6]⟩ rfl dX6_wipe_11
