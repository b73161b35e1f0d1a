set_option maxHeartbeats 4000000 in
set_option maxRecDepth 20000 in
theorem c_X6_status_bad (l : Launch) (G : GB) (b : Nat → Nat) (y : Q3) (w : Int32) (hb : ¬ (-1 ≤ w ∧ w ≤ 6)) : CI l yX6_status cX6_status 4 .int 1 25 G [.ref (b 0), .int w] (wM G b y) (fun vR w' => vR = tellR 0 ∧ PubM G b (tellX y 0) w') := by
  refine CI.mk (own := RX6) (by decide) rfl (Nat.le_of_ble_eq_true rfl) ?_
  intro X E ret
  show J X G 4 0 0 (wM G b y) [(0, .ref (b 0)), (1, .int w)] 0 []
  refine J_iload_n E dX6_status_0 rfl 1 rfl ?_
  refine J_i2l E dX6_status_1 rfl ?_
  refine J_ldc2 E kl_X6_318 dX6_status_2 ?_
  refine J_ldc2 E kl_X6_62 dX6_status_5 ?_
  refine J_cSiN E (As := [.long (Int32.toInt64 w), .long (-1), .long 6]) (c_X6_in l G w (-1) 6 (-1) 6 (by decide) (by decide) ) cl_X6_54 yo_X6_in dX6_status_8 rfl (Nat.le_of_ble_eq_true rfl) (Nat.le_of_ble_eq_true rfl) rfl (Nat.le_of_ble_eq_true rfl) ⟨Nat.zero_le _, Nat.zero_le _⟩ ?_
  refine J_if_ne E (tgt := 20) dX6_status_11 (by decide) (fun c_11 => ?_) (fun c_11 => ?_)
  · skip
    have c_11 := bI_1 c_11
    exact absurd c_11 hb
  · skip
    have c_11 := bI_0 c_11
    refine J_aload_n E dX6_status_14 rfl 0 rfl ?_
    refine J_iconst E dX6_status_15 ic_0 ?_
    refine J_cVi0 E (As := [.int 0]) (c_X6_finds l G b y 0 (by omega)) cl_X6_96 yo_X6_finds dX6_status_16 rfl rfl rfl (Nat.le_of_ble_eq_true rfl) (Nat.le_of_ble_eq_true rfl) rfl (Nat.le_of_ble_eq_true rfl) ⟨Nat.zero_le _, Nat.zero_le _⟩ ?_
    exact ret _ _ _ _ ⟨rfl, _, rfl, by intro g h2 h5 h6; by_cases h0 : g = 0 <;> simp [tellX, upG, up3, up3R, up2, h0, h2, h5, h6]⟩ rfl dX6_status_19

set_option maxHeartbeats 4000000 in
set_option maxRecDepth 20000 in
theorem c_X6_status_one (l : Launch) (G : GB) (b : Nat → Nat) (y : Q3) (k : Nat) (hk : k < 7) : CI l yX6_status cX6_status 4 .int 1 25 G [.ref (b 0), .int (nI k)] (wM G b y) (fun vR w' => vR = y 3 0 k ∧ PubM G b y w') := by
  refine CI.mk (own := RX6) (by decide) rfl (Nat.le_of_ble_eq_true rfl) ?_
  intro X E ret
  show J X G 4 0 0 (wM G b y) [(0, .ref (b 0)), (1, .int (nI k))] 0 []
  refine J_iload_n E dX6_status_0 rfl 1 rfl ?_
  refine J_i2l E dX6_status_1 rfl ?_
  refine J_ldc2 E kl_X6_318 dX6_status_2 ?_
  refine J_ldc2 E kl_X6_62 dX6_status_5 ?_
  refine J_cSiN E (As := [.long (Int32.toInt64 (nI k)), .long (-1), .long 6]) (c_X6_in l G (nI k) (-1) 6 (-1) 6 (by decide) (by decide) ) cl_X6_54 yo_X6_in dX6_status_8 rfl (Nat.le_of_ble_eq_true rfl) (Nat.le_of_ble_eq_true rfl) rfl (Nat.le_of_ble_eq_true rfl) ⟨Nat.zero_le _, Nat.zero_le _⟩ ?_
  refine J_if_ne E (tgt := 20) dX6_status_11 (by decide) (fun c_11 => ?_) (fun c_11 => ?_)
  · skip
    have c_11 := bI_1 c_11
    refine J_iconst E dX6_status_20 ic_0 ?_
    refine J_istore_n E (lv' := [(2, .int 0), (0, .ref (b 0)), (1, .int (nI k))]) dX6_status_21 rfl (by decide) rfl ?_
    refine J_iconst E dX6_status_22 ic_0 ?_
    refine J_istore_n E (lv' := [(3, .int 0), (2, .int 0), (0, .ref (b 0)), (1, .int (nI k))]) dX6_status_23 rfl (by decide) rfl ?_
    have lp24 : ∀ (fu : Nat) (i : Nat) (s : Int32), (i ≤ 7) → (s = if k < i then y 3 0 k else 0) → 7 - i < fu → J X G 4 0 0 (wM G b y) [(0, .ref (b 0)), (1, .int (nI k)), (2, .int s), (3, .int (nI i))] 24 [] := by
      intro fu
      induction fu with
      | zero => intro i s hi h1 hm; exact absurd hm (Nat.not_lt_zero _)
      | succ fu ih24 =>
        intro i s hi h1 hm
        refine J_iload_n E dX6_status_24 rfl 3 rfl ?_
        refine J_bipush E dX6_status_25 bp_7 ?_
        refine J_icmp_ge E (tgt := 58) dX6_status_27 (by decide) (fun c_27 => ?_) (fun c_27 => ?_)
        · skip
          have n_27 : 7 ≤ i := cmp_le (a := 7) (b := i) (by omega) (by omega) c_27
          refine J_iload_n E dX6_status_58 rfl 2 rfl ?_
          exact ret _ _ _ _ ⟨by rw [h1, if_pos (by omega)], _, rfl, by intro g h2 h5 h6; by_cases h0 : g = 0 <;> simp [tellX, upG, up3, up3R, up2, h0, h2, h5, h6]⟩ rfl dX6_status_59
        · skip
          have n_27 : ¬ 7 ≤ i := cmp_nle (a := 7) (b := i) (by omega) (by omega) c_27
          refine J_iload_n E dX6_status_30 rfl 2 rfl ?_
          refine J_iload_n E dX6_status_31 rfl 1 rfl ?_
          refine J_if_lt E (tgt := 40) dX6_status_32 (by decide) (fun c_32 => ?_) (fun c_32 => ?_)
          · skip
            have n_32 : k < 0 := cmp_lt (a := k) (b := 0) (by omega) (by omega) c_32
            exact absurd n_32 (by omega)
          · skip
            have n_32 : ¬ k < 0 := cmp_nlt (a := k) (b := 0) (by omega) (by omega) c_32
            refine J_iload_n E dX6_status_35 rfl 1 rfl ?_
            refine J_iload_n E dX6_status_36 rfl 3 rfl ?_
            refine J_icmp_ne E (tgt := 49) dX6_status_37 (by decide) (fun c_37 => ?_) (fun c_37 => ?_)
            · skip
              have n_37 : ¬ k = i := cmp_ne (a := k) (b := i) (by omega) (by omega) c_37
              refine J_iconst E dX6_status_49 ic_0 ?_
              refine J_iadd E dX6_status_50 ?_
              refine J_istore_n E (lv' := [(2, .int (s + 0)), (0, .ref (b 0)), (1, .int (nI k)), (3, .int (nI i))]) dX6_status_51 rfl (by decide) rfl ?_
              refine J_iinc E (lv' := [(3, .int (nI (i + 1))), (2, .int (s + 0)), (0, .ref (b 0)), (1, .int (nI k))]) dX6_status_52 3 rfl (nI_inc _) (by decide) rfl ?_
              refine J_goto E (tgt := 24) dX6_status_55 (by decide) ?_
              refine J_lv [2, 3, 1, 0] rfl ?_
              exact ih24 (i + 1) (s + 0) (by omega) (by rw [h1]; first | (subst n_37; rw [if_neg (by omega), if_pos (by omega), Int32.zero_add]) | (rcases Nat.lt_or_ge k i with e | e; (rw [if_pos e, if_pos (by omega), Int32.add_zero]); (rw [if_neg (by omega), if_neg (by omega), Int32.add_zero]))) (by omega)
            · skip
              have n_37 : k = i := cmp_eq (a := k) (b := i) (by omega) (by omega) c_37
              refine J_aload_n E dX6_status_40 rfl 0 rfl ?_
              refine gM0_X6_19 E dX6_status_41 ?_
              refine J_iload_n E dX6_status_44 rfl 3 rfl ?_
              refine lM_4 E (j := i) dX6_status_45 (by omega) ?_
              refine J_goto E (tgt := 50) dX6_status_46 (by decide) ?_
              refine J_iadd E dX6_status_50 ?_
              refine J_istore_n E (lv' := [(2, .int (s + (y 3 0 i))), (0, .ref (b 0)), (1, .int (nI k)), (3, .int (nI i))]) dX6_status_51 rfl (by decide) rfl ?_
              refine J_iinc E (lv' := [(3, .int (nI (i + 1))), (2, .int (s + (y 3 0 i))), (0, .ref (b 0)), (1, .int (nI k))]) dX6_status_52 3 rfl (nI_inc _) (by decide) rfl ?_
              refine J_goto E (tgt := 24) dX6_status_55 (by decide) ?_
              refine J_lv [2, 3, 1, 0] rfl ?_
              exact ih24 (i + 1) (s + (y 3 0 i)) (by omega) (by rw [h1]; first | (subst n_37; rw [if_neg (by omega), if_pos (by omega), Int32.zero_add]) | (rcases Nat.lt_or_ge k i with e | e; (rw [if_pos e, if_pos (by omega), Int32.add_zero]); (rw [if_neg (by omega), if_neg (by omega), Int32.add_zero]))) (by omega)
    refine J_lv [2, 3, 1, 0] rfl ?_
    exact lp24 _ 0 0 (by omega) rfl (Nat.lt_succ_self _)
  · skip
    have c_11 := bI_0 c_11
    exact absurd ⟨Int32.le_trans (by decide) (nI_pos' (by omega)), nI_le (a := k) (b := 6) (by omega) (by decide)⟩ c_11

set_option maxHeartbeats 4000000 in
set_option maxRecDepth 20000 in
theorem c_X6_status_all (l : Launch) (G : GB) (b : Nat → Nat) (y : Q3)  : CI l yX6_status cX6_status 4 .int 1 25 G [.ref (b 0), .int (-1)] (wM G b y) (fun vR w' => vR = sumF (y 3 0) 7 ∧ PubM G b y w') := by
  refine CI.mk (own := RX6) (by decide) rfl (Nat.le_of_ble_eq_true rfl) ?_
  intro X E ret
  show J X G 4 0 0 (wM G b y) [(0, .ref (b 0)), (1, .int (-1))] 0 []
  refine J_iload_n E dX6_status_0 rfl 1 rfl ?_
  refine J_i2l E dX6_status_1 rfl ?_
  refine J_ldc2 E kl_X6_318 dX6_status_2 ?_
  refine J_ldc2 E kl_X6_62 dX6_status_5 ?_
  refine J_cSiN E (As := [.long (Int32.toInt64 (-1)), .long (-1), .long 6]) (c_X6_in l G (-1) (-1) 6 (-1) 6 (by decide) (by decide) ) cl_X6_54 yo_X6_in dX6_status_8 rfl (Nat.le_of_ble_eq_true rfl) (Nat.le_of_ble_eq_true rfl) rfl (Nat.le_of_ble_eq_true rfl) ⟨Nat.zero_le _, Nat.zero_le _⟩ ?_
  refine J_if_ne E (tgt := 20) dX6_status_11 (by decide) (fun c_11 => ?_) (fun c_11 => ?_)
  · skip
    have c_11 := bI_1 c_11
    refine J_iconst E dX6_status_20 ic_0 ?_
    refine J_istore_n E (lv' := [(2, .int 0), (0, .ref (b 0)), (1, .int (-1))]) dX6_status_21 rfl (by decide) rfl ?_
    refine J_iconst E dX6_status_22 ic_0 ?_
    refine J_istore_n E (lv' := [(3, .int 0), (2, .int 0), (0, .ref (b 0)), (1, .int (-1))]) dX6_status_23 rfl (by decide) rfl ?_
    have lp24 : ∀ (fu : Nat) (i : Nat) (s : Int32), (i ≤ 7) → (s = sumF (y 3 0) i) → 7 - i < fu → J X G 4 0 0 (wM G b y) [(0, .ref (b 0)), (1, .int (-1)), (2, .int s), (3, .int (nI i))] 24 [] := by
      intro fu
      induction fu with
      | zero => intro i s hi h1 hm; exact absurd hm (Nat.not_lt_zero _)
      | succ fu ih24 =>
        intro i s hi h1 hm
        refine J_iload_n E dX6_status_24 rfl 3 rfl ?_
        refine J_bipush E dX6_status_25 bp_7 ?_
        refine J_icmp_ge E (tgt := 58) dX6_status_27 (by decide) (fun c_27 => ?_) (fun c_27 => ?_)
        · skip
          have n_27 : 7 ≤ i := cmp_le (a := 7) (b := i) (by omega) (by omega) c_27
          refine J_iload_n E dX6_status_58 rfl 2 rfl ?_
          exact ret _ _ _ _ ⟨by rw [h1, show i = 7 by omega], _, rfl, by intro g h2 h5 h6; by_cases h0 : g = 0 <;> simp [tellX, upG, up3, up3R, up2, h0, h2, h5, h6]⟩ rfl dX6_status_59
        · skip
          have n_27 : ¬ 7 ≤ i := cmp_nle (a := 7) (b := i) (by omega) (by omega) c_27
          refine J_iload_n E dX6_status_30 rfl 2 rfl ?_
          refine J_iload_n E dX6_status_31 rfl 1 rfl ?_
          refine J_if_lt E (tgt := 40) dX6_status_32 (by decide) (fun c_32 => ?_) (fun c_32 => ?_)
          · skip
            refine J_aload_n E dX6_status_40 rfl 0 rfl ?_
            refine gM0_X6_19 E dX6_status_41 ?_
            refine J_iload_n E dX6_status_44 rfl 3 rfl ?_
            refine lM_4 E (j := i) dX6_status_45 (by omega) ?_
            refine J_goto E (tgt := 50) dX6_status_46 (by decide) ?_
            refine J_iadd E dX6_status_50 ?_
            refine J_istore_n E (lv' := [(2, .int (s + (y 3 0 i))), (0, .ref (b 0)), (1, .int (-1)), (3, .int (nI i))]) dX6_status_51 rfl (by decide) rfl ?_
            refine J_iinc E (lv' := [(3, .int (nI (i + 1))), (2, .int (s + (y 3 0 i))), (0, .ref (b 0)), (1, .int (-1))]) dX6_status_52 3 rfl (nI_inc _) (by decide) rfl ?_
            refine J_goto E (tgt := 24) dX6_status_55 (by decide) ?_
            refine J_lv [2, 3, 1, 0] rfl ?_
            exact ih24 (i + 1) (s + (y 3 0 i)) (by omega) (by rw [h1]; rfl) (by omega)
          · skip
            exact absurd c_32 (by decide)
    refine J_lv [2, 3, 1, 0] rfl ?_
    exact lp24 _ 0 0 (by omega) rfl (Nat.lt_succ_self _)
  · skip
    have c_11 := bI_0 c_11
    exact absurd (by decide) c_11
