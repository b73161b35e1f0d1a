set_option maxHeartbeats 4000000 in
set_option maxRecDepth 20000 in
theorem c_X6_load_out (l : Launch) (G : GB) (b : Nat → Nat) (y : Q3) (s : Int32)  (hs : ¬ (0 ≤ s ∧ s ≤ 3)) : CI l yX6_load cX6_load 4 .int 3 66 G [.ref (b 0), .int s] (wM G b y) (fun vR w' => vR = tellR 0 ∧ PubM G b (tellX y 0) w') := by
  refine CI.mk (own := RX6) (by decide) rfl (Nat.le_of_ble_eq_true rfl) ?_
  intro X E ret
  show J X G 4 0 0 (wM G b y) [(0, .ref (b 0)), (1, .int s)] 0 []
  refine J_aload_n E dX6_load_0 rfl 0 rfl ?_
  refine J_iload_n E dX6_load_1 rfl 1 rfl ?_
  refine J_cVi0 E (As := [.int s]) (c_X6_lacks_out l G b y s hs ) cl_X6_197 yo_X6_lacks dX6_load_2 rfl rfl rfl (Nat.le_of_ble_eq_true rfl) (Nat.le_of_ble_eq_true rfl) rfl (Nat.le_of_ble_eq_true rfl) ⟨Nat.zero_le _, Nat.zero_le _⟩ ?_
  refine J_istore_n E (lv' := [(2, .int 0), (0, .ref (b 0)), (1, .int s)]) dX6_load_5 rfl (by decide) rfl ?_
  refine J_iload_n E dX6_load_6 rfl 0 rfl ?_
  refine J_if_lt E (tgt := 16) dX6_load_7 (by decide) (fun c_7 => ?_) (fun c_7 => ?_)
  · skip
    have n_7 : 0 < 0 := cmp_lt (a := 0) (b := 0) (by omega) (by omega) c_7
    exact absurd n_7 (by decide)
  · skip
    have n_7 : ¬ 0 < 0 := cmp_nlt (a := 0) (b := 0) (by omega) (by omega) c_7
    refine J_aload_n E dX6_load_10 rfl 1 rfl ?_
    refine J_iload_n E dX6_load_11 rfl 0 rfl ?_
    refine J_cVi0 E (As := [.int 0]) (c_X6_finds l G b y 0 (by omega)) cl_X6_96 yo_X6_finds dX6_load_12 rfl rfl rfl (Nat.le_of_ble_eq_true rfl) (Nat.le_of_ble_eq_true rfl) rfl (Nat.le_of_ble_eq_true rfl) ⟨Nat.zero_le _, Nat.zero_le _⟩ ?_
    exact ret _ _ _ _ ⟨rfl, _, rfl, by intro g h2 h5 h6; by_cases h0 : g = 0 <;> simp [tellX, upG, up3, up3R, up2, h0, h2, h5, h6]⟩ rfl dX6_load_15

set_option maxHeartbeats 4000000 in
set_option maxRecDepth 20000 in
theorem c_X6_load_miss_0 (l : Launch) (G : GB) (b : Nat → Nat) (y : Q3)  (hb : y 8 1 0 = 0) : CI l yX6_load cX6_load 4 .int 3 66 G [.ref (b 0), .int (nI 0)] (wM G b y) (fun vR w' => vR = tellR 5 ∧ PubM G b (tellX y 5) w') := by
  refine CI.mk (own := RX6) (by decide) rfl (Nat.le_of_ble_eq_true rfl) ?_
  intro X E ret
  show J X G 4 0 0 (wM G b y) [(0, .ref (b 0)), (1, .int (nI 0))] 0 []
  refine J_aload_n E dX6_load_0 rfl 0 rfl ?_
  refine J_iload_n E dX6_load_1 rfl 1 rfl ?_
  refine J_cVi0 E (As := [.int (nI 0)]) (c_X6_lacks_0_0 l G b y hb ) cl_X6_197 yo_X6_lacks dX6_load_2 rfl rfl rfl (Nat.le_of_ble_eq_true rfl) (Nat.le_of_ble_eq_true rfl) rfl (Nat.le_of_ble_eq_true rfl) ⟨Nat.zero_le _, Nat.zero_le _⟩ ?_
  refine J_istore_n E (lv' := [(2, .int 5), (0, .ref (b 0)), (1, .int (nI 0))]) dX6_load_5 rfl (by decide) rfl ?_
  refine J_iload_n E dX6_load_6 rfl 0 rfl ?_
  refine J_if_lt E (tgt := 16) dX6_load_7 (by decide) (fun c_7 => ?_) (fun c_7 => ?_)
  · skip
    have n_7 : 5 < 0 := cmp_lt (a := 5) (b := 0) (by omega) (by omega) c_7
    exact absurd n_7 (by decide)
  · skip
    have n_7 : ¬ 5 < 0 := cmp_nlt (a := 5) (b := 0) (by omega) (by omega) c_7
    refine J_aload_n E dX6_load_10 rfl 1 rfl ?_
    refine J_iload_n E dX6_load_11 rfl 0 rfl ?_
    refine J_cVi0 E (As := [.int 5]) (c_X6_finds l G b y 5 (by omega)) cl_X6_96 yo_X6_finds dX6_load_12 rfl rfl rfl (Nat.le_of_ble_eq_true rfl) (Nat.le_of_ble_eq_true rfl) rfl (Nat.le_of_ble_eq_true rfl) ⟨Nat.zero_le _, Nat.zero_le _⟩ ?_
    exact ret _ _ _ _ ⟨rfl, _, rfl, by intro g h2 h5 h6; by_cases h0 : g = 0 <;> simp [tellX, upG, up3, up3R, up2, h0, h2, h5, h6]⟩ rfl dX6_load_15

set_option maxHeartbeats 4000000 in
set_option maxRecDepth 20000 in
theorem c_X6_load_miss_1 (l : Launch) (G : GB) (b : Nat → Nat) (y : Q3)  (hb : y 9 1 0 = 0) : CI l yX6_load cX6_load 4 .int 3 66 G [.ref (b 0), .int (nI 1)] (wM G b y) (fun vR w' => vR = tellR 5 ∧ PubM G b (tellX y 5) w') := by
  refine CI.mk (own := RX6) (by decide) rfl (Nat.le_of_ble_eq_true rfl) ?_
  intro X E ret
  show J X G 4 0 0 (wM G b y) [(0, .ref (b 0)), (1, .int (nI 1))] 0 []
  refine J_aload_n E dX6_load_0 rfl 0 rfl ?_
  refine J_iload_n E dX6_load_1 rfl 1 rfl ?_
  refine J_cVi0 E (As := [.int (nI 1)]) (c_X6_lacks_1_0 l G b y hb ) cl_X6_197 yo_X6_lacks dX6_load_2 rfl rfl rfl (Nat.le_of_ble_eq_true rfl) (Nat.le_of_ble_eq_true rfl) rfl (Nat.le_of_ble_eq_true rfl) ⟨Nat.zero_le _, Nat.zero_le _⟩ ?_
  refine J_istore_n E (lv' := [(2, .int 5), (0, .ref (b 0)), (1, .int (nI 1))]) dX6_load_5 rfl (by decide) rfl ?_
  refine J_iload_n E dX6_load_6 rfl 0 rfl ?_
  refine J_if_lt E (tgt := 16) dX6_load_7 (by decide) (fun c_7 => ?_) (fun c_7 => ?_)
  · skip
    have n_7 : 5 < 0 := cmp_lt (a := 5) (b := 0) (by omega) (by omega) c_7
    exact absurd n_7 (by decide)
  · skip
    have n_7 : ¬ 5 < 0 := cmp_nlt (a := 5) (b := 0) (by omega) (by omega) c_7
    refine J_aload_n E dX6_load_10 rfl 1 rfl ?_
    refine J_iload_n E dX6_load_11 rfl 0 rfl ?_
    refine J_cVi0 E (As := [.int 5]) (c_X6_finds l G b y 5 (by omega)) cl_X6_96 yo_X6_finds dX6_load_12 rfl rfl rfl (Nat.le_of_ble_eq_true rfl) (Nat.le_of_ble_eq_true rfl) rfl (Nat.le_of_ble_eq_true rfl) ⟨Nat.zero_le _, Nat.zero_le _⟩ ?_
    exact ret _ _ _ _ ⟨rfl, _, rfl, by intro g h2 h5 h6; by_cases h0 : g = 0 <;> simp [tellX, upG, up3, up3R, up2, h0, h2, h5, h6]⟩ rfl dX6_load_15

set_option maxHeartbeats 4000000 in
set_option maxRecDepth 20000 in
theorem c_X6_load_miss_2 (l : Launch) (G : GB) (b : Nat → Nat) (y : Q3)  (hb : y 10 1 0 = 0) : CI l yX6_load cX6_load 4 .int 3 66 G [.ref (b 0), .int (nI 2)] (wM G b y) (fun vR w' => vR = tellR 5 ∧ PubM G b (tellX y 5) w') := by
  refine CI.mk (own := RX6) (by decide) rfl (Nat.le_of_ble_eq_true rfl) ?_
  intro X E ret
  show J X G 4 0 0 (wM G b y) [(0, .ref (b 0)), (1, .int (nI 2))] 0 []
  refine J_aload_n E dX6_load_0 rfl 0 rfl ?_
  refine J_iload_n E dX6_load_1 rfl 1 rfl ?_
  refine J_cVi0 E (As := [.int (nI 2)]) (c_X6_lacks_2_0 l G b y hb ) cl_X6_197 yo_X6_lacks dX6_load_2 rfl rfl rfl (Nat.le_of_ble_eq_true rfl) (Nat.le_of_ble_eq_true rfl) rfl (Nat.le_of_ble_eq_true rfl) ⟨Nat.zero_le _, Nat.zero_le _⟩ ?_
  refine J_istore_n E (lv' := [(2, .int 5), (0, .ref (b 0)), (1, .int (nI 2))]) dX6_load_5 rfl (by decide) rfl ?_
  refine J_iload_n E dX6_load_6 rfl 0 rfl ?_
  refine J_if_lt E (tgt := 16) dX6_load_7 (by decide) (fun c_7 => ?_) (fun c_7 => ?_)
  · skip
    have n_7 : 5 < 0 := cmp_lt (a := 5) (b := 0) (by omega) (by omega) c_7
    exact absurd n_7 (by decide)
  · skip
    have n_7 : ¬ 5 < 0 := cmp_nlt (a := 5) (b := 0) (by omega) (by omega) c_7
    refine J_aload_n E dX6_load_10 rfl 1 rfl ?_
    refine J_iload_n E dX6_load_11 rfl 0 rfl ?_
    refine J_cVi0 E (As := [.int 5]) (c_X6_finds l G b y 5 (by omega)) cl_X6_96 yo_X6_finds dX6_load_12 rfl rfl rfl (Nat.le_of_ble_eq_true rfl) (Nat.le_of_ble_eq_true rfl) rfl (Nat.le_of_ble_eq_true rfl) ⟨Nat.zero_le _, Nat.zero_le _⟩ ?_
    exact ret _ _ _ _ ⟨rfl, _, rfl, by intro g h2 h5 h6; by_cases h0 : g = 0 <;> simp [tellX, upG, up3, up3R, up2, h0, h2, h5, h6]⟩ rfl dX6_load_15

set_option maxHeartbeats 4000000 in
set_option maxRecDepth 20000 in
theorem c_X6_load_miss_3 (l : Launch) (G : GB) (b : Nat → Nat) (y : Q3)  (hb : y 11 1 0 = 0) : CI l yX6_load cX6_load 4 .int 3 66 G [.ref (b 0), .int (nI 3)] (wM G b y) (fun vR w' => vR = tellR 5 ∧ PubM G b (tellX y 5) w') := by
  refine CI.mk (own := RX6) (by decide) rfl (Nat.le_of_ble_eq_true rfl) ?_
  intro X E ret
  show J X G 4 0 0 (wM G b y) [(0, .ref (b 0)), (1, .int (nI 3))] 0 []
  refine J_aload_n E dX6_load_0 rfl 0 rfl ?_
  refine J_iload_n E dX6_load_1 rfl 1 rfl ?_
  refine J_cVi0 E (As := [.int (nI 3)]) (c_X6_lacks_3_0 l G b y hb ) cl_X6_197 yo_X6_lacks dX6_load_2 rfl rfl rfl (Nat.le_of_ble_eq_true rfl) (Nat.le_of_ble_eq_true rfl) rfl (Nat.le_of_ble_eq_true rfl) ⟨Nat.zero_le _, Nat.zero_le _⟩ ?_
  refine J_istore_n E (lv' := [(2, .int 5), (0, .ref (b 0)), (1, .int (nI 3))]) dX6_load_5 rfl (by decide) rfl ?_
  refine J_iload_n E dX6_load_6 rfl 0 rfl ?_
  refine J_if_lt E (tgt := 16) dX6_load_7 (by decide) (fun c_7 => ?_) (fun c_7 => ?_)
  · skip
    have n_7 : 5 < 0 := cmp_lt (a := 5) (b := 0) (by omega) (by omega) c_7
    exact absurd n_7 (by decide)
  · skip
    have n_7 : ¬ 5 < 0 := cmp_nlt (a := 5) (b := 0) (by omega) (by omega) c_7
    refine J_aload_n E dX6_load_10 rfl 1 rfl ?_
    refine J_iload_n E dX6_load_11 rfl 0 rfl ?_
    refine J_cVi0 E (As := [.int 5]) (c_X6_finds l G b y 5 (by omega)) cl_X6_96 yo_X6_finds dX6_load_12 rfl rfl rfl (Nat.le_of_ble_eq_true rfl) (Nat.le_of_ble_eq_true rfl) rfl (Nat.le_of_ble_eq_true rfl) ⟨Nat.zero_le _, Nat.zero_le _⟩ ?_
    exact ret _ _ _ _ ⟨rfl, _, rfl, by intro g h2 h5 h6; by_cases h0 : g = 0 <;> simp [tellX, upG, up3, up3R, up2, h0, h2, h5, h6]⟩ rfl dX6_load_15

set_option maxHeartbeats 4000000 in
set_option maxRecDepth 20000 in
theorem c_X6_load_ok_0 (l : Launch) (G : GB) (b : Nat → Nat) (y : Q3) (n : Nat) (hb : ¬ y 8 1 0 = 0) (hn : y 8 1 1 = nI n) (hn2 : n ≤ 40) : CI l yX6_load cX6_load 4 .int 3 66 G [.ref (b 0), .int (nI 0)] (wM G b y) (fun vR w' => vR = nI (loadN (y 8 0) (min n 11) 0) ∧ PubM G b (upG y 0 (loadQ (y 0) (y 8 0) (loadN (y 8 0) (min n 11) 0))) w') := by
  refine CI.mk (own := RX6) (by decide) rfl (Nat.le_of_ble_eq_true rfl) ?_
  intro X E ret
  show J X G 4 0 0 (wM G b y) [(0, .ref (b 0)), (1, .int (nI 0))] 0 []
  refine J_aload_n E dX6_load_0 rfl 0 rfl ?_
  refine J_iload_n E dX6_load_1 rfl 1 rfl ?_
  refine J_cVi0 E (As := [.int (nI 0)]) (c_X6_lacks_0_1 l G b y hb ) cl_X6_197 yo_X6_lacks dX6_load_2 rfl rfl rfl (Nat.le_of_ble_eq_true rfl) (Nat.le_of_ble_eq_true rfl) rfl (Nat.le_of_ble_eq_true rfl) ⟨Nat.zero_le _, Nat.zero_le _⟩ ?_
  refine J_istore_n E (lv' := [(2, .int (-1)), (0, .ref (b 0)), (1, .int (nI 0))]) dX6_load_5 rfl (by decide) rfl ?_
  refine J_iload_n E dX6_load_6 rfl 0 rfl ?_
  refine J_if_lt E (tgt := 16) dX6_load_7 (by decide) (fun c_7 => ?_) (fun c_7 => ?_)
  · skip
    refine J_iconst E dX6_load_16 ic_0 ?_
    refine J_istore_n E (lv' := [(3, .int 0), (2, .int (-1)), (0, .ref (b 0)), (1, .int (nI 0))]) dX6_load_17 rfl (by decide) rfl ?_
    refine J_w (ws' := wM G b (upG y 0 (y 0))) (congrArg (wM G b) upG_id.symm) ?_
    have lp18 : ∀ (fu : Nat) (i : Nat) (r : Q2), (i ≤ min n 11) → (r = loadQ (y 0) (y 8 0) i) → (loadN (y 8 0) (min n 11) 0 = loadN (y 8 0) (min n 11 - i) i) → min n 11 - i < fu → J X G 4 0 0 (wM G b (upG y 0 r)) [(0, .ref (b 0)), (1, .int (nI 0)), (2, .int (-1)), (3, .int (nI i))] 18 [] := by
      intro fu
      induction fu with
      | zero => intro i r hi hr h1 hm; exact absurd hm (Nat.not_lt_zero _)
      | succ fu ih18 =>
        intro i r hi hr h1 hm
        refine J_iload_n E dX6_load_18 rfl 3 rfl ?_
        refine J_aload_n E dX6_load_19 rfl 0 rfl ?_
        refine gM0_X6_34 E dX6_load_20 ?_
        refine J_iload_n E dX6_load_23 rfl 1 rfl ?_
        refine lMz_0 E  dX6_load_24 ?_
        refine J_top (x' := y 8 1 1) (upG_n (by decide)) ?_
        refine J_top (x' := nI n) (hn) ?_
        refine J_icmp_ge E (tgt := 79) dX6_load_25 (by decide) (fun c_25 => ?_) (fun c_25 => ?_)
        · skip
          have n_25 : n ≤ i := cmp_le (a := n) (b := i) (by omega) (by omega) c_25
          have h2 : loadN (y 8 0) (min n 11) 0 = i := by rw [h1, show min n 11 - i = 0 by omega]; rfl
          refine J_iload_n E dX6_load_79 rfl 3 rfl ?_
          exact ret _ _ _ _ ⟨by rw [h2], _, rfl, by rw [h2, ← hr]; exact ShM.rfl'⟩ rfl dX6_load_80
        · skip
          have n_25 : ¬ n ≤ i := cmp_nle (a := n) (b := i) (by omega) (by omega) c_25
          refine J_iload_n E dX6_load_28 rfl 3 rfl ?_
          refine J_bipush E dX6_load_29 bp_11 ?_
          refine J_icmp_ge E (tgt := 79) dX6_load_31 (by decide) (fun c_31 => ?_) (fun c_31 => ?_)
          · skip
            have n_31 : 11 ≤ i := cmp_le (a := 11) (b := i) (by omega) (by omega) c_31
            have h2 : loadN (y 8 0) (min n 11) 0 = i := by rw [h1, show min n 11 - i = 0 by omega]; rfl
            refine J_iload_n E dX6_load_79 rfl 3 rfl ?_
            exact ret _ _ _ _ ⟨by rw [h2], _, rfl, by rw [h2, ← hr]; exact ShM.rfl'⟩ rfl dX6_load_80
          · skip
            have n_31 : ¬ 11 ≤ i := cmp_nle (a := 11) (b := i) (by omega) (by omega) c_31
            refine J_aload_n E dX6_load_34 rfl 0 rfl ?_
            refine gM0_X6_37 E dX6_load_35 ?_
            refine J_bipush E dX6_load_38 bp_40 ?_
            refine J_iload_n E dX6_load_40 rfl 1 rfl ?_
            refine J_imul E dX6_load_41 ?_
            refine J_top (x' := nI 0) (by decide) ?_
            refine J_iload_n E dX6_load_42 rfl 3 rfl ?_
            refine J_iadd E dX6_load_43 ?_
            refine J_top (x' := nI (0 + i)) (nI_add 0 i) ?_
            refine lMn_0 E (j := (0 + i)) (i := i) rfl (by omega) dX6_load_44 ?_
            refine J_top (x' := y 8 0 i) (upG_n (by decide)) ?_
            refine J_i2l E dX6_load_45 rfl ?_
            refine J_lconst E dX6_load_46 lc_0 ?_
            refine J_ldc2 E kl_X6_83 dX6_load_47 ?_
            refine J_cSiN E (As := [.long (Int32.toInt64 (y 8 0 i)), .long 0, .long 99]) (c_X6_in l G (y 8 0 i) 0 99 0 99 (by decide) (by decide) ) cl_X6_54 yo_X6_in dX6_load_50 rfl (Nat.le_of_ble_eq_true rfl) (Nat.le_of_ble_eq_true rfl) rfl (Nat.le_of_ble_eq_true rfl) ⟨Nat.zero_le _, Nat.zero_le _⟩ ?_
            refine J_if_eq E (tgt := 79) dX6_load_53 (by decide) (fun c_53 => ?_) (fun c_53 => ?_)
            · skip
              have c_53 := bI_0 c_53
              have h2 : loadN (y 8 0) (min n 11) 0 = i := by rw [h1, show min n 11 - i = (min n 11 - (i + 1)) + 1 by omega, loadN, if_neg c_53]
              refine J_iload_n E dX6_load_79 rfl 3 rfl ?_
              exact ret _ _ _ _ ⟨by rw [h2], _, rfl, by rw [h2, ← hr]; exact ShM.rfl'⟩ rfl dX6_load_80
            · skip
              have c_53 := bI_1 c_53
              refine J_aload_n E dX6_load_56 rfl 0 rfl ?_
              refine J_iload_n E dX6_load_57 rfl 3 rfl ?_
              refine J_iconst E dX6_load_58 ic_2 ?_
              refine J_aload_n E dX6_load_59 rfl 0 rfl ?_
              refine gM0_X6_37 E dX6_load_60 ?_
              refine J_bipush E dX6_load_63 bp_40 ?_
              refine J_iload_n E dX6_load_65 rfl 1 rfl ?_
              refine J_imul E dX6_load_66 ?_
              refine J_top (x' := nI 0) (by decide) ?_
              refine J_iload_n E dX6_load_67 rfl 3 rfl ?_
              refine J_iadd E dX6_load_68 ?_
              refine J_top (x' := nI (0 + i)) (nI_add 0 i) ?_
              refine lMn_0 E (j := (0 + i)) (i := i) rfl (by omega) dX6_load_69 ?_
              refine J_top (x' := y 8 0 i) (upG_n (by decide)) ?_
              refine J_cVv0 E (As := [.int (nI i), .int 2, .int (y 8 0 i)]) (c_X6_sets l G b (upG y 0 r) i 2 (y 8 0 i) (by omega) (by omega)) cl_X6_43 yo_X6_sets dX6_load_70 rfl rfl rfl (Nat.le_of_ble_eq_true rfl) (Nat.le_of_ble_eq_true rfl) rfl (Nat.le_of_ble_eq_true rfl) ⟨Nat.zero_le _, Nat.zero_le _⟩ ?_
              refine J_iinc E (lv' := [(3, .int (nI (i + 1))), (0, .ref (b 0)), (1, .int (nI 0)), (2, .int (-1))]) dX6_load_73 3 rfl (nI_inc _) (by decide) rfl ?_
              refine J_goto E (tgt := 18) dX6_load_76 (by decide) ?_
              refine J_lv [1, 2, 3, 0] rfl ?_
              refine J_w (ws' := wM G b (upG y 0 (up2 r 2 i (y 8 0 i)))) (wM_c rfl rfl rfl rfl rfl rfl rfl rfl rfl rfl rfl) ?_
              exact ih18 (i + 1) (up2 r 2 i (y 8 0 i)) (by omega) (by rw [hr]; rfl) (by rw [h1, show min n 11 - i = (min n 11 - (i + 1)) + 1 by omega, loadN, if_pos c_53]) (by omega)
    refine J_lv [2, 3, 1, 0] rfl ?_
    refine J_w (ws' := wM G b (upG y 0 (y 0))) (wM_c rfl rfl rfl rfl rfl rfl rfl rfl rfl rfl rfl) ?_
    exact lp18 _ 0 (y 0) (by omega) rfl rfl (Nat.lt_succ_self _)
  · skip
    exact absurd c_7 (by decide)

set_option maxHeartbeats 4000000 in
set_option maxRecDepth 20000 in
theorem c_X6_load_ok_1 (l : Launch) (G : GB) (b : Nat → Nat) (y : Q3) (n : Nat) (hb : ¬ y 9 1 0 = 0) (hn : y 9 1 1 = nI n) (hn2 : n ≤ 40) : CI l yX6_load cX6_load 4 .int 3 66 G [.ref (b 0), .int (nI 1)] (wM G b y) (fun vR w' => vR = nI (loadN (y 9 0) (min n 11) 0) ∧ PubM G b (upG y 0 (loadQ (y 0) (y 9 0) (loadN (y 9 0) (min n 11) 0))) w') := by
  refine CI.mk (own := RX6) (by decide) rfl (Nat.le_of_ble_eq_true rfl) ?_
  intro X E ret
  show J X G 4 0 0 (wM G b y) [(0, .ref (b 0)), (1, .int (nI 1))] 0 []
  refine J_aload_n E dX6_load_0 rfl 0 rfl ?_
  refine J_iload_n E dX6_load_1 rfl 1 rfl ?_
  refine J_cVi0 E (As := [.int (nI 1)]) (c_X6_lacks_1_1 l G b y hb ) cl_X6_197 yo_X6_lacks dX6_load_2 rfl rfl rfl (Nat.le_of_ble_eq_true rfl) (Nat.le_of_ble_eq_true rfl) rfl (Nat.le_of_ble_eq_true rfl) ⟨Nat.zero_le _, Nat.zero_le _⟩ ?_
  refine J_istore_n E (lv' := [(2, .int (-1)), (0, .ref (b 0)), (1, .int (nI 1))]) dX6_load_5 rfl (by decide) rfl ?_
  refine J_iload_n E dX6_load_6 rfl 0 rfl ?_
  refine J_if_lt E (tgt := 16) dX6_load_7 (by decide) (fun c_7 => ?_) (fun c_7 => ?_)
  · skip
    refine J_iconst E dX6_load_16 ic_0 ?_
    refine J_istore_n E (lv' := [(3, .int 0), (2, .int (-1)), (0, .ref (b 0)), (1, .int (nI 1))]) dX6_load_17 rfl (by decide) rfl ?_
    refine J_w (ws' := wM G b (upG y 0 (y 0))) (congrArg (wM G b) upG_id.symm) ?_
    have lp18 : ∀ (fu : Nat) (i : Nat) (r : Q2), (i ≤ min n 11) → (r = loadQ (y 0) (y 9 0) i) → (loadN (y 9 0) (min n 11) 0 = loadN (y 9 0) (min n 11 - i) i) → min n 11 - i < fu → J X G 4 0 0 (wM G b (upG y 0 r)) [(0, .ref (b 0)), (1, .int (nI 1)), (2, .int (-1)), (3, .int (nI i))] 18 [] := by
      intro fu
      induction fu with
      | zero => intro i r hi hr h1 hm; exact absurd hm (Nat.not_lt_zero _)
      | succ fu ih18 =>
        intro i r hi hr h1 hm
        refine J_iload_n E dX6_load_18 rfl 3 rfl ?_
        refine J_aload_n E dX6_load_19 rfl 0 rfl ?_
        refine gM0_X6_34 E dX6_load_20 ?_
        refine J_iload_n E dX6_load_23 rfl 1 rfl ?_
        refine lMz_1 E  dX6_load_24 ?_
        refine J_top (x' := y 9 1 1) (upG_n (by decide)) ?_
        refine J_top (x' := nI n) (hn) ?_
        refine J_icmp_ge E (tgt := 79) dX6_load_25 (by decide) (fun c_25 => ?_) (fun c_25 => ?_)
        · skip
          have n_25 : n ≤ i := cmp_le (a := n) (b := i) (by omega) (by omega) c_25
          have h2 : loadN (y 9 0) (min n 11) 0 = i := by rw [h1, show min n 11 - i = 0 by omega]; rfl
          refine J_iload_n E dX6_load_79 rfl 3 rfl ?_
          exact ret _ _ _ _ ⟨by rw [h2], _, rfl, by rw [h2, ← hr]; exact ShM.rfl'⟩ rfl dX6_load_80
        · skip
          have n_25 : ¬ n ≤ i := cmp_nle (a := n) (b := i) (by omega) (by omega) c_25
          refine J_iload_n E dX6_load_28 rfl 3 rfl ?_
          refine J_bipush E dX6_load_29 bp_11 ?_
          refine J_icmp_ge E (tgt := 79) dX6_load_31 (by decide) (fun c_31 => ?_) (fun c_31 => ?_)
          · skip
            have n_31 : 11 ≤ i := cmp_le (a := 11) (b := i) (by omega) (by omega) c_31
            have h2 : loadN (y 9 0) (min n 11) 0 = i := by rw [h1, show min n 11 - i = 0 by omega]; rfl
            refine J_iload_n E dX6_load_79 rfl 3 rfl ?_
            exact ret _ _ _ _ ⟨by rw [h2], _, rfl, by rw [h2, ← hr]; exact ShM.rfl'⟩ rfl dX6_load_80
          · skip
            have n_31 : ¬ 11 ≤ i := cmp_nle (a := 11) (b := i) (by omega) (by omega) c_31
            refine J_aload_n E dX6_load_34 rfl 0 rfl ?_
            refine gM0_X6_37 E dX6_load_35 ?_
            refine J_bipush E dX6_load_38 bp_40 ?_
            refine J_iload_n E dX6_load_40 rfl 1 rfl ?_
            refine J_imul E dX6_load_41 ?_
            refine J_top (x' := nI 40) (by decide) ?_
            refine J_iload_n E dX6_load_42 rfl 3 rfl ?_
            refine J_iadd E dX6_load_43 ?_
            refine J_top (x' := nI (40 + i)) (nI_add 40 i) ?_
            refine lMn_1 E (j := (40 + i)) (i := i) rfl (by omega) dX6_load_44 ?_
            refine J_top (x' := y 9 0 i) (upG_n (by decide)) ?_
            refine J_i2l E dX6_load_45 rfl ?_
            refine J_lconst E dX6_load_46 lc_0 ?_
            refine J_ldc2 E kl_X6_83 dX6_load_47 ?_
            refine J_cSiN E (As := [.long (Int32.toInt64 (y 9 0 i)), .long 0, .long 99]) (c_X6_in l G (y 9 0 i) 0 99 0 99 (by decide) (by decide) ) cl_X6_54 yo_X6_in dX6_load_50 rfl (Nat.le_of_ble_eq_true rfl) (Nat.le_of_ble_eq_true rfl) rfl (Nat.le_of_ble_eq_true rfl) ⟨Nat.zero_le _, Nat.zero_le _⟩ ?_
            refine J_if_eq E (tgt := 79) dX6_load_53 (by decide) (fun c_53 => ?_) (fun c_53 => ?_)
            · skip
              have c_53 := bI_0 c_53
              have h2 : loadN (y 9 0) (min n 11) 0 = i := by rw [h1, show min n 11 - i = (min n 11 - (i + 1)) + 1 by omega, loadN, if_neg c_53]
              refine J_iload_n E dX6_load_79 rfl 3 rfl ?_
              exact ret _ _ _ _ ⟨by rw [h2], _, rfl, by rw [h2, ← hr]; exact ShM.rfl'⟩ rfl dX6_load_80
            · skip
              have c_53 := bI_1 c_53
              refine J_aload_n E dX6_load_56 rfl 0 rfl ?_
              refine J_iload_n E dX6_load_57 rfl 3 rfl ?_
              refine J_iconst E dX6_load_58 ic_2 ?_
              refine J_aload_n E dX6_load_59 rfl 0 rfl ?_
              refine gM0_X6_37 E dX6_load_60 ?_
              refine J_bipush E dX6_load_63 bp_40 ?_
              refine J_iload_n E dX6_load_65 rfl 1 rfl ?_
              refine J_imul E dX6_load_66 ?_
              refine J_top (x' := nI 40) (by decide) ?_
              refine J_iload_n E dX6_load_67 rfl 3 rfl ?_
              refine J_iadd E dX6_load_68 ?_
              refine J_top (x' := nI (40 + i)) (nI_add 40 i) ?_
              refine lMn_1 E (j := (40 + i)) (i := i) rfl (by omega) dX6_load_69 ?_
              refine J_top (x' := y 9 0 i) (upG_n (by decide)) ?_
              refine J_cVv0 E (As := [.int (nI i), .int 2, .int (y 9 0 i)]) (c_X6_sets l G b (upG y 0 r) i 2 (y 9 0 i) (by omega) (by omega)) cl_X6_43 yo_X6_sets dX6_load_70 rfl rfl rfl (Nat.le_of_ble_eq_true rfl) (Nat.le_of_ble_eq_true rfl) rfl (Nat.le_of_ble_eq_true rfl) ⟨Nat.zero_le _, Nat.zero_le _⟩ ?_
              refine J_iinc E (lv' := [(3, .int (nI (i + 1))), (0, .ref (b 0)), (1, .int (nI 1)), (2, .int (-1))]) dX6_load_73 3 rfl (nI_inc _) (by decide) rfl ?_
              refine J_goto E (tgt := 18) dX6_load_76 (by decide) ?_
              refine J_lv [1, 2, 3, 0] rfl ?_
              refine J_w (ws' := wM G b (upG y 0 (up2 r 2 i (y 9 0 i)))) (wM_c rfl rfl rfl rfl rfl rfl rfl rfl rfl rfl rfl) ?_
              exact ih18 (i + 1) (up2 r 2 i (y 9 0 i)) (by omega) (by rw [hr]; rfl) (by rw [h1, show min n 11 - i = (min n 11 - (i + 1)) + 1 by omega, loadN, if_pos c_53]) (by omega)
    refine J_lv [2, 3, 1, 0] rfl ?_
    refine J_w (ws' := wM G b (upG y 0 (y 0))) (wM_c rfl rfl rfl rfl rfl rfl rfl rfl rfl rfl rfl) ?_
    exact lp18 _ 0 (y 0) (by omega) rfl rfl (Nat.lt_succ_self _)
  · skip
    exact absurd c_7 (by decide)
