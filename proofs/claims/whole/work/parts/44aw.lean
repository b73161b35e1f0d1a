set_option maxHeartbeats 4000000 in
set_option maxRecDepth 20000 in
theorem c_X6_load_ok_2 (l : Launch) (G : GB) (b : Nat → Nat) (y : Q3) (n : Nat) (hb : ¬ y 10 1 0 = 0) (hn : y 10 1 1 = nI n) (hn2 : n ≤ 40) : CI l yX6_load cX6_load 4 .int 3 66 G [.ref (b 0), .int (nI 2)] (wM G b y) (fun vR w' => vR = nI (loadN (y 10 0) (min n 11) 0) ∧ PubM G b (upG y 0 (loadQ (y 0) (y 10 0) (loadN (y 10 0) (min n 11) 0))) w') := by
  refine CI.mk (own := RX6) (by decide) rfl (Nat.le_of_ble_eq_true rfl) ?_
  intro X E ret
  show J X G 4 0 0 (wM G b y) [(0, .ref (b 0)), (1, .int (nI 2))] 0 []
  refine J_aload_n E dX6_load_0 rfl 0 rfl ?_
  refine J_iload_n E dX6_load_1 rfl 1 rfl ?_
  refine J_cVi0 E (As := [.int (nI 2)]) (c_X6_lacks_2_1 l G b y hb ) cl_X6_197 yo_X6_lacks dX6_load_2 rfl rfl rfl (Nat.le_of_ble_eq_true rfl) (Nat.le_of_ble_eq_true rfl) rfl (Nat.le_of_ble_eq_true rfl) ⟨Nat.zero_le _, Nat.zero_le _⟩ ?_
  refine J_istore_n E (lv' := [(2, .int (-1)), (0, .ref (b 0)), (1, .int (nI 2))]) dX6_load_5 rfl (by decide) rfl ?_
  refine J_iload_n E dX6_load_6 rfl 0 rfl ?_
  refine J_if_lt E (tgt := 16) dX6_load_7 (by decide) (fun c_7 => ?_) (fun c_7 => ?_)
  · skip
    refine J_iconst E dX6_load_16 ic_0 ?_
    refine J_istore_n E (lv' := [(3, .int 0), (2, .int (-1)), (0, .ref (b 0)), (1, .int (nI 2))]) dX6_load_17 rfl (by decide) rfl ?_
    refine J_w (ws' := wM G b (upG y 0 (y 0))) (congrArg (wM G b) upG_id.symm) ?_
    have lp18 : ∀ (fu : Nat) (i : Nat) (r : Q2), (i ≤ min n 11) → (r = loadQ (y 0) (y 10 0) i) → (loadN (y 10 0) (min n 11) 0 = loadN (y 10 0) (min n 11 - i) i) → min n 11 - i < fu → J X G 4 0 0 (wM G b (upG y 0 r)) [(0, .ref (b 0)), (1, .int (nI 2)), (2, .int (-1)), (3, .int (nI i))] 18 [] := by
      intro fu
      induction fu with
      | zero => intro i r hi hr h1 hm; exact absurd hm (Nat.not_lt_zero _)
      | succ fu ih18 =>
        intro i r hi hr h1 hm
        refine J_iload_n E dX6_load_18 rfl 3 rfl ?_
        refine J_aload_n E dX6_load_19 rfl 0 rfl ?_
        refine gM0_X6_34 E dX6_load_20 ?_
        refine J_iload_n E dX6_load_23 rfl 1 rfl ?_
        refine lMz_2 E  dX6_load_24 ?_
        refine J_top (x' := y 10 1 1) (upG_n (by decide)) ?_
        refine J_top (x' := nI n) (hn) ?_
        refine J_icmp_ge E (tgt := 79) dX6_load_25 (by decide) (fun c_25 => ?_) (fun c_25 => ?_)
        · skip
          have n_25 : n ≤ i := cmp_le (a := n) (b := i) (by omega) (by omega) c_25
          have h2 : loadN (y 10 0) (min n 11) 0 = i := by rw [h1, show min n 11 - i = 0 by omega]; rfl
          refine J_iload_n E dX6_load_79 rfl 3 rfl ?_
          exact ret _ _ _ _ ⟨by rw [h2], _, rfl, by rw [h2, ← hr]; exact ShM.rfl'⟩ rfl dX6_load_80
        · skip
          have n_25 : ¬ n ≤ i := cmp_nle (a := n) (b := i) (by omega) (by omega) c_25
          refine J_iload_n E dX6_load_28 rfl 3 rfl ?_
          refine J_bipush E dX6_load_29 bp_11 ?_
          refine J_icmp_ge E (tgt := 79) dX6_load_31 (by decide) (fun c_31 => ?_) (fun c_31 => ?_)
          · skip
            have n_31 : 11 ≤ i := cmp_le (a := 11) (b := i) (by omega) (by omega) c_31
            have h2 : loadN (y 10 0) (min n 11) 0 = i := by rw [h1, show min n 11 - i = 0 by omega]; rfl
            refine J_iload_n E dX6_load_79 rfl 3 rfl ?_
            exact ret _ _ _ _ ⟨by rw [h2], _, rfl, by rw [h2, ← hr]; exact ShM.rfl'⟩ rfl dX6_load_80
          · skip
            have n_31 : ¬ 11 ≤ i := cmp_nle (a := 11) (b := i) (by omega) (by omega) c_31
            refine J_aload_n E dX6_load_34 rfl 0 rfl ?_
            refine gM0_X6_37 E dX6_load_35 ?_
            refine J_bipush E dX6_load_38 bp_40 ?_
            refine J_iload_n E dX6_load_40 rfl 1 rfl ?_
            refine J_imul E dX6_load_41 ?_
            refine J_top (x' := nI 80) (by decide) ?_
            refine J_iload_n E dX6_load_42 rfl 3 rfl ?_
            refine J_iadd E dX6_load_43 ?_
            refine J_top (x' := nI (80 + i)) (nI_add 80 i) ?_
            refine lMn_2 E (j := (80 + i)) (i := i) rfl (by omega) dX6_load_44 ?_
            refine J_top (x' := y 10 0 i) (upG_n (by decide)) ?_
            refine J_i2l E dX6_load_45 rfl ?_
            refine J_lconst E dX6_load_46 lc_0 ?_
            refine J_ldc2 E kl_X6_83 dX6_load_47 ?_
            refine J_cSiN E (As := [.long (Int32.toInt64 (y 10 0 i)), .long 0, .long 99]) (c_X6_in l G (y 10 0 i) 0 99 0 99 (by decide) (by decide) ) cl_X6_54 yo_X6_in dX6_load_50 rfl (Nat.le_of_ble_eq_true rfl) (Nat.le_of_ble_eq_true rfl) rfl (Nat.le_of_ble_eq_true rfl) ⟨Nat.zero_le _, Nat.zero_le _⟩ ?_
            refine J_if_eq E (tgt := 79) dX6_load_53 (by decide) (fun c_53 => ?_) (fun c_53 => ?_)
            · skip
              have c_53 := bI_0 c_53
              have h2 : loadN (y 10 0) (min n 11) 0 = i := by rw [h1, show min n 11 - i = (min n 11 - (i + 1)) + 1 by omega, loadN, if_neg c_53]
              refine J_iload_n E dX6_load_79 rfl 3 rfl ?_
              exact ret _ _ _ _ ⟨by rw [h2], _, rfl, by rw [h2, ← hr]; exact ShM.rfl'⟩ rfl dX6_load_80
            · skip
              have c_53 := bI_1 c_53
              refine J_aload_n E dX6_load_56 rfl 0 rfl ?_
              refine J_iload_n E dX6_load_57 rfl 3 rfl ?_
              refine J_iconst E dX6_load_58 ic_2 ?_
              refine J_aload_n E dX6_load_59 rfl 0 rfl ?_
              refine gM0_X6_37 E dX6_load_60 ?_
              refine J_bipush E dX6_load_63 bp_40 ?_
              refine J_iload_n E dX6_load_65 rfl 1 rfl ?_
              refine J_imul E dX6_load_66 ?_
              refine J_top (x' := nI 80) (by decide) ?_
              refine J_iload_n E dX6_load_67 rfl 3 rfl ?_
              refine J_iadd E dX6_load_68 ?_
              refine J_top (x' := nI (80 + i)) (nI_add 80 i) ?_
              refine lMn_2 E (j := (80 + i)) (i := i) rfl (by omega) dX6_load_69 ?_
              refine J_top (x' := y 10 0 i) (upG_n (by decide)) ?_
              refine J_cVv0 E (As := [.int (nI i), .int 2, .int (y 10 0 i)]) (c_X6_sets l G b (upG y 0 r) i 2 (y 10 0 i) (by omega) (by omega)) cl_X6_43 yo_X6_sets dX6_load_70 rfl rfl rfl (Nat.le_of_ble_eq_true rfl) (Nat.le_of_ble_eq_true rfl) rfl (Nat.le_of_ble_eq_true rfl) ⟨Nat.zero_le _, Nat.zero_le _⟩ ?_
              refine J_iinc E (lv' := [(3, .int (nI (i + 1))), (0, .ref (b 0)), (1, .int (nI 2)), (2, .int (-1))]) dX6_load_73 3 rfl (nI_inc _) (by decide) rfl ?_
              refine J_goto E (tgt := 18) dX6_load_76 (by decide) ?_
              refine J_lv [1, 2, 3, 0] rfl ?_
              refine J_w (ws' := wM G b (upG y 0 (up2 r 2 i (y 10 0 i)))) (wM_c rfl rfl rfl rfl rfl rfl rfl rfl rfl rfl rfl) ?_
              exact ih18 (i + 1) (up2 r 2 i (y 10 0 i)) (by omega) (by rw [hr]; rfl) (by rw [h1, show min n 11 - i = (min n 11 - (i + 1)) + 1 by omega, loadN, if_pos c_53]) (by omega)
    refine J_lv [2, 3, 1, 0] rfl ?_
    refine J_w (ws' := wM G b (upG y 0 (y 0))) (wM_c rfl rfl rfl rfl rfl rfl rfl rfl rfl rfl rfl) ?_
    exact lp18 _ 0 (y 0) (by omega) rfl rfl (Nat.lt_succ_self _)
  · skip
    exact absurd c_7 (by decide)

set_option maxHeartbeats 4000000 in
set_option maxRecDepth 20000 in
theorem c_X6_load_ok_3 (l : Launch) (G : GB) (b : Nat → Nat) (y : Q3) (n : Nat) (hb : ¬ y 11 1 0 = 0) (hn : y 11 1 1 = nI n) (hn2 : n ≤ 40) : CI l yX6_load cX6_load 4 .int 3 66 G [.ref (b 0), .int (nI 3)] (wM G b y) (fun vR w' => vR = nI (loadN (y 11 0) (min n 11) 0) ∧ PubM G b (upG y 0 (loadQ (y 0) (y 11 0) (loadN (y 11 0) (min n 11) 0))) w') := by
  refine CI.mk (own := RX6) (by decide) rfl (Nat.le_of_ble_eq_true rfl) ?_
  intro X E ret
  show J X G 4 0 0 (wM G b y) [(0, .ref (b 0)), (1, .int (nI 3))] 0 []
  refine J_aload_n E dX6_load_0 rfl 0 rfl ?_
  refine J_iload_n E dX6_load_1 rfl 1 rfl ?_
  refine J_cVi0 E (As := [.int (nI 3)]) (c_X6_lacks_3_1 l G b y hb ) cl_X6_197 yo_X6_lacks dX6_load_2 rfl rfl rfl (Nat.le_of_ble_eq_true rfl) (Nat.le_of_ble_eq_true rfl) rfl (Nat.le_of_ble_eq_true rfl) ⟨Nat.zero_le _, Nat.zero_le _⟩ ?_
  refine J_istore_n E (lv' := [(2, .int (-1)), (0, .ref (b 0)), (1, .int (nI 3))]) dX6_load_5 rfl (by decide) rfl ?_
  refine J_iload_n E dX6_load_6 rfl 0 rfl ?_
  refine J_if_lt E (tgt := 16) dX6_load_7 (by decide) (fun c_7 => ?_) (fun c_7 => ?_)
  · skip
    refine J_iconst E dX6_load_16 ic_0 ?_
    refine J_istore_n E (lv' := [(3, .int 0), (2, .int (-1)), (0, .ref (b 0)), (1, .int (nI 3))]) dX6_load_17 rfl (by decide) rfl ?_
    refine J_w (ws' := wM G b (upG y 0 (y 0))) (congrArg (wM G b) upG_id.symm) ?_
    have lp18 : ∀ (fu : Nat) (i : Nat) (r : Q2), (i ≤ min n 11) → (r = loadQ (y 0) (y 11 0) i) → (loadN (y 11 0) (min n 11) 0 = loadN (y 11 0) (min n 11 - i) i) → min n 11 - i < fu → J X G 4 0 0 (wM G b (upG y 0 r)) [(0, .ref (b 0)), (1, .int (nI 3)), (2, .int (-1)), (3, .int (nI i))] 18 [] := by
      intro fu
      induction fu with
      | zero => intro i r hi hr h1 hm; exact absurd hm (Nat.not_lt_zero _)
      | succ fu ih18 =>
        intro i r hi hr h1 hm
        refine J_iload_n E dX6_load_18 rfl 3 rfl ?_
        refine J_aload_n E dX6_load_19 rfl 0 rfl ?_
        refine gM0_X6_34 E dX6_load_20 ?_
        refine J_iload_n E dX6_load_23 rfl 1 rfl ?_
        refine lMz_3 E  dX6_load_24 ?_
        refine J_top (x' := y 11 1 1) (upG_n (by decide)) ?_
        refine J_top (x' := nI n) (hn) ?_
        refine J_icmp_ge E (tgt := 79) dX6_load_25 (by decide) (fun c_25 => ?_) (fun c_25 => ?_)
        · skip
          have n_25 : n ≤ i := cmp_le (a := n) (b := i) (by omega) (by omega) c_25
          have h2 : loadN (y 11 0) (min n 11) 0 = i := by rw [h1, show min n 11 - i = 0 by omega]; rfl
          refine J_iload_n E dX6_load_79 rfl 3 rfl ?_
          exact ret _ _ _ _ ⟨by rw [h2], _, rfl, by rw [h2, ← hr]; exact ShM.rfl'⟩ rfl dX6_load_80
        · skip
          have n_25 : ¬ n ≤ i := cmp_nle (a := n) (b := i) (by omega) (by omega) c_25
          refine J_iload_n E dX6_load_28 rfl 3 rfl ?_
          refine J_bipush E dX6_load_29 bp_11 ?_
          refine J_icmp_ge E (tgt := 79) dX6_load_31 (by decide) (fun c_31 => ?_) (fun c_31 => ?_)
          · skip
            have n_31 : 11 ≤ i := cmp_le (a := 11) (b := i) (by omega) (by omega) c_31
            have h2 : loadN (y 11 0) (min n 11) 0 = i := by rw [h1, show min n 11 - i = 0 by omega]; rfl
            refine J_iload_n E dX6_load_79 rfl 3 rfl ?_
            exact ret _ _ _ _ ⟨by rw [h2], _, rfl, by rw [h2, ← hr]; exact ShM.rfl'⟩ rfl dX6_load_80
          · skip
            have n_31 : ¬ 11 ≤ i := cmp_nle (a := 11) (b := i) (by omega) (by omega) c_31
            refine J_aload_n E dX6_load_34 rfl 0 rfl ?_
            refine gM0_X6_37 E dX6_load_35 ?_
            refine J_bipush E dX6_load_38 bp_40 ?_
            refine J_iload_n E dX6_load_40 rfl 1 rfl ?_
            refine J_imul E dX6_load_41 ?_
            refine J_top (x' := nI 120) (by decide) ?_
            refine J_iload_n E dX6_load_42 rfl 3 rfl ?_
            refine J_iadd E dX6_load_43 ?_
            refine J_top (x' := nI (120 + i)) (nI_add 120 i) ?_
            refine lMn_3 E (j := (120 + i)) (i := i) rfl (by omega) dX6_load_44 ?_
            refine J_top (x' := y 11 0 i) (upG_n (by decide)) ?_
            refine J_i2l E dX6_load_45 rfl ?_
            refine J_lconst E dX6_load_46 lc_0 ?_
            refine J_ldc2 E kl_X6_83 dX6_load_47 ?_
            refine J_cSiN E (As := [.long (Int32.toInt64 (y 11 0 i)), .long 0, .long 99]) (c_X6_in l G (y 11 0 i) 0 99 0 99 (by decide) (by decide) ) cl_X6_54 yo_X6_in dX6_load_50 rfl (Nat.le_of_ble_eq_true rfl) (Nat.le_of_ble_eq_true rfl) rfl (Nat.le_of_ble_eq_true rfl) ⟨Nat.zero_le _, Nat.zero_le _⟩ ?_
            refine J_if_eq E (tgt := 79) dX6_load_53 (by decide) (fun c_53 => ?_) (fun c_53 => ?_)
            · skip
              have c_53 := bI_0 c_53
              have h2 : loadN (y 11 0) (min n 11) 0 = i := by rw [h1, show min n 11 - i = (min n 11 - (i + 1)) + 1 by omega, loadN, if_neg c_53]
              refine J_iload_n E dX6_load_79 rfl 3 rfl ?_
              exact ret _ _ _ _ ⟨by rw [h2], _, rfl, by rw [h2, ← hr]; exact ShM.rfl'⟩ rfl dX6_load_80
            · skip
              have c_53 := bI_1 c_53
              refine J_aload_n E dX6_load_56 rfl 0 rfl ?_
              refine J_iload_n E dX6_load_57 rfl 3 rfl ?_
              refine J_iconst E dX6_load_58 ic_2 ?_
              refine J_aload_n E dX6_load_59 rfl 0 rfl ?_
              refine gM0_X6_37 E dX6_load_60 ?_
              refine J_bipush E dX6_load_63 bp_40 ?_
              refine J_iload_n E dX6_load_65 rfl 1 rfl ?_
              refine J_imul E dX6_load_66 ?_
              refine J_top (x' := nI 120) (by decide) ?_
              refine J_iload_n E dX6_load_67 rfl 3 rfl ?_
              refine J_iadd E dX6_load_68 ?_
              refine J_top (x' := nI (120 + i)) (nI_add 120 i) ?_
              refine lMn_3 E (j := (120 + i)) (i := i) rfl (by omega) dX6_load_69 ?_
              refine J_top (x' := y 11 0 i) (upG_n (by decide)) ?_
              refine J_cVv0 E (As := [.int (nI i), .int 2, .int (y 11 0 i)]) (c_X6_sets l G b (upG y 0 r) i 2 (y 11 0 i) (by omega) (by omega)) cl_X6_43 yo_X6_sets dX6_load_70 rfl rfl rfl (Nat.le_of_ble_eq_true rfl) (Nat.le_of_ble_eq_true rfl) rfl (Nat.le_of_ble_eq_true rfl) ⟨Nat.zero_le _, Nat.zero_le _⟩ ?_
              refine J_iinc E (lv' := [(3, .int (nI (i + 1))), (0, .ref (b 0)), (1, .int (nI 3)), (2, .int (-1))]) dX6_load_73 3 rfl (nI_inc _) (by decide) rfl ?_
              refine J_goto E (tgt := 18) dX6_load_76 (by decide) ?_
              refine J_lv [1, 2, 3, 0] rfl ?_
              refine J_w (ws' := wM G b (upG y 0 (up2 r 2 i (y 11 0 i)))) (wM_c rfl rfl rfl rfl rfl rfl rfl rfl rfl rfl rfl) ?_
              exact ih18 (i + 1) (up2 r 2 i (y 11 0 i)) (by omega) (by rw [hr]; rfl) (by rw [h1, show min n 11 - i = (min n 11 - (i + 1)) + 1 by omega, loadN, if_pos c_53]) (by omega)
    refine J_lv [2, 3, 1, 0] rfl ?_
    refine J_w (ws' := wM G b (upG y 0 (y 0))) (wM_c rfl rfl rfl rfl rfl rfl rfl rfl rfl rfl rfl) ?_
    exact lp18 _ 0 (y 0) (by omega) rfl rfl (Nat.lt_succ_self _)
  · skip
    exact absurd c_7 (by decide)
