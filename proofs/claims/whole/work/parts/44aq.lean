set_option maxHeartbeats 4000000 in
set_option maxRecDepth 20000 in
theorem c_X6_sheet_ok_1 (l : Launch) (G : GB) (b : Nat → Nat) (y : Q3) (c n : Int32) (hbt : (c = 0 ∨ c = 8 ∨ c = 16 ∨ c = 32)) (hn : ¬ n < 0) (hn2 : n ≤ 40) : CI l yX6_sheet cX6_sheet 6 .int 2 45 G [.ref (b 0), .int (nI 1), .int c, .int n] (wM G b y) (fun vR w' => vR = (if c = 0 then 0 else n) ∧ PubM G b (upG y 9 (beginS (y 9) c (if c = 0 then 0 else n))) w') := by
  refine CI.mk (own := RX6) (by decide) rfl (Nat.le_of_ble_eq_true rfl) ?_
  intro X E ret
  show J X G 6 0 0 (wM G b y) [(0, .ref (b 0)), (1, .int (nI 1)), (2, .int c), (3, .int n)] 0 []
  rcases hbt with rfl | rfl | rfl | rfl
  · skip
    refine J_iload_n E dX6_sheet_0 rfl 2 rfl ?_
    refine J_if_eq E (tgt := 22) dX6_sheet_1 (by decide) (fun c_1 => ?_) (fun c_1 => ?_)
    · skip
      have n_1 : 0 = 0 := cmp_eq (a := 0) (b := 0) (by omega) (by omega) c_1
      refine J_iconst E dX6_sheet_22 ic_1 ?_
      refine J_goto E (tgt := 27) dX6_sheet_23 (by decide) ?_
      refine J_istore E (lv' := [(4, .int 1), (0, .ref (b 0)), (1, .int (nI 1)), (2, .int 0), (3, .int n)]) dX6_sheet_27 (by decide) rfl ?_
      refine J_iload_n E dX6_sheet_29 rfl 2 rfl ?_
      refine J_cSiN E (As := [.int (nI 1)]) (c_X6_isSheet l G (nI 1) ) cl_X6_303 yo_X6_isSheet dX6_sheet_30 rfl (Nat.le_of_ble_eq_true rfl) (Nat.le_of_ble_eq_true rfl) rfl (Nat.le_of_ble_eq_true rfl) ⟨Nat.zero_le _, Nat.zero_le _⟩ ?_
      refine J_if_eq E (tgt := 41) dX6_sheet_33 (by decide) (fun c_33 => ?_) (fun c_33 => ?_)
      · skip
        have c_33 := bI_0 c_33
        exact absurd (in3 (by decide)) c_33
      · skip
        have c_33 := bI_1 c_33
        refine J_iload E dX6_sheet_36 0 rfl ?_
        refine J_if_ne E (tgt := 47) dX6_sheet_38 (by decide) (fun c_38 => ?_) (fun c_38 => ?_)
        · skip
          have n_38 : ¬ 1 = 0 := cmp_ne (a := 1) (b := 0) (by omega) (by omega) c_38
          refine J_iload_n E dX6_sheet_47 rfl 4 rfl ?_
          refine J_if_ge E (tgt := 58) dX6_sheet_48 (by decide) (fun c_48 => ?_) (fun c_48 => ?_)
          · skip
            refine J_iload_n E dX6_sheet_58 rfl 4 rfl ?_
            refine J_bipush E dX6_sheet_59 bp_40 ?_
            refine J_icmp_le E (tgt := 70) dX6_sheet_61 (by decide) (fun c_61 => ?_) (fun c_61 => ?_)
            · skip
              refine J_aload_n E dX6_sheet_70 rfl 1 rfl ?_
              refine gM0_X6_31 E dX6_sheet_71 ?_
              refine J_iload_n E dX6_sheet_74 rfl 2 rfl ?_
              refine J_iload_n E dX6_sheet_75 rfl 3 rfl ?_
              refine sMb_1 E  dX6_sheet_76 ?_
              refine J_aload_n E dX6_sheet_77 rfl 1 rfl ?_
              refine gM0_X6_34 E dX6_sheet_78 ?_
              refine J_iload_n E dX6_sheet_81 rfl 2 rfl ?_
              refine J_iload_n E dX6_sheet_82 rfl 3 rfl ?_
              refine J_if_ne E (tgt := 90) dX6_sheet_83 (by decide) (fun c_83 => ?_) (fun c_83 => ?_)
              · skip
                have n_83 : ¬ 0 = 0 := cmp_ne (a := 0) (b := 0) (by omega) (by omega) c_83
                exact absurd n_83 (by decide)
              · skip
                have n_83 : 0 = 0 := cmp_eq (a := 0) (b := 0) (by omega) (by omega) c_83
                refine J_iconst E dX6_sheet_86 ic_0 ?_
                refine J_goto E (tgt := 91) dX6_sheet_87 (by decide) ?_
                refine sMz_1 E  dX6_sheet_91 ?_
                refine J_iconst E dX6_sheet_92 ic_0 ?_
                refine J_istore E (lv' := [(5, .int 0), (4, .int 1), (0, .ref (b 0)), (1, .int (nI 1)), (2, .int 0), (3, .int n)]) dX6_sheet_93 (by decide) rfl ?_
                have lp95 : ∀ (fu : Nat) (i : Nat) (r : Q2), (i ≤ 40) → (r = upR ((up3 (up3 y 9 1 0 0) 9 1 1 0) 9) 0 (fillF (y 9 0) 0 i)) → 40 - i < fu → J X G 6 0 0 (wM G b (upG y 9 r)) [(0, .ref (b 0)), (1, .int (nI 1)), (2, .int 0), (3, .int n), (5, .int (nI i))] 95 [] := by
                  intro fu
                  induction fu with
                  | zero => intro i r hi hr hm; exact absurd hm (Nat.not_lt_zero _)
                  | succ fu ih95 =>
                    intro i r hi hr hm
                    refine J_iload E dX6_sheet_95 4 rfl ?_
                    refine J_bipush E dX6_sheet_97 bp_40 ?_
                    refine J_icmp_ge E (tgt := 121) dX6_sheet_99 (by decide) (fun c_99 => ?_) (fun c_99 => ?_)
                    · skip
                      have n_99 : 40 ≤ i := cmp_le (a := 40) (b := i) (by omega) (by omega) c_99
                      refine J_aload_n E dX6_sheet_121 rfl 0 rfl ?_
                      refine gM0_X6_34 E dX6_sheet_122 ?_
                      refine J_iload_n E dX6_sheet_125 rfl 1 rfl ?_
                      refine lMz_1 E  dX6_sheet_126 ?_
                      refine J_top (x' := r 1 1) upG_s ?_
                      refine J_mr9 (f := fun _ => 0) (fun j hj => by rw [hr, show i = 40 by omega]; exact fillF_lt _ _ 40 j hj) ?_
                      exact ret _ _ _ _ ⟨by rw [hr]; rfl, _, rfl, by rw [hr, upR_upR]; exact ShM.rfl'⟩ rfl dX6_sheet_127
                    · skip
                      have n_99 : ¬ 40 ≤ i := cmp_nle (a := 40) (b := i) (by omega) (by omega) c_99
                      refine J_aload_n E dX6_sheet_102 rfl 0 rfl ?_
                      refine gM0_X6_37 E dX6_sheet_103 ?_
                      refine J_bipush E dX6_sheet_106 bp_40 ?_
                      refine J_iload_n E dX6_sheet_108 rfl 1 rfl ?_
                      refine J_imul E dX6_sheet_109 ?_
                      refine J_top (x' := nI 40) (by decide) ?_
                      refine J_iload E dX6_sheet_110 4 rfl ?_
                      refine J_iadd E dX6_sheet_112 ?_
                      refine J_top (x' := nI (40 + i)) (nI_add 40 i) ?_
                      refine J_iconst E dX6_sheet_113 ic_0 ?_
                      refine sMn_1 E (j := (40 + i)) (i := i) rfl (by omega) dX6_sheet_114 ?_
                      refine J_iinc E (lv' := [(5, .int (nI (i + 1))), (0, .ref (b 0)), (1, .int (nI 1)), (2, .int 0), (3, .int n)]) dX6_sheet_115 4 rfl (nI_inc _) (by decide) rfl ?_
                      refine J_goto E (tgt := 95) dX6_sheet_118 (by decide) ?_
                      refine J_lv [1, 2, 3, 4, 0] rfl ?_
                      refine J_w (ws' := wM G b (upG y 9 ((up3 (upG y 9 r) 9 0 i 0) 9))) (wM_c rfl rfl rfl rfl rfl rfl rfl rfl rfl rfl rfl) ?_
                      exact ih95 (i + 1) ((up3 (upG y 9 r) 9 0 i 0) 9) (by omega) (by rw [hr]; exact up2_upR) (by omega)
                refine J_lv [2, 3, 4, 5, 0] rfl ?_
                refine J_w (ws' := wM G b (upG y 9 ((up3 (up3 y 9 1 0 0) 9 1 1 0) 9))) (wM_c rfl rfl rfl rfl rfl rfl rfl rfl rfl rfl rfl) ?_
                exact lp95 _ 0 ((up3 (up3 y 9 1 0 0) 9 1 1 0) 9) (by omega) (upR_id (r := 0)).symm (Nat.lt_succ_self _)
            · skip
              exact absurd hn2 c_61
          · skip
            exact absurd (Int32.not_le.mp c_48) hn
        · skip
          have n_38 : 1 = 0 := cmp_eq (a := 1) (b := 0) (by omega) (by omega) c_38
          exact absurd n_38 (by decide)
    · skip
      have n_1 : ¬ 0 = 0 := cmp_ne (a := 0) (b := 0) (by omega) (by omega) c_1
      exact absurd n_1 (by decide)
  · skip
    refine J_iload_n E dX6_sheet_0 rfl 2 rfl ?_
    refine J_if_eq E (tgt := 22) dX6_sheet_1 (by decide) (fun c_1 => ?_) (fun c_1 => ?_)
    · skip
      have n_1 : 8 = 0 := cmp_eq (a := 8) (b := 0) (by omega) (by omega) c_1
      exact absurd n_1 (by decide)
    · skip
      have n_1 : ¬ 8 = 0 := cmp_ne (a := 8) (b := 0) (by omega) (by omega) c_1
      refine J_iload_n E dX6_sheet_4 rfl 2 rfl ?_
      refine J_bipush E dX6_sheet_5 bp_8 ?_
      refine J_icmp_eq E (tgt := 22) dX6_sheet_7 (by decide) (fun c_7 => ?_) (fun c_7 => ?_)
      · skip
        have n_7 : 8 = 8 := cmp_eq (a := 8) (b := 8) (by omega) (by omega) c_7
        refine J_iconst E dX6_sheet_22 ic_1 ?_
        refine J_goto E (tgt := 27) dX6_sheet_23 (by decide) ?_
        refine J_istore E (lv' := [(4, .int 1), (0, .ref (b 0)), (1, .int (nI 1)), (2, .int 8), (3, .int n)]) dX6_sheet_27 (by decide) rfl ?_
        refine J_iload_n E dX6_sheet_29 rfl 2 rfl ?_
        refine J_cSiN E (As := [.int (nI 1)]) (c_X6_isSheet l G (nI 1) ) cl_X6_303 yo_X6_isSheet dX6_sheet_30 rfl (Nat.le_of_ble_eq_true rfl) (Nat.le_of_ble_eq_true rfl) rfl (Nat.le_of_ble_eq_true rfl) ⟨Nat.zero_le _, Nat.zero_le _⟩ ?_
        refine J_if_eq E (tgt := 41) dX6_sheet_33 (by decide) (fun c_33 => ?_) (fun c_33 => ?_)
        · skip
          have c_33 := bI_0 c_33
          exact absurd (in3 (by decide)) c_33
        · skip
          have c_33 := bI_1 c_33
          refine J_iload E dX6_sheet_36 0 rfl ?_
          refine J_if_ne E (tgt := 47) dX6_sheet_38 (by decide) (fun c_38 => ?_) (fun c_38 => ?_)
          · skip
            have n_38 : ¬ 1 = 0 := cmp_ne (a := 1) (b := 0) (by omega) (by omega) c_38
            refine J_iload_n E dX6_sheet_47 rfl 4 rfl ?_
            refine J_if_ge E (tgt := 58) dX6_sheet_48 (by decide) (fun c_48 => ?_) (fun c_48 => ?_)
            · skip
              refine J_iload_n E dX6_sheet_58 rfl 4 rfl ?_
              refine J_bipush E dX6_sheet_59 bp_40 ?_
              refine J_icmp_le E (tgt := 70) dX6_sheet_61 (by decide) (fun c_61 => ?_) (fun c_61 => ?_)
              · skip
                refine J_aload_n E dX6_sheet_70 rfl 1 rfl ?_
                refine gM0_X6_31 E dX6_sheet_71 ?_
                refine J_iload_n E dX6_sheet_74 rfl 2 rfl ?_
                refine J_iload_n E dX6_sheet_75 rfl 3 rfl ?_
                refine sMb_1 E  dX6_sheet_76 ?_
                refine J_aload_n E dX6_sheet_77 rfl 1 rfl ?_
                refine gM0_X6_34 E dX6_sheet_78 ?_
                refine J_iload_n E dX6_sheet_81 rfl 2 rfl ?_
                refine J_iload_n E dX6_sheet_82 rfl 3 rfl ?_
                refine J_if_ne E (tgt := 90) dX6_sheet_83 (by decide) (fun c_83 => ?_) (fun c_83 => ?_)
                · skip
                  have n_83 : ¬ 8 = 0 := cmp_ne (a := 8) (b := 0) (by omega) (by omega) c_83
                  refine J_iload_n E dX6_sheet_90 rfl 4 rfl ?_
                  refine sMz_1 E  dX6_sheet_91 ?_
                  refine J_iconst E dX6_sheet_92 ic_0 ?_
                  refine J_istore E (lv' := [(5, .int 0), (4, .int 1), (0, .ref (b 0)), (1, .int (nI 1)), (2, .int 8), (3, .int n)]) dX6_sheet_93 (by decide) rfl ?_
                  have lp95 : ∀ (fu : Nat) (i : Nat) (r : Q2), (i ≤ 40) → (r = upR ((up3 (up3 y 9 1 0 8) 9 1 1 n) 9) 0 (fillF (y 9 0) 0 i)) → 40 - i < fu → J X G 6 0 0 (wM G b (upG y 9 r)) [(0, .ref (b 0)), (1, .int (nI 1)), (2, .int 8), (3, .int n), (5, .int (nI i))] 95 [] := by
                    intro fu
                    induction fu with
                    | zero => intro i r hi hr hm; exact absurd hm (Nat.not_lt_zero _)
                    | succ fu ih95 =>
                      intro i r hi hr hm
                      refine J_iload E dX6_sheet_95 4 rfl ?_
                      refine J_bipush E dX6_sheet_97 bp_40 ?_
                      refine J_icmp_ge E (tgt := 121) dX6_sheet_99 (by decide) (fun c_99 => ?_) (fun c_99 => ?_)
                      · skip
                        have n_99 : 40 ≤ i := cmp_le (a := 40) (b := i) (by omega) (by omega) c_99
                        refine J_aload_n E dX6_sheet_121 rfl 0 rfl ?_
                        refine gM0_X6_34 E dX6_sheet_122 ?_
                        refine J_iload_n E dX6_sheet_125 rfl 1 rfl ?_
                        refine lMz_1 E  dX6_sheet_126 ?_
                        refine J_top (x' := r 1 1) upG_s ?_
                        refine J_mr9 (f := fun _ => 0) (fun j hj => by rw [hr, show i = 40 by omega]; exact fillF_lt _ _ 40 j hj) ?_
                        exact ret _ _ _ _ ⟨by rw [hr]; rfl, _, rfl, by rw [hr, upR_upR]; exact ShM.rfl'⟩ rfl dX6_sheet_127
                      · skip
                        have n_99 : ¬ 40 ≤ i := cmp_nle (a := 40) (b := i) (by omega) (by omega) c_99
                        refine J_aload_n E dX6_sheet_102 rfl 0 rfl ?_
                        refine gM0_X6_37 E dX6_sheet_103 ?_
                        refine J_bipush E dX6_sheet_106 bp_40 ?_
                        refine J_iload_n E dX6_sheet_108 rfl 1 rfl ?_
                        refine J_imul E dX6_sheet_109 ?_
                        refine J_top (x' := nI 40) (by decide) ?_
                        refine J_iload E dX6_sheet_110 4 rfl ?_
                        refine J_iadd E dX6_sheet_112 ?_
                        refine J_top (x' := nI (40 + i)) (nI_add 40 i) ?_
                        refine J_iconst E dX6_sheet_113 ic_0 ?_
                        refine sMn_1 E (j := (40 + i)) (i := i) rfl (by omega) dX6_sheet_114 ?_
                        refine J_iinc E (lv' := [(5, .int (nI (i + 1))), (0, .ref (b 0)), (1, .int (nI 1)), (2, .int 8), (3, .int n)]) dX6_sheet_115 4 rfl (nI_inc _) (by decide) rfl ?_
                        refine J_goto E (tgt := 95) dX6_sheet_118 (by decide) ?_
                        refine J_lv [1, 2, 3, 4, 0] rfl ?_
                        refine J_w (ws' := wM G b (upG y 9 ((up3 (upG y 9 r) 9 0 i 0) 9))) (wM_c rfl rfl rfl rfl rfl rfl rfl rfl rfl rfl rfl) ?_
                        exact ih95 (i + 1) ((up3 (upG y 9 r) 9 0 i 0) 9) (by omega) (by rw [hr]; exact up2_upR) (by omega)
                  refine J_lv [2, 3, 4, 5, 0] rfl ?_
                  refine J_w (ws' := wM G b (upG y 9 ((up3 (up3 y 9 1 0 8) 9 1 1 n) 9))) (wM_c rfl rfl rfl rfl rfl rfl rfl rfl rfl rfl rfl) ?_
                  exact lp95 _ 0 ((up3 (up3 y 9 1 0 8) 9 1 1 n) 9) (by omega) (upR_id (r := 0)).symm (Nat.lt_succ_self _)
                · skip
                  have n_83 : 8 = 0 := cmp_eq (a := 8) (b := 0) (by omega) (by omega) c_83
                  exact absurd n_83 (by decide)
              · skip
                exact absurd hn2 c_61
            · skip
              exact absurd (Int32.not_le.mp c_48) hn
          · skip
            have n_38 : 1 = 0 := cmp_eq (a := 1) (b := 0) (by omega) (by omega) c_38
            exact absurd n_38 (by decide)
      · skip
        have n_7 : ¬ 8 = 8 := cmp_ne (a := 8) (b := 8) (by omega) (by omega) c_7
        exact absurd n_7 (by decide)
  · skip
    refine J_iload_n E dX6_sheet_0 rfl 2 rfl ?_
    refine J_if_eq E (tgt := 22) dX6_sheet_1 (by decide) (fun c_1 => ?_) (fun c_1 => ?_)
    · skip
      have n_1 : 16 = 0 := cmp_eq (a := 16) (b := 0) (by omega) (by omega) c_1
      exact absurd n_1 (by decide)
    · skip
      have n_1 : ¬ 16 = 0 := cmp_ne (a := 16) (b := 0) (by omega) (by omega) c_1
      refine J_iload_n E dX6_sheet_4 rfl 2 rfl ?_
      refine J_bipush E dX6_sheet_5 bp_8 ?_
      refine J_icmp_eq E (tgt := 22) dX6_sheet_7 (by decide) (fun c_7 => ?_) (fun c_7 => ?_)
      · skip
        have n_7 : 16 = 8 := cmp_eq (a := 16) (b := 8) (by omega) (by omega) c_7
        exact absurd n_7 (by decide)
      · skip
        have n_7 : ¬ 16 = 8 := cmp_ne (a := 16) (b := 8) (by omega) (by omega) c_7
        refine J_iload_n E dX6_sheet_10 rfl 2 rfl ?_
        refine J_bipush E dX6_sheet_11 bp_16 ?_
        refine J_icmp_eq E (tgt := 22) dX6_sheet_13 (by decide) (fun c_13 => ?_) (fun c_13 => ?_)
        · skip
          have n_13 : 16 = 16 := cmp_eq (a := 16) (b := 16) (by omega) (by omega) c_13
          refine J_iconst E dX6_sheet_22 ic_1 ?_
          refine J_goto E (tgt := 27) dX6_sheet_23 (by decide) ?_
          refine J_istore E (lv' := [(4, .int 1), (0, .ref (b 0)), (1, .int (nI 1)), (2, .int 16), (3, .int n)]) dX6_sheet_27 (by decide) rfl ?_
          refine J_iload_n E dX6_sheet_29 rfl 2 rfl ?_
          refine J_cSiN E (As := [.int (nI 1)]) (c_X6_isSheet l G (nI 1) ) cl_X6_303 yo_X6_isSheet dX6_sheet_30 rfl (Nat.le_of_ble_eq_true rfl) (Nat.le_of_ble_eq_true rfl) rfl (Nat.le_of_ble_eq_true rfl) ⟨Nat.zero_le _, Nat.zero_le _⟩ ?_
          refine J_if_eq E (tgt := 41) dX6_sheet_33 (by decide) (fun c_33 => ?_) (fun c_33 => ?_)
          · skip
            have c_33 := bI_0 c_33
            exact absurd (in3 (by decide)) c_33
          · skip
            have c_33 := bI_1 c_33
            refine J_iload E dX6_sheet_36 0 rfl ?_
            refine J_if_ne E (tgt := 47) dX6_sheet_38 (by decide) (fun c_38 => ?_) (fun c_38 => ?_)
            · skip
              have n_38 : ¬ 1 = 0 := cmp_ne (a := 1) (b := 0) (by omega) (by omega) c_38
              refine J_iload_n E dX6_sheet_47 rfl 4 rfl ?_
              refine J_if_ge E (tgt := 58) dX6_sheet_48 (by decide) (fun c_48 => ?_) (fun c_48 => ?_)
              · skip
                refine J_iload_n E dX6_sheet_58 rfl 4 rfl ?_
                refine J_bipush E dX6_sheet_59 bp_40 ?_
                refine J_icmp_le E (tgt := 70) dX6_sheet_61 (by decide) (fun c_61 => ?_) (fun c_61 => ?_)
                · skip
                  refine J_aload_n E dX6_sheet_70 rfl 1 rfl ?_
                  refine gM0_X6_31 E dX6_sheet_71 ?_
                  refine J_iload_n E dX6_sheet_74 rfl 2 rfl ?_
                  refine J_iload_n E dX6_sheet_75 rfl 3 rfl ?_
                  refine sMb_1 E  dX6_sheet_76 ?_
                  refine J_aload_n E dX6_sheet_77 rfl 1 rfl ?_
                  refine gM0_X6_34 E dX6_sheet_78 ?_
                  refine J_iload_n E dX6_sheet_81 rfl 2 rfl ?_
                  refine J_iload_n E dX6_sheet_82 rfl 3 rfl ?_
                  refine J_if_ne E (tgt := 90) dX6_sheet_83 (by decide) (fun c_83 => ?_) (fun c_83 => ?_)
                  · skip
                    have n_83 : ¬ 16 = 0 := cmp_ne (a := 16) (b := 0) (by omega) (by omega) c_83
                    refine J_iload_n E dX6_sheet_90 rfl 4 rfl ?_
                    refine sMz_1 E  dX6_sheet_91 ?_
                    refine J_iconst E dX6_sheet_92 ic_0 ?_
                    refine J_istore E (lv' := [(5, .int 0), (4, .int 1), (0, .ref (b 0)), (1, .int (nI 1)), (2, .int 16), (3, .int n)]) dX6_sheet_93 (by decide) rfl ?_
                    have lp95 : ∀ (fu : Nat) (i : Nat) (r : Q2), (i ≤ 40) → (r = upR ((up3 (up3 y 9 1 0 16) 9 1 1 n) 9) 0 (fillF (y 9 0) 0 i)) → 40 - i < fu → J X G 6 0 0 (wM G b (upG y 9 r)) [(0, .ref (b 0)), (1, .int (nI 1)), (2, .int 16), (3, .int n), (5, .int (nI i))] 95 [] := by
                      intro fu
                      induction fu with
                      | zero => intro i r hi hr hm; exact absurd hm (Nat.not_lt_zero _)
                      | succ fu ih95 =>
                        intro i r hi hr hm
                        refine J_iload E dX6_sheet_95 4 rfl ?_
                        refine J_bipush E dX6_sheet_97 bp_40 ?_
                        refine J_icmp_ge E (tgt := 121) dX6_sheet_99 (by decide) (fun c_99 => ?_) (fun c_99 => ?_)
                        · skip
                          have n_99 : 40 ≤ i := cmp_le (a := 40) (b := i) (by omega) (by omega) c_99
                          refine J_aload_n E dX6_sheet_121 rfl 0 rfl ?_
                          refine gM0_X6_34 E dX6_sheet_122 ?_
                          refine J_iload_n E dX6_sheet_125 rfl 1 rfl ?_
                          refine lMz_1 E  dX6_sheet_126 ?_
                          refine J_top (x' := r 1 1) upG_s ?_
                          refine J_mr9 (f := fun _ => 0) (fun j hj => by rw [hr, show i = 40 by omega]; exact fillF_lt _ _ 40 j hj) ?_
                          exact ret _ _ _ _ ⟨by rw [hr]; rfl, _, rfl, by rw [hr, upR_upR]; exact ShM.rfl'⟩ rfl dX6_sheet_127
                        · skip
                          have n_99 : ¬ 40 ≤ i := cmp_nle (a := 40) (b := i) (by omega) (by omega) c_99
                          refine J_aload_n E dX6_sheet_102 rfl 0 rfl ?_
                          refine gM0_X6_37 E dX6_sheet_103 ?_
                          refine J_bipush E dX6_sheet_106 bp_40 ?_
                          refine J_iload_n E dX6_sheet_108 rfl 1 rfl ?_
                          refine J_imul E dX6_sheet_109 ?_
                          refine J_top (x' := nI 40) (by decide) ?_
                          refine J_iload E dX6_sheet_110 4 rfl ?_
                          refine J_iadd E dX6_sheet_112 ?_
                          refine J_top (x' := nI (40 + i)) (nI_add 40 i) ?_
                          refine J_iconst E dX6_sheet_113 ic_0 ?_
                          refine sMn_1 E (j := (40 + i)) (i := i) rfl (by omega) dX6_sheet_114 ?_
                          refine J_iinc E (lv' := [(5, .int (nI (i + 1))), (0, .ref (b 0)), (1, .int (nI 1)), (2, .int 16), (3, .int n)]) dX6_sheet_115 4 rfl (nI_inc _) (by decide) rfl ?_
                          refine J_goto E (tgt := 95) dX6_sheet_118 (by decide) ?_
                          refine J_lv [1, 2, 3, 4, 0] rfl ?_
                          refine J_w (ws' := wM G b (upG y 9 ((up3 (upG y 9 r) 9 0 i 0) 9))) (wM_c rfl rfl rfl rfl rfl rfl rfl rfl rfl rfl rfl) ?_
                          exact ih95 (i + 1) ((up3 (upG y 9 r) 9 0 i 0) 9) (by omega) (by rw [hr]; exact up2_upR) (by omega)
                    refine J_lv [2, 3, 4, 5, 0] rfl ?_
                    refine J_w (ws' := wM G b (upG y 9 ((up3 (up3 y 9 1 0 16) 9 1 1 n) 9))) (wM_c rfl rfl rfl rfl rfl rfl rfl rfl rfl rfl rfl) ?_
                    exact lp95 _ 0 ((up3 (up3 y 9 1 0 16) 9 1 1 n) 9) (by omega) (upR_id (r := 0)).symm (Nat.lt_succ_self _)
                  · skip
                    have n_83 : 16 = 0 := cmp_eq (a := 16) (b := 0) (by omega) (by omega) c_83
                    exact absurd n_83 (by decide)
                · skip
                  exact absurd hn2 c_61
              · skip
                exact absurd (Int32.not_le.mp c_48) hn
            · skip
              have n_38 : 1 = 0 := cmp_eq (a := 1) (b := 0) (by omega) (by omega) c_38
              exact absurd n_38 (by decide)
        · skip
          have n_13 : ¬ 16 = 16 := cmp_ne (a := 16) (b := 16) (by omega) (by omega) c_13
          exact absurd n_13 (by decide)
  · skip
    refine J_iload_n E dX6_sheet_0 rfl 2 rfl ?_
    refine J_if_eq E (tgt := 22) dX6_sheet_1 (by decide) (fun c_1 => ?_) (fun c_1 => ?_)
    · skip
      have n_1 : 32 = 0 := cmp_eq (a := 32) (b := 0) (by omega) (by omega) c_1
      exact absurd n_1 (by decide)
    · skip
      have n_1 : ¬ 32 = 0 := cmp_ne (a := 32) (b := 0) (by omega) (by omega) c_1
      refine J_iload_n E dX6_sheet_4 rfl 2 rfl ?_
      refine J_bipush E dX6_sheet_5 bp_8 ?_
      refine J_icmp_eq E (tgt := 22) dX6_sheet_7 (by decide) (fun c_7 => ?_) (fun c_7 => ?_)
      · skip
        have n_7 : 32 = 8 := cmp_eq (a := 32) (b := 8) (by omega) (by omega) c_7
        exact absurd n_7 (by decide)
      · skip
        have n_7 : ¬ 32 = 8 := cmp_ne (a := 32) (b := 8) (by omega) (by omega) c_7
        refine J_iload_n E dX6_sheet_10 rfl 2 rfl ?_
        refine J_bipush E dX6_sheet_11 bp_16 ?_
        refine J_icmp_eq E (tgt := 22) dX6_sheet_13 (by decide) (fun c_13 => ?_) (fun c_13 => ?_)
        · skip
          have n_13 : 32 = 16 := cmp_eq (a := 32) (b := 16) (by omega) (by omega) c_13
          exact absurd n_13 (by decide)
        · skip
          have n_13 : ¬ 32 = 16 := cmp_ne (a := 32) (b := 16) (by omega) (by omega) c_13
          refine J_iload_n E dX6_sheet_16 rfl 2 rfl ?_
          refine J_bipush E dX6_sheet_17 bp_32 ?_
          refine J_icmp_ne E (tgt := 26) dX6_sheet_19 (by decide) (fun c_19 => ?_) (fun c_19 => ?_)
          · skip
            have n_19 : ¬ 32 = 32 := cmp_ne (a := 32) (b := 32) (by omega) (by omega) c_19
            exact absurd n_19 (by decide)
          · skip
            have n_19 : 32 = 32 := cmp_eq (a := 32) (b := 32) (by omega) (by omega) c_19
            refine J_iconst E dX6_sheet_22 ic_1 ?_
            refine J_goto E (tgt := 27) dX6_sheet_23 (by decide) ?_
            refine J_istore E (lv' := [(4, .int 1), (0, .ref (b 0)), (1, .int (nI 1)), (2, .int 32), (3, .int n)]) dX6_sheet_27 (by decide) rfl ?_
            refine J_iload_n E dX6_sheet_29 rfl 2 rfl ?_
            refine J_cSiN E (As := [.int (nI 1)]) (c_X6_isSheet l G (nI 1) ) cl_X6_303 yo_X6_isSheet dX6_sheet_30 rfl (Nat.le_of_ble_eq_true rfl) (Nat.le_of_ble_eq_true rfl) rfl (Nat.le_of_ble_eq_true rfl) ⟨Nat.zero_le _, Nat.zero_le _⟩ ?_
            refine J_if_eq E (tgt := 41) dX6_sheet_33 (by decide) (fun c_33 => ?_) (fun c_33 => ?_)
            · skip
              have c_33 := bI_0 c_33
              exact absurd (in3 (by decide)) c_33
            · skip
              have c_33 := bI_1 c_33
              refine J_iload E dX6_sheet_36 0 rfl ?_
              refine J_if_ne E (tgt := 47) dX6_sheet_38 (by decide) (fun c_38 => ?_) (fun c_38 => ?_)
              · skip
                have n_38 : ¬ 1 = 0 := cmp_ne (a := 1) (b := 0) (by omega) (by omega) c_38
                refine J_iload_n E dX6_sheet_47 rfl 4 rfl ?_
                refine J_if_ge E (tgt := 58) dX6_sheet_48 (by decide) (fun c_48 => ?_) (fun c_48 => ?_)
                · skip
                  refine J_iload_n E dX6_sheet_58 rfl 4 rfl ?_
                  refine J_bipush E dX6_sheet_59 bp_40 ?_
                  refine J_icmp_le E (tgt := 70) dX6_sheet_61 (by decide) (fun c_61 => ?_) (fun c_61 => ?_)
                  · skip
                    refine J_aload_n E dX6_sheet_70 rfl 1 rfl ?_
                    refine gM0_X6_31 E dX6_sheet_71 ?_
                    refine J_iload_n E dX6_sheet_74 rfl 2 rfl ?_
                    refine J_iload_n E dX6_sheet_75 rfl 3 rfl ?_
                    refine sMb_1 E  dX6_sheet_76 ?_
                    refine J_aload_n E dX6_sheet_77 rfl 1 rfl ?_
                    refine gM0_X6_34 E dX6_sheet_78 ?_
                    refine J_iload_n E dX6_sheet_81 rfl 2 rfl ?_
                    refine J_iload_n E dX6_sheet_82 rfl 3 rfl ?_
                    refine J_if_ne E (tgt := 90) dX6_sheet_83 (by decide) (fun c_83 => ?_) (fun c_83 => ?_)
                    · skip
                      have n_83 : ¬ 32 = 0 := cmp_ne (a := 32) (b := 0) (by omega) (by omega) c_83
                      refine J_iload_n E dX6_sheet_90 rfl 4 rfl ?_
                      refine sMz_1 E  dX6_sheet_91 ?_
                      refine J_iconst E dX6_sheet_92 ic_0 ?_
                      refine J_istore E (lv' := [(5, .int 0), (4, .int 1), (0, .ref (b 0)), (1, .int (nI 1)), (2, .int 32), (3, .int n)]) dX6_sheet_93 (by decide) rfl ?_
                      have lp95 : ∀ (fu : Nat) (i : Nat) (r : Q2), (i ≤ 40) → (r = upR ((up3 (up3 y 9 1 0 32) 9 1 1 n) 9) 0 (fillF (y 9 0) 0 i)) → 40 - i < fu → J X G 6 0 0 (wM G b (upG y 9 r)) [(0, .ref (b 0)), (1, .int (nI 1)), (2, .int 32), (3, .int n), (5, .int (nI i))] 95 [] := by
                        intro fu
                        induction fu with
                        | zero => intro i r hi hr hm; exact absurd hm (Nat.not_lt_zero _)
                        | succ fu ih95 =>
                          intro i r hi hr hm
                          refine J_iload E dX6_sheet_95 4 rfl ?_
                          refine J_bipush E dX6_sheet_97 bp_40 ?_
                          refine J_icmp_ge E (tgt := 121) dX6_sheet_99 (by decide) (fun c_99 => ?_) (fun c_99 => ?_)
                          · skip
                            have n_99 : 40 ≤ i := cmp_le (a := 40) (b := i) (by omega) (by omega) c_99
                            refine J_aload_n E dX6_sheet_121 rfl 0 rfl ?_
                            refine gM0_X6_34 E dX6_sheet_122 ?_
                            refine J_iload_n E dX6_sheet_125 rfl 1 rfl ?_
                            refine lMz_1 E  dX6_sheet_126 ?_
                            refine J_top (x' := r 1 1) upG_s ?_
                            refine J_mr9 (f := fun _ => 0) (fun j hj => by rw [hr, show i = 40 by omega]; exact fillF_lt _ _ 40 j hj) ?_
                            exact ret _ _ _ _ ⟨by rw [hr]; rfl, _, rfl, by rw [hr, upR_upR]; exact ShM.rfl'⟩ rfl dX6_sheet_127
                          · skip
                            have n_99 : ¬ 40 ≤ i := cmp_nle (a := 40) (b := i) (by omega) (by omega) c_99
                            refine J_aload_n E dX6_sheet_102 rfl 0 rfl ?_
                            refine gM0_X6_37 E dX6_sheet_103 ?_
                            refine J_bipush E dX6_sheet_106 bp_40 ?_
                            refine J_iload_n E dX6_sheet_108 rfl 1 rfl ?_
                            refine J_imul E dX6_sheet_109 ?_
                            refine J_top (x' := nI 40) (by decide) ?_
                            refine J_iload E dX6_sheet_110 4 rfl ?_
                            refine J_iadd E dX6_sheet_112 ?_
                            refine J_top (x' := nI (40 + i)) (nI_add 40 i) ?_
                            refine J_iconst E dX6_sheet_113 ic_0 ?_
                            refine sMn_1 E (j := (40 + i)) (i := i) rfl (by omega) dX6_sheet_114 ?_
                            refine J_iinc E (lv' := [(5, .int (nI (i + 1))), (0, .ref (b 0)), (1, .int (nI 1)), (2, .int 32), (3, .int n)]) dX6_sheet_115 4 rfl (nI_inc _) (by decide) rfl ?_
                            refine J_goto E (tgt := 95) dX6_sheet_118 (by decide) ?_
                            refine J_lv [1, 2, 3, 4, 0] rfl ?_
                            refine J_w (ws' := wM G b (upG y 9 ((up3 (upG y 9 r) 9 0 i 0) 9))) (wM_c rfl rfl rfl rfl rfl rfl rfl rfl rfl rfl rfl) ?_
                            exact ih95 (i + 1) ((up3 (upG y 9 r) 9 0 i 0) 9) (by omega) (by rw [hr]; exact up2_upR) (by omega)
                      refine J_lv [2, 3, 4, 5, 0] rfl ?_
                      refine J_w (ws' := wM G b (upG y 9 ((up3 (up3 y 9 1 0 32) 9 1 1 n) 9))) (wM_c rfl rfl rfl rfl rfl rfl rfl rfl rfl rfl rfl) ?_
                      exact lp95 _ 0 ((up3 (up3 y 9 1 0 32) 9 1 1 n) 9) (by omega) (upR_id (r := 0)).symm (Nat.lt_succ_self _)
                    · skip
                      have n_83 : 32 = 0 := cmp_eq (a := 32) (b := 0) (by omega) (by omega) c_83
                      exact absurd n_83 (by decide)
                  · skip
                    exact absurd hn2 c_61
                · skip
                  exact absurd (Int32.not_le.mp c_48) hn
              · skip
                have n_38 : 1 = 0 := cmp_eq (a := 1) (b := 0) (by omega) (by omega) c_38
                exact absurd n_38 (by decide)
