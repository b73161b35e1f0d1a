set_option maxHeartbeats 4000000 in
set_option maxRecDepth 20000 in
theorem c_X6_copy_run (l : Launch) (G : GB) (b : Nat → Nat) (y : Q3) (n1 n2 : Nat) (i k : Nat) (f o n : Int32) (hi : i < 4) (hk : k < 4)  (h1 : ¬ y (8 + i) 1 0 = 0) (h2 : ¬ y (8 + k) 1 0 = 0) (h3 : y (8 + i) 1 0 = y (8 + k) 1 0) (h5 : y (8 + i) 1 1 = nI n1) (h7 : y (8 + k) 1 1 = nI n2) (hn1 : n1 ≤ 40) (hn2 : n2 ≤ 40) (hb : ¬ ((0 ≤ f ∧ 0 ≤ n ∧ f ≤ y (8 + i) 1 1 ∧ n ≤ y (8 + i) 1 1 - f) ∧ (0 ≤ o ∧ 0 ≤ n ∧ o ≤ y (8 + k) 1 1 ∧ n ≤ y (8 + k) 1 1 - o))) : CI l yX6_copy cX6_copy 8 .int 2 45 G [.ref (b 0), .int (nI i), .int f, .int (nI k), .int o, .int n] (wM G b y) (fun vR w' => vR = tellR 0 ∧ PubM G b (tellX y 0) w') := by
  refine CI.mk (own := RX6) (by decide) rfl (Nat.le_of_ble_eq_true rfl) ?_
  intro X E ret
  show J X G 8 0 0 (wM G b y) [(0, .ref (b 0)), (1, .int (nI i)), (2, .int f), (3, .int (nI k)), (4, .int o), (5, .int n)] 0 []
  rcases (show (i = 0 ∧ k = 0) ∨ (i = 0 ∧ k = 1) ∨ (i = 0 ∧ k = 2) ∨ (i = 0 ∧ k = 3) ∨ (i = 1 ∧ k = 0) ∨ (i = 1 ∧ k = 1) ∨ (i = 1 ∧ k = 2) ∨ (i = 1 ∧ k = 3) ∨ (i = 2 ∧ k = 0) ∨ (i = 2 ∧ k = 1) ∨ (i = 2 ∧ k = 2) ∨ (i = 2 ∧ k = 3) ∨ (i = 3 ∧ k = 0) ∨ (i = 3 ∧ k = 1) ∨ (i = 3 ∧ k = 2) ∨ (i = 3 ∧ k = 3) by omega) with ⟨rfl, rfl⟩ | ⟨rfl, rfl⟩ | ⟨rfl, rfl⟩ | ⟨rfl, rfl⟩ | ⟨rfl, rfl⟩ | ⟨rfl, rfl⟩ | ⟨rfl, rfl⟩ | ⟨rfl, rfl⟩ | ⟨rfl, rfl⟩ | ⟨rfl, rfl⟩ | ⟨rfl, rfl⟩ | ⟨rfl, rfl⟩ | ⟨rfl, rfl⟩ | ⟨rfl, rfl⟩ | ⟨rfl, rfl⟩ | ⟨rfl, rfl⟩
  · skip
    refine J_iload_n E dX6_copy_0 rfl 1 rfl ?_
    refine J_cSiN E (As := [.int (nI 0)]) (c_X6_isSheet l G (nI 0) ) cl_X6_303 yo_X6_isSheet dX6_copy_1 rfl (Nat.le_of_ble_eq_true rfl) (Nat.le_of_ble_eq_true rfl) rfl (Nat.le_of_ble_eq_true rfl) ⟨Nat.zero_le _, Nat.zero_le _⟩ ?_
    refine J_if_eq E (tgt := 14) dX6_copy_4 (by decide) (fun c_4 => ?_) (fun c_4 => ?_)
    · skip
      have c_4 := bI_0 c_4
      exact absurd (in3 (by decide)) c_4
    · skip
      have c_4 := bI_1 c_4
      refine J_iload_n E dX6_copy_7 rfl 3 rfl ?_
      refine J_cSiN E (As := [.int (nI 0)]) (c_X6_isSheet l G (nI 0) ) cl_X6_303 yo_X6_isSheet dX6_copy_8 rfl (Nat.le_of_ble_eq_true rfl) (Nat.le_of_ble_eq_true rfl) rfl (Nat.le_of_ble_eq_true rfl) ⟨Nat.zero_le _, Nat.zero_le _⟩ ?_
      refine J_if_ne E (tgt := 20) dX6_copy_11 (by decide) (fun c_11 => ?_) (fun c_11 => ?_)
      · skip
        have c_11 := bI_1 c_11
        refine J_aload_n E dX6_copy_20 rfl 0 rfl ?_
        refine gM0_X6_31 E dX6_copy_21 ?_
        refine J_iload_n E dX6_copy_24 rfl 1 rfl ?_
        refine lMb_0 E  dX6_copy_25 ?_
        refine J_if_eq E (tgt := 38) dX6_copy_26 (by decide) (fun c_26 => ?_) (fun c_26 => ?_)
        · skip
          exact absurd c_26 h1
        · skip
          refine J_aload_n E dX6_copy_29 rfl 0 rfl ?_
          refine gM0_X6_31 E dX6_copy_30 ?_
          refine J_iload_n E dX6_copy_33 rfl 3 rfl ?_
          refine lMb_0 E  dX6_copy_34 ?_
          refine J_if_ne E (tgt := 44) dX6_copy_35 (by decide) (fun c_35 => ?_) (fun c_35 => ?_)
          · skip
            refine J_aload_n E dX6_copy_44 rfl 0 rfl ?_
            refine gM0_X6_31 E dX6_copy_45 ?_
            refine J_iload_n E dX6_copy_48 rfl 1 rfl ?_
            refine lMb_0 E  dX6_copy_49 ?_
            refine J_aload_n E dX6_copy_50 rfl 0 rfl ?_
            refine gM0_X6_31 E dX6_copy_51 ?_
            refine J_iload_n E dX6_copy_54 rfl 3 rfl ?_
            refine lMb_0 E  dX6_copy_55 ?_
            refine J_icmp_eq E (tgt := 65) dX6_copy_56 (by decide) (fun c_56 => ?_) (fun c_56 => ?_)
            · skip
              refine J_iload E dX6_copy_65 5 rfl ?_
              refine J_if_lt E (tgt := 118) dX6_copy_67 (by decide) (fun c_67 => ?_) (fun c_67 => ?_)
              · skip
                refine J_iconst E dX6_copy_118 ic_0 ?_
                refine J_istore E (lv' := [(6, .int 0), (0, .ref (b 0)), (1, .int (nI 0)), (2, .int f), (3, .int (nI 0)), (4, .int o), (5, .int n)]) dX6_copy_119 (by decide) rfl ?_
                refine J_iload E dX6_copy_121 0 rfl ?_
                refine J_if_ne E (tgt := 132) dX6_copy_123 (by decide) (fun c_123 => ?_) (fun c_123 => ?_)
                · skip
                  have n_123 : ¬ 0 = 0 := cmp_ne (a := 0) (b := 0) (by omega) (by omega) c_123
                  exact absurd n_123 (by decide)
                · skip
                  have n_123 : 0 = 0 := cmp_eq (a := 0) (b := 0) (by omega) (by omega) c_123
                  refine J_aload_n E dX6_copy_126 rfl 1 rfl ?_
                  refine J_iconst E dX6_copy_127 ic_0 ?_
                  refine J_cVi0 E (As := [.int 0]) (c_X6_finds l G b y 0 (by omega)) cl_X6_96 yo_X6_finds dX6_copy_128 rfl rfl rfl (Nat.le_of_ble_eq_true rfl) (Nat.le_of_ble_eq_true rfl) rfl (Nat.le_of_ble_eq_true rfl) ⟨Nat.zero_le _, Nat.zero_le _⟩ ?_
                  exact ret _ _ _ _ ⟨rfl, _, rfl, by intro g h2 h5 h6; by_cases h0 : g = 0 <;> simp [tellX, upG, up3, up3R, up2, h0, h2, h5, h6]⟩ rfl dX6_copy_131
              · skip
                refine J_iload_n E dX6_copy_70 rfl 2 rfl ?_
                refine J_if_lt E (tgt := 118) dX6_copy_71 (by decide) (fun c_71 => ?_) (fun c_71 => ?_)
                · skip
                  refine J_iconst E dX6_copy_118 ic_0 ?_
                  refine J_istore E (lv' := [(6, .int 0), (0, .ref (b 0)), (1, .int (nI 0)), (2, .int f), (3, .int (nI 0)), (4, .int o), (5, .int n)]) dX6_copy_119 (by decide) rfl ?_
                  refine J_iload E dX6_copy_121 0 rfl ?_
                  refine J_if_ne E (tgt := 132) dX6_copy_123 (by decide) (fun c_123 => ?_) (fun c_123 => ?_)
                  · skip
                    have n_123 : ¬ 0 = 0 := cmp_ne (a := 0) (b := 0) (by omega) (by omega) c_123
                    exact absurd n_123 (by decide)
                  · skip
                    have n_123 : 0 = 0 := cmp_eq (a := 0) (b := 0) (by omega) (by omega) c_123
                    refine J_aload_n E dX6_copy_126 rfl 1 rfl ?_
                    refine J_iconst E dX6_copy_127 ic_0 ?_
                    refine J_cVi0 E (As := [.int 0]) (c_X6_finds l G b y 0 (by omega)) cl_X6_96 yo_X6_finds dX6_copy_128 rfl rfl rfl (Nat.le_of_ble_eq_true rfl) (Nat.le_of_ble_eq_true rfl) rfl (Nat.le_of_ble_eq_true rfl) ⟨Nat.zero_le _, Nat.zero_le _⟩ ?_
                    exact ret _ _ _ _ ⟨rfl, _, rfl, by intro g h2 h5 h6; by_cases h0 : g = 0 <;> simp [tellX, upG, up3, up3R, up2, h0, h2, h5, h6]⟩ rfl dX6_copy_131
                · skip
                  refine J_iload E dX6_copy_74 4 rfl ?_
                  refine J_if_lt E (tgt := 118) dX6_copy_76 (by decide) (fun c_76 => ?_) (fun c_76 => ?_)
                  · skip
                    refine J_iconst E dX6_copy_118 ic_0 ?_
                    refine J_istore E (lv' := [(6, .int 0), (0, .ref (b 0)), (1, .int (nI 0)), (2, .int f), (3, .int (nI 0)), (4, .int o), (5, .int n)]) dX6_copy_119 (by decide) rfl ?_
                    refine J_iload E dX6_copy_121 0 rfl ?_
                    refine J_if_ne E (tgt := 132) dX6_copy_123 (by decide) (fun c_123 => ?_) (fun c_123 => ?_)
                    · skip
                      have n_123 : ¬ 0 = 0 := cmp_ne (a := 0) (b := 0) (by omega) (by omega) c_123
                      exact absurd n_123 (by decide)
                    · skip
                      have n_123 : 0 = 0 := cmp_eq (a := 0) (b := 0) (by omega) (by omega) c_123
                      refine J_aload_n E dX6_copy_126 rfl 1 rfl ?_
                      refine J_iconst E dX6_copy_127 ic_0 ?_
                      refine J_cVi0 E (As := [.int 0]) (c_X6_finds l G b y 0 (by omega)) cl_X6_96 yo_X6_finds dX6_copy_128 rfl rfl rfl (Nat.le_of_ble_eq_true rfl) (Nat.le_of_ble_eq_true rfl) rfl (Nat.le_of_ble_eq_true rfl) ⟨Nat.zero_le _, Nat.zero_le _⟩ ?_
                      exact ret _ _ _ _ ⟨rfl, _, rfl, by intro g h2 h5 h6; by_cases h0 : g = 0 <;> simp [tellX, upG, up3, up3R, up2, h0, h2, h5, h6]⟩ rfl dX6_copy_131
                  · skip
                    refine J_iload_n E dX6_copy_79 rfl 2 rfl ?_
                    refine J_i2l E dX6_copy_80 rfl ?_
                    refine J_iload E dX6_copy_81 5 rfl ?_
                    refine J_i2l E dX6_copy_83 rfl ?_
                    refine J_ladd E dX6_copy_84 ?_
                    refine J_aload_n E dX6_copy_85 rfl 0 rfl ?_
                    refine gM0_X6_34 E dX6_copy_86 ?_
                    refine J_iload_n E dX6_copy_89 rfl 1 rfl ?_
                    refine lMz_0 E  dX6_copy_90 ?_
                    refine J_i2l E dX6_copy_91 rfl ?_
                    refine J_lcmp E dX6_copy_92 ?_
                    refine J_if_gt E (tgt := 118) dX6_copy_93 (by decide) (fun c_93 => ?_) (fun c_93 => ?_)
                    · skip
                      refine J_iconst E dX6_copy_118 ic_0 ?_
                      refine J_istore E (lv' := [(6, .int 0), (0, .ref (b 0)), (1, .int (nI 0)), (2, .int f), (3, .int (nI 0)), (4, .int o), (5, .int n)]) dX6_copy_119 (by decide) rfl ?_
                      refine J_iload E dX6_copy_121 0 rfl ?_
                      refine J_if_ne E (tgt := 132) dX6_copy_123 (by decide) (fun c_123 => ?_) (fun c_123 => ?_)
                      · skip
                        have n_123 : ¬ 0 = 0 := cmp_ne (a := 0) (b := 0) (by omega) (by omega) c_123
                        exact absurd n_123 (by decide)
                      · skip
                        have n_123 : 0 = 0 := cmp_eq (a := 0) (b := 0) (by omega) (by omega) c_123
                        refine J_aload_n E dX6_copy_126 rfl 1 rfl ?_
                        refine J_iconst E dX6_copy_127 ic_0 ?_
                        refine J_cVi0 E (As := [.int 0]) (c_X6_finds l G b y 0 (by omega)) cl_X6_96 yo_X6_finds dX6_copy_128 rfl rfl rfl (Nat.le_of_ble_eq_true rfl) (Nat.le_of_ble_eq_true rfl) rfl (Nat.le_of_ble_eq_true rfl) ⟨Nat.zero_le _, Nat.zero_le _⟩ ?_
                        exact ret _ _ _ _ ⟨rfl, _, rfl, by intro g h2 h5 h6; by_cases h0 : g = 0 <;> simp [tellX, upG, up3, up3R, up2, h0, h2, h5, h6]⟩ rfl dX6_copy_131
                    · skip
                      refine J_iload E dX6_copy_96 4 rfl ?_
                      refine J_i2l E dX6_copy_98 rfl ?_
                      refine J_iload E dX6_copy_99 5 rfl ?_
                      refine J_i2l E dX6_copy_101 rfl ?_
                      refine J_ladd E dX6_copy_102 ?_
                      refine J_aload_n E dX6_copy_103 rfl 0 rfl ?_
                      refine gM0_X6_34 E dX6_copy_104 ?_
                      refine J_iload_n E dX6_copy_107 rfl 3 rfl ?_
                      refine lMz_0 E  dX6_copy_108 ?_
                      refine J_i2l E dX6_copy_109 rfl ?_
                      refine J_lcmp E dX6_copy_110 ?_
                      refine J_if_gt E (tgt := 118) dX6_copy_111 (by decide) (fun c_111 => ?_) (fun c_111 => ?_)
                      · skip
                        refine J_iconst E dX6_copy_118 ic_0 ?_
                        refine J_istore E (lv' := [(6, .int 0), (0, .ref (b 0)), (1, .int (nI 0)), (2, .int f), (3, .int (nI 0)), (4, .int o), (5, .int n)]) dX6_copy_119 (by decide) rfl ?_
                        refine J_iload E dX6_copy_121 0 rfl ?_
                        refine J_if_ne E (tgt := 132) dX6_copy_123 (by decide) (fun c_123 => ?_) (fun c_123 => ?_)
                        · skip
                          have n_123 : ¬ 0 = 0 := cmp_ne (a := 0) (b := 0) (by omega) (by omega) c_123
                          exact absurd n_123 (by decide)
                        · skip
                          have n_123 : 0 = 0 := cmp_eq (a := 0) (b := 0) (by omega) (by omega) c_123
                          refine J_aload_n E dX6_copy_126 rfl 1 rfl ?_
                          refine J_iconst E dX6_copy_127 ic_0 ?_
                          refine J_cVi0 E (As := [.int 0]) (c_X6_finds l G b y 0 (by omega)) cl_X6_96 yo_X6_finds dX6_copy_128 rfl rfl rfl (Nat.le_of_ble_eq_true rfl) (Nat.le_of_ble_eq_true rfl) rfl (Nat.le_of_ble_eq_true rfl) ⟨Nat.zero_le _, Nat.zero_le _⟩ ?_
                          exact ret _ _ _ _ ⟨rfl, _, rfl, by intro g h2 h5 h6; by_cases h0 : g = 0 <;> simp [tellX, upG, up3, up3R, up2, h0, h2, h5, h6]⟩ rfl dX6_copy_131
                      · skip
                        exact absurd ⟨runT h5 hn1 (c_71) (c_67) (Int32.not_lt.mp c_93), runT h7 hn2 (c_76) (c_67) (Int32.not_lt.mp c_111)⟩ hb
            · skip
              exact absurd h3 c_56
          · skip
            exact absurd c_35 h2
      · skip
        have c_11 := bI_0 c_11
        exact absurd (in3 (by decide)) c_11
  · skip
    refine J_iload_n E dX6_copy_0 rfl 1 rfl ?_
    refine J_cSiN E (As := [.int (nI 0)]) (c_X6_isSheet l G (nI 0) ) cl_X6_303 yo_X6_isSheet dX6_copy_1 rfl (Nat.le_of_ble_eq_true rfl) (Nat.le_of_ble_eq_true rfl) rfl (Nat.le_of_ble_eq_true rfl) ⟨Nat.zero_le _, Nat.zero_le _⟩ ?_
    refine J_if_eq E (tgt := 14) dX6_copy_4 (by decide) (fun c_4 => ?_) (fun c_4 => ?_)
    · skip
      have c_4 := bI_0 c_4
      exact absurd (in3 (by decide)) c_4
    · skip
      have c_4 := bI_1 c_4
      refine J_iload_n E dX6_copy_7 rfl 3 rfl ?_
      refine J_cSiN E (As := [.int (nI 1)]) (c_X6_isSheet l G (nI 1) ) cl_X6_303 yo_X6_isSheet dX6_copy_8 rfl (Nat.le_of_ble_eq_true rfl) (Nat.le_of_ble_eq_true rfl) rfl (Nat.le_of_ble_eq_true rfl) ⟨Nat.zero_le _, Nat.zero_le _⟩ ?_
      refine J_if_ne E (tgt := 20) dX6_copy_11 (by decide) (fun c_11 => ?_) (fun c_11 => ?_)
      · skip
        have c_11 := bI_1 c_11
        refine J_aload_n E dX6_copy_20 rfl 0 rfl ?_
        refine gM0_X6_31 E dX6_copy_21 ?_
        refine J_iload_n E dX6_copy_24 rfl 1 rfl ?_
        refine lMb_0 E  dX6_copy_25 ?_
        refine J_if_eq E (tgt := 38) dX6_copy_26 (by decide) (fun c_26 => ?_) (fun c_26 => ?_)
        · skip
          exact absurd c_26 h1
        · skip
          refine J_aload_n E dX6_copy_29 rfl 0 rfl ?_
          refine gM0_X6_31 E dX6_copy_30 ?_
          refine J_iload_n E dX6_copy_33 rfl 3 rfl ?_
          refine lMb_1 E  dX6_copy_34 ?_
          refine J_if_ne E (tgt := 44) dX6_copy_35 (by decide) (fun c_35 => ?_) (fun c_35 => ?_)
          · skip
            refine J_aload_n E dX6_copy_44 rfl 0 rfl ?_
            refine gM0_X6_31 E dX6_copy_45 ?_
            refine J_iload_n E dX6_copy_48 rfl 1 rfl ?_
            refine lMb_0 E  dX6_copy_49 ?_
            refine J_aload_n E dX6_copy_50 rfl 0 rfl ?_
            refine gM0_X6_31 E dX6_copy_51 ?_
            refine J_iload_n E dX6_copy_54 rfl 3 rfl ?_
            refine lMb_1 E  dX6_copy_55 ?_
            refine J_icmp_eq E (tgt := 65) dX6_copy_56 (by decide) (fun c_56 => ?_) (fun c_56 => ?_)
            · skip
              refine J_iload E dX6_copy_65 5 rfl ?_
              refine J_if_lt E (tgt := 118) dX6_copy_67 (by decide) (fun c_67 => ?_) (fun c_67 => ?_)
              · skip
                refine J_iconst E dX6_copy_118 ic_0 ?_
                refine J_istore E (lv' := [(6, .int 0), (0, .ref (b 0)), (1, .int (nI 0)), (2, .int f), (3, .int (nI 1)), (4, .int o), (5, .int n)]) dX6_copy_119 (by decide) rfl ?_
                refine J_iload E dX6_copy_121 0 rfl ?_
                refine J_if_ne E (tgt := 132) dX6_copy_123 (by decide) (fun c_123 => ?_) (fun c_123 => ?_)
                · skip
                  have n_123 : ¬ 0 = 0 := cmp_ne (a := 0) (b := 0) (by omega) (by omega) c_123
                  exact absurd n_123 (by decide)
                · skip
                  have n_123 : 0 = 0 := cmp_eq (a := 0) (b := 0) (by omega) (by omega) c_123
                  refine J_aload_n E dX6_copy_126 rfl 1 rfl ?_
                  refine J_iconst E dX6_copy_127 ic_0 ?_
                  refine J_cVi0 E (As := [.int 0]) (c_X6_finds l G b y 0 (by omega)) cl_X6_96 yo_X6_finds dX6_copy_128 rfl rfl rfl (Nat.le_of_ble_eq_true rfl) (Nat.le_of_ble_eq_true rfl) rfl (Nat.le_of_ble_eq_true rfl) ⟨Nat.zero_le _, Nat.zero_le _⟩ ?_
                  exact ret _ _ _ _ ⟨rfl, _, rfl, by intro g h2 h5 h6; by_cases h0 : g = 0 <;> simp [tellX, upG, up3, up3R, up2, h0, h2, h5, h6]⟩ rfl dX6_copy_131
              · skip
                refine J_iload_n E dX6_copy_70 rfl 2 rfl ?_
                refine J_if_lt E (tgt := 118) dX6_copy_71 (by decide) (fun c_71 => ?_) (fun c_71 => ?_)
                · skip
                  refine J_iconst E dX6_copy_118 ic_0 ?_
                  refine J_istore E (lv' := [(6, .int 0), (0, .ref (b 0)), (1, .int (nI 0)), (2, .int f), (3, .int (nI 1)), (4, .int o), (5, .int n)]) dX6_copy_119 (by decide) rfl ?_
                  refine J_iload E dX6_copy_121 0 rfl ?_
                  refine J_if_ne E (tgt := 132) dX6_copy_123 (by decide) (fun c_123 => ?_) (fun c_123 => ?_)
                  · skip
                    have n_123 : ¬ 0 = 0 := cmp_ne (a := 0) (b := 0) (by omega) (by omega) c_123
                    exact absurd n_123 (by decide)
                  · skip
                    have n_123 : 0 = 0 := cmp_eq (a := 0) (b := 0) (by omega) (by omega) c_123
                    refine J_aload_n E dX6_copy_126 rfl 1 rfl ?_
                    refine J_iconst E dX6_copy_127 ic_0 ?_
                    refine J_cVi0 E (As := [.int 0]) (c_X6_finds l G b y 0 (by omega)) cl_X6_96 yo_X6_finds dX6_copy_128 rfl rfl rfl (Nat.le_of_ble_eq_true rfl) (Nat.le_of_ble_eq_true rfl) rfl (Nat.le_of_ble_eq_true rfl) ⟨Nat.zero_le _, Nat.zero_le _⟩ ?_
                    exact ret _ _ _ _ ⟨rfl, _, rfl, by intro g h2 h5 h6; by_cases h0 : g = 0 <;> simp [tellX, upG, up3, up3R, up2, h0, h2, h5, h6]⟩ rfl dX6_copy_131
                · skip
                  refine J_iload E dX6_copy_74 4 rfl ?_
                  refine J_if_lt E (tgt := 118) dX6_copy_76 (by decide) (fun c_76 => ?_) (fun c_76 => ?_)
                  · skip
                    refine J_iconst E dX6_copy_118 ic_0 ?_
                    refine J_istore E (lv' := [(6, .int 0), (0, .ref (b 0)), (1, .int (nI 0)), (2, .int f), (3, .int (nI 1)), (4, .int o), (5, .int n)]) dX6_copy_119 (by decide) rfl ?_
                    refine J_iload E dX6_copy_121 0 rfl ?_
                    refine J_if_ne E (tgt := 132) dX6_copy_123 (by decide) (fun c_123 => ?_) (fun c_123 => ?_)
                    · skip
                      have n_123 : ¬ 0 = 0 := cmp_ne (a := 0) (b := 0) (by omega) (by omega) c_123
                      exact absurd n_123 (by decide)
                    · skip
                      have n_123 : 0 = 0 := cmp_eq (a := 0) (b := 0) (by omega) (by omega) c_123
                      refine J_aload_n E dX6_copy_126 rfl 1 rfl ?_
                      refine J_iconst E dX6_copy_127 ic_0 ?_
                      refine J_cVi0 E (As := [.int 0]) (c_X6_finds l G b y 0 (by omega)) cl_X6_96 yo_X6_finds dX6_copy_128 rfl rfl rfl (Nat.le_of_ble_eq_true rfl) (Nat.le_of_ble_eq_true rfl) rfl (Nat.le_of_ble_eq_true rfl) ⟨Nat.zero_le _, Nat.zero_le _⟩ ?_
                      exact ret _ _ _ _ ⟨rfl, _, rfl, by intro g h2 h5 h6; by_cases h0 : g = 0 <;> simp [tellX, upG, up3, up3R, up2, h0, h2, h5, h6]⟩ rfl dX6_copy_131
                  · skip
                    refine J_iload_n E dX6_copy_79 rfl 2 rfl ?_
                    refine J_i2l E dX6_copy_80 rfl ?_
                    refine J_iload E dX6_copy_81 5 rfl ?_
                    refine J_i2l E dX6_copy_83 rfl ?_
                    refine J_ladd E dX6_copy_84 ?_
                    refine J_aload_n E dX6_copy_85 rfl 0 rfl ?_
                    refine gM0_X6_34 E dX6_copy_86 ?_
                    refine J_iload_n E dX6_copy_89 rfl 1 rfl ?_
                    refine lMz_0 E  dX6_copy_90 ?_
                    refine J_i2l E dX6_copy_91 rfl ?_
                    refine J_lcmp E dX6_copy_92 ?_
                    refine J_if_gt E (tgt := 118) dX6_copy_93 (by decide) (fun c_93 => ?_) (fun c_93 => ?_)
                    · skip
                      refine J_iconst E dX6_copy_118 ic_0 ?_
                      refine J_istore E (lv' := [(6, .int 0), (0, .ref (b 0)), (1, .int (nI 0)), (2, .int f), (3, .int (nI 1)), (4, .int o), (5, .int n)]) dX6_copy_119 (by decide) rfl ?_
                      refine J_iload E dX6_copy_121 0 rfl ?_
                      refine J_if_ne E (tgt := 132) dX6_copy_123 (by decide) (fun c_123 => ?_) (fun c_123 => ?_)
                      · skip
                        have n_123 : ¬ 0 = 0 := cmp_ne (a := 0) (b := 0) (by omega) (by omega) c_123
                        exact absurd n_123 (by decide)
                      · skip
                        have n_123 : 0 = 0 := cmp_eq (a := 0) (b := 0) (by omega) (by omega) c_123
                        refine J_aload_n E dX6_copy_126 rfl 1 rfl ?_
                        refine J_iconst E dX6_copy_127 ic_0 ?_
                        refine J_cVi0 E (As := [.int 0]) (c_X6_finds l G b y 0 (by omega)) cl_X6_96 yo_X6_finds dX6_copy_128 rfl rfl rfl (Nat.le_of_ble_eq_true rfl) (Nat.le_of_ble_eq_true rfl) rfl (Nat.le_of_ble_eq_true rfl) ⟨Nat.zero_le _, Nat.zero_le _⟩ ?_
                        exact ret _ _ _ _ ⟨rfl, _, rfl, by intro g h2 h5 h6; by_cases h0 : g = 0 <;> simp [tellX, upG, up3, up3R, up2, h0, h2, h5, h6]⟩ rfl dX6_copy_131
                    · skip
                      refine J_iload E dX6_copy_96 4 rfl ?_
                      refine J_i2l E dX6_copy_98 rfl ?_
                      refine J_iload E dX6_copy_99 5 rfl ?_
                      refine J_i2l E dX6_copy_101 rfl ?_
                      refine J_ladd E dX6_copy_102 ?_
                      refine J_aload_n E dX6_copy_103 rfl 0 rfl ?_
                      refine gM0_X6_34 E dX6_copy_104 ?_
                      refine J_iload_n E dX6_copy_107 rfl 3 rfl ?_
                      refine lMz_1 E  dX6_copy_108 ?_
                      refine J_i2l E dX6_copy_109 rfl ?_
                      refine J_lcmp E dX6_copy_110 ?_
                      refine J_if_gt E (tgt := 118) dX6_copy_111 (by decide) (fun c_111 => ?_) (fun c_111 => ?_)
                      · skip
                        refine J_iconst E dX6_copy_118 ic_0 ?_
                        refine J_istore E (lv' := [(6, .int 0), (0, .ref (b 0)), (1, .int (nI 0)), (2, .int f), (3, .int (nI 1)), (4, .int o), (5, .int n)]) dX6_copy_119 (by decide) rfl ?_
                        refine J_iload E dX6_copy_121 0 rfl ?_
                        refine J_if_ne E (tgt := 132) dX6_copy_123 (by decide) (fun c_123 => ?_) (fun c_123 => ?_)
                        · skip
                          have n_123 : ¬ 0 = 0 := cmp_ne (a := 0) (b := 0) (by omega) (by omega) c_123
                          exact absurd n_123 (by decide)
                        · skip
                          have n_123 : 0 = 0 := cmp_eq (a := 0) (b := 0) (by omega) (by omega) c_123
                          refine J_aload_n E dX6_copy_126 rfl 1 rfl ?_
                          refine J_iconst E dX6_copy_127 ic_0 ?_
                          refine J_cVi0 E (As := [.int 0]) (c_X6_finds l G b y 0 (by omega)) cl_X6_96 yo_X6_finds dX6_copy_128 rfl rfl rfl (Nat.le_of_ble_eq_true rfl) (Nat.le_of_ble_eq_true rfl) rfl (Nat.le_of_ble_eq_true rfl) ⟨Nat.zero_le _, Nat.zero_le _⟩ ?_
                          exact ret _ _ _ _ ⟨rfl, _, rfl, by intro g h2 h5 h6; by_cases h0 : g = 0 <;> simp [tellX, upG, up3, up3R, up2, h0, h2, h5, h6]⟩ rfl dX6_copy_131
                      · skip
                        exact absurd ⟨runT h5 hn1 (c_71) (c_67) (Int32.not_lt.mp c_93), runT h7 hn2 (c_76) (c_67) (Int32.not_lt.mp c_111)⟩ hb
            · skip
              exact absurd h3 c_56
          · skip
            exact absurd c_35 h2
      · skip
        have c_11 := bI_0 c_11
        exact absurd (in3 (by decide)) c_11
  · skip
    refine J_iload_n E dX6_copy_0 rfl 1 rfl ?_
    refine J_cSiN E (As := [.int (nI 0)]) (c_X6_isSheet l G (nI 0) ) cl_X6_303 yo_X6_isSheet dX6_copy_1 rfl (Nat.le_of_ble_eq_true rfl) (Nat.le_of_ble_eq_true rfl) rfl (Nat.le_of_ble_eq_true rfl) ⟨Nat.zero_le _, Nat.zero_le _⟩ ?_
    refine J_if_eq E (tgt := 14) dX6_copy_4 (by decide) (fun c_4 => ?_) (fun c_4 => ?_)
    · skip
      have c_4 := bI_0 c_4
      exact absurd (in3 (by decide)) c_4
    · skip
      have c_4 := bI_1 c_4
      refine J_iload_n E dX6_copy_7 rfl 3 rfl ?_
      refine J_cSiN E (As := [.int (nI 2)]) (c_X6_isSheet l G (nI 2) ) cl_X6_303 yo_X6_isSheet dX6_copy_8 rfl (Nat.le_of_ble_eq_true rfl) (Nat.le_of_ble_eq_true rfl) rfl (Nat.le_of_ble_eq_true rfl) ⟨Nat.zero_le _, Nat.zero_le _⟩ ?_
      refine J_if_ne E (tgt := 20) dX6_copy_11 (by decide) (fun c_11 => ?_) (fun c_11 => ?_)
      · skip
        have c_11 := bI_1 c_11
        refine J_aload_n E dX6_copy_20 rfl 0 rfl ?_
        refine gM0_X6_31 E dX6_copy_21 ?_
        refine J_iload_n E dX6_copy_24 rfl 1 rfl ?_
        refine lMb_0 E  dX6_copy_25 ?_
        refine J_if_eq E (tgt := 38) dX6_copy_26 (by decide) (fun c_26 => ?_) (fun c_26 => ?_)
        · skip
          exact absurd c_26 h1
        · skip
          refine J_aload_n E dX6_copy_29 rfl 0 rfl ?_
          refine gM0_X6_31 E dX6_copy_30 ?_
          refine J_iload_n E dX6_copy_33 rfl 3 rfl ?_
          refine lMb_2 E  dX6_copy_34 ?_
          refine J_if_ne E (tgt := 44) dX6_copy_35 (by decide) (fun c_35 => ?_) (fun c_35 => ?_)
          · skip
            refine J_aload_n E dX6_copy_44 rfl 0 rfl ?_
            refine gM0_X6_31 E dX6_copy_45 ?_
            refine J_iload_n E dX6_copy_48 rfl 1 rfl ?_
            refine lMb_0 E  dX6_copy_49 ?_
            refine J_aload_n E dX6_copy_50 rfl 0 rfl ?_
            refine gM0_X6_31 E dX6_copy_51 ?_
            refine J_iload_n E dX6_copy_54 rfl 3 rfl ?_
            refine lMb_2 E  dX6_copy_55 ?_
            refine J_icmp_eq E (tgt := 65) dX6_copy_56 (by decide) (fun c_56 => ?_) (fun c_56 => ?_)
            · skip
              refine J_iload E dX6_copy_65 5 rfl ?_
              refine J_if_lt E (tgt := 118) dX6_copy_67 (by decide) (fun c_67 => ?_) (fun c_67 => ?_)
              · skip
                refine J_iconst E dX6_copy_118 ic_0 ?_
                refine J_istore E (lv' := [(6, .int 0), (0, .ref (b 0)), (1, .int (nI 0)), (2, .int f), (3, .int (nI 2)), (4, .int o), (5, .int n)]) dX6_copy_119 (by decide) rfl ?_
                refine J_iload E dX6_copy_121 0 rfl ?_
                refine J_if_ne E (tgt := 132) dX6_copy_123 (by decide) (fun c_123 => ?_) (fun c_123 => ?_)
                · skip
                  have n_123 : ¬ 0 = 0 := cmp_ne (a := 0) (b := 0) (by omega) (by omega) c_123
                  exact absurd n_123 (by decide)
                · skip
                  have n_123 : 0 = 0 := cmp_eq (a := 0) (b := 0) (by omega) (by omega) c_123
                  refine J_aload_n E dX6_copy_126 rfl 1 rfl ?_
                  refine J_iconst E dX6_copy_127 ic_0 ?_
                  refine J_cVi0 E (As := [.int 0]) (c_X6_finds l G b y 0 (by omega)) cl_X6_96 yo_X6_finds dX6_copy_128 rfl rfl rfl (Nat.le_of_ble_eq_true rfl) (Nat.le_of_ble_eq_true rfl) rfl (Nat.le_of_ble_eq_true rfl) ⟨Nat.zero_le _, Nat.zero_le _⟩ ?_
                  exact ret _ _ _ _ ⟨rfl, _, rfl, by intro g h2 h5 h6; by_cases h0 : g = 0 <;> simp [tellX, upG, up3, up3R, up2, h0, h2, h5, h6]⟩ rfl dX6_copy_131
              · skip
                refine J_iload_n E dX6_copy_70 rfl 2 rfl ?_
                refine J_if_lt E (tgt := 118) dX6_copy_71 (by decide) (fun c_71 => ?_) (fun c_71 => ?_)
                · skip
                  refine J_iconst E dX6_copy_118 ic_0 ?_
                  refine J_istore E (lv' := [(6, .int 0), (0, .ref (b 0)), (1, .int (nI 0)), (2, .int f), (3, .int (nI 2)), (4, .int o), (5, .int n)]) dX6_copy_119 (by decide) rfl ?_
                  refine J_iload E dX6_copy_121 0 rfl ?_
                  refine J_if_ne E (tgt := 132) dX6_copy_123 (by decide) (fun c_123 => ?_) (fun c_123 => ?_)
                  · skip
                    have n_123 : ¬ 0 = 0 := cmp_ne (a := 0) (b := 0) (by omega) (by omega) c_123
                    exact absurd n_123 (by decide)
                  · skip
                    have n_123 : 0 = 0 := cmp_eq (a := 0) (b := 0) (by omega) (by omega) c_123
                    refine J_aload_n E dX6_copy_126 rfl 1 rfl ?_
                    refine J_iconst E dX6_copy_127 ic_0 ?_
                    refine J_cVi0 E (As := [.int 0]) (c_X6_finds l G b y 0 (by omega)) cl_X6_96 yo_X6_finds dX6_copy_128 rfl rfl rfl (Nat.le_of_ble_eq_true rfl) (Nat.le_of_ble_eq_true rfl) rfl (Nat.le_of_ble_eq_true rfl) ⟨Nat.zero_le _, Nat.zero_le _⟩ ?_
                    exact ret _ _ _ _ ⟨rfl, _, rfl, by intro g h2 h5 h6; by_cases h0 : g = 0 <;> simp [tellX, upG, up3, up3R, up2, h0, h2, h5, h6]⟩ rfl dX6_copy_131
                · skip
                  refine J_iload E dX6_copy_74 4 rfl ?_
                  refine J_if_lt E (tgt := 118) dX6_copy_76 (by decide) (fun c_76 => ?_) (fun c_76 => ?_)
                  · skip
                    refine J_iconst E dX6_copy_118 ic_0 ?_
                    refine J_istore E (lv' := [(6, .int 0), (0, .ref (b 0)), (1, .int (nI 0)), (2, .int f), (3, .int (nI 2)), (4, .int o), (5, .int n)]) dX6_copy_119 (by decide) rfl ?_
                    refine J_iload E dX6_copy_121 0 rfl ?_
                    refine J_if_ne E (tgt := 132) dX6_copy_123 (by decide) (fun c_123 => ?_) (fun c_123 => ?_)
                    · skip
                      have n_123 : ¬ 0 = 0 := cmp_ne (a := 0) (b := 0) (by omega) (by omega) c_123
                      exact absurd n_123 (by decide)
                    · skip
                      have n_123 : 0 = 0 := cmp_eq (a := 0) (b := 0) (by omega) (by omega) c_123
                      refine J_aload_n E dX6_copy_126 rfl 1 rfl ?_
                      refine J_iconst E dX6_copy_127 ic_0 ?_
                      refine J_cVi0 E (As := [.int 0]) (c_X6_finds l G b y 0 (by omega)) cl_X6_96 yo_X6_finds dX6_copy_128 rfl rfl rfl (Nat.le_of_ble_eq_true rfl) (Nat.le_of_ble_eq_true rfl) rfl (Nat.le_of_ble_eq_true rfl) ⟨Nat.zero_le _, Nat.zero_le _⟩ ?_
                      exact ret _ _ _ _ ⟨rfl, _, rfl, by intro g h2 h5 h6; by_cases h0 : g = 0 <;> simp [tellX, upG, up3, up3R, up2, h0, h2, h5, h6]⟩ rfl dX6_copy_131
                  · skip
                    refine J_iload_n E dX6_copy_79 rfl 2 rfl ?_
                    refine J_i2l E dX6_copy_80 rfl ?_
                    refine J_iload E dX6_copy_81 5 rfl ?_
                    refine J_i2l E dX6_copy_83 rfl ?_
                    refine J_ladd E dX6_copy_84 ?_
                    refine J_aload_n E dX6_copy_85 rfl 0 rfl ?_
                    refine gM0_X6_34 E dX6_copy_86 ?_
                    refine J_iload_n E dX6_copy_89 rfl 1 rfl ?_
                    refine lMz_0 E  dX6_copy_90 ?_
                    refine J_i2l E dX6_copy_91 rfl ?_
                    refine J_lcmp E dX6_copy_92 ?_
                    refine J_if_gt E (tgt := 118) dX6_copy_93 (by decide) (fun c_93 => ?_) (fun c_93 => ?_)
                    · skip
                      refine J_iconst E dX6_copy_118 ic_0 ?_
                      refine J_istore E (lv' := [(6, .int 0), (0, .ref (b 0)), (1, .int (nI 0)), (2, .int f), (3, .int (nI 2)), (4, .int o), (5, .int n)]) dX6_copy_119 (by decide) rfl ?_
                      refine J_iload E dX6_copy_121 0 rfl ?_
                      refine J_if_ne E (tgt := 132) dX6_copy_123 (by decide) (fun c_123 => ?_) (fun c_123 => ?_)
                      · skip
                        have n_123 : ¬ 0 = 0 := cmp_ne (a := 0) (b := 0) (by omega) (by omega) c_123
                        exact absurd n_123 (by decide)
                      · skip
                        have n_123 : 0 = 0 := cmp_eq (a := 0) (b := 0) (by omega) (by omega) c_123
                        refine J_aload_n E dX6_copy_126 rfl 1 rfl ?_
                        refine J_iconst E dX6_copy_127 ic_0 ?_
                        refine J_cVi0 E (As := [.int 0]) (c_X6_finds l G b y 0 (by omega)) cl_X6_96 yo_X6_finds dX6_copy_128 rfl rfl rfl (Nat.le_of_ble_eq_true rfl) (Nat.le_of_ble_eq_true rfl) rfl (Nat.le_of_ble_eq_true rfl) ⟨Nat.zero_le _, Nat.zero_le _⟩ ?_
                        exact ret _ _ _ _ ⟨rfl, _, rfl, by intro g h2 h5 h6; by_cases h0 : g = 0 <;> simp [tellX, upG, up3, up3R, up2, h0, h2, h5, h6]⟩ rfl dX6_copy_131
                    · skip
                      refine J_iload E dX6_copy_96 4 rfl ?_
                      refine J_i2l E dX6_copy_98 rfl ?_
                      refine J_iload E dX6_copy_99 5 rfl ?_
                      refine J_i2l E dX6_copy_101 rfl ?_
                      refine J_ladd E dX6_copy_102 ?_
                      refine J_aload_n E dX6_copy_103 rfl 0 rfl ?_
                      refine gM0_X6_34 E dX6_copy_104 ?_
                      refine J_iload_n E dX6_copy_107 rfl 3 rfl ?_
                      refine lMz_2 E  dX6_copy_108 ?_
                      refine J_i2l E dX6_copy_109 rfl ?_
                      refine J_lcmp E dX6_copy_110 ?_
                      refine J_if_gt E (tgt := 118) dX6_copy_111 (by decide) (fun c_111 => ?_) (fun c_111 => ?_)
                      · skip
                        refine J_iconst E dX6_copy_118 ic_0 ?_
                        refine J_istore E (lv' := [(6, .int 0), (0, .ref (b 0)), (1, .int (nI 0)), (2, .int f), (3, .int (nI 2)), (4, .int o), (5, .int n)]) dX6_copy_119 (by decide) rfl ?_
                        refine J_iload E dX6_copy_121 0 rfl ?_
                        refine J_if_ne E (tgt := 132) dX6_copy_123 (by decide) (fun c_123 => ?_) (fun c_123 => ?_)
                        · skip
                          have n_123 : ¬ 0 = 0 := cmp_ne (a := 0) (b := 0) (by omega) (by omega) c_123
                          exact absurd n_123 (by decide)
                        · skip
                          have n_123 : 0 = 0 := cmp_eq (a := 0) (b := 0) (by omega) (by omega) c_123
                          refine J_aload_n E dX6_copy_126 rfl 1 rfl ?_
                          refine J_iconst E dX6_copy_127 ic_0 ?_
                          refine J_cVi0 E (As := [.int 0]) (c_X6_finds l G b y 0 (by omega)) cl_X6_96 yo_X6_finds dX6_copy_128 rfl rfl rfl (Nat.le_of_ble_eq_true rfl) (Nat.le_of_ble_eq_true rfl) rfl (Nat.le_of_ble_eq_true rfl) ⟨Nat.zero_le _, Nat.zero_le _⟩ ?_
                          exact ret _ _ _ _ ⟨rfl, _, rfl, by intro g h2 h5 h6; by_cases h0 : g = 0 <;> simp [tellX, upG, up3, up3R, up2, h0, h2, h5, h6]⟩ rfl dX6_copy_131
                      · skip
                        exact absurd ⟨runT h5 hn1 (c_71) (c_67) (Int32.not_lt.mp c_93), runT h7 hn2 (c_76) (c_67) (Int32.not_lt.mp c_111)⟩ hb
            · skip
              exact absurd h3 c_56
          · skip
            exact absurd c_35 h2
      · skip
        have c_11 := bI_0 c_11
        exact absurd (in3 (by decide)) c_11
  · skip
    refine J_iload_n E dX6_copy_0 rfl 1 rfl ?_
    refine J_cSiN E (As := [.int (nI 0)]) (c_X6_isSheet l G (nI 0) ) cl_X6_303 yo_X6_isSheet dX6_copy_1 rfl (Nat.le_of_ble_eq_true rfl) (Nat.le_of_ble_eq_true rfl) rfl (Nat.le_of_ble_eq_true rfl) ⟨Nat.zero_le _, Nat.zero_le _⟩ ?_
    refine J_if_eq E (tgt := 14) dX6_copy_4 (by decide) (fun c_4 => ?_) (fun c_4 => ?_)
    · skip
      have c_4 := bI_0 c_4
      exact absurd (in3 (by decide)) c_4
    · skip
      have c_4 := bI_1 c_4
      refine J_iload_n E dX6_copy_7 rfl 3 rfl ?_
      refine J_cSiN E (As := [.int (nI 3)]) (c_X6_isSheet l G (nI 3) ) cl_X6_303 yo_X6_isSheet dX6_copy_8 rfl (Nat.le_of_ble_eq_true rfl) (Nat.le_of_ble_eq_true rfl) rfl (Nat.le_of_ble_eq_true rfl) ⟨Nat.zero_le _, Nat.zero_le _⟩ ?_
      refine J_if_ne E (tgt := 20) dX6_copy_11 (by decide) (fun c_11 => ?_) (fun c_11 => ?_)
      · skip
        have c_11 := bI_1 c_11
        refine J_aload_n E dX6_copy_20 rfl 0 rfl ?_
        refine gM0_X6_31 E dX6_copy_21 ?_
        refine J_iload_n E dX6_copy_24 rfl 1 rfl ?_
        refine lMb_0 E  dX6_copy_25 ?_
        refine J_if_eq E (tgt := 38) dX6_copy_26 (by decide) (fun c_26 => ?_) (fun c_26 => ?_)
        · skip
          exact absurd c_26 h1
        · skip
          refine J_aload_n E dX6_copy_29 rfl 0 rfl ?_
          refine gM0_X6_31 E dX6_copy_30 ?_
          refine J_iload_n E dX6_copy_33 rfl 3 rfl ?_
          refine lMb_3 E  dX6_copy_34 ?_
          refine J_if_ne E (tgt := 44) dX6_copy_35 (by decide) (fun c_35 => ?_) (fun c_35 => ?_)
          · skip
            refine J_aload_n E dX6_copy_44 rfl 0 rfl ?_
            refine gM0_X6_31 E dX6_copy_45 ?_
            refine J_iload_n E dX6_copy_48 rfl 1 rfl ?_
            refine lMb_0 E  dX6_copy_49 ?_
            refine J_aload_n E dX6_copy_50 rfl 0 rfl ?_
            refine gM0_X6_31 E dX6_copy_51 ?_
            refine J_iload_n E dX6_copy_54 rfl 3 rfl ?_
            refine lMb_3 E  dX6_copy_55 ?_
            refine J_icmp_eq E (tgt := 65) dX6_copy_56 (by decide) (fun c_56 => ?_) (fun c_56 => ?_)
            · skip
              refine J_iload E dX6_copy_65 5 rfl ?_
              refine J_if_lt E (tgt := 118) dX6_copy_67 (by decide) (fun c_67 => ?_) (fun c_67 => ?_)
              · skip
                refine J_iconst E dX6_copy_118 ic_0 ?_
                refine J_istore E (lv' := [(6, .int 0), (0, .ref (b 0)), (1, .int (nI 0)), (2, .int f), (3, .int (nI 3)), (4, .int o), (5, .int n)]) dX6_copy_119 (by decide) rfl ?_
                refine J_iload E dX6_copy_121 0 rfl ?_
                refine J_if_ne E (tgt := 132) dX6_copy_123 (by decide) (fun c_123 => ?_) (fun c_123 => ?_)
                · skip
                  have n_123 : ¬ 0 = 0 := cmp_ne (a := 0) (b := 0) (by omega) (by omega) c_123
                  exact absurd n_123 (by decide)
                · skip
                  have n_123 : 0 = 0 := cmp_eq (a := 0) (b := 0) (by omega) (by omega) c_123
                  refine J_aload_n E dX6_copy_126 rfl 1 rfl ?_
                  refine J_iconst E dX6_copy_127 ic_0 ?_
                  refine J_cVi0 E (As := [.int 0]) (c_X6_finds l G b y 0 (by omega)) cl_X6_96 yo_X6_finds dX6_copy_128 rfl rfl rfl (Nat.le_of_ble_eq_true rfl) (Nat.le_of_ble_eq_true rfl) rfl (Nat.le_of_ble_eq_true rfl) ⟨Nat.zero_le _, Nat.zero_le _⟩ ?_
                  exact ret _ _ _ _ ⟨rfl, _, rfl, by intro g h2 h5 h6; by_cases h0 : g = 0 <;> simp [tellX, upG, up3, up3R, up2, h0, h2, h5, h6]⟩ rfl dX6_copy_131
              · skip
                refine J_iload_n E dX6_copy_70 rfl 2 rfl ?_
                refine J_if_lt E (tgt := 118) dX6_copy_71 (by decide) (fun c_71 => ?_) (fun c_71 => ?_)
                · skip
                  refine J_iconst E dX6_copy_118 ic_0 ?_
                  refine J_istore E (lv' := [(6, .int 0), (0, .ref (b 0)), (1, .int (nI 0)), (2, .int f), (3, .int (nI 3)), (4, .int o), (5, .int n)]) dX6_copy_119 (by decide) rfl ?_
                  refine J_iload E dX6_copy_121 0 rfl ?_
                  refine J_if_ne E (tgt := 132) dX6_copy_123 (by decide) (fun c_123 => ?_) (fun c_123 => ?_)
                  · skip
                    have n_123 : ¬ 0 = 0 := cmp_ne (a := 0) (b := 0) (by omega) (by omega) c_123
                    exact absurd n_123 (by decide)
                  · skip
                    have n_123 : 0 = 0 := cmp_eq (a := 0) (b := 0) (by omega) (by omega) c_123
                    refine J_aload_n E dX6_copy_126 rfl 1 rfl ?_
                    refine J_iconst E dX6_copy_127 ic_0 ?_
                    refine J_cVi0 E (As := [.int 0]) (c_X6_finds l G b y 0 (by omega)) cl_X6_96 yo_X6_finds dX6_copy_128 rfl rfl rfl (Nat.le_of_ble_eq_true rfl) (Nat.le_of_ble_eq_true rfl) rfl (Nat.le_of_ble_eq_true rfl) ⟨Nat.zero_le _, Nat.zero_le _⟩ ?_
                    exact ret _ _ _ _ ⟨rfl, _, rfl, by intro g h2 h5 h6; by_cases h0 : g = 0 <;> simp [tellX, upG, up3, up3R, up2, h0, h2, h5, h6]⟩ rfl dX6_copy_131
                · skip
                  refine J_iload E dX6_copy_74 4 rfl ?_
                  refine J_if_lt E (tgt := 118) dX6_copy_76 (by decide) (fun c_76 => ?_) (fun c_76 => ?_)
                  · skip
                    refine J_iconst E dX6_copy_118 ic_0 ?_
                    refine J_istore E (lv' := [(6, .int 0), (0, .ref (b 0)), (1, .int (nI 0)), (2, .int f), (3, .int (nI 3)), (4, .int o), (5, .int n)]) dX6_copy_119 (by decide) rfl ?_
                    refine J_iload E dX6_copy_121 0 rfl ?_
                    refine J_if_ne E (tgt := 132) dX6_copy_123 (by decide) (fun c_123 => ?_) (fun c_123 => ?_)
                    · skip
                      have n_123 : ¬ 0 = 0 := cmp_ne (a := 0) (b := 0) (by omega) (by omega) c_123
                      exact absurd n_123 (by decide)
                    · skip
                      have n_123 : 0 = 0 := cmp_eq (a := 0) (b := 0) (by omega) (by omega) c_123
                      refine J_aload_n E dX6_copy_126 rfl 1 rfl ?_
                      refine J_iconst E dX6_copy_127 ic_0 ?_
                      refine J_cVi0 E (As := [.int 0]) (c_X6_finds l G b y 0 (by omega)) cl_X6_96 yo_X6_finds dX6_copy_128 rfl rfl rfl (Nat.le_of_ble_eq_true rfl) (Nat.le_of_ble_eq_true rfl) rfl (Nat.le_of_ble_eq_true rfl) ⟨Nat.zero_le _, Nat.zero_le _⟩ ?_
                      exact ret _ _ _ _ ⟨rfl, _, rfl, by intro g h2 h5 h6; by_cases h0 : g = 0 <;> simp [tellX, upG, up3, up3R, up2, h0, h2, h5, h6]⟩ rfl dX6_copy_131
                  · skip
                    refine J_iload_n E dX6_copy_79 rfl 2 rfl ?_
                    refine J_i2l E dX6_copy_80 rfl ?_
                    refine J_iload E dX6_copy_81 5 rfl ?_
                    refine J_i2l E dX6_copy_83 rfl ?_
                    refine J_ladd E dX6_copy_84 ?_
                    refine J_aload_n E dX6_copy_85 rfl 0 rfl ?_
                    refine gM0_X6_34 E dX6_copy_86 ?_
                    refine J_iload_n E dX6_copy_89 rfl 1 rfl ?_
                    refine lMz_0 E  dX6_copy_90 ?_
                    refine J_i2l E dX6_copy_91 rfl ?_
                    refine J_lcmp E dX6_copy_92 ?_
                    refine J_if_gt E (tgt := 118) dX6_copy_93 (by decide) (fun c_93 => ?_) (fun c_93 => ?_)
                    · skip
                      refine J_iconst E dX6_copy_118 ic_0 ?_
                      refine J_istore E (lv' := [(6, .int 0), (0, .ref (b 0)), (1, .int (nI 0)), (2, .int f), (3, .int (nI 3)), (4, .int o), (5, .int n)]) dX6_copy_119 (by decide) rfl ?_
                      refine J_iload E dX6_copy_121 0 rfl ?_
                      refine J_if_ne E (tgt := 132) dX6_copy_123 (by decide) (fun c_123 => ?_) (fun c_123 => ?_)
                      · skip
                        have n_123 : ¬ 0 = 0 := cmp_ne (a := 0) (b := 0) (by omega) (by omega) c_123
                        exact absurd n_123 (by decide)
                      · skip
                        have n_123 : 0 = 0 := cmp_eq (a := 0) (b := 0) (by omega) (by omega) c_123
                        refine J_aload_n E dX6_copy_126 rfl 1 rfl ?_
                        refine J_iconst E dX6_copy_127 ic_0 ?_
                        refine J_cVi0 E (As := [.int 0]) (c_X6_finds l G b y 0 (by omega)) cl_X6_96 yo_X6_finds dX6_copy_128 rfl rfl rfl (Nat.le_of_ble_eq_true rfl) (Nat.le_of_ble_eq_true rfl) rfl (Nat.le_of_ble_eq_true rfl) ⟨Nat.zero_le _, Nat.zero_le _⟩ ?_
                        exact ret _ _ _ _ ⟨rfl, _, rfl, by intro g h2 h5 h6; by_cases h0 : g = 0 <;> simp [tellX, upG, up3, up3R, up2, h0, h2, h5, h6]⟩ rfl dX6_copy_131
                    · skip
                      refine J_iload E dX6_copy_96 4 rfl ?_
                      refine J_i2l E dX6_copy_98 rfl ?_
                      refine J_iload E dX6_copy_99 5 rfl ?_
                      refine J_i2l E dX6_copy_101 rfl ?_
                      refine J_ladd E dX6_copy_102 ?_
                      refine J_aload_n E dX6_copy_103 rfl 0 rfl ?_
                      refine gM0_X6_34 E dX6_copy_104 ?_
                      refine J_iload_n E dX6_copy_107 rfl 3 rfl ?_
                      refine lMz_3 E  dX6_copy_108 ?_
                      refine J_i2l E dX6_copy_109 rfl ?_
                      refine J_lcmp E dX6_copy_110 ?_
                      refine J_if_gt E (tgt := 118) dX6_copy_111 (by decide) (fun c_111 => ?_) (fun c_111 => ?_)
                      · skip
                        refine J_iconst E dX6_copy_118 ic_0 ?_
                        refine J_istore E (lv' := [(6, .int 0), (0, .ref (b 0)), (1, .int (nI 0)), (2, .int f), (3, .int (nI 3)), (4, .int o), (5, .int n)]) dX6_copy_119 (by decide) rfl ?_
                        refine J_iload E dX6_copy_121 0 rfl ?_
                        refine J_if_ne E (tgt := 132) dX6_copy_123 (by decide) (fun c_123 => ?_) (fun c_123 => ?_)
                        · skip
                          have n_123 : ¬ 0 = 0 := cmp_ne (a := 0) (b := 0) (by omega) (by omega) c_123
                          exact absurd n_123 (by decide)
                        · skip
                          have n_123 : 0 = 0 := cmp_eq (a := 0) (b := 0) (by omega) (by omega) c_123
                          refine J_aload_n E dX6_copy_126 rfl 1 rfl ?_
                          refine J_iconst E dX6_copy_127 ic_0 ?_
                          refine J_cVi0 E (As := [.int 0]) (c_X6_finds l G b y 0 (by omega)) cl_X6_96 yo_X6_finds dX6_copy_128 rfl rfl rfl (Nat.le_of_ble_eq_true rfl) (Nat.le_of_ble_eq_true rfl) rfl (Nat.le_of_ble_eq_true rfl) ⟨Nat.zero_le _, Nat.zero_le _⟩ ?_
                          exact ret _ _ _ _ ⟨rfl, _, rfl, by intro g h2 h5 h6; by_cases h0 : g = 0 <;> simp [tellX, upG, up3, up3R, up2, h0, h2, h5, h6]⟩ rfl dX6_copy_131
                      · skip
                        exact absurd ⟨runT h5 hn1 (c_71) (c_67) (Int32.not_lt.mp c_93), runT h7 hn2 (c_76) (c_67) (Int32.not_lt.mp c_111)⟩ hb
            · skip
              exact absurd h3 c_56
          · skip
            exact absurd c_35 h2
      · skip
        have c_11 := bI_0 c_11
        exact absurd (in3 (by decide)) c_11
  · skip
    refine J_iload_n E dX6_copy_0 rfl 1 rfl ?_
    refine J_cSiN E (As := [.int (nI 1)]) (c_X6_isSheet l G (nI 1) ) cl_X6_303 yo_X6_isSheet dX6_copy_1 rfl (Nat.le_of_ble_eq_true rfl) (Nat.le_of_ble_eq_true rfl) rfl (Nat.le_of_ble_eq_true rfl) ⟨Nat.zero_le _, Nat.zero_le _⟩ ?_
    refine J_if_eq E (tgt := 14) dX6_copy_4 (by decide) (fun c_4 => ?_) (fun c_4 => ?_)
    · skip
      have c_4 := bI_0 c_4
      exact absurd (in3 (by decide)) c_4
    · skip
      have c_4 := bI_1 c_4
      refine J_iload_n E dX6_copy_7 rfl 3 rfl ?_
      refine J_cSiN E (As := [.int (nI 0)]) (c_X6_isSheet l G (nI 0) ) cl_X6_303 yo_X6_isSheet dX6_copy_8 rfl (Nat.le_of_ble_eq_true rfl) (Nat.le_of_ble_eq_true rfl) rfl (Nat.le_of_ble_eq_true rfl) ⟨Nat.zero_le _, Nat.zero_le _⟩ ?_
      refine J_if_ne E (tgt := 20) dX6_copy_11 (by decide) (fun c_11 => ?_) (fun c_11 => ?_)
      · skip
        have c_11 := bI_1 c_11
        refine J_aload_n E dX6_copy_20 rfl 0 rfl ?_
        refine gM0_X6_31 E dX6_copy_21 ?_
        refine J_iload_n E dX6_copy_24 rfl 1 rfl ?_
        refine lMb_1 E  dX6_copy_25 ?_
        refine J_if_eq E (tgt := 38) dX6_copy_26 (by decide) (fun c_26 => ?_) (fun c_26 => ?_)
        · skip
          exact absurd c_26 h1
        · skip
          refine J_aload_n E dX6_copy_29 rfl 0 rfl ?_
          refine gM0_X6_31 E dX6_copy_30 ?_
          refine J_iload_n E dX6_copy_33 rfl 3 rfl ?_
          refine lMb_0 E  dX6_copy_34 ?_
          refine J_if_ne E (tgt := 44) dX6_copy_35 (by decide) (fun c_35 => ?_) (fun c_35 => ?_)
          · skip
            refine J_aload_n E dX6_copy_44 rfl 0 rfl ?_
            refine gM0_X6_31 E dX6_copy_45 ?_
            refine J_iload_n E dX6_copy_48 rfl 1 rfl ?_
            refine lMb_1 E  dX6_copy_49 ?_
            refine J_aload_n E dX6_copy_50 rfl 0 rfl ?_
            refine gM0_X6_31 E dX6_copy_51 ?_
            refine J_iload_n E dX6_copy_54 rfl 3 rfl ?_
            refine lMb_0 E  dX6_copy_55 ?_
            refine J_icmp_eq E (tgt := 65) dX6_copy_56 (by decide) (fun c_56 => ?_) (fun c_56 => ?_)
            · skip
              refine J_iload E dX6_copy_65 5 rfl ?_
              refine J_if_lt E (tgt := 118) dX6_copy_67 (by decide) (fun c_67 => ?_) (fun c_67 => ?_)
              · skip
                refine J_iconst E dX6_copy_118 ic_0 ?_
                refine J_istore E (lv' := [(6, .int 0), (0, .ref (b 0)), (1, .int (nI 1)), (2, .int f), (3, .int (nI 0)), (4, .int o), (5, .int n)]) dX6_copy_119 (by decide) rfl ?_
                refine J_iload E dX6_copy_121 0 rfl ?_
                refine J_if_ne E (tgt := 132) dX6_copy_123 (by decide) (fun c_123 => ?_) (fun c_123 => ?_)
                · skip
                  have n_123 : ¬ 0 = 0 := cmp_ne (a := 0) (b := 0) (by omega) (by omega) c_123
                  exact absurd n_123 (by decide)
                · skip
                  have n_123 : 0 = 0 := cmp_eq (a := 0) (b := 0) (by omega) (by omega) c_123
                  refine J_aload_n E dX6_copy_126 rfl 1 rfl ?_
                  refine J_iconst E dX6_copy_127 ic_0 ?_
                  refine J_cVi0 E (As := [.int 0]) (c_X6_finds l G b y 0 (by omega)) cl_X6_96 yo_X6_finds dX6_copy_128 rfl rfl rfl (Nat.le_of_ble_eq_true rfl) (Nat.le_of_ble_eq_true rfl) rfl (Nat.le_of_ble_eq_true rfl) ⟨Nat.zero_le _, Nat.zero_le _⟩ ?_
                  exact ret _ _ _ _ ⟨rfl, _, rfl, by intro g h2 h5 h6; by_cases h0 : g = 0 <;> simp [tellX, upG, up3, up3R, up2, h0, h2, h5, h6]⟩ rfl dX6_copy_131
              · skip
                refine J_iload_n E dX6_copy_70 rfl 2 rfl ?_
                refine J_if_lt E (tgt := 118) dX6_copy_71 (by decide) (fun c_71 => ?_) (fun c_71 => ?_)
                · skip
                  refine J_iconst E dX6_copy_118 ic_0 ?_
                  refine J_istore E (lv' := [(6, .int 0), (0, .ref (b 0)), (1, .int (nI 1)), (2, .int f), (3, .int (nI 0)), (4, .int o), (5, .int n)]) dX6_copy_119 (by decide) rfl ?_
                  refine J_iload E dX6_copy_121 0 rfl ?_
                  refine J_if_ne E (tgt := 132) dX6_copy_123 (by decide) (fun c_123 => ?_) (fun c_123 => ?_)
                  · skip
                    have n_123 : ¬ 0 = 0 := cmp_ne (a := 0) (b := 0) (by omega) (by omega) c_123
                    exact absurd n_123 (by decide)
                  · skip
                    have n_123 : 0 = 0 := cmp_eq (a := 0) (b := 0) (by omega) (by omega) c_123
                    refine J_aload_n E dX6_copy_126 rfl 1 rfl ?_
                    refine J_iconst E dX6_copy_127 ic_0 ?_
                    refine J_cVi0 E (As := [.int 0]) (c_X6_finds l G b y 0 (by omega)) cl_X6_96 yo_X6_finds dX6_copy_128 rfl rfl rfl (Nat.le_of_ble_eq_true rfl) (Nat.le_of_ble_eq_true rfl) rfl (Nat.le_of_ble_eq_true rfl) ⟨Nat.zero_le _, Nat.zero_le _⟩ ?_
                    exact ret _ _ _ _ ⟨rfl, _, rfl, by intro g h2 h5 h6; by_cases h0 : g = 0 <;> simp [tellX, upG, up3, up3R, up2, h0, h2, h5, h6]⟩ rfl dX6_copy_131
                · skip
                  refine J_iload E dX6_copy_74 4 rfl ?_
                  refine J_if_lt E (tgt := 118) dX6_copy_76 (by decide) (fun c_76 => ?_) (fun c_76 => ?_)
                  · skip
                    refine J_iconst E dX6_copy_118 ic_0 ?_
                    refine J_istore E (lv' := [(6, .int 0), (0, .ref (b 0)), (1, .int (nI 1)), (2, .int f), (3, .int (nI 0)), (4, .int o), (5, .int n)]) dX6_copy_119 (by decide) rfl ?_
                    refine J_iload E dX6_copy_121 0 rfl ?_
                    refine J_if_ne E (tgt := 132) dX6_copy_123 (by decide) (fun c_123 => ?_) (fun c_123 => ?_)
                    · skip
                      have n_123 : ¬ 0 = 0 := cmp_ne (a := 0) (b := 0) (by omega) (by omega) c_123
                      exact absurd n_123 (by decide)
                    · skip
                      have n_123 : 0 = 0 := cmp_eq (a := 0) (b := 0) (by omega) (by omega) c_123
                      refine J_aload_n E dX6_copy_126 rfl 1 rfl ?_
                      refine J_iconst E dX6_copy_127 ic_0 ?_
                      refine J_cVi0 E (As := [.int 0]) (c_X6_finds l G b y 0 (by omega)) cl_X6_96 yo_X6_finds dX6_copy_128 rfl rfl rfl (Nat.le_of_ble_eq_true rfl) (Nat.le_of_ble_eq_true rfl) rfl (Nat.le_of_ble_eq_true rfl) ⟨Nat.zero_le _, Nat.zero_le _⟩ ?_
                      exact ret _ _ _ _ ⟨rfl, _, rfl, by intro g h2 h5 h6; by_cases h0 : g = 0 <;> simp [tellX, upG, up3, up3R, up2, h0, h2, h5, h6]⟩ rfl dX6_copy_131
                  · skip
                    refine J_iload_n E dX6_copy_79 rfl 2 rfl ?_
                    refine J_i2l E dX6_copy_80 rfl ?_
                    refine J_iload E dX6_copy_81 5 rfl ?_
                    refine J_i2l E dX6_copy_83 rfl ?_
                    refine J_ladd E dX6_copy_84 ?_
                    refine J_aload_n E dX6_copy_85 rfl 0 rfl ?_
                    refine gM0_X6_34 E dX6_copy_86 ?_
                    refine J_iload_n E dX6_copy_89 rfl 1 rfl ?_
                    refine lMz_1 E  dX6_copy_90 ?_
                    refine J_i2l E dX6_copy_91 rfl ?_
                    refine J_lcmp E dX6_copy_92 ?_
                    refine J_if_gt E (tgt := 118) dX6_copy_93 (by decide) (fun c_93 => ?_) (fun c_93 => ?_)
                    · skip
                      refine J_iconst E dX6_copy_118 ic_0 ?_
                      refine J_istore E (lv' := [(6, .int 0), (0, .ref (b 0)), (1, .int (nI 1)), (2, .int f), (3, .int (nI 0)), (4, .int o), (5, .int n)]) dX6_copy_119 (by decide) rfl ?_
                      refine J_iload E dX6_copy_121 0 rfl ?_
                      refine J_if_ne E (tgt := 132) dX6_copy_123 (by decide) (fun c_123 => ?_) (fun c_123 => ?_)
                      · skip
                        have n_123 : ¬ 0 = 0 := cmp_ne (a := 0) (b := 0) (by omega) (by omega) c_123
                        exact absurd n_123 (by decide)
                      · skip
                        have n_123 : 0 = 0 := cmp_eq (a := 0) (b := 0) (by omega) (by omega) c_123
                        refine J_aload_n E dX6_copy_126 rfl 1 rfl ?_
                        refine J_iconst E dX6_copy_127 ic_0 ?_
                        refine J_cVi0 E (As := [.int 0]) (c_X6_finds l G b y 0 (by omega)) cl_X6_96 yo_X6_finds dX6_copy_128 rfl rfl rfl (Nat.le_of_ble_eq_true rfl) (Nat.le_of_ble_eq_true rfl) rfl (Nat.le_of_ble_eq_true rfl) ⟨Nat.zero_le _, Nat.zero_le _⟩ ?_
                        exact ret _ _ _ _ ⟨rfl, _, rfl, by intro g h2 h5 h6; by_cases h0 : g = 0 <;> simp [tellX, upG, up3, up3R, up2, h0, h2, h5, h6]⟩ rfl dX6_copy_131
                    · skip
                      refine J_iload E dX6_copy_96 4 rfl ?_
                      refine J_i2l E dX6_copy_98 rfl ?_
                      refine J_iload E dX6_copy_99 5 rfl ?_
                      refine J_i2l E dX6_copy_101 rfl ?_
                      refine J_ladd E dX6_copy_102 ?_
                      refine J_aload_n E dX6_copy_103 rfl 0 rfl ?_
                      refine gM0_X6_34 E dX6_copy_104 ?_
                      refine J_iload_n E dX6_copy_107 rfl 3 rfl ?_
                      refine lMz_0 E  dX6_copy_108 ?_
                      refine J_i2l E dX6_copy_109 rfl ?_
                      refine J_lcmp E dX6_copy_110 ?_
                      refine J_if_gt E (tgt := 118) dX6_copy_111 (by decide) (fun c_111 => ?_) (fun c_111 => ?_)
                      · skip
                        refine J_iconst E dX6_copy_118 ic_0 ?_
                        refine J_istore E (lv' := [(6, .int 0), (0, .ref (b 0)), (1, .int (nI 1)), (2, .int f), (3, .int (nI 0)), (4, .int o), (5, .int n)]) dX6_copy_119 (by decide) rfl ?_
                        refine J_iload E dX6_copy_121 0 rfl ?_
                        refine J_if_ne E (tgt := 132) dX6_copy_123 (by decide) (fun c_123 => ?_) (fun c_123 => ?_)
                        · skip
                          have n_123 : ¬ 0 = 0 := cmp_ne (a := 0) (b := 0) (by omega) (by omega) c_123
                          exact absurd n_123 (by decide)
                        · skip
                          have n_123 : 0 = 0 := cmp_eq (a := 0) (b := 0) (by omega) (by omega) c_123
                          refine J_aload_n E dX6_copy_126 rfl 1 rfl ?_
                          refine J_iconst E dX6_copy_127 ic_0 ?_
                          refine J_cVi0 E (As := [.int 0]) (c_X6_finds l G b y 0 (by omega)) cl_X6_96 yo_X6_finds dX6_copy_128 rfl rfl rfl (Nat.le_of_ble_eq_true rfl) (Nat.le_of_ble_eq_true rfl) rfl (Nat.le_of_ble_eq_true rfl) ⟨Nat.zero_le _, Nat.zero_le _⟩ ?_
                          exact ret _ _ _ _ ⟨rfl, _, rfl, by intro g h2 h5 h6; by_cases h0 : g = 0 <;> simp [tellX, upG, up3, up3R, up2, h0, h2, h5, h6]⟩ rfl dX6_copy_131
                      · skip
                        exact absurd ⟨runT h5 hn1 (c_71) (c_67) (Int32.not_lt.mp c_93), runT h7 hn2 (c_76) (c_67) (Int32.not_lt.mp c_111)⟩ hb
            · skip
              exact absurd h3 c_56
          · skip
            exact absurd c_35 h2
      · skip
        have c_11 := bI_0 c_11
        exact absurd (in3 (by decide)) c_11
  · skip
    refine J_iload_n E dX6_copy_0 rfl 1 rfl ?_
    refine J_cSiN E (As := [.int (nI 1)]) (c_X6_isSheet l G (nI 1) ) cl_X6_303 yo_X6_isSheet dX6_copy_1 rfl (Nat.le_of_ble_eq_true rfl) (Nat.le_of_ble_eq_true rfl) rfl (Nat.le_of_ble_eq_true rfl) ⟨Nat.zero_le _, Nat.zero_le _⟩ ?_
    refine J_if_eq E (tgt := 14) dX6_copy_4 (by decide) (fun c_4 => ?_) (fun c_4 => ?_)
    · skip
      have c_4 := bI_0 c_4
      exact absurd (in3 (by decide)) c_4
    · skip
      have c_4 := bI_1 c_4
      refine J_iload_n E dX6_copy_7 rfl 3 rfl ?_
      refine J_cSiN E (As := [.int (nI 1)]) (c_X6_isSheet l G (nI 1) ) cl_X6_303 yo_X6_isSheet dX6_copy_8 rfl (Nat.le_of_ble_eq_true rfl) (Nat.le_of_ble_eq_true rfl) rfl (Nat.le_of_ble_eq_true rfl) ⟨Nat.zero_le _, Nat.zero_le _⟩ ?_
      refine J_if_ne E (tgt := 20) dX6_copy_11 (by decide) (fun c_11 => ?_) (fun c_11 => ?_)
      · skip
        have c_11 := bI_1 c_11
        refine J_aload_n E dX6_copy_20 rfl 0 rfl ?_
        refine gM0_X6_31 E dX6_copy_21 ?_
        refine J_iload_n E dX6_copy_24 rfl 1 rfl ?_
        refine lMb_1 E  dX6_copy_25 ?_
        refine J_if_eq E (tgt := 38) dX6_copy_26 (by decide) (fun c_26 => ?_) (fun c_26 => ?_)
        · skip
          exact absurd c_26 h1
        · skip
          refine J_aload_n E dX6_copy_29 rfl 0 rfl ?_
          refine gM0_X6_31 E dX6_copy_30 ?_
          refine J_iload_n E dX6_copy_33 rfl 3 rfl ?_
          refine lMb_1 E  dX6_copy_34 ?_
          refine J_if_ne E (tgt := 44) dX6_copy_35 (by decide) (fun c_35 => ?_) (fun c_35 => ?_)
          · skip
            refine J_aload_n E dX6_copy_44 rfl 0 rfl ?_
            refine gM0_X6_31 E dX6_copy_45 ?_
            refine J_iload_n E dX6_copy_48 rfl 1 rfl ?_
            refine lMb_1 E  dX6_copy_49 ?_
            refine J_aload_n E dX6_copy_50 rfl 0 rfl ?_
            refine gM0_X6_31 E dX6_copy_51 ?_
            refine J_iload_n E dX6_copy_54 rfl 3 rfl ?_
            refine lMb_1 E  dX6_copy_55 ?_
            refine J_icmp_eq E (tgt := 65) dX6_copy_56 (by decide) (fun c_56 => ?_) (fun c_56 => ?_)
            · skip
              refine J_iload E dX6_copy_65 5 rfl ?_
              refine J_if_lt E (tgt := 118) dX6_copy_67 (by decide) (fun c_67 => ?_) (fun c_67 => ?_)
              · skip
                refine J_iconst E dX6_copy_118 ic_0 ?_
                refine J_istore E (lv' := [(6, .int 0), (0, .ref (b 0)), (1, .int (nI 1)), (2, .int f), (3, .int (nI 1)), (4, .int o), (5, .int n)]) dX6_copy_119 (by decide) rfl ?_
                refine J_iload E dX6_copy_121 0 rfl ?_
                refine J_if_ne E (tgt := 132) dX6_copy_123 (by decide) (fun c_123 => ?_) (fun c_123 => ?_)
                · skip
                  have n_123 : ¬ 0 = 0 := cmp_ne (a := 0) (b := 0) (by omega) (by omega) c_123
                  exact absurd n_123 (by decide)
                · skip
                  have n_123 : 0 = 0 := cmp_eq (a := 0) (b := 0) (by omega) (by omega) c_123
                  refine J_aload_n E dX6_copy_126 rfl 1 rfl ?_
                  refine J_iconst E dX6_copy_127 ic_0 ?_
                  refine J_cVi0 E (As := [.int 0]) (c_X6_finds l G b y 0 (by omega)) cl_X6_96 yo_X6_finds dX6_copy_128 rfl rfl rfl (Nat.le_of_ble_eq_true rfl) (Nat.le_of_ble_eq_true rfl) rfl (Nat.le_of_ble_eq_true rfl) ⟨Nat.zero_le _, Nat.zero_le _⟩ ?_
                  exact ret _ _ _ _ ⟨rfl, _, rfl, by intro g h2 h5 h6; by_cases h0 : g = 0 <;> simp [tellX, upG, up3, up3R, up2, h0, h2, h5, h6]⟩ rfl dX6_copy_131
              · skip
                refine J_iload_n E dX6_copy_70 rfl 2 rfl ?_
                refine J_if_lt E (tgt := 118) dX6_copy_71 (by decide) (fun c_71 => ?_) (fun c_71 => ?_)
                · skip
                  refine J_iconst E dX6_copy_118 ic_0 ?_
                  refine J_istore E (lv' := [(6, .int 0), (0, .ref (b 0)), (1, .int (nI 1)), (2, .int f), (3, .int (nI 1)), (4, .int o), (5, .int n)]) dX6_copy_119 (by decide) rfl ?_
                  refine J_iload E dX6_copy_121 0 rfl ?_
                  refine J_if_ne E (tgt := 132) dX6_copy_123 (by decide) (fun c_123 => ?_) (fun c_123 => ?_)
                  · skip
                    have n_123 : ¬ 0 = 0 := cmp_ne (a := 0) (b := 0) (by omega) (by omega) c_123
                    exact absurd n_123 (by decide)
                  · skip
                    have n_123 : 0 = 0 := cmp_eq (a := 0) (b := 0) (by omega) (by omega) c_123
                    refine J_aload_n E dX6_copy_126 rfl 1 rfl ?_
                    refine J_iconst E dX6_copy_127 ic_0 ?_
                    refine J_cVi0 E (As := [.int 0]) (c_X6_finds l G b y 0 (by omega)) cl_X6_96 yo_X6_finds dX6_copy_128 rfl rfl rfl (Nat.le_of_ble_eq_true rfl) (Nat.le_of_ble_eq_true rfl) rfl (Nat.le_of_ble_eq_true rfl) ⟨Nat.zero_le _, Nat.zero_le _⟩ ?_
                    exact ret _ _ _ _ ⟨rfl, _, rfl, by intro g h2 h5 h6; by_cases h0 : g = 0 <;> simp [tellX, upG, up3, up3R, up2, h0, h2, h5, h6]⟩ rfl dX6_copy_131
                · skip
                  refine J_iload E dX6_copy_74 4 rfl ?_
                  refine J_if_lt E (tgt := 118) dX6_copy_76 (by decide) (fun c_76 => ?_) (fun c_76 => ?_)
                  · skip
                    refine J_iconst E dX6_copy_118 ic_0 ?_
                    refine J_istore E (lv' := [(6, .int 0), (0, .ref (b 0)), (1, .int (nI 1)), (2, .int f), (3, .int (nI 1)), (4, .int o), (5, .int n)]) dX6_copy_119 (by decide) rfl ?_
                    refine J_iload E dX6_copy_121 0 rfl ?_
                    refine J_if_ne E (tgt := 132) dX6_copy_123 (by decide) (fun c_123 => ?_) (fun c_123 => ?_)
                    · skip
                      have n_123 : ¬ 0 = 0 := cmp_ne (a := 0) (b := 0) (by omega) (by omega) c_123
                      exact absurd n_123 (by decide)
                    · skip
                      have n_123 : 0 = 0 := cmp_eq (a := 0) (b := 0) (by omega) (by omega) c_123
                      refine J_aload_n E dX6_copy_126 rfl 1 rfl ?_
                      refine J_iconst E dX6_copy_127 ic_0 ?_
                      refine J_cVi0 E (As := [.int 0]) (c_X6_finds l G b y 0 (by omega)) cl_X6_96 yo_X6_finds dX6_copy_128 rfl rfl rfl (Nat.le_of_ble_eq_true rfl) (Nat.le_of_ble_eq_true rfl) rfl (Nat.le_of_ble_eq_true rfl) ⟨Nat.zero_le _, Nat.zero_le _⟩ ?_
                      exact ret _ _ _ _ ⟨rfl, _, rfl, by intro g h2 h5 h6; by_cases h0 : g = 0 <;> simp [tellX, upG, up3, up3R, up2, h0, h2, h5, h6]⟩ rfl dX6_copy_131
                  · skip
                    refine J_iload_n E dX6_copy_79 rfl 2 rfl ?_
                    refine J_i2l E dX6_copy_80 rfl ?_
                    refine J_iload E dX6_copy_81 5 rfl ?_
                    refine J_i2l E dX6_copy_83 rfl ?_
                    refine J_ladd E dX6_copy_84 ?_
                    refine J_aload_n E dX6_copy_85 rfl 0 rfl ?_
                    refine gM0_X6_34 E dX6_copy_86 ?_
                    refine J_iload_n E dX6_copy_89 rfl 1 rfl ?_
                    refine lMz_1 E  dX6_copy_90 ?_
                    refine J_i2l E dX6_copy_91 rfl ?_
                    refine J_lcmp E dX6_copy_92 ?_
                    refine J_if_gt E (tgt := 118) dX6_copy_93 (by decide) (fun c_93 => ?_) (fun c_93 => ?_)
                    · skip
                      refine J_iconst E dX6_copy_118 ic_0 ?_
                      refine J_istore E (lv' := [(6, .int 0), (0, .ref (b 0)), (1, .int (nI 1)), (2, .int f), (3, .int (nI 1)), (4, .int o), (5, .int n)]) dX6_copy_119 (by decide) rfl ?_
                      refine J_iload E dX6_copy_121 0 rfl ?_
                      refine J_if_ne E (tgt := 132) dX6_copy_123 (by decide) (fun c_123 => ?_) (fun c_123 => ?_)
                      · skip
                        have n_123 : ¬ 0 = 0 := cmp_ne (a := 0) (b := 0) (by omega) (by omega) c_123
                        exact absurd n_123 (by decide)
                      · skip
                        have n_123 : 0 = 0 := cmp_eq (a := 0) (b := 0) (by omega) (by omega) c_123
                        refine J_aload_n E dX6_copy_126 rfl 1 rfl ?_
                        refine J_iconst E dX6_copy_127 ic_0 ?_
                        refine J_cVi0 E (As := [.int 0]) (c_X6_finds l G b y 0 (by omega)) cl_X6_96 yo_X6_finds dX6_copy_128 rfl rfl rfl (Nat.le_of_ble_eq_true rfl) (Nat.le_of_ble_eq_true rfl) rfl (Nat.le_of_ble_eq_true rfl) ⟨Nat.zero_le _, Nat.zero_le _⟩ ?_
                        exact ret _ _ _ _ ⟨rfl, _, rfl, by intro g h2 h5 h6; by_cases h0 : g = 0 <;> simp [tellX, upG, up3, up3R, up2, h0, h2, h5, h6]⟩ rfl dX6_copy_131
                    · skip
                      refine J_iload E dX6_copy_96 4 rfl ?_
                      refine J_i2l E dX6_copy_98 rfl ?_
                      refine J_iload E dX6_copy_99 5 rfl ?_
                      refine J_i2l E dX6_copy_101 rfl ?_
                      refine J_ladd E dX6_copy_102 ?_
                      refine J_aload_n E dX6_copy_103 rfl 0 rfl ?_
                      refine gM0_X6_34 E dX6_copy_104 ?_
                      refine J_iload_n E dX6_copy_107 rfl 3 rfl ?_
                      refine lMz_1 E  dX6_copy_108 ?_
                      refine J_i2l E dX6_copy_109 rfl ?_
                      refine J_lcmp E dX6_copy_110 ?_
                      refine J_if_gt E (tgt := 118) dX6_copy_111 (by decide) (fun c_111 => ?_) (fun c_111 => ?_)
                      · skip
                        refine J_iconst E dX6_copy_118 ic_0 ?_
                        refine J_istore E (lv' := [(6, .int 0), (0, .ref (b 0)), (1, .int (nI 1)), (2, .int f), (3, .int (nI 1)), (4, .int o), (5, .int n)]) dX6_copy_119 (by decide) rfl ?_
                        refine J_iload E dX6_copy_121 0 rfl ?_
                        refine J_if_ne E (tgt := 132) dX6_copy_123 (by decide) (fun c_123 => ?_) (fun c_123 => ?_)
                        · skip
                          have n_123 : ¬ 0 = 0 := cmp_ne (a := 0) (b := 0) (by omega) (by omega) c_123
                          exact absurd n_123 (by decide)
                        · skip
                          have n_123 : 0 = 0 := cmp_eq (a := 0) (b := 0) (by omega) (by omega) c_123
                          refine J_aload_n E dX6_copy_126 rfl 1 rfl ?_
                          refine J_iconst E dX6_copy_127 ic_0 ?_
                          refine J_cVi0 E (As := [.int 0]) (c_X6_finds l G b y 0 (by omega)) cl_X6_96 yo_X6_finds dX6_copy_128 rfl rfl rfl (Nat.le_of_ble_eq_true rfl) (Nat.le_of_ble_eq_true rfl) rfl (Nat.le_of_ble_eq_true rfl) ⟨Nat.zero_le _, Nat.zero_le _⟩ ?_
                          exact ret _ _ _ _ ⟨rfl, _, rfl, by intro g h2 h5 h6; by_cases h0 : g = 0 <;> simp [tellX, upG, up3, up3R, up2, h0, h2, h5, h6]⟩ rfl dX6_copy_131
                      · skip
                        exact absurd ⟨runT h5 hn1 (c_71) (c_67) (Int32.not_lt.mp c_93), runT h7 hn2 (c_76) (c_67) (Int32.not_lt.mp c_111)⟩ hb
            · skip
              exact absurd h3 c_56
          · skip
            exact absurd c_35 h2
      · skip
        have c_11 := bI_0 c_11
        exact absurd (in3 (by decide)) c_11
  · skip
    refine J_iload_n E dX6_copy_0 rfl 1 rfl ?_
    refine J_cSiN E (As := [.int (nI 1)]) (c_X6_isSheet l G (nI 1) ) cl_X6_303 yo_X6_isSheet dX6_copy_1 rfl (Nat.le_of_ble_eq_true rfl) (Nat.le_of_ble_eq_true rfl) rfl (Nat.le_of_ble_eq_true rfl) ⟨Nat.zero_le _, Nat.zero_le _⟩ ?_
    refine J_if_eq E (tgt := 14) dX6_copy_4 (by decide) (fun c_4 => ?_) (fun c_4 => ?_)
    · skip
      have c_4 := bI_0 c_4
      exact absurd (in3 (by decide)) c_4
    · skip
      have c_4 := bI_1 c_4
      refine J_iload_n E dX6_copy_7 rfl 3 rfl ?_
      refine J_cSiN E (As := [.int (nI 2)]) (c_X6_isSheet l G (nI 2) ) cl_X6_303 yo_X6_isSheet dX6_copy_8 rfl (Nat.le_of_ble_eq_true rfl) (Nat.le_of_ble_eq_true rfl) rfl (Nat.le_of_ble_eq_true rfl) ⟨Nat.zero_le _, Nat.zero_le _⟩ ?_
      refine J_if_ne E (tgt := 20) dX6_copy_11 (by decide) (fun c_11 => ?_) (fun c_11 => ?_)
      · skip
        have c_11 := bI_1 c_11
        refine J_aload_n E dX6_copy_20 rfl 0 rfl ?_
        refine gM0_X6_31 E dX6_copy_21 ?_
        refine J_iload_n E dX6_copy_24 rfl 1 rfl ?_
        refine lMb_1 E  dX6_copy_25 ?_
        refine J_if_eq E (tgt := 38) dX6_copy_26 (by decide) (fun c_26 => ?_) (fun c_26 => ?_)
        · skip
          exact absurd c_26 h1
        · skip
          refine J_aload_n E dX6_copy_29 rfl 0 rfl ?_
          refine gM0_X6_31 E dX6_copy_30 ?_
          refine J_iload_n E dX6_copy_33 rfl 3 rfl ?_
          refine lMb_2 E  dX6_copy_34 ?_
          refine J_if_ne E (tgt := 44) dX6_copy_35 (by decide) (fun c_35 => ?_) (fun c_35 => ?_)
          · skip
            refine J_aload_n E dX6_copy_44 rfl 0 rfl ?_
            refine gM0_X6_31 E dX6_copy_45 ?_
            refine J_iload_n E dX6_copy_48 rfl 1 rfl ?_
            refine lMb_1 E  dX6_copy_49 ?_
            refine J_aload_n E dX6_copy_50 rfl 0 rfl ?_
            refine gM0_X6_31 E dX6_copy_51 ?_
            refine J_iload_n E dX6_copy_54 rfl 3 rfl ?_
            refine lMb_2 E  dX6_copy_55 ?_
            refine J_icmp_eq E (tgt := 65) dX6_copy_56 (by decide) (fun c_56 => ?_) (fun c_56 => ?_)
            · skip
              refine J_iload E dX6_copy_65 5 rfl ?_
              refine J_if_lt E (tgt := 118) dX6_copy_67 (by decide) (fun c_67 => ?_) (fun c_67 => ?_)
              · skip
                refine J_iconst E dX6_copy_118 ic_0 ?_
                refine J_istore E (lv' := [(6, .int 0), (0, .ref (b 0)), (1, .int (nI 1)), (2, .int f), (3, .int (nI 2)), (4, .int o), (5, .int n)]) dX6_copy_119 (by decide) rfl ?_
                refine J_iload E dX6_copy_121 0 rfl ?_
                refine J_if_ne E (tgt := 132) dX6_copy_123 (by decide) (fun c_123 => ?_) (fun c_123 => ?_)
                · skip
                  have n_123 : ¬ 0 = 0 := cmp_ne (a := 0) (b := 0) (by omega) (by omega) c_123
                  exact absurd n_123 (by decide)
                · skip
                  have n_123 : 0 = 0 := cmp_eq (a := 0) (b := 0) (by omega) (by omega) c_123
                  refine J_aload_n E dX6_copy_126 rfl 1 rfl ?_
                  refine J_iconst E dX6_copy_127 ic_0 ?_
                  refine J_cVi0 E (As := [.int 0]) (c_X6_finds l G b y 0 (by omega)) cl_X6_96 yo_X6_finds dX6_copy_128 rfl rfl rfl (Nat.le_of_ble_eq_true rfl) (Nat.le_of_ble_eq_true rfl) rfl (Nat.le_of_ble_eq_true rfl) ⟨Nat.zero_le _, Nat.zero_le _⟩ ?_
                  exact ret _ _ _ _ ⟨rfl, _, rfl, by intro g h2 h5 h6; by_cases h0 : g = 0 <;> simp [tellX, upG, up3, up3R, up2, h0, h2, h5, h6]⟩ rfl dX6_copy_131
              · skip
                refine J_iload_n E dX6_copy_70 rfl 2 rfl ?_
                refine J_if_lt E (tgt := 118) dX6_copy_71 (by decide) (fun c_71 => ?_) (fun c_71 => ?_)
                · skip
                  refine J_iconst E dX6_copy_118 ic_0 ?_
                  refine J_istore E (lv' := [(6, .int 0), (0, .ref (b 0)), (1, .int (nI 1)), (2, .int f), (3, .int (nI 2)), (4, .int o), (5, .int n)]) dX6_copy_119 (by decide) rfl ?_
                  refine J_iload E dX6_copy_121 0 rfl ?_
                  refine J_if_ne E (tgt := 132) dX6_copy_123 (by decide) (fun c_123 => ?_) (fun c_123 => ?_)
                  · skip
                    have n_123 : ¬ 0 = 0 := cmp_ne (a := 0) (b := 0) (by omega) (by omega) c_123
                    exact absurd n_123 (by decide)
                  · skip
                    have n_123 : 0 = 0 := cmp_eq (a := 0) (b := 0) (by omega) (by omega) c_123
                    refine J_aload_n E dX6_copy_126 rfl 1 rfl ?_
                    refine J_iconst E dX6_copy_127 ic_0 ?_
                    refine J_cVi0 E (As := [.int 0]) (c_X6_finds l G b y 0 (by omega)) cl_X6_96 yo_X6_finds dX6_copy_128 rfl rfl rfl (Nat.le_of_ble_eq_true rfl) (Nat.le_of_ble_eq_true rfl) rfl (Nat.le_of_ble_eq_true rfl) ⟨Nat.zero_le _, Nat.zero_le _⟩ ?_
                    exact ret _ _ _ _ ⟨rfl, _, rfl, by intro g h2 h5 h6; by_cases h0 : g = 0 <;> simp [tellX, upG, up3, up3R, up2, h0, h2, h5, h6]⟩ rfl dX6_copy_131
                · skip
                  refine J_iload E dX6_copy_74 4 rfl ?_
                  refine J_if_lt E (tgt := 118) dX6_copy_76 (by decide) (fun c_76 => ?_) (fun c_76 => ?_)
                  · skip
                    refine J_iconst E dX6_copy_118 ic_0 ?_
                    refine J_istore E (lv' := [(6, .int 0), (0, .ref (b 0)), (1, .int (nI 1)), (2, .int f), (3, .int (nI 2)), (4, .int o), (5, .int n)]) dX6_copy_119 (by decide) rfl ?_
                    refine J_iload E dX6_copy_121 0 rfl ?_
                    refine J_if_ne E (tgt := 132) dX6_copy_123 (by decide) (fun c_123 => ?_) (fun c_123 => ?_)
                    · skip
                      have n_123 : ¬ 0 = 0 := cmp_ne (a := 0) (b := 0) (by omega) (by omega) c_123
                      exact absurd n_123 (by decide)
                    · skip
                      have n_123 : 0 = 0 := cmp_eq (a := 0) (b := 0) (by omega) (by omega) c_123
                      refine J_aload_n E dX6_copy_126 rfl 1 rfl ?_
                      refine J_iconst E dX6_copy_127 ic_0 ?_
                      refine J_cVi0 E (As := [.int 0]) (c_X6_finds l G b y 0 (by omega)) cl_X6_96 yo_X6_finds dX6_copy_128 rfl rfl rfl (Nat.le_of_ble_eq_true rfl) (Nat.le_of_ble_eq_true rfl) rfl (Nat.le_of_ble_eq_true rfl) ⟨Nat.zero_le _, Nat.zero_le _⟩ ?_
                      exact ret _ _ _ _ ⟨rfl, _, rfl, by intro g h2 h5 h6; by_cases h0 : g = 0 <;> simp [tellX, upG, up3, up3R, up2, h0, h2, h5, h6]⟩ rfl dX6_copy_131
                  · skip
                    refine J_iload_n E dX6_copy_79 rfl 2 rfl ?_
                    refine J_i2l E dX6_copy_80 rfl ?_
                    refine J_iload E dX6_copy_81 5 rfl ?_
                    refine J_i2l E dX6_copy_83 rfl ?_
                    refine J_ladd E dX6_copy_84 ?_
                    refine J_aload_n E dX6_copy_85 rfl 0 rfl ?_
                    refine gM0_X6_34 E dX6_copy_86 ?_
                    refine J_iload_n E dX6_copy_89 rfl 1 rfl ?_
                    refine lMz_1 E  dX6_copy_90 ?_
                    refine J_i2l E dX6_copy_91 rfl ?_
                    refine J_lcmp E dX6_copy_92 ?_
                    refine J_if_gt E (tgt := 118) dX6_copy_93 (by decide) (fun c_93 => ?_) (fun c_93 => ?_)
                    · skip
                      refine J_iconst E dX6_copy_118 ic_0 ?_
                      refine J_istore E (lv' := [(6, .int 0), (0, .ref (b 0)), (1, .int (nI 1)), (2, .int f), (3, .int (nI 2)), (4, .int o), (5, .int n)]) dX6_copy_119 (by decide) rfl ?_
                      refine J_iload E dX6_copy_121 0 rfl ?_
                      refine J_if_ne E (tgt := 132) dX6_copy_123 (by decide) (fun c_123 => ?_) (fun c_123 => ?_)
                      · skip
                        have n_123 : ¬ 0 = 0 := cmp_ne (a := 0) (b := 0) (by omega) (by omega) c_123
                        exact absurd n_123 (by decide)
                      · skip
                        have n_123 : 0 = 0 := cmp_eq (a := 0) (b := 0) (by omega) (by omega) c_123
                        refine J_aload_n E dX6_copy_126 rfl 1 rfl ?_
                        refine J_iconst E dX6_copy_127 ic_0 ?_
                        refine J_cVi0 E (As := [.int 0]) (c_X6_finds l G b y 0 (by omega)) cl_X6_96 yo_X6_finds dX6_copy_128 rfl rfl rfl (Nat.le_of_ble_eq_true rfl) (Nat.le_of_ble_eq_true rfl) rfl (Nat.le_of_ble_eq_true rfl) ⟨Nat.zero_le _, Nat.zero_le _⟩ ?_
                        exact ret _ _ _ _ ⟨rfl, _, rfl, by intro g h2 h5 h6; by_cases h0 : g = 0 <;> simp [tellX, upG, up3, up3R, up2, h0, h2, h5, h6]⟩ rfl dX6_copy_131
                    · skip
                      refine J_iload E dX6_copy_96 4 rfl ?_
                      refine J_i2l E dX6_copy_98 rfl ?_
                      refine J_iload E dX6_copy_99 5 rfl ?_
                      refine J_i2l E dX6_copy_101 rfl ?_
                      refine J_ladd E dX6_copy_102 ?_
                      refine J_aload_n E dX6_copy_103 rfl 0 rfl ?_
                      refine gM0_X6_34 E dX6_copy_104 ?_
                      refine J_iload_n E dX6_copy_107 rfl 3 rfl ?_
                      refine lMz_2 E  dX6_copy_108 ?_
                      refine J_i2l E dX6_copy_109 rfl ?_
                      refine J_lcmp E dX6_copy_110 ?_
                      refine J_if_gt E (tgt := 118) dX6_copy_111 (by decide) (fun c_111 => ?_) (fun c_111 => ?_)
                      · skip
                        refine J_iconst E dX6_copy_118 ic_0 ?_
                        refine J_istore E (lv' := [(6, .int 0), (0, .ref (b 0)), (1, .int (nI 1)), (2, .int f), (3, .int (nI 2)), (4, .int o), (5, .int n)]) dX6_copy_119 (by decide) rfl ?_
                        refine J_iload E dX6_copy_121 0 rfl ?_
                        refine J_if_ne E (tgt := 132) dX6_copy_123 (by decide) (fun c_123 => ?_) (fun c_123 => ?_)
                        · skip
                          have n_123 : ¬ 0 = 0 := cmp_ne (a := 0) (b := 0) (by omega) (by omega) c_123
                          exact absurd n_123 (by decide)
                        · skip
                          have n_123 : 0 = 0 := cmp_eq (a := 0) (b := 0) (by omega) (by omega) c_123
                          refine J_aload_n E dX6_copy_126 rfl 1 rfl ?_
                          refine J_iconst E dX6_copy_127 ic_0 ?_
                          refine J_cVi0 E (As := [.int 0]) (c_X6_finds l G b y 0 (by omega)) cl_X6_96 yo_X6_finds dX6_copy_128 rfl rfl rfl (Nat.le_of_ble_eq_true rfl) (Nat.le_of_ble_eq_true rfl) rfl (Nat.le_of_ble_eq_true rfl) ⟨Nat.zero_le _, Nat.zero_le _⟩ ?_
                          exact ret _ _ _ _ ⟨rfl, _, rfl, by intro g h2 h5 h6; by_cases h0 : g = 0 <;> simp [tellX, upG, up3, up3R, up2, h0, h2, h5, h6]⟩ rfl dX6_copy_131
                      · skip
                        exact absurd ⟨runT h5 hn1 (c_71) (c_67) (Int32.not_lt.mp c_93), runT h7 hn2 (c_76) (c_67) (Int32.not_lt.mp c_111)⟩ hb
            · skip
              exact absurd h3 c_56
          · skip
            exact absurd c_35 h2
      · skip
        have c_11 := bI_0 c_11
        exact absurd (in3 (by decide)) c_11
  · skip
    refine J_iload_n E dX6_copy_0 rfl 1 rfl ?_
    refine J_cSiN E (As := [.int (nI 1)]) (c_X6_isSheet l G (nI 1) ) cl_X6_303 yo_X6_isSheet dX6_copy_1 rfl (Nat.le_of_ble_eq_true rfl) (Nat.le_of_ble_eq_true rfl) rfl (Nat.le_of_ble_eq_true rfl) ⟨Nat.zero_le _, Nat.zero_le _⟩ ?_
    refine J_if_eq E (tgt := 14) dX6_copy_4 (by decide) (fun c_4 => ?_) (fun c_4 => ?_)
    · skip
      have c_4 := bI_0 c_4
      exact absurd (in3 (by decide)) c_4
    · skip
      have c_4 := bI_1 c_4
      refine J_iload_n E dX6_copy_7 rfl 3 rfl ?_
      refine J_cSiN E (As := [.int (nI 3)]) (c_X6_isSheet l G (nI 3) ) cl_X6_303 yo_X6_isSheet dX6_copy_8 rfl (Nat.le_of_ble_eq_true rfl) (Nat.le_of_ble_eq_true rfl) rfl (Nat.le_of_ble_eq_true rfl) ⟨Nat.zero_le _, Nat.zero_le _⟩ ?_
      refine J_if_ne E (tgt := 20) dX6_copy_11 (by decide) (fun c_11 => ?_) (fun c_11 => ?_)
      · skip
        have c_11 := bI_1 c_11
        refine J_aload_n E dX6_copy_20 rfl 0 rfl ?_
        refine gM0_X6_31 E dX6_copy_21 ?_
        refine J_iload_n E dX6_copy_24 rfl 1 rfl ?_
        refine lMb_1 E  dX6_copy_25 ?_
        refine J_if_eq E (tgt := 38) dX6_copy_26 (by decide) (fun c_26 => ?_) (fun c_26 => ?_)
        · skip
          exact absurd c_26 h1
        · skip
          refine J_aload_n E dX6_copy_29 rfl 0 rfl ?_
          refine gM0_X6_31 E dX6_copy_30 ?_
          refine J_iload_n E dX6_copy_33 rfl 3 rfl ?_
          refine lMb_3 E  dX6_copy_34 ?_
          refine J_if_ne E (tgt := 44) dX6_copy_35 (by decide) (fun c_35 => ?_) (fun c_35 => ?_)
          · skip
            refine J_aload_n E dX6_copy_44 rfl 0 rfl ?_
            refine gM0_X6_31 E dX6_copy_45 ?_
            refine J_iload_n E dX6_copy_48 rfl 1 rfl ?_
            refine lMb_1 E  dX6_copy_49 ?_
            refine J_aload_n E dX6_copy_50 rfl 0 rfl ?_
            refine gM0_X6_31 E dX6_copy_51 ?_
            refine J_iload_n E dX6_copy_54 rfl 3 rfl ?_
            refine lMb_3 E  dX6_copy_55 ?_
            refine J_icmp_eq E (tgt := 65) dX6_copy_56 (by decide) (fun c_56 => ?_) (fun c_56 => ?_)
            · skip
              refine J_iload E dX6_copy_65 5 rfl ?_
              refine J_if_lt E (tgt := 118) dX6_copy_67 (by decide) (fun c_67 => ?_) (fun c_67 => ?_)
              · skip
                refine J_iconst E dX6_copy_118 ic_0 ?_
                refine J_istore E (lv' := [(6, .int 0), (0, .ref (b 0)), (1, .int (nI 1)), (2, .int f), (3, .int (nI 3)), (4, .int o), (5, .int n)]) dX6_copy_119 (by decide) rfl ?_
                refine J_iload E dX6_copy_121 0 rfl ?_
                refine J_if_ne E (tgt := 132) dX6_copy_123 (by decide) (fun c_123 => ?_) (fun c_123 => ?_)
                · skip
                  have n_123 : ¬ 0 = 0 := cmp_ne (a := 0) (b := 0) (by omega) (by omega) c_123
                  exact absurd n_123 (by decide)
                · skip
                  have n_123 : 0 = 0 := cmp_eq (a := 0) (b := 0) (by omega) (by omega) c_123
                  refine J_aload_n E dX6_copy_126 rfl 1 rfl ?_
                  refine J_iconst E dX6_copy_127 ic_0 ?_
                  refine J_cVi0 E (As := [.int 0]) (c_X6_finds l G b y 0 (by omega)) cl_X6_96 yo_X6_finds dX6_copy_128 rfl rfl rfl (Nat.le_of_ble_eq_true rfl) (Nat.le_of_ble_eq_true rfl) rfl (Nat.le_of_ble_eq_true rfl) ⟨Nat.zero_le _, Nat.zero_le _⟩ ?_
                  exact ret _ _ _ _ ⟨rfl, _, rfl, by intro g h2 h5 h6; by_cases h0 : g = 0 <;> simp [tellX, upG, up3, up3R, up2, h0, h2, h5, h6]⟩ rfl dX6_copy_131
              · skip
                refine J_iload_n E dX6_copy_70 rfl 2 rfl ?_
                refine J_if_lt E (tgt := 118) dX6_copy_71 (by decide) (fun c_71 => ?_) (fun c_71 => ?_)
                · skip
                  refine J_iconst E dX6_copy_118 ic_0 ?_
                  refine J_istore E (lv' := [(6, .int 0), (0, .ref (b 0)), (1, .int (nI 1)), (2, .int f), (3, .int (nI 3)), (4, .int o), (5, .int n)]) dX6_copy_119 (by decide) rfl ?_
                  refine J_iload E dX6_copy_121 0 rfl ?_
                  refine J_if_ne E (tgt := 132) dX6_copy_123 (by decide) (fun c_123 => ?_) (fun c_123 => ?_)
                  · skip
                    have n_123 : ¬ 0 = 0 := cmp_ne (a := 0) (b := 0) (by omega) (by omega) c_123
                    exact absurd n_123 (by decide)
                  · skip
                    have n_123 : 0 = 0 := cmp_eq (a := 0) (b := 0) (by omega) (by omega) c_123
                    refine J_aload_n E dX6_copy_126 rfl 1 rfl ?_
                    refine J_iconst E dX6_copy_127 ic_0 ?_
                    refine J_cVi0 E (As := [.int 0]) (c_X6_finds l G b y 0 (by omega)) cl_X6_96 yo_X6_finds dX6_copy_128 rfl rfl rfl (Nat.le_of_ble_eq_true rfl) (Nat.le_of_ble_eq_true rfl) rfl (Nat.le_of_ble_eq_true rfl) ⟨Nat.zero_le _, Nat.zero_le _⟩ ?_
                    exact ret _ _ _ _ ⟨rfl, _, rfl, by intro g h2 h5 h6; by_cases h0 : g = 0 <;> simp [tellX, upG, up3, up3R, up2, h0, h2, h5, h6]⟩ rfl dX6_copy_131
                · skip
                  refine J_iload E dX6_copy_74 4 rfl ?_
                  refine J_if_lt E (tgt := 118) dX6_copy_76 (by decide) (fun c_76 => ?_) (fun c_76 => ?_)
                  · skip
                    refine J_iconst E dX6_copy_118 ic_0 ?_
                    refine J_istore E (lv' := [(6, .int 0), (0, .ref (b 0)), (1, .int (nI 1)), (2, .int f), (3, .int (nI 3)), (4, .int o), (5, .int n)]) dX6_copy_119 (by decide) rfl ?_
                    refine J_iload E dX6_copy_121 0 rfl ?_
                    refine J_if_ne E (tgt := 132) dX6_copy_123 (by decide) (fun c_123 => ?_) (fun c_123 => ?_)
                    · skip
                      have n_123 : ¬ 0 = 0 := cmp_ne (a := 0) (b := 0) (by omega) (by omega) c_123
                      exact absurd n_123 (by decide)
                    · skip
                      have n_123 : 0 = 0 := cmp_eq (a := 0) (b := 0) (by omega) (by omega) c_123
                      refine J_aload_n E dX6_copy_126 rfl 1 rfl ?_
                      refine J_iconst E dX6_copy_127 ic_0 ?_
                      refine J_cVi0 E (As := [.int 0]) (c_X6_finds l G b y 0 (by omega)) cl_X6_96 yo_X6_finds dX6_copy_128 rfl rfl rfl (Nat.le_of_ble_eq_true rfl) (Nat.le_of_ble_eq_true rfl) rfl (Nat.le_of_ble_eq_true rfl) ⟨Nat.zero_le _, Nat.zero_le _⟩ ?_
                      exact ret _ _ _ _ ⟨rfl, _, rfl, by intro g h2 h5 h6; by_cases h0 : g = 0 <;> simp [tellX, upG, up3, up3R, up2, h0, h2, h5, h6]⟩ rfl dX6_copy_131
                  · skip
                    refine J_iload_n E dX6_copy_79 rfl 2 rfl ?_
                    refine J_i2l E dX6_copy_80 rfl ?_
                    refine J_iload E dX6_copy_81 5 rfl ?_
                    refine J_i2l E dX6_copy_83 rfl ?_
                    refine J_ladd E dX6_copy_84 ?_
                    refine J_aload_n E dX6_copy_85 rfl 0 rfl ?_
                    refine gM0_X6_34 E dX6_copy_86 ?_
                    refine J_iload_n E dX6_copy_89 rfl 1 rfl ?_
                    refine lMz_1 E  dX6_copy_90 ?_
                    refine J_i2l E dX6_copy_91 rfl ?_
                    refine J_lcmp E dX6_copy_92 ?_
                    refine J_if_gt E (tgt := 118) dX6_copy_93 (by decide) (fun c_93 => ?_) (fun c_93 => ?_)
                    · skip
                      refine J_iconst E dX6_copy_118 ic_0 ?_
                      refine J_istore E (lv' := [(6, .int 0), (0, .ref (b 0)), (1, .int (nI 1)), (2, .int f), (3, .int (nI 3)), (4, .int o), (5, .int n)]) dX6_copy_119 (by decide) rfl ?_
                      refine J_iload E dX6_copy_121 0 rfl ?_
                      refine J_if_ne E (tgt := 132) dX6_copy_123 (by decide) (fun c_123 => ?_) (fun c_123 => ?_)
                      · skip
                        have n_123 : ¬ 0 = 0 := cmp_ne (a := 0) (b := 0) (by omega) (by omega) c_123
                        exact absurd n_123 (by decide)
                      · skip
                        have n_123 : 0 = 0 := cmp_eq (a := 0) (b := 0) (by omega) (by omega) c_123
                        refine J_aload_n E dX6_copy_126 rfl 1 rfl ?_
                        refine J_iconst E dX6_copy_127 ic_0 ?_
                        refine J_cVi0 E (As := [.int 0]) (c_X6_finds l G b y 0 (by omega)) cl_X6_96 yo_X6_finds dX6_copy_128 rfl rfl rfl (Nat.le_of_ble_eq_true rfl) (Nat.le_of_ble_eq_true rfl) rfl (Nat.le_of_ble_eq_true rfl) ⟨Nat.zero_le _, Nat.zero_le _⟩ ?_
                        exact ret _ _ _ _ ⟨rfl, _, rfl, by intro g h2 h5 h6; by_cases h0 : g = 0 <;> simp [tellX, upG, up3, up3R, up2, h0, h2, h5, h6]⟩ rfl dX6_copy_131
                    · skip
                      refine J_iload E dX6_copy_96 4 rfl ?_
                      refine J_i2l E dX6_copy_98 rfl ?_
                      refine J_iload E dX6_copy_99 5 rfl ?_
                      refine J_i2l E dX6_copy_101 rfl ?_
                      refine J_ladd E dX6_copy_102 ?_
                      refine J_aload_n E dX6_copy_103 rfl 0 rfl ?_
                      refine gM0_X6_34 E dX6_copy_104 ?_
                      refine J_iload_n E dX6_copy_107 rfl 3 rfl ?_
                      refine lMz_3 E  dX6_copy_108 ?_
                      refine J_i2l E dX6_copy_109 rfl ?_
                      refine J_lcmp E dX6_copy_110 ?_
                      refine J_if_gt E (tgt := 118) dX6_copy_111 (by decide) (fun c_111 => ?_) (fun c_111 => ?_)
                      · skip
                        refine J_iconst E dX6_copy_118 ic_0 ?_
                        refine J_istore E (lv' := [(6, .int 0), (0, .ref (b 0)), (1, .int (nI 1)), (2, .int f), (3, .int (nI 3)), (4, .int o), (5, .int n)]) dX6_copy_119 (by decide) rfl ?_
                        refine J_iload E dX6_copy_121 0 rfl ?_
                        refine J_if_ne E (tgt := 132) dX6_copy_123 (by decide) (fun c_123 => ?_) (fun c_123 => ?_)
                        · skip
                          have n_123 : ¬ 0 = 0 := cmp_ne (a := 0) (b := 0) (by omega) (by omega) c_123
                          exact absurd n_123 (by decide)
                        · skip
                          have n_123 : 0 = 0 := cmp_eq (a := 0) (b := 0) (by omega) (by omega) c_123
                          refine J_aload_n E dX6_copy_126 rfl 1 rfl ?_
                          refine J_iconst E dX6_copy_127 ic_0 ?_
                          refine J_cVi0 E (As := [.int 0]) (c_X6_finds l G b y 0 (by omega)) cl_X6_96 yo_X6_finds dX6_copy_128 rfl rfl rfl (Nat.le_of_ble_eq_true rfl) (Nat.le_of_ble_eq_true rfl) rfl (Nat.le_of_ble_eq_true rfl) ⟨Nat.zero_le _, Nat.zero_le _⟩ ?_
                          exact ret _ _ _ _ ⟨rfl, _, rfl, by intro g h2 h5 h6; by_cases h0 : g = 0 <;> simp [tellX, upG, up3, up3R, up2, h0, h2, h5, h6]⟩ rfl dX6_copy_131
                      · skip
                        exact absurd ⟨runT h5 hn1 (c_71) (c_67) (Int32.not_lt.mp c_93), runT h7 hn2 (c_76) (c_67) (Int32.not_lt.mp c_111)⟩ hb
            · skip
              exact absurd h3 c_56
          · skip
            exact absurd c_35 h2
      · skip
        have c_11 := bI_0 c_11
        exact absurd (in3 (by decide)) c_11
  · skip
    refine J_iload_n E dX6_copy_0 rfl 1 rfl ?_
    refine J_cSiN E (As := [.int (nI 2)]) (c_X6_isSheet l G (nI 2) ) cl_X6_303 yo_X6_isSheet dX6_copy_1 rfl (Nat.le_of_ble_eq_true rfl) (Nat.le_of_ble_eq_true rfl) rfl (Nat.le_of_ble_eq_true rfl) ⟨Nat.zero_le _, Nat.zero_le _⟩ ?_
    refine J_if_eq E (tgt := 14) dX6_copy_4 (by decide) (fun c_4 => ?_) (fun c_4 => ?_)
    · skip
      have c_4 := bI_0 c_4
      exact absurd (in3 (by decide)) c_4
    · skip
      have c_4 := bI_1 c_4
      refine J_iload_n E dX6_copy_7 rfl 3 rfl ?_
      refine J_cSiN E (As := [.int (nI 0)]) (c_X6_isSheet l G (nI 0) ) cl_X6_303 yo_X6_isSheet dX6_copy_8 rfl (Nat.le_of_ble_eq_true rfl) (Nat.le_of_ble_eq_true rfl) rfl (Nat.le_of_ble_eq_true rfl) ⟨Nat.zero_le _, Nat.zero_le _⟩ ?_
      refine J_if_ne E (tgt := 20) dX6_copy_11 (by decide) (fun c_11 => ?_) (fun c_11 => ?_)
      · skip
        have c_11 := bI_1 c_11
        refine J_aload_n E dX6_copy_20 rfl 0 rfl ?_
        refine gM0_X6_31 E dX6_copy_21 ?_
        refine J_iload_n E dX6_copy_24 rfl 1 rfl ?_
        refine lMb_2 E  dX6_copy_25 ?_
        refine J_if_eq E (tgt := 38) dX6_copy_26 (by decide) (fun c_26 => ?_) (fun c_26 => ?_)
        · skip
          exact absurd c_26 h1
        · skip
          refine J_aload_n E dX6_copy_29 rfl 0 rfl ?_
          refine gM0_X6_31 E dX6_copy_30 ?_
          refine J_iload_n E dX6_copy_33 rfl 3 rfl ?_
          refine lMb_0 E  dX6_copy_34 ?_
          refine J_if_ne E (tgt := 44) dX6_copy_35 (by decide) (fun c_35 => ?_) (fun c_35 => ?_)
          · skip
            refine J_aload_n E dX6_copy_44 rfl 0 rfl ?_
            refine gM0_X6_31 E dX6_copy_45 ?_
            refine J_iload_n E dX6_copy_48 rfl 1 rfl ?_
            refine lMb_2 E  dX6_copy_49 ?_
            refine J_aload_n E dX6_copy_50 rfl 0 rfl ?_
            refine gM0_X6_31 E dX6_copy_51 ?_
            refine J_iload_n E dX6_copy_54 rfl 3 rfl ?_
            refine lMb_0 E  dX6_copy_55 ?_
            refine J_icmp_eq E (tgt := 65) dX6_copy_56 (by decide) (fun c_56 => ?_) (fun c_56 => ?_)
            · skip
              refine J_iload E dX6_copy_65 5 rfl ?_
              refine J_if_lt E (tgt := 118) dX6_copy_67 (by decide) (fun c_67 => ?_) (fun c_67 => ?_)
              · skip
                refine J_iconst E dX6_copy_118 ic_0 ?_
                refine J_istore E (lv' := [(6, .int 0), (0, .ref (b 0)), (1, .int (nI 2)), (2, .int f), (3, .int (nI 0)), (4, .int o), (5, .int n)]) dX6_copy_119 (by decide) rfl ?_
                refine J_iload E dX6_copy_121 0 rfl ?_
                refine J_if_ne E (tgt := 132) dX6_copy_123 (by decide) (fun c_123 => ?_) (fun c_123 => ?_)
                · skip
                  have n_123 : ¬ 0 = 0 := cmp_ne (a := 0) (b := 0) (by omega) (by omega) c_123
                  exact absurd n_123 (by decide)
                · skip
                  have n_123 : 0 = 0 := cmp_eq (a := 0) (b := 0) (by omega) (by omega) c_123
                  refine J_aload_n E dX6_copy_126 rfl 1 rfl ?_
                  refine J_iconst E dX6_copy_127 ic_0 ?_
                  refine J_cVi0 E (As := [.int 0]) (c_X6_finds l G b y 0 (by omega)) cl_X6_96 yo_X6_finds dX6_copy_128 rfl rfl rfl (Nat.le_of_ble_eq_true rfl) (Nat.le_of_ble_eq_true rfl) rfl (Nat.le_of_ble_eq_true rfl) ⟨Nat.zero_le _, Nat.zero_le _⟩ ?_
                  exact ret _ _ _ _ ⟨rfl, _, rfl, by intro g h2 h5 h6; by_cases h0 : g = 0 <;> simp [tellX, upG, up3, up3R, up2, h0, h2, h5, h6]⟩ rfl dX6_copy_131
              · skip
                refine J_iload_n E dX6_copy_70 rfl 2 rfl ?_
                refine J_if_lt E (tgt := 118) dX6_copy_71 (by decide) (fun c_71 => ?_) (fun c_71 => ?_)
                · skip
                  refine J_iconst E dX6_copy_118 ic_0 ?_
                  refine J_istore E (lv' := [(6, .int 0), (0, .ref (b 0)), (1, .int (nI 2)), (2, .int f), (3, .int (nI 0)), (4, .int o), (5, .int n)]) dX6_copy_119 (by decide) rfl ?_
                  refine J_iload E dX6_copy_121 0 rfl ?_
                  refine J_if_ne E (tgt := 132) dX6_copy_123 (by decide) (fun c_123 => ?_) (fun c_123 => ?_)
                  · skip
                    have n_123 : ¬ 0 = 0 := cmp_ne (a := 0) (b := 0) (by omega) (by omega) c_123
                    exact absurd n_123 (by decide)
                  · skip
                    have n_123 : 0 = 0 := cmp_eq (a := 0) (b := 0) (by omega) (by omega) c_123
                    refine J_aload_n E dX6_copy_126 rfl 1 rfl ?_
                    refine J_iconst E dX6_copy_127 ic_0 ?_
                    refine J_cVi0 E (As := [.int 0]) (c_X6_finds l G b y 0 (by omega)) cl_X6_96 yo_X6_finds dX6_copy_128 rfl rfl rfl (Nat.le_of_ble_eq_true rfl) (Nat.le_of_ble_eq_true rfl) rfl (Nat.le_of_ble_eq_true rfl) ⟨Nat.zero_le _, Nat.zero_le _⟩ ?_
                    exact ret _ _ _ _ ⟨rfl, _, rfl, by intro g h2 h5 h6; by_cases h0 : g = 0 <;> simp [tellX, upG, up3, up3R, up2, h0, h2, h5, h6]⟩ rfl dX6_copy_131
                · skip
                  refine J_iload E dX6_copy_74 4 rfl ?_
                  refine J_if_lt E (tgt := 118) dX6_copy_76 (by decide) (fun c_76 => ?_) (fun c_76 => ?_)
                  · skip
                    refine J_iconst E dX6_copy_118 ic_0 ?_
                    refine J_istore E (lv' := [(6, .int 0), (0, .ref (b 0)), (1, .int (nI 2)), (2, .int f), (3, .int (nI 0)), (4, .int o), (5, .int n)]) dX6_copy_119 (by decide) rfl ?_
                    refine J_iload E dX6_copy_121 0 rfl ?_
                    refine J_if_ne E (tgt := 132) dX6_copy_123 (by decide) (fun c_123 => ?_) (fun c_123 => ?_)
                    · skip
                      have n_123 : ¬ 0 = 0 := cmp_ne (a := 0) (b := 0) (by omega) (by omega) c_123
                      exact absurd n_123 (by decide)
                    · skip
                      have n_123 : 0 = 0 := cmp_eq (a := 0) (b := 0) (by omega) (by omega) c_123
                      refine J_aload_n E dX6_copy_126 rfl 1 rfl ?_
                      refine J_iconst E dX6_copy_127 ic_0 ?_
                      refine J_cVi0 E (As := [.int 0]) (c_X6_finds l G b y 0 (by omega)) cl_X6_96 yo_X6_finds dX6_copy_128 rfl rfl rfl (Nat.le_of_ble_eq_true rfl) (Nat.le_of_ble_eq_true rfl) rfl (Nat.le_of_ble_eq_true rfl) ⟨Nat.zero_le _, Nat.zero_le _⟩ ?_
                      exact ret _ _ _ _ ⟨rfl, _, rfl, by intro g h2 h5 h6; by_cases h0 : g = 0 <;> simp [tellX, upG, up3, up3R, up2, h0, h2, h5, h6]⟩ rfl dX6_copy_131
                  · skip
                    refine J_iload_n E dX6_copy_79 rfl 2 rfl ?_
                    refine J_i2l E dX6_copy_80 rfl ?_
                    refine J_iload E dX6_copy_81 5 rfl ?_
                    refine J_i2l E dX6_copy_83 rfl ?_
                    refine J_ladd E dX6_copy_84 ?_
                    refine J_aload_n E dX6_copy_85 rfl 0 rfl ?_
                    refine gM0_X6_34 E dX6_copy_86 ?_
                    refine J_iload_n E dX6_copy_89 rfl 1 rfl ?_
                    refine lMz_2 E  dX6_copy_90 ?_
                    refine J_i2l E dX6_copy_91 rfl ?_
                    refine J_lcmp E dX6_copy_92 ?_
                    refine J_if_gt E (tgt := 118) dX6_copy_93 (by decide) (fun c_93 => ?_) (fun c_93 => ?_)
                    · skip
                      refine J_iconst E dX6_copy_118 ic_0 ?_
                      refine J_istore E (lv' := [(6, .int 0), (0, .ref (b 0)), (1, .int (nI 2)), (2, .int f), (3, .int (nI 0)), (4, .int o), (5, .int n)]) dX6_copy_119 (by decide) rfl ?_
                      refine J_iload E dX6_copy_121 0 rfl ?_
                      refine J_if_ne E (tgt := 132) dX6_copy_123 (by decide) (fun c_123 => ?_) (fun c_123 => ?_)
                      · skip
                        have n_123 : ¬ 0 = 0 := cmp_ne (a := 0) (b := 0) (by omega) (by omega) c_123
                        exact absurd n_123 (by decide)
                      · skip
                        have n_123 : 0 = 0 := cmp_eq (a := 0) (b := 0) (by omega) (by omega) c_123
                        refine J_aload_n E dX6_copy_126 rfl 1 rfl ?_
                        refine J_iconst E dX6_copy_127 ic_0 ?_
                        refine J_cVi0 E (As := [.int 0]) (c_X6_finds l G b y 0 (by omega)) cl_X6_96 yo_X6_finds dX6_copy_128 rfl rfl rfl (Nat.le_of_ble_eq_true rfl) (Nat.le_of_ble_eq_true rfl) rfl (Nat.le_of_ble_eq_true rfl) ⟨Nat.zero_le _, Nat.zero_le _⟩ ?_
                        exact ret _ _ _ _ ⟨rfl, _, rfl, by intro g h2 h5 h6; by_cases h0 : g = 0 <;> simp [tellX, upG, up3, up3R, up2, h0, h2, h5, h6]⟩ rfl dX6_copy_131
                    · skip
                      refine J_iload E dX6_copy_96 4 rfl ?_
                      refine J_i2l E dX6_copy_98 rfl ?_
                      refine J_iload E dX6_copy_99 5 rfl ?_
                      refine J_i2l E dX6_copy_101 rfl ?_
                      refine J_ladd E dX6_copy_102 ?_
                      refine J_aload_n E dX6_copy_103 rfl 0 rfl ?_
                      refine gM0_X6_34 E dX6_copy_104 ?_
                      refine J_iload_n E dX6_copy_107 rfl 3 rfl ?_
                      refine lMz_0 E  dX6_copy_108 ?_
                      refine J_i2l E dX6_copy_109 rfl ?_
                      refine J_lcmp E dX6_copy_110 ?_
                      refine J_if_gt E (tgt := 118) dX6_copy_111 (by decide) (fun c_111 => ?_) (fun c_111 => ?_)
                      · skip
                        refine J_iconst E dX6_copy_118 ic_0 ?_
                        refine J_istore E (lv' := [(6, .int 0), (0, .ref (b 0)), (1, .int (nI 2)), (2, .int f), (3, .int (nI 0)), (4, .int o), (5, .int n)]) dX6_copy_119 (by decide) rfl ?_
                        refine J_iload E dX6_copy_121 0 rfl ?_
                        refine J_if_ne E (tgt := 132) dX6_copy_123 (by decide) (fun c_123 => ?_) (fun c_123 => ?_)
                        · skip
                          have n_123 : ¬ 0 = 0 := cmp_ne (a := 0) (b := 0) (by omega) (by omega) c_123
                          exact absurd n_123 (by decide)
                        · skip
                          have n_123 : 0 = 0 := cmp_eq (a := 0) (b := 0) (by omega) (by omega) c_123
                          refine J_aload_n E dX6_copy_126 rfl 1 rfl ?_
                          refine J_iconst E dX6_copy_127 ic_0 ?_
                          refine J_cVi0 E (As := [.int 0]) (c_X6_finds l G b y 0 (by omega)) cl_X6_96 yo_X6_finds dX6_copy_128 rfl rfl rfl (Nat.le_of_ble_eq_true rfl) (Nat.le_of_ble_eq_true rfl) rfl (Nat.le_of_ble_eq_true rfl) ⟨Nat.zero_le _, Nat.zero_le _⟩ ?_
                          exact ret _ _ _ _ ⟨rfl, _, rfl, by intro g h2 h5 h6; by_cases h0 : g = 0 <;> simp [tellX, upG, up3, up3R, up2, h0, h2, h5, h6]⟩ rfl dX6_copy_131
                      · skip
                        exact absurd ⟨runT h5 hn1 (c_71) (c_67) (Int32.not_lt.mp c_93), runT h7 hn2 (c_76) (c_67) (Int32.not_lt.mp c_111)⟩ hb
            · skip
              exact absurd h3 c_56
          · skip
            exact absurd c_35 h2
      · skip
        have c_11 := bI_0 c_11
        exact absurd (in3 (by decide)) c_11
  · skip
    refine J_iload_n E dX6_copy_0 rfl 1 rfl ?_
    refine J_cSiN E (As := [.int (nI 2)]) (c_X6_isSheet l G (nI 2) ) cl_X6_303 yo_X6_isSheet dX6_copy_1 rfl (Nat.le_of_ble_eq_true rfl) (Nat.le_of_ble_eq_true rfl) rfl (Nat.le_of_ble_eq_true rfl) ⟨Nat.zero_le _, Nat.zero_le _⟩ ?_
    refine J_if_eq E (tgt := 14) dX6_copy_4 (by decide) (fun c_4 => ?_) (fun c_4 => ?_)
    · skip
      have c_4 := bI_0 c_4
      exact absurd (in3 (by decide)) c_4
    · skip
      have c_4 := bI_1 c_4
      refine J_iload_n E dX6_copy_7 rfl 3 rfl ?_
      refine J_cSiN E (As := [.int (nI 1)]) (c_X6_isSheet l G (nI 1) ) cl_X6_303 yo_X6_isSheet dX6_copy_8 rfl (Nat.le_of_ble_eq_true rfl) (Nat.le_of_ble_eq_true rfl) rfl (Nat.le_of_ble_eq_true rfl) ⟨Nat.zero_le _, Nat.zero_le _⟩ ?_
      refine J_if_ne E (tgt := 20) dX6_copy_11 (by decide) (fun c_11 => ?_) (fun c_11 => ?_)
      · skip
        have c_11 := bI_1 c_11
        refine J_aload_n E dX6_copy_20 rfl 0 rfl ?_
        refine gM0_X6_31 E dX6_copy_21 ?_
        refine J_iload_n E dX6_copy_24 rfl 1 rfl ?_
        refine lMb_2 E  dX6_copy_25 ?_
        refine J_if_eq E (tgt := 38) dX6_copy_26 (by decide) (fun c_26 => ?_) (fun c_26 => ?_)
        · skip
          exact absurd c_26 h1
        · skip
          refine J_aload_n E dX6_copy_29 rfl 0 rfl ?_
          refine gM0_X6_31 E dX6_copy_30 ?_
          refine J_iload_n E dX6_copy_33 rfl 3 rfl ?_
          refine lMb_1 E  dX6_copy_34 ?_
          refine J_if_ne E (tgt := 44) dX6_copy_35 (by decide) (fun c_35 => ?_) (fun c_35 => ?_)
          · skip
            refine J_aload_n E dX6_copy_44 rfl 0 rfl ?_
            refine gM0_X6_31 E dX6_copy_45 ?_
            refine J_iload_n E dX6_copy_48 rfl 1 rfl ?_
            refine lMb_2 E  dX6_copy_49 ?_
            refine J_aload_n E dX6_copy_50 rfl 0 rfl ?_
            refine gM0_X6_31 E dX6_copy_51 ?_
            refine J_iload_n E dX6_copy_54 rfl 3 rfl ?_
            refine lMb_1 E  dX6_copy_55 ?_
            refine J_icmp_eq E (tgt := 65) dX6_copy_56 (by decide) (fun c_56 => ?_) (fun c_56 => ?_)
            · skip
              refine J_iload E dX6_copy_65 5 rfl ?_
              refine J_if_lt E (tgt := 118) dX6_copy_67 (by decide) (fun c_67 => ?_) (fun c_67 => ?_)
              · skip
                refine J_iconst E dX6_copy_118 ic_0 ?_
                refine J_istore E (lv' := [(6, .int 0), (0, .ref (b 0)), (1, .int (nI 2)), (2, .int f), (3, .int (nI 1)), (4, .int o), (5, .int n)]) dX6_copy_119 (by decide) rfl ?_
                refine J_iload E dX6_copy_121 0 rfl ?_
                refine J_if_ne E (tgt := 132) dX6_copy_123 (by decide) (fun c_123 => ?_) (fun c_123 => ?_)
                · skip
                  have n_123 : ¬ 0 = 0 := cmp_ne (a := 0) (b := 0) (by omega) (by omega) c_123
                  exact absurd n_123 (by decide)
                · skip
                  have n_123 : 0 = 0 := cmp_eq (a := 0) (b := 0) (by omega) (by omega) c_123
                  refine J_aload_n E dX6_copy_126 rfl 1 rfl ?_
                  refine J_iconst E dX6_copy_127 ic_0 ?_
                  refine J_cVi0 E (As := [.int 0]) (c_X6_finds l G b y 0 (by omega)) cl_X6_96 yo_X6_finds dX6_copy_128 rfl rfl rfl (Nat.le_of_ble_eq_true rfl) (Nat.le_of_ble_eq_true rfl) rfl (Nat.le_of_ble_eq_true rfl) ⟨Nat.zero_le _, Nat.zero_le _⟩ ?_
                  exact ret _ _ _ _ ⟨rfl, _, rfl, by intro g h2 h5 h6; by_cases h0 : g = 0 <;> simp [tellX, upG, up3, up3R, up2, h0, h2, h5, h6]⟩ rfl dX6_copy_131
              · skip
                refine J_iload_n E dX6_copy_70 rfl 2 rfl ?_
                refine J_if_lt E (tgt := 118) dX6_copy_71 (by decide) (fun c_71 => ?_) (fun c_71 => ?_)
                · skip
                  refine J_iconst E dX6_copy_118 ic_0 ?_
                  refine J_istore E (lv' := [(6, .int 0), (0, .ref (b 0)), (1, .int (nI 2)), (2, .int f), (3, .int (nI 1)), (4, .int o), (5, .int n)]) dX6_copy_119 (by decide) rfl ?_
                  refine J_iload E dX6_copy_121 0 rfl ?_
                  refine J_if_ne E (tgt := 132) dX6_copy_123 (by decide) (fun c_123 => ?_) (fun c_123 => ?_)
                  · skip
                    have n_123 : ¬ 0 = 0 := cmp_ne (a := 0) (b := 0) (by omega) (by omega) c_123
                    exact absurd n_123 (by decide)
                  · skip
                    have n_123 : 0 = 0 := cmp_eq (a := 0) (b := 0) (by omega) (by omega) c_123
                    refine J_aload_n E dX6_copy_126 rfl 1 rfl ?_
                    refine J_iconst E dX6_copy_127 ic_0 ?_
                    refine J_cVi0 E (As := [.int 0]) (c_X6_finds l G b y 0 (by omega)) cl_X6_96 yo_X6_finds dX6_copy_128 rfl rfl rfl (Nat.le_of_ble_eq_true rfl) (Nat.le_of_ble_eq_true rfl) rfl (Nat.le_of_ble_eq_true rfl) ⟨Nat.zero_le _, Nat.zero_le _⟩ ?_
                    exact ret _ _ _ _ ⟨rfl, _, rfl, by intro g h2 h5 h6; by_cases h0 : g = 0 <;> simp [tellX, upG, up3, up3R, up2, h0, h2, h5, h6]⟩ rfl dX6_copy_131
                · skip
                  refine J_iload E dX6_copy_74 4 rfl ?_
                  refine J_if_lt E (tgt := 118) dX6_copy_76 (by decide) (fun c_76 => ?_) (fun c_76 => ?_)
                  · skip
                    refine J_iconst E dX6_copy_118 ic_0 ?_
                    refine J_istore E (lv' := [(6, .int 0), (0, .ref (b 0)), (1, .int (nI 2)), (2, .int f), (3, .int (nI 1)), (4, .int o), (5, .int n)]) dX6_copy_119 (by decide) rfl ?_
                    refine J_iload E dX6_copy_121 0 rfl ?_
                    refine J_if_ne E (tgt := 132) dX6_copy_123 (by decide) (fun c_123 => ?_) (fun c_123 => ?_)
                    · skip
                      have n_123 : ¬ 0 = 0 := cmp_ne (a := 0) (b := 0) (by omega) (by omega) c_123
                      exact absurd n_123 (by decide)
                    · skip
                      have n_123 : 0 = 0 := cmp_eq (a := 0) (b := 0) (by omega) (by omega) c_123
                      refine J_aload_n E dX6_copy_126 rfl 1 rfl ?_
                      refine J_iconst E dX6_copy_127 ic_0 ?_
                      refine J_cVi0 E (As := [.int 0]) (c_X6_finds l G b y 0 (by omega)) cl_X6_96 yo_X6_finds dX6_copy_128 rfl rfl rfl (Nat.le_of_ble_eq_true rfl) (Nat.le_of_ble_eq_true rfl) rfl (Nat.le_of_ble_eq_true rfl) ⟨Nat.zero_le _, Nat.zero_le _⟩ ?_
                      exact ret _ _ _ _ ⟨rfl, _, rfl, by intro g h2 h5 h6; by_cases h0 : g = 0 <;> simp [tellX, upG, up3, up3R, up2, h0, h2, h5, h6]⟩ rfl dX6_copy_131
                  · skip
                    refine J_iload_n E dX6_copy_79 rfl 2 rfl ?_
                    refine J_i2l E dX6_copy_80 rfl ?_
                    refine J_iload E dX6_copy_81 5 rfl ?_
                    refine J_i2l E dX6_copy_83 rfl ?_
                    refine J_ladd E dX6_copy_84 ?_
                    refine J_aload_n E dX6_copy_85 rfl 0 rfl ?_
                    refine gM0_X6_34 E dX6_copy_86 ?_
                    refine J_iload_n E dX6_copy_89 rfl 1 rfl ?_
                    refine lMz_2 E  dX6_copy_90 ?_
                    refine J_i2l E dX6_copy_91 rfl ?_
                    refine J_lcmp E dX6_copy_92 ?_
                    refine J_if_gt E (tgt := 118) dX6_copy_93 (by decide) (fun c_93 => ?_) (fun c_93 => ?_)
                    · skip
                      refine J_iconst E dX6_copy_118 ic_0 ?_
                      refine J_istore E (lv' := [(6, .int 0), (0, .ref (b 0)), (1, .int (nI 2)), (2, .int f), (3, .int (nI 1)), (4, .int o), (5, .int n)]) dX6_copy_119 (by decide) rfl ?_
                      refine J_iload E dX6_copy_121 0 rfl ?_
                      refine J_if_ne E (tgt := 132) dX6_copy_123 (by decide) (fun c_123 => ?_) (fun c_123 => ?_)
                      · skip
                        have n_123 : ¬ 0 = 0 := cmp_ne (a := 0) (b := 0) (by omega) (by omega) c_123
                        exact absurd n_123 (by decide)
                      · skip
                        have n_123 : 0 = 0 := cmp_eq (a := 0) (b := 0) (by omega) (by omega) c_123
                        refine J_aload_n E dX6_copy_126 rfl 1 rfl ?_
                        refine J_iconst E dX6_copy_127 ic_0 ?_
                        refine J_cVi0 E (As := [.int 0]) (c_X6_finds l G b y 0 (by omega)) cl_X6_96 yo_X6_finds dX6_copy_128 rfl rfl rfl (Nat.le_of_ble_eq_true rfl) (Nat.le_of_ble_eq_true rfl) rfl (Nat.le_of_ble_eq_true rfl) ⟨Nat.zero_le _, Nat.zero_le _⟩ ?_
                        exact ret _ _ _ _ ⟨rfl, _, rfl, by intro g h2 h5 h6; by_cases h0 : g = 0 <;> simp [tellX, upG, up3, up3R, up2, h0, h2, h5, h6]⟩ rfl dX6_copy_131
                    · skip
                      refine J_iload E dX6_copy_96 4 rfl ?_
                      refine J_i2l E dX6_copy_98 rfl ?_
                      refine J_iload E dX6_copy_99 5 rfl ?_
                      refine J_i2l E dX6_copy_101 rfl ?_
                      refine J_ladd E dX6_copy_102 ?_
                      refine J_aload_n E dX6_copy_103 rfl 0 rfl ?_
                      refine gM0_X6_34 E dX6_copy_104 ?_
                      refine J_iload_n E dX6_copy_107 rfl 3 rfl ?_
                      refine lMz_1 E  dX6_copy_108 ?_
                      refine J_i2l E dX6_copy_109 rfl ?_
                      refine J_lcmp E dX6_copy_110 ?_
                      refine J_if_gt E (tgt := 118) dX6_copy_111 (by decide) (fun c_111 => ?_) (fun c_111 => ?_)
                      · skip
                        refine J_iconst E dX6_copy_118 ic_0 ?_
                        refine J_istore E (lv' := [(6, .int 0), (0, .ref (b 0)), (1, .int (nI 2)), (2, .int f), (3, .int (nI 1)), (4, .int o), (5, .int n)]) dX6_copy_119 (by decide) rfl ?_
                        refine J_iload E dX6_copy_121 0 rfl ?_
                        refine J_if_ne E (tgt := 132) dX6_copy_123 (by decide) (fun c_123 => ?_) (fun c_123 => ?_)
                        · skip
                          have n_123 : ¬ 0 = 0 := cmp_ne (a := 0) (b := 0) (by omega) (by omega) c_123
                          exact absurd n_123 (by decide)
                        · skip
                          have n_123 : 0 = 0 := cmp_eq (a := 0) (b := 0) (by omega) (by omega) c_123
                          refine J_aload_n E dX6_copy_126 rfl 1 rfl ?_
                          refine J_iconst E dX6_copy_127 ic_0 ?_
                          refine J_cVi0 E (As := [.int 0]) (c_X6_finds l G b y 0 (by omega)) cl_X6_96 yo_X6_finds dX6_copy_128 rfl rfl rfl (Nat.le_of_ble_eq_true rfl) (Nat.le_of_ble_eq_true rfl) rfl (Nat.le_of_ble_eq_true rfl) ⟨Nat.zero_le _, Nat.zero_le _⟩ ?_
                          exact ret _ _ _ _ ⟨rfl, _, rfl, by intro g h2 h5 h6; by_cases h0 : g = 0 <;> simp [tellX, upG, up3, up3R, up2, h0, h2, h5, h6]⟩ rfl dX6_copy_131
                      · skip
                        exact absurd ⟨runT h5 hn1 (c_71) (c_67) (Int32.not_lt.mp c_93), runT h7 hn2 (c_76) (c_67) (Int32.not_lt.mp c_111)⟩ hb
            · skip
              exact absurd h3 c_56
          · skip
            exact absurd c_35 h2
      · skip
        have c_11 := bI_0 c_11
        exact absurd (in3 (by decide)) c_11
  · skip
    refine J_iload_n E dX6_copy_0 rfl 1 rfl ?_
    refine J_cSiN E (As := [.int (nI 2)]) (c_X6_isSheet l G (nI 2) ) cl_X6_303 yo_X6_isSheet dX6_copy_1 rfl (Nat.le_of_ble_eq_true rfl) (Nat.le_of_ble_eq_true rfl) rfl (Nat.le_of_ble_eq_true rfl) ⟨Nat.zero_le _, Nat.zero_le _⟩ ?_
    refine J_if_eq E (tgt := 14) dX6_copy_4 (by decide) (fun c_4 => ?_) (fun c_4 => ?_)
    · skip
      have c_4 := bI_0 c_4
      exact absurd (in3 (by decide)) c_4
    · skip
      have c_4 := bI_1 c_4
      refine J_iload_n E dX6_copy_7 rfl 3 rfl ?_
      refine J_cSiN E (As := [.int (nI 2)]) (c_X6_isSheet l G (nI 2) ) cl_X6_303 yo_X6_isSheet dX6_copy_8 rfl (Nat.le_of_ble_eq_true rfl) (Nat.le_of_ble_eq_true rfl) rfl (Nat.le_of_ble_eq_true rfl) ⟨Nat.zero_le _, Nat.zero_le _⟩ ?_
      refine J_if_ne E (tgt := 20) dX6_copy_11 (by decide) (fun c_11 => ?_) (fun c_11 => ?_)
      · skip
        have c_11 := bI_1 c_11
        refine J_aload_n E dX6_copy_20 rfl 0 rfl ?_
        refine gM0_X6_31 E dX6_copy_21 ?_
        refine J_iload_n E dX6_copy_24 rfl 1 rfl ?_
        refine lMb_2 E  dX6_copy_25 ?_
        refine J_if_eq E (tgt := 38) dX6_copy_26 (by decide) (fun c_26 => ?_) (fun c_26 => ?_)
        · skip
          exact absurd c_26 h1
        · skip
          refine J_aload_n E dX6_copy_29 rfl 0 rfl ?_
          refine gM0_X6_31 E dX6_copy_30 ?_
          refine J_iload_n E dX6_copy_33 rfl 3 rfl ?_
          refine lMb_2 E  dX6_copy_34 ?_
          refine J_if_ne E (tgt := 44) dX6_copy_35 (by decide) (fun c_35 => ?_) (fun c_35 => ?_)
          · skip
            refine J_aload_n E dX6_copy_44 rfl 0 rfl ?_
            refine gM0_X6_31 E dX6_copy_45 ?_
            refine J_iload_n E dX6_copy_48 rfl 1 rfl ?_
            refine lMb_2 E  dX6_copy_49 ?_
            refine J_aload_n E dX6_copy_50 rfl 0 rfl ?_
            refine gM0_X6_31 E dX6_copy_51 ?_
            refine J_iload_n E dX6_copy_54 rfl 3 rfl ?_
            refine lMb_2 E  dX6_copy_55 ?_
            refine J_icmp_eq E (tgt := 65) dX6_copy_56 (by decide) (fun c_56 => ?_) (fun c_56 => ?_)
            · skip
              refine J_iload E dX6_copy_65 5 rfl ?_
              refine J_if_lt E (tgt := 118) dX6_copy_67 (by decide) (fun c_67 => ?_) (fun c_67 => ?_)
              · skip
                refine J_iconst E dX6_copy_118 ic_0 ?_
                refine J_istore E (lv' := [(6, .int 0), (0, .ref (b 0)), (1, .int (nI 2)), (2, .int f), (3, .int (nI 2)), (4, .int o), (5, .int n)]) dX6_copy_119 (by decide) rfl ?_
                refine J_iload E dX6_copy_121 0 rfl ?_
                refine J_if_ne E (tgt := 132) dX6_copy_123 (by decide) (fun c_123 => ?_) (fun c_123 => ?_)
                · skip
                  have n_123 : ¬ 0 = 0 := cmp_ne (a := 0) (b := 0) (by omega) (by omega) c_123
                  exact absurd n_123 (by decide)
                · skip
                  have n_123 : 0 = 0 := cmp_eq (a := 0) (b := 0) (by omega) (by omega) c_123
                  refine J_aload_n E dX6_copy_126 rfl 1 rfl ?_
                  refine J_iconst E dX6_copy_127 ic_0 ?_
                  refine J_cVi0 E (As := [.int 0]) (c_X6_finds l G b y 0 (by omega)) cl_X6_96 yo_X6_finds dX6_copy_128 rfl rfl rfl (Nat.le_of_ble_eq_true rfl) (Nat.le_of_ble_eq_true rfl) rfl (Nat.le_of_ble_eq_true rfl) ⟨Nat.zero_le _, Nat.zero_le _⟩ ?_
                  exact ret _ _ _ _ ⟨rfl, _, rfl, by intro g h2 h5 h6; by_cases h0 : g = 0 <;> simp [tellX, upG, up3, up3R, up2, h0, h2, h5, h6]⟩ rfl dX6_copy_131
              · skip
                refine J_iload_n E dX6_copy_70 rfl 2 rfl ?_
                refine J_if_lt E (tgt := 118) dX6_copy_71 (by decide) (fun c_71 => ?_) (fun c_71 => ?_)
                · skip
                  refine J_iconst E dX6_copy_118 ic_0 ?_
                  refine J_istore E (lv' := [(6, .int 0), (0, .ref (b 0)), (1, .int (nI 2)), (2, .int f), (3, .int (nI 2)), (4, .int o), (5, .int n)]) dX6_copy_119 (by decide) rfl ?_
                  refine J_iload E dX6_copy_121 0 rfl ?_
                  refine J_if_ne E (tgt := 132) dX6_copy_123 (by decide) (fun c_123 => ?_) (fun c_123 => ?_)
                  · skip
                    have n_123 : ¬ 0 = 0 := cmp_ne (a := 0) (b := 0) (by omega) (by omega) c_123
                    exact absurd n_123 (by decide)
                  · skip
                    have n_123 : 0 = 0 := cmp_eq (a := 0) (b := 0) (by omega) (by omega) c_123
                    refine J_aload_n E dX6_copy_126 rfl 1 rfl ?_
                    refine J_iconst E dX6_copy_127 ic_0 ?_
                    refine J_cVi0 E (As := [.int 0]) (c_X6_finds l G b y 0 (by omega)) cl_X6_96 yo_X6_finds dX6_copy_128 rfl rfl rfl (Nat.le_of_ble_eq_true rfl) (Nat.le_of_ble_eq_true rfl) rfl (Nat.le_of_ble_eq_true rfl) ⟨Nat.zero_le _, Nat.zero_le _⟩ ?_
                    exact ret _ _ _ _ ⟨rfl, _, rfl, by intro g h2 h5 h6; by_cases h0 : g = 0 <;> simp [tellX, upG, up3, up3R, up2, h0, h2, h5, h6]⟩ rfl dX6_copy_131
                · skip
                  refine J_iload E dX6_copy_74 4 rfl ?_
                  refine J_if_lt E (tgt := 118) dX6_copy_76 (by decide) (fun c_76 => ?_) (fun c_76 => ?_)
                  · skip
                    refine J_iconst E dX6_copy_118 ic_0 ?_
                    refine J_istore E (lv' := [(6, .int 0), (0, .ref (b 0)), (1, .int (nI 2)), (2, .int f), (3, .int (nI 2)), (4, .int o), (5, .int n)]) dX6_copy_119 (by decide) rfl ?_
                    refine J_iload E dX6_copy_121 0 rfl ?_
                    refine J_if_ne E (tgt := 132) dX6_copy_123 (by decide) (fun c_123 => ?_) (fun c_123 => ?_)
                    · skip
                      have n_123 : ¬ 0 = 0 := cmp_ne (a := 0) (b := 0) (by omega) (by omega) c_123
                      exact absurd n_123 (by decide)
                    · skip
                      have n_123 : 0 = 0 := cmp_eq (a := 0) (b := 0) (by omega) (by omega) c_123
                      refine J_aload_n E dX6_copy_126 rfl 1 rfl ?_
                      refine J_iconst E dX6_copy_127 ic_0 ?_
                      refine J_cVi0 E (As := [.int 0]) (c_X6_finds l G b y 0 (by omega)) cl_X6_96 yo_X6_finds dX6_copy_128 rfl rfl rfl (Nat.le_of_ble_eq_true rfl) (Nat.le_of_ble_eq_true rfl) rfl (Nat.le_of_ble_eq_true rfl) ⟨Nat.zero_le _, Nat.zero_le _⟩ ?_
                      exact ret _ _ _ _ ⟨rfl, _, rfl, by intro g h2 h5 h6; by_cases h0 : g = 0 <;> simp [tellX, upG, up3, up3R, up2, h0, h2, h5, h6]⟩ rfl dX6_copy_131
                  · skip
                    refine J_iload_n E dX6_copy_79 rfl 2 rfl ?_
                    refine J_i2l E dX6_copy_80 rfl ?_
                    refine J_iload E dX6_copy_81 5 rfl ?_
                    refine J_i2l E dX6_copy_83 rfl ?_
                    refine J_ladd E dX6_copy_84 ?_
                    refine J_aload_n E dX6_copy_85 rfl 0 rfl ?_
                    refine gM0_X6_34 E dX6_copy_86 ?_
                    refine J_iload_n E dX6_copy_89 rfl 1 rfl ?_
                    refine lMz_2 E  dX6_copy_90 ?_
                    refine J_i2l E dX6_copy_91 rfl ?_
                    refine J_lcmp E dX6_copy_92 ?_
                    refine J_if_gt E (tgt := 118) dX6_copy_93 (by decide) (fun c_93 => ?_) (fun c_93 => ?_)
                    · skip
                      refine J_iconst E dX6_copy_118 ic_0 ?_
                      refine J_istore E (lv' := [(6, .int 0), (0, .ref (b 0)), (1, .int (nI 2)), (2, .int f), (3, .int (nI 2)), (4, .int o), (5, .int n)]) dX6_copy_119 (by decide) rfl ?_
                      refine J_iload E dX6_copy_121 0 rfl ?_
                      refine J_if_ne E (tgt := 132) dX6_copy_123 (by decide) (fun c_123 => ?_) (fun c_123 => ?_)
                      · skip
                        have n_123 : ¬ 0 = 0 := cmp_ne (a := 0) (b := 0) (by omega) (by omega) c_123
                        exact absurd n_123 (by decide)
                      · skip
                        have n_123 : 0 = 0 := cmp_eq (a := 0) (b := 0) (by omega) (by omega) c_123
                        refine J_aload_n E dX6_copy_126 rfl 1 rfl ?_
                        refine J_iconst E dX6_copy_127 ic_0 ?_
                        refine J_cVi0 E (As := [.int 0]) (c_X6_finds l G b y 0 (by omega)) cl_X6_96 yo_X6_finds dX6_copy_128 rfl rfl rfl (Nat.le_of_ble_eq_true rfl) (Nat.le_of_ble_eq_true rfl) rfl (Nat.le_of_ble_eq_true rfl) ⟨Nat.zero_le _, Nat.zero_le _⟩ ?_
                        exact ret _ _ _ _ ⟨rfl, _, rfl, by intro g h2 h5 h6; by_cases h0 : g = 0 <;> simp [tellX, upG, up3, up3R, up2, h0, h2, h5, h6]⟩ rfl dX6_copy_131
                    · skip
                      refine J_iload E dX6_copy_96 4 rfl ?_
                      refine J_i2l E dX6_copy_98 rfl ?_
                      refine J_iload E dX6_copy_99 5 rfl ?_
                      refine J_i2l E dX6_copy_101 rfl ?_
                      refine J_ladd E dX6_copy_102 ?_
                      refine J_aload_n E dX6_copy_103 rfl 0 rfl ?_
                      refine gM0_X6_34 E dX6_copy_104 ?_
                      refine J_iload_n E dX6_copy_107 rfl 3 rfl ?_
                      refine lMz_2 E  dX6_copy_108 ?_
                      refine J_i2l E dX6_copy_109 rfl ?_
                      refine J_lcmp E dX6_copy_110 ?_
                      refine J_if_gt E (tgt := 118) dX6_copy_111 (by decide) (fun c_111 => ?_) (fun c_111 => ?_)
                      · skip
                        refine J_iconst E dX6_copy_118 ic_0 ?_
                        refine J_istore E (lv' := [(6, .int 0), (0, .ref (b 0)), (1, .int (nI 2)), (2, .int f), (3, .int (nI 2)), (4, .int o), (5, .int n)]) dX6_copy_119 (by decide) rfl ?_
                        refine J_iload E dX6_copy_121 0 rfl ?_
                        refine J_if_ne E (tgt := 132) dX6_copy_123 (by decide) (fun c_123 => ?_) (fun c_123 => ?_)
                        · skip
                          have n_123 : ¬ 0 = 0 := cmp_ne (a := 0) (b := 0) (by omega) (by omega) c_123
                          exact absurd n_123 (by decide)
                        · skip
                          have n_123 : 0 = 0 := cmp_eq (a := 0) (b := 0) (by omega) (by omega) c_123
                          refine J_aload_n E dX6_copy_126 rfl 1 rfl ?_
                          refine J_iconst E dX6_copy_127 ic_0 ?_
                          refine J_cVi0 E (As := [.int 0]) (c_X6_finds l G b y 0 (by omega)) cl_X6_96 yo_X6_finds dX6_copy_128 rfl rfl rfl (Nat.le_of_ble_eq_true rfl) (Nat.le_of_ble_eq_true rfl) rfl (Nat.le_of_ble_eq_true rfl) ⟨Nat.zero_le _, Nat.zero_le _⟩ ?_
                          exact ret _ _ _ _ ⟨rfl, _, rfl, by intro g h2 h5 h6; by_cases h0 : g = 0 <;> simp [tellX, upG, up3, up3R, up2, h0, h2, h5, h6]⟩ rfl dX6_copy_131
                      · skip
                        exact absurd ⟨runT h5 hn1 (c_71) (c_67) (Int32.not_lt.mp c_93), runT h7 hn2 (c_76) (c_67) (Int32.not_lt.mp c_111)⟩ hb
            · skip
              exact absurd h3 c_56
          · skip
            exact absurd c_35 h2
      · skip
        have c_11 := bI_0 c_11
        exact absurd (in3 (by decide)) c_11
  · skip
    refine J_iload_n E dX6_copy_0 rfl 1 rfl ?_
    refine J_cSiN E (As := [.int (nI 2)]) (c_X6_isSheet l G (nI 2) ) cl_X6_303 yo_X6_isSheet dX6_copy_1 rfl (Nat.le_of_ble_eq_true rfl) (Nat.le_of_ble_eq_true rfl) rfl (Nat.le_of_ble_eq_true rfl) ⟨Nat.zero_le _, Nat.zero_le _⟩ ?_
    refine J_if_eq E (tgt := 14) dX6_copy_4 (by decide) (fun c_4 => ?_) (fun c_4 => ?_)
    · skip
      have c_4 := bI_0 c_4
      exact absurd (in3 (by decide)) c_4
    · skip
      have c_4 := bI_1 c_4
      refine J_iload_n E dX6_copy_7 rfl 3 rfl ?_
      refine J_cSiN E (As := [.int (nI 3)]) (c_X6_isSheet l G (nI 3) ) cl_X6_303 yo_X6_isSheet dX6_copy_8 rfl (Nat.le_of_ble_eq_true rfl) (Nat.le_of_ble_eq_true rfl) rfl (Nat.le_of_ble_eq_true rfl) ⟨Nat.zero_le _, Nat.zero_le _⟩ ?_
      refine J_if_ne E (tgt := 20) dX6_copy_11 (by decide) (fun c_11 => ?_) (fun c_11 => ?_)
      · skip
        have c_11 := bI_1 c_11
        refine J_aload_n E dX6_copy_20 rfl 0 rfl ?_
        refine gM0_X6_31 E dX6_copy_21 ?_
        refine J_iload_n E dX6_copy_24 rfl 1 rfl ?_
        refine lMb_2 E  dX6_copy_25 ?_
        refine J_if_eq E (tgt := 38) dX6_copy_26 (by decide) (fun c_26 => ?_) (fun c_26 => ?_)
        · skip
          exact absurd c_26 h1
        · skip
          refine J_aload_n E dX6_copy_29 rfl 0 rfl ?_
          refine gM0_X6_31 E dX6_copy_30 ?_
          refine J_iload_n E dX6_copy_33 rfl 3 rfl ?_
          refine lMb_3 E  dX6_copy_34 ?_
          refine J_if_ne E (tgt := 44) dX6_copy_35 (by decide) (fun c_35 => ?_) (fun c_35 => ?_)
          · skip
            refine J_aload_n E dX6_copy_44 rfl 0 rfl ?_
            refine gM0_X6_31 E dX6_copy_45 ?_
            refine J_iload_n E dX6_copy_48 rfl 1 rfl ?_
            refine lMb_2 E  dX6_copy_49 ?_
            refine J_aload_n E dX6_copy_50 rfl 0 rfl ?_
            refine gM0_X6_31 E dX6_copy_51 ?_
            refine J_iload_n E dX6_copy_54 rfl 3 rfl ?_
            refine lMb_3 E  dX6_copy_55 ?_
            refine J_icmp_eq E (tgt := 65) dX6_copy_56 (by decide) (fun c_56 => ?_) (fun c_56 => ?_)
            · skip
              refine J_iload E dX6_copy_65 5 rfl ?_
              refine J_if_lt E (tgt := 118) dX6_copy_67 (by decide) (fun c_67 => ?_) (fun c_67 => ?_)
              · skip
                refine J_iconst E dX6_copy_118 ic_0 ?_
                refine J_istore E (lv' := [(6, .int 0), (0, .ref (b 0)), (1, .int (nI 2)), (2, .int f), (3, .int (nI 3)), (4, .int o), (5, .int n)]) dX6_copy_119 (by decide) rfl ?_
                refine J_iload E dX6_copy_121 0 rfl ?_
                refine J_if_ne E (tgt := 132) dX6_copy_123 (by decide) (fun c_123 => ?_) (fun c_123 => ?_)
                · skip
                  have n_123 : ¬ 0 = 0 := cmp_ne (a := 0) (b := 0) (by omega) (by omega) c_123
                  exact absurd n_123 (by decide)
                · skip
                  have n_123 : 0 = 0 := cmp_eq (a := 0) (b := 0) (by omega) (by omega) c_123
                  refine J_aload_n E dX6_copy_126 rfl 1 rfl ?_
                  refine J_iconst E dX6_copy_127 ic_0 ?_
                  refine J_cVi0 E (As := [.int 0]) (c_X6_finds l G b y 0 (by omega)) cl_X6_96 yo_X6_finds dX6_copy_128 rfl rfl rfl (Nat.le_of_ble_eq_true rfl) (Nat.le_of_ble_eq_true rfl) rfl (Nat.le_of_ble_eq_true rfl) ⟨Nat.zero_le _, Nat.zero_le _⟩ ?_
                  exact ret _ _ _ _ ⟨rfl, _, rfl, by intro g h2 h5 h6; by_cases h0 : g = 0 <;> simp [tellX, upG, up3, up3R, up2, h0, h2, h5, h6]⟩ rfl dX6_copy_131
              · skip
                refine J_iload_n E dX6_copy_70 rfl 2 rfl ?_
                refine J_if_lt E (tgt := 118) dX6_copy_71 (by decide) (fun c_71 => ?_) (fun c_71 => ?_)
                · skip
                  refine J_iconst E dX6_copy_118 ic_0 ?_
                  refine J_istore E (lv' := [(6, .int 0), (0, .ref (b 0)), (1, .int (nI 2)), (2, .int f), (3, .int (nI 3)), (4, .int o), (5, .int n)]) dX6_copy_119 (by decide) rfl ?_
                  refine J_iload E dX6_copy_121 0 rfl ?_
                  refine J_if_ne E (tgt := 132) dX6_copy_123 (by decide) (fun c_123 => ?_) (fun c_123 => ?_)
                  · skip
                    have n_123 : ¬ 0 = 0 := cmp_ne (a := 0) (b := 0) (by omega) (by omega) c_123
                    exact absurd n_123 (by decide)
                  · skip
                    have n_123 : 0 = 0 := cmp_eq (a := 0) (b := 0) (by omega) (by omega) c_123
                    refine J_aload_n E dX6_copy_126 rfl 1 rfl ?_
                    refine J_iconst E dX6_copy_127 ic_0 ?_
                    refine J_cVi0 E (As := [.int 0]) (c_X6_finds l G b y 0 (by omega)) cl_X6_96 yo_X6_finds dX6_copy_128 rfl rfl rfl (Nat.le_of_ble_eq_true rfl) (Nat.le_of_ble_eq_true rfl) rfl (Nat.le_of_ble_eq_true rfl) ⟨Nat.zero_le _, Nat.zero_le _⟩ ?_
                    exact ret _ _ _ _ ⟨rfl, _, rfl, by intro g h2 h5 h6; by_cases h0 : g = 0 <;> simp [tellX, upG, up3, up3R, up2, h0, h2, h5, h6]⟩ rfl dX6_copy_131
                · skip
                  refine J_iload E dX6_copy_74 4 rfl ?_
                  refine J_if_lt E (tgt := 118) dX6_copy_76 (by decide) (fun c_76 => ?_) (fun c_76 => ?_)
                  · skip
                    refine J_iconst E dX6_copy_118 ic_0 ?_
                    refine J_istore E (lv' := [(6, .int 0), (0, .ref (b 0)), (1, .int (nI 2)), (2, .int f), (3, .int (nI 3)), (4, .int o), (5, .int n)]) dX6_copy_119 (by decide) rfl ?_
                    refine J_iload E dX6_copy_121 0 rfl ?_
                    refine J_if_ne E (tgt := 132) dX6_copy_123 (by decide) (fun c_123 => ?_) (fun c_123 => ?_)
                    · skip
                      have n_123 : ¬ 0 = 0 := cmp_ne (a := 0) (b := 0) (by omega) (by omega) c_123
                      exact absurd n_123 (by decide)
                    · skip
                      have n_123 : 0 = 0 := cmp_eq (a := 0) (b := 0) (by omega) (by omega) c_123
                      refine J_aload_n E dX6_copy_126 rfl 1 rfl ?_
                      refine J_iconst E dX6_copy_127 ic_0 ?_
                      refine J_cVi0 E (As := [.int 0]) (c_X6_finds l G b y 0 (by omega)) cl_X6_96 yo_X6_finds dX6_copy_128 rfl rfl rfl (Nat.le_of_ble_eq_true rfl) (Nat.le_of_ble_eq_true rfl) rfl (Nat.le_of_ble_eq_true rfl) ⟨Nat.zero_le _, Nat.zero_le _⟩ ?_
                      exact ret _ _ _ _ ⟨rfl, _, rfl, by intro g h2 h5 h6; by_cases h0 : g = 0 <;> simp [tellX, upG, up3, up3R, up2, h0, h2, h5, h6]⟩ rfl dX6_copy_131
                  · skip
                    refine J_iload_n E dX6_copy_79 rfl 2 rfl ?_
                    refine J_i2l E dX6_copy_80 rfl ?_
                    refine J_iload E dX6_copy_81 5 rfl ?_
                    refine J_i2l E dX6_copy_83 rfl ?_
                    refine J_ladd E dX6_copy_84 ?_
                    refine J_aload_n E dX6_copy_85 rfl 0 rfl ?_
                    refine gM0_X6_34 E dX6_copy_86 ?_
                    refine J_iload_n E dX6_copy_89 rfl 1 rfl ?_
                    refine lMz_2 E  dX6_copy_90 ?_
                    refine J_i2l E dX6_copy_91 rfl ?_
                    refine J_lcmp E dX6_copy_92 ?_
                    refine J_if_gt E (tgt := 118) dX6_copy_93 (by decide) (fun c_93 => ?_) (fun c_93 => ?_)
                    · skip
                      refine J_iconst E dX6_copy_118 ic_0 ?_
                      refine J_istore E (lv' := [(6, .int 0), (0, .ref (b 0)), (1, .int (nI 2)), (2, .int f), (3, .int (nI 3)), (4, .int o), (5, .int n)]) dX6_copy_119 (by decide) rfl ?_
                      refine J_iload E dX6_copy_121 0 rfl ?_
                      refine J_if_ne E (tgt := 132) dX6_copy_123 (by decide) (fun c_123 => ?_) (fun c_123 => ?_)
                      · skip
                        have n_123 : ¬ 0 = 0 := cmp_ne (a := 0) (b := 0) (by omega) (by omega) c_123
                        exact absurd n_123 (by decide)
                      · skip
                        have n_123 : 0 = 0 := cmp_eq (a := 0) (b := 0) (by omega) (by omega) c_123
                        refine J_aload_n E dX6_copy_126 rfl 1 rfl ?_
                        refine J_iconst E dX6_copy_127 ic_0 ?_
                        refine J_cVi0 E (As := [.int 0]) (c_X6_finds l G b y 0 (by omega)) cl_X6_96 yo_X6_finds dX6_copy_128 rfl rfl rfl (Nat.le_of_ble_eq_true rfl) (Nat.le_of_ble_eq_true rfl) rfl (Nat.le_of_ble_eq_true rfl) ⟨Nat.zero_le _, Nat.zero_le _⟩ ?_
                        exact ret _ _ _ _ ⟨rfl, _, rfl, by intro g h2 h5 h6; by_cases h0 : g = 0 <;> simp [tellX, upG, up3, up3R, up2, h0, h2, h5, h6]⟩ rfl dX6_copy_131
                    · skip
                      refine J_iload E dX6_copy_96 4 rfl ?_
                      refine J_i2l E dX6_copy_98 rfl ?_
                      refine J_iload E dX6_copy_99 5 rfl ?_
                      refine J_i2l E dX6_copy_101 rfl ?_
                      refine J_ladd E dX6_copy_102 ?_
                      refine J_aload_n E dX6_copy_103 rfl 0 rfl ?_
                      refine gM0_X6_34 E dX6_copy_104 ?_
                      refine J_iload_n E dX6_copy_107 rfl 3 rfl ?_
                      refine lMz_3 E  dX6_copy_108 ?_
                      refine J_i2l E dX6_copy_109 rfl ?_
                      refine J_lcmp E dX6_copy_110 ?_
                      refine J_if_gt E (tgt := 118) dX6_copy_111 (by decide) (fun c_111 => ?_) (fun c_111 => ?_)
                      · skip
                        refine J_iconst E dX6_copy_118 ic_0 ?_
                        refine J_istore E (lv' := [(6, .int 0), (0, .ref (b 0)), (1, .int (nI 2)), (2, .int f), (3, .int (nI 3)), (4, .int o), (5, .int n)]) dX6_copy_119 (by decide) rfl ?_
                        refine J_iload E dX6_copy_121 0 rfl ?_
                        refine J_if_ne E (tgt := 132) dX6_copy_123 (by decide) (fun c_123 => ?_) (fun c_123 => ?_)
                        · skip
                          have n_123 : ¬ 0 = 0 := cmp_ne (a := 0) (b := 0) (by omega) (by omega) c_123
                          exact absurd n_123 (by decide)
                        · skip
                          have n_123 : 0 = 0 := cmp_eq (a := 0) (b := 0) (by omega) (by omega) c_123
                          refine J_aload_n E dX6_copy_126 rfl 1 rfl ?_
                          refine J_iconst E dX6_copy_127 ic_0 ?_
                          refine J_cVi0 E (As := [.int 0]) (c_X6_finds l G b y 0 (by omega)) cl_X6_96 yo_X6_finds dX6_copy_128 rfl rfl rfl (Nat.le_of_ble_eq_true rfl) (Nat.le_of_ble_eq_true rfl) rfl (Nat.le_of_ble_eq_true rfl) ⟨Nat.zero_le _, Nat.zero_le _⟩ ?_
                          exact ret _ _ _ _ ⟨rfl, _, rfl, by intro g h2 h5 h6; by_cases h0 : g = 0 <;> simp [tellX, upG, up3, up3R, up2, h0, h2, h5, h6]⟩ rfl dX6_copy_131
                      · skip
                        exact absurd ⟨runT h5 hn1 (c_71) (c_67) (Int32.not_lt.mp c_93), runT h7 hn2 (c_76) (c_67) (Int32.not_lt.mp c_111)⟩ hb
            · skip
              exact absurd h3 c_56
          · skip
            exact absurd c_35 h2
      · skip
        have c_11 := bI_0 c_11
        exact absurd (in3 (by decide)) c_11
  · skip
    refine J_iload_n E dX6_copy_0 rfl 1 rfl ?_
    refine J_cSiN E (As := [.int (nI 3)]) (c_X6_isSheet l G (nI 3) ) cl_X6_303 yo_X6_isSheet dX6_copy_1 rfl (Nat.le_of_ble_eq_true rfl) (Nat.le_of_ble_eq_true rfl) rfl (Nat.le_of_ble_eq_true rfl) ⟨Nat.zero_le _, Nat.zero_le _⟩ ?_
    refine J_if_eq E (tgt := 14) dX6_copy_4 (by decide) (fun c_4 => ?_) (fun c_4 => ?_)
    · skip
      have c_4 := bI_0 c_4
      exact absurd (in3 (by decide)) c_4
    · skip
      have c_4 := bI_1 c_4
      refine J_iload_n E dX6_copy_7 rfl 3 rfl ?_
      refine J_cSiN E (As := [.int (nI 0)]) (c_X6_isSheet l G (nI 0) ) cl_X6_303 yo_X6_isSheet dX6_copy_8 rfl (Nat.le_of_ble_eq_true rfl) (Nat.le_of_ble_eq_true rfl) rfl (Nat.le_of_ble_eq_true rfl) ⟨Nat.zero_le _, Nat.zero_le _⟩ ?_
      refine J_if_ne E (tgt := 20) dX6_copy_11 (by decide) (fun c_11 => ?_) (fun c_11 => ?_)
      · skip
        have c_11 := bI_1 c_11
        refine J_aload_n E dX6_copy_20 rfl 0 rfl ?_
        refine gM0_X6_31 E dX6_copy_21 ?_
        refine J_iload_n E dX6_copy_24 rfl 1 rfl ?_
        refine lMb_3 E  dX6_copy_25 ?_
        refine J_if_eq E (tgt := 38) dX6_copy_26 (by decide) (fun c_26 => ?_) (fun c_26 => ?_)
        · skip
          exact absurd c_26 h1
        · skip
          refine J_aload_n E dX6_copy_29 rfl 0 rfl ?_
          refine gM0_X6_31 E dX6_copy_30 ?_
          refine J_iload_n E dX6_copy_33 rfl 3 rfl ?_
          refine lMb_0 E  dX6_copy_34 ?_
          refine J_if_ne E (tgt := 44) dX6_copy_35 (by decide) (fun c_35 => ?_) (fun c_35 => ?_)
          · skip
            refine J_aload_n E dX6_copy_44 rfl 0 rfl ?_
            refine gM0_X6_31 E dX6_copy_45 ?_
            refine J_iload_n E dX6_copy_48 rfl 1 rfl ?_
            refine lMb_3 E  dX6_copy_49 ?_
            refine J_aload_n E dX6_copy_50 rfl 0 rfl ?_
            refine gM0_X6_31 E dX6_copy_51 ?_
            refine J_iload_n E dX6_copy_54 rfl 3 rfl ?_
            refine lMb_0 E  dX6_copy_55 ?_
            refine J_icmp_eq E (tgt := 65) dX6_copy_56 (by decide) (fun c_56 => ?_) (fun c_56 => ?_)
            · skip
              refine J_iload E dX6_copy_65 5 rfl ?_
              refine J_if_lt E (tgt := 118) dX6_copy_67 (by decide) (fun c_67 => ?_) (fun c_67 => ?_)
              · skip
                refine J_iconst E dX6_copy_118 ic_0 ?_
                refine J_istore E (lv' := [(6, .int 0), (0, .ref (b 0)), (1, .int (nI 3)), (2, .int f), (3, .int (nI 0)), (4, .int o), (5, .int n)]) dX6_copy_119 (by decide) rfl ?_
                refine J_iload E dX6_copy_121 0 rfl ?_
                refine J_if_ne E (tgt := 132) dX6_copy_123 (by decide) (fun c_123 => ?_) (fun c_123 => ?_)
                · skip
                  have n_123 : ¬ 0 = 0 := cmp_ne (a := 0) (b := 0) (by omega) (by omega) c_123
                  exact absurd n_123 (by decide)
                · skip
                  have n_123 : 0 = 0 := cmp_eq (a := 0) (b := 0) (by omega) (by omega) c_123
                  refine J_aload_n E dX6_copy_126 rfl 1 rfl ?_
                  refine J_iconst E dX6_copy_127 ic_0 ?_
                  refine J_cVi0 E (As := [.int 0]) (c_X6_finds l G b y 0 (by omega)) cl_X6_96 yo_X6_finds dX6_copy_128 rfl rfl rfl (Nat.le_of_ble_eq_true rfl) (Nat.le_of_ble_eq_true rfl) rfl (Nat.le_of_ble_eq_true rfl) ⟨Nat.zero_le _, Nat.zero_le _⟩ ?_
                  exact ret _ _ _ _ ⟨rfl, _, rfl, by intro g h2 h5 h6; by_cases h0 : g = 0 <;> simp [tellX, upG, up3, up3R, up2, h0, h2, h5, h6]⟩ rfl dX6_copy_131
              · skip
                refine J_iload_n E dX6_copy_70 rfl 2 rfl ?_
                refine J_if_lt E (tgt := 118) dX6_copy_71 (by decide) (fun c_71 => ?_) (fun c_71 => ?_)
                · skip
                  refine J_iconst E dX6_copy_118 ic_0 ?_
                  refine J_istore E (lv' := [(6, .int 0), (0, .ref (b 0)), (1, .int (nI 3)), (2, .int f), (3, .int (nI 0)), (4, .int o), (5, .int n)]) dX6_copy_119 (by decide) rfl ?_
                  refine J_iload E dX6_copy_121 0 rfl ?_
                  refine J_if_ne E (tgt := 132) dX6_copy_123 (by decide) (fun c_123 => ?_) (fun c_123 => ?_)
                  · skip
                    have n_123 : ¬ 0 = 0 := cmp_ne (a := 0) (b := 0) (by omega) (by omega) c_123
                    exact absurd n_123 (by decide)
                  · skip
                    have n_123 : 0 = 0 := cmp_eq (a := 0) (b := 0) (by omega) (by omega) c_123
                    refine J_aload_n E dX6_copy_126 rfl 1 rfl ?_
                    refine J_iconst E dX6_copy_127 ic_0 ?_
                    refine J_cVi0 E (As := [.int 0]) (c_X6_finds l G b y 0 (by omega)) cl_X6_96 yo_X6_finds dX6_copy_128 rfl rfl rfl (Nat.le_of_ble_eq_true rfl) (Nat.le_of_ble_eq_true rfl) rfl (Nat.le_of_ble_eq_true rfl) ⟨Nat.zero_le _, Nat.zero_le _⟩ ?_
                    exact ret _ _ _ _ ⟨rfl, _, rfl, by intro g h2 h5 h6; by_cases h0 : g = 0 <;> simp [tellX, upG, up3, up3R, up2, h0, h2, h5, h6]⟩ rfl dX6_copy_131
                · skip
                  refine J_iload E dX6_copy_74 4 rfl ?_
                  refine J_if_lt E (tgt := 118) dX6_copy_76 (by decide) (fun c_76 => ?_) (fun c_76 => ?_)
                  · skip
                    refine J_iconst E dX6_copy_118 ic_0 ?_
                    refine J_istore E (lv' := [(6, .int 0), (0, .ref (b 0)), (1, .int (nI 3)), (2, .int f), (3, .int (nI 0)), (4, .int o), (5, .int n)]) dX6_copy_119 (by decide) rfl ?_
                    refine J_iload E dX6_copy_121 0 rfl ?_
                    refine J_if_ne E (tgt := 132) dX6_copy_123 (by decide) (fun c_123 => ?_) (fun c_123 => ?_)
                    · skip
                      have n_123 : ¬ 0 = 0 := cmp_ne (a := 0) (b := 0) (by omega) (by omega) c_123
                      exact absurd n_123 (by decide)
                    · skip
                      have n_123 : 0 = 0 := cmp_eq (a := 0) (b := 0) (by omega) (by omega) c_123
                      refine J_aload_n E dX6_copy_126 rfl 1 rfl ?_
                      refine J_iconst E dX6_copy_127 ic_0 ?_
                      refine J_cVi0 E (As := [.int 0]) (c_X6_finds l G b y 0 (by omega)) cl_X6_96 yo_X6_finds dX6_copy_128 rfl rfl rfl (Nat.le_of_ble_eq_true rfl) (Nat.le_of_ble_eq_true rfl) rfl (Nat.le_of_ble_eq_true rfl) ⟨Nat.zero_le _, Nat.zero_le _⟩ ?_
                      exact ret _ _ _ _ ⟨rfl, _, rfl, by intro g h2 h5 h6; by_cases h0 : g = 0 <;> simp [tellX, upG, up3, up3R, up2, h0, h2, h5, h6]⟩ rfl dX6_copy_131
                  · skip
                    refine J_iload_n E dX6_copy_79 rfl 2 rfl ?_
                    refine J_i2l E dX6_copy_80 rfl ?_
                    refine J_iload E dX6_copy_81 5 rfl ?_
                    refine J_i2l E dX6_copy_83 rfl ?_
                    refine J_ladd E dX6_copy_84 ?_
                    refine J_aload_n E dX6_copy_85 rfl 0 rfl ?_
                    refine gM0_X6_34 E dX6_copy_86 ?_
                    refine J_iload_n E dX6_copy_89 rfl 1 rfl ?_
                    refine lMz_3 E  dX6_copy_90 ?_
                    refine J_i2l E dX6_copy_91 rfl ?_
                    refine J_lcmp E dX6_copy_92 ?_
                    refine J_if_gt E (tgt := 118) dX6_copy_93 (by decide) (fun c_93 => ?_) (fun c_93 => ?_)
                    · skip
                      refine J_iconst E dX6_copy_118 ic_0 ?_
                      refine J_istore E (lv' := [(6, .int 0), (0, .ref (b 0)), (1, .int (nI 3)), (2, .int f), (3, .int (nI 0)), (4, .int o), (5, .int n)]) dX6_copy_119 (by decide) rfl ?_
                      refine J_iload E dX6_copy_121 0 rfl ?_
                      refine J_if_ne E (tgt := 132) dX6_copy_123 (by decide) (fun c_123 => ?_) (fun c_123 => ?_)
                      · skip
                        have n_123 : ¬ 0 = 0 := cmp_ne (a := 0) (b := 0) (by omega) (by omega) c_123
                        exact absurd n_123 (by decide)
                      · skip
                        have n_123 : 0 = 0 := cmp_eq (a := 0) (b := 0) (by omega) (by omega) c_123
                        refine J_aload_n E dX6_copy_126 rfl 1 rfl ?_
                        refine J_iconst E dX6_copy_127 ic_0 ?_
                        refine J_cVi0 E (As := [.int 0]) (c_X6_finds l G b y 0 (by omega)) cl_X6_96 yo_X6_finds dX6_copy_128 rfl rfl rfl (Nat.le_of_ble_eq_true rfl) (Nat.le_of_ble_eq_true rfl) rfl (Nat.le_of_ble_eq_true rfl) ⟨Nat.zero_le _, Nat.zero_le _⟩ ?_
                        exact ret _ _ _ _ ⟨rfl, _, rfl, by intro g h2 h5 h6; by_cases h0 : g = 0 <;> simp [tellX, upG, up3, up3R, up2, h0, h2, h5, h6]⟩ rfl dX6_copy_131
                    · skip
                      refine J_iload E dX6_copy_96 4 rfl ?_
                      refine J_i2l E dX6_copy_98 rfl ?_
                      refine J_iload E dX6_copy_99 5 rfl ?_
                      refine J_i2l E dX6_copy_101 rfl ?_
                      refine J_ladd E dX6_copy_102 ?_
                      refine J_aload_n E dX6_copy_103 rfl 0 rfl ?_
                      refine gM0_X6_34 E dX6_copy_104 ?_
                      refine J_iload_n E dX6_copy_107 rfl 3 rfl ?_
                      refine lMz_0 E  dX6_copy_108 ?_
                      refine J_i2l E dX6_copy_109 rfl ?_
                      refine J_lcmp E dX6_copy_110 ?_
                      refine J_if_gt E (tgt := 118) dX6_copy_111 (by decide) (fun c_111 => ?_) (fun c_111 => ?_)
                      · skip
                        refine J_iconst E dX6_copy_118 ic_0 ?_
                        refine J_istore E (lv' := [(6, .int 0), (0, .ref (b 0)), (1, .int (nI 3)), (2, .int f), (3, .int (nI 0)), (4, .int o), (5, .int n)]) dX6_copy_119 (by decide) rfl ?_
                        refine J_iload E dX6_copy_121 0 rfl ?_
                        refine J_if_ne E (tgt := 132) dX6_copy_123 (by decide) (fun c_123 => ?_) (fun c_123 => ?_)
                        · skip
                          have n_123 : ¬ 0 = 0 := cmp_ne (a := 0) (b := 0) (by omega) (by omega) c_123
                          exact absurd n_123 (by decide)
                        · skip
                          have n_123 : 0 = 0 := cmp_eq (a := 0) (b := 0) (by omega) (by omega) c_123
                          refine J_aload_n E dX6_copy_126 rfl 1 rfl ?_
                          refine J_iconst E dX6_copy_127 ic_0 ?_
                          refine J_cVi0 E (As := [.int 0]) (c_X6_finds l G b y 0 (by omega)) cl_X6_96 yo_X6_finds dX6_copy_128 rfl rfl rfl (Nat.le_of_ble_eq_true rfl) (Nat.le_of_ble_eq_true rfl) rfl (Nat.le_of_ble_eq_true rfl) ⟨Nat.zero_le _, Nat.zero_le _⟩ ?_
                          exact ret _ _ _ _ ⟨rfl, _, rfl, by intro g h2 h5 h6; by_cases h0 : g = 0 <;> simp [tellX, upG, up3, up3R, up2, h0, h2, h5, h6]⟩ rfl dX6_copy_131
                      · skip
                        exact absurd ⟨runT h5 hn1 (c_71) (c_67) (Int32.not_lt.mp c_93), runT h7 hn2 (c_76) (c_67) (Int32.not_lt.mp c_111)⟩ hb
            · skip
              exact absurd h3 c_56
          · skip
            exact absurd c_35 h2
      · skip
        have c_11 := bI_0 c_11
        exact absurd (in3 (by decide)) c_11
  · skip
    refine J_iload_n E dX6_copy_0 rfl 1 rfl ?_
    refine J_cSiN E (As := [.int (nI 3)]) (c_X6_isSheet l G (nI 3) ) cl_X6_303 yo_X6_isSheet dX6_copy_1 rfl (Nat.le_of_ble_eq_true rfl) (Nat.le_of_ble_eq_true rfl) rfl (Nat.le_of_ble_eq_true rfl) ⟨Nat.zero_le _, Nat.zero_le _⟩ ?_
    refine J_if_eq E (tgt := 14) dX6_copy_4 (by decide) (fun c_4 => ?_) (fun c_4 => ?_)
    · skip
      have c_4 := bI_0 c_4
      exact absurd (in3 (by decide)) c_4
    · skip
      have c_4 := bI_1 c_4
      refine J_iload_n E dX6_copy_7 rfl 3 rfl ?_
      refine J_cSiN E (As := [.int (nI 1)]) (c_X6_isSheet l G (nI 1) ) cl_X6_303 yo_X6_isSheet dX6_copy_8 rfl (Nat.le_of_ble_eq_true rfl) (Nat.le_of_ble_eq_true rfl) rfl (Nat.le_of_ble_eq_true rfl) ⟨Nat.zero_le _, Nat.zero_le _⟩ ?_
      refine J_if_ne E (tgt := 20) dX6_copy_11 (by decide) (fun c_11 => ?_) (fun c_11 => ?_)
      · skip
        have c_11 := bI_1 c_11
        refine J_aload_n E dX6_copy_20 rfl 0 rfl ?_
        refine gM0_X6_31 E dX6_copy_21 ?_
        refine J_iload_n E dX6_copy_24 rfl 1 rfl ?_
        refine lMb_3 E  dX6_copy_25 ?_
        refine J_if_eq E (tgt := 38) dX6_copy_26 (by decide) (fun c_26 => ?_) (fun c_26 => ?_)
        · skip
          exact absurd c_26 h1
        · skip
          refine J_aload_n E dX6_copy_29 rfl 0 rfl ?_
          refine gM0_X6_31 E dX6_copy_30 ?_
          refine J_iload_n E dX6_copy_33 rfl 3 rfl ?_
          refine lMb_1 E  dX6_copy_34 ?_
          refine J_if_ne E (tgt := 44) dX6_copy_35 (by decide) (fun c_35 => ?_) (fun c_35 => ?_)
          · skip
            refine J_aload_n E dX6_copy_44 rfl 0 rfl ?_
            refine gM0_X6_31 E dX6_copy_45 ?_
            refine J_iload_n E dX6_copy_48 rfl 1 rfl ?_
            refine lMb_3 E  dX6_copy_49 ?_
            refine J_aload_n E dX6_copy_50 rfl 0 rfl ?_
            refine gM0_X6_31 E dX6_copy_51 ?_
            refine J_iload_n E dX6_copy_54 rfl 3 rfl ?_
            refine lMb_1 E  dX6_copy_55 ?_
            refine J_icmp_eq E (tgt := 65) dX6_copy_56 (by decide) (fun c_56 => ?_) (fun c_56 => ?_)
            · skip
              refine J_iload E dX6_copy_65 5 rfl ?_
              refine J_if_lt E (tgt := 118) dX6_copy_67 (by decide) (fun c_67 => ?_) (fun c_67 => ?_)
              · skip
                refine J_iconst E dX6_copy_118 ic_0 ?_
                refine J_istore E (lv' := [(6, .int 0), (0, .ref (b 0)), (1, .int (nI 3)), (2, .int f), (3, .int (nI 1)), (4, .int o), (5, .int n)]) dX6_copy_119 (by decide) rfl ?_
                refine J_iload E dX6_copy_121 0 rfl ?_
                refine J_if_ne E (tgt := 132) dX6_copy_123 (by decide) (fun c_123 => ?_) (fun c_123 => ?_)
                · skip
                  have n_123 : ¬ 0 = 0 := cmp_ne (a := 0) (b := 0) (by omega) (by omega) c_123
                  exact absurd n_123 (by decide)
                · skip
                  have n_123 : 0 = 0 := cmp_eq (a := 0) (b := 0) (by omega) (by omega) c_123
                  refine J_aload_n E dX6_copy_126 rfl 1 rfl ?_
                  refine J_iconst E dX6_copy_127 ic_0 ?_
                  refine J_cVi0 E (As := [.int 0]) (c_X6_finds l G b y 0 (by omega)) cl_X6_96 yo_X6_finds dX6_copy_128 rfl rfl rfl (Nat.le_of_ble_eq_true rfl) (Nat.le_of_ble_eq_true rfl) rfl (Nat.le_of_ble_eq_true rfl) ⟨Nat.zero_le _, Nat.zero_le _⟩ ?_
                  exact ret _ _ _ _ ⟨rfl, _, rfl, by intro g h2 h5 h6; by_cases h0 : g = 0 <;> simp [tellX, upG, up3, up3R, up2, h0, h2, h5, h6]⟩ rfl dX6_copy_131
              · skip
                refine J_iload_n E dX6_copy_70 rfl 2 rfl ?_
                refine J_if_lt E (tgt := 118) dX6_copy_71 (by decide) (fun c_71 => ?_) (fun c_71 => ?_)
                · skip
                  refine J_iconst E dX6_copy_118 ic_0 ?_
                  refine J_istore E (lv' := [(6, .int 0), (0, .ref (b 0)), (1, .int (nI 3)), (2, .int f), (3, .int (nI 1)), (4, .int o), (5, .int n)]) dX6_copy_119 (by decide) rfl ?_
                  refine J_iload E dX6_copy_121 0 rfl ?_
                  refine J_if_ne E (tgt := 132) dX6_copy_123 (by decide) (fun c_123 => ?_) (fun c_123 => ?_)
                  · skip
                    have n_123 : ¬ 0 = 0 := cmp_ne (a := 0) (b := 0) (by omega) (by omega) c_123
                    exact absurd n_123 (by decide)
                  · skip
                    have n_123 : 0 = 0 := cmp_eq (a := 0) (b := 0) (by omega) (by omega) c_123
                    refine J_aload_n E dX6_copy_126 rfl 1 rfl ?_
                    refine J_iconst E dX6_copy_127 ic_0 ?_
                    refine J_cVi0 E (As := [.int 0]) (c_X6_finds l G b y 0 (by omega)) cl_X6_96 yo_X6_finds dX6_copy_128 rfl rfl rfl (Nat.le_of_ble_eq_true rfl) (Nat.le_of_ble_eq_true rfl) rfl (Nat.le_of_ble_eq_true rfl) ⟨Nat.zero_le _, Nat.zero_le _⟩ ?_
                    exact ret _ _ _ _ ⟨rfl, _, rfl, by intro g h2 h5 h6; by_cases h0 : g = 0 <;> simp [tellX, upG, up3, up3R, up2, h0, h2, h5, h6]⟩ rfl dX6_copy_131
                · skip
                  refine J_iload E dX6_copy_74 4 rfl ?_
                  refine J_if_lt E (tgt := 118) dX6_copy_76 (by decide) (fun c_76 => ?_) (fun c_76 => ?_)
                  · skip
                    refine J_iconst E dX6_copy_118 ic_0 ?_
                    refine J_istore E (lv' := [(6, .int 0), (0, .ref (b 0)), (1, .int (nI 3)), (2, .int f), (3, .int (nI 1)), (4, .int o), (5, .int n)]) dX6_copy_119 (by decide) rfl ?_
                    refine J_iload E dX6_copy_121 0 rfl ?_
                    refine J_if_ne E (tgt := 132) dX6_copy_123 (by decide) (fun c_123 => ?_) (fun c_123 => ?_)
                    · skip
                      have n_123 : ¬ 0 = 0 := cmp_ne (a := 0) (b := 0) (by omega) (by omega) c_123
                      exact absurd n_123 (by decide)
                    · skip
                      have n_123 : 0 = 0 := cmp_eq (a := 0) (b := 0) (by omega) (by omega) c_123
                      refine J_aload_n E dX6_copy_126 rfl 1 rfl ?_
                      refine J_iconst E dX6_copy_127 ic_0 ?_
                      refine J_cVi0 E (As := [.int 0]) (c_X6_finds l G b y 0 (by omega)) cl_X6_96 yo_X6_finds dX6_copy_128 rfl rfl rfl (Nat.le_of_ble_eq_true rfl) (Nat.le_of_ble_eq_true rfl) rfl (Nat.le_of_ble_eq_true rfl) ⟨Nat.zero_le _, Nat.zero_le _⟩ ?_
                      exact ret _ _ _ _ ⟨rfl, _, rfl, by intro g h2 h5 h6; by_cases h0 : g = 0 <;> simp [tellX, upG, up3, up3R, up2, h0, h2, h5, h6]⟩ rfl dX6_copy_131
                  · skip
                    refine J_iload_n E dX6_copy_79 rfl 2 rfl ?_
                    refine J_i2l E dX6_copy_80 rfl ?_
                    refine J_iload E dX6_copy_81 5 rfl ?_
                    refine J_i2l E dX6_copy_83 rfl ?_
                    refine J_ladd E dX6_copy_84 ?_
                    refine J_aload_n E dX6_copy_85 rfl 0 rfl ?_
                    refine gM0_X6_34 E dX6_copy_86 ?_
                    refine J_iload_n E dX6_copy_89 rfl 1 rfl ?_
                    refine lMz_3 E  dX6_copy_90 ?_
                    refine J_i2l E dX6_copy_91 rfl ?_
                    refine J_lcmp E dX6_copy_92 ?_
                    refine J_if_gt E (tgt := 118) dX6_copy_93 (by decide) (fun c_93 => ?_) (fun c_93 => ?_)
                    · skip
                      refine J_iconst E dX6_copy_118 ic_0 ?_
                      refine J_istore E (lv' := [(6, .int 0), (0, .ref (b 0)), (1, .int (nI 3)), (2, .int f), (3, .int (nI 1)), (4, .int o), (5, .int n)]) dX6_copy_119 (by decide) rfl ?_
                      refine J_iload E dX6_copy_121 0 rfl ?_
                      refine J_if_ne E (tgt := 132) dX6_copy_123 (by decide) (fun c_123 => ?_) (fun c_123 => ?_)
                      · skip
                        have n_123 : ¬ 0 = 0 := cmp_ne (a := 0) (b := 0) (by omega) (by omega) c_123
                        exact absurd n_123 (by decide)
                      · skip
                        have n_123 : 0 = 0 := cmp_eq (a := 0) (b := 0) (by omega) (by omega) c_123
                        refine J_aload_n E dX6_copy_126 rfl 1 rfl ?_
                        refine J_iconst E dX6_copy_127 ic_0 ?_
                        refine J_cVi0 E (As := [.int 0]) (c_X6_finds l G b y 0 (by omega)) cl_X6_96 yo_X6_finds dX6_copy_128 rfl rfl rfl (Nat.le_of_ble_eq_true rfl) (Nat.le_of_ble_eq_true rfl) rfl (Nat.le_of_ble_eq_true rfl) ⟨Nat.zero_le _, Nat.zero_le _⟩ ?_
                        exact ret _ _ _ _ ⟨rfl, _, rfl, by intro g h2 h5 h6; by_cases h0 : g = 0 <;> simp [tellX, upG, up3, up3R, up2, h0, h2, h5, h6]⟩ rfl dX6_copy_131
                    · skip
                      refine J_iload E dX6_copy_96 4 rfl ?_
                      refine J_i2l E dX6_copy_98 rfl ?_
                      refine J_iload E dX6_copy_99 5 rfl ?_
                      refine J_i2l E dX6_copy_101 rfl ?_
                      refine J_ladd E dX6_copy_102 ?_
                      refine J_aload_n E dX6_copy_103 rfl 0 rfl ?_
                      refine gM0_X6_34 E dX6_copy_104 ?_
                      refine J_iload_n E dX6_copy_107 rfl 3 rfl ?_
                      refine lMz_1 E  dX6_copy_108 ?_
                      refine J_i2l E dX6_copy_109 rfl ?_
                      refine J_lcmp E dX6_copy_110 ?_
                      refine J_if_gt E (tgt := 118) dX6_copy_111 (by decide) (fun c_111 => ?_) (fun c_111 => ?_)
                      · skip
                        refine J_iconst E dX6_copy_118 ic_0 ?_
                        refine J_istore E (lv' := [(6, .int 0), (0, .ref (b 0)), (1, .int (nI 3)), (2, .int f), (3, .int (nI 1)), (4, .int o), (5, .int n)]) dX6_copy_119 (by decide) rfl ?_
                        refine J_iload E dX6_copy_121 0 rfl ?_
                        refine J_if_ne E (tgt := 132) dX6_copy_123 (by decide) (fun c_123 => ?_) (fun c_123 => ?_)
                        · skip
                          have n_123 : ¬ 0 = 0 := cmp_ne (a := 0) (b := 0) (by omega) (by omega) c_123
                          exact absurd n_123 (by decide)
                        · skip
                          have n_123 : 0 = 0 := cmp_eq (a := 0) (b := 0) (by omega) (by omega) c_123
                          refine J_aload_n E dX6_copy_126 rfl 1 rfl ?_
                          refine J_iconst E dX6_copy_127 ic_0 ?_
                          refine J_cVi0 E (As := [.int 0]) (c_X6_finds l G b y 0 (by omega)) cl_X6_96 yo_X6_finds dX6_copy_128 rfl rfl rfl (Nat.le_of_ble_eq_true rfl) (Nat.le_of_ble_eq_true rfl) rfl (Nat.le_of_ble_eq_true rfl) ⟨Nat.zero_le _, Nat.zero_le _⟩ ?_
                          exact ret _ _ _ _ ⟨rfl, _, rfl, by intro g h2 h5 h6; by_cases h0 : g = 0 <;> simp [tellX, upG, up3, up3R, up2, h0, h2, h5, h6]⟩ rfl dX6_copy_131
                      · skip
                        exact absurd ⟨runT h5 hn1 (c_71) (c_67) (Int32.not_lt.mp c_93), runT h7 hn2 (c_76) (c_67) (Int32.not_lt.mp c_111)⟩ hb
            · skip
              exact absurd h3 c_56
          · skip
            exact absurd c_35 h2
      · skip
        have c_11 := bI_0 c_11
        exact absurd (in3 (by decide)) c_11
  · skip
    refine J_iload_n E dX6_copy_0 rfl 1 rfl ?_
    refine J_cSiN E (As := [.int (nI 3)]) (c_X6_isSheet l G (nI 3) ) cl_X6_303 yo_X6_isSheet dX6_copy_1 rfl (Nat.le_of_ble_eq_true rfl) (Nat.le_of_ble_eq_true rfl) rfl (Nat.le_of_ble_eq_true rfl) ⟨Nat.zero_le _, Nat.zero_le _⟩ ?_
    refine J_if_eq E (tgt := 14) dX6_copy_4 (by decide) (fun c_4 => ?_) (fun c_4 => ?_)
    · skip
      have c_4 := bI_0 c_4
      exact absurd (in3 (by decide)) c_4
    · skip
      have c_4 := bI_1 c_4
      refine J_iload_n E dX6_copy_7 rfl 3 rfl ?_
      refine J_cSiN E (As := [.int (nI 2)]) (c_X6_isSheet l G (nI 2) ) cl_X6_303 yo_X6_isSheet dX6_copy_8 rfl (Nat.le_of_ble_eq_true rfl) (Nat.le_of_ble_eq_true rfl) rfl (Nat.le_of_ble_eq_true rfl) ⟨Nat.zero_le _, Nat.zero_le _⟩ ?_
      refine J_if_ne E (tgt := 20) dX6_copy_11 (by decide) (fun c_11 => ?_) (fun c_11 => ?_)
      · skip
        have c_11 := bI_1 c_11
        refine J_aload_n E dX6_copy_20 rfl 0 rfl ?_
        refine gM0_X6_31 E dX6_copy_21 ?_
        refine J_iload_n E dX6_copy_24 rfl 1 rfl ?_
        refine lMb_3 E  dX6_copy_25 ?_
        refine J_if_eq E (tgt := 38) dX6_copy_26 (by decide) (fun c_26 => ?_) (fun c_26 => ?_)
        · skip
          exact absurd c_26 h1
        · skip
          refine J_aload_n E dX6_copy_29 rfl 0 rfl ?_
          refine gM0_X6_31 E dX6_copy_30 ?_
          refine J_iload_n E dX6_copy_33 rfl 3 rfl ?_
          refine lMb_2 E  dX6_copy_34 ?_
          refine J_if_ne E (tgt := 44) dX6_copy_35 (by decide) (fun c_35 => ?_) (fun c_35 => ?_)
          · skip
            refine J_aload_n E dX6_copy_44 rfl 0 rfl ?_
            refine gM0_X6_31 E dX6_copy_45 ?_
            refine J_iload_n E dX6_copy_48 rfl 1 rfl ?_
            refine lMb_3 E  dX6_copy_49 ?_
            refine J_aload_n E dX6_copy_50 rfl 0 rfl ?_
            refine gM0_X6_31 E dX6_copy_51 ?_
            refine J_iload_n E dX6_copy_54 rfl 3 rfl ?_
            refine lMb_2 E  dX6_copy_55 ?_
            refine J_icmp_eq E (tgt := 65) dX6_copy_56 (by decide) (fun c_56 => ?_) (fun c_56 => ?_)
            · skip
              refine J_iload E dX6_copy_65 5 rfl ?_
              refine J_if_lt E (tgt := 118) dX6_copy_67 (by decide) (fun c_67 => ?_) (fun c_67 => ?_)
              · skip
                refine J_iconst E dX6_copy_118 ic_0 ?_
                refine J_istore E (lv' := [(6, .int 0), (0, .ref (b 0)), (1, .int (nI 3)), (2, .int f), (3, .int (nI 2)), (4, .int o), (5, .int n)]) dX6_copy_119 (by decide) rfl ?_
                refine J_iload E dX6_copy_121 0 rfl ?_
                refine J_if_ne E (tgt := 132) dX6_copy_123 (by decide) (fun c_123 => ?_) (fun c_123 => ?_)
                · skip
                  have n_123 : ¬ 0 = 0 := cmp_ne (a := 0) (b := 0) (by omega) (by omega) c_123
                  exact absurd n_123 (by decide)
                · skip
                  have n_123 : 0 = 0 := cmp_eq (a := 0) (b := 0) (by omega) (by omega) c_123
                  refine J_aload_n E dX6_copy_126 rfl 1 rfl ?_
                  refine J_iconst E dX6_copy_127 ic_0 ?_
                  refine J_cVi0 E (As := [.int 0]) (c_X6_finds l G b y 0 (by omega)) cl_X6_96 yo_X6_finds dX6_copy_128 rfl rfl rfl (Nat.le_of_ble_eq_true rfl) (Nat.le_of_ble_eq_true rfl) rfl (Nat.le_of_ble_eq_true rfl) ⟨Nat.zero_le _, Nat.zero_le _⟩ ?_
                  exact ret _ _ _ _ ⟨rfl, _, rfl, by intro g h2 h5 h6; by_cases h0 : g = 0 <;> simp [tellX, upG, up3, up3R, up2, h0, h2, h5, h6]⟩ rfl dX6_copy_131
              · skip
                refine J_iload_n E dX6_copy_70 rfl 2 rfl ?_
                refine J_if_lt E (tgt := 118) dX6_copy_71 (by decide) (fun c_71 => ?_) (fun c_71 => ?_)
                · skip
                  refine J_iconst E dX6_copy_118 ic_0 ?_
                  refine J_istore E (lv' := [(6, .int 0), (0, .ref (b 0)), (1, .int (nI 3)), (2, .int f), (3, .int (nI 2)), (4, .int o), (5, .int n)]) dX6_copy_119 (by decide) rfl ?_
                  refine J_iload E dX6_copy_121 0 rfl ?_
                  refine J_if_ne E (tgt := 132) dX6_copy_123 (by decide) (fun c_123 => ?_) (fun c_123 => ?_)
                  · skip
                    have n_123 : ¬ 0 = 0 := cmp_ne (a := 0) (b := 0) (by omega) (by omega) c_123
                    exact absurd n_123 (by decide)
                  · skip
                    have n_123 : 0 = 0 := cmp_eq (a := 0) (b := 0) (by omega) (by omega) c_123
                    refine J_aload_n E dX6_copy_126 rfl 1 rfl ?_
                    refine J_iconst E dX6_copy_127 ic_0 ?_
                    refine J_cVi0 E (As := [.int 0]) (c_X6_finds l G b y 0 (by omega)) cl_X6_96 yo_X6_finds dX6_copy_128 rfl rfl rfl (Nat.le_of_ble_eq_true rfl) (Nat.le_of_ble_eq_true rfl) rfl (Nat.le_of_ble_eq_true rfl) ⟨Nat.zero_le _, Nat.zero_le _⟩ ?_
                    exact ret _ _ _ _ ⟨rfl, _, rfl, by intro g h2 h5 h6; by_cases h0 : g = 0 <;> simp [tellX, upG, up3, up3R, up2, h0, h2, h5, h6]⟩ rfl dX6_copy_131
                · skip
                  refine J_iload E dX6_copy_74 4 rfl ?_
                  refine J_if_lt E (tgt := 118) dX6_copy_76 (by decide) (fun c_76 => ?_) (fun c_76 => ?_)
                  · skip
                    refine J_iconst E dX6_copy_118 ic_0 ?_
                    refine J_istore E (lv' := [(6, .int 0), (0, .ref (b 0)), (1, .int (nI 3)), (2, .int f), (3, .int (nI 2)), (4, .int o), (5, .int n)]) dX6_copy_119 (by decide) rfl ?_
                    refine J_iload E dX6_copy_121 0 rfl ?_
                    refine J_if_ne E (tgt := 132) dX6_copy_123 (by decide) (fun c_123 => ?_) (fun c_123 => ?_)
                    · skip
                      have n_123 : ¬ 0 = 0 := cmp_ne (a := 0) (b := 0) (by omega) (by omega) c_123
                      exact absurd n_123 (by decide)
                    · skip
                      have n_123 : 0 = 0 := cmp_eq (a := 0) (b := 0) (by omega) (by omega) c_123
                      refine J_aload_n E dX6_copy_126 rfl 1 rfl ?_
                      refine J_iconst E dX6_copy_127 ic_0 ?_
                      refine J_cVi0 E (As := [.int 0]) (c_X6_finds l G b y 0 (by omega)) cl_X6_96 yo_X6_finds dX6_copy_128 rfl rfl rfl (Nat.le_of_ble_eq_true rfl) (Nat.le_of_ble_eq_true rfl) rfl (Nat.le_of_ble_eq_true rfl) ⟨Nat.zero_le _, Nat.zero_le _⟩ ?_
                      exact ret _ _ _ _ ⟨rfl, _, rfl, by intro g h2 h5 h6; by_cases h0 : g = 0 <;> simp [tellX, upG, up3, up3R, up2, h0, h2, h5, h6]⟩ rfl dX6_copy_131
                  · skip
                    refine J_iload_n E dX6_copy_79 rfl 2 rfl ?_
                    refine J_i2l E dX6_copy_80 rfl ?_
                    refine J_iload E dX6_copy_81 5 rfl ?_
                    refine J_i2l E dX6_copy_83 rfl ?_
                    refine J_ladd E dX6_copy_84 ?_
                    refine J_aload_n E dX6_copy_85 rfl 0 rfl ?_
                    refine gM0_X6_34 E dX6_copy_86 ?_
                    refine J_iload_n E dX6_copy_89 rfl 1 rfl ?_
                    refine lMz_3 E  dX6_copy_90 ?_
                    refine J_i2l E dX6_copy_91 rfl ?_
                    refine J_lcmp E dX6_copy_92 ?_
                    refine J_if_gt E (tgt := 118) dX6_copy_93 (by decide) (fun c_93 => ?_) (fun c_93 => ?_)
                    · skip
                      refine J_iconst E dX6_copy_118 ic_0 ?_
                      refine J_istore E (lv' := [(6, .int 0), (0, .ref (b 0)), (1, .int (nI 3)), (2, .int f), (3, .int (nI 2)), (4, .int o), (5, .int n)]) dX6_copy_119 (by decide) rfl ?_
                      refine J_iload E dX6_copy_121 0 rfl ?_
                      refine J_if_ne E (tgt := 132) dX6_copy_123 (by decide) (fun c_123 => ?_) (fun c_123 => ?_)
                      · skip
                        have n_123 : ¬ 0 = 0 := cmp_ne (a := 0) (b := 0) (by omega) (by omega) c_123
                        exact absurd n_123 (by decide)
                      · skip
                        have n_123 : 0 = 0 := cmp_eq (a := 0) (b := 0) (by omega) (by omega) c_123
                        refine J_aload_n E dX6_copy_126 rfl 1 rfl ?_
                        refine J_iconst E dX6_copy_127 ic_0 ?_
                        refine J_cVi0 E (As := [.int 0]) (c_X6_finds l G b y 0 (by omega)) cl_X6_96 yo_X6_finds dX6_copy_128 rfl rfl rfl (Nat.le_of_ble_eq_true rfl) (Nat.le_of_ble_eq_true rfl) rfl (Nat.le_of_ble_eq_true rfl) ⟨Nat.zero_le _, Nat.zero_le _⟩ ?_
                        exact ret _ _ _ _ ⟨rfl, _, rfl, by intro g h2 h5 h6; by_cases h0 : g = 0 <;> simp [tellX, upG, up3, up3R, up2, h0, h2, h5, h6]⟩ rfl dX6_copy_131
                    · skip
                      refine J_iload E dX6_copy_96 4 rfl ?_
                      refine J_i2l E dX6_copy_98 rfl ?_
                      refine J_iload E dX6_copy_99 5 rfl ?_
                      refine J_i2l E dX6_copy_101 rfl ?_
                      refine J_ladd E dX6_copy_102 ?_
                      refine J_aload_n E dX6_copy_103 rfl 0 rfl ?_
                      refine gM0_X6_34 E dX6_copy_104 ?_
                      refine J_iload_n E dX6_copy_107 rfl 3 rfl ?_
                      refine lMz_2 E  dX6_copy_108 ?_
                      refine J_i2l E dX6_copy_109 rfl ?_
                      refine J_lcmp E dX6_copy_110 ?_
                      refine J_if_gt E (tgt := 118) dX6_copy_111 (by decide) (fun c_111 => ?_) (fun c_111 => ?_)
                      · skip
                        refine J_iconst E dX6_copy_118 ic_0 ?_
                        refine J_istore E (lv' := [(6, .int 0), (0, .ref (b 0)), (1, .int (nI 3)), (2, .int f), (3, .int (nI 2)), (4, .int o), (5, .int n)]) dX6_copy_119 (by decide) rfl ?_
                        refine J_iload E dX6_copy_121 0 rfl ?_
                        refine J_if_ne E (tgt := 132) dX6_copy_123 (by decide) (fun c_123 => ?_) (fun c_123 => ?_)
                        · skip
                          have n_123 : ¬ 0 = 0 := cmp_ne (a := 0) (b := 0) (by omega) (by omega) c_123
                          exact absurd n_123 (by decide)
                        · skip
                          have n_123 : 0 = 0 := cmp_eq (a := 0) (b := 0) (by omega) (by omega) c_123
                          refine J_aload_n E dX6_copy_126 rfl 1 rfl ?_
                          refine J_iconst E dX6_copy_127 ic_0 ?_
                          refine J_cVi0 E (As := [.int 0]) (c_X6_finds l G b y 0 (by omega)) cl_X6_96 yo_X6_finds dX6_copy_128 rfl rfl rfl (Nat.le_of_ble_eq_true rfl) (Nat.le_of_ble_eq_true rfl) rfl (Nat.le_of_ble_eq_true rfl) ⟨Nat.zero_le _, Nat.zero_le _⟩ ?_
                          exact ret _ _ _ _ ⟨rfl, _, rfl, by intro g h2 h5 h6; by_cases h0 : g = 0 <;> simp [tellX, upG, up3, up3R, up2, h0, h2, h5, h6]⟩ rfl dX6_copy_131
                      · skip
                        exact absurd ⟨runT h5 hn1 (c_71) (c_67) (Int32.not_lt.mp c_93), runT h7 hn2 (c_76) (c_67) (Int32.not_lt.mp c_111)⟩ hb
            · skip
              exact absurd h3 c_56
          · skip
            exact absurd c_35 h2
      · skip
        have c_11 := bI_0 c_11
        exact absurd (in3 (by decide)) c_11
  · skip
    refine J_iload_n E dX6_copy_0 rfl 1 rfl ?_
    refine J_cSiN E (As := [.int (nI 3)]) (c_X6_isSheet l G (nI 3) ) cl_X6_303 yo_X6_isSheet dX6_copy_1 rfl (Nat.le_of_ble_eq_true rfl) (Nat.le_of_ble_eq_true rfl) rfl (Nat.le_of_ble_eq_true rfl) ⟨Nat.zero_le _, Nat.zero_le _⟩ ?_
    refine J_if_eq E (tgt := 14) dX6_copy_4 (by decide) (fun c_4 => ?_) (fun c_4 => ?_)
    · skip
      have c_4 := bI_0 c_4
      exact absurd (in3 (by decide)) c_4
    · skip
      have c_4 := bI_1 c_4
      refine J_iload_n E dX6_copy_7 rfl 3 rfl ?_
      refine J_cSiN E (As := [.int (nI 3)]) (c_X6_isSheet l G (nI 3) ) cl_X6_303 yo_X6_isSheet dX6_copy_8 rfl (Nat.le_of_ble_eq_true rfl) (Nat.le_of_ble_eq_true rfl) rfl (Nat.le_of_ble_eq_true rfl) ⟨Nat.zero_le _, Nat.zero_le _⟩ ?_
      refine J_if_ne E (tgt := 20) dX6_copy_11 (by decide) (fun c_11 => ?_) (fun c_11 => ?_)
      · skip
        have c_11 := bI_1 c_11
        refine J_aload_n E dX6_copy_20 rfl 0 rfl ?_
        refine gM0_X6_31 E dX6_copy_21 ?_
        refine J_iload_n E dX6_copy_24 rfl 1 rfl ?_
        refine lMb_3 E  dX6_copy_25 ?_
        refine J_if_eq E (tgt := 38) dX6_copy_26 (by decide) (fun c_26 => ?_) (fun c_26 => ?_)
        · skip
          exact absurd c_26 h1
        · skip
          refine J_aload_n E dX6_copy_29 rfl 0 rfl ?_
          refine gM0_X6_31 E dX6_copy_30 ?_
          refine J_iload_n E dX6_copy_33 rfl 3 rfl ?_
          refine lMb_3 E  dX6_copy_34 ?_
          refine J_if_ne E (tgt := 44) dX6_copy_35 (by decide) (fun c_35 => ?_) (fun c_35 => ?_)
          · skip
            refine J_aload_n E dX6_copy_44 rfl 0 rfl ?_
            refine gM0_X6_31 E dX6_copy_45 ?_
            refine J_iload_n E dX6_copy_48 rfl 1 rfl ?_
            refine lMb_3 E  dX6_copy_49 ?_
            refine J_aload_n E dX6_copy_50 rfl 0 rfl ?_
            refine gM0_X6_31 E dX6_copy_51 ?_
            refine J_iload_n E dX6_copy_54 rfl 3 rfl ?_
            refine lMb_3 E  dX6_copy_55 ?_
            refine J_icmp_eq E (tgt := 65) dX6_copy_56 (by decide) (fun c_56 => ?_) (fun c_56 => ?_)
            · skip
              refine J_iload E dX6_copy_65 5 rfl ?_
              refine J_if_lt E (tgt := 118) dX6_copy_67 (by decide) (fun c_67 => ?_) (fun c_67 => ?_)
              · skip
                refine J_iconst E dX6_copy_118 ic_0 ?_
                refine J_istore E (lv' := [(6, .int 0), (0, .ref (b 0)), (1, .int (nI 3)), (2, .int f), (3, .int (nI 3)), (4, .int o), (5, .int n)]) dX6_copy_119 (by decide) rfl ?_
                refine J_iload E dX6_copy_121 0 rfl ?_
                refine J_if_ne E (tgt := 132) dX6_copy_123 (by decide) (fun c_123 => ?_) (fun c_123 => ?_)
                · skip
                  have n_123 : ¬ 0 = 0 := cmp_ne (a := 0) (b := 0) (by omega) (by omega) c_123
                  exact absurd n_123 (by decide)
                · skip
                  have n_123 : 0 = 0 := cmp_eq (a := 0) (b := 0) (by omega) (by omega) c_123
                  refine J_aload_n E dX6_copy_126 rfl 1 rfl ?_
                  refine J_iconst E dX6_copy_127 ic_0 ?_
                  refine J_cVi0 E (As := [.int 0]) (c_X6_finds l G b y 0 (by omega)) cl_X6_96 yo_X6_finds dX6_copy_128 rfl rfl rfl (Nat.le_of_ble_eq_true rfl) (Nat.le_of_ble_eq_true rfl) rfl (Nat.le_of_ble_eq_true rfl) ⟨Nat.zero_le _, Nat.zero_le _⟩ ?_
                  exact ret _ _ _ _ ⟨rfl, _, rfl, by intro g h2 h5 h6; by_cases h0 : g = 0 <;> simp [tellX, upG, up3, up3R, up2, h0, h2, h5, h6]⟩ rfl dX6_copy_131
              · skip
                refine J_iload_n E dX6_copy_70 rfl 2 rfl ?_
                refine J_if_lt E (tgt := 118) dX6_copy_71 (by decide) (fun c_71 => ?_) (fun c_71 => ?_)
                · skip
                  refine J_iconst E dX6_copy_118 ic_0 ?_
                  refine J_istore E (lv' := [(6, .int 0), (0, .ref (b 0)), (1, .int (nI 3)), (2, .int f), (3, .int (nI 3)), (4, .int o), (5, .int n)]) dX6_copy_119 (by decide) rfl ?_
                  refine J_iload E dX6_copy_121 0 rfl ?_
                  refine J_if_ne E (tgt := 132) dX6_copy_123 (by decide) (fun c_123 => ?_) (fun c_123 => ?_)
                  · skip
                    have n_123 : ¬ 0 = 0 := cmp_ne (a := 0) (b := 0) (by omega) (by omega) c_123
                    exact absurd n_123 (by decide)
                  · skip
                    have n_123 : 0 = 0 := cmp_eq (a := 0) (b := 0) (by omega) (by omega) c_123
                    refine J_aload_n E dX6_copy_126 rfl 1 rfl ?_
                    refine J_iconst E dX6_copy_127 ic_0 ?_
                    refine J_cVi0 E (As := [.int 0]) (c_X6_finds l G b y 0 (by omega)) cl_X6_96 yo_X6_finds dX6_copy_128 rfl rfl rfl (Nat.le_of_ble_eq_true rfl) (Nat.le_of_ble_eq_true rfl) rfl (Nat.le_of_ble_eq_true rfl) ⟨Nat.zero_le _, Nat.zero_le _⟩ ?_
                    exact ret _ _ _ _ ⟨rfl, _, rfl, by intro g h2 h5 h6; by_cases h0 : g = 0 <;> simp [tellX, upG, up3, up3R, up2, h0, h2, h5, h6]⟩ rfl dX6_copy_131
                · skip
                  refine J_iload E dX6_copy_74 4 rfl ?_
                  refine J_if_lt E (tgt := 118) dX6_copy_76 (by decide) (fun c_76 => ?_) (fun c_76 => ?_)
                  · skip
                    refine J_iconst E dX6_copy_118 ic_0 ?_
                    refine J_istore E (lv' := [(6, .int 0), (0, .ref (b 0)), (1, .int (nI 3)), (2, .int f), (3, .int (nI 3)), (4, .int o), (5, .int n)]) dX6_copy_119 (by decide) rfl ?_
                    refine J_iload E dX6_copy_121 0 rfl ?_
                    refine J_if_ne E (tgt := 132) dX6_copy_123 (by decide) (fun c_123 => ?_) (fun c_123 => ?_)
                    · skip
                      have n_123 : ¬ 0 = 0 := cmp_ne (a := 0) (b := 0) (by omega) (by omega) c_123
                      exact absurd n_123 (by decide)
                    · skip
                      have n_123 : 0 = 0 := cmp_eq (a := 0) (b := 0) (by omega) (by omega) c_123
                      refine J_aload_n E dX6_copy_126 rfl 1 rfl ?_
                      refine J_iconst E dX6_copy_127 ic_0 ?_
                      refine J_cVi0 E (As := [.int 0]) (c_X6_finds l G b y 0 (by omega)) cl_X6_96 yo_X6_finds dX6_copy_128 rfl rfl rfl (Nat.le_of_ble_eq_true rfl) (Nat.le_of_ble_eq_true rfl) rfl (Nat.le_of_ble_eq_true rfl) ⟨Nat.zero_le _, Nat.zero_le _⟩ ?_
                      exact ret _ _ _ _ ⟨rfl, _, rfl, by intro g h2 h5 h6; by_cases h0 : g = 0 <;> simp [tellX, upG, up3, up3R, up2, h0, h2, h5, h6]⟩ rfl dX6_copy_131
                  · skip
                    refine J_iload_n E dX6_copy_79 rfl 2 rfl ?_
                    refine J_i2l E dX6_copy_80 rfl ?_
                    refine J_iload E dX6_copy_81 5 rfl ?_
                    refine J_i2l E dX6_copy_83 rfl ?_
                    refine J_ladd E dX6_copy_84 ?_
                    refine J_aload_n E dX6_copy_85 rfl 0 rfl ?_
                    refine gM0_X6_34 E dX6_copy_86 ?_
                    refine J_iload_n E dX6_copy_89 rfl 1 rfl ?_
                    refine lMz_3 E  dX6_copy_90 ?_
                    refine J_i2l E dX6_copy_91 rfl ?_
                    refine J_lcmp E dX6_copy_92 ?_
                    refine J_if_gt E (tgt := 118) dX6_copy_93 (by decide) (fun c_93 => ?_) (fun c_93 => ?_)
                    · skip
                      refine J_iconst E dX6_copy_118 ic_0 ?_
                      refine J_istore E (lv' := [(6, .int 0), (0, .ref (b 0)), (1, .int (nI 3)), (2, .int f), (3, .int (nI 3)), (4, .int o), (5, .int n)]) dX6_copy_119 (by decide) rfl ?_
                      refine J_iload E dX6_copy_121 0 rfl ?_
                      refine J_if_ne E (tgt := 132) dX6_copy_123 (by decide) (fun c_123 => ?_) (fun c_123 => ?_)
                      · skip
                        have n_123 : ¬ 0 = 0 := cmp_ne (a := 0) (b := 0) (by omega) (by omega) c_123
                        exact absurd n_123 (by decide)
                      · skip
                        have n_123 : 0 = 0 := cmp_eq (a := 0) (b := 0) (by omega) (by omega) c_123
                        refine J_aload_n E dX6_copy_126 rfl 1 rfl ?_
                        refine J_iconst E dX6_copy_127 ic_0 ?_
                        refine J_cVi0 E (As := [.int 0]) (c_X6_finds l G b y 0 (by omega)) cl_X6_96 yo_X6_finds dX6_copy_128 rfl rfl rfl (Nat.le_of_ble_eq_true rfl) (Nat.le_of_ble_eq_true rfl) rfl (Nat.le_of_ble_eq_true rfl) ⟨Nat.zero_le _, Nat.zero_le _⟩ ?_
                        exact ret _ _ _ _ ⟨rfl, _, rfl, by intro g h2 h5 h6; by_cases h0 : g = 0 <;> simp [tellX, upG, up3, up3R, up2, h0, h2, h5, h6]⟩ rfl dX6_copy_131
                    · skip
                      refine J_iload E dX6_copy_96 4 rfl ?_
                      refine J_i2l E dX6_copy_98 rfl ?_
                      refine J_iload E dX6_copy_99 5 rfl ?_
                      refine J_i2l E dX6_copy_101 rfl ?_
                      refine J_ladd E dX6_copy_102 ?_
                      refine J_aload_n E dX6_copy_103 rfl 0 rfl ?_
                      refine gM0_X6_34 E dX6_copy_104 ?_
                      refine J_iload_n E dX6_copy_107 rfl 3 rfl ?_
                      refine lMz_3 E  dX6_copy_108 ?_
                      refine J_i2l E dX6_copy_109 rfl ?_
                      refine J_lcmp E dX6_copy_110 ?_
                      refine J_if_gt E (tgt := 118) dX6_copy_111 (by decide) (fun c_111 => ?_) (fun c_111 => ?_)
                      · skip
                        refine J_iconst E dX6_copy_118 ic_0 ?_
                        refine J_istore E (lv' := [(6, .int 0), (0, .ref (b 0)), (1, .int (nI 3)), (2, .int f), (3, .int (nI 3)), (4, .int o), (5, .int n)]) dX6_copy_119 (by decide) rfl ?_
                        refine J_iload E dX6_copy_121 0 rfl ?_
                        refine J_if_ne E (tgt := 132) dX6_copy_123 (by decide) (fun c_123 => ?_) (fun c_123 => ?_)
                        · skip
                          have n_123 : ¬ 0 = 0 := cmp_ne (a := 0) (b := 0) (by omega) (by omega) c_123
                          exact absurd n_123 (by decide)
                        · skip
                          have n_123 : 0 = 0 := cmp_eq (a := 0) (b := 0) (by omega) (by omega) c_123
                          refine J_aload_n E dX6_copy_126 rfl 1 rfl ?_
                          refine J_iconst E dX6_copy_127 ic_0 ?_
                          refine J_cVi0 E (As := [.int 0]) (c_X6_finds l G b y 0 (by omega)) cl_X6_96 yo_X6_finds dX6_copy_128 rfl rfl rfl (Nat.le_of_ble_eq_true rfl) (Nat.le_of_ble_eq_true rfl) rfl (Nat.le_of_ble_eq_true rfl) ⟨Nat.zero_le _, Nat.zero_le _⟩ ?_
                          exact ret _ _ _ _ ⟨rfl, _, rfl, by intro g h2 h5 h6; by_cases h0 : g = 0 <;> simp [tellX, upG, up3, up3R, up2, h0, h2, h5, h6]⟩ rfl dX6_copy_131
                      · skip
                        exact absurd ⟨runT h5 hn1 (c_71) (c_67) (Int32.not_lt.mp c_93), runT h7 hn2 (c_76) (c_67) (Int32.not_lt.mp c_111)⟩ hb
            · skip
              exact absurd h3 c_56
          · skip
            exact absurd c_35 h2
      · skip
        have c_11 := bI_0 c_11
        exact absurd (in3 (by decide)) c_11
