set_option maxHeartbeats 4000000 in
set_option maxRecDepth 20000 in
theorem c_X6_copy_ok_3_3 (l : Launch) (G : GB) (b : Nat → Nat) (y : Q3) (f o m n1 n2 : Nat) (h1 : ¬ y 11 1 0 = 0) (h2 : ¬ y 11 1 0 = 0) (h3 : y 11 1 0 = y 11 1 0) (h5 : y 11 1 1 = nI n1) (h7 : y 11 1 1 = nI n2) (h4 : f + m ≤ n1) (h6 : o + m ≤ n2) (hn1 : n1 ≤ 40) (hn2 : n2 ≤ 40) : CI l yX6_copy cX6_copy 8 .int 2 45 G [.ref (b 0), .int (nI 3), .int (nI f), .int (nI 3), .int (nI o), .int (nI m)] (wM G b y) (fun vR w' => vR = nI m ∧ PubM G b (cpyQ y 3 f 3 o m) w') := by
  refine CI.mk (own := RX6) (by decide) rfl (Nat.le_of_ble_eq_true rfl) ?_
  intro X E ret
  show J X G 8 0 0 (wM G b y) [(0, .ref (b 0)), (1, .int (nI 3)), (2, .int (nI f)), (3, .int (nI 3)), (4, .int (nI o)), (5, .int (nI m))] 0 []
  refine J_iload_n E dX6_copy_0 rfl 1 rfl ?_
  refine J_cSiN E (As := [.int (nI 3)]) (c_X6_isSheet l G (nI 3) ) cl_X6_303 yo_X6_isSheet dX6_copy_1 rfl (Nat.le_of_ble_eq_true rfl) (Nat.le_of_ble_eq_true rfl) rfl (Nat.le_of_ble_eq_true rfl) ⟨Nat.zero_le _, Nat.zero_le _⟩ ?_
  refine J_if_eq E (tgt := 14) dX6_copy_4 (by decide) (fun c_4 => ?_) (fun c_4 => ?_)
  · skip
    have c_4 := bI_0 c_4
    exact absurd (in3 (by decide)) c_4
  · skip
    have c_4 := bI_1 c_4
    refine J_iload_n E dX6_copy_7 rfl 3 rfl ?_
    refine J_cSiN E (As := [.int (nI 3)]) (c_X6_isSheet l G (nI 3) ) cl_X6_303 yo_X6_isSheet dX6_copy_8 rfl (Nat.le_of_ble_eq_true rfl) (Nat.le_of_ble_eq_true rfl) rfl (Nat.le_of_ble_eq_true rfl) ⟨Nat.zero_le _, Nat.zero_le _⟩ ?_
    refine J_if_ne E (tgt := 20) dX6_copy_11 (by decide) (fun c_11 => ?_) (fun c_11 => ?_)
    · skip
      have c_11 := bI_1 c_11
      refine J_aload_n E dX6_copy_20 rfl 0 rfl ?_
      refine gM0_X6_31 E dX6_copy_21 ?_
      refine J_iload_n E dX6_copy_24 rfl 1 rfl ?_
      refine lMb_3 E  dX6_copy_25 ?_
      refine J_if_eq E (tgt := 38) dX6_copy_26 (by decide) (fun c_26 => ?_) (fun c_26 => ?_)
      · skip
        exact absurd c_26 h1
      · skip
        refine J_aload_n E dX6_copy_29 rfl 0 rfl ?_
        refine gM0_X6_31 E dX6_copy_30 ?_
        refine J_iload_n E dX6_copy_33 rfl 3 rfl ?_
        refine lMb_3 E  dX6_copy_34 ?_
        refine J_if_ne E (tgt := 44) dX6_copy_35 (by decide) (fun c_35 => ?_) (fun c_35 => ?_)
        · skip
          refine J_aload_n E dX6_copy_44 rfl 0 rfl ?_
          refine gM0_X6_31 E dX6_copy_45 ?_
          refine J_iload_n E dX6_copy_48 rfl 1 rfl ?_
          refine lMb_3 E  dX6_copy_49 ?_
          refine J_aload_n E dX6_copy_50 rfl 0 rfl ?_
          refine gM0_X6_31 E dX6_copy_51 ?_
          refine J_iload_n E dX6_copy_54 rfl 3 rfl ?_
          refine lMb_3 E  dX6_copy_55 ?_
          refine J_icmp_eq E (tgt := 65) dX6_copy_56 (by decide) (fun c_56 => ?_) (fun c_56 => ?_)
          · skip
            refine J_iload E dX6_copy_65 5 rfl ?_
            refine J_if_lt E (tgt := 118) dX6_copy_67 (by decide) (fun c_67 => ?_) (fun c_67 => ?_)
            · skip
              have n_67 : m < 0 := cmp_lt (a := m) (b := 0) (by omega) (by omega) c_67
              exact absurd n_67 (by omega)
            · skip
              have n_67 : ¬ m < 0 := cmp_nlt (a := m) (b := 0) (by omega) (by omega) c_67
              refine J_iload_n E dX6_copy_70 rfl 2 rfl ?_
              refine J_if_lt E (tgt := 118) dX6_copy_71 (by decide) (fun c_71 => ?_) (fun c_71 => ?_)
              · skip
                have n_71 : f < 0 := cmp_lt (a := f) (b := 0) (by omega) (by omega) c_71
                exact absurd n_71 (by omega)
              · skip
                have n_71 : ¬ f < 0 := cmp_nlt (a := f) (b := 0) (by omega) (by omega) c_71
                refine J_iload E dX6_copy_74 4 rfl ?_
                refine J_if_lt E (tgt := 118) dX6_copy_76 (by decide) (fun c_76 => ?_) (fun c_76 => ?_)
                · skip
                  have n_76 : o < 0 := cmp_lt (a := o) (b := 0) (by omega) (by omega) c_76
                  exact absurd n_76 (by omega)
                · skip
                  have n_76 : ¬ o < 0 := cmp_nlt (a := o) (b := 0) (by omega) (by omega) c_76
                  refine J_iload_n E dX6_copy_79 rfl 2 rfl ?_
                  refine J_i2l E dX6_copy_80 rfl ?_
                  refine J_iload E dX6_copy_81 5 rfl ?_
                  refine J_i2l E dX6_copy_83 rfl ?_
                  refine J_ladd E dX6_copy_84 ?_
                  refine J_aload_n E dX6_copy_85 rfl 0 rfl ?_
                  refine gM0_X6_34 E dX6_copy_86 ?_
                  refine J_iload_n E dX6_copy_89 rfl 1 rfl ?_
                  refine lMz_3 E  dX6_copy_90 ?_
                  refine J_i2l E dX6_copy_91 rfl ?_
                  refine J_lcmp E dX6_copy_92 ?_
                  refine J_if_gt E (tgt := 118) dX6_copy_93 (by decide) (fun c_93 => ?_) (fun c_93 => ?_)
                  · skip
                    exact absurd c_93 (runG h5 h4 hn1)
                  · skip
                    refine J_iload E dX6_copy_96 4 rfl ?_
                    refine J_i2l E dX6_copy_98 rfl ?_
                    refine J_iload E dX6_copy_99 5 rfl ?_
                    refine J_i2l E dX6_copy_101 rfl ?_
                    refine J_ladd E dX6_copy_102 ?_
                    refine J_aload_n E dX6_copy_103 rfl 0 rfl ?_
                    refine gM0_X6_34 E dX6_copy_104 ?_
                    refine J_iload_n E dX6_copy_107 rfl 3 rfl ?_
                    refine lMz_3 E  dX6_copy_108 ?_
                    refine J_i2l E dX6_copy_109 rfl ?_
                    refine J_lcmp E dX6_copy_110 ?_
                    refine J_if_gt E (tgt := 118) dX6_copy_111 (by decide) (fun c_111 => ?_) (fun c_111 => ?_)
                    · skip
                      exact absurd c_111 (runG h7 h6 hn2)
                    · skip
                      refine J_iconst E dX6_copy_114 ic_1 ?_
                      refine J_goto E (tgt := 119) dX6_copy_115 (by decide) ?_
                      refine J_istore E (lv' := [(6, .int 1), (0, .ref (b 0)), (1, .int (nI 3)), (2, .int (nI f)), (3, .int (nI 3)), (4, .int (nI o)), (5, .int (nI m))]) dX6_copy_119 (by decide) rfl ?_
                      refine J_iload E dX6_copy_121 0 rfl ?_
                      refine J_if_ne E (tgt := 132) dX6_copy_123 (by decide) (fun c_123 => ?_) (fun c_123 => ?_)
                      · skip
                        have n_123 : ¬ 1 = 0 := cmp_ne (a := 1) (b := 0) (by omega) (by omega) c_123
                        refine J_iconst E dX6_copy_132 ic_0 ?_
                        refine J_istore E (lv' := [(7, .int 0), (6, .int 1), (0, .ref (b 0)), (1, .int (nI 3)), (2, .int (nI f)), (3, .int (nI 3)), (4, .int (nI o)), (5, .int (nI m))]) dX6_copy_133 (by decide) rfl ?_
                        refine J_w (ws' := wM G b (upG y 5 (y 5))) (congrArg (wM G b) upG_id.symm) ?_
                        have lp135 : ∀ (fu : Nat) (j1 : Nat) (d : Q2), (j1 ≤ m) → (∀ u, u < j1 → d 3 u = y 11 0 (f + u)) → m - j1 < fu → J X G 8 0 0 (wM G b (upG y 5 d)) [(0, .ref (b 0)), (1, .int (nI 3)), (2, .int (nI f)), (3, .int (nI 3)), (4, .int (nI o)), (5, .int (nI m)), (7, .int (nI j1))] 135 [] := by
                          intro fu
                          induction fu with
                          | zero => intro j1 d hj hd hm; exact absurd hm (Nat.not_lt_zero _)
                          | succ fu ih135 =>
                            intro j1 d hj hd hm
                            refine J_iload E dX6_copy_135 6 rfl ?_
                            refine J_iload E dX6_copy_137 5 rfl ?_
                            refine J_icmp_ge E (tgt := 169) dX6_copy_139 (by decide) (fun c_139 => ?_) (fun c_139 => ?_)
                            · skip
                              have n_139 : m ≤ j1 := cmp_le (a := m) (b := j1) (by omega) (by omega) c_139
                              refine J_iconst E dX6_copy_169 ic_0 ?_
                              refine J_istore E (lv' := [(7, .int 0), (0, .ref (b 0)), (1, .int (nI 3)), (2, .int (nI f)), (3, .int (nI 3)), (4, .int (nI o)), (5, .int (nI m))]) dX6_copy_170 (by decide) rfl ?_
                              have lp172 : ∀ (fu : Nat) (j2 : Nat) (d2 : Q2) (r : Q2), (j2 ≤ m) → (∀ u, u < m → d2 3 u = y 11 0 (f + u)) → (r = upR (y 11) 0 (cpF (y 11 0) o (fun u => y 11 0 (f + u)) j2)) → m - j2 < fu → J X G 8 0 0 (wM G b (upG (upG y 5 d2) 11 r)) [(0, .ref (b 0)), (1, .int (nI 3)), (2, .int (nI f)), (3, .int (nI 3)), (4, .int (nI o)), (5, .int (nI m)), (7, .int (nI j2))] 172 [] := by
                                intro fu
                                induction fu with
                                | zero => intro j2 d2 r hj2 hd2 hr hm; exact absurd hm (Nat.not_lt_zero _)
                                | succ fu ih172 =>
                                  intro j2 d2 r hj2 hd2 hr hm
                                  refine J_iload E dX6_copy_172 6 rfl ?_
                                  refine J_iload E dX6_copy_174 5 rfl ?_
                                  refine J_icmp_ge E (tgt := 207) dX6_copy_176 (by decide) (fun c_176 => ?_) (fun c_176 => ?_)
                                  · skip
                                    have n_176 : m ≤ j2 := cmp_le (a := m) (b := j2) (by omega) (by omega) c_176
                                    refine J_iload E dX6_copy_207 5 rfl ?_
                                    refine J_mr11 (f := va_cpy (y 11 0) (y 11 0) f o m) (fun j hj => by rw [hr, show j2 = m by omega]; exact cpF_eq (y 11 0) (y 11 0) o f m j) ?_
                                    exact ret _ _ _ _ ⟨rfl, _, rfl, by rw [hr, upR_upR]; intro g h2 h5 h6; by_cases hg : g = 11 <;> simp [cpyQ, upG, hg, h5]⟩ rfl dX6_copy_209
                                  · skip
                                    have n_176 : ¬ m ≤ j2 := cmp_nle (a := m) (b := j2) (by omega) (by omega) c_176
                                    refine J_aload_n E dX6_copy_179 rfl 0 rfl ?_
                                    refine gM0_X6_37 E dX6_copy_180 ?_
                                    refine J_bipush E dX6_copy_183 bp_40 ?_
                                    refine J_iload_n E dX6_copy_185 rfl 3 rfl ?_
                                    refine J_imul E dX6_copy_186 ?_
                                    refine J_top (x' := nI 120) (by decide) ?_
                                    refine J_iload E dX6_copy_187 4 rfl ?_
                                    refine J_iadd E dX6_copy_189 ?_
                                    refine J_top (x' := nI (120 + o)) (nI_add 120 o) ?_
                                    refine J_iload E dX6_copy_190 6 rfl ?_
                                    refine J_iadd E dX6_copy_192 ?_
                                    refine J_top (x' := nI (120 + (o + j2))) (by rw [nI_add, Nat.add_assoc]) ?_
                                    refine J_aload_n E dX6_copy_193 rfl 0 rfl ?_
                                    refine gM0_X6_40 E dX6_copy_194 ?_
                                    refine J_iload E dX6_copy_197 6 rfl ?_
                                    refine lM_11 E (j := j2) dX6_copy_199 (by omega) ?_
                                    refine J_top (x' := d2 3 j2) (Eq.trans (upG_n (by decide)) upG_s) ?_
                                    refine J_top (x' := y 11 0 (f + j2)) (hd2 j2 (by omega)) ?_
                                    refine sMn_3 E (j := (120 + (o + j2))) (i := (o + j2)) rfl (by omega) dX6_copy_200 ?_
                                    refine J_iinc E (lv' := [(7, .int (nI (j2 + 1))), (0, .ref (b 0)), (1, .int (nI 3)), (2, .int (nI f)), (3, .int (nI 3)), (4, .int (nI o)), (5, .int (nI m))]) dX6_copy_201 6 rfl (nI_inc _) (by decide) rfl ?_
                                    refine J_goto E (tgt := 172) dX6_copy_204 (by decide) ?_
                                    refine J_lv [1, 2, 3, 4, 5, 6, 0] rfl ?_
                                    refine J_w (ws' := wM G b (upG (upG y 5 d2) 11 ((up3 (upG (upG y 5 d2) 11 r) 11 0 (o + j2) (y 11 0 (f + j2))) 11))) (wM_c rfl rfl rfl rfl rfl rfl rfl rfl rfl rfl rfl) ?_
                                    exact ih172 (j2 + 1) d2 ((up3 (upG (upG y 5 d2) 11 r) 11 0 (o + j2) (y 11 0 (f + j2))) 11) (by omega) hd2 (by rw [hr]; exact up2_upR) (by omega)
                              refine J_lv [1, 2, 3, 4, 5, 6, 0] rfl ?_
                              refine J_w (ws' := wM G b (upG (upG y 5 d) 11 (y 11))) (wM_c rfl rfl rfl rfl rfl rfl rfl rfl rfl rfl rfl) ?_
                              exact lp172 _ 0 d (y 11) (by omega) (fun u hu => hd u (by omega)) upR_id.symm (Nat.lt_succ_self _)
                            · skip
                              have n_139 : ¬ m ≤ j1 := cmp_nle (a := m) (b := j1) (by omega) (by omega) c_139
                              refine J_aload_n E dX6_copy_142 rfl 0 rfl ?_
                              refine gM0_X6_40 E dX6_copy_143 ?_
                              refine J_iload E dX6_copy_146 6 rfl ?_
                              refine J_aload_n E dX6_copy_148 rfl 0 rfl ?_
                              refine gM0_X6_37 E dX6_copy_149 ?_
                              refine J_bipush E dX6_copy_152 bp_40 ?_
                              refine J_iload_n E dX6_copy_154 rfl 1 rfl ?_
                              refine J_imul E dX6_copy_155 ?_
                              refine J_top (x' := nI 120) (by decide) ?_
                              refine J_iload_n E dX6_copy_156 rfl 2 rfl ?_
                              refine J_iadd E dX6_copy_157 ?_
                              refine J_top (x' := nI (120 + f)) (nI_add 120 f) ?_
                              refine J_iload E dX6_copy_158 6 rfl ?_
                              refine J_iadd E dX6_copy_160 ?_
                              refine J_top (x' := nI (120 + (f + j1))) (by rw [nI_add, Nat.add_assoc]) ?_
                              refine lMn_3 E (j := (120 + (f + j1))) (i := (f + j1)) rfl (by omega) dX6_copy_161 ?_
                              refine J_top (x' := y 11 0 (f + j1)) (upG_n (by decide)) ?_
                              refine sM_11 E (j := j1) dX6_copy_162 (by omega) ?_
                              refine J_iinc E (lv' := [(7, .int (nI (j1 + 1))), (0, .ref (b 0)), (1, .int (nI 3)), (2, .int (nI f)), (3, .int (nI 3)), (4, .int (nI o)), (5, .int (nI m))]) dX6_copy_163 6 rfl (nI_inc _) (by decide) rfl ?_
                              refine J_goto E (tgt := 135) dX6_copy_166 (by decide) ?_
                              refine J_lv [1, 2, 3, 4, 5, 6, 0] rfl ?_
                              refine J_w (ws' := wM G b (upG y 5 ((up3 (upG y 5 d) 5 3 j1 (y 11 0 (f + j1))) 5))) (wM_c rfl rfl rfl rfl rfl rfl rfl rfl rfl rfl rfl) ?_
                              exact ih135 (j1 + 1) ((up3 (upG y 5 d) 5 3 j1 (y 11 0 (f + j1))) 5) (by omega) (fun u hu => by show upd (d 3) j1 _ u = _; by_cases e : u = j1; rw [e]; exact pk_us; rw [pk_un e]; exact hd u (by omega)) (by omega)
                        refine J_lv [2, 3, 4, 5, 6, 7, 0] rfl ?_
                        refine J_w (ws' := wM G b (upG y 5 (y 5))) (wM_c rfl rfl rfl rfl rfl rfl rfl rfl rfl rfl rfl) ?_
                        exact lp135 _ 0 (y 5) (by omega) (fun u hu => absurd hu (Nat.not_lt_zero u)) (Nat.lt_succ_self _)
                      · skip
                        have n_123 : 1 = 0 := cmp_eq (a := 1) (b := 0) (by omega) (by omega) c_123
                        exact absurd n_123 (by decide)
          · skip
            exact absurd h3 c_56
        · skip
          exact absurd c_35 h2
    · skip
      have c_11 := bI_0 c_11
      exact absurd (in3 (by decide)) c_11
