set_option maxHeartbeats 4000000 in
set_option maxRecDepth 20000 in
theorem c_X6_judge_ok_2 (l : Launch) (G : GB) (b : Nat → Nat) (y : Q3) (n : Nat) (hb : ¬ y 10 1 0 = 0) (hn : y 10 1 1 = nI n) (hn2 : n ≤ 40) : CI l yX6_judge cX6_judge 4 .int 3 68 G [.ref (b 0), .int (nI 2)] (wM G b y) (fun vR w' => vR = judgR (y 0) (y 10 0) n 0 ∧ PubM G b y w') := by
  refine CI.mk (own := RX6) (by decide) rfl (Nat.le_of_ble_eq_true rfl) ?_
  intro X E ret
  show J X G 4 0 0 (wM G b y) [(0, .ref (b 0)), (1, .int (nI 2))] 0 []
  refine J_aload_n E dX6_judge_0 rfl 0 rfl ?_
  refine J_iload_n E dX6_judge_1 rfl 1 rfl ?_
  refine J_cVi0 E (As := [.int (nI 2)]) (c_X6_lacks_2_1 l G b y hb ) cl_X6_197 yo_X6_lacks dX6_judge_2 rfl rfl rfl (Nat.le_of_ble_eq_true rfl) (Nat.le_of_ble_eq_true rfl) rfl (Nat.le_of_ble_eq_true rfl) ⟨Nat.zero_le _, Nat.zero_le _⟩ ?_
  refine J_istore_n E (lv' := [(2, .int (-1)), (0, .ref (b 0)), (1, .int (nI 2))]) dX6_judge_5 rfl (by decide) rfl ?_
  refine J_iload_n E dX6_judge_6 rfl 0 rfl ?_
  refine J_if_lt E (tgt := 16) dX6_judge_7 (by decide) (fun c_7 => ?_) (fun c_7 => ?_)
  · skip
    refine J_iconst E dX6_judge_16 ic_0 ?_
    refine J_istore_n E (lv' := [(3, .int 0), (2, .int (-1)), (0, .ref (b 0)), (1, .int (nI 2))]) dX6_judge_17 rfl (by decide) rfl ?_
    have lp18 : ∀ (fu : Nat) (i : Nat), (i ≤ n) → (judgR (y 0) (y 10 0) n 0 = judgR (y 0) (y 10 0) (n - i) i) → (0 < i → okH (y 10 0 (i - 1))) → n - i < fu → J X G 4 0 0 (wM G b y) [(0, .ref (b 0)), (1, .int (nI 2)), (2, .int (-1)), (3, .int (nI i))] 18 [] := by
      intro fu
      induction fu with
      | zero => intro i hi h1 hp hm; exact absurd hm (Nat.not_lt_zero _)
      | succ fu ih18 =>
        intro i hi h1 hp hm
        refine J_iload_n E dX6_judge_18 rfl 3 rfl ?_
        refine J_aload_n E dX6_judge_19 rfl 0 rfl ?_
        refine gM0_X6_34 E dX6_judge_20 ?_
        refine J_iload_n E dX6_judge_23 rfl 1 rfl ?_
        refine lMz_2 E  dX6_judge_24 ?_
        refine J_top (x' := nI n) (hn) ?_
        refine J_icmp_ge E (tgt := 43) dX6_judge_25 (by decide) (fun c_25 => ?_) (fun c_25 => ?_)
        · skip
          have n_25 : n ≤ i := cmp_le (a := n) (b := i) (by omega) (by omega) c_25
          have h2 : judgR (y 0) (y 10 0) n 0 = 0 := by rw [h1, show n - i = 0 by omega]; rfl
          refine J_iload_n E dX6_judge_43 rfl 3 rfl ?_
          refine J_aload_n E dX6_judge_44 rfl 0 rfl ?_
          refine gM0_X6_34 E dX6_judge_45 ?_
          refine J_iload_n E dX6_judge_48 rfl 1 rfl ?_
          refine lMz_2 E  dX6_judge_49 ?_
          refine J_top (x' := nI n) (hn) ?_
          refine J_icmp_ne E (tgt := 57) dX6_judge_50 (by decide) (fun c_50 => ?_) (fun c_50 => ?_)
          · skip
            have n_50 : ¬ i = n := cmp_ne (a := i) (b := n) (by omega) (by omega) c_50
            refine J_iload_n E dX6_judge_57 rfl 3 rfl ?_
            refine J_iconst E dX6_judge_58 ic_1 ?_
            refine J_iadd E dX6_judge_59 ?_
            exact ret _ _ _ _ ⟨by first | (exfalso; omega) | (rw [h2]; done) | (rw [h2, Int32.add_comm]), _, rfl, by first | exact ShM.rfl' | (exfalso; omega)⟩ rfl dX6_judge_60
          · skip
            have n_50 : i = n := cmp_eq (a := i) (b := n) (by omega) (by omega) c_50
            refine J_iconst E dX6_judge_53 ic_0 ?_
            refine J_goto E (tgt := 60) dX6_judge_54 (by decide) ?_
            exact ret _ _ _ _ ⟨by first | (exfalso; omega) | (rw [h2]; done) | (rw [h2, Int32.add_comm]), _, rfl, by first | exact ShM.rfl' | (exfalso; omega)⟩ rfl dX6_judge_60
        · skip
          have n_25 : ¬ n ≤ i := cmp_nle (a := n) (b := i) (by omega) (by omega) c_25
          refine J_aload_n E dX6_judge_28 rfl 0 rfl ?_
          refine J_iload_n E dX6_judge_29 rfl 1 rfl ?_
          refine J_iload_n E dX6_judge_30 rfl 3 rfl ?_
          refine J_cVi0 E (As := [.int (nI 2), .int (nI i)]) (c_X6_goesOn_2 l G b y i (by omega) hp) cl_X6_306 yo_X6_goesOn dX6_judge_31 rfl rfl rfl (Nat.le_of_ble_eq_true rfl) (Nat.le_of_ble_eq_true rfl) rfl (Nat.le_of_ble_eq_true rfl) ⟨Nat.zero_le _, Nat.zero_le _⟩ ?_
          refine J_if_eq E (tgt := 43) dX6_judge_34 (by decide) (fun c_34 => ?_) (fun c_34 => ?_)
          · skip
            have c_34 := bI_0 c_34
            have h2 : judgR (y 0) (y 10 0) n 0 = 1 + nI i := by rw [h1, show n - i = (n - (i + 1)) + 1 by omega, judgR, if_neg c_34]
            refine J_iload_n E dX6_judge_43 rfl 3 rfl ?_
            refine J_aload_n E dX6_judge_44 rfl 0 rfl ?_
            refine gM0_X6_34 E dX6_judge_45 ?_
            refine J_iload_n E dX6_judge_48 rfl 1 rfl ?_
            refine lMz_2 E  dX6_judge_49 ?_
            refine J_top (x' := nI n) (hn) ?_
            refine J_icmp_ne E (tgt := 57) dX6_judge_50 (by decide) (fun c_50 => ?_) (fun c_50 => ?_)
            · skip
              have n_50 : ¬ i = n := cmp_ne (a := i) (b := n) (by omega) (by omega) c_50
              refine J_iload_n E dX6_judge_57 rfl 3 rfl ?_
              refine J_iconst E dX6_judge_58 ic_1 ?_
              refine J_iadd E dX6_judge_59 ?_
              exact ret _ _ _ _ ⟨by first | (exfalso; omega) | (rw [h2]; done) | (rw [h2, Int32.add_comm]), _, rfl, by first | exact ShM.rfl' | (exfalso; omega)⟩ rfl dX6_judge_60
            · skip
              have n_50 : i = n := cmp_eq (a := i) (b := n) (by omega) (by omega) c_50
              refine J_iconst E dX6_judge_53 ic_0 ?_
              refine J_goto E (tgt := 60) dX6_judge_54 (by decide) ?_
              exact ret _ _ _ _ ⟨by first | (exfalso; omega) | (rw [h2]; done) | (rw [h2, Int32.add_comm]), _, rfl, by first | exact ShM.rfl' | (exfalso; omega)⟩ rfl dX6_judge_60
          · skip
            have c_34 := bI_1 c_34
            refine J_iinc E (lv' := [(3, .int (nI (i + 1))), (0, .ref (b 0)), (1, .int (nI 2)), (2, .int (-1))]) dX6_judge_37 3 rfl (nI_inc _) (by decide) rfl ?_
            refine J_goto E (tgt := 18) dX6_judge_40 (by decide) ?_
            refine J_lv [1, 2, 3, 0] rfl ?_
            exact ih18 (i + 1) (by omega) (by rw [h1, show n - i = (n - (i + 1)) + 1 by omega, judgR, if_pos c_34]) (fun _ => (of_decide_eq_true c_34).1) (by omega)
    refine J_lv [2, 3, 1, 0] rfl ?_
    exact lp18 _ 0 (by omega) rfl (fun z => absurd z (Nat.lt_irrefl 0)) (Nat.lt_succ_self _)
  · skip
    exact absurd c_7 (by decide)

set_option maxHeartbeats 4000000 in
set_option maxRecDepth 20000 in
theorem c_X6_judge_ok_3 (l : Launch) (G : GB) (b : Nat → Nat) (y : Q3) (n : Nat) (hb : ¬ y 11 1 0 = 0) (hn : y 11 1 1 = nI n) (hn2 : n ≤ 40) : CI l yX6_judge cX6_judge 4 .int 3 68 G [.ref (b 0), .int (nI 3)] (wM G b y) (fun vR w' => vR = judgR (y 0) (y 11 0) n 0 ∧ PubM G b y w') := by
  refine CI.mk (own := RX6) (by decide) rfl (Nat.le_of_ble_eq_true rfl) ?_
  intro X E ret
  show J X G 4 0 0 (wM G b y) [(0, .ref (b 0)), (1, .int (nI 3))] 0 []
  refine J_aload_n E dX6_judge_0 rfl 0 rfl ?_
  refine J_iload_n E dX6_judge_1 rfl 1 rfl ?_
  refine J_cVi0 E (As := [.int (nI 3)]) (c_X6_lacks_3_1 l G b y hb ) cl_X6_197 yo_X6_lacks dX6_judge_2 rfl rfl rfl (Nat.le_of_ble_eq_true rfl) (Nat.le_of_ble_eq_true rfl) rfl (Nat.le_of_ble_eq_true rfl) ⟨Nat.zero_le _, Nat.zero_le _⟩ ?_
  refine J_istore_n E (lv' := [(2, .int (-1)), (0, .ref (b 0)), (1, .int (nI 3))]) dX6_judge_5 rfl (by decide) rfl ?_
  refine J_iload_n E dX6_judge_6 rfl 0 rfl ?_
  refine J_if_lt E (tgt := 16) dX6_judge_7 (by decide) (fun c_7 => ?_) (fun c_7 => ?_)
  · skip
    refine J_iconst E dX6_judge_16 ic_0 ?_
    refine J_istore_n E (lv' := [(3, .int 0), (2, .int (-1)), (0, .ref (b 0)), (1, .int (nI 3))]) dX6_judge_17 rfl (by decide) rfl ?_
    have lp18 : ∀ (fu : Nat) (i : Nat), (i ≤ n) → (judgR (y 0) (y 11 0) n 0 = judgR (y 0) (y 11 0) (n - i) i) → (0 < i → okH (y 11 0 (i - 1))) → n - i < fu → J X G 4 0 0 (wM G b y) [(0, .ref (b 0)), (1, .int (nI 3)), (2, .int (-1)), (3, .int (nI i))] 18 [] := by
      intro fu
      induction fu with
      | zero => intro i hi h1 hp hm; exact absurd hm (Nat.not_lt_zero _)
      | succ fu ih18 =>
        intro i hi h1 hp hm
        refine J_iload_n E dX6_judge_18 rfl 3 rfl ?_
        refine J_aload_n E dX6_judge_19 rfl 0 rfl ?_
        refine gM0_X6_34 E dX6_judge_20 ?_
        refine J_iload_n E dX6_judge_23 rfl 1 rfl ?_
        refine lMz_3 E  dX6_judge_24 ?_
        refine J_top (x' := nI n) (hn) ?_
        refine J_icmp_ge E (tgt := 43) dX6_judge_25 (by decide) (fun c_25 => ?_) (fun c_25 => ?_)
        · skip
          have n_25 : n ≤ i := cmp_le (a := n) (b := i) (by omega) (by omega) c_25
          have h2 : judgR (y 0) (y 11 0) n 0 = 0 := by rw [h1, show n - i = 0 by omega]; rfl
          refine J_iload_n E dX6_judge_43 rfl 3 rfl ?_
          refine J_aload_n E dX6_judge_44 rfl 0 rfl ?_
          refine gM0_X6_34 E dX6_judge_45 ?_
          refine J_iload_n E dX6_judge_48 rfl 1 rfl ?_
          refine lMz_3 E  dX6_judge_49 ?_
          refine J_top (x' := nI n) (hn) ?_
          refine J_icmp_ne E (tgt := 57) dX6_judge_50 (by decide) (fun c_50 => ?_) (fun c_50 => ?_)
          · skip
            have n_50 : ¬ i = n := cmp_ne (a := i) (b := n) (by omega) (by omega) c_50
            refine J_iload_n E dX6_judge_57 rfl 3 rfl ?_
            refine J_iconst E dX6_judge_58 ic_1 ?_
            refine J_iadd E dX6_judge_59 ?_
            exact ret _ _ _ _ ⟨by first | (exfalso; omega) | (rw [h2]; done) | (rw [h2, Int32.add_comm]), _, rfl, by first | exact ShM.rfl' | (exfalso; omega)⟩ rfl dX6_judge_60
          · skip
            have n_50 : i = n := cmp_eq (a := i) (b := n) (by omega) (by omega) c_50
            refine J_iconst E dX6_judge_53 ic_0 ?_
            refine J_goto E (tgt := 60) dX6_judge_54 (by decide) ?_
            exact ret _ _ _ _ ⟨by first | (exfalso; omega) | (rw [h2]; done) | (rw [h2, Int32.add_comm]), _, rfl, by first | exact ShM.rfl' | (exfalso; omega)⟩ rfl dX6_judge_60
        · skip
          have n_25 : ¬ n ≤ i := cmp_nle (a := n) (b := i) (by omega) (by omega) c_25
          refine J_aload_n E dX6_judge_28 rfl 0 rfl ?_
          refine J_iload_n E dX6_judge_29 rfl 1 rfl ?_
          refine J_iload_n E dX6_judge_30 rfl 3 rfl ?_
          refine J_cVi0 E (As := [.int (nI 3), .int (nI i)]) (c_X6_goesOn_3 l G b y i (by omega) hp) cl_X6_306 yo_X6_goesOn dX6_judge_31 rfl rfl rfl (Nat.le_of_ble_eq_true rfl) (Nat.le_of_ble_eq_true rfl) rfl (Nat.le_of_ble_eq_true rfl) ⟨Nat.zero_le _, Nat.zero_le _⟩ ?_
          refine J_if_eq E (tgt := 43) dX6_judge_34 (by decide) (fun c_34 => ?_) (fun c_34 => ?_)
          · skip
            have c_34 := bI_0 c_34
            have h2 : judgR (y 0) (y 11 0) n 0 = 1 + nI i := by rw [h1, show n - i = (n - (i + 1)) + 1 by omega, judgR, if_neg c_34]
            refine J_iload_n E dX6_judge_43 rfl 3 rfl ?_
            refine J_aload_n E dX6_judge_44 rfl 0 rfl ?_
            refine gM0_X6_34 E dX6_judge_45 ?_
            refine J_iload_n E dX6_judge_48 rfl 1 rfl ?_
            refine lMz_3 E  dX6_judge_49 ?_
            refine J_top (x' := nI n) (hn) ?_
            refine J_icmp_ne E (tgt := 57) dX6_judge_50 (by decide) (fun c_50 => ?_) (fun c_50 => ?_)
            · skip
              have n_50 : ¬ i = n := cmp_ne (a := i) (b := n) (by omega) (by omega) c_50
              refine J_iload_n E dX6_judge_57 rfl 3 rfl ?_
              refine J_iconst E dX6_judge_58 ic_1 ?_
              refine J_iadd E dX6_judge_59 ?_
              exact ret _ _ _ _ ⟨by first | (exfalso; omega) | (rw [h2]; done) | (rw [h2, Int32.add_comm]), _, rfl, by first | exact ShM.rfl' | (exfalso; omega)⟩ rfl dX6_judge_60
            · skip
              have n_50 : i = n := cmp_eq (a := i) (b := n) (by omega) (by omega) c_50
              refine J_iconst E dX6_judge_53 ic_0 ?_
              refine J_goto E (tgt := 60) dX6_judge_54 (by decide) ?_
              exact ret _ _ _ _ ⟨by first | (exfalso; omega) | (rw [h2]; done) | (rw [h2, Int32.add_comm]), _, rfl, by first | exact ShM.rfl' | (exfalso; omega)⟩ rfl dX6_judge_60
          · skip
            have c_34 := bI_1 c_34
            refine J_iinc E (lv' := [(3, .int (nI (i + 1))), (0, .ref (b 0)), (1, .int (nI 3)), (2, .int (-1))]) dX6_judge_37 3 rfl (nI_inc _) (by decide) rfl ?_
            refine J_goto E (tgt := 18) dX6_judge_40 (by decide) ?_
            refine J_lv [1, 2, 3, 0] rfl ?_
            exact ih18 (i + 1) (by omega) (by rw [h1, show n - i = (n - (i + 1)) + 1 by omega, judgR, if_pos c_34]) (fun _ => (of_decide_eq_true c_34).1) (by omega)
    refine J_lv [2, 3, 1, 0] rfl ?_
    exact lp18 _ 0 (by omega) rfl (fun z => absurd z (Nat.lt_irrefl 0)) (Nat.lt_succ_self _)
  · skip
    exact absurd c_7 (by decide)
