set_option maxHeartbeats 4000000 in
set_option maxRecDepth 20000 in
theorem c_X6_isSo_0 (l : Launch) (G : GB) (b : Nat → Nat) (y : Q3) (j n : Nat) (hj : j < 11) (hn : y 8 1 1 = nI n) (hn2 : n ≤ 40) (hok : okQ (y 0))  : CI l yX6_isSo cX6_isSo 6 .boolean 4 91 G [.ref (b 0), .int (nI 0), .int (nI j)] (wM G b y) (fun vR w' => vR = bI (soF (y 8 0) j (y 0) n = true) ∧ ∃ d : Q2, w' = wM G b (upG (upG y 5 d) 0 (hoursR (y 0) n))) := by
  refine CI.mk (own := RX6) (by decide) rfl (Nat.le_of_ble_eq_true rfl) ?_
  intro X E ret
  show J X G 6 0 0 (wM G b y) [(0, .ref (b 0)), (1, .int (nI 0)), (2, .int (nI j))] 0 []
  refine J_iconst E dX6_isSo_0 ic_1 ?_
  refine J_istore_n E (lv' := [(3, .int 1), (0, .ref (b 0)), (1, .int (nI 0)), (2, .int (nI j))]) dX6_isSo_1 rfl (by decide) rfl ?_
  refine J_iconst E dX6_isSo_2 ic_0 ?_
  refine J_istore E (lv' := [(4, .int 0), (3, .int 1), (0, .ref (b 0)), (1, .int (nI 0)), (2, .int (nI j))]) dX6_isSo_3 (by decide) rfl ?_
  refine J_w (ws' := wM G b (upG y 5 (y 5))) (congrArg (wM G b) upG_id.symm) ?_
  have lp5 : ∀ (fu : Nat) (i : Nat) (t : Int32) (d : Q2) (r : Q2), (i ≤ n) → (r = hoursR (y 0) i) → (t = bI (soF (y 8 0) j (y 0) i = true)) → n - i < fu → J X G 6 0 0 (wM G b (upG (upG y 5 d) 0 r)) [(0, .ref (b 0)), (1, .int (nI 0)), (2, .int (nI j)), (3, .int t), (4, .int (nI i))] 5 [] := by
    intro fu
    induction fu with
    | zero => intro i t d r hi hr hs hm; exact absurd hm (Nat.not_lt_zero _)
    | succ fu ih5 =>
      intro i t d r hi hr hs hm
      refine J_iload E dX6_isSo_5 4 rfl ?_
      refine J_aload_n E dX6_isSo_7 rfl 0 rfl ?_
      refine gM0_X6_34 E dX6_isSo_8 ?_
      refine J_iload_n E dX6_isSo_11 rfl 1 rfl ?_
      refine lMz_0 E  dX6_isSo_12 ?_
      refine J_top (x' := y 8 1 1) (Eq.trans (upG_n (by decide)) (upG_n (by decide))) ?_
      refine J_top (x' := nI n) (hn) ?_
      refine J_icmp_ge E (tgt := 67) dX6_isSo_13 (by decide) (fun c_13 => ?_) (fun c_13 => ?_)
      · skip
        have n_13 : n ≤ i := cmp_le (a := n) (b := i) (by omega) (by omega) c_13
        refine J_iload_n E dX6_isSo_67 rfl 3 rfl ?_
        exact ret _ _ _ _ ⟨by rw [hs, show i = n by omega], d, by subst hr; rw [show n = i by omega]⟩ (by rw [hs]; exact bI_nar) dX6_isSo_68
      · skip
        have n_13 : ¬ n ≤ i := cmp_nle (a := n) (b := i) (by omega) (by omega) c_13
        refine J_aload_n E dX6_isSo_16 rfl 0 rfl ?_
        refine gM0_X6_37 E dX6_isSo_17 ?_
        refine J_bipush E dX6_isSo_20 bp_40 ?_
        refine J_iload_n E dX6_isSo_22 rfl 1 rfl ?_
        refine J_imul E dX6_isSo_23 ?_
        refine J_top (x' := nI 0) (by decide) ?_
        refine J_iload E dX6_isSo_24 4 rfl ?_
        refine J_iadd E dX6_isSo_26 ?_
        refine J_top (x' := nI (0 + i)) (nI_add 0 i) ?_
        refine lMn_0 E (j := (0 + i)) (i := i) rfl (by omega) dX6_isSo_27 ?_
        refine J_top (x' := y 8 0 i) (Eq.trans (upG_n (by decide)) (upG_n (by decide))) ?_
        refine J_istore E (lv' := [(5, .int (y 8 0 i)), (0, .ref (b 0)), (1, .int (nI 0)), (2, .int (nI j)), (3, .int t), (4, .int (nI i))]) dX6_isSo_28 (by decide) rfl ?_
        refine J_iload_n E dX6_isSo_30 rfl 4 rfl ?_
        refine J_if_eq E (tgt := 55) dX6_isSo_31 (by decide) (fun c_31 => ?_) (fun c_31 => ?_)
        · skip
          refine J_iconst E dX6_isSo_55 ic_0 ?_
          refine J_istore_n E (lv' := [(3, .int 0), (5, .int (y 8 0 i)), (0, .ref (b 0)), (1, .int (nI 0)), (2, .int (nI j)), (4, .int (nI i))]) dX6_isSo_56 rfl (by decide) rfl ?_
          refine J_aload_n E dX6_isSo_57 rfl 2 rfl ?_
          refine J_cVv0 E (As := []) (c_X6_anHour l G b (upG (upG y 5 d) 0 r) (by rw [hr]; exact okQ_hs hok i)) cl_X6_138 yo_X6_anHour dX6_isSo_58 rfl rfl rfl (Nat.le_of_ble_eq_true rfl) (Nat.le_of_ble_eq_true rfl) rfl (Nat.le_of_ble_eq_true rfl) ⟨Nat.zero_le _, Nat.zero_le _⟩ ?_
          refine J_iinc E (lv' := [(4, .int (nI (i + 1))), (3, .int 0), (5, .int (y 8 0 i)), (0, .ref (b 0)), (1, .int (nI 0)), (2, .int (nI j))]) dX6_isSo_61 5 rfl (nI_inc _) (by decide) rfl ?_
          refine J_goto E (tgt := 5) dX6_isSo_64 (by decide) ?_
          refine J_lv [3, 4, 5, 1, 0] rfl ?_
          refine J_w (ws' := wM G b (upG (upG y 5 (hd5 r d)) 0 (hourR0 r))) (wM_c rfl rfl rfl rfl rfl rfl rfl rfl rfl rfl rfl) ?_
          exact ih5 (i + 1) 0 (hd5 r d) (hourR0 r) (by omega) (by rw [hr]; rfl) (by first | exact so_z hs c_31 | exact so_y hs c_31 (Or.inl c_37) | exact so_y hs c_31 (Or.inr (by rw [← hr]; exact c_48)) | exact so_n (fun z => z.elim c_37 (fun e => c_48 (by rw [hr]; exact e)))) (by omega)
        · skip
          refine J_iload E dX6_isSo_34 0 rfl ?_
          refine J_iconst E dX6_isSo_36 ic_m1 ?_
          refine J_icmp_eq E (tgt := 51) dX6_isSo_37 (by decide) (fun c_37 => ?_) (fun c_37 => ?_)
          · skip
            refine J_iconst E dX6_isSo_51 ic_1 ?_
            refine J_goto E (tgt := 56) dX6_isSo_52 (by decide) ?_
            refine J_istore_n E (lv' := [(3, .int 1), (5, .int (y 8 0 i)), (0, .ref (b 0)), (1, .int (nI 0)), (2, .int (nI j)), (4, .int (nI i))]) dX6_isSo_56 rfl (by decide) rfl ?_
            refine J_aload_n E dX6_isSo_57 rfl 2 rfl ?_
            refine J_cVv0 E (As := []) (c_X6_anHour l G b (upG (upG y 5 d) 0 r) (by rw [hr]; exact okQ_hs hok i)) cl_X6_138 yo_X6_anHour dX6_isSo_58 rfl rfl rfl (Nat.le_of_ble_eq_true rfl) (Nat.le_of_ble_eq_true rfl) rfl (Nat.le_of_ble_eq_true rfl) ⟨Nat.zero_le _, Nat.zero_le _⟩ ?_
            refine J_iinc E (lv' := [(4, .int (nI (i + 1))), (3, .int 1), (5, .int (y 8 0 i)), (0, .ref (b 0)), (1, .int (nI 0)), (2, .int (nI j))]) dX6_isSo_61 5 rfl (nI_inc _) (by decide) rfl ?_
            refine J_goto E (tgt := 5) dX6_isSo_64 (by decide) ?_
            refine J_lv [3, 4, 5, 1, 0] rfl ?_
            refine J_w (ws' := wM G b (upG (upG y 5 (hd5 r d)) 0 (hourR0 r))) (wM_c rfl rfl rfl rfl rfl rfl rfl rfl rfl rfl rfl) ?_
            exact ih5 (i + 1) 1 (hd5 r d) (hourR0 r) (by omega) (by rw [hr]; rfl) (by first | exact so_z hs c_31 | exact so_y hs c_31 (Or.inl c_37) | exact so_y hs c_31 (Or.inr (by rw [← hr]; exact c_48)) | exact so_n (fun z => z.elim c_37 (fun e => c_48 (by rw [hr]; exact e)))) (by omega)
          · skip
            refine J_iload E dX6_isSo_40 0 rfl ?_
            refine J_aload_n E dX6_isSo_42 rfl 1 rfl ?_
            refine J_iload_n E dX6_isSo_43 rfl 3 rfl ?_
            refine J_iconst E dX6_isSo_44 ic_1 ?_
            refine J_cVi0 E (As := [.int (nI j), .int 1]) (c_X6_its l G b (upG (upG y 5 d) 0 r) j 1 (by omega) (by omega)) cl_X6_64 yo_X6_its dX6_isSo_45 rfl rfl rfl (Nat.le_of_ble_eq_true rfl) (Nat.le_of_ble_eq_true rfl) rfl (Nat.le_of_ble_eq_true rfl) ⟨Nat.zero_le _, Nat.zero_le _⟩ ?_
            refine J_top (x' := r 1 j) (upG_s) ?_
            refine J_icmp_ne E (tgt := 55) dX6_isSo_48 (by decide) (fun c_48 => ?_) (fun c_48 => ?_)
            · skip
              refine J_iconst E dX6_isSo_55 ic_0 ?_
              refine J_istore_n E (lv' := [(3, .int 0), (5, .int (y 8 0 i)), (0, .ref (b 0)), (1, .int (nI 0)), (2, .int (nI j)), (4, .int (nI i))]) dX6_isSo_56 rfl (by decide) rfl ?_
              refine J_aload_n E dX6_isSo_57 rfl 2 rfl ?_
              refine J_cVv0 E (As := []) (c_X6_anHour l G b (upG (upG y 5 d) 0 r) (by rw [hr]; exact okQ_hs hok i)) cl_X6_138 yo_X6_anHour dX6_isSo_58 rfl rfl rfl (Nat.le_of_ble_eq_true rfl) (Nat.le_of_ble_eq_true rfl) rfl (Nat.le_of_ble_eq_true rfl) ⟨Nat.zero_le _, Nat.zero_le _⟩ ?_
              refine J_iinc E (lv' := [(4, .int (nI (i + 1))), (3, .int 0), (5, .int (y 8 0 i)), (0, .ref (b 0)), (1, .int (nI 0)), (2, .int (nI j))]) dX6_isSo_61 5 rfl (nI_inc _) (by decide) rfl ?_
              refine J_goto E (tgt := 5) dX6_isSo_64 (by decide) ?_
              refine J_lv [3, 4, 5, 1, 0] rfl ?_
              refine J_w (ws' := wM G b (upG (upG y 5 (hd5 r d)) 0 (hourR0 r))) (wM_c rfl rfl rfl rfl rfl rfl rfl rfl rfl rfl rfl) ?_
              exact ih5 (i + 1) 0 (hd5 r d) (hourR0 r) (by omega) (by rw [hr]; rfl) (by first | exact so_z hs c_31 | exact so_y hs c_31 (Or.inl c_37) | exact so_y hs c_31 (Or.inr (by rw [← hr]; exact c_48)) | exact so_n (fun z => z.elim c_37 (fun e => c_48 (by rw [hr]; exact e)))) (by omega)
            · skip
              refine J_iconst E dX6_isSo_51 ic_1 ?_
              refine J_goto E (tgt := 56) dX6_isSo_52 (by decide) ?_
              refine J_istore_n E (lv' := [(3, .int 1), (5, .int (y 8 0 i)), (0, .ref (b 0)), (1, .int (nI 0)), (2, .int (nI j)), (4, .int (nI i))]) dX6_isSo_56 rfl (by decide) rfl ?_
              refine J_aload_n E dX6_isSo_57 rfl 2 rfl ?_
              refine J_cVv0 E (As := []) (c_X6_anHour l G b (upG (upG y 5 d) 0 r) (by rw [hr]; exact okQ_hs hok i)) cl_X6_138 yo_X6_anHour dX6_isSo_58 rfl rfl rfl (Nat.le_of_ble_eq_true rfl) (Nat.le_of_ble_eq_true rfl) rfl (Nat.le_of_ble_eq_true rfl) ⟨Nat.zero_le _, Nat.zero_le _⟩ ?_
              refine J_iinc E (lv' := [(4, .int (nI (i + 1))), (3, .int 1), (5, .int (y 8 0 i)), (0, .ref (b 0)), (1, .int (nI 0)), (2, .int (nI j))]) dX6_isSo_61 5 rfl (nI_inc _) (by decide) rfl ?_
              refine J_goto E (tgt := 5) dX6_isSo_64 (by decide) ?_
              refine J_lv [3, 4, 5, 1, 0] rfl ?_
              refine J_w (ws' := wM G b (upG (upG y 5 (hd5 r d)) 0 (hourR0 r))) (wM_c rfl rfl rfl rfl rfl rfl rfl rfl rfl rfl rfl) ?_
              exact ih5 (i + 1) 1 (hd5 r d) (hourR0 r) (by omega) (by rw [hr]; rfl) (by first | exact so_z hs c_31 | exact so_y hs c_31 (Or.inl c_37) | exact so_y hs c_31 (Or.inr (by rw [← hr]; exact c_48)) | exact so_n (fun z => z.elim c_37 (fun e => c_48 (by rw [hr]; exact e)))) (by omega)
  refine J_lv [2, 3, 4, 1, 0] rfl ?_
  refine J_w (ws' := wM G b (upG (upG y 5 (y 5)) 0 (y 0))) (wM_c rfl rfl rfl rfl rfl rfl rfl rfl rfl rfl rfl) ?_
  exact lp5 _ 0 1 (y 5) (y 0) (by omega) rfl rfl (Nat.lt_succ_self _)

set_option maxHeartbeats 4000000 in
set_option maxRecDepth 20000 in
theorem c_X6_isSo_1 (l : Launch) (G : GB) (b : Nat → Nat) (y : Q3) (j n : Nat) (hj : j < 11) (hn : y 9 1 1 = nI n) (hn2 : n ≤ 40) (hok : okQ (y 0))  : CI l yX6_isSo cX6_isSo 6 .boolean 4 91 G [.ref (b 0), .int (nI 1), .int (nI j)] (wM G b y) (fun vR w' => vR = bI (soF (y 9 0) j (y 0) n = true) ∧ ∃ d : Q2, w' = wM G b (upG (upG y 5 d) 0 (hoursR (y 0) n))) := by
  refine CI.mk (own := RX6) (by decide) rfl (Nat.le_of_ble_eq_true rfl) ?_
  intro X E ret
  show J X G 6 0 0 (wM G b y) [(0, .ref (b 0)), (1, .int (nI 1)), (2, .int (nI j))] 0 []
  refine J_iconst E dX6_isSo_0 ic_1 ?_
  refine J_istore_n E (lv' := [(3, .int 1), (0, .ref (b 0)), (1, .int (nI 1)), (2, .int (nI j))]) dX6_isSo_1 rfl (by decide) rfl ?_
  refine J_iconst E dX6_isSo_2 ic_0 ?_
  refine J_istore E (lv' := [(4, .int 0), (3, .int 1), (0, .ref (b 0)), (1, .int (nI 1)), (2, .int (nI j))]) dX6_isSo_3 (by decide) rfl ?_
  refine J_w (ws' := wM G b (upG y 5 (y 5))) (congrArg (wM G b) upG_id.symm) ?_
  have lp5 : ∀ (fu : Nat) (i : Nat) (t : Int32) (d : Q2) (r : Q2), (i ≤ n) → (r = hoursR (y 0) i) → (t = bI (soF (y 9 0) j (y 0) i = true)) → n - i < fu → J X G 6 0 0 (wM G b (upG (upG y 5 d) 0 r)) [(0, .ref (b 0)), (1, .int (nI 1)), (2, .int (nI j)), (3, .int t), (4, .int (nI i))] 5 [] := by
    intro fu
    induction fu with
    | zero => intro i t d r hi hr hs hm; exact absurd hm (Nat.not_lt_zero _)
    | succ fu ih5 =>
      intro i t d r hi hr hs hm
      refine J_iload E dX6_isSo_5 4 rfl ?_
      refine J_aload_n E dX6_isSo_7 rfl 0 rfl ?_
      refine gM0_X6_34 E dX6_isSo_8 ?_
      refine J_iload_n E dX6_isSo_11 rfl 1 rfl ?_
      refine lMz_1 E  dX6_isSo_12 ?_
      refine J_top (x' := y 9 1 1) (Eq.trans (upG_n (by decide)) (upG_n (by decide))) ?_
      refine J_top (x' := nI n) (hn) ?_
      refine J_icmp_ge E (tgt := 67) dX6_isSo_13 (by decide) (fun c_13 => ?_) (fun c_13 => ?_)
      · skip
        have n_13 : n ≤ i := cmp_le (a := n) (b := i) (by omega) (by omega) c_13
        refine J_iload_n E dX6_isSo_67 rfl 3 rfl ?_
        exact ret _ _ _ _ ⟨by rw [hs, show i = n by omega], d, by subst hr; rw [show n = i by omega]⟩ (by rw [hs]; exact bI_nar) dX6_isSo_68
      · skip
        have n_13 : ¬ n ≤ i := cmp_nle (a := n) (b := i) (by omega) (by omega) c_13
        refine J_aload_n E dX6_isSo_16 rfl 0 rfl ?_
        refine gM0_X6_37 E dX6_isSo_17 ?_
        refine J_bipush E dX6_isSo_20 bp_40 ?_
        refine J_iload_n E dX6_isSo_22 rfl 1 rfl ?_
        refine J_imul E dX6_isSo_23 ?_
        refine J_top (x' := nI 40) (by decide) ?_
        refine J_iload E dX6_isSo_24 4 rfl ?_
        refine J_iadd E dX6_isSo_26 ?_
        refine J_top (x' := nI (40 + i)) (nI_add 40 i) ?_
        refine lMn_1 E (j := (40 + i)) (i := i) rfl (by omega) dX6_isSo_27 ?_
        refine J_top (x' := y 9 0 i) (Eq.trans (upG_n (by decide)) (upG_n (by decide))) ?_
        refine J_istore E (lv' := [(5, .int (y 9 0 i)), (0, .ref (b 0)), (1, .int (nI 1)), (2, .int (nI j)), (3, .int t), (4, .int (nI i))]) dX6_isSo_28 (by decide) rfl ?_
        refine J_iload_n E dX6_isSo_30 rfl 4 rfl ?_
        refine J_if_eq E (tgt := 55) dX6_isSo_31 (by decide) (fun c_31 => ?_) (fun c_31 => ?_)
        · skip
          refine J_iconst E dX6_isSo_55 ic_0 ?_
          refine J_istore_n E (lv' := [(3, .int 0), (5, .int (y 9 0 i)), (0, .ref (b 0)), (1, .int (nI 1)), (2, .int (nI j)), (4, .int (nI i))]) dX6_isSo_56 rfl (by decide) rfl ?_
          refine J_aload_n E dX6_isSo_57 rfl 2 rfl ?_
          refine J_cVv0 E (As := []) (c_X6_anHour l G b (upG (upG y 5 d) 0 r) (by rw [hr]; exact okQ_hs hok i)) cl_X6_138 yo_X6_anHour dX6_isSo_58 rfl rfl rfl (Nat.le_of_ble_eq_true rfl) (Nat.le_of_ble_eq_true rfl) rfl (Nat.le_of_ble_eq_true rfl) ⟨Nat.zero_le _, Nat.zero_le _⟩ ?_
          refine J_iinc E (lv' := [(4, .int (nI (i + 1))), (3, .int 0), (5, .int (y 9 0 i)), (0, .ref (b 0)), (1, .int (nI 1)), (2, .int (nI j))]) dX6_isSo_61 5 rfl (nI_inc _) (by decide) rfl ?_
          refine J_goto E (tgt := 5) dX6_isSo_64 (by decide) ?_
          refine J_lv [3, 4, 5, 1, 0] rfl ?_
          refine J_w (ws' := wM G b (upG (upG y 5 (hd5 r d)) 0 (hourR0 r))) (wM_c rfl rfl rfl rfl rfl rfl rfl rfl rfl rfl rfl) ?_
          exact ih5 (i + 1) 0 (hd5 r d) (hourR0 r) (by omega) (by rw [hr]; rfl) (by first | exact so_z hs c_31 | exact so_y hs c_31 (Or.inl c_37) | exact so_y hs c_31 (Or.inr (by rw [← hr]; exact c_48)) | exact so_n (fun z => z.elim c_37 (fun e => c_48 (by rw [hr]; exact e)))) (by omega)
        · skip
          refine J_iload E dX6_isSo_34 0 rfl ?_
          refine J_iconst E dX6_isSo_36 ic_m1 ?_
          refine J_icmp_eq E (tgt := 51) dX6_isSo_37 (by decide) (fun c_37 => ?_) (fun c_37 => ?_)
          · skip
            refine J_iconst E dX6_isSo_51 ic_1 ?_
            refine J_goto E (tgt := 56) dX6_isSo_52 (by decide) ?_
            refine J_istore_n E (lv' := [(3, .int 1), (5, .int (y 9 0 i)), (0, .ref (b 0)), (1, .int (nI 1)), (2, .int (nI j)), (4, .int (nI i))]) dX6_isSo_56 rfl (by decide) rfl ?_
            refine J_aload_n E dX6_isSo_57 rfl 2 rfl ?_
            refine J_cVv0 E (As := []) (c_X6_anHour l G b (upG (upG y 5 d) 0 r) (by rw [hr]; exact okQ_hs hok i)) cl_X6_138 yo_X6_anHour dX6_isSo_58 rfl rfl rfl (Nat.le_of_ble_eq_true rfl) (Nat.le_of_ble_eq_true rfl) rfl (Nat.le_of_ble_eq_true rfl) ⟨Nat.zero_le _, Nat.zero_le _⟩ ?_
            refine J_iinc E (lv' := [(4, .int (nI (i + 1))), (3, .int 1), (5, .int (y 9 0 i)), (0, .ref (b 0)), (1, .int (nI 1)), (2, .int (nI j))]) dX6_isSo_61 5 rfl (nI_inc _) (by decide) rfl ?_
            refine J_goto E (tgt := 5) dX6_isSo_64 (by decide) ?_
            refine J_lv [3, 4, 5, 1, 0] rfl ?_
            refine J_w (ws' := wM G b (upG (upG y 5 (hd5 r d)) 0 (hourR0 r))) (wM_c rfl rfl rfl rfl rfl rfl rfl rfl rfl rfl rfl) ?_
            exact ih5 (i + 1) 1 (hd5 r d) (hourR0 r) (by omega) (by rw [hr]; rfl) (by first | exact so_z hs c_31 | exact so_y hs c_31 (Or.inl c_37) | exact so_y hs c_31 (Or.inr (by rw [← hr]; exact c_48)) | exact so_n (fun z => z.elim c_37 (fun e => c_48 (by rw [hr]; exact e)))) (by omega)
          · skip
            refine J_iload E dX6_isSo_40 0 rfl ?_
            refine J_aload_n E dX6_isSo_42 rfl 1 rfl ?_
            refine J_iload_n E dX6_isSo_43 rfl 3 rfl ?_
            refine J_iconst E dX6_isSo_44 ic_1 ?_
            refine J_cVi0 E (As := [.int (nI j), .int 1]) (c_X6_its l G b (upG (upG y 5 d) 0 r) j 1 (by omega) (by omega)) cl_X6_64 yo_X6_its dX6_isSo_45 rfl rfl rfl (Nat.le_of_ble_eq_true rfl) (Nat.le_of_ble_eq_true rfl) rfl (Nat.le_of_ble_eq_true rfl) ⟨Nat.zero_le _, Nat.zero_le _⟩ ?_
            refine J_top (x' := r 1 j) (upG_s) ?_
            refine J_icmp_ne E (tgt := 55) dX6_isSo_48 (by decide) (fun c_48 => ?_) (fun c_48 => ?_)
            · skip
              refine J_iconst E dX6_isSo_55 ic_0 ?_
              refine J_istore_n E (lv' := [(3, .int 0), (5, .int (y 9 0 i)), (0, .ref (b 0)), (1, .int (nI 1)), (2, .int (nI j)), (4, .int (nI i))]) dX6_isSo_56 rfl (by decide) rfl ?_
              refine J_aload_n E dX6_isSo_57 rfl 2 rfl ?_
              refine J_cVv0 E (As := []) (c_X6_anHour l G b (upG (upG y 5 d) 0 r) (by rw [hr]; exact okQ_hs hok i)) cl_X6_138 yo_X6_anHour dX6_isSo_58 rfl rfl rfl (Nat.le_of_ble_eq_true rfl) (Nat.le_of_ble_eq_true rfl) rfl (Nat.le_of_ble_eq_true rfl) ⟨Nat.zero_le _, Nat.zero_le _⟩ ?_
              refine J_iinc E (lv' := [(4, .int (nI (i + 1))), (3, .int 0), (5, .int (y 9 0 i)), (0, .ref (b 0)), (1, .int (nI 1)), (2, .int (nI j))]) dX6_isSo_61 5 rfl (nI_inc _) (by decide) rfl ?_
              refine J_goto E (tgt := 5) dX6_isSo_64 (by decide) ?_
              refine J_lv [3, 4, 5, 1, 0] rfl ?_
              refine J_w (ws' := wM G b (upG (upG y 5 (hd5 r d)) 0 (hourR0 r))) (wM_c rfl rfl rfl rfl rfl rfl rfl rfl rfl rfl rfl) ?_
              exact ih5 (i + 1) 0 (hd5 r d) (hourR0 r) (by omega) (by rw [hr]; rfl) (by first | exact so_z hs c_31 | exact so_y hs c_31 (Or.inl c_37) | exact so_y hs c_31 (Or.inr (by rw [← hr]; exact c_48)) | exact so_n (fun z => z.elim c_37 (fun e => c_48 (by rw [hr]; exact e)))) (by omega)
            · skip
              refine J_iconst E dX6_isSo_51 ic_1 ?_
              refine J_goto E (tgt := 56) dX6_isSo_52 (by decide) ?_
              refine J_istore_n E (lv' := [(3, .int 1), (5, .int (y 9 0 i)), (0, .ref (b 0)), (1, .int (nI 1)), (2, .int (nI j)), (4, .int (nI i))]) dX6_isSo_56 rfl (by decide) rfl ?_
              refine J_aload_n E dX6_isSo_57 rfl 2 rfl ?_
              refine J_cVv0 E (As := []) (c_X6_anHour l G b (upG (upG y 5 d) 0 r) (by rw [hr]; exact okQ_hs hok i)) cl_X6_138 yo_X6_anHour dX6_isSo_58 rfl rfl rfl (Nat.le_of_ble_eq_true rfl) (Nat.le_of_ble_eq_true rfl) rfl (Nat.le_of_ble_eq_true rfl) ⟨Nat.zero_le _, Nat.zero_le _⟩ ?_
              refine J_iinc E (lv' := [(4, .int (nI (i + 1))), (3, .int 1), (5, .int (y 9 0 i)), (0, .ref (b 0)), (1, .int (nI 1)), (2, .int (nI j))]) dX6_isSo_61 5 rfl (nI_inc _) (by decide) rfl ?_
              refine J_goto E (tgt := 5) dX6_isSo_64 (by decide) ?_
              refine J_lv [3, 4, 5, 1, 0] rfl ?_
              refine J_w (ws' := wM G b (upG (upG y 5 (hd5 r d)) 0 (hourR0 r))) (wM_c rfl rfl rfl rfl rfl rfl rfl rfl rfl rfl rfl) ?_
              exact ih5 (i + 1) 1 (hd5 r d) (hourR0 r) (by omega) (by rw [hr]; rfl) (by first | exact so_z hs c_31 | exact so_y hs c_31 (Or.inl c_37) | exact so_y hs c_31 (Or.inr (by rw [← hr]; exact c_48)) | exact so_n (fun z => z.elim c_37 (fun e => c_48 (by rw [hr]; exact e)))) (by omega)
  refine J_lv [2, 3, 4, 1, 0] rfl ?_
  refine J_w (ws' := wM G b (upG (upG y 5 (y 5)) 0 (y 0))) (wM_c rfl rfl rfl rfl rfl rfl rfl rfl rfl rfl rfl) ?_
  exact lp5 _ 0 1 (y 5) (y 0) (by omega) rfl rfl (Nat.lt_succ_self _)
