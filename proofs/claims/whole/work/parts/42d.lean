set_option maxHeartbeats 4000000 in
set_option maxRecDepth 20000 in
theorem c_X6_settles (l : Launch) (G : GB) (b : Nat → Nat) (y : Q3) (hok : okQ (y 0))  : CI l yX6_settles cX6_settles 2 .int 5 113 G [.ref (b 0)] (wM G b y) (fun vR w' => vR = optR (upF (fun i => stillB (hoursR (y 0) i)) 101 0) ∧ PubM G b (optX y (upF (fun i => stillB (hoursR (y 0) i)) 101 0)) w') := by
  refine CI.mk (own := RX6) (by decide) rfl (Nat.le_of_ble_eq_true rfl) ?_
  intro X E ret
  show J X G 2 0 0 (wM G b y) [(0, .ref (b 0))] 0 []
  refine J_aload_n E dX6_settles_0 rfl 0 rfl ?_
  refine J_cVv0 E (As := []) (c_X6_lends l G b y ) cl_X6_160 yo_X6_lends dX6_settles_1 rfl rfl rfl (Nat.le_of_ble_eq_true rfl) (Nat.le_of_ble_eq_true rfl) rfl (Nat.le_of_ble_eq_true rfl) ⟨Nat.zero_le _, Nat.zero_le _⟩ ?_
  refine J_iconst E dX6_settles_4 ic_0 ?_
  refine J_istore_n E (lv' := [(1, .int 0), (0, .ref (b 0))]) dX6_settles_5 rfl (by decide) rfl ?_
  have lp6 : ∀ (fu : Nat) (i : Nat) (d : Q2) (z : Q2) (r : Q2), (z = y 0) → (i ≤ 101) → (r = hoursR (y 0) i) → (upF (fun i => stillB (hoursR (y 0) i)) 101 0 = upF (fun i => stillB (hoursR (y 0) i)) (101 - i) i) → 101 - i < fu → J X G 2 0 0 (wM G b (upG (upG (upG y 5 d) 2 z) 0 r)) [(0, .ref (b 0)), (1, .int (nI i))] 6 [] := by
    intro fu
    induction fu with
    | zero => intro i d z r hz hi hr h1 hm; exact absurd hm (Nat.not_lt_zero _)
    | succ fu ih6 =>
      intro i d z r hz hi hr h1 hm
      refine J_iload_n E dX6_settles_6 rfl 1 rfl ?_
      refine J_bipush E dX6_settles_7 bp_100 ?_
      refine J_icmp_gt E (tgt := 25) dX6_settles_9 (by decide) (fun c_9 => ?_) (fun c_9 => ?_)
      · skip
        have n_9 : 100 < i := cmp_lt (a := 100) (b := i) (by omega) (by omega) c_9
        have h2 : upF (fun i => stillB (hoursR (y 0) i)) 101 0 = none := by rw [h1, show 101 - i = 0 by omega]; rfl
        refine J_aload_n E dX6_settles_25 rfl 0 rfl ?_
        refine J_cVv0 E (As := []) (c_X6_laysBack l G b (upG (upG (upG y 5 d) 2 z) 0 r) ) cl_X6_163 yo_X6_laysBack dX6_settles_26 rfl rfl rfl (Nat.le_of_ble_eq_true rfl) (Nat.le_of_ble_eq_true rfl) rfl (Nat.le_of_ble_eq_true rfl) ⟨Nat.zero_le _, Nat.zero_le _⟩ ?_
        refine J_iload_n E dX6_settles_29 rfl 1 rfl ?_
        refine J_bipush E dX6_settles_30 bp_100 ?_
        refine J_icmp_gt E (tgt := 39) dX6_settles_32 (by decide) (fun c_32 => ?_) (fun c_32 => ?_)
        · skip
          have n_32 : 100 < i := cmp_lt (a := 100) (b := i) (by omega) (by omega) c_32
          refine J_aload_n E dX6_settles_39 rfl 0 rfl ?_
          refine J_iconst E dX6_settles_40 ic_3 ?_
          refine J_cVi0 E (As := [.int 3]) (c_X6_finds l G b (upG (upG (upG (upG y 5 d) 2 z) 0 r) 0 z) 3 (by omega)) cl_X6_96 yo_X6_finds dX6_settles_41 rfl rfl rfl (Nat.le_of_ble_eq_true rfl) (Nat.le_of_ble_eq_true rfl) rfl (Nat.le_of_ble_eq_true rfl) ⟨Nat.zero_le _, Nat.zero_le _⟩ ?_
          refine J_top (x' := tellR 3) rfl ?_
          exact ret _ _ _ _ ⟨by first | (rw [h2]; rfl) | (exfalso; omega), _, rfl, by first | (rw [h2]; intro g h2 h5 h6; by_cases h0 : g = 0 <;> simp [optX, tellX, upG, up3, h0, h2, h5, h6, hz]; done) | (exfalso; omega)⟩ rfl dX6_settles_44
        · skip
          have n_32 : ¬ 100 < i := cmp_nlt (a := 100) (b := i) (by omega) (by omega) c_32
          refine J_iload_n E dX6_settles_35 rfl 1 rfl ?_
          refine J_goto E (tgt := 44) dX6_settles_36 (by decide) ?_
          exact ret _ _ _ _ ⟨by first | (rw [h2]; rfl) | (exfalso; omega), _, rfl, by first | (rw [h2]; intro g h2 h5 h6; by_cases h0 : g = 0 <;> simp [optX, tellX, upG, up3, h0, h2, h5, h6, hz]; done) | (exfalso; omega)⟩ rfl dX6_settles_44
      · skip
        have n_9 : ¬ 100 < i := cmp_nlt (a := 100) (b := i) (by omega) (by omega) c_9
        refine J_aload_n E dX6_settles_12 rfl 0 rfl ?_
        refine J_callEi E (As := []) (c_X6_leavesAll_q l G b (upG (upG (upG y 5 d) 2 z) 0 r) r rfl (by rw [hr]; exact okQ_hs hok i)) cl_X6_172 yo_X6_leavesAll dX6_settles_13 rfl (Nat.le_of_ble_eq_true rfl) (Nat.le_of_ble_eq_true rfl) rfl (Nat.le_of_ble_eq_true rfl) ⟨Nat.zero_le _, Nat.zero_le _⟩ (fun d13_1 => ?_)
        refine J_if_ne E (tgt := 25) dX6_settles_16 (by decide) (fun c_16 => ?_) (fun c_16 => ?_)
        · skip
          have c_16 := bI_1 c_16
          have h2 : upF (fun i => stillB (hoursR (y 0) i)) 101 0 = some i := by rw [h1, show 101 - i = (100 - i) + 1 by omega]; exact upF_t (by rw [hr] at c_16; exact c_16)
          refine J_aload_n E dX6_settles_25 rfl 0 rfl ?_
          refine J_cVv0 E (As := []) (c_X6_laysBack l G b (upG (upG (upG (upG (upG y 5 d) 2 z) 0 r) 5 d13_1) 0 (hourR0 r)) ) cl_X6_163 yo_X6_laysBack dX6_settles_26 rfl rfl rfl (Nat.le_of_ble_eq_true rfl) (Nat.le_of_ble_eq_true rfl) rfl (Nat.le_of_ble_eq_true rfl) ⟨Nat.zero_le _, Nat.zero_le _⟩ ?_
          refine J_iload_n E dX6_settles_29 rfl 1 rfl ?_
          refine J_bipush E dX6_settles_30 bp_100 ?_
          refine J_icmp_gt E (tgt := 39) dX6_settles_32 (by decide) (fun c_32 => ?_) (fun c_32 => ?_)
          · skip
            have n_32 : 100 < i := cmp_lt (a := 100) (b := i) (by omega) (by omega) c_32
            refine J_aload_n E dX6_settles_39 rfl 0 rfl ?_
            refine J_iconst E dX6_settles_40 ic_3 ?_
            refine J_cVi0 E (As := [.int 3]) (c_X6_finds l G b (upG (upG (upG (upG (upG (upG y 5 d) 2 z) 0 r) 5 d13_1) 0 (hourR0 r)) 0 z) 3 (by omega)) cl_X6_96 yo_X6_finds dX6_settles_41 rfl rfl rfl (Nat.le_of_ble_eq_true rfl) (Nat.le_of_ble_eq_true rfl) rfl (Nat.le_of_ble_eq_true rfl) ⟨Nat.zero_le _, Nat.zero_le _⟩ ?_
            refine J_top (x' := tellR 3) rfl ?_
            exact ret _ _ _ _ ⟨by first | (rw [h2]; rfl) | (exfalso; omega), _, rfl, by first | (rw [h2]; intro g h2 h5 h6; by_cases h0 : g = 0 <;> simp [optX, tellX, upG, up3, h0, h2, h5, h6, hz]; done) | (exfalso; omega)⟩ rfl dX6_settles_44
          · skip
            have n_32 : ¬ 100 < i := cmp_nlt (a := 100) (b := i) (by omega) (by omega) c_32
            refine J_iload_n E dX6_settles_35 rfl 1 rfl ?_
            refine J_goto E (tgt := 44) dX6_settles_36 (by decide) ?_
            exact ret _ _ _ _ ⟨by first | (rw [h2]; rfl) | (exfalso; omega), _, rfl, by first | (rw [h2]; intro g h2 h5 h6; by_cases h0 : g = 0 <;> simp [optX, tellX, upG, up3, h0, h2, h5, h6, hz]; done) | (exfalso; omega)⟩ rfl dX6_settles_44
        · skip
          have c_16 := bI_0 c_16
          refine J_iinc E (lv' := [(1, .int (nI (i + 1))), (0, .ref (b 0))]) dX6_settles_19 1 rfl (nI_inc _) (by decide) rfl ?_
          refine J_goto E (tgt := 6) dX6_settles_22 (by decide) ?_
          refine J_lv [1, 0] rfl ?_
          refine J_w (ws' := wM G b (upG (upG (upG y 5 d13_1) 2 z) 0 (hourR0 r))) (wM_c rfl rfl rfl rfl rfl rfl rfl rfl rfl rfl rfl) ?_
          exact ih6 (i + 1) d13_1 z (hourR0 r) hz (by omega) (by rw [hr]; rfl) (by rw [h1, show 101 - i = (101 - (i + 1)) + 1 by omega, upF_f (by rw [hr] at c_16; exact c_16)]) (by omega)
  refine J_lv [1, 0] rfl ?_
  refine J_w (ws' := wM G b (upG (upG (upG y 5 (y 5)) 2 (y 0)) 0 (y 0))) (wM_c rfl rfl rfl rfl rfl rfl rfl rfl rfl rfl rfl) ?_
  exact lp6 _ 0 (y 5) (y 0) (y 0) rfl (by omega) rfl rfl (Nat.lt_succ_self _)

theorem lead_up {q : Q2} (h : spOk q) {w i : Nat} (hw : w < 11) (hi : i ≤ w) : leadF q w = -1 ∨ ∃ u : Nat, u < 11 ∧ i + 1 ≤ u ∧ leadF q w = nI u := by
  unfold leadF
  rcases h w hw with e | e
  · rw [e, show nI w + 1 + 0 = nI (w + 1) by rw [nI_1, Int32.add_zero]]
    split
    · rename_i c
      exact Or.inr ⟨w + 1, by have := cmp_le (a := w + 1) (b := 10) (by omega) (by decide) c; omega, by omega, rfl⟩
    · exact Or.inl rfl
  · rw [e, show nI w + 1 + 1 = nI (w + 2) by rw [nI_1, nI_1]]
    split
    · rename_i c
      exact Or.inr ⟨w + 2, by have := cmp_le (a := w + 2) (b := 10) (by omega) (by decide) c; omega, by omega, rfl⟩
    · exact Or.inl rfl

set_option maxHeartbeats 4000000 in
set_option maxRecDepth 20000 in
theorem c_X6_below_bad (l : Launch) (G : GB) (b : Nat → Nat) (y : Q3) (h : Int32) (hb : ¬ okH h) : CI l yX6_below cX6_below 4 .int 2 45 G [.ref (b 0), .int h] (wM G b y) (fun vR w' => vR = tellR 0 ∧ PubM G b (tellX y 0) w') := by
  refine CI.mk (own := RX6) (by decide) rfl (Nat.le_of_ble_eq_true rfl) ?_
  intro X E ret
  show J X G 4 0 0 (wM G b y) [(0, .ref (b 0)), (1, .int h)] 0 []
  refine J_iload_n E dX6_below_0 rfl 1 rfl ?_
  refine J_cSiN E (As := [.int h]) (c_X6_isHouse l G h ) cl_X6_87 yo_X6_isHouse dX6_below_1 rfl (Nat.le_of_ble_eq_true rfl) (Nat.le_of_ble_eq_true rfl) rfl (Nat.le_of_ble_eq_true rfl) ⟨Nat.zero_le _, Nat.zero_le _⟩ ?_
  refine J_if_ne E (tgt := 13) dX6_below_4 (by decide) (fun c_4 => ?_) (fun c_4 => ?_)
  · skip
    have c_4 := bI_1 c_4
    exact absurd c_4 hb
  · skip
    have c_4 := bI_0 c_4
    refine J_aload_n E dX6_below_7 rfl 0 rfl ?_
    refine J_iconst E dX6_below_8 ic_0 ?_
    refine J_cVi0 E (As := [.int 0]) (c_X6_finds l G b y 0 (by omega)) cl_X6_96 yo_X6_finds dX6_below_9 rfl rfl rfl (Nat.le_of_ble_eq_true rfl) (Nat.le_of_ble_eq_true rfl) rfl (Nat.le_of_ble_eq_true rfl) ⟨Nat.zero_le _, Nat.zero_le _⟩ ?_
    exact ret _ _ _ _ ⟨rfl, _, rfl, by intro g h2 h5 h6; by_cases h0 : g = 0 <;> simp [tellX, upG, up3, up3R, up2, h0, h2, h5, h6]⟩ rfl dX6_below_12

set_option maxHeartbeats 4000000 in
set_option maxRecDepth 20000 in
theorem c_X6_below_ok (l : Launch) (G : GB) (b : Nat → Nat) (y : Q3) (j : Nat) (hj : j < 11) (hok : okQ (y 0))  : CI l yX6_below cX6_below 4 .int 2 45 G [.ref (b 0), .int (nI j)] (wM G b y) (fun vR w' => vR = belowF (y 0) 11 (nI j) 0 ∧ PubM G b y w') := by
  refine CI.mk (own := RX6) (by decide) rfl (Nat.le_of_ble_eq_true rfl) ?_
  intro X E ret
  show J X G 4 0 0 (wM G b y) [(0, .ref (b 0)), (1, .int (nI j))] 0 []
  refine J_iload_n E dX6_below_0 rfl 1 rfl ?_
  refine J_cSiN E (As := [.int (nI j)]) (c_X6_isHouse l G (nI j) ) cl_X6_87 yo_X6_isHouse dX6_below_1 rfl (Nat.le_of_ble_eq_true rfl) (Nat.le_of_ble_eq_true rfl) rfl (Nat.le_of_ble_eq_true rfl) ⟨Nat.zero_le _, Nat.zero_le _⟩ ?_
  refine J_if_ne E (tgt := 13) dX6_below_4 (by decide) (fun c_4 => ?_) (fun c_4 => ?_)
  · skip
    have c_4 := bI_1 c_4
    refine J_iconst E dX6_below_13 ic_0 ?_
    refine J_istore_n E (lv' := [(2, .int 0), (0, .ref (b 0)), (1, .int (nI j))]) dX6_below_14 rfl (by decide) rfl ?_
    refine J_iload_n E dX6_below_15 rfl 2 rfl ?_
    refine J_istore_n E (lv' := [(3, .int (nI j)), (2, .int 0), (0, .ref (b 0)), (1, .int (nI j))]) dX6_below_16 rfl (by decide) rfl ?_
    have lp17 : ∀ (fu : Nat) (i : Nat) (v : Int32) (s : Int32), (i ≤ 11) → (v = -1 ∨ ∃ w : Nat, w < 11 ∧ i ≤ w ∧ v = nI w) → (belowF (y 0) 11 (nI j) 0 = belowF (y 0) (11 - i) v s) → 11 - i < fu → J X G 4 0 0 (wM G b y) [(0, .ref (b 0)), (1, .int (nI j)), (2, .int s), (3, .int v)] 17 [] := by
      intro fu
      induction fu with
      | zero => intro i v s hi hv h1 hm; exact absurd hm (Nat.not_lt_zero _)
      | succ fu ih17 =>
        intro i v s hi hv h1 hm
        refine J_iload_n E dX6_below_17 rfl 3 rfl ?_
        refine J_if_lt E (tgt := 36) dX6_below_18 (by decide) (fun c_18 => ?_) (fun c_18 => ?_)
        · skip
          have hv2 : v = -1 := hv.resolve_right (fun ⟨w, hw, _, e⟩ => absurd c_18 (by rw [e]; exact nI_pos (by omega)))
          refine J_iload_n E dX6_below_36 rfl 2 rfl ?_
          exact ret _ _ _ _ ⟨by rw [h1, belowF_t hv2], _, rfl, by intro g h2 h5 h6; by_cases h0 : g = 0 <;> simp [tellX, upG, up3, up3R, up2, h0, h2, h5, h6]⟩ rfl dX6_below_37
        · skip
          obtain ⟨w, hw2, hw3, rfl⟩ := hv.resolve_left (fun e => c_18 (by rw [e]; decide))
          refine J_iload_n E dX6_below_21 rfl 2 rfl ?_
          refine J_iconst E dX6_below_22 ic_1 ?_
          refine J_iload_n E dX6_below_23 rfl 3 rfl ?_
          refine J_ishl E dX6_below_24 ?_
          refine J_ior E dX6_below_25 ?_
          refine J_istore_n E (lv' := [(2, .int (s ||| (1 <<< ((nI w) &&& 31)))), (0, .ref (b 0)), (1, .int (nI j)), (3, .int (nI w))]) dX6_below_26 rfl (by decide) rfl ?_
          refine J_aload_n E dX6_below_27 rfl 1 rfl ?_
          refine J_iload_n E dX6_below_28 rfl 3 rfl ?_
          refine J_cVi0 E (As := [.int (nI w)]) (c_X6_leads l G b y w (by omega)) cl_X6_110 yo_X6_leads dX6_below_29 rfl rfl rfl (Nat.le_of_ble_eq_true rfl) (Nat.le_of_ble_eq_true rfl) rfl (Nat.le_of_ble_eq_true rfl) ⟨Nat.zero_le _, Nat.zero_le _⟩ ?_
          refine J_istore_n E (lv' := [(3, .int (leadF (y 0) w)), (2, .int (s ||| (1 <<< ((nI w) &&& 31)))), (0, .ref (b 0)), (1, .int (nI j))]) dX6_below_32 rfl (by decide) rfl ?_
          refine J_goto E (tgt := 17) dX6_below_33 (by decide) ?_
          refine J_lv [2, 3, 1, 0] rfl ?_
          exact ih17 (i + 1) (leadF (y 0) w) (s ||| (1 <<< ((nI w) &&& 31))) (by omega) (lead_up hok.1 (by omega) hw3) (by rw [h1, show 11 - i = (11 - (i + 1)) + 1 by omega, belowF_f (m1_ne hw2), nI_clamp (by omega)]) (by omega)
    refine J_lv [2, 3, 1, 0] rfl ?_
    exact lp17 _ 0 (nI j) 0 (by omega) (Or.inr ⟨j, hj, Nat.zero_le _, rfl⟩) rfl (Nat.lt_succ_self _)
  · skip
    have c_4 := bI_0 c_4
    exact absurd (inB (a := j) (b := 10) (by omega) (by decide)) c_4

set_option maxHeartbeats 4000000 in
set_option maxRecDepth 20000 in
theorem c_X6_isWet (l : Launch) (G : GB) (b : Nat → Nat) (y : Q3) (j m : Nat) (hj : j < 11) (hm : m ≤ 1000) (hok : okQ (y 0))  : CI l yX6_isWet cX6_isWet 4 .boolean 5 114 G [.ref (b 0), .int (nI j), .int (nI m)] (wM G b y) (fun vR w' => vR = bI (wetB (y 0) j m = true) ∧ ∃ d : Q2, w' = wM G b (upG (upG y 5 d) 0 (y 2))) := by
  refine CI.mk (own := RX6) (by decide) rfl (Nat.le_of_ble_eq_true rfl) ?_
  intro X E ret
  show J X G 4 0 0 (wM G b y) [(0, .ref (b 0)), (1, .int (nI j)), (2, .int (nI m))] 0 []
  refine J_aload_n E dX6_isWet_0 rfl 0 rfl ?_
  refine J_iload_n E dX6_isWet_1 rfl 2 rfl ?_
  refine J_callEi E (As := [.int (nI m)]) (c_X6_dryIn l G b y m (by omega) hok) cl_X6_169 yo_X6_dryIn dX6_isWet_2 rfl (Nat.le_of_ble_eq_true rfl) (Nat.le_of_ble_eq_true rfl) rfl (Nat.le_of_ble_eq_true rfl) ⟨Nat.zero_le _, Nat.zero_le _⟩ (fun d2_1 => ?_)
  refine J_iload_n E dX6_isWet_5 rfl 1 rfl ?_
  refine J_ishr E dX6_isWet_6 ?_
  refine J_iconst E dX6_isWet_7 ic_1 ?_
  refine J_iand E dX6_isWet_8 ?_
  refine J_if_ne E (tgt := 16) dX6_isWet_9 (by decide) (fun c_9 => ?_) (fun c_9 => ?_)
  · skip
    refine J_iconst E dX6_isWet_16 ic_0 ?_
    refine J_istore_n E (lv' := [(3, .int 0), (0, .ref (b 0)), (1, .int (nI j)), (2, .int (nI m))]) dX6_isWet_17 rfl (by decide) rfl ?_
    refine J_aload_n E dX6_isWet_18 rfl 1 rfl ?_
    refine J_cVv0 E (As := []) (c_X6_laysBack l G b (upG (upG y 5 d2_1) 0 (hoursR (y 0) m)) ) cl_X6_163 yo_X6_laysBack dX6_isWet_19 rfl rfl rfl (Nat.le_of_ble_eq_true rfl) (Nat.le_of_ble_eq_true rfl) rfl (Nat.le_of_ble_eq_true rfl) ⟨Nat.zero_le _, Nat.zero_le _⟩ ?_
    refine J_iload_n E dX6_isWet_22 rfl 0 rfl ?_
    exact ret _ _ _ _ ⟨by first | (rw [bI_t]; exact decide_eq_true c_9) | (rw [bI_f]; exact fun z => c_9 (of_decide_eq_true z)), d2_1, (wM_c rfl rfl rfl rfl rfl rfl rfl rfl rfl rfl rfl)⟩ rfl dX6_isWet_23
  · skip
    refine J_iconst E dX6_isWet_12 ic_1 ?_
    refine J_goto E (tgt := 17) dX6_isWet_13 (by decide) ?_
    refine J_istore_n E (lv' := [(3, .int 1), (0, .ref (b 0)), (1, .int (nI j)), (2, .int (nI m))]) dX6_isWet_17 rfl (by decide) rfl ?_
    refine J_aload_n E dX6_isWet_18 rfl 1 rfl ?_
    refine J_cVv0 E (As := []) (c_X6_laysBack l G b (upG (upG y 5 d2_1) 0 (hoursR (y 0) m)) ) cl_X6_163 yo_X6_laysBack dX6_isWet_19 rfl rfl rfl (Nat.le_of_ble_eq_true rfl) (Nat.le_of_ble_eq_true rfl) rfl (Nat.le_of_ble_eq_true rfl) ⟨Nat.zero_le _, Nat.zero_le _⟩ ?_
    refine J_iload_n E dX6_isWet_22 rfl 0 rfl ?_
    exact ret _ _ _ _ ⟨by first | (rw [bI_t]; exact decide_eq_true c_9) | (rw [bI_f]; exact fun z => c_9 (of_decide_eq_true z)), d2_1, (wM_c rfl rfl rfl rfl rfl rfl rfl rfl rfl rfl rfl)⟩ rfl dX6_isWet_23

set_option maxHeartbeats 4000000 in
set_option maxRecDepth 20000 in
theorem c_X6_isWetBy (l : Launch) (G : GB) (b : Nat → Nat) (y : Q3) (j m k : Nat) (v : Int32) (hj : j < 11) (hm : m ≤ 1000) (hk : k < 6) (hok : okQ (up2 (y 0) k j v)) : CI l yX6_isWetBy cX6_isWetBy 5 .boolean 6 137 G [.ref (b 0), .int (nI j), .int (nI m), .int (nI k), .int v] (wM G b y) (fun vR w' => vR = bI (wetB (up2 (y 0) k j v) j m = true) ∧ ∃ d : Q2, w' = wM G b (upG (upG (upG y 2 (y 0)) 5 d) 0 (y 0))) := by
  refine CI.mk (own := RX6) (by decide) rfl (Nat.le_of_ble_eq_true rfl) ?_
  intro X E ret
  show J X G 5 0 0 (wM G b y) [(0, .ref (b 0)), (1, .int (nI j)), (2, .int (nI m)), (3, .int (nI k)), (4, .int v)] 0 []
  refine J_aload_n E dX6_isWetBy_0 rfl 0 rfl ?_
  refine J_cVv0 E (As := []) (c_X6_lends l G b y ) cl_X6_160 yo_X6_lends dX6_isWetBy_1 rfl rfl rfl (Nat.le_of_ble_eq_true rfl) (Nat.le_of_ble_eq_true rfl) rfl (Nat.le_of_ble_eq_true rfl) ⟨Nat.zero_le _, Nat.zero_le _⟩ ?_
  refine J_aload_n E dX6_isWetBy_4 rfl 0 rfl ?_
  refine J_iload_n E dX6_isWetBy_5 rfl 1 rfl ?_
  refine J_iload_n E dX6_isWetBy_6 rfl 3 rfl ?_
  refine J_iload E dX6_isWetBy_7 4 rfl ?_
  refine J_cVv0 E (As := [.int (nI j), .int (nI k), .int v]) (c_X6_sets l G b (upG y 2 (y 0)) j k v (by omega) (by omega)) cl_X6_43 yo_X6_sets dX6_isWetBy_9 rfl rfl rfl (Nat.le_of_ble_eq_true rfl) (Nat.le_of_ble_eq_true rfl) rfl (Nat.le_of_ble_eq_true rfl) ⟨Nat.zero_le _, Nat.zero_le _⟩ ?_
  refine J_aload_n E dX6_isWetBy_12 rfl 0 rfl ?_
  refine J_iload_n E dX6_isWetBy_13 rfl 1 rfl ?_
  refine J_iload_n E dX6_isWetBy_14 rfl 2 rfl ?_
  refine J_callEi E (As := [.int (nI j), .int (nI m)]) (c_X6_isWet l G b (upG (upG y 2 (y 0)) 0 (up2 (y 0) k j v)) j m (by omega) (by omega) hok) cl_X6_179 yo_X6_isWet dX6_isWetBy_15 rfl (Nat.le_of_ble_eq_true rfl) (Nat.le_of_ble_eq_true rfl) rfl (Nat.le_of_ble_eq_true rfl) ⟨Nat.zero_le _, Nat.zero_le _⟩ (fun d15_1 => ?_)
  refine J_w (ws' := wM G b (upG (upG (upG (upG y 2 (y 0)) 0 (up2 (y 0) k j v)) 5 d15_1) 0 (y 0))) (wM_c rfl rfl rfl rfl rfl rfl rfl rfl rfl rfl rfl) ?_
  refine J_top (x' := bI (wetB (up2 (y 0) k j v) j m = true)) rfl ?_
  exact ret _ _ _ _ ⟨rfl, d15_1, (wM_c rfl rfl rfl rfl rfl rfl rfl rfl rfl rfl rfl)⟩ bI_nar dX6_isWetBy_18
