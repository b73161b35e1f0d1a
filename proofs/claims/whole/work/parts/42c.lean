set_option maxHeartbeats 4000000 in
set_option maxRecDepth 20000 in
theorem c_X6_when_bad (l : Launch) (G : GB) (b : Nat → Nat) (y : Q3) (h v : Int32) (hb : ¬ (okH h ∧ 0 ≤ v ∧ v ≤ 9999)) : CI l yX6_when cX6_when 4 .int 2 45 G [.ref (b 0), .int h, .int v] (wM G b y) (fun vR w' => vR = tellR 0 ∧ PubM G b (tellX y 0) w') := by
  refine CI.mk (own := RX6) (by decide) rfl (Nat.le_of_ble_eq_true rfl) ?_
  intro X E ret
  show J X G 4 0 0 (wM G b y) [(0, .ref (b 0)), (1, .int h), (2, .int v)] 0 []
  refine J_iload_n E dX6_when_0 rfl 1 rfl ?_
  refine J_cSiN E (As := [.int h]) (c_X6_isHouse l G h ) cl_X6_87 yo_X6_isHouse dX6_when_1 rfl (Nat.le_of_ble_eq_true rfl) (Nat.le_of_ble_eq_true rfl) rfl (Nat.le_of_ble_eq_true rfl) ⟨Nat.zero_le _, Nat.zero_le _⟩ ?_
  refine J_if_eq E (tgt := 19) dX6_when_4 (by decide) (fun c_4 => ?_) (fun c_4 => ?_)
  · skip
    have c_4 := bI_0 c_4
    refine J_aload_n E dX6_when_19 rfl 0 rfl ?_
    refine J_iconst E dX6_when_20 ic_0 ?_
    refine J_cVi0 E (As := [.int 0]) (c_X6_finds l G b y 0 (by omega)) cl_X6_96 yo_X6_finds dX6_when_21 rfl rfl rfl (Nat.le_of_ble_eq_true rfl) (Nat.le_of_ble_eq_true rfl) rfl (Nat.le_of_ble_eq_true rfl) ⟨Nat.zero_le _, Nat.zero_le _⟩ ?_
    exact ret _ _ _ _ ⟨rfl, _, rfl, by intro g h2 h5 h6; by_cases h0 : g = 0 <;> simp [tellX, upG, up3, up3R, up2, h0, h2, h5, h6]⟩ rfl dX6_when_24
  · skip
    have c_4 := bI_1 c_4
    refine J_iload_n E dX6_when_7 rfl 2 rfl ?_
    refine J_i2l E dX6_when_8 rfl ?_
    refine J_lconst E dX6_when_9 lc_0 ?_
    refine J_ldc2 E kl_X6_81 dX6_when_10 ?_
    refine J_cSiN E (As := [.long (Int32.toInt64 v), .long 0, .long 9999]) (c_X6_in l G v 0 9999 0 9999 (by decide) (by decide) ) cl_X6_54 yo_X6_in dX6_when_13 rfl (Nat.le_of_ble_eq_true rfl) (Nat.le_of_ble_eq_true rfl) rfl (Nat.le_of_ble_eq_true rfl) ⟨Nat.zero_le _, Nat.zero_le _⟩ ?_
    refine J_if_ne E (tgt := 25) dX6_when_16 (by decide) (fun c_16 => ?_) (fun c_16 => ?_)
    · skip
      have c_16 := bI_1 c_16
      exact absurd ⟨c_4, c_16⟩ hb
    · skip
      have c_16 := bI_0 c_16
      refine J_aload_n E dX6_when_19 rfl 0 rfl ?_
      refine J_iconst E dX6_when_20 ic_0 ?_
      refine J_cVi0 E (As := [.int 0]) (c_X6_finds l G b y 0 (by omega)) cl_X6_96 yo_X6_finds dX6_when_21 rfl rfl rfl (Nat.le_of_ble_eq_true rfl) (Nat.le_of_ble_eq_true rfl) rfl (Nat.le_of_ble_eq_true rfl) ⟨Nat.zero_le _, Nat.zero_le _⟩ ?_
      exact ret _ _ _ _ ⟨rfl, _, rfl, by intro g h2 h5 h6; by_cases h0 : g = 0 <;> simp [tellX, upG, up3, up3R, up2, h0, h2, h5, h6]⟩ rfl dX6_when_24

set_option maxHeartbeats 4000000 in
set_option maxRecDepth 20000 in
theorem c_X6_when_ok (l : Launch) (G : GB) (b : Nat → Nat) (y : Q3) (j : Nat) (v : Int32) (hj : j < 11) (hv : 0 ≤ v ∧ v ≤ 9999) (hok : okQ (y 0))  : CI l yX6_when cX6_when 4 .int 4 91 G [.ref (b 0), .int (nI j), .int v] (wM G b y) (fun vR w' => vR = optR (upF (fun i => decide (v ≤ hoursR (y 0) i 1 j)) 101 0) ∧ PubM G b (optX y (upF (fun i => decide (v ≤ hoursR (y 0) i 1 j)) 101 0)) w') := by
  refine CI.mk (own := RX6) (by decide) rfl (Nat.le_of_ble_eq_true rfl) ?_
  intro X E ret
  show J X G 4 0 0 (wM G b y) [(0, .ref (b 0)), (1, .int (nI j)), (2, .int v)] 0 []
  refine J_iload_n E dX6_when_0 rfl 1 rfl ?_
  refine J_cSiN E (As := [.int (nI j)]) (c_X6_isHouse l G (nI j) ) cl_X6_87 yo_X6_isHouse dX6_when_1 rfl (Nat.le_of_ble_eq_true rfl) (Nat.le_of_ble_eq_true rfl) rfl (Nat.le_of_ble_eq_true rfl) ⟨Nat.zero_le _, Nat.zero_le _⟩ ?_
  refine J_if_eq E (tgt := 19) dX6_when_4 (by decide) (fun c_4 => ?_) (fun c_4 => ?_)
  · skip
    have c_4 := bI_0 c_4
    exact absurd (inB (a := j) (b := 10) (by omega) (by decide)) c_4
  · skip
    have c_4 := bI_1 c_4
    refine J_iload_n E dX6_when_7 rfl 2 rfl ?_
    refine J_i2l E dX6_when_8 rfl ?_
    refine J_lconst E dX6_when_9 lc_0 ?_
    refine J_ldc2 E kl_X6_81 dX6_when_10 ?_
    refine J_cSiN E (As := [.long (Int32.toInt64 v), .long 0, .long 9999]) (c_X6_in l G v 0 9999 0 9999 (by decide) (by decide) ) cl_X6_54 yo_X6_in dX6_when_13 rfl (Nat.le_of_ble_eq_true rfl) (Nat.le_of_ble_eq_true rfl) rfl (Nat.le_of_ble_eq_true rfl) ⟨Nat.zero_le _, Nat.zero_le _⟩ ?_
    refine J_if_ne E (tgt := 25) dX6_when_16 (by decide) (fun c_16 => ?_) (fun c_16 => ?_)
    · skip
      have c_16 := bI_1 c_16
      refine J_aload_n E dX6_when_25 rfl 0 rfl ?_
      refine J_cVv0 E (As := []) (c_X6_lends l G b y ) cl_X6_160 yo_X6_lends dX6_when_26 rfl rfl rfl (Nat.le_of_ble_eq_true rfl) (Nat.le_of_ble_eq_true rfl) rfl (Nat.le_of_ble_eq_true rfl) ⟨Nat.zero_le _, Nat.zero_le _⟩ ?_
      refine J_iconst E dX6_when_29 ic_0 ?_
      refine J_istore_n E (lv' := [(3, .int 0), (0, .ref (b 0)), (1, .int (nI j)), (2, .int v)]) dX6_when_30 rfl (by decide) rfl ?_
      have lp31 : ∀ (fu : Nat) (i : Nat) (d : Q2) (z : Q2) (r : Q2), (z = y 0) → (i ≤ 101) → (r = hoursR (y 0) i) → (upF (fun i => decide (v ≤ hoursR (y 0) i 1 j)) 101 0 = upF (fun i => decide (v ≤ hoursR (y 0) i 1 j)) (101 - i) i) → 101 - i < fu → J X G 4 0 0 (wM G b (upG (upG (upG y 5 d) 2 z) 0 r)) [(0, .ref (b 0)), (1, .int (nI j)), (2, .int v), (3, .int (nI i))] 31 [] := by
        intro fu
        induction fu with
        | zero => intro i d z r hz hi hr h1 hm; exact absurd hm (Nat.not_lt_zero _)
        | succ fu ih31 =>
          intro i d z r hz hi hr h1 hm
          refine J_iload_n E dX6_when_31 rfl 3 rfl ?_
          refine J_bipush E dX6_when_32 bp_100 ?_
          refine J_icmp_gt E (tgt := 57) dX6_when_34 (by decide) (fun c_34 => ?_) (fun c_34 => ?_)
          · skip
            have n_34 : 100 < i := cmp_lt (a := 100) (b := i) (by omega) (by omega) c_34
            have h2 : upF (fun i => decide (v ≤ hoursR (y 0) i 1 j)) 101 0 = none := by rw [h1, show 101 - i = 0 by omega]; rfl
            refine J_aload_n E dX6_when_57 rfl 0 rfl ?_
            refine J_cVv0 E (As := []) (c_X6_laysBack l G b (upG (upG (upG y 5 d) 2 z) 0 r) ) cl_X6_163 yo_X6_laysBack dX6_when_58 rfl rfl rfl (Nat.le_of_ble_eq_true rfl) (Nat.le_of_ble_eq_true rfl) rfl (Nat.le_of_ble_eq_true rfl) ⟨Nat.zero_le _, Nat.zero_le _⟩ ?_
            refine J_iload_n E dX6_when_61 rfl 3 rfl ?_
            refine J_bipush E dX6_when_62 bp_100 ?_
            refine J_icmp_gt E (tgt := 71) dX6_when_64 (by decide) (fun c_64 => ?_) (fun c_64 => ?_)
            · skip
              have n_64 : 100 < i := cmp_lt (a := 100) (b := i) (by omega) (by omega) c_64
              refine J_aload_n E dX6_when_71 rfl 0 rfl ?_
              refine J_iconst E dX6_when_72 ic_3 ?_
              refine J_cVi0 E (As := [.int 3]) (c_X6_finds l G b (upG (upG (upG (upG y 5 d) 2 z) 0 r) 0 z) 3 (by omega)) cl_X6_96 yo_X6_finds dX6_when_73 rfl rfl rfl (Nat.le_of_ble_eq_true rfl) (Nat.le_of_ble_eq_true rfl) rfl (Nat.le_of_ble_eq_true rfl) ⟨Nat.zero_le _, Nat.zero_le _⟩ ?_
              refine J_top (x' := tellR 3) rfl ?_
              exact ret _ _ _ _ ⟨by first | (rw [h2]; rfl) | (exfalso; omega), _, rfl, by first | (rw [h2]; intro g h2 h5 h6; by_cases h0 : g = 0 <;> simp [optX, tellX, upG, up3, h0, h2, h5, h6, hz]; done) | (exfalso; omega)⟩ rfl dX6_when_76
            · skip
              have n_64 : ¬ 100 < i := cmp_nlt (a := 100) (b := i) (by omega) (by omega) c_64
              refine J_iload_n E dX6_when_67 rfl 3 rfl ?_
              refine J_goto E (tgt := 76) dX6_when_68 (by decide) ?_
              exact ret _ _ _ _ ⟨by first | (rw [h2]; rfl) | (exfalso; omega), _, rfl, by first | (rw [h2]; intro g h2 h5 h6; by_cases h0 : g = 0 <;> simp [optX, tellX, upG, up3, h0, h2, h5, h6, hz]; done) | (exfalso; omega)⟩ rfl dX6_when_76
          · skip
            have n_34 : ¬ 100 < i := cmp_nlt (a := 100) (b := i) (by omega) (by omega) c_34
            refine J_aload_n E dX6_when_37 rfl 0 rfl ?_
            refine J_iload_n E dX6_when_38 rfl 1 rfl ?_
            refine J_iconst E dX6_when_39 ic_1 ?_
            refine J_cVi0 E (As := [.int (nI j), .int 1]) (c_X6_its l G b (upG (upG (upG y 5 d) 2 z) 0 r) j 1 (by omega) (by omega)) cl_X6_64 yo_X6_its dX6_when_40 rfl rfl rfl (Nat.le_of_ble_eq_true rfl) (Nat.le_of_ble_eq_true rfl) rfl (Nat.le_of_ble_eq_true rfl) ⟨Nat.zero_le _, Nat.zero_le _⟩ ?_
            refine J_top (x' := r 1 j) (upG_s) ?_
            refine J_iload_n E dX6_when_43 rfl 2 rfl ?_
            refine J_icmp_ge E (tgt := 57) dX6_when_44 (by decide) (fun c_44 => ?_) (fun c_44 => ?_)
            · skip
              have h2 : upF (fun i => decide (v ≤ hoursR (y 0) i 1 j)) 101 0 = some i := by rw [h1, show 101 - i = (100 - i) + 1 by omega]; exact upF_t (by rw [hr] at c_44; exact decide_eq_true c_44)
              refine J_aload_n E dX6_when_57 rfl 0 rfl ?_
              refine J_cVv0 E (As := []) (c_X6_laysBack l G b (upG (upG (upG y 5 d) 2 z) 0 r) ) cl_X6_163 yo_X6_laysBack dX6_when_58 rfl rfl rfl (Nat.le_of_ble_eq_true rfl) (Nat.le_of_ble_eq_true rfl) rfl (Nat.le_of_ble_eq_true rfl) ⟨Nat.zero_le _, Nat.zero_le _⟩ ?_
              refine J_iload_n E dX6_when_61 rfl 3 rfl ?_
              refine J_bipush E dX6_when_62 bp_100 ?_
              refine J_icmp_gt E (tgt := 71) dX6_when_64 (by decide) (fun c_64 => ?_) (fun c_64 => ?_)
              · skip
                have n_64 : 100 < i := cmp_lt (a := 100) (b := i) (by omega) (by omega) c_64
                refine J_aload_n E dX6_when_71 rfl 0 rfl ?_
                refine J_iconst E dX6_when_72 ic_3 ?_
                refine J_cVi0 E (As := [.int 3]) (c_X6_finds l G b (upG (upG (upG (upG y 5 d) 2 z) 0 r) 0 z) 3 (by omega)) cl_X6_96 yo_X6_finds dX6_when_73 rfl rfl rfl (Nat.le_of_ble_eq_true rfl) (Nat.le_of_ble_eq_true rfl) rfl (Nat.le_of_ble_eq_true rfl) ⟨Nat.zero_le _, Nat.zero_le _⟩ ?_
                refine J_top (x' := tellR 3) rfl ?_
                exact ret _ _ _ _ ⟨by first | (rw [h2]; rfl) | (exfalso; omega), _, rfl, by first | (rw [h2]; intro g h2 h5 h6; by_cases h0 : g = 0 <;> simp [optX, tellX, upG, up3, h0, h2, h5, h6, hz]; done) | (exfalso; omega)⟩ rfl dX6_when_76
              · skip
                have n_64 : ¬ 100 < i := cmp_nlt (a := 100) (b := i) (by omega) (by omega) c_64
                refine J_iload_n E dX6_when_67 rfl 3 rfl ?_
                refine J_goto E (tgt := 76) dX6_when_68 (by decide) ?_
                exact ret _ _ _ _ ⟨by first | (rw [h2]; rfl) | (exfalso; omega), _, rfl, by first | (rw [h2]; intro g h2 h5 h6; by_cases h0 : g = 0 <;> simp [optX, tellX, upG, up3, h0, h2, h5, h6, hz]; done) | (exfalso; omega)⟩ rfl dX6_when_76
            · skip
              refine J_aload_n E dX6_when_47 rfl 0 rfl ?_
              refine J_cVv0 E (As := []) (c_X6_anHour l G b (upG (upG (upG y 5 d) 2 z) 0 r) (by rw [hr]; exact okQ_hs hok i)) cl_X6_138 yo_X6_anHour dX6_when_48 rfl rfl rfl (Nat.le_of_ble_eq_true rfl) (Nat.le_of_ble_eq_true rfl) rfl (Nat.le_of_ble_eq_true rfl) ⟨Nat.zero_le _, Nat.zero_le _⟩ ?_
              refine J_iinc E (lv' := [(3, .int (nI (i + 1))), (0, .ref (b 0)), (1, .int (nI j)), (2, .int v)]) dX6_when_51 3 rfl (nI_inc _) (by decide) rfl ?_
              refine J_goto E (tgt := 31) dX6_when_54 (by decide) ?_
              refine J_lv [1, 2, 3, 0] rfl ?_
              refine J_w (ws' := wM G b (upG (upG (upG y 5 (hd5 r d)) 2 z) 0 (hourR0 r))) (wM_c rfl rfl rfl rfl rfl rfl rfl rfl rfl rfl rfl) ?_
              exact ih31 (i + 1) (hd5 r d) z (hourR0 r) hz (by omega) (by rw [hr]; rfl) (by rw [h1, show 101 - i = (101 - (i + 1)) + 1 by omega, upF_f (by rw [hr] at c_44; exact fun z => absurd (of_decide_eq_true z) c_44)]) (by omega)
      refine J_lv [1, 2, 3, 0] rfl ?_
      refine J_w (ws' := wM G b (upG (upG (upG y 5 (y 5)) 2 (y 0)) 0 (y 0))) (wM_c rfl rfl rfl rfl rfl rfl rfl rfl rfl rfl rfl) ?_
      exact lp31 _ 0 (y 5) (y 0) (y 0) rfl (by omega) rfl rfl (Nat.lt_succ_self _)
    · skip
      have c_16 := bI_0 c_16
      exact absurd (by assumption) c_16

set_option maxHeartbeats 4000000 in
set_option maxRecDepth 20000 in
theorem c_X6_leavesAll (l : Launch) (G : GB) (b : Nat → Nat) (y : Q3) (hok : okQ (y 0))  : CI l yX6_leavesAll cX6_leavesAll 3 .boolean 4 91 G [.ref (b 0)] (wM G b y) (fun vR w' => vR = bI (stillB (y 0) = true) ∧ ∃ d : Q2, w' = wM G b (upG (upG y 5 d) 0 (hourR0 (y 0)))) := by
  refine CI.mk (own := RX6) (by decide) rfl (Nat.le_of_ble_eq_true rfl) ?_
  intro X E ret
  show J X G 3 0 0 (wM G b y) [(0, .ref (b 0))] 0 []
  refine J_iconst E dX6_leavesAll_0 ic_0 ?_
  refine J_istore_n E (lv' := [(1, .int 0), (0, .ref (b 0))]) dX6_leavesAll_1 rfl (by decide) rfl ?_
  refine J_w (ws' := wM G b (upG y 5 (y 5))) (congrArg (wM G b) upG_id.symm) ?_
  have lp2 : ∀ (fu : Nat) (i : Nat) (d : Q2), (i ≤ 11) → (∀ j, j < i → d 1 j = y 0 1 j) → 11 - i < fu → J X G 3 0 0 (wM G b (upG y 5 d)) [(0, .ref (b 0)), (1, .int (nI i))] 2 [] := by
    intro fu
    induction fu with
    | zero => intro i d hi hd hm; exact absurd hm (Nat.not_lt_zero _)
    | succ fu ih2 =>
      intro i d hi hd hm
      refine J_iload_n E dX6_leavesAll_2 rfl 1 rfl ?_
      refine J_bipush E dX6_leavesAll_3 bp_11 ?_
      refine J_icmp_ge E (tgt := 26) dX6_leavesAll_5 (by decide) (fun c_5 => ?_) (fun c_5 => ?_)
      · skip
        have n_5 : 11 ≤ i := cmp_le (a := 11) (b := i) (by omega) (by omega) c_5
        refine J_aload_n E dX6_leavesAll_26 rfl 0 rfl ?_
        refine J_cVv0 E (As := []) (c_X6_anHour l G b (upG y 5 d) hok) cl_X6_138 yo_X6_anHour dX6_leavesAll_27 rfl rfl rfl (Nat.le_of_ble_eq_true rfl) (Nat.le_of_ble_eq_true rfl) rfl (Nat.le_of_ble_eq_true rfl) ⟨Nat.zero_le _, Nat.zero_le _⟩ ?_
        refine J_iconst E dX6_leavesAll_30 ic_1 ?_
        refine J_istore_n E (lv' := [(1, .int 1), (0, .ref (b 0))]) dX6_leavesAll_31 rfl (by decide) rfl ?_
        refine J_iconst E dX6_leavesAll_32 ic_0 ?_
        refine J_istore_n E (lv' := [(2, .int 0), (1, .int 1), (0, .ref (b 0))]) dX6_leavesAll_33 rfl (by decide) rfl ?_
        have lp34 : ∀ (fu : Nat) (i2 : Nat) (s : Int32), (i2 ≤ 11) → (s = bI (allF (fun h => decide (hourR0 (y 0) 1 h = y 0 1 h)) i2 = true)) → 11 - i2 < fu → J X G 3 0 0 (wM G b (upG (upG (upG y 5 d) 5 (hd5 (y 0) d)) 0 (hourR0 (y 0)))) [(0, .ref (b 0)), (1, .int s), (2, .int (nI i2))] 34 [] := by
          intro fu
          induction fu with
          | zero => intro i2 s hi2 hs hm; exact absurd hm (Nat.not_lt_zero _)
          | succ fu ih34 =>
            intro i2 s hi2 hs hm
            refine J_iload_n E dX6_leavesAll_34 rfl 2 rfl ?_
            refine J_bipush E dX6_leavesAll_35 bp_11 ?_
            refine J_icmp_ge E (tgt := 71) dX6_leavesAll_37 (by decide) (fun c_37 => ?_) (fun c_37 => ?_)
            · skip
              have n_37 : 11 ≤ i2 := cmp_le (a := 11) (b := i2) (by omega) (by omega) c_37
              refine J_iload_n E dX6_leavesAll_71 rfl 1 rfl ?_
              exact ret _ _ _ _ ⟨by rw [hs, show i2 = 11 by omega, stillB], hd5 (y 0) d, (wM_c rfl rfl rfl rfl rfl rfl rfl rfl rfl rfl rfl)⟩ (by rw [hs]; exact bI_nar) dX6_leavesAll_72
            · skip
              have n_37 : ¬ 11 ≤ i2 := cmp_nle (a := 11) (b := i2) (by omega) (by omega) c_37
              refine J_iload_n E dX6_leavesAll_40 rfl 1 rfl ?_
              refine J_if_eq E (tgt := 63) dX6_leavesAll_41 (by decide) (fun c_41 => ?_) (fun c_41 => ?_)
              · skip
                refine J_iconst E dX6_leavesAll_63 ic_0 ?_
                refine J_istore_n E (lv' := [(1, .int 0), (0, .ref (b 0)), (2, .int (nI i2))]) dX6_leavesAll_64 rfl (by decide) rfl ?_
                refine J_iinc E (lv' := [(2, .int (nI (i2 + 1))), (1, .int 0), (0, .ref (b 0))]) dX6_leavesAll_65 2 rfl (nI_inc _) (by decide) rfl ?_
                refine J_goto E (tgt := 34) dX6_leavesAll_68 (by decide) ?_
                refine J_lv [2, 1, 0] rfl ?_
                exact ih34 (i2 + 1) 0 (by omega) (by first | exact allF_z hs c_41 | exact allF_n (fun z => c_56 (of_decide_eq_true z).symm) | exact allF_y hs c_41 (decide_eq_true c_56.symm)) (by omega)
              · skip
                refine J_aload_n E dX6_leavesAll_44 rfl 0 rfl ?_
                refine gM0_X6_25 E dX6_leavesAll_45 ?_
                refine J_iload_n E dX6_leavesAll_48 rfl 2 rfl ?_
                refine lM_6 E (j := i2) dX6_leavesAll_49 (by omega) ?_
                refine J_top (x' := (hd5 (y 0) d) 1 i2) (Eq.trans (upG_n (by decide)) upG_s) ?_
                refine J_top (x' := y 0 1 i2) (by rw [hd5_1]; exact hd i2 (by omega)) ?_
                refine J_aload_n E dX6_leavesAll_50 rfl 0 rfl ?_
                refine J_iload_n E dX6_leavesAll_51 rfl 2 rfl ?_
                refine J_iconst E dX6_leavesAll_52 ic_1 ?_
                refine J_cVi0 E (As := [.int (nI i2), .int 1]) (c_X6_its l G b (upG (upG (upG y 5 d) 5 (hd5 (y 0) d)) 0 (hourR0 (y 0))) i2 1 (by omega) (by omega)) cl_X6_64 yo_X6_its dX6_leavesAll_53 rfl rfl rfl (Nat.le_of_ble_eq_true rfl) (Nat.le_of_ble_eq_true rfl) rfl (Nat.le_of_ble_eq_true rfl) ⟨Nat.zero_le _, Nat.zero_le _⟩ ?_
                refine J_top (x' := (hourR0 (y 0)) 1 i2) (upG_s) ?_
                refine J_icmp_ne E (tgt := 63) dX6_leavesAll_56 (by decide) (fun c_56 => ?_) (fun c_56 => ?_)
                · skip
                  refine J_iconst E dX6_leavesAll_63 ic_0 ?_
                  refine J_istore_n E (lv' := [(1, .int 0), (0, .ref (b 0)), (2, .int (nI i2))]) dX6_leavesAll_64 rfl (by decide) rfl ?_
                  refine J_iinc E (lv' := [(2, .int (nI (i2 + 1))), (1, .int 0), (0, .ref (b 0))]) dX6_leavesAll_65 2 rfl (nI_inc _) (by decide) rfl ?_
                  refine J_goto E (tgt := 34) dX6_leavesAll_68 (by decide) ?_
                  refine J_lv [2, 1, 0] rfl ?_
                  exact ih34 (i2 + 1) 0 (by omega) (by first | exact allF_z hs c_41 | exact allF_n (fun z => c_56 (of_decide_eq_true z).symm) | exact allF_y hs c_41 (decide_eq_true c_56.symm)) (by omega)
                · skip
                  refine J_iconst E dX6_leavesAll_59 ic_1 ?_
                  refine J_goto E (tgt := 64) dX6_leavesAll_60 (by decide) ?_
                  refine J_istore_n E (lv' := [(1, .int 1), (0, .ref (b 0)), (2, .int (nI i2))]) dX6_leavesAll_64 rfl (by decide) rfl ?_
                  refine J_iinc E (lv' := [(2, .int (nI (i2 + 1))), (1, .int 1), (0, .ref (b 0))]) dX6_leavesAll_65 2 rfl (nI_inc _) (by decide) rfl ?_
                  refine J_goto E (tgt := 34) dX6_leavesAll_68 (by decide) ?_
                  refine J_lv [2, 1, 0] rfl ?_
                  exact ih34 (i2 + 1) 1 (by omega) (by first | exact allF_z hs c_41 | exact allF_n (fun z => c_56 (of_decide_eq_true z).symm) | exact allF_y hs c_41 (decide_eq_true c_56.symm)) (by omega)
        refine J_lv [2, 1, 0] rfl ?_
        exact lp34 _ 0 1 (by omega) rfl (Nat.lt_succ_self _)
      · skip
        have n_5 : ¬ 11 ≤ i := cmp_nle (a := 11) (b := i) (by omega) (by omega) c_5
        refine J_aload_n E dX6_leavesAll_8 rfl 0 rfl ?_
        refine gM0_X6_25 E dX6_leavesAll_9 ?_
        refine J_iload_n E dX6_leavesAll_12 rfl 1 rfl ?_
        refine J_aload_n E dX6_leavesAll_13 rfl 0 rfl ?_
        refine J_iload_n E dX6_leavesAll_14 rfl 1 rfl ?_
        refine J_iconst E dX6_leavesAll_15 ic_1 ?_
        refine J_cVi0 E (As := [.int (nI i), .int 1]) (c_X6_its l G b (upG y 5 d) i 1 (by omega) (by omega)) cl_X6_64 yo_X6_its dX6_leavesAll_16 rfl rfl rfl (Nat.le_of_ble_eq_true rfl) (Nat.le_of_ble_eq_true rfl) rfl (Nat.le_of_ble_eq_true rfl) ⟨Nat.zero_le _, Nat.zero_le _⟩ ?_
        refine J_top (x' := y 0 1 i) ((upG_n (by decide))) ?_
        refine sM_6 E (j := i) dX6_leavesAll_19 (by omega) ?_
        refine J_iinc E (lv' := [(1, .int (nI (i + 1))), (0, .ref (b 0))]) dX6_leavesAll_20 1 rfl (nI_inc _) (by decide) rfl ?_
        refine J_goto E (tgt := 2) dX6_leavesAll_23 (by decide) ?_
        refine J_lv [1, 0] rfl ?_
        refine J_w (ws' := wM G b (upG y 5 ((up3 (upG y 5 d) 5 1 i (y 0 1 i)) 5))) (wM_c rfl rfl rfl rfl rfl rfl rfl rfl rfl rfl rfl) ?_
        exact ih2 (i + 1) ((up3 (upG y 5 d) 5 1 i (y 0 1 i)) 5) (by omega) (fun j hj => by show upd (d 1) i (y 0 1 i) j = y 0 1 j; by_cases e : j = i; rw [e]; exact pk_us; rw [pk_un e]; exact hd j (by omega)) (by omega)
  refine J_lv [1, 0] rfl ?_
  refine J_w (ws' := wM G b (upG y 5 (y 5))) (wM_c rfl rfl rfl rfl rfl rfl rfl rfl rfl rfl rfl) ?_
  exact lp2 _ 0 (y 5) (by omega) (fun j hj => absurd hj (Nat.not_lt_zero j)) (Nat.lt_succ_self _)

theorem c_X6_leavesAll_q (l : Launch) (G : GB) (b : Nat → Nat) (y : Q3) (q : Q2) (hq0 : y 0 = q) (hok : okQ q) : CI l yX6_leavesAll cX6_leavesAll 3 .boolean 4 91 G [.ref (b 0)] (wM G b y) (fun vR w' => vR = bI (stillB q = true) ∧ ∃ d : Q2, w' = wM G b (upG (upG y 5 d) 0 (hourR0 q))) := by
  subst hq0
  exact c_X6_leavesAll l G b y hok
