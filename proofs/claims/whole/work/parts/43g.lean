set_option maxHeartbeats 4000000 in
set_option maxRecDepth 20000 in
theorem c_X6_love_bad (l : Launch) (G : GB) (b : Nat → Nat) (y : Q3) (h n : Int32) (hb : ¬ (okH h ∧ 0 ≤ n ∧ n ≤ 40)) : CI l yX6_love cX6_love 7 .int 2 45 G [.ref (b 0), .int h, .int n] (wM G b y) (fun vR w' => vR = tellR 0 ∧ PubM G b (tellX y 0) w') := by
  refine CI.mk (own := RX6) (by decide) rfl (Nat.le_of_ble_eq_true rfl) ?_
  intro X E ret
  show J X G 7 0 0 (wM G b y) [(0, .ref (b 0)), (1, .int h), (2, .int n)] 0 []
  refine J_iload_n E dX6_love_0 rfl 1 rfl ?_
  refine J_cSiN E (As := [.int h]) (c_X6_isHouse l G h ) cl_X6_87 yo_X6_isHouse dX6_love_1 rfl (Nat.le_of_ble_eq_true rfl) (Nat.le_of_ble_eq_true rfl) rfl (Nat.le_of_ble_eq_true rfl) ⟨Nat.zero_le _, Nat.zero_le _⟩ ?_
  refine J_if_eq E (tgt := 14) dX6_love_4 (by decide) (fun c_4 => ?_) (fun c_4 => ?_)
  · skip
    have c_4 := bI_0 c_4
    refine J_aload_n E dX6_love_14 rfl 0 rfl ?_
    refine J_iconst E dX6_love_15 ic_0 ?_
    refine J_cVi0 E (As := [.int 0]) (c_X6_finds l G b y 0 (by omega)) cl_X6_96 yo_X6_finds dX6_love_16 rfl rfl rfl (Nat.le_of_ble_eq_true rfl) (Nat.le_of_ble_eq_true rfl) rfl (Nat.le_of_ble_eq_true rfl) ⟨Nat.zero_le _, Nat.zero_le _⟩ ?_
    exact ret _ _ _ _ ⟨rfl, _, rfl, by intro g h2 h5 h6; by_cases h0 : g = 0 <;> simp [tellX, upG, up3, up3R, up2, h0, h2, h5, h6]⟩ rfl dX6_love_19
  · skip
    have c_4 := bI_1 c_4
    refine J_iload_n E dX6_love_7 rfl 2 rfl ?_
    refine J_cSiN E (As := [.int n]) (c_X6_isSoon l G n ) cl_X6_176 yo_X6_isSoon dX6_love_8 rfl (Nat.le_of_ble_eq_true rfl) (Nat.le_of_ble_eq_true rfl) rfl (Nat.le_of_ble_eq_true rfl) ⟨Nat.zero_le _, Nat.zero_le _⟩ ?_
    refine J_if_ne E (tgt := 20) dX6_love_11 (by decide) (fun c_11 => ?_) (fun c_11 => ?_)
    · skip
      have c_11 := bI_1 c_11
      exact absurd ⟨c_4, c_11⟩ hb
    · skip
      have c_11 := bI_0 c_11
      refine J_aload_n E dX6_love_14 rfl 0 rfl ?_
      refine J_iconst E dX6_love_15 ic_0 ?_
      refine J_cVi0 E (As := [.int 0]) (c_X6_finds l G b y 0 (by omega)) cl_X6_96 yo_X6_finds dX6_love_16 rfl rfl rfl (Nat.le_of_ble_eq_true rfl) (Nat.le_of_ble_eq_true rfl) rfl (Nat.le_of_ble_eq_true rfl) ⟨Nat.zero_le _, Nat.zero_le _⟩ ?_
      exact ret _ _ _ _ ⟨rfl, _, rfl, by intro g h2 h5 h6; by_cases h0 : g = 0 <;> simp [tellX, upG, up3, up3R, up2, h0, h2, h5, h6]⟩ rfl dX6_love_19

set_option maxHeartbeats 4000000 in
set_option maxRecDepth 20000 in
theorem c_X6_love_ok (l : Launch) (G : GB) (b : Nat → Nat) (y : Q3) (j m : Nat) (hj : j < 11) (hm : m ≤ 40) (hok : okQ (y 0))  : CI l yX6_love cX6_love 7 .int 5 113 G [.ref (b 0), .int (nI j), .int (nI m)] (wM G b y) (fun vR w' => vR = nI (argF (fun o => hoursR (turn1 (y 0) o) m 1 j) 11).2 ∧ PubM G b y w') := by
  refine CI.mk (own := RX6) (by decide) rfl (Nat.le_of_ble_eq_true rfl) ?_
  intro X E ret
  show J X G 7 0 0 (wM G b y) [(0, .ref (b 0)), (1, .int (nI j)), (2, .int (nI m))] 0 []
  refine J_iload_n E dX6_love_0 rfl 1 rfl ?_
  refine J_cSiN E (As := [.int (nI j)]) (c_X6_isHouse l G (nI j) ) cl_X6_87 yo_X6_isHouse dX6_love_1 rfl (Nat.le_of_ble_eq_true rfl) (Nat.le_of_ble_eq_true rfl) rfl (Nat.le_of_ble_eq_true rfl) ⟨Nat.zero_le _, Nat.zero_le _⟩ ?_
  refine J_if_eq E (tgt := 14) dX6_love_4 (by decide) (fun c_4 => ?_) (fun c_4 => ?_)
  · skip
    have c_4 := bI_0 c_4
    exact absurd (inB (a := j) (b := 10) (by omega) (by decide)) c_4
  · skip
    have c_4 := bI_1 c_4
    refine J_iload_n E dX6_love_7 rfl 2 rfl ?_
    refine J_cSiN E (As := [.int (nI m)]) (c_X6_isSoon l G (nI m) ) cl_X6_176 yo_X6_isSoon dX6_love_8 rfl (Nat.le_of_ble_eq_true rfl) (Nat.le_of_ble_eq_true rfl) rfl (Nat.le_of_ble_eq_true rfl) ⟨Nat.zero_le _, Nat.zero_le _⟩ ?_
    refine J_if_ne E (tgt := 20) dX6_love_11 (by decide) (fun c_11 => ?_) (fun c_11 => ?_)
    · skip
      have c_11 := bI_1 c_11
      refine J_iconst E dX6_love_20 ic_0 ?_
      refine J_istore_n E (lv' := [(3, .int 0), (0, .ref (b 0)), (1, .int (nI j)), (2, .int (nI m))]) dX6_love_21 rfl (by decide) rfl ?_
      refine J_iconst E dX6_love_22 ic_m1 ?_
      refine J_istore E (lv' := [(4, .int (-1)), (3, .int 0), (0, .ref (b 0)), (1, .int (nI j)), (2, .int (nI m))]) dX6_love_23 (by decide) rfl ?_
      refine J_iconst E dX6_love_25 ic_0 ?_
      refine J_istore E (lv' := [(5, .int 0), (4, .int (-1)), (3, .int 0), (0, .ref (b 0)), (1, .int (nI j)), (2, .int (nI m))]) dX6_love_26 (by decide) rfl ?_
      refine J_w (ws' := wM G b (upG y 5 (y 5))) (congrArg (wM G b) upG_id.symm) ?_
      have lp28 : ∀ (fu : Nat) (i : Nat) (bs : Int32) (mo : Int32) (d : Q2) (z : Q2), (i ≤ 11) → (bs = nI (argF (fun o => hoursR (turn1 (y 0) o) m 1 j) i).2) → (mo = (argF (fun o => hoursR (turn1 (y 0) o) m 1 j) i).1) → 11 - i < fu → J X G 7 0 0 (wM G b (upG (upG y 5 d) 2 z)) [(0, .ref (b 0)), (1, .int (nI j)), (2, .int (nI m)), (3, .int bs), (4, .int mo), (5, .int (nI i))] 28 [] := by
        intro fu
        induction fu with
        | zero => intro i bs mo d z hi hb hm2 hm; exact absurd hm (Nat.not_lt_zero _)
        | succ fu ih28 =>
          intro i bs mo d z hi hb hm2 hm
          refine J_iload E dX6_love_28 5 rfl ?_
          refine J_bipush E dX6_love_30 bp_11 ?_
          refine J_icmp_ge E (tgt := 91) dX6_love_32 (by decide) (fun c_32 => ?_) (fun c_32 => ?_)
          · skip
            have n_32 : 11 ≤ i := cmp_le (a := 11) (b := i) (by omega) (by omega) c_32
            refine J_iload_n E dX6_love_91 rfl 3 rfl ?_
            exact ret _ _ _ _ ⟨by rw [hb, show i = 11 by omega], _, rfl, by intro g h2 h5 h6; by_cases h0 : g = 0 <;> simp [tellX, upG, up3, up3R, up2, h0, h2, h5, h6]⟩ rfl dX6_love_92
          · skip
            have n_32 : ¬ 11 ≤ i := cmp_nle (a := 11) (b := i) (by omega) (by omega) c_32
            refine J_aload_n E dX6_love_35 rfl 0 rfl ?_
            refine J_cVv0 E (As := []) (c_X6_lends l G b (upG (upG y 5 d) 2 z) ) cl_X6_160 yo_X6_lends dX6_love_36 rfl rfl rfl (Nat.le_of_ble_eq_true rfl) (Nat.le_of_ble_eq_true rfl) rfl (Nat.le_of_ble_eq_true rfl) ⟨Nat.zero_le _, Nat.zero_le _⟩ ?_
            refine J_aload_n E dX6_love_39 rfl 0 rfl ?_
            refine J_iload E dX6_love_40 5 rfl ?_
            refine J_cVv0 E (As := [.int (nI i)]) (c_X6_turns l G b (upG (upG (upG y 5 d) 2 z) 2 (y 0)) i (by omega)) cl_X6_186 yo_X6_turns dX6_love_42 rfl rfl rfl (Nat.le_of_ble_eq_true rfl) (Nat.le_of_ble_eq_true rfl) rfl (Nat.le_of_ble_eq_true rfl) ⟨Nat.zero_le _, Nat.zero_le _⟩ ?_
            refine J_aload_n E dX6_love_45 rfl 0 rfl ?_
            refine J_iload_n E dX6_love_46 rfl 2 rfl ?_
            refine J_callEv E (As := [.int (nI m)]) (c_X6_hours l G b (upG (upG (upG (upG y 5 d) 2 z) 2 (y 0)) 0 (turn1 (y 0) i)) m (by omega) (okQ_1 hok _ (by omega))) cl_X6_144 yo_X6_hours dX6_love_47 rfl (Nat.le_of_ble_eq_true rfl) (Nat.le_of_ble_eq_true rfl) rfl (Nat.le_of_ble_eq_true rfl) ⟨Nat.zero_le _, Nat.zero_le _⟩ (fun d47_1 => ?_)
            refine J_w (ws' := wM G b (upG (upG (upG (upG (upG (upG y 5 d) 2 z) 2 (y 0)) 0 (turn1 (y 0) i)) 5 d47_1) 0 (hoursR (turn1 (y 0) i) m))) (wM_c rfl rfl rfl rfl rfl rfl rfl rfl rfl rfl rfl) ?_
            refine J_aload_n E dX6_love_50 rfl 0 rfl ?_
            refine J_iload_n E dX6_love_51 rfl 1 rfl ?_
            refine J_iconst E dX6_love_52 ic_1 ?_
            refine J_cVi0 E (As := [.int (nI j), .int 1]) (c_X6_its l G b (upG (upG (upG (upG (upG (upG y 5 d) 2 z) 2 (y 0)) 0 (turn1 (y 0) i)) 5 d47_1) 0 (hoursR (turn1 (y 0) i) m)) j 1 (by omega) (by omega)) cl_X6_64 yo_X6_its dX6_love_53 rfl rfl rfl (Nat.le_of_ble_eq_true rfl) (Nat.le_of_ble_eq_true rfl) rfl (Nat.le_of_ble_eq_true rfl) ⟨Nat.zero_le _, Nat.zero_le _⟩ ?_
            refine J_top (x' := (hoursR (turn1 (y 0) i) m) 1 j) (upG_s) ?_
            refine J_istore E (lv' := [(6, .int ((hoursR (turn1 (y 0) i) m) 1 j)), (0, .ref (b 0)), (1, .int (nI j)), (2, .int (nI m)), (3, .int bs), (4, .int mo), (5, .int (nI i))]) dX6_love_56 (by decide) rfl ?_
            refine J_aload_n E dX6_love_58 rfl 1 rfl ?_
            refine J_cVv0 E (As := []) (c_X6_laysBack l G b (upG (upG (upG (upG (upG (upG y 5 d) 2 z) 2 (y 0)) 0 (turn1 (y 0) i)) 5 d47_1) 0 (hoursR (turn1 (y 0) i) m)) ) cl_X6_163 yo_X6_laysBack dX6_love_59 rfl rfl rfl (Nat.le_of_ble_eq_true rfl) (Nat.le_of_ble_eq_true rfl) rfl (Nat.le_of_ble_eq_true rfl) ⟨Nat.zero_le _, Nat.zero_le _⟩ ?_
            refine J_iload E dX6_love_62 0 rfl ?_
            refine J_iload E dX6_love_64 5 rfl ?_
            refine J_icmp_le E (tgt := 74) dX6_love_66 (by decide) (fun c_66 => ?_) (fun c_66 => ?_)
            · skip
              refine J_iload_n E dX6_love_74 rfl 4 rfl ?_
              refine J_istore_n E (lv' := [(3, .int bs), (6, .int ((hoursR (turn1 (y 0) i) m) 1 j)), (0, .ref (b 0)), (1, .int (nI j)), (2, .int (nI m)), (4, .int mo), (5, .int (nI i))]) dX6_love_75 rfl (by decide) rfl ?_
              refine J_iload E dX6_love_76 5 rfl ?_
              refine J_iload E dX6_love_78 1 rfl ?_
              refine J_mmax E ml_X6_68 st_mmax ini_J9 co_mmax dX6_love_80 (by decide) (Nat.le_of_ble_eq_true rfl) ⟨Nat.zero_le _, Nat.zero_le _⟩ ?_
              refine J_istore E (lv' := [(4, .int (mx mo ((hoursR (turn1 (y 0) i) m) 1 j))), (3, .int bs), (6, .int ((hoursR (turn1 (y 0) i) m) 1 j)), (0, .ref (b 0)), (1, .int (nI j)), (2, .int (nI m)), (5, .int (nI i))]) dX6_love_83 (by decide) rfl ?_
              refine J_iinc E (lv' := [(5, .int (nI (i + 1))), (4, .int (mx mo ((hoursR (turn1 (y 0) i) m) 1 j))), (3, .int bs), (6, .int ((hoursR (turn1 (y 0) i) m) 1 j)), (0, .ref (b 0)), (1, .int (nI j)), (2, .int (nI m))]) dX6_love_85 6 rfl (nI_inc _) (by decide) rfl ?_
              refine J_goto E (tgt := 28) dX6_love_88 (by decide) ?_
              refine J_lv [4, 5, 6, 2, 1, 0] rfl ?_
              refine J_w (ws' := wM G b (upG (upG y 5 d47_1) 2 (y 0))) (wM_c rfl rfl rfl rfl rfl rfl rfl rfl rfl rfl rfl) ?_
              exact ih28 (i + 1) bs (mx mo ((hoursR (turn1 (y 0) i) m) 1 j)) d47_1 (y 0) (by omega) (by rw [hb]; exact argF_k hm2 c_66) (argF_mx hm2) (by omega)
            · skip
              refine J_iload E dX6_love_69 6 rfl ?_
              refine J_goto E (tgt := 75) dX6_love_71 (by decide) ?_
              refine J_istore_n E (lv' := [(3, .int (nI i)), (6, .int ((hoursR (turn1 (y 0) i) m) 1 j)), (0, .ref (b 0)), (1, .int (nI j)), (2, .int (nI m)), (4, .int mo), (5, .int (nI i))]) dX6_love_75 rfl (by decide) rfl ?_
              refine J_iload E dX6_love_76 5 rfl ?_
              refine J_iload E dX6_love_78 1 rfl ?_
              refine J_mmax E ml_X6_68 st_mmax ini_J9 co_mmax dX6_love_80 (by decide) (Nat.le_of_ble_eq_true rfl) ⟨Nat.zero_le _, Nat.zero_le _⟩ ?_
              refine J_istore E (lv' := [(4, .int (mx mo ((hoursR (turn1 (y 0) i) m) 1 j))), (3, .int (nI i)), (6, .int ((hoursR (turn1 (y 0) i) m) 1 j)), (0, .ref (b 0)), (1, .int (nI j)), (2, .int (nI m)), (5, .int (nI i))]) dX6_love_83 (by decide) rfl ?_
              refine J_iinc E (lv' := [(5, .int (nI (i + 1))), (4, .int (mx mo ((hoursR (turn1 (y 0) i) m) 1 j))), (3, .int (nI i)), (6, .int ((hoursR (turn1 (y 0) i) m) 1 j)), (0, .ref (b 0)), (1, .int (nI j)), (2, .int (nI m))]) dX6_love_85 6 rfl (nI_inc _) (by decide) rfl ?_
              refine J_goto E (tgt := 28) dX6_love_88 (by decide) ?_
              refine J_lv [4, 5, 6, 2, 1, 0] rfl ?_
              refine J_w (ws' := wM G b (upG (upG y 5 d47_1) 2 (y 0))) (wM_c rfl rfl rfl rfl rfl rfl rfl rfl rfl rfl rfl) ?_
              exact ih28 (i + 1) (nI i) (mx mo ((hoursR (turn1 (y 0) i) m) 1 j)) d47_1 (y 0) (by omega) (argF_b hm2 c_66) (argF_mx hm2) (by omega)
      refine J_lv [3, 4, 5, 2, 1, 0] rfl ?_
      refine J_w (ws' := wM G b (upG (upG y 5 (y 5)) 2 (y 2))) (wM_c rfl rfl rfl rfl rfl rfl rfl rfl rfl rfl rfl) ?_
      exact lp28 _ 0 0 (-1) (y 5) (y 2) (by omega) rfl rfl (Nat.lt_succ_self _)
    · skip
      have c_11 := bI_0 c_11
      exact absurd (inB (a := m) (b := 40) (by omega) (by decide)) c_11

set_option maxHeartbeats 4000000 in
set_option maxRecDepth 20000 in
theorem c_X6_burst_bad (l : Launch) (G : GB) (b : Nat → Nat) (y : Q3) (h v n : Int32) (hb : ¬ (okH h ∧ (0 ≤ v ∧ v ≤ 9999) ∧ 0 ≤ n ∧ n ≤ 40)) : CI l yX6_burst cX6_burst 5 .int 2 45 G [.ref (b 0), .int h, .int v, .int n] (wM G b y) (fun vR w' => vR = tellR 0 ∧ PubM G b (tellX y 0) w') := by
  refine CI.mk (own := RX6) (by decide) rfl (Nat.le_of_ble_eq_true rfl) ?_
  intro X E ret
  show J X G 5 0 0 (wM G b y) [(0, .ref (b 0)), (1, .int h), (2, .int v), (3, .int n)] 0 []
  refine J_iload_n E dX6_burst_0 rfl 1 rfl ?_
  refine J_cSiN E (As := [.int h]) (c_X6_isHouse l G h ) cl_X6_87 yo_X6_isHouse dX6_burst_1 rfl (Nat.le_of_ble_eq_true rfl) (Nat.le_of_ble_eq_true rfl) rfl (Nat.le_of_ble_eq_true rfl) ⟨Nat.zero_le _, Nat.zero_le _⟩ ?_
  refine J_if_eq E (tgt := 26) dX6_burst_4 (by decide) (fun c_4 => ?_) (fun c_4 => ?_)
  · skip
    have c_4 := bI_0 c_4
    refine J_aload_n E dX6_burst_26 rfl 0 rfl ?_
    refine J_iconst E dX6_burst_27 ic_0 ?_
    refine J_cVi0 E (As := [.int 0]) (c_X6_finds l G b y 0 (by omega)) cl_X6_96 yo_X6_finds dX6_burst_28 rfl rfl rfl (Nat.le_of_ble_eq_true rfl) (Nat.le_of_ble_eq_true rfl) rfl (Nat.le_of_ble_eq_true rfl) ⟨Nat.zero_le _, Nat.zero_le _⟩ ?_
    exact ret _ _ _ _ ⟨rfl, _, rfl, by intro g h2 h5 h6; by_cases h0 : g = 0 <;> simp [tellX, upG, up3, up3R, up2, h0, h2, h5, h6]⟩ rfl dX6_burst_31
  · skip
    have c_4 := bI_1 c_4
    refine J_iload_n E dX6_burst_7 rfl 2 rfl ?_
    refine J_i2l E dX6_burst_8 rfl ?_
    refine J_lconst E dX6_burst_9 lc_0 ?_
    refine J_ldc2 E kl_X6_81 dX6_burst_10 ?_
    refine J_cSiN E (As := [.long (Int32.toInt64 v), .long 0, .long 9999]) (c_X6_in l G v 0 9999 0 9999 (by decide) (by decide) ) cl_X6_54 yo_X6_in dX6_burst_13 rfl (Nat.le_of_ble_eq_true rfl) (Nat.le_of_ble_eq_true rfl) rfl (Nat.le_of_ble_eq_true rfl) ⟨Nat.zero_le _, Nat.zero_le _⟩ ?_
    refine J_if_eq E (tgt := 26) dX6_burst_16 (by decide) (fun c_16 => ?_) (fun c_16 => ?_)
    · skip
      have c_16 := bI_0 c_16
      refine J_aload_n E dX6_burst_26 rfl 0 rfl ?_
      refine J_iconst E dX6_burst_27 ic_0 ?_
      refine J_cVi0 E (As := [.int 0]) (c_X6_finds l G b y 0 (by omega)) cl_X6_96 yo_X6_finds dX6_burst_28 rfl rfl rfl (Nat.le_of_ble_eq_true rfl) (Nat.le_of_ble_eq_true rfl) rfl (Nat.le_of_ble_eq_true rfl) ⟨Nat.zero_le _, Nat.zero_le _⟩ ?_
      exact ret _ _ _ _ ⟨rfl, _, rfl, by intro g h2 h5 h6; by_cases h0 : g = 0 <;> simp [tellX, upG, up3, up3R, up2, h0, h2, h5, h6]⟩ rfl dX6_burst_31
    · skip
      have c_16 := bI_1 c_16
      refine J_iload_n E dX6_burst_19 rfl 3 rfl ?_
      refine J_cSiN E (As := [.int n]) (c_X6_isSoon l G n ) cl_X6_176 yo_X6_isSoon dX6_burst_20 rfl (Nat.le_of_ble_eq_true rfl) (Nat.le_of_ble_eq_true rfl) rfl (Nat.le_of_ble_eq_true rfl) ⟨Nat.zero_le _, Nat.zero_le _⟩ ?_
      refine J_if_ne E (tgt := 32) dX6_burst_23 (by decide) (fun c_23 => ?_) (fun c_23 => ?_)
      · skip
        have c_23 := bI_1 c_23
        exact absurd ⟨c_4, c_16, c_23⟩ hb
      · skip
        have c_23 := bI_0 c_23
        refine J_aload_n E dX6_burst_26 rfl 0 rfl ?_
        refine J_iconst E dX6_burst_27 ic_0 ?_
        refine J_cVi0 E (As := [.int 0]) (c_X6_finds l G b y 0 (by omega)) cl_X6_96 yo_X6_finds dX6_burst_28 rfl rfl rfl (Nat.le_of_ble_eq_true rfl) (Nat.le_of_ble_eq_true rfl) rfl (Nat.le_of_ble_eq_true rfl) ⟨Nat.zero_le _, Nat.zero_le _⟩ ?_
        exact ret _ _ _ _ ⟨rfl, _, rfl, by intro g h2 h5 h6; by_cases h0 : g = 0 <;> simp [tellX, upG, up3, up3R, up2, h0, h2, h5, h6]⟩ rfl dX6_burst_31

set_option maxHeartbeats 4000000 in
set_option maxRecDepth 20000 in
theorem c_X6_burst_ok (l : Launch) (G : GB) (b : Nat → Nat) (y : Q3) (j : Nat) (v : Int32) (m : Nat) (hj : j < 11) (hv : 0 ≤ v ∧ v ≤ 9999) (hm : m ≤ 40) (hok : okQ (y 0))  : CI l yX6_burst cX6_burst 5 .int 6 135 G [.ref (b 0), .int (nI j), .int v, .int (nI m)] (wM G b y) (fun vR w' => vR = hoursR (comesR (y 0) j v) m 7 3 - hoursR (y 0) m 7 3 ∧ PubM G b y w') := by
  refine CI.mk (own := RX6) (by decide) rfl (Nat.le_of_ble_eq_true rfl) ?_
  intro X E ret
  show J X G 5 0 0 (wM G b y) [(0, .ref (b 0)), (1, .int (nI j)), (2, .int v), (3, .int (nI m))] 0 []
  refine J_iload_n E dX6_burst_0 rfl 1 rfl ?_
  refine J_cSiN E (As := [.int (nI j)]) (c_X6_isHouse l G (nI j) ) cl_X6_87 yo_X6_isHouse dX6_burst_1 rfl (Nat.le_of_ble_eq_true rfl) (Nat.le_of_ble_eq_true rfl) rfl (Nat.le_of_ble_eq_true rfl) ⟨Nat.zero_le _, Nat.zero_le _⟩ ?_
  refine J_if_eq E (tgt := 26) dX6_burst_4 (by decide) (fun c_4 => ?_) (fun c_4 => ?_)
  · skip
    have c_4 := bI_0 c_4
    exact absurd (inB (a := j) (b := 10) (by omega) (by decide)) c_4
  · skip
    have c_4 := bI_1 c_4
    refine J_iload_n E dX6_burst_7 rfl 2 rfl ?_
    refine J_i2l E dX6_burst_8 rfl ?_
    refine J_lconst E dX6_burst_9 lc_0 ?_
    refine J_ldc2 E kl_X6_81 dX6_burst_10 ?_
    refine J_cSiN E (As := [.long (Int32.toInt64 v), .long 0, .long 9999]) (c_X6_in l G v 0 9999 0 9999 (by decide) (by decide) ) cl_X6_54 yo_X6_in dX6_burst_13 rfl (Nat.le_of_ble_eq_true rfl) (Nat.le_of_ble_eq_true rfl) rfl (Nat.le_of_ble_eq_true rfl) ⟨Nat.zero_le _, Nat.zero_le _⟩ ?_
    refine J_if_eq E (tgt := 26) dX6_burst_16 (by decide) (fun c_16 => ?_) (fun c_16 => ?_)
    · skip
      have c_16 := bI_0 c_16
      exact absurd (by assumption) c_16
    · skip
      have c_16 := bI_1 c_16
      refine J_iload_n E dX6_burst_19 rfl 3 rfl ?_
      refine J_cSiN E (As := [.int (nI m)]) (c_X6_isSoon l G (nI m) ) cl_X6_176 yo_X6_isSoon dX6_burst_20 rfl (Nat.le_of_ble_eq_true rfl) (Nat.le_of_ble_eq_true rfl) rfl (Nat.le_of_ble_eq_true rfl) ⟨Nat.zero_le _, Nat.zero_le _⟩ ?_
      refine J_if_ne E (tgt := 32) dX6_burst_23 (by decide) (fun c_23 => ?_) (fun c_23 => ?_)
      · skip
        have c_23 := bI_1 c_23
        refine J_aload_n E dX6_burst_32 rfl 0 rfl ?_
        refine J_cVv0 E (As := []) (c_X6_lends l G b y ) cl_X6_160 yo_X6_lends dX6_burst_33 rfl rfl rfl (Nat.le_of_ble_eq_true rfl) (Nat.le_of_ble_eq_true rfl) rfl (Nat.le_of_ble_eq_true rfl) ⟨Nat.zero_le _, Nat.zero_le _⟩ ?_
        refine J_aload_n E dX6_burst_36 rfl 0 rfl ?_
        refine J_iload_n E dX6_burst_37 rfl 3 rfl ?_
        refine J_callEi E (As := [.int (nI m)]) (c_X6_alleyIn l G b (upG y 2 (y 0)) m (by omega) hok) cl_X6_166 yo_X6_alleyIn dX6_burst_38 rfl (Nat.le_of_ble_eq_true rfl) (Nat.le_of_ble_eq_true rfl) rfl (Nat.le_of_ble_eq_true rfl) ⟨Nat.zero_le _, Nat.zero_le _⟩ (fun d38_1 => ?_)
        refine J_w (ws' := wM G b (upG (upG (upG y 2 (y 0)) 5 d38_1) 0 (y 0))) (wM_c rfl rfl rfl rfl rfl rfl rfl rfl rfl rfl rfl) ?_
        refine J_top (x' := hoursR (y 0) m 7 3) rfl ?_
        refine J_istore E (lv' := [(4, .int (hoursR (y 0) m 7 3)), (0, .ref (b 0)), (1, .int (nI j)), (2, .int v), (3, .int (nI m))]) dX6_burst_41 (by decide) rfl ?_
        refine J_aload_n E dX6_burst_43 rfl 1 rfl ?_
        refine J_cVv0 E (As := []) (c_X6_lends l G b (upG (upG (upG y 2 (y 0)) 5 d38_1) 0 (y 0)) ) cl_X6_160 yo_X6_lends dX6_burst_44 rfl rfl rfl (Nat.le_of_ble_eq_true rfl) (Nat.le_of_ble_eq_true rfl) rfl (Nat.le_of_ble_eq_true rfl) ⟨Nat.zero_le _, Nat.zero_le _⟩ ?_
        refine J_aload_n E dX6_burst_47 rfl 1 rfl ?_
        refine J_iload_n E dX6_burst_48 rfl 2 rfl ?_
        refine J_iload_n E dX6_burst_49 rfl 3 rfl ?_
        refine J_cVv0 E (As := [.int (nI j), .int v]) (c_X6_comes l G b (upG (upG (upG (upG y 2 (y 0)) 5 d38_1) 0 (y 0)) 2 (y 0)) j (by omega) v ) cl_X6_127 yo_X6_comes dX6_burst_50 rfl rfl rfl (Nat.le_of_ble_eq_true rfl) (Nat.le_of_ble_eq_true rfl) rfl (Nat.le_of_ble_eq_true rfl) ⟨Nat.zero_le _, Nat.zero_le _⟩ ?_
        refine J_aload_n E dX6_burst_53 rfl 1 rfl ?_
        refine J_iload_n E dX6_burst_54 rfl 4 rfl ?_
        refine J_callEi E (As := [.int (nI m)]) (c_X6_alleyIn l G b (upG (upG (upG (upG (upG y 2 (y 0)) 5 d38_1) 0 (y 0)) 2 (y 0)) 0 (comesR (y 0) j v)) m (by omega) (okQ_com hok _ _)) cl_X6_166 yo_X6_alleyIn dX6_burst_55 rfl (Nat.le_of_ble_eq_true rfl) (Nat.le_of_ble_eq_true rfl) rfl (Nat.le_of_ble_eq_true rfl) ⟨Nat.zero_le _, Nat.zero_le _⟩ (fun d55_2 => ?_)
        refine J_w (ws' := wM G b (upG (upG (upG (upG (upG (upG (upG y 2 (y 0)) 5 d38_1) 0 (y 0)) 2 (y 0)) 0 (comesR (y 0) j v)) 5 d55_2) 0 (y 0))) (wM_c rfl rfl rfl rfl rfl rfl rfl rfl rfl rfl rfl) ?_
        refine J_top (x' := hoursR (comesR (y 0) j v) m 7 3) rfl ?_
        refine J_iload E dX6_burst_58 0 rfl ?_
        refine J_isub E dX6_burst_60 ?_
        exact ret _ _ _ _ ⟨rfl, _, rfl, by intro g h2 h5 h6; by_cases h0 : g = 0 <;> simp [tellX, upG, up3, up3R, up2, h0, h2, h5, h6]⟩ rfl dX6_burst_61
      · skip
        have c_23 := bI_0 c_23
        exact absurd (inB (a := m) (b := 40) (by omega) (by decide)) c_23
