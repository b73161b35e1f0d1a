set_option maxHeartbeats 4000000 in
set_option maxRecDepth 20000 in
theorem c_X6_odds_bad (l : Launch) (G : GB) (b : Nat → Nat) (y : Q3) (v n w : Int32) (hb : ¬ ((0 ≤ v ∧ v ≤ 100) ∧ (0 ≤ n ∧ n ≤ 9) ∧ 0 ≤ w ∧ w ≤ 1)) : CL l yX6_odds cX6_odds 14 1 25 G [.ref (b 0), .int v, .int n, .int w] (wM G b y) (fun vR w' => vR = Int32.toInt64 (tellR 0) ∧ PubM G b (tellX y 0) w') := by
  refine CL.mk (own := RX6) (by decide) rfl (Nat.le_of_ble_eq_true rfl) ?_
  intro X E ret
  show J X G 14 0 0 (wM G b y) [(0, .ref (b 0)), (1, .int v), (2, .int n), (3, .int w)] 0 []
  refine J_iload_n E dX6_odds_0 rfl 1 rfl ?_
  refine J_i2l E dX6_odds_1 rfl ?_
  refine J_lconst E dX6_odds_2 lc_0 ?_
  refine J_ldc2 E kl_X6_153 dX6_odds_3 ?_
  refine J_cSiN E (As := [.long (Int32.toInt64 v), .long 0, .long 100]) (c_X6_in l G v 0 100 0 100 (by decide) (by decide) ) cl_X6_54 yo_X6_in dX6_odds_6 rfl (Nat.le_of_ble_eq_true rfl) (Nat.le_of_ble_eq_true rfl) rfl (Nat.le_of_ble_eq_true rfl) ⟨Nat.zero_le _, Nat.zero_le _⟩ ?_
  refine J_if_eq E (tgt := 34) dX6_odds_9 (by decide) (fun c_9 => ?_) (fun c_9 => ?_)
  · skip
    have c_9 := bI_0 c_9
    refine J_aload_n E dX6_odds_34 rfl 0 rfl ?_
    refine J_iconst E dX6_odds_35 ic_0 ?_
    refine J_cVi0 E (As := [.int 0]) (c_X6_finds l G b y 0 (by omega)) cl_X6_96 yo_X6_finds dX6_odds_36 rfl rfl rfl (Nat.le_of_ble_eq_true rfl) (Nat.le_of_ble_eq_true rfl) rfl (Nat.le_of_ble_eq_true rfl) ⟨Nat.zero_le _, Nat.zero_le _⟩ ?_
    refine J_i2l E dX6_odds_39 rfl ?_
    exact ret _ _ _ _ ⟨rfl, _, rfl, by intro g h2 h5 h6; by_cases h0 : g = 0 <;> simp [tellX, upG, up3, up3R, up2, h0, h2, h5, h6]⟩ dX6_odds_40
  · skip
    have c_9 := bI_1 c_9
    refine J_iload_n E dX6_odds_12 rfl 2 rfl ?_
    refine J_i2l E dX6_odds_13 rfl ?_
    refine J_lconst E dX6_odds_14 lc_0 ?_
    refine J_ldc2 E kl_X6_99 dX6_odds_15 ?_
    refine J_cSiN E (As := [.long (Int32.toInt64 n), .long 0, .long 9]) (c_X6_in l G n 0 9 0 9 (by decide) (by decide) ) cl_X6_54 yo_X6_in dX6_odds_18 rfl (Nat.le_of_ble_eq_true rfl) (Nat.le_of_ble_eq_true rfl) rfl (Nat.le_of_ble_eq_true rfl) ⟨Nat.zero_le _, Nat.zero_le _⟩ ?_
    refine J_if_eq E (tgt := 34) dX6_odds_21 (by decide) (fun c_21 => ?_) (fun c_21 => ?_)
    · skip
      have c_21 := bI_0 c_21
      refine J_aload_n E dX6_odds_34 rfl 0 rfl ?_
      refine J_iconst E dX6_odds_35 ic_0 ?_
      refine J_cVi0 E (As := [.int 0]) (c_X6_finds l G b y 0 (by omega)) cl_X6_96 yo_X6_finds dX6_odds_36 rfl rfl rfl (Nat.le_of_ble_eq_true rfl) (Nat.le_of_ble_eq_true rfl) rfl (Nat.le_of_ble_eq_true rfl) ⟨Nat.zero_le _, Nat.zero_le _⟩ ?_
      refine J_i2l E dX6_odds_39 rfl ?_
      exact ret _ _ _ _ ⟨rfl, _, rfl, by intro g h2 h5 h6; by_cases h0 : g = 0 <;> simp [tellX, upG, up3, up3R, up2, h0, h2, h5, h6]⟩ dX6_odds_40
    · skip
      have c_21 := bI_1 c_21
      refine J_iload_n E dX6_odds_24 rfl 3 rfl ?_
      refine J_i2l E dX6_odds_25 rfl ?_
      refine J_lconst E dX6_odds_26 lc_0 ?_
      refine J_lconst E dX6_odds_27 lc_1 ?_
      refine J_cSiN E (As := [.long (Int32.toInt64 w), .long 0, .long 1]) (c_X6_in l G w 0 1 0 1 (by decide) (by decide) ) cl_X6_54 yo_X6_in dX6_odds_28 rfl (Nat.le_of_ble_eq_true rfl) (Nat.le_of_ble_eq_true rfl) rfl (Nat.le_of_ble_eq_true rfl) ⟨Nat.zero_le _, Nat.zero_le _⟩ ?_
      refine J_if_ne E (tgt := 41) dX6_odds_31 (by decide) (fun c_31 => ?_) (fun c_31 => ?_)
      · skip
        have c_31 := bI_1 c_31
        exact absurd ⟨c_9, c_21, c_31⟩ hb
      · skip
        have c_31 := bI_0 c_31
        refine J_aload_n E dX6_odds_34 rfl 0 rfl ?_
        refine J_iconst E dX6_odds_35 ic_0 ?_
        refine J_cVi0 E (As := [.int 0]) (c_X6_finds l G b y 0 (by omega)) cl_X6_96 yo_X6_finds dX6_odds_36 rfl rfl rfl (Nat.le_of_ble_eq_true rfl) (Nat.le_of_ble_eq_true rfl) rfl (Nat.le_of_ble_eq_true rfl) ⟨Nat.zero_le _, Nat.zero_le _⟩ ?_
        refine J_i2l E dX6_odds_39 rfl ?_
        exact ret _ _ _ _ ⟨rfl, _, rfl, by intro g h2 h5 h6; by_cases h0 : g = 0 <;> simp [tellX, upG, up3, up3R, up2, h0, h2, h5, h6]⟩ dX6_odds_40

set_option maxHeartbeats 4000000 in
set_option maxRecDepth 20000 in
theorem c_X6_odds_0 (l : Launch) (G : GB) (b : Nat → Nat) (y : Q3) (v ab n : Nat) (hv : v + ab = 100) (hn : n < 10) : CL l yX6_odds cX6_odds 14 1 25 G [.ref (b 0), .int (nI v), .int (nI n), .int (nI 0)] (wM G b y) (fun vR w' => vR = lN ((ab ^ n) / Nat.gcd (ab ^ n) (100 ^ n)) ∧ PubM G b y w') := by
  refine CL.mk (own := RX6) (by decide) rfl (Nat.le_of_ble_eq_true rfl) ?_
  intro X E ret
  show J X G 14 0 0 (wM G b y) [(0, .ref (b 0)), (1, .int (nI v)), (2, .int (nI n)), (3, .int (nI 0))] 0 []
  refine J_iload_n E dX6_odds_0 rfl 1 rfl ?_
  refine J_i2l E dX6_odds_1 rfl ?_
  refine J_lconst E dX6_odds_2 lc_0 ?_
  refine J_ldc2 E kl_X6_153 dX6_odds_3 ?_
  refine J_cSiN E (As := [.long (Int32.toInt64 (nI v)), .long 0, .long 100]) (c_X6_in l G (nI v) 0 100 0 100 (by decide) (by decide) ) cl_X6_54 yo_X6_in dX6_odds_6 rfl (Nat.le_of_ble_eq_true rfl) (Nat.le_of_ble_eq_true rfl) rfl (Nat.le_of_ble_eq_true rfl) ⟨Nat.zero_le _, Nat.zero_le _⟩ ?_
  refine J_if_eq E (tgt := 34) dX6_odds_9 (by decide) (fun c_9 => ?_) (fun c_9 => ?_)
  · skip
    have c_9 := bI_0 c_9
    exact absurd (inB (a := v) (b := 100) (by omega) (by decide)) c_9
  · skip
    have c_9 := bI_1 c_9
    refine J_iload_n E dX6_odds_12 rfl 2 rfl ?_
    refine J_i2l E dX6_odds_13 rfl ?_
    refine J_lconst E dX6_odds_14 lc_0 ?_
    refine J_ldc2 E kl_X6_99 dX6_odds_15 ?_
    refine J_cSiN E (As := [.long (Int32.toInt64 (nI n)), .long 0, .long 9]) (c_X6_in l G (nI n) 0 9 0 9 (by decide) (by decide) ) cl_X6_54 yo_X6_in dX6_odds_18 rfl (Nat.le_of_ble_eq_true rfl) (Nat.le_of_ble_eq_true rfl) rfl (Nat.le_of_ble_eq_true rfl) ⟨Nat.zero_le _, Nat.zero_le _⟩ ?_
    refine J_if_eq E (tgt := 34) dX6_odds_21 (by decide) (fun c_21 => ?_) (fun c_21 => ?_)
    · skip
      have c_21 := bI_0 c_21
      exact absurd (inB (a := n) (b := 9) (by omega) (by decide)) c_21
    · skip
      have c_21 := bI_1 c_21
      refine J_iload_n E dX6_odds_24 rfl 3 rfl ?_
      refine J_i2l E dX6_odds_25 rfl ?_
      refine J_lconst E dX6_odds_26 lc_0 ?_
      refine J_lconst E dX6_odds_27 lc_1 ?_
      refine J_cSiN E (As := [.long (Int32.toInt64 (nI 0)), .long 0, .long 1]) (c_X6_in l G (nI 0) 0 1 0 1 (by decide) (by decide) ) cl_X6_54 yo_X6_in dX6_odds_28 rfl (Nat.le_of_ble_eq_true rfl) (Nat.le_of_ble_eq_true rfl) rfl (Nat.le_of_ble_eq_true rfl) ⟨Nat.zero_le _, Nat.zero_le _⟩ ?_
      refine J_if_ne E (tgt := 41) dX6_odds_31 (by decide) (fun c_31 => ?_) (fun c_31 => ?_)
      · skip
        have c_31 := bI_1 c_31
        refine J_lconst E dX6_odds_41 lc_1 ?_
        refine J_lstore E (lv' := [(4, .long 1), (0, .ref (b 0)), (1, .int (nI v)), (2, .int (nI n)), (3, .int (nI 0))]) dX6_odds_42 (by decide) rfl ?_
        refine J_lconst E dX6_odds_44 lc_1 ?_
        refine J_lstore E (lv' := [(6, .long 1), (4, .long 1), (0, .ref (b 0)), (1, .int (nI v)), (2, .int (nI n)), (3, .int (nI 0))]) dX6_odds_45 (by decide) rfl ?_
        refine J_iconst E dX6_odds_47 ic_0 ?_
        refine J_istore E (lv' := [(8, .int 0), (6, .long 1), (4, .long 1), (0, .ref (b 0)), (1, .int (nI v)), (2, .int (nI n)), (3, .int (nI 0))]) dX6_odds_48 (by decide) rfl ?_
        have lp50 : ∀ (fu : Nat) (i : Nat), (i ≤ n) → n - i < fu → J X G 14 0 0 (wM G b y) [(0, .ref (b 0)), (1, .int (nI v)), (2, .int (nI n)), (3, .int (nI 0)), (4, .long (lN (ab ^ i))), (6, .long (lN (100 ^ i))), (8, .int (nI i))] 50 [] := by
          intro fu
          induction fu with
          | zero => intro i hi hm; exact absurd hm (Nat.not_lt_zero _)
          | succ fu ih50 =>
            intro i hi hm
            refine J_iload E dX6_odds_50 6 rfl ?_
            refine J_iload_n E dX6_odds_52 rfl 2 rfl ?_
            refine J_icmp_ge E (tgt := 80) dX6_odds_53 (by decide) (fun c_53 => ?_) (fun c_53 => ?_)
            · skip
              have n_53 : n ≤ i := cmp_le (a := n) (b := i) (by omega) (by omega) c_53
              have hin : i = n := by omega
              rw [hin]
              refine J_lload E dX6_odds_80 4 rfl ?_
              refine J_lstore E (lv' := [(8, .long (lN (ab ^ n))), (0, .ref (b 0)), (1, .int (nI v)), (2, .int (nI n)), (3, .int (nI 0)), (4, .long (lN (ab ^ n))), (6, .long (lN (100 ^ n)))]) dX6_odds_82 (by decide) rfl ?_
              refine J_lload E dX6_odds_84 6 rfl ?_
              refine J_lstore E (lv' := [(10, .long (lN (100 ^ n))), (8, .long (lN (ab ^ n))), (0, .ref (b 0)), (1, .int (nI v)), (2, .int (nI n)), (3, .int (nI 0)), (4, .long (lN (ab ^ n))), (6, .long (lN (100 ^ n)))]) dX6_odds_86 (by decide) rfl ?_
              have lp88 : ∀ (fu : Nat) (x : Nat) (z : Nat), (x ≤ 1000000000000000000) → (z ≤ 1000000000000000000) → (Nat.gcd x z = Nat.gcd (ab ^ n) (100 ^ n)) → z < fu → J X G 14 0 0 (wM G b y) [(0, .ref (b 0)), (3, .int (nI 0)), (4, .long (lN (ab ^ n))), (6, .long (lN (100 ^ n))), (8, .long (lN x)), (10, .long (lN z))] 88 [] := by
                intro fu
                induction fu with
                | zero => intro x z hx hz hg hm; exact absurd hm (Nat.not_lt_zero _)
                | succ fu ih88 =>
                  intro x z hx hz hg hm
                  refine J_lload E dX6_odds_88 5 rfl ?_
                  refine J_lconst E dX6_odds_90 lc_0 ?_
                  refine J_lcmp E dX6_odds_91 ?_
                  refine J_if_eq E (tgt := 113) dX6_odds_92 (by decide) (fun c_92 => ?_) (fun c_92 => ?_)
                  · skip
                    have z1 : z = 0 := (pk_lEQ (a := z) (b := 0) (by omega) (by decide)).mp ((lg_cmp_eq _ _).mp c_92)
                    have hx1 : x = Nat.gcd (ab ^ n) (100 ^ n) := by rw [← hg, z1, Nat.gcd_zero_right]
                    have hx0 : 0 < x := by rw [hx1]; exact Nat.gcd_pos_of_pos_right _ (Nat.pow_pos (by decide))
                    have hA := pow_b (ab := ab) (n := n) (by omega) (by omega)
                    have hB := pow_b (ab := 100) (n := n) (by decide) (by omega)
                    refine J_iload_n E dX6_odds_113 rfl 1 rfl ?_
                    refine J_if_ne E (tgt := 122) dX6_odds_114 (by decide) (fun c_114 => ?_) (fun c_114 => ?_)
                    · skip
                      have n_114 : ¬ 0 = 0 := cmp_ne (a := 0) (b := 0) (by omega) (by omega) c_114
                      exact absurd n_114 (by decide)
                    · skip
                      have n_114 : 0 = 0 := cmp_eq (a := 0) (b := 0) (by omega) (by omega) c_114
                      refine J_lload E dX6_odds_117 2 rfl ?_
                      refine J_goto E (tgt := 124) dX6_odds_119 (by decide) ?_
                      refine J_lload E dX6_odds_124 4 rfl ?_
                      refine J_ldiv E dX6_odds_126 (fun e => absurd ((pk_lEQ (a := x) (b := 0) (by omega) (by decide)).mp e) (by omega)) ?_
                      refine J_topl (x' := lN ((ab ^ n) / x)) (pk_lDiv (by omega) (by omega) (by omega)) ?_
                      exact ret _ _ _ _ ⟨by rw [hx1], _, rfl, by intro g h2 h5 h6; by_cases h0 : g = 0 <;> simp [tellX, upG, up3, up3R, up2, h0, h2, h5, h6]⟩ dX6_odds_127
                  · skip
                    have z0 : ¬ z = 0 := fun e => c_92 (by rw [e]; exact (lg_cmp_eq _ _).mpr rfl)
                    refine J_lload E dX6_odds_95 4 rfl ?_
                    refine J_lload E dX6_odds_97 5 rfl ?_
                    refine J_lrem E dX6_odds_99 (fun e => z0 ((pk_lEQ (a := z) (b := 0) (by omega) (by decide)).mp e)) ?_
                    refine J_topl (x' := lN (x % z)) (pk_lRem (by omega) (by omega) (by omega)) ?_
                    refine J_lstore E (lv' := [(12, .long (lN (x % z))), (0, .ref (b 0)), (3, .int (nI 0)), (4, .long (lN (ab ^ n))), (6, .long (lN (100 ^ n))), (8, .long (lN x)), (10, .long (lN z))]) dX6_odds_100 (by decide) rfl ?_
                    refine J_lload E dX6_odds_102 6 rfl ?_
                    refine J_lstore E (lv' := [(8, .long (lN z)), (12, .long (lN (x % z))), (0, .ref (b 0)), (3, .int (nI 0)), (4, .long (lN (ab ^ n))), (6, .long (lN (100 ^ n))), (10, .long (lN z))]) dX6_odds_104 (by decide) rfl ?_
                    refine J_lload E dX6_odds_106 1 rfl ?_
                    refine J_lstore E (lv' := [(10, .long (lN (x % z))), (8, .long (lN z)), (12, .long (lN (x % z))), (0, .ref (b 0)), (3, .int (nI 0)), (4, .long (lN (ab ^ n))), (6, .long (lN (100 ^ n)))]) dX6_odds_108 (by decide) rfl ?_
                    refine J_goto E (tgt := 88) dX6_odds_110 (by decide) ?_
                    refine J_lv [3, 4, 5, 6, 1, 0] rfl ?_
                    exact ih88 z (x % z) hz (by have := Nat.mod_lt x (show 0 < z by omega); omega) (by rw [← hg, Nat.gcd_comm z (x % z), ← Nat.gcd_rec, Nat.gcd_comm]) (by have := Nat.mod_lt x (show 0 < z by omega); omega)
              refine J_lv [2, 5, 6, 7, 1, 0] rfl ?_
              exact lp88 _ (ab ^ n) (100 ^ n) (pow_b (by omega) (by omega)) (pow_b (by decide) (by omega)) rfl (Nat.lt_succ_self _)
            · skip
              have n_53 : ¬ n ≤ i := cmp_nle (a := n) (b := i) (by omega) (by omega) c_53
              refine J_lload E dX6_odds_56 4 rfl ?_
              refine J_bipush E dX6_odds_58 bp_100 ?_
              refine J_iload_n E dX6_odds_60 rfl 1 rfl ?_
              refine J_isub E dX6_odds_61 ?_
              refine J_top (x' := nI ab) (sub100 hv) ?_
              refine J_i2l E dX6_odds_62 rfl ?_
              refine J_topl (x' := lN ab) (nI_l (by omega)) ?_
              refine J_lmul E dX6_odds_63 ?_
              refine J_topl (x' := lN (ab ^ i * ab)) (lN_mulM _ _) ?_
              refine J_lstore E (lv' := [(4, .long (lN (ab ^ i * ab))), (0, .ref (b 0)), (1, .int (nI v)), (2, .int (nI n)), (3, .int (nI 0)), (6, .long (lN (100 ^ i))), (8, .int (nI i))]) dX6_odds_64 (by decide) rfl ?_
              refine J_lload E dX6_odds_66 5 rfl ?_
              refine J_ldc2 E kl_X6_153 dX6_odds_68 ?_
              refine J_topl (x' := lN 100) (rfl) ?_
              refine J_lmul E dX6_odds_71 ?_
              refine J_topl (x' := lN (100 ^ i * 100)) (lN_mulM _ _) ?_
              refine J_lstore E (lv' := [(6, .long (lN (100 ^ i * 100))), (4, .long (lN (ab ^ i * ab))), (0, .ref (b 0)), (1, .int (nI v)), (2, .int (nI n)), (3, .int (nI 0)), (8, .int (nI i))]) dX6_odds_72 (by decide) rfl ?_
              refine J_iinc E (lv' := [(8, .int (nI (i + 1))), (6, .long (lN (100 ^ i * 100))), (4, .long (lN (ab ^ i * ab))), (0, .ref (b 0)), (1, .int (nI v)), (2, .int (nI n)), (3, .int (nI 0))]) dX6_odds_74 6 rfl (nI_inc _) (by decide) rfl ?_
              refine J_goto E (tgt := 50) dX6_odds_77 (by decide) ?_
              refine J_lv [3, 4, 5, 6, 2, 1, 0] rfl ?_
              exact ih50 (i + 1) (by omega) (by omega)
        refine J_lv [3, 4, 5, 6, 2, 1, 0] rfl ?_
        exact lp50 _ 0 (by omega) (Nat.lt_succ_self _)
      · skip
        have c_31 := bI_0 c_31
        exact absurd (inB (a := 0) (b := 1) (by omega) (by decide)) c_31
