theorem m1_ne {j : Nat} (h : j < 11) : ¬ nI j = -1 := by
  intro e
  have : (nI j).toInt = (-1 : Int32).toInt := congrArg _ e
  rw [nI_toInt (by omega)] at this
  have h2 : (-1 : Int32).toInt = -1 := by decide
  omega
theorem sub100 {v ab : Nat} (h : v + ab = 100) : (100 : Int32) - nI v = nI ab := by
  have := pk_sub (a := 100) (b := v) (by omega)
  rw [show ab = 100 - v by omega]; exact this
theorem rem100 {c : Nat} (h : 0 < c) (hc : c < 2 ^ 31) : (100 : Int32) - (100 : Int32) / nI c * nI c = nI (100 % c) := pk_rem (a := 100) (by decide) h hc
theorem nIz {c : Nat} (h : 0 < c) (hc : c < 2 ^ 31) : ¬ nI c = 0 := nI_ne0 h hc
theorem comF_1 (ab : Nat) : comF ab 1 = 1 := by simp [comF]
theorem comF_y {ab c : Nat} (h1 : 1 < c + 1) (h2 : ab % (c + 1) = 0) (h3 : 100 % (c + 1) = 0) : comF ab (c + 1) = c + 1 := by
  rw [comF, if_neg (by omega), if_pos ⟨h2, h3⟩]
theorem comF_n {ab c : Nat} (h1 : 1 < c + 1) (h2 : ¬ (ab % (c + 1) = 0 ∧ 100 % (c + 1) = 0)) : comF ab (c + 1) = comF ab c := by
  rw [comF, if_neg (by omega), if_neg h2]
theorem sub1m {n : Nat} : nI n - 1 = nI n + (-1) := by
  rw [Int32.sub_eq_add_neg]
theorem mul8 (y : Nat) : (8 : Int32) * nI y = nI (8 * y) := pk_mul 8 y
def cpyQ (x : Q3) (s f t o n : Nat) : Q3 := upG x (8 + t) (upR (x (8 + t)) 0 (va_cpy (x (8 + s) 0) (x (8 + t) 0) f o n))

set_option maxHeartbeats 4000000 in
set_option maxRecDepth 20000 in
theorem c_X0_isUnder (l : Launch) (G : GB) (k o : Nat) (hk : k < 7) (ho : o < 7) : CI l yX0_isUnder cX0_isUnder 4 .boolean 0 0 G [.int (nI k), .int (nI o)] ([]) (fun vR w' => vR = bI (undF k o = true) ∧ w' = []) := by
  refine CI.mk (own := RX0) (by decide) rfl (Nat.le_of_ble_eq_true rfl) ?_
  intro X E ret
  show J X G 4 0 0 ([]) [(0, .int (nI k)), (1, .int (nI o))] 0 []
  rcases (show k = 0 ∨ k = 1 ∨ k = 2 ∨ k = 3 ∨ k = 4 ∨ k = 5 ∨ k = 6 by omega) with rfl | rfl | rfl | rfl | rfl | rfl | rfl
  · skip
    refine J_iload_n E dX0_isUnder_0 rfl 0 rfl ?_
    refine J_istore_n E (lv' := [(2, .int (nI 0)), (0, .int (nI 0)), (1, .int (nI o))]) dX0_isUnder_1 rfl (by decide) rfl ?_
    refine J_iconst E dX0_isUnder_2 ic_0 ?_
    refine J_istore_n E (lv' := [(3, .int 0), (2, .int (nI 0)), (0, .int (nI 0)), (1, .int (nI o))]) dX0_isUnder_3 rfl (by decide) rfl ?_
    refine J_iload_n E dX0_isUnder_4 rfl 0 rfl ?_
    refine J_bipush E dX0_isUnder_5 bp_7 ?_
    refine J_icmp_ge E (tgt := 33) dX0_isUnder_7 (by decide) (fun c_7 => ?_) (fun c_7 => ?_)
    · skip
      have n_7 : 7 ≤ 0 := cmp_le (a := 7) (b := 0) (by omega) (by omega) c_7
      exact absurd n_7 (by decide)
    · skip
      have n_7 : ¬ 7 ≤ 0 := cmp_nle (a := 7) (b := 0) (by omega) (by omega) c_7
      refine J_iload_n E dX0_isUnder_10 rfl 1 rfl ?_
      refine J_if_lt E (tgt := 33) dX0_isUnder_11 (by decide) (fun c_11 => ?_) (fun c_11 => ?_)
      · skip
        have n_11 : 0 < 0 := cmp_lt (a := 0) (b := 0) (by omega) (by omega) c_11
        exact absurd n_11 (by decide)
      · skip
        have n_11 : ¬ 0 < 0 := cmp_nlt (a := 0) (b := 0) (by omega) (by omega) c_11
        refine J_iload_n E dX0_isUnder_14 rfl 1 rfl ?_
        refine J_iload_n E dX0_isUnder_15 rfl 3 rfl ?_
        refine J_icmp_ne E (tgt := 21) dX0_isUnder_16 (by decide) (fun c_16 => ?_) (fun c_16 => ?_)
        · skip
          have n_16 : ¬ 0 = o := cmp_ne (a := 0) (b := o) (by omega) (by omega) c_16
          refine J_abv E dX0_isUnder_21 ?_
          refine J_iload_n E dX0_isUnder_24 rfl 1 rfl ?_
          refine J_abvl E (j := 0) dX0_isUnder_25 (by decide) ?_
          refine J_top (x' := (-1)) (by decide) ?_
          refine J_istore_n E (lv' := [(2, .int (-1)), (3, .int 0), (0, .int (nI 0)), (1, .int (nI o))]) dX0_isUnder_26 rfl (by decide) rfl ?_
          refine J_iinc E (lv' := [(3, .int (nI 1)), (2, .int (-1)), (0, .int (nI 0)), (1, .int (nI o))]) dX0_isUnder_27 1 rfl (nI_inc _) (by decide) rfl ?_
          refine J_goto E (tgt := 4) dX0_isUnder_30 (by decide) ?_
          refine J_iload_n E dX0_isUnder_4 rfl 0 rfl ?_
          refine J_bipush E dX0_isUnder_5 bp_7 ?_
          refine J_icmp_ge E (tgt := 33) dX0_isUnder_7 (by decide) (fun c_7 => ?_) (fun c_7 => ?_)
          · skip
            have n_7 : 7 ≤ 1 := cmp_le (a := 7) (b := 1) (by omega) (by omega) c_7
            exact absurd n_7 (by decide)
          · skip
            have n_7 : ¬ 7 ≤ 1 := cmp_nle (a := 7) (b := 1) (by omega) (by omega) c_7
            refine J_iload_n E dX0_isUnder_10 rfl 1 rfl ?_
            refine J_if_lt E (tgt := 33) dX0_isUnder_11 (by decide) (fun c_11 => ?_) (fun c_11 => ?_)
            · skip
              refine J_iconst E dX0_isUnder_33 ic_0 ?_
              exact ret _ _ _ _ ⟨by rw [bI_f]; simp [undF]; omega, rfl⟩ rfl dX0_isUnder_34
            · skip
              exact absurd c_11 (by decide)
        · skip
          have n_16 : 0 = o := cmp_eq (a := 0) (b := o) (by omega) (by omega) c_16
          refine J_iconst E dX0_isUnder_19 ic_1 ?_
          exact ret _ _ _ _ ⟨by rw [bI_t]; simp [undF]; omega, rfl⟩ rfl dX0_isUnder_20
  · skip
    refine J_iload_n E dX0_isUnder_0 rfl 0 rfl ?_
    refine J_istore_n E (lv' := [(2, .int (nI 1)), (0, .int (nI 1)), (1, .int (nI o))]) dX0_isUnder_1 rfl (by decide) rfl ?_
    refine J_iconst E dX0_isUnder_2 ic_0 ?_
    refine J_istore_n E (lv' := [(3, .int 0), (2, .int (nI 1)), (0, .int (nI 1)), (1, .int (nI o))]) dX0_isUnder_3 rfl (by decide) rfl ?_
    refine J_iload_n E dX0_isUnder_4 rfl 0 rfl ?_
    refine J_bipush E dX0_isUnder_5 bp_7 ?_
    refine J_icmp_ge E (tgt := 33) dX0_isUnder_7 (by decide) (fun c_7 => ?_) (fun c_7 => ?_)
    · skip
      have n_7 : 7 ≤ 0 := cmp_le (a := 7) (b := 0) (by omega) (by omega) c_7
      exact absurd n_7 (by decide)
    · skip
      have n_7 : ¬ 7 ≤ 0 := cmp_nle (a := 7) (b := 0) (by omega) (by omega) c_7
      refine J_iload_n E dX0_isUnder_10 rfl 1 rfl ?_
      refine J_if_lt E (tgt := 33) dX0_isUnder_11 (by decide) (fun c_11 => ?_) (fun c_11 => ?_)
      · skip
        have n_11 : 1 < 0 := cmp_lt (a := 1) (b := 0) (by omega) (by omega) c_11
        exact absurd n_11 (by decide)
      · skip
        have n_11 : ¬ 1 < 0 := cmp_nlt (a := 1) (b := 0) (by omega) (by omega) c_11
        refine J_iload_n E dX0_isUnder_14 rfl 1 rfl ?_
        refine J_iload_n E dX0_isUnder_15 rfl 3 rfl ?_
        refine J_icmp_ne E (tgt := 21) dX0_isUnder_16 (by decide) (fun c_16 => ?_) (fun c_16 => ?_)
        · skip
          have n_16 : ¬ 1 = o := cmp_ne (a := 1) (b := o) (by omega) (by omega) c_16
          refine J_abv E dX0_isUnder_21 ?_
          refine J_iload_n E dX0_isUnder_24 rfl 1 rfl ?_
          refine J_abvl E (j := 1) dX0_isUnder_25 (by decide) ?_
          refine J_top (x' := nI 0) (by decide) ?_
          refine J_istore_n E (lv' := [(2, .int (nI 0)), (3, .int 0), (0, .int (nI 1)), (1, .int (nI o))]) dX0_isUnder_26 rfl (by decide) rfl ?_
          refine J_iinc E (lv' := [(3, .int (nI 1)), (2, .int (nI 0)), (0, .int (nI 1)), (1, .int (nI o))]) dX0_isUnder_27 1 rfl (nI_inc _) (by decide) rfl ?_
          refine J_goto E (tgt := 4) dX0_isUnder_30 (by decide) ?_
          refine J_iload_n E dX0_isUnder_4 rfl 0 rfl ?_
          refine J_bipush E dX0_isUnder_5 bp_7 ?_
          refine J_icmp_ge E (tgt := 33) dX0_isUnder_7 (by decide) (fun c_7 => ?_) (fun c_7 => ?_)
          · skip
            have n_7 : 7 ≤ 1 := cmp_le (a := 7) (b := 1) (by omega) (by omega) c_7
            exact absurd n_7 (by decide)
          · skip
            have n_7 : ¬ 7 ≤ 1 := cmp_nle (a := 7) (b := 1) (by omega) (by omega) c_7
            refine J_iload_n E dX0_isUnder_10 rfl 1 rfl ?_
            refine J_if_lt E (tgt := 33) dX0_isUnder_11 (by decide) (fun c_11 => ?_) (fun c_11 => ?_)
            · skip
              have n_11 : 0 < 0 := cmp_lt (a := 0) (b := 0) (by omega) (by omega) c_11
              exact absurd n_11 (by decide)
            · skip
              have n_11 : ¬ 0 < 0 := cmp_nlt (a := 0) (b := 0) (by omega) (by omega) c_11
              refine J_iload_n E dX0_isUnder_14 rfl 1 rfl ?_
              refine J_iload_n E dX0_isUnder_15 rfl 3 rfl ?_
              refine J_icmp_ne E (tgt := 21) dX0_isUnder_16 (by decide) (fun c_16 => ?_) (fun c_16 => ?_)
              · skip
                have n_16 : ¬ 0 = o := cmp_ne (a := 0) (b := o) (by omega) (by omega) c_16
                refine J_abv E dX0_isUnder_21 ?_
                refine J_iload_n E dX0_isUnder_24 rfl 1 rfl ?_
                refine J_abvl E (j := 0) dX0_isUnder_25 (by decide) ?_
                refine J_top (x' := (-1)) (by decide) ?_
                refine J_istore_n E (lv' := [(2, .int (-1)), (3, .int (nI 1)), (0, .int (nI 1)), (1, .int (nI o))]) dX0_isUnder_26 rfl (by decide) rfl ?_
                refine J_iinc E (lv' := [(3, .int (nI 2)), (2, .int (-1)), (0, .int (nI 1)), (1, .int (nI o))]) dX0_isUnder_27 1 rfl (nI_inc _) (by decide) rfl ?_
                refine J_goto E (tgt := 4) dX0_isUnder_30 (by decide) ?_
                refine J_iload_n E dX0_isUnder_4 rfl 0 rfl ?_
                refine J_bipush E dX0_isUnder_5 bp_7 ?_
                refine J_icmp_ge E (tgt := 33) dX0_isUnder_7 (by decide) (fun c_7 => ?_) (fun c_7 => ?_)
                · skip
                  have n_7 : 7 ≤ 2 := cmp_le (a := 7) (b := 2) (by omega) (by omega) c_7
                  exact absurd n_7 (by decide)
                · skip
                  have n_7 : ¬ 7 ≤ 2 := cmp_nle (a := 7) (b := 2) (by omega) (by omega) c_7
                  refine J_iload_n E dX0_isUnder_10 rfl 1 rfl ?_
                  refine J_if_lt E (tgt := 33) dX0_isUnder_11 (by decide) (fun c_11 => ?_) (fun c_11 => ?_)
                  · skip
                    refine J_iconst E dX0_isUnder_33 ic_0 ?_
                    exact ret _ _ _ _ ⟨by rw [bI_f]; simp [undF]; omega, rfl⟩ rfl dX0_isUnder_34
                  · skip
                    exact absurd c_11 (by decide)
              · skip
                have n_16 : 0 = o := cmp_eq (a := 0) (b := o) (by omega) (by omega) c_16
                refine J_iconst E dX0_isUnder_19 ic_1 ?_
                exact ret _ _ _ _ ⟨by rw [bI_t]; simp [undF]; omega, rfl⟩ rfl dX0_isUnder_20
        · skip
          have n_16 : 1 = o := cmp_eq (a := 1) (b := o) (by omega) (by omega) c_16
          refine J_iconst E dX0_isUnder_19 ic_1 ?_
          exact ret _ _ _ _ ⟨by rw [bI_t]; simp [undF]; omega, rfl⟩ rfl dX0_isUnder_20
  · skip
    refine J_iload_n E dX0_isUnder_0 rfl 0 rfl ?_
    refine J_istore_n E (lv' := [(2, .int (nI 2)), (0, .int (nI 2)), (1, .int (nI o))]) dX0_isUnder_1 rfl (by decide) rfl ?_
    refine J_iconst E dX0_isUnder_2 ic_0 ?_
    refine J_istore_n E (lv' := [(3, .int 0), (2, .int (nI 2)), (0, .int (nI 2)), (1, .int (nI o))]) dX0_isUnder_3 rfl (by decide) rfl ?_
    refine J_iload_n E dX0_isUnder_4 rfl 0 rfl ?_
    refine J_bipush E dX0_isUnder_5 bp_7 ?_
    refine J_icmp_ge E (tgt := 33) dX0_isUnder_7 (by decide) (fun c_7 => ?_) (fun c_7 => ?_)
    · skip
      have n_7 : 7 ≤ 0 := cmp_le (a := 7) (b := 0) (by omega) (by omega) c_7
      exact absurd n_7 (by decide)
    · skip
      have n_7 : ¬ 7 ≤ 0 := cmp_nle (a := 7) (b := 0) (by omega) (by omega) c_7
      refine J_iload_n E dX0_isUnder_10 rfl 1 rfl ?_
      refine J_if_lt E (tgt := 33) dX0_isUnder_11 (by decide) (fun c_11 => ?_) (fun c_11 => ?_)
      · skip
        have n_11 : 2 < 0 := cmp_lt (a := 2) (b := 0) (by omega) (by omega) c_11
        exact absurd n_11 (by decide)
      · skip
        have n_11 : ¬ 2 < 0 := cmp_nlt (a := 2) (b := 0) (by omega) (by omega) c_11
        refine J_iload_n E dX0_isUnder_14 rfl 1 rfl ?_
        refine J_iload_n E dX0_isUnder_15 rfl 3 rfl ?_
        refine J_icmp_ne E (tgt := 21) dX0_isUnder_16 (by decide) (fun c_16 => ?_) (fun c_16 => ?_)
        · skip
          have n_16 : ¬ 2 = o := cmp_ne (a := 2) (b := o) (by omega) (by omega) c_16
          refine J_abv E dX0_isUnder_21 ?_
          refine J_iload_n E dX0_isUnder_24 rfl 1 rfl ?_
          refine J_abvl E (j := 2) dX0_isUnder_25 (by decide) ?_
          refine J_top (x' := nI 0) (by decide) ?_
          refine J_istore_n E (lv' := [(2, .int (nI 0)), (3, .int 0), (0, .int (nI 2)), (1, .int (nI o))]) dX0_isUnder_26 rfl (by decide) rfl ?_
          refine J_iinc E (lv' := [(3, .int (nI 1)), (2, .int (nI 0)), (0, .int (nI 2)), (1, .int (nI o))]) dX0_isUnder_27 1 rfl (nI_inc _) (by decide) rfl ?_
          refine J_goto E (tgt := 4) dX0_isUnder_30 (by decide) ?_
          refine J_iload_n E dX0_isUnder_4 rfl 0 rfl ?_
          refine J_bipush E dX0_isUnder_5 bp_7 ?_
          refine J_icmp_ge E (tgt := 33) dX0_isUnder_7 (by decide) (fun c_7 => ?_) (fun c_7 => ?_)
          · skip
            have n_7 : 7 ≤ 1 := cmp_le (a := 7) (b := 1) (by omega) (by omega) c_7
            exact absurd n_7 (by decide)
          · skip
            have n_7 : ¬ 7 ≤ 1 := cmp_nle (a := 7) (b := 1) (by omega) (by omega) c_7
            refine J_iload_n E dX0_isUnder_10 rfl 1 rfl ?_
            refine J_if_lt E (tgt := 33) dX0_isUnder_11 (by decide) (fun c_11 => ?_) (fun c_11 => ?_)
            · skip
              have n_11 : 0 < 0 := cmp_lt (a := 0) (b := 0) (by omega) (by omega) c_11
              exact absurd n_11 (by decide)
            · skip
              have n_11 : ¬ 0 < 0 := cmp_nlt (a := 0) (b := 0) (by omega) (by omega) c_11
              refine J_iload_n E dX0_isUnder_14 rfl 1 rfl ?_
              refine J_iload_n E dX0_isUnder_15 rfl 3 rfl ?_
              refine J_icmp_ne E (tgt := 21) dX0_isUnder_16 (by decide) (fun c_16 => ?_) (fun c_16 => ?_)
              · skip
                have n_16 : ¬ 0 = o := cmp_ne (a := 0) (b := o) (by omega) (by omega) c_16
                refine J_abv E dX0_isUnder_21 ?_
                refine J_iload_n E dX0_isUnder_24 rfl 1 rfl ?_
                refine J_abvl E (j := 0) dX0_isUnder_25 (by decide) ?_
                refine J_top (x' := (-1)) (by decide) ?_
                refine J_istore_n E (lv' := [(2, .int (-1)), (3, .int (nI 1)), (0, .int (nI 2)), (1, .int (nI o))]) dX0_isUnder_26 rfl (by decide) rfl ?_
                refine J_iinc E (lv' := [(3, .int (nI 2)), (2, .int (-1)), (0, .int (nI 2)), (1, .int (nI o))]) dX0_isUnder_27 1 rfl (nI_inc _) (by decide) rfl ?_
                refine J_goto E (tgt := 4) dX0_isUnder_30 (by decide) ?_
                refine J_iload_n E dX0_isUnder_4 rfl 0 rfl ?_
                refine J_bipush E dX0_isUnder_5 bp_7 ?_
                refine J_icmp_ge E (tgt := 33) dX0_isUnder_7 (by decide) (fun c_7 => ?_) (fun c_7 => ?_)
                · skip
                  have n_7 : 7 ≤ 2 := cmp_le (a := 7) (b := 2) (by omega) (by omega) c_7
                  exact absurd n_7 (by decide)
                · skip
                  have n_7 : ¬ 7 ≤ 2 := cmp_nle (a := 7) (b := 2) (by omega) (by omega) c_7
                  refine J_iload_n E dX0_isUnder_10 rfl 1 rfl ?_
                  refine J_if_lt E (tgt := 33) dX0_isUnder_11 (by decide) (fun c_11 => ?_) (fun c_11 => ?_)
                  · skip
                    refine J_iconst E dX0_isUnder_33 ic_0 ?_
                    exact ret _ _ _ _ ⟨by rw [bI_f]; simp [undF]; omega, rfl⟩ rfl dX0_isUnder_34
                  · skip
                    exact absurd c_11 (by decide)
              · skip
                have n_16 : 0 = o := cmp_eq (a := 0) (b := o) (by omega) (by omega) c_16
                refine J_iconst E dX0_isUnder_19 ic_1 ?_
                exact ret _ _ _ _ ⟨by rw [bI_t]; simp [undF]; omega, rfl⟩ rfl dX0_isUnder_20
        · skip
          have n_16 : 2 = o := cmp_eq (a := 2) (b := o) (by omega) (by omega) c_16
          refine J_iconst E dX0_isUnder_19 ic_1 ?_
          exact ret _ _ _ _ ⟨by rw [bI_t]; simp [undF]; omega, rfl⟩ rfl dX0_isUnder_20
  · skip
    refine J_iload_n E dX0_isUnder_0 rfl 0 rfl ?_
    refine J_istore_n E (lv' := [(2, .int (nI 3)), (0, .int (nI 3)), (1, .int (nI o))]) dX0_isUnder_1 rfl (by decide) rfl ?_
    refine J_iconst E dX0_isUnder_2 ic_0 ?_
    refine J_istore_n E (lv' := [(3, .int 0), (2, .int (nI 3)), (0, .int (nI 3)), (1, .int (nI o))]) dX0_isUnder_3 rfl (by decide) rfl ?_
    refine J_iload_n E dX0_isUnder_4 rfl 0 rfl ?_
    refine J_bipush E dX0_isUnder_5 bp_7 ?_
    refine J_icmp_ge E (tgt := 33) dX0_isUnder_7 (by decide) (fun c_7 => ?_) (fun c_7 => ?_)
    · skip
      have n_7 : 7 ≤ 0 := cmp_le (a := 7) (b := 0) (by omega) (by omega) c_7
      exact absurd n_7 (by decide)
    · skip
      have n_7 : ¬ 7 ≤ 0 := cmp_nle (a := 7) (b := 0) (by omega) (by omega) c_7
      refine J_iload_n E dX0_isUnder_10 rfl 1 rfl ?_
      refine J_if_lt E (tgt := 33) dX0_isUnder_11 (by decide) (fun c_11 => ?_) (fun c_11 => ?_)
      · skip
        have n_11 : 3 < 0 := cmp_lt (a := 3) (b := 0) (by omega) (by omega) c_11
        exact absurd n_11 (by decide)
      · skip
        have n_11 : ¬ 3 < 0 := cmp_nlt (a := 3) (b := 0) (by omega) (by omega) c_11
        refine J_iload_n E dX0_isUnder_14 rfl 1 rfl ?_
        refine J_iload_n E dX0_isUnder_15 rfl 3 rfl ?_
        refine J_icmp_ne E (tgt := 21) dX0_isUnder_16 (by decide) (fun c_16 => ?_) (fun c_16 => ?_)
        · skip
          have n_16 : ¬ 3 = o := cmp_ne (a := 3) (b := o) (by omega) (by omega) c_16
          refine J_abv E dX0_isUnder_21 ?_
          refine J_iload_n E dX0_isUnder_24 rfl 1 rfl ?_
          refine J_abvl E (j := 3) dX0_isUnder_25 (by decide) ?_
          refine J_top (x' := nI 2) (by decide) ?_
          refine J_istore_n E (lv' := [(2, .int (nI 2)), (3, .int 0), (0, .int (nI 3)), (1, .int (nI o))]) dX0_isUnder_26 rfl (by decide) rfl ?_
          refine J_iinc E (lv' := [(3, .int (nI 1)), (2, .int (nI 2)), (0, .int (nI 3)), (1, .int (nI o))]) dX0_isUnder_27 1 rfl (nI_inc _) (by decide) rfl ?_
          refine J_goto E (tgt := 4) dX0_isUnder_30 (by decide) ?_
          refine J_iload_n E dX0_isUnder_4 rfl 0 rfl ?_
          refine J_bipush E dX0_isUnder_5 bp_7 ?_
          refine J_icmp_ge E (tgt := 33) dX0_isUnder_7 (by decide) (fun c_7 => ?_) (fun c_7 => ?_)
          · skip
            have n_7 : 7 ≤ 1 := cmp_le (a := 7) (b := 1) (by omega) (by omega) c_7
            exact absurd n_7 (by decide)
          · skip
            have n_7 : ¬ 7 ≤ 1 := cmp_nle (a := 7) (b := 1) (by omega) (by omega) c_7
            refine J_iload_n E dX0_isUnder_10 rfl 1 rfl ?_
            refine J_if_lt E (tgt := 33) dX0_isUnder_11 (by decide) (fun c_11 => ?_) (fun c_11 => ?_)
            · skip
              have n_11 : 2 < 0 := cmp_lt (a := 2) (b := 0) (by omega) (by omega) c_11
              exact absurd n_11 (by decide)
            · skip
              have n_11 : ¬ 2 < 0 := cmp_nlt (a := 2) (b := 0) (by omega) (by omega) c_11
              refine J_iload_n E dX0_isUnder_14 rfl 1 rfl ?_
              refine J_iload_n E dX0_isUnder_15 rfl 3 rfl ?_
              refine J_icmp_ne E (tgt := 21) dX0_isUnder_16 (by decide) (fun c_16 => ?_) (fun c_16 => ?_)
              · skip
                have n_16 : ¬ 2 = o := cmp_ne (a := 2) (b := o) (by omega) (by omega) c_16
                refine J_abv E dX0_isUnder_21 ?_
                refine J_iload_n E dX0_isUnder_24 rfl 1 rfl ?_
                refine J_abvl E (j := 2) dX0_isUnder_25 (by decide) ?_
                refine J_top (x' := nI 0) (by decide) ?_
                refine J_istore_n E (lv' := [(2, .int (nI 0)), (3, .int (nI 1)), (0, .int (nI 3)), (1, .int (nI o))]) dX0_isUnder_26 rfl (by decide) rfl ?_
                refine J_iinc E (lv' := [(3, .int (nI 2)), (2, .int (nI 0)), (0, .int (nI 3)), (1, .int (nI o))]) dX0_isUnder_27 1 rfl (nI_inc _) (by decide) rfl ?_
                refine J_goto E (tgt := 4) dX0_isUnder_30 (by decide) ?_
                refine J_iload_n E dX0_isUnder_4 rfl 0 rfl ?_
                refine J_bipush E dX0_isUnder_5 bp_7 ?_
                refine J_icmp_ge E (tgt := 33) dX0_isUnder_7 (by decide) (fun c_7 => ?_) (fun c_7 => ?_)
                · skip
                  have n_7 : 7 ≤ 2 := cmp_le (a := 7) (b := 2) (by omega) (by omega) c_7
                  exact absurd n_7 (by decide)
                · skip
                  have n_7 : ¬ 7 ≤ 2 := cmp_nle (a := 7) (b := 2) (by omega) (by omega) c_7
                  refine J_iload_n E dX0_isUnder_10 rfl 1 rfl ?_
                  refine J_if_lt E (tgt := 33) dX0_isUnder_11 (by decide) (fun c_11 => ?_) (fun c_11 => ?_)
                  · skip
                    have n_11 : 0 < 0 := cmp_lt (a := 0) (b := 0) (by omega) (by omega) c_11
                    exact absurd n_11 (by decide)
                  · skip
                    have n_11 : ¬ 0 < 0 := cmp_nlt (a := 0) (b := 0) (by omega) (by omega) c_11
                    refine J_iload_n E dX0_isUnder_14 rfl 1 rfl ?_
                    refine J_iload_n E dX0_isUnder_15 rfl 3 rfl ?_
                    refine J_icmp_ne E (tgt := 21) dX0_isUnder_16 (by decide) (fun c_16 => ?_) (fun c_16 => ?_)
                    · skip
                      have n_16 : ¬ 0 = o := cmp_ne (a := 0) (b := o) (by omega) (by omega) c_16
                      refine J_abv E dX0_isUnder_21 ?_
                      refine J_iload_n E dX0_isUnder_24 rfl 1 rfl ?_
                      refine J_abvl E (j := 0) dX0_isUnder_25 (by decide) ?_
                      refine J_top (x' := (-1)) (by decide) ?_
                      refine J_istore_n E (lv' := [(2, .int (-1)), (3, .int (nI 2)), (0, .int (nI 3)), (1, .int (nI o))]) dX0_isUnder_26 rfl (by decide) rfl ?_
                      refine J_iinc E (lv' := [(3, .int (nI 3)), (2, .int (-1)), (0, .int (nI 3)), (1, .int (nI o))]) dX0_isUnder_27 1 rfl (nI_inc _) (by decide) rfl ?_
                      refine J_goto E (tgt := 4) dX0_isUnder_30 (by decide) ?_
                      refine J_iload_n E dX0_isUnder_4 rfl 0 rfl ?_
                      refine J_bipush E dX0_isUnder_5 bp_7 ?_
                      refine J_icmp_ge E (tgt := 33) dX0_isUnder_7 (by decide) (fun c_7 => ?_) (fun c_7 => ?_)
                      · skip
                        have n_7 : 7 ≤ 3 := cmp_le (a := 7) (b := 3) (by omega) (by omega) c_7
                        exact absurd n_7 (by decide)
                      · skip
                        have n_7 : ¬ 7 ≤ 3 := cmp_nle (a := 7) (b := 3) (by omega) (by omega) c_7
                        refine J_iload_n E dX0_isUnder_10 rfl 1 rfl ?_
                        refine J_if_lt E (tgt := 33) dX0_isUnder_11 (by decide) (fun c_11 => ?_) (fun c_11 => ?_)
                        · skip
                          refine J_iconst E dX0_isUnder_33 ic_0 ?_
                          exact ret _ _ _ _ ⟨by rw [bI_f]; simp [undF]; omega, rfl⟩ rfl dX0_isUnder_34
                        · skip
                          exact absurd c_11 (by decide)
                    · skip
                      have n_16 : 0 = o := cmp_eq (a := 0) (b := o) (by omega) (by omega) c_16
                      refine J_iconst E dX0_isUnder_19 ic_1 ?_
                      exact ret _ _ _ _ ⟨by rw [bI_t]; simp [undF]; omega, rfl⟩ rfl dX0_isUnder_20
              · skip
                have n_16 : 2 = o := cmp_eq (a := 2) (b := o) (by omega) (by omega) c_16
                refine J_iconst E dX0_isUnder_19 ic_1 ?_
                exact ret _ _ _ _ ⟨by rw [bI_t]; simp [undF]; omega, rfl⟩ rfl dX0_isUnder_20
        · skip
          have n_16 : 3 = o := cmp_eq (a := 3) (b := o) (by omega) (by omega) c_16
          refine J_iconst E dX0_isUnder_19 ic_1 ?_
          exact ret _ _ _ _ ⟨by rw [bI_t]; simp [undF]; omega, rfl⟩ rfl dX0_isUnder_20
  · skip
    refine J_iload_n E dX0_isUnder_0 rfl 0 rfl ?_
    refine J_istore_n E (lv' := [(2, .int (nI 4)), (0, .int (nI 4)), (1, .int (nI o))]) dX0_isUnder_1 rfl (by decide) rfl ?_
    refine J_iconst E dX0_isUnder_2 ic_0 ?_
    refine J_istore_n E (lv' := [(3, .int 0), (2, .int (nI 4)), (0, .int (nI 4)), (1, .int (nI o))]) dX0_isUnder_3 rfl (by decide) rfl ?_
    refine J_iload_n E dX0_isUnder_4 rfl 0 rfl ?_
    refine J_bipush E dX0_isUnder_5 bp_7 ?_
    refine J_icmp_ge E (tgt := 33) dX0_isUnder_7 (by decide) (fun c_7 => ?_) (fun c_7 => ?_)
    · skip
      have n_7 : 7 ≤ 0 := cmp_le (a := 7) (b := 0) (by omega) (by omega) c_7
      exact absurd n_7 (by decide)
    · skip
      have n_7 : ¬ 7 ≤ 0 := cmp_nle (a := 7) (b := 0) (by omega) (by omega) c_7
      refine J_iload_n E dX0_isUnder_10 rfl 1 rfl ?_
      refine J_if_lt E (tgt := 33) dX0_isUnder_11 (by decide) (fun c_11 => ?_) (fun c_11 => ?_)
      · skip
        have n_11 : 4 < 0 := cmp_lt (a := 4) (b := 0) (by omega) (by omega) c_11
        exact absurd n_11 (by decide)
      · skip
        have n_11 : ¬ 4 < 0 := cmp_nlt (a := 4) (b := 0) (by omega) (by omega) c_11
        refine J_iload_n E dX0_isUnder_14 rfl 1 rfl ?_
        refine J_iload_n E dX0_isUnder_15 rfl 3 rfl ?_
        refine J_icmp_ne E (tgt := 21) dX0_isUnder_16 (by decide) (fun c_16 => ?_) (fun c_16 => ?_)
        · skip
          have n_16 : ¬ 4 = o := cmp_ne (a := 4) (b := o) (by omega) (by omega) c_16
          refine J_abv E dX0_isUnder_21 ?_
          refine J_iload_n E dX0_isUnder_24 rfl 1 rfl ?_
          refine J_abvl E (j := 4) dX0_isUnder_25 (by decide) ?_
          refine J_top (x' := nI 3) (by decide) ?_
          refine J_istore_n E (lv' := [(2, .int (nI 3)), (3, .int 0), (0, .int (nI 4)), (1, .int (nI o))]) dX0_isUnder_26 rfl (by decide) rfl ?_
          refine J_iinc E (lv' := [(3, .int (nI 1)), (2, .int (nI 3)), (0, .int (nI 4)), (1, .int (nI o))]) dX0_isUnder_27 1 rfl (nI_inc _) (by decide) rfl ?_
          refine J_goto E (tgt := 4) dX0_isUnder_30 (by decide) ?_
          refine J_iload_n E dX0_isUnder_4 rfl 0 rfl ?_
          refine J_bipush E dX0_isUnder_5 bp_7 ?_
          refine J_icmp_ge E (tgt := 33) dX0_isUnder_7 (by decide) (fun c_7 => ?_) (fun c_7 => ?_)
          · skip
            have n_7 : 7 ≤ 1 := cmp_le (a := 7) (b := 1) (by omega) (by omega) c_7
            exact absurd n_7 (by decide)
          · skip
            have n_7 : ¬ 7 ≤ 1 := cmp_nle (a := 7) (b := 1) (by omega) (by omega) c_7
            refine J_iload_n E dX0_isUnder_10 rfl 1 rfl ?_
            refine J_if_lt E (tgt := 33) dX0_isUnder_11 (by decide) (fun c_11 => ?_) (fun c_11 => ?_)
            · skip
              have n_11 : 3 < 0 := cmp_lt (a := 3) (b := 0) (by omega) (by omega) c_11
              exact absurd n_11 (by decide)
            · skip
              have n_11 : ¬ 3 < 0 := cmp_nlt (a := 3) (b := 0) (by omega) (by omega) c_11
              refine J_iload_n E dX0_isUnder_14 rfl 1 rfl ?_
              refine J_iload_n E dX0_isUnder_15 rfl 3 rfl ?_
              refine J_icmp_ne E (tgt := 21) dX0_isUnder_16 (by decide) (fun c_16 => ?_) (fun c_16 => ?_)
              · skip
                have n_16 : ¬ 3 = o := cmp_ne (a := 3) (b := o) (by omega) (by omega) c_16
                refine J_abv E dX0_isUnder_21 ?_
                refine J_iload_n E dX0_isUnder_24 rfl 1 rfl ?_
                refine J_abvl E (j := 3) dX0_isUnder_25 (by decide) ?_
                refine J_top (x' := nI 2) (by decide) ?_
                refine J_istore_n E (lv' := [(2, .int (nI 2)), (3, .int (nI 1)), (0, .int (nI 4)), (1, .int (nI o))]) dX0_isUnder_26 rfl (by decide) rfl ?_
                refine J_iinc E (lv' := [(3, .int (nI 2)), (2, .int (nI 2)), (0, .int (nI 4)), (1, .int (nI o))]) dX0_isUnder_27 1 rfl (nI_inc _) (by decide) rfl ?_
                refine J_goto E (tgt := 4) dX0_isUnder_30 (by decide) ?_
                refine J_iload_n E dX0_isUnder_4 rfl 0 rfl ?_
                refine J_bipush E dX0_isUnder_5 bp_7 ?_
                refine J_icmp_ge E (tgt := 33) dX0_isUnder_7 (by decide) (fun c_7 => ?_) (fun c_7 => ?_)
                · skip
                  have n_7 : 7 ≤ 2 := cmp_le (a := 7) (b := 2) (by omega) (by omega) c_7
                  exact absurd n_7 (by decide)
                · skip
                  have n_7 : ¬ 7 ≤ 2 := cmp_nle (a := 7) (b := 2) (by omega) (by omega) c_7
                  refine J_iload_n E dX0_isUnder_10 rfl 1 rfl ?_
                  refine J_if_lt E (tgt := 33) dX0_isUnder_11 (by decide) (fun c_11 => ?_) (fun c_11 => ?_)
                  · skip
                    have n_11 : 2 < 0 := cmp_lt (a := 2) (b := 0) (by omega) (by omega) c_11
                    exact absurd n_11 (by decide)
                  · skip
                    have n_11 : ¬ 2 < 0 := cmp_nlt (a := 2) (b := 0) (by omega) (by omega) c_11
                    refine J_iload_n E dX0_isUnder_14 rfl 1 rfl ?_
                    refine J_iload_n E dX0_isUnder_15 rfl 3 rfl ?_
                    refine J_icmp_ne E (tgt := 21) dX0_isUnder_16 (by decide) (fun c_16 => ?_) (fun c_16 => ?_)
                    · skip
                      have n_16 : ¬ 2 = o := cmp_ne (a := 2) (b := o) (by omega) (by omega) c_16
                      refine J_abv E dX0_isUnder_21 ?_
                      refine J_iload_n E dX0_isUnder_24 rfl 1 rfl ?_
                      refine J_abvl E (j := 2) dX0_isUnder_25 (by decide) ?_
                      refine J_top (x' := nI 0) (by decide) ?_
                      refine J_istore_n E (lv' := [(2, .int (nI 0)), (3, .int (nI 2)), (0, .int (nI 4)), (1, .int (nI o))]) dX0_isUnder_26 rfl (by decide) rfl ?_
                      refine J_iinc E (lv' := [(3, .int (nI 3)), (2, .int (nI 0)), (0, .int (nI 4)), (1, .int (nI o))]) dX0_isUnder_27 1 rfl (nI_inc _) (by decide) rfl ?_
                      refine J_goto E (tgt := 4) dX0_isUnder_30 (by decide) ?_
                      refine J_iload_n E dX0_isUnder_4 rfl 0 rfl ?_
                      refine J_bipush E dX0_isUnder_5 bp_7 ?_
                      refine J_icmp_ge E (tgt := 33) dX0_isUnder_7 (by decide) (fun c_7 => ?_) (fun c_7 => ?_)
                      · skip
                        have n_7 : 7 ≤ 3 := cmp_le (a := 7) (b := 3) (by omega) (by omega) c_7
                        exact absurd n_7 (by decide)
                      · skip
                        have n_7 : ¬ 7 ≤ 3 := cmp_nle (a := 7) (b := 3) (by omega) (by omega) c_7
                        refine J_iload_n E dX0_isUnder_10 rfl 1 rfl ?_
                        refine J_if_lt E (tgt := 33) dX0_isUnder_11 (by decide) (fun c_11 => ?_) (fun c_11 => ?_)
                        · skip
                          have n_11 : 0 < 0 := cmp_lt (a := 0) (b := 0) (by omega) (by omega) c_11
                          exact absurd n_11 (by decide)
                        · skip
                          have n_11 : ¬ 0 < 0 := cmp_nlt (a := 0) (b := 0) (by omega) (by omega) c_11
                          refine J_iload_n E dX0_isUnder_14 rfl 1 rfl ?_
                          refine J_iload_n E dX0_isUnder_15 rfl 3 rfl ?_
                          refine J_icmp_ne E (tgt := 21) dX0_isUnder_16 (by decide) (fun c_16 => ?_) (fun c_16 => ?_)
                          · skip
                            have n_16 : ¬ 0 = o := cmp_ne (a := 0) (b := o) (by omega) (by omega) c_16
                            refine J_abv E dX0_isUnder_21 ?_
                            refine J_iload_n E dX0_isUnder_24 rfl 1 rfl ?_
                            refine J_abvl E (j := 0) dX0_isUnder_25 (by decide) ?_
                            refine J_top (x' := (-1)) (by decide) ?_
                            refine J_istore_n E (lv' := [(2, .int (-1)), (3, .int (nI 3)), (0, .int (nI 4)), (1, .int (nI o))]) dX0_isUnder_26 rfl (by decide) rfl ?_
                            refine J_iinc E (lv' := [(3, .int (nI 4)), (2, .int (-1)), (0, .int (nI 4)), (1, .int (nI o))]) dX0_isUnder_27 1 rfl (nI_inc _) (by decide) rfl ?_
                            refine J_goto E (tgt := 4) dX0_isUnder_30 (by decide) ?_
                            refine J_iload_n E dX0_isUnder_4 rfl 0 rfl ?_
                            refine J_bipush E dX0_isUnder_5 bp_7 ?_
                            refine J_icmp_ge E (tgt := 33) dX0_isUnder_7 (by decide) (fun c_7 => ?_) (fun c_7 => ?_)
                            · skip
                              have n_7 : 7 ≤ 4 := cmp_le (a := 7) (b := 4) (by omega) (by omega) c_7
                              exact absurd n_7 (by decide)
                            · skip
                              have n_7 : ¬ 7 ≤ 4 := cmp_nle (a := 7) (b := 4) (by omega) (by omega) c_7
                              refine J_iload_n E dX0_isUnder_10 rfl 1 rfl ?_
                              refine J_if_lt E (tgt := 33) dX0_isUnder_11 (by decide) (fun c_11 => ?_) (fun c_11 => ?_)
                              · skip
                                refine J_iconst E dX0_isUnder_33 ic_0 ?_
                                exact ret _ _ _ _ ⟨by rw [bI_f]; simp [undF]; omega, rfl⟩ rfl dX0_isUnder_34
                              · skip
                                exact absurd c_11 (by decide)
                          · skip
                            have n_16 : 0 = o := cmp_eq (a := 0) (b := o) (by omega) (by omega) c_16
                            refine J_iconst E dX0_isUnder_19 ic_1 ?_
                            exact ret _ _ _ _ ⟨by rw [bI_t]; simp [undF]; omega, rfl⟩ rfl dX0_isUnder_20
                    · skip
                      have n_16 : 2 = o := cmp_eq (a := 2) (b := o) (by omega) (by omega) c_16
                      refine J_iconst E dX0_isUnder_19 ic_1 ?_
                      exact ret _ _ _ _ ⟨by rw [bI_t]; simp [undF]; omega, rfl⟩ rfl dX0_isUnder_20
              · skip
                have n_16 : 3 = o := cmp_eq (a := 3) (b := o) (by omega) (by omega) c_16
                refine J_iconst E dX0_isUnder_19 ic_1 ?_
                exact ret _ _ _ _ ⟨by rw [bI_t]; simp [undF]; omega, rfl⟩ rfl dX0_isUnder_20
        · skip
          have n_16 : 4 = o := cmp_eq (a := 4) (b := o) (by omega) (by omega) c_16
          refine J_iconst E dX0_isUnder_19 ic_1 ?_
          exact ret _ _ _ _ ⟨by rw [bI_t]; simp [undF]; omega, rfl⟩ rfl dX0_isUnder_20
  · skip
    refine J_iload_n E dX0_isUnder_0 rfl 0 rfl ?_
    refine J_istore_n E (lv' := [(2, .int (nI 5)), (0, .int (nI 5)), (1, .int (nI o))]) dX0_isUnder_1 rfl (by decide) rfl ?_
    refine J_iconst E dX0_isUnder_2 ic_0 ?_
    refine J_istore_n E (lv' := [(3, .int 0), (2, .int (nI 5)), (0, .int (nI 5)), (1, .int (nI o))]) dX0_isUnder_3 rfl (by decide) rfl ?_
    refine J_iload_n E dX0_isUnder_4 rfl 0 rfl ?_
    refine J_bipush E dX0_isUnder_5 bp_7 ?_
    refine J_icmp_ge E (tgt := 33) dX0_isUnder_7 (by decide) (fun c_7 => ?_) (fun c_7 => ?_)
    · skip
      have n_7 : 7 ≤ 0 := cmp_le (a := 7) (b := 0) (by omega) (by omega) c_7
      exact absurd n_7 (by decide)
    · skip
      have n_7 : ¬ 7 ≤ 0 := cmp_nle (a := 7) (b := 0) (by omega) (by omega) c_7
      refine J_iload_n E dX0_isUnder_10 rfl 1 rfl ?_
      refine J_if_lt E (tgt := 33) dX0_isUnder_11 (by decide) (fun c_11 => ?_) (fun c_11 => ?_)
      · skip
        have n_11 : 5 < 0 := cmp_lt (a := 5) (b := 0) (by omega) (by omega) c_11
        exact absurd n_11 (by decide)
      · skip
        have n_11 : ¬ 5 < 0 := cmp_nlt (a := 5) (b := 0) (by omega) (by omega) c_11
        refine J_iload_n E dX0_isUnder_14 rfl 1 rfl ?_
        refine J_iload_n E dX0_isUnder_15 rfl 3 rfl ?_
        refine J_icmp_ne E (tgt := 21) dX0_isUnder_16 (by decide) (fun c_16 => ?_) (fun c_16 => ?_)
        · skip
          have n_16 : ¬ 5 = o := cmp_ne (a := 5) (b := o) (by omega) (by omega) c_16
          refine J_abv E dX0_isUnder_21 ?_
          refine J_iload_n E dX0_isUnder_24 rfl 1 rfl ?_
          refine J_abvl E (j := 5) dX0_isUnder_25 (by decide) ?_
          refine J_top (x' := nI 0) (by decide) ?_
          refine J_istore_n E (lv' := [(2, .int (nI 0)), (3, .int 0), (0, .int (nI 5)), (1, .int (nI o))]) dX0_isUnder_26 rfl (by decide) rfl ?_
          refine J_iinc E (lv' := [(3, .int (nI 1)), (2, .int (nI 0)), (0, .int (nI 5)), (1, .int (nI o))]) dX0_isUnder_27 1 rfl (nI_inc _) (by decide) rfl ?_
          refine J_goto E (tgt := 4) dX0_isUnder_30 (by decide) ?_
          refine J_iload_n E dX0_isUnder_4 rfl 0 rfl ?_
          refine J_bipush E dX0_isUnder_5 bp_7 ?_
          refine J_icmp_ge E (tgt := 33) dX0_isUnder_7 (by decide) (fun c_7 => ?_) (fun c_7 => ?_)
          · skip
            have n_7 : 7 ≤ 1 := cmp_le (a := 7) (b := 1) (by omega) (by omega) c_7
            exact absurd n_7 (by decide)
          · skip
            have n_7 : ¬ 7 ≤ 1 := cmp_nle (a := 7) (b := 1) (by omega) (by omega) c_7
            refine J_iload_n E dX0_isUnder_10 rfl 1 rfl ?_
            refine J_if_lt E (tgt := 33) dX0_isUnder_11 (by decide) (fun c_11 => ?_) (fun c_11 => ?_)
            · skip
              have n_11 : 0 < 0 := cmp_lt (a := 0) (b := 0) (by omega) (by omega) c_11
              exact absurd n_11 (by decide)
            · skip
              have n_11 : ¬ 0 < 0 := cmp_nlt (a := 0) (b := 0) (by omega) (by omega) c_11
              refine J_iload_n E dX0_isUnder_14 rfl 1 rfl ?_
              refine J_iload_n E dX0_isUnder_15 rfl 3 rfl ?_
              refine J_icmp_ne E (tgt := 21) dX0_isUnder_16 (by decide) (fun c_16 => ?_) (fun c_16 => ?_)
              · skip
                have n_16 : ¬ 0 = o := cmp_ne (a := 0) (b := o) (by omega) (by omega) c_16
                refine J_abv E dX0_isUnder_21 ?_
                refine J_iload_n E dX0_isUnder_24 rfl 1 rfl ?_
                refine J_abvl E (j := 0) dX0_isUnder_25 (by decide) ?_
                refine J_top (x' := (-1)) (by decide) ?_
                refine J_istore_n E (lv' := [(2, .int (-1)), (3, .int (nI 1)), (0, .int (nI 5)), (1, .int (nI o))]) dX0_isUnder_26 rfl (by decide) rfl ?_
                refine J_iinc E (lv' := [(3, .int (nI 2)), (2, .int (-1)), (0, .int (nI 5)), (1, .int (nI o))]) dX0_isUnder_27 1 rfl (nI_inc _) (by decide) rfl ?_
                refine J_goto E (tgt := 4) dX0_isUnder_30 (by decide) ?_
                refine J_iload_n E dX0_isUnder_4 rfl 0 rfl ?_
                refine J_bipush E dX0_isUnder_5 bp_7 ?_
                refine J_icmp_ge E (tgt := 33) dX0_isUnder_7 (by decide) (fun c_7 => ?_) (fun c_7 => ?_)
                · skip
                  have n_7 : 7 ≤ 2 := cmp_le (a := 7) (b := 2) (by omega) (by omega) c_7
                  exact absurd n_7 (by decide)
                · skip
                  have n_7 : ¬ 7 ≤ 2 := cmp_nle (a := 7) (b := 2) (by omega) (by omega) c_7
                  refine J_iload_n E dX0_isUnder_10 rfl 1 rfl ?_
                  refine J_if_lt E (tgt := 33) dX0_isUnder_11 (by decide) (fun c_11 => ?_) (fun c_11 => ?_)
                  · skip
                    refine J_iconst E dX0_isUnder_33 ic_0 ?_
                    exact ret _ _ _ _ ⟨by rw [bI_f]; simp [undF]; omega, rfl⟩ rfl dX0_isUnder_34
                  · skip
                    exact absurd c_11 (by decide)
              · skip
                have n_16 : 0 = o := cmp_eq (a := 0) (b := o) (by omega) (by omega) c_16
                refine J_iconst E dX0_isUnder_19 ic_1 ?_
                exact ret _ _ _ _ ⟨by rw [bI_t]; simp [undF]; omega, rfl⟩ rfl dX0_isUnder_20
        · skip
          have n_16 : 5 = o := cmp_eq (a := 5) (b := o) (by omega) (by omega) c_16
          refine J_iconst E dX0_isUnder_19 ic_1 ?_
          exact ret _ _ _ _ ⟨by rw [bI_t]; simp [undF]; omega, rfl⟩ rfl dX0_isUnder_20
  · skip
    refine J_iload_n E dX0_isUnder_0 rfl 0 rfl ?_
    refine J_istore_n E (lv' := [(2, .int (nI 6)), (0, .int (nI 6)), (1, .int (nI o))]) dX0_isUnder_1 rfl (by decide) rfl ?_
    refine J_iconst E dX0_isUnder_2 ic_0 ?_
    refine J_istore_n E (lv' := [(3, .int 0), (2, .int (nI 6)), (0, .int (nI 6)), (1, .int (nI o))]) dX0_isUnder_3 rfl (by decide) rfl ?_
    refine J_iload_n E dX0_isUnder_4 rfl 0 rfl ?_
    refine J_bipush E dX0_isUnder_5 bp_7 ?_
    refine J_icmp_ge E (tgt := 33) dX0_isUnder_7 (by decide) (fun c_7 => ?_) (fun c_7 => ?_)
    · skip
      have n_7 : 7 ≤ 0 := cmp_le (a := 7) (b := 0) (by omega) (by omega) c_7
      exact absurd n_7 (by decide)
    · skip
      have n_7 : ¬ 7 ≤ 0 := cmp_nle (a := 7) (b := 0) (by omega) (by omega) c_7
      refine J_iload_n E dX0_isUnder_10 rfl 1 rfl ?_
      refine J_if_lt E (tgt := 33) dX0_isUnder_11 (by decide) (fun c_11 => ?_) (fun c_11 => ?_)
      · skip
        have n_11 : 6 < 0 := cmp_lt (a := 6) (b := 0) (by omega) (by omega) c_11
        exact absurd n_11 (by decide)
      · skip
        have n_11 : ¬ 6 < 0 := cmp_nlt (a := 6) (b := 0) (by omega) (by omega) c_11
        refine J_iload_n E dX0_isUnder_14 rfl 1 rfl ?_
        refine J_iload_n E dX0_isUnder_15 rfl 3 rfl ?_
        refine J_icmp_ne E (tgt := 21) dX0_isUnder_16 (by decide) (fun c_16 => ?_) (fun c_16 => ?_)
        · skip
          have n_16 : ¬ 6 = o := cmp_ne (a := 6) (b := o) (by omega) (by omega) c_16
          refine J_abv E dX0_isUnder_21 ?_
          refine J_iload_n E dX0_isUnder_24 rfl 1 rfl ?_
          refine J_abvl E (j := 6) dX0_isUnder_25 (by decide) ?_
          refine J_top (x' := nI 1) (by decide) ?_
          refine J_istore_n E (lv' := [(2, .int (nI 1)), (3, .int 0), (0, .int (nI 6)), (1, .int (nI o))]) dX0_isUnder_26 rfl (by decide) rfl ?_
          refine J_iinc E (lv' := [(3, .int (nI 1)), (2, .int (nI 1)), (0, .int (nI 6)), (1, .int (nI o))]) dX0_isUnder_27 1 rfl (nI_inc _) (by decide) rfl ?_
          refine J_goto E (tgt := 4) dX0_isUnder_30 (by decide) ?_
          refine J_iload_n E dX0_isUnder_4 rfl 0 rfl ?_
          refine J_bipush E dX0_isUnder_5 bp_7 ?_
          refine J_icmp_ge E (tgt := 33) dX0_isUnder_7 (by decide) (fun c_7 => ?_) (fun c_7 => ?_)
          · skip
            have n_7 : 7 ≤ 1 := cmp_le (a := 7) (b := 1) (by omega) (by omega) c_7
            exact absurd n_7 (by decide)
          · skip
            have n_7 : ¬ 7 ≤ 1 := cmp_nle (a := 7) (b := 1) (by omega) (by omega) c_7
            refine J_iload_n E dX0_isUnder_10 rfl 1 rfl ?_
            refine J_if_lt E (tgt := 33) dX0_isUnder_11 (by decide) (fun c_11 => ?_) (fun c_11 => ?_)
            · skip
              have n_11 : 1 < 0 := cmp_lt (a := 1) (b := 0) (by omega) (by omega) c_11
              exact absurd n_11 (by decide)
            · skip
              have n_11 : ¬ 1 < 0 := cmp_nlt (a := 1) (b := 0) (by omega) (by omega) c_11
              refine J_iload_n E dX0_isUnder_14 rfl 1 rfl ?_
              refine J_iload_n E dX0_isUnder_15 rfl 3 rfl ?_
              refine J_icmp_ne E (tgt := 21) dX0_isUnder_16 (by decide) (fun c_16 => ?_) (fun c_16 => ?_)
              · skip
                have n_16 : ¬ 1 = o := cmp_ne (a := 1) (b := o) (by omega) (by omega) c_16
                refine J_abv E dX0_isUnder_21 ?_
                refine J_iload_n E dX0_isUnder_24 rfl 1 rfl ?_
                refine J_abvl E (j := 1) dX0_isUnder_25 (by decide) ?_
                refine J_top (x' := nI 0) (by decide) ?_
                refine J_istore_n E (lv' := [(2, .int (nI 0)), (3, .int (nI 1)), (0, .int (nI 6)), (1, .int (nI o))]) dX0_isUnder_26 rfl (by decide) rfl ?_
                refine J_iinc E (lv' := [(3, .int (nI 2)), (2, .int (nI 0)), (0, .int (nI 6)), (1, .int (nI o))]) dX0_isUnder_27 1 rfl (nI_inc _) (by decide) rfl ?_
                refine J_goto E (tgt := 4) dX0_isUnder_30 (by decide) ?_
                refine J_iload_n E dX0_isUnder_4 rfl 0 rfl ?_
                refine J_bipush E dX0_isUnder_5 bp_7 ?_
                refine J_icmp_ge E (tgt := 33) dX0_isUnder_7 (by decide) (fun c_7 => ?_) (fun c_7 => ?_)
                · skip
                  have n_7 : 7 ≤ 2 := cmp_le (a := 7) (b := 2) (by omega) (by omega) c_7
                  exact absurd n_7 (by decide)
                · skip
                  have n_7 : ¬ 7 ≤ 2 := cmp_nle (a := 7) (b := 2) (by omega) (by omega) c_7
                  refine J_iload_n E dX0_isUnder_10 rfl 1 rfl ?_
                  refine J_if_lt E (tgt := 33) dX0_isUnder_11 (by decide) (fun c_11 => ?_) (fun c_11 => ?_)
                  · skip
                    have n_11 : 0 < 0 := cmp_lt (a := 0) (b := 0) (by omega) (by omega) c_11
                    exact absurd n_11 (by decide)
                  · skip
                    have n_11 : ¬ 0 < 0 := cmp_nlt (a := 0) (b := 0) (by omega) (by omega) c_11
                    refine J_iload_n E dX0_isUnder_14 rfl 1 rfl ?_
                    refine J_iload_n E dX0_isUnder_15 rfl 3 rfl ?_
                    refine J_icmp_ne E (tgt := 21) dX0_isUnder_16 (by decide) (fun c_16 => ?_) (fun c_16 => ?_)
                    · skip
                      have n_16 : ¬ 0 = o := cmp_ne (a := 0) (b := o) (by omega) (by omega) c_16
                      refine J_abv E dX0_isUnder_21 ?_
                      refine J_iload_n E dX0_isUnder_24 rfl 1 rfl ?_
                      refine J_abvl E (j := 0) dX0_isUnder_25 (by decide) ?_
                      refine J_top (x' := (-1)) (by decide) ?_
                      refine J_istore_n E (lv' := [(2, .int (-1)), (3, .int (nI 2)), (0, .int (nI 6)), (1, .int (nI o))]) dX0_isUnder_26 rfl (by decide) rfl ?_
                      refine J_iinc E (lv' := [(3, .int (nI 3)), (2, .int (-1)), (0, .int (nI 6)), (1, .int (nI o))]) dX0_isUnder_27 1 rfl (nI_inc _) (by decide) rfl ?_
                      refine J_goto E (tgt := 4) dX0_isUnder_30 (by decide) ?_
                      refine J_iload_n E dX0_isUnder_4 rfl 0 rfl ?_
                      refine J_bipush E dX0_isUnder_5 bp_7 ?_
                      refine J_icmp_ge E (tgt := 33) dX0_isUnder_7 (by decide) (fun c_7 => ?_) (fun c_7 => ?_)
                      · skip
                        have n_7 : 7 ≤ 3 := cmp_le (a := 7) (b := 3) (by omega) (by omega) c_7
                        exact absurd n_7 (by decide)
                      · skip
                        have n_7 : ¬ 7 ≤ 3 := cmp_nle (a := 7) (b := 3) (by omega) (by omega) c_7
                        refine J_iload_n E dX0_isUnder_10 rfl 1 rfl ?_
                        refine J_if_lt E (tgt := 33) dX0_isUnder_11 (by decide) (fun c_11 => ?_) (fun c_11 => ?_)
                        · skip
                          refine J_iconst E dX0_isUnder_33 ic_0 ?_
                          exact ret _ _ _ _ ⟨by rw [bI_f]; simp [undF]; omega, rfl⟩ rfl dX0_isUnder_34
                        · skip
                          exact absurd c_11 (by decide)
                    · skip
                      have n_16 : 0 = o := cmp_eq (a := 0) (b := o) (by omega) (by omega) c_16
                      refine J_iconst E dX0_isUnder_19 ic_1 ?_
                      exact ret _ _ _ _ ⟨by rw [bI_t]; simp [undF]; omega, rfl⟩ rfl dX0_isUnder_20
              · skip
                have n_16 : 1 = o := cmp_eq (a := 1) (b := o) (by omega) (by omega) c_16
                refine J_iconst E dX0_isUnder_19 ic_1 ?_
                exact ret _ _ _ _ ⟨by rw [bI_t]; simp [undF]; omega, rfl⟩ rfl dX0_isUnder_20
        · skip
          have n_16 : 6 = o := cmp_eq (a := 6) (b := o) (by omega) (by omega) c_16
          refine J_iconst E dX0_isUnder_19 ic_1 ?_
          exact ret _ _ _ _ ⟨by rw [bI_t]; simp [undF]; omega, rfl⟩ rfl dX0_isUnder_20

set_option maxHeartbeats 4000000 in
set_option maxRecDepth 20000 in
theorem c_X5_as_bad (l : Launch) (G : GB) (a : Nat → Nat) (x : Q3) (s k : Int32) (hb : ¬ ((0 ≤ s ∧ s ≤ 9) ∧ 0 ≤ k ∧ k ≤ 6)) : CI l yX5_as cX5_as 4 .int 2 41 G [.ref (a 0), .int s, .int k] (wC G a x) (fun vR w' => vR = tellR 0 ∧ PubC G a (tellX x 0) w') := by
  refine CI.mk (own := RX5) (by decide) rfl (Nat.le_of_ble_eq_true rfl) ?_
  intro X E ret
  show J X G 4 0 0 (wC G a x) [(0, .ref (a 0)), (1, .int s), (2, .int k)] 0 []
  refine J_iload_n E dX5_as_0 rfl 1 rfl ?_
  refine J_cSiN E (As := [.int s]) (c_X5_isSpot l G s ) cl_X5_193 yo_X5_isSpot dX5_as_1 rfl (Nat.le_of_ble_eq_true rfl) (Nat.le_of_ble_eq_true rfl) rfl (Nat.le_of_ble_eq_true rfl) ⟨Nat.zero_le _, Nat.zero_le _⟩ ?_
  refine J_if_eq E (tgt := 16) dX5_as_4 (by decide) (fun c_4 => ?_) (fun c_4 => ?_)
  · skip
    have c_4 := bI_0 c_4
    refine J_aload_n E dX5_as_16 rfl 0 rfl ?_
    refine J_iconst E dX5_as_17 ic_0 ?_
    refine J_cVi0 E (As := [.int 0]) (c_X5_tell l G a x 0 (by omega)) cl_X5_64 yo_X5_tell dX5_as_18 rfl rfl rfl (Nat.le_of_ble_eq_true rfl) (Nat.le_of_ble_eq_true rfl) rfl (Nat.le_of_ble_eq_true rfl) ⟨Nat.zero_le _, Nat.zero_le _⟩ ?_
    exact ret _ _ _ _ ⟨rfl, _, rfl, by intro g h2 h6; simp [upG, up3, up3R, h2, h6]⟩ rfl dX5_as_21
  · skip
    have c_4 := bI_1 c_4
    refine J_iload_n E dX5_as_7 rfl 2 rfl ?_
    refine J_bipush E dX5_as_8 bp_6 ?_
    refine J_cSiN E (As := [.int k, .int 6]) (c_X5_isUpTo l G k 6 ) cl_X5_56 yo_X5_isUpTo dX5_as_10 rfl (Nat.le_of_ble_eq_true rfl) (Nat.le_of_ble_eq_true rfl) rfl (Nat.le_of_ble_eq_true rfl) ⟨Nat.zero_le _, Nat.zero_le _⟩ ?_
    refine J_if_ne E (tgt := 22) dX5_as_13 (by decide) (fun c_13 => ?_) (fun c_13 => ?_)
    · skip
      have c_13 := bI_1 c_13
      exact absurd ⟨c_4, c_13⟩ hb
    · skip
      have c_13 := bI_0 c_13
      refine J_aload_n E dX5_as_16 rfl 0 rfl ?_
      refine J_iconst E dX5_as_17 ic_0 ?_
      refine J_cVi0 E (As := [.int 0]) (c_X5_tell l G a x 0 (by omega)) cl_X5_64 yo_X5_tell dX5_as_18 rfl rfl rfl (Nat.le_of_ble_eq_true rfl) (Nat.le_of_ble_eq_true rfl) rfl (Nat.le_of_ble_eq_true rfl) ⟨Nat.zero_le _, Nat.zero_le _⟩ ?_
      exact ret _ _ _ _ ⟨rfl, _, rfl, by intro g h2 h6; simp [upG, up3, up3R, h2, h6]⟩ rfl dX5_as_21

set_option maxHeartbeats 4000000 in
set_option maxRecDepth 20000 in
theorem c_X5_as_miss (l : Launch) (G : GB) (a : Nat → Nat) (x : Q3) (s k : Nat) (hs : s < 10) (hk : k < 7) (hv : x 0 6 s = -1) : CI l yX5_as cX5_as 4 .int 2 41 G [.ref (a 0), .int (nI s), .int (nI k)] (wC G a x) (fun vR w' => vR = tellR 5 ∧ PubC G a (tellX x 5) w') := by
  refine CI.mk (own := RX5) (by decide) rfl (Nat.le_of_ble_eq_true rfl) ?_
  intro X E ret
  show J X G 4 0 0 (wC G a x) [(0, .ref (a 0)), (1, .int (nI s)), (2, .int (nI k))] 0 []
  refine J_iload_n E dX5_as_0 rfl 1 rfl ?_
  refine J_cSiN E (As := [.int (nI s)]) (c_X5_isSpot l G (nI s) ) cl_X5_193 yo_X5_isSpot dX5_as_1 rfl (Nat.le_of_ble_eq_true rfl) (Nat.le_of_ble_eq_true rfl) rfl (Nat.le_of_ble_eq_true rfl) ⟨Nat.zero_le _, Nat.zero_le _⟩ ?_
  refine J_if_eq E (tgt := 16) dX5_as_4 (by decide) (fun c_4 => ?_) (fun c_4 => ?_)
  · skip
    have c_4 := bI_0 c_4
    exact absurd (inB (a := s) (b := 9) (by omega) (by decide)) c_4
  · skip
    have c_4 := bI_1 c_4
    refine J_iload_n E dX5_as_7 rfl 2 rfl ?_
    refine J_bipush E dX5_as_8 bp_6 ?_
    refine J_cSiN E (As := [.int (nI k), .int 6]) (c_X5_isUpTo l G (nI k) 6 ) cl_X5_56 yo_X5_isUpTo dX5_as_10 rfl (Nat.le_of_ble_eq_true rfl) (Nat.le_of_ble_eq_true rfl) rfl (Nat.le_of_ble_eq_true rfl) ⟨Nat.zero_le _, Nat.zero_le _⟩ ?_
    refine J_if_ne E (tgt := 22) dX5_as_13 (by decide) (fun c_13 => ?_) (fun c_13 => ?_)
    · skip
      have c_13 := bI_1 c_13
      refine J_aload_n E dX5_as_22 rfl 0 rfl ?_
      refine gC0_X5_10 E dX5_as_23 ?_
      refine gC1_X5_196 E dX5_as_26 ?_
      refine J_iload_n E dX5_as_29 rfl 1 rfl ?_
      refine lC_8 E (j := s) dX5_as_30 (by omega) ?_
      refine J_istore_n E (lv' := [(3, .int (x 0 6 s)), (0, .ref (a 0)), (1, .int (nI s)), (2, .int (nI k))]) dX5_as_31 rfl (by decide) rfl ?_
      refine J_iload_n E dX5_as_32 rfl 0 rfl ?_
      refine J_iconst E dX5_as_33 ic_m1 ?_
      refine J_icmp_ne E (tgt := 43) dX5_as_34 (by decide) (fun c_34 => ?_) (fun c_34 => ?_)
      · skip
        exact absurd hv c_34
      · skip
        refine J_aload_n E dX5_as_37 rfl 1 rfl ?_
        refine J_iconst E dX5_as_38 ic_5 ?_
        refine J_cVi0 E (As := [.int 5]) (c_X5_tell l G a x 5 (by omega)) cl_X5_64 yo_X5_tell dX5_as_39 rfl rfl rfl (Nat.le_of_ble_eq_true rfl) (Nat.le_of_ble_eq_true rfl) rfl (Nat.le_of_ble_eq_true rfl) ⟨Nat.zero_le _, Nat.zero_le _⟩ ?_
        exact ret _ _ _ _ ⟨rfl, _, rfl, by intro g h2 h6; simp [upG, up3, up3R, h2, h6]⟩ rfl dX5_as_42
    · skip
      have c_13 := bI_0 c_13
      exact absurd (inB (a := k) (b := 6) (by omega) (by decide)) c_13

set_option maxHeartbeats 4000000 in
set_option maxRecDepth 20000 in
theorem c_X5_as_no (l : Launch) (G : GB) (a : Nat → Nat) (x : Q3) (s k j kd : Nat) (hs : s < 10) (hk : k < 7) (hj : j < 11) (hkd : kd < 7) (hv : x 0 6 s = nI j) (hw : x 0 0 j = nI kd) (hu : ¬ undF kd k = true) : CI l yX5_as cX5_as 4 .int 2 41 G [.ref (a 0), .int (nI s), .int (nI k)] (wC G a x) (fun vR w' => vR = tellR 2 ∧ PubC G a (tellX x 2) w') := by
  refine CI.mk (own := RX5) (by decide) rfl (Nat.le_of_ble_eq_true rfl) ?_
  intro X E ret
  show J X G 4 0 0 (wC G a x) [(0, .ref (a 0)), (1, .int (nI s)), (2, .int (nI k))] 0 []
  refine J_iload_n E dX5_as_0 rfl 1 rfl ?_
  refine J_cSiN E (As := [.int (nI s)]) (c_X5_isSpot l G (nI s) ) cl_X5_193 yo_X5_isSpot dX5_as_1 rfl (Nat.le_of_ble_eq_true rfl) (Nat.le_of_ble_eq_true rfl) rfl (Nat.le_of_ble_eq_true rfl) ⟨Nat.zero_le _, Nat.zero_le _⟩ ?_
  refine J_if_eq E (tgt := 16) dX5_as_4 (by decide) (fun c_4 => ?_) (fun c_4 => ?_)
  · skip
    have c_4 := bI_0 c_4
    exact absurd (inB (a := s) (b := 9) (by omega) (by decide)) c_4
  · skip
    have c_4 := bI_1 c_4
    refine J_iload_n E dX5_as_7 rfl 2 rfl ?_
    refine J_bipush E dX5_as_8 bp_6 ?_
    refine J_cSiN E (As := [.int (nI k), .int 6]) (c_X5_isUpTo l G (nI k) 6 ) cl_X5_56 yo_X5_isUpTo dX5_as_10 rfl (Nat.le_of_ble_eq_true rfl) (Nat.le_of_ble_eq_true rfl) rfl (Nat.le_of_ble_eq_true rfl) ⟨Nat.zero_le _, Nat.zero_le _⟩ ?_
    refine J_if_ne E (tgt := 22) dX5_as_13 (by decide) (fun c_13 => ?_) (fun c_13 => ?_)
    · skip
      have c_13 := bI_1 c_13
      refine J_aload_n E dX5_as_22 rfl 0 rfl ?_
      refine gC0_X5_10 E dX5_as_23 ?_
      refine gC1_X5_196 E dX5_as_26 ?_
      refine J_iload_n E dX5_as_29 rfl 1 rfl ?_
      refine lC_8 E (j := s) dX5_as_30 (by omega) ?_
      refine J_top (x' := nI j) (hv) ?_
      refine J_istore_n E (lv' := [(3, .int (nI j)), (0, .ref (a 0)), (1, .int (nI s)), (2, .int (nI k))]) dX5_as_31 rfl (by decide) rfl ?_
      refine J_iload_n E dX5_as_32 rfl 0 rfl ?_
      refine J_iconst E dX5_as_33 ic_m1 ?_
      refine J_icmp_ne E (tgt := 43) dX5_as_34 (by decide) (fun c_34 => ?_) (fun c_34 => ?_)
      · skip
        refine J_aload_n E dX5_as_43 rfl 1 rfl ?_
        refine gC0_X5_10 E dX5_as_44 ?_
        refine gC1_X5_77 E dX5_as_47 ?_
        refine J_iload_n E dX5_as_50 rfl 0 rfl ?_
        refine lC_2 E (j := j) dX5_as_51 (by omega) ?_
        refine J_top (x' := nI kd) (hw) ?_
        refine J_iload_n E dX5_as_52 rfl 3 rfl ?_
        refine J_cSiN E (As := [.int (nI kd), .int (nI k)]) (c_X0_isUnder l G kd k (by omega) (by omega)) cl_X5_199 yo_X0_isUnder dX5_as_53 rfl (Nat.le_of_ble_eq_true rfl) (Nat.le_of_ble_eq_true rfl) rfl (Nat.le_of_ble_eq_true rfl) ⟨Nat.zero_le _, Nat.zero_le _⟩ ?_
        refine J_if_ne E (tgt := 65) dX5_as_56 (by decide) (fun c_56 => ?_) (fun c_56 => ?_)
        · skip
          have c_56 := bI_1 c_56
          exact absurd c_56 hu
        · skip
          have c_56 := bI_0 c_56
          refine J_aload_n E dX5_as_59 rfl 1 rfl ?_
          refine J_iconst E dX5_as_60 ic_2 ?_
          refine J_cVi0 E (As := [.int 2]) (c_X5_tell l G a x 2 (by omega)) cl_X5_64 yo_X5_tell dX5_as_61 rfl rfl rfl (Nat.le_of_ble_eq_true rfl) (Nat.le_of_ble_eq_true rfl) rfl (Nat.le_of_ble_eq_true rfl) ⟨Nat.zero_le _, Nat.zero_le _⟩ ?_
          exact ret _ _ _ _ ⟨rfl, _, rfl, by intro g h2 h6; simp [upG, up3, up3R, h2, h6]⟩ rfl dX5_as_64
      · skip
        exact absurd c_34 (m1_ne hj)
    · skip
      have c_13 := bI_0 c_13
      exact absurd (inB (a := k) (b := 6) (by omega) (by decide)) c_13

set_option maxHeartbeats 4000000 in
set_option maxRecDepth 20000 in
theorem c_X5_as_ok (l : Launch) (G : GB) (a : Nat → Nat) (x : Q3) (s k j kd : Nat) (hs : s < 10) (hk : k < 7) (hj : j < 11) (hkd : kd < 7) (hv : x 0 6 s = nI j) (hw : x 0 0 j = nI kd) (hu : undF kd k = true) : CI l yX5_as cX5_as 4 .int 2 41 G [.ref (a 0), .int (nI s), .int (nI k)] (wC G a x) (fun vR w' => vR = nI j ∧ PubC G a x w') := by
  refine CI.mk (own := RX5) (by decide) rfl (Nat.le_of_ble_eq_true rfl) ?_
  intro X E ret
  show J X G 4 0 0 (wC G a x) [(0, .ref (a 0)), (1, .int (nI s)), (2, .int (nI k))] 0 []
  refine J_iload_n E dX5_as_0 rfl 1 rfl ?_
  refine J_cSiN E (As := [.int (nI s)]) (c_X5_isSpot l G (nI s) ) cl_X5_193 yo_X5_isSpot dX5_as_1 rfl (Nat.le_of_ble_eq_true rfl) (Nat.le_of_ble_eq_true rfl) rfl (Nat.le_of_ble_eq_true rfl) ⟨Nat.zero_le _, Nat.zero_le _⟩ ?_
  refine J_if_eq E (tgt := 16) dX5_as_4 (by decide) (fun c_4 => ?_) (fun c_4 => ?_)
  · skip
    have c_4 := bI_0 c_4
    exact absurd (inB (a := s) (b := 9) (by omega) (by decide)) c_4
  · skip
    have c_4 := bI_1 c_4
    refine J_iload_n E dX5_as_7 rfl 2 rfl ?_
    refine J_bipush E dX5_as_8 bp_6 ?_
    refine J_cSiN E (As := [.int (nI k), .int 6]) (c_X5_isUpTo l G (nI k) 6 ) cl_X5_56 yo_X5_isUpTo dX5_as_10 rfl (Nat.le_of_ble_eq_true rfl) (Nat.le_of_ble_eq_true rfl) rfl (Nat.le_of_ble_eq_true rfl) ⟨Nat.zero_le _, Nat.zero_le _⟩ ?_
    refine J_if_ne E (tgt := 22) dX5_as_13 (by decide) (fun c_13 => ?_) (fun c_13 => ?_)
    · skip
      have c_13 := bI_1 c_13
      refine J_aload_n E dX5_as_22 rfl 0 rfl ?_
      refine gC0_X5_10 E dX5_as_23 ?_
      refine gC1_X5_196 E dX5_as_26 ?_
      refine J_iload_n E dX5_as_29 rfl 1 rfl ?_
      refine lC_8 E (j := s) dX5_as_30 (by omega) ?_
      refine J_top (x' := nI j) (hv) ?_
      refine J_istore_n E (lv' := [(3, .int (nI j)), (0, .ref (a 0)), (1, .int (nI s)), (2, .int (nI k))]) dX5_as_31 rfl (by decide) rfl ?_
      refine J_iload_n E dX5_as_32 rfl 0 rfl ?_
      refine J_iconst E dX5_as_33 ic_m1 ?_
      refine J_icmp_ne E (tgt := 43) dX5_as_34 (by decide) (fun c_34 => ?_) (fun c_34 => ?_)
      · skip
        refine J_aload_n E dX5_as_43 rfl 1 rfl ?_
        refine gC0_X5_10 E dX5_as_44 ?_
        refine gC1_X5_77 E dX5_as_47 ?_
        refine J_iload_n E dX5_as_50 rfl 0 rfl ?_
        refine lC_2 E (j := j) dX5_as_51 (by omega) ?_
        refine J_top (x' := nI kd) (hw) ?_
        refine J_iload_n E dX5_as_52 rfl 3 rfl ?_
        refine J_cSiN E (As := [.int (nI kd), .int (nI k)]) (c_X0_isUnder l G kd k (by omega) (by omega)) cl_X5_199 yo_X0_isUnder dX5_as_53 rfl (Nat.le_of_ble_eq_true rfl) (Nat.le_of_ble_eq_true rfl) rfl (Nat.le_of_ble_eq_true rfl) ⟨Nat.zero_le _, Nat.zero_le _⟩ ?_
        refine J_if_ne E (tgt := 65) dX5_as_56 (by decide) (fun c_56 => ?_) (fun c_56 => ?_)
        · skip
          have c_56 := bI_1 c_56
          refine J_iload_n E dX5_as_65 rfl 0 rfl ?_
          exact ret _ _ _ _ ⟨rfl, _, rfl, by intro g h2 h6; simp [upG, up3, up3R, h2, h6]⟩ rfl dX5_as_66
        · skip
          have c_56 := bI_0 c_56
          exact absurd hu c_56
      · skip
        exact absurd c_34 (m1_ne hj)
    · skip
      have c_13 := bI_0 c_13
      exact absurd (inB (a := k) (b := 6) (by omega) (by decide)) c_13

set_option maxHeartbeats 4000000 in
set_option maxRecDepth 20000 in
theorem c_X5_odds_bad (l : Launch) (G : GB) (a : Nat → Nat) (x : Q3) (v n w : Int32) (hb : ¬ ((0 ≤ v ∧ v ≤ 100) ∧ (0 ≤ n ∧ n ≤ 9) ∧ 0 ≤ w ∧ w ≤ 1)) : CL l yX5_odds cX5_odds 11 1 21 G [.ref (a 0), .int v, .int n, .int w] (wC G a x) (fun vR w' => vR = Int32.toInt64 (tellR 0) ∧ PubC G a (tellX x 0) w') := by
  refine CL.mk (own := RX5) (by decide) rfl (Nat.le_of_ble_eq_true rfl) ?_
  intro X E ret
  show J X G 11 0 0 (wC G a x) [(0, .ref (a 0)), (1, .int v), (2, .int n), (3, .int w)] 0 []
  refine J_iload_n E dX5_odds_0 rfl 1 rfl ?_
  refine J_bipush E dX5_odds_1 bp_100 ?_
  refine J_cSiN E (As := [.int v, .int 100]) (c_X5_isUpTo l G v 100 ) cl_X5_56 yo_X5_isUpTo dX5_odds_3 rfl (Nat.le_of_ble_eq_true rfl) (Nat.le_of_ble_eq_true rfl) rfl (Nat.le_of_ble_eq_true rfl) ⟨Nat.zero_le _, Nat.zero_le _⟩ ?_
  refine J_if_eq E (tgt := 26) dX5_odds_6 (by decide) (fun c_6 => ?_) (fun c_6 => ?_)
  · skip
    have c_6 := bI_0 c_6
    refine J_aload_n E dX5_odds_26 rfl 0 rfl ?_
    refine J_iconst E dX5_odds_27 ic_0 ?_
    refine J_cVi0 E (As := [.int 0]) (c_X5_tell l G a x 0 (by omega)) cl_X5_64 yo_X5_tell dX5_odds_28 rfl rfl rfl (Nat.le_of_ble_eq_true rfl) (Nat.le_of_ble_eq_true rfl) rfl (Nat.le_of_ble_eq_true rfl) ⟨Nat.zero_le _, Nat.zero_le _⟩ ?_
    refine J_i2l E dX5_odds_31 rfl ?_
    exact ret _ _ _ _ ⟨rfl, _, rfl, by intro g h2 h6; simp [upG, up3, up3R, h2, h6]⟩ dX5_odds_32
  · skip
    have c_6 := bI_1 c_6
    refine J_iload_n E dX5_odds_9 rfl 2 rfl ?_
    refine J_bipush E dX5_odds_10 bp_9 ?_
    refine J_cSiN E (As := [.int n, .int 9]) (c_X5_isUpTo l G n 9 ) cl_X5_56 yo_X5_isUpTo dX5_odds_12 rfl (Nat.le_of_ble_eq_true rfl) (Nat.le_of_ble_eq_true rfl) rfl (Nat.le_of_ble_eq_true rfl) ⟨Nat.zero_le _, Nat.zero_le _⟩ ?_
    refine J_if_eq E (tgt := 26) dX5_odds_15 (by decide) (fun c_15 => ?_) (fun c_15 => ?_)
    · skip
      have c_15 := bI_0 c_15
      refine J_aload_n E dX5_odds_26 rfl 0 rfl ?_
      refine J_iconst E dX5_odds_27 ic_0 ?_
      refine J_cVi0 E (As := [.int 0]) (c_X5_tell l G a x 0 (by omega)) cl_X5_64 yo_X5_tell dX5_odds_28 rfl rfl rfl (Nat.le_of_ble_eq_true rfl) (Nat.le_of_ble_eq_true rfl) rfl (Nat.le_of_ble_eq_true rfl) ⟨Nat.zero_le _, Nat.zero_le _⟩ ?_
      refine J_i2l E dX5_odds_31 rfl ?_
      exact ret _ _ _ _ ⟨rfl, _, rfl, by intro g h2 h6; simp [upG, up3, up3R, h2, h6]⟩ dX5_odds_32
    · skip
      have c_15 := bI_1 c_15
      refine J_iload_n E dX5_odds_18 rfl 3 rfl ?_
      refine J_iconst E dX5_odds_19 ic_1 ?_
      refine J_cSiN E (As := [.int w, .int 1]) (c_X5_isUpTo l G w 1 ) cl_X5_56 yo_X5_isUpTo dX5_odds_20 rfl (Nat.le_of_ble_eq_true rfl) (Nat.le_of_ble_eq_true rfl) rfl (Nat.le_of_ble_eq_true rfl) ⟨Nat.zero_le _, Nat.zero_le _⟩ ?_
      refine J_if_ne E (tgt := 33) dX5_odds_23 (by decide) (fun c_23 => ?_) (fun c_23 => ?_)
      · skip
        have c_23 := bI_1 c_23
        exact absurd ⟨c_6, c_15, c_23⟩ hb
      · skip
        have c_23 := bI_0 c_23
        refine J_aload_n E dX5_odds_26 rfl 0 rfl ?_
        refine J_iconst E dX5_odds_27 ic_0 ?_
        refine J_cVi0 E (As := [.int 0]) (c_X5_tell l G a x 0 (by omega)) cl_X5_64 yo_X5_tell dX5_odds_28 rfl rfl rfl (Nat.le_of_ble_eq_true rfl) (Nat.le_of_ble_eq_true rfl) rfl (Nat.le_of_ble_eq_true rfl) ⟨Nat.zero_le _, Nat.zero_le _⟩ ?_
        refine J_i2l E dX5_odds_31 rfl ?_
        exact ret _ _ _ _ ⟨rfl, _, rfl, by intro g h2 h6; simp [upG, up3, up3R, h2, h6]⟩ dX5_odds_32

set_option maxHeartbeats 4000000 in
set_option maxRecDepth 20000 in
theorem c_X5_odds_0 (l : Launch) (G : GB) (a : Nat → Nat) (x : Q3) (v ab n : Nat) (hv : v + ab = 100) (hn : n < 10) : CL l yX5_odds cX5_odds 11 1 21 G [.ref (a 0), .int (nI v), .int (nI n), .int (nI 0)] (wC G a x) (fun vR w' => vR = powF (Int32.toInt64 (nI ab / nI (comF ab 100))) n ∧ PubC G a x w') := by
  refine CL.mk (own := RX5) (by decide) rfl (Nat.le_of_ble_eq_true rfl) ?_
  intro X E ret
  show J X G 11 0 0 (wC G a x) [(0, .ref (a 0)), (1, .int (nI v)), (2, .int (nI n)), (3, .int (nI 0))] 0 []
  refine J_iload_n E dX5_odds_0 rfl 1 rfl ?_
  refine J_bipush E dX5_odds_1 bp_100 ?_
  refine J_cSiN E (As := [.int (nI v), .int 100]) (c_X5_isUpTo l G (nI v) 100 ) cl_X5_56 yo_X5_isUpTo dX5_odds_3 rfl (Nat.le_of_ble_eq_true rfl) (Nat.le_of_ble_eq_true rfl) rfl (Nat.le_of_ble_eq_true rfl) ⟨Nat.zero_le _, Nat.zero_le _⟩ ?_
  refine J_if_eq E (tgt := 26) dX5_odds_6 (by decide) (fun c_6 => ?_) (fun c_6 => ?_)
  · skip
    have c_6 := bI_0 c_6
    exact absurd (inB (a := v) (b := 100) (by omega) (by decide)) c_6
  · skip
    have c_6 := bI_1 c_6
    refine J_iload_n E dX5_odds_9 rfl 2 rfl ?_
    refine J_bipush E dX5_odds_10 bp_9 ?_
    refine J_cSiN E (As := [.int (nI n), .int 9]) (c_X5_isUpTo l G (nI n) 9 ) cl_X5_56 yo_X5_isUpTo dX5_odds_12 rfl (Nat.le_of_ble_eq_true rfl) (Nat.le_of_ble_eq_true rfl) rfl (Nat.le_of_ble_eq_true rfl) ⟨Nat.zero_le _, Nat.zero_le _⟩ ?_
    refine J_if_eq E (tgt := 26) dX5_odds_15 (by decide) (fun c_15 => ?_) (fun c_15 => ?_)
    · skip
      have c_15 := bI_0 c_15
      exact absurd (inB (a := n) (b := 9) (by omega) (by decide)) c_15
    · skip
      have c_15 := bI_1 c_15
      refine J_iload_n E dX5_odds_18 rfl 3 rfl ?_
      refine J_iconst E dX5_odds_19 ic_1 ?_
      refine J_cSiN E (As := [.int (nI 0), .int 1]) (c_X5_isUpTo l G (nI 0) 1 ) cl_X5_56 yo_X5_isUpTo dX5_odds_20 rfl (Nat.le_of_ble_eq_true rfl) (Nat.le_of_ble_eq_true rfl) rfl (Nat.le_of_ble_eq_true rfl) ⟨Nat.zero_le _, Nat.zero_le _⟩ ?_
      refine J_if_ne E (tgt := 33) dX5_odds_23 (by decide) (fun c_23 => ?_) (fun c_23 => ?_)
      · skip
        have c_23 := bI_1 c_23
        refine J_bipush E dX5_odds_33 bp_100 ?_
        refine J_iload_n E dX5_odds_35 rfl 1 rfl ?_
        refine J_isub E dX5_odds_36 ?_
        refine J_top (x' := nI ab) (sub100 hv) ?_
        refine J_istore E (lv' := [(4, .int (nI ab)), (0, .ref (a 0)), (1, .int (nI v)), (2, .int (nI n)), (3, .int (nI 0))]) dX5_odds_37 (by decide) rfl ?_
        refine J_bipush E dX5_odds_39 bp_100 ?_
        refine J_istore E (lv' := [(5, .int 100), (4, .int (nI ab)), (0, .ref (a 0)), (1, .int (nI v)), (2, .int (nI n)), (3, .int (nI 0))]) dX5_odds_41 (by decide) rfl ?_
        have lp43 : ∀ (fu : Nat) (c : Nat), (1 ≤ c) → (c ≤ 100) → (comF ab 100 = comF ab c) → c < fu → J X G 11 0 0 (wC G a x) [(0, .ref (a 0)), (1, .int (nI v)), (2, .int (nI n)), (3, .int (nI 0)), (4, .int (nI ab)), (5, .int (nI c))] 43 [] := by
          intro fu
          induction fu with
          | zero => intro c h1 h2 h3 hm; exact absurd hm (Nat.not_lt_zero _)
          | succ fu ih43 =>
            intro c h1 h2 h3 hm
            refine J_iload E dX5_odds_43 5 rfl ?_
            refine J_iconst E dX5_odds_45 ic_1 ?_
            refine J_icmp_le E (tgt := 71) dX5_odds_46 (by decide) (fun c_46 => ?_) (fun c_46 => ?_)
            · skip
              have n_46 : c ≤ 1 := cmp_le (a := c) (b := 1) (by omega) (by omega) c_46
              have hc : comF ab 100 = c := by rw [h3, show c = 1 by omega]; exact comF_1 ab
              refine J_iload_n E dX5_odds_71 rfl 3 rfl ?_
              refine J_if_ne E (tgt := 80) dX5_odds_72 (by decide) (fun c_72 => ?_) (fun c_72 => ?_)
              · skip
                have n_72 : ¬ 0 = 0 := cmp_ne (a := 0) (b := 0) (by omega) (by omega) c_72
                exact absurd n_72 (by decide)
              · skip
                have n_72 : 0 = 0 := cmp_eq (a := 0) (b := 0) (by omega) (by omega) c_72
                refine J_iload E dX5_odds_75 4 rfl ?_
                refine J_goto E (tgt := 82) dX5_odds_77 (by decide) ?_
                refine J_iload E dX5_odds_82 5 rfl ?_
                refine J_idiv E dX5_odds_84 (nIz (by omega) (by omega)) ?_
                refine J_i2l E dX5_odds_85 rfl ?_
                refine J_lstore E (lv' := [(6, .long (Int32.toInt64 ((nI ab) / (nI c)))), (0, .ref (a 0)), (1, .int (nI v)), (2, .int (nI n)), (3, .int (nI 0)), (4, .int (nI ab)), (5, .int (nI c))]) dX5_odds_86 (by decide) rfl ?_
                refine J_lconst E dX5_odds_88 lc_1 ?_
                refine J_lstore E (lv' := [(8, .long 1), (6, .long (Int32.toInt64 ((nI ab) / (nI c)))), (0, .ref (a 0)), (1, .int (nI v)), (2, .int (nI n)), (3, .int (nI 0)), (4, .int (nI ab)), (5, .int (nI c))]) dX5_odds_89 (by decide) rfl ?_
                refine J_iconst E dX5_odds_91 ic_0 ?_
                refine J_istore E (lv' := [(10, .int 0), (8, .long 1), (6, .long (Int32.toInt64 ((nI ab) / (nI c)))), (0, .ref (a 0)), (1, .int (nI v)), (2, .int (nI n)), (3, .int (nI 0)), (4, .int (nI ab)), (5, .int (nI c))]) dX5_odds_92 (by decide) rfl ?_
                have lp94 : ∀ (fu : Nat) (i : Nat) (p : Int64), (i ≤ n) → (p = powF (Int32.toInt64 (nI ab / nI c)) i) → n - i < fu → J X G 11 0 0 (wC G a x) [(0, .ref (a 0)), (1, .int (nI v)), (2, .int (nI n)), (3, .int (nI 0)), (4, .int (nI ab)), (5, .int (nI c)), (6, .long (Int32.toInt64 ((nI ab) / (nI c)))), (8, .long p), (10, .int (nI i))] 94 [] := by
                  intro fu
                  induction fu with
                  | zero => intro i p hi hp hm; exact absurd hm (Nat.not_lt_zero _)
                  | succ fu ih94 =>
                    intro i p hi hp hm
                    refine J_iload E dX5_odds_94 8 rfl ?_
                    refine J_iload_n E dX5_odds_96 rfl 2 rfl ?_
                    refine J_icmp_ge E (tgt := 113) dX5_odds_97 (by decide) (fun c_97 => ?_) (fun c_97 => ?_)
                    · skip
                      have n_97 : n ≤ i := cmp_le (a := n) (b := i) (by omega) (by omega) c_97
                      refine J_lload E dX5_odds_113 7 rfl ?_
                      exact ret _ _ _ _ ⟨by rw [hp, hc, show i = n by omega], _, rfl, by intro g h2 h6; simp [upG, up3, up3R, h2, h6]⟩ dX5_odds_115
                    · skip
                      have n_97 : ¬ n ≤ i := cmp_nle (a := n) (b := i) (by omega) (by omega) c_97
                      refine J_lload E dX5_odds_100 7 rfl ?_
                      refine J_lload E dX5_odds_102 6 rfl ?_
                      refine J_lmul E dX5_odds_104 ?_
                      refine J_lstore E (lv' := [(8, .long (p * (Int32.toInt64 ((nI ab) / (nI c))))), (0, .ref (a 0)), (1, .int (nI v)), (2, .int (nI n)), (3, .int (nI 0)), (4, .int (nI ab)), (5, .int (nI c)), (6, .long (Int32.toInt64 ((nI ab) / (nI c)))), (10, .int (nI i))]) dX5_odds_105 (by decide) rfl ?_
                      refine J_iinc E (lv' := [(10, .int (nI (i + 1))), (8, .long (p * (Int32.toInt64 ((nI ab) / (nI c))))), (0, .ref (a 0)), (1, .int (nI v)), (2, .int (nI n)), (3, .int (nI 0)), (4, .int (nI ab)), (5, .int (nI c)), (6, .long (Int32.toInt64 ((nI ab) / (nI c))))]) dX5_odds_107 8 rfl (nI_inc _) (by decide) rfl ?_
                      refine J_goto E (tgt := 94) dX5_odds_110 (by decide) ?_
                      refine J_lv [2, 3, 4, 5, 6, 7, 8, 1, 0] rfl ?_
                      exact ih94 (i + 1) (p * (Int32.toInt64 ((nI ab) / (nI c)))) (by omega) (by rw [hp]; rfl) (by omega)
                refine J_lv [3, 4, 5, 6, 7, 8, 2, 1, 0] rfl ?_
                exact lp94 _ 0 1 (by omega) rfl (Nat.lt_succ_self _)
            · skip
              have n_46 : ¬ c ≤ 1 := cmp_nle (a := c) (b := 1) (by omega) (by omega) c_46
              refine J_iload E dX5_odds_49 4 rfl ?_
              refine J_iload E dX5_odds_51 5 rfl ?_
              refine J_irem E dX5_odds_53 (nIz (by omega) (by omega)) ?_
              have hm54 : ab % c < c := Nat.mod_lt _ (by omega)
              refine J_top (x' := nI (ab % c)) (pk_rem (by omega) (by omega) (by omega)) ?_
              refine J_if_ne E (tgt := 65) dX5_odds_54 (by decide) (fun c_54 => ?_) (fun c_54 => ?_)
              · skip
                have n_54 : ¬ (ab % c) = 0 := cmp_ne (a := (ab % c)) (b := 0) (by omega) (by omega) c_54
                obtain ⟨y, rfl⟩ : ∃ y, c = y + 1 := ⟨c - 1, by omega⟩
                refine J_iinc E (lv' := [(5, .int (nI y)), (0, .ref (a 0)), (1, .int (nI v)), (2, .int (nI n)), (3, .int (nI 0)), (4, .int (nI ab))]) dX5_odds_65 5 rfl (nI_dec _) (by decide) rfl ?_
                refine J_goto E (tgt := 43) dX5_odds_68 (by decide) ?_
                refine J_lv [1, 2, 3, 4, 5, 0] rfl ?_
                exact ih43 y (by omega) (by omega) (by rw [h3, comF_n (by omega) (by omega)]) (by omega)
              · skip
                have n_54 : (ab % c) = 0 := cmp_eq (a := (ab % c)) (b := 0) (by omega) (by omega) c_54
                refine J_bipush E dX5_odds_57 bp_100 ?_
                refine J_iload E dX5_odds_59 5 rfl ?_
                refine J_irem E dX5_odds_61 (nIz (by omega) (by omega)) ?_
                have hm62 : 100 % c < c := Nat.mod_lt _ (by omega)
                refine J_top (x' := nI (100 % c)) (rem100 (by omega) (by omega)) ?_
                refine J_if_eq E (tgt := 71) dX5_odds_62 (by decide) (fun c_62 => ?_) (fun c_62 => ?_)
                · skip
                  have n_62 : (100 % c) = 0 := cmp_eq (a := (100 % c)) (b := 0) (by omega) (by omega) c_62
                  have hc : comF ab 100 = c := by rw [h3, show c = (c - 1) + 1 by omega]; exact comF_y (by omega) (by rw [show c - 1 + 1 = c by omega]; omega) (by rw [show c - 1 + 1 = c by omega]; omega)
                  refine J_iload_n E dX5_odds_71 rfl 3 rfl ?_
                  refine J_if_ne E (tgt := 80) dX5_odds_72 (by decide) (fun c_72 => ?_) (fun c_72 => ?_)
                  · skip
                    have n_72 : ¬ 0 = 0 := cmp_ne (a := 0) (b := 0) (by omega) (by omega) c_72
                    exact absurd n_72 (by decide)
                  · skip
                    have n_72 : 0 = 0 := cmp_eq (a := 0) (b := 0) (by omega) (by omega) c_72
                    refine J_iload E dX5_odds_75 4 rfl ?_
                    refine J_goto E (tgt := 82) dX5_odds_77 (by decide) ?_
                    refine J_iload E dX5_odds_82 5 rfl ?_
                    refine J_idiv E dX5_odds_84 (nIz (by omega) (by omega)) ?_
                    refine J_i2l E dX5_odds_85 rfl ?_
                    refine J_lstore E (lv' := [(6, .long (Int32.toInt64 ((nI ab) / (nI c)))), (0, .ref (a 0)), (1, .int (nI v)), (2, .int (nI n)), (3, .int (nI 0)), (4, .int (nI ab)), (5, .int (nI c))]) dX5_odds_86 (by decide) rfl ?_
                    refine J_lconst E dX5_odds_88 lc_1 ?_
                    refine J_lstore E (lv' := [(8, .long 1), (6, .long (Int32.toInt64 ((nI ab) / (nI c)))), (0, .ref (a 0)), (1, .int (nI v)), (2, .int (nI n)), (3, .int (nI 0)), (4, .int (nI ab)), (5, .int (nI c))]) dX5_odds_89 (by decide) rfl ?_
                    refine J_iconst E dX5_odds_91 ic_0 ?_
                    refine J_istore E (lv' := [(10, .int 0), (8, .long 1), (6, .long (Int32.toInt64 ((nI ab) / (nI c)))), (0, .ref (a 0)), (1, .int (nI v)), (2, .int (nI n)), (3, .int (nI 0)), (4, .int (nI ab)), (5, .int (nI c))]) dX5_odds_92 (by decide) rfl ?_
                    have lp94 : ∀ (fu : Nat) (i : Nat) (p : Int64), (i ≤ n) → (p = powF (Int32.toInt64 (nI ab / nI c)) i) → n - i < fu → J X G 11 0 0 (wC G a x) [(0, .ref (a 0)), (1, .int (nI v)), (2, .int (nI n)), (3, .int (nI 0)), (4, .int (nI ab)), (5, .int (nI c)), (6, .long (Int32.toInt64 ((nI ab) / (nI c)))), (8, .long p), (10, .int (nI i))] 94 [] := by
                      intro fu
                      induction fu with
                      | zero => intro i p hi hp hm; exact absurd hm (Nat.not_lt_zero _)
                      | succ fu ih94 =>
                        intro i p hi hp hm
                        refine J_iload E dX5_odds_94 8 rfl ?_
                        refine J_iload_n E dX5_odds_96 rfl 2 rfl ?_
                        refine J_icmp_ge E (tgt := 113) dX5_odds_97 (by decide) (fun c_97 => ?_) (fun c_97 => ?_)
                        · skip
                          have n_97 : n ≤ i := cmp_le (a := n) (b := i) (by omega) (by omega) c_97
                          refine J_lload E dX5_odds_113 7 rfl ?_
                          exact ret _ _ _ _ ⟨by rw [hp, hc, show i = n by omega], _, rfl, by intro g h2 h6; simp [upG, up3, up3R, h2, h6]⟩ dX5_odds_115
                        · skip
                          have n_97 : ¬ n ≤ i := cmp_nle (a := n) (b := i) (by omega) (by omega) c_97
                          refine J_lload E dX5_odds_100 7 rfl ?_
                          refine J_lload E dX5_odds_102 6 rfl ?_
                          refine J_lmul E dX5_odds_104 ?_
                          refine J_lstore E (lv' := [(8, .long (p * (Int32.toInt64 ((nI ab) / (nI c))))), (0, .ref (a 0)), (1, .int (nI v)), (2, .int (nI n)), (3, .int (nI 0)), (4, .int (nI ab)), (5, .int (nI c)), (6, .long (Int32.toInt64 ((nI ab) / (nI c)))), (10, .int (nI i))]) dX5_odds_105 (by decide) rfl ?_
                          refine J_iinc E (lv' := [(10, .int (nI (i + 1))), (8, .long (p * (Int32.toInt64 ((nI ab) / (nI c))))), (0, .ref (a 0)), (1, .int (nI v)), (2, .int (nI n)), (3, .int (nI 0)), (4, .int (nI ab)), (5, .int (nI c)), (6, .long (Int32.toInt64 ((nI ab) / (nI c))))]) dX5_odds_107 8 rfl (nI_inc _) (by decide) rfl ?_
                          refine J_goto E (tgt := 94) dX5_odds_110 (by decide) ?_
                          refine J_lv [2, 3, 4, 5, 6, 7, 8, 1, 0] rfl ?_
                          exact ih94 (i + 1) (p * (Int32.toInt64 ((nI ab) / (nI c)))) (by omega) (by rw [hp]; rfl) (by omega)
                    refine J_lv [3, 4, 5, 6, 7, 8, 2, 1, 0] rfl ?_
                    exact lp94 _ 0 1 (by omega) rfl (Nat.lt_succ_self _)
                · skip
                  have n_62 : ¬ (100 % c) = 0 := cmp_ne (a := (100 % c)) (b := 0) (by omega) (by omega) c_62
                  obtain ⟨y, rfl⟩ : ∃ y, c = y + 1 := ⟨c - 1, by omega⟩
                  refine J_iinc E (lv' := [(5, .int (nI y)), (0, .ref (a 0)), (1, .int (nI v)), (2, .int (nI n)), (3, .int (nI 0)), (4, .int (nI ab))]) dX5_odds_65 5 rfl (nI_dec _) (by decide) rfl ?_
                  refine J_goto E (tgt := 43) dX5_odds_68 (by decide) ?_
                  refine J_lv [1, 2, 3, 4, 5, 0] rfl ?_
                  exact ih43 y (by omega) (by omega) (by rw [h3, comF_n (by omega) (by omega)]) (by omega)
        refine J_lv [2, 3, 4, 5, 1, 0] rfl ?_
        exact lp43 _ 100 (by decide) (by decide) rfl (Nat.lt_succ_self _)
      · skip
        have c_23 := bI_0 c_23
        exact absurd (inB (a := 0) (b := 1) (by omega) (by decide)) c_23

set_option maxHeartbeats 4000000 in
set_option maxRecDepth 20000 in
theorem c_X5_odds_1 (l : Launch) (G : GB) (a : Nat → Nat) (x : Q3) (v ab n : Nat) (hv : v + ab = 100) (hn : n < 10) : CL l yX5_odds cX5_odds 11 1 21 G [.ref (a 0), .int (nI v), .int (nI n), .int (nI 1)] (wC G a x) (fun vR w' => vR = powF (Int32.toInt64 ((100 : Int32) / nI (comF ab 100))) n ∧ PubC G a x w') := by
  refine CL.mk (own := RX5) (by decide) rfl (Nat.le_of_ble_eq_true rfl) ?_
  intro X E ret
  show J X G 11 0 0 (wC G a x) [(0, .ref (a 0)), (1, .int (nI v)), (2, .int (nI n)), (3, .int (nI 1))] 0 []
  refine J_iload_n E dX5_odds_0 rfl 1 rfl ?_
  refine J_bipush E dX5_odds_1 bp_100 ?_
  refine J_cSiN E (As := [.int (nI v), .int 100]) (c_X5_isUpTo l G (nI v) 100 ) cl_X5_56 yo_X5_isUpTo dX5_odds_3 rfl (Nat.le_of_ble_eq_true rfl) (Nat.le_of_ble_eq_true rfl) rfl (Nat.le_of_ble_eq_true rfl) ⟨Nat.zero_le _, Nat.zero_le _⟩ ?_
  refine J_if_eq E (tgt := 26) dX5_odds_6 (by decide) (fun c_6 => ?_) (fun c_6 => ?_)
  · skip
    have c_6 := bI_0 c_6
    exact absurd (inB (a := v) (b := 100) (by omega) (by decide)) c_6
  · skip
    have c_6 := bI_1 c_6
    refine J_iload_n E dX5_odds_9 rfl 2 rfl ?_
    refine J_bipush E dX5_odds_10 bp_9 ?_
    refine J_cSiN E (As := [.int (nI n), .int 9]) (c_X5_isUpTo l G (nI n) 9 ) cl_X5_56 yo_X5_isUpTo dX5_odds_12 rfl (Nat.le_of_ble_eq_true rfl) (Nat.le_of_ble_eq_true rfl) rfl (Nat.le_of_ble_eq_true rfl) ⟨Nat.zero_le _, Nat.zero_le _⟩ ?_
    refine J_if_eq E (tgt := 26) dX5_odds_15 (by decide) (fun c_15 => ?_) (fun c_15 => ?_)
    · skip
      have c_15 := bI_0 c_15
      exact absurd (inB (a := n) (b := 9) (by omega) (by decide)) c_15
    · skip
      have c_15 := bI_1 c_15
      refine J_iload_n E dX5_odds_18 rfl 3 rfl ?_
      refine J_iconst E dX5_odds_19 ic_1 ?_
      refine J_cSiN E (As := [.int (nI 1), .int 1]) (c_X5_isUpTo l G (nI 1) 1 ) cl_X5_56 yo_X5_isUpTo dX5_odds_20 rfl (Nat.le_of_ble_eq_true rfl) (Nat.le_of_ble_eq_true rfl) rfl (Nat.le_of_ble_eq_true rfl) ⟨Nat.zero_le _, Nat.zero_le _⟩ ?_
      refine J_if_ne E (tgt := 33) dX5_odds_23 (by decide) (fun c_23 => ?_) (fun c_23 => ?_)
      · skip
        have c_23 := bI_1 c_23
        refine J_bipush E dX5_odds_33 bp_100 ?_
        refine J_iload_n E dX5_odds_35 rfl 1 rfl ?_
        refine J_isub E dX5_odds_36 ?_
        refine J_top (x' := nI ab) (sub100 hv) ?_
        refine J_istore E (lv' := [(4, .int (nI ab)), (0, .ref (a 0)), (1, .int (nI v)), (2, .int (nI n)), (3, .int (nI 1))]) dX5_odds_37 (by decide) rfl ?_
        refine J_bipush E dX5_odds_39 bp_100 ?_
        refine J_istore E (lv' := [(5, .int 100), (4, .int (nI ab)), (0, .ref (a 0)), (1, .int (nI v)), (2, .int (nI n)), (3, .int (nI 1))]) dX5_odds_41 (by decide) rfl ?_
        have lp43 : ∀ (fu : Nat) (c : Nat), (1 ≤ c) → (c ≤ 100) → (comF ab 100 = comF ab c) → c < fu → J X G 11 0 0 (wC G a x) [(0, .ref (a 0)), (1, .int (nI v)), (2, .int (nI n)), (3, .int (nI 1)), (4, .int (nI ab)), (5, .int (nI c))] 43 [] := by
          intro fu
          induction fu with
          | zero => intro c h1 h2 h3 hm; exact absurd hm (Nat.not_lt_zero _)
          | succ fu ih43 =>
            intro c h1 h2 h3 hm
            refine J_iload E dX5_odds_43 5 rfl ?_
            refine J_iconst E dX5_odds_45 ic_1 ?_
            refine J_icmp_le E (tgt := 71) dX5_odds_46 (by decide) (fun c_46 => ?_) (fun c_46 => ?_)
            · skip
              have n_46 : c ≤ 1 := cmp_le (a := c) (b := 1) (by omega) (by omega) c_46
              have hc : comF ab 100 = c := by rw [h3, show c = 1 by omega]; exact comF_1 ab
              refine J_iload_n E dX5_odds_71 rfl 3 rfl ?_
              refine J_if_ne E (tgt := 80) dX5_odds_72 (by decide) (fun c_72 => ?_) (fun c_72 => ?_)
              · skip
                have n_72 : ¬ 1 = 0 := cmp_ne (a := 1) (b := 0) (by omega) (by omega) c_72
                refine J_bipush E dX5_odds_80 bp_100 ?_
                refine J_iload E dX5_odds_82 5 rfl ?_
                refine J_idiv E dX5_odds_84 (nIz (by omega) (by omega)) ?_
                refine J_i2l E dX5_odds_85 rfl ?_
                refine J_lstore E (lv' := [(6, .long (Int32.toInt64 (100 / (nI c)))), (0, .ref (a 0)), (1, .int (nI v)), (2, .int (nI n)), (3, .int (nI 1)), (4, .int (nI ab)), (5, .int (nI c))]) dX5_odds_86 (by decide) rfl ?_
                refine J_lconst E dX5_odds_88 lc_1 ?_
                refine J_lstore E (lv' := [(8, .long 1), (6, .long (Int32.toInt64 (100 / (nI c)))), (0, .ref (a 0)), (1, .int (nI v)), (2, .int (nI n)), (3, .int (nI 1)), (4, .int (nI ab)), (5, .int (nI c))]) dX5_odds_89 (by decide) rfl ?_
                refine J_iconst E dX5_odds_91 ic_0 ?_
                refine J_istore E (lv' := [(10, .int 0), (8, .long 1), (6, .long (Int32.toInt64 (100 / (nI c)))), (0, .ref (a 0)), (1, .int (nI v)), (2, .int (nI n)), (3, .int (nI 1)), (4, .int (nI ab)), (5, .int (nI c))]) dX5_odds_92 (by decide) rfl ?_
                have lp94 : ∀ (fu : Nat) (i : Nat) (p : Int64), (i ≤ n) → (p = powF (Int32.toInt64 (100 / nI c)) i) → n - i < fu → J X G 11 0 0 (wC G a x) [(0, .ref (a 0)), (1, .int (nI v)), (2, .int (nI n)), (3, .int (nI 1)), (4, .int (nI ab)), (5, .int (nI c)), (6, .long (Int32.toInt64 (100 / (nI c)))), (8, .long p), (10, .int (nI i))] 94 [] := by
                  intro fu
                  induction fu with
                  | zero => intro i p hi hp hm; exact absurd hm (Nat.not_lt_zero _)
                  | succ fu ih94 =>
                    intro i p hi hp hm
                    refine J_iload E dX5_odds_94 8 rfl ?_
                    refine J_iload_n E dX5_odds_96 rfl 2 rfl ?_
                    refine J_icmp_ge E (tgt := 113) dX5_odds_97 (by decide) (fun c_97 => ?_) (fun c_97 => ?_)
                    · skip
                      have n_97 : n ≤ i := cmp_le (a := n) (b := i) (by omega) (by omega) c_97
                      refine J_lload E dX5_odds_113 7 rfl ?_
                      exact ret _ _ _ _ ⟨by rw [hp, hc, show i = n by omega], _, rfl, by intro g h2 h6; simp [upG, up3, up3R, h2, h6]⟩ dX5_odds_115
                    · skip
                      have n_97 : ¬ n ≤ i := cmp_nle (a := n) (b := i) (by omega) (by omega) c_97
                      refine J_lload E dX5_odds_100 7 rfl ?_
                      refine J_lload E dX5_odds_102 6 rfl ?_
                      refine J_lmul E dX5_odds_104 ?_
                      refine J_lstore E (lv' := [(8, .long (p * (Int32.toInt64 (100 / (nI c))))), (0, .ref (a 0)), (1, .int (nI v)), (2, .int (nI n)), (3, .int (nI 1)), (4, .int (nI ab)), (5, .int (nI c)), (6, .long (Int32.toInt64 (100 / (nI c)))), (10, .int (nI i))]) dX5_odds_105 (by decide) rfl ?_
                      refine J_iinc E (lv' := [(10, .int (nI (i + 1))), (8, .long (p * (Int32.toInt64 (100 / (nI c))))), (0, .ref (a 0)), (1, .int (nI v)), (2, .int (nI n)), (3, .int (nI 1)), (4, .int (nI ab)), (5, .int (nI c)), (6, .long (Int32.toInt64 (100 / (nI c))))]) dX5_odds_107 8 rfl (nI_inc _) (by decide) rfl ?_
                      refine J_goto E (tgt := 94) dX5_odds_110 (by decide) ?_
                      refine J_lv [2, 3, 4, 5, 6, 7, 8, 1, 0] rfl ?_
                      exact ih94 (i + 1) (p * (Int32.toInt64 (100 / (nI c)))) (by omega) (by rw [hp]; rfl) (by omega)
                refine J_lv [3, 4, 5, 6, 7, 8, 2, 1, 0] rfl ?_
                exact lp94 _ 0 1 (by omega) rfl (Nat.lt_succ_self _)
              · skip
                have n_72 : 1 = 0 := cmp_eq (a := 1) (b := 0) (by omega) (by omega) c_72
                exact absurd n_72 (by decide)
            · skip
              have n_46 : ¬ c ≤ 1 := cmp_nle (a := c) (b := 1) (by omega) (by omega) c_46
              refine J_iload E dX5_odds_49 4 rfl ?_
              refine J_iload E dX5_odds_51 5 rfl ?_
              refine J_irem E dX5_odds_53 (nIz (by omega) (by omega)) ?_
              have hm54 : ab % c < c := Nat.mod_lt _ (by omega)
              refine J_top (x' := nI (ab % c)) (pk_rem (by omega) (by omega) (by omega)) ?_
              refine J_if_ne E (tgt := 65) dX5_odds_54 (by decide) (fun c_54 => ?_) (fun c_54 => ?_)
              · skip
                have n_54 : ¬ (ab % c) = 0 := cmp_ne (a := (ab % c)) (b := 0) (by omega) (by omega) c_54
                obtain ⟨y, rfl⟩ : ∃ y, c = y + 1 := ⟨c - 1, by omega⟩
                refine J_iinc E (lv' := [(5, .int (nI y)), (0, .ref (a 0)), (1, .int (nI v)), (2, .int (nI n)), (3, .int (nI 1)), (4, .int (nI ab))]) dX5_odds_65 5 rfl (nI_dec _) (by decide) rfl ?_
                refine J_goto E (tgt := 43) dX5_odds_68 (by decide) ?_
                refine J_lv [1, 2, 3, 4, 5, 0] rfl ?_
                exact ih43 y (by omega) (by omega) (by rw [h3, comF_n (by omega) (by omega)]) (by omega)
              · skip
                have n_54 : (ab % c) = 0 := cmp_eq (a := (ab % c)) (b := 0) (by omega) (by omega) c_54
                refine J_bipush E dX5_odds_57 bp_100 ?_
                refine J_iload E dX5_odds_59 5 rfl ?_
                refine J_irem E dX5_odds_61 (nIz (by omega) (by omega)) ?_
                have hm62 : 100 % c < c := Nat.mod_lt _ (by omega)
                refine J_top (x' := nI (100 % c)) (rem100 (by omega) (by omega)) ?_
                refine J_if_eq E (tgt := 71) dX5_odds_62 (by decide) (fun c_62 => ?_) (fun c_62 => ?_)
                · skip
                  have n_62 : (100 % c) = 0 := cmp_eq (a := (100 % c)) (b := 0) (by omega) (by omega) c_62
                  have hc : comF ab 100 = c := by rw [h3, show c = (c - 1) + 1 by omega]; exact comF_y (by omega) (by rw [show c - 1 + 1 = c by omega]; omega) (by rw [show c - 1 + 1 = c by omega]; omega)
                  refine J_iload_n E dX5_odds_71 rfl 3 rfl ?_
                  refine J_if_ne E (tgt := 80) dX5_odds_72 (by decide) (fun c_72 => ?_) (fun c_72 => ?_)
                  · skip
                    have n_72 : ¬ 1 = 0 := cmp_ne (a := 1) (b := 0) (by omega) (by omega) c_72
                    refine J_bipush E dX5_odds_80 bp_100 ?_
                    refine J_iload E dX5_odds_82 5 rfl ?_
                    refine J_idiv E dX5_odds_84 (nIz (by omega) (by omega)) ?_
                    refine J_i2l E dX5_odds_85 rfl ?_
                    refine J_lstore E (lv' := [(6, .long (Int32.toInt64 (100 / (nI c)))), (0, .ref (a 0)), (1, .int (nI v)), (2, .int (nI n)), (3, .int (nI 1)), (4, .int (nI ab)), (5, .int (nI c))]) dX5_odds_86 (by decide) rfl ?_
                    refine J_lconst E dX5_odds_88 lc_1 ?_
                    refine J_lstore E (lv' := [(8, .long 1), (6, .long (Int32.toInt64 (100 / (nI c)))), (0, .ref (a 0)), (1, .int (nI v)), (2, .int (nI n)), (3, .int (nI 1)), (4, .int (nI ab)), (5, .int (nI c))]) dX5_odds_89 (by decide) rfl ?_
                    refine J_iconst E dX5_odds_91 ic_0 ?_
                    refine J_istore E (lv' := [(10, .int 0), (8, .long 1), (6, .long (Int32.toInt64 (100 / (nI c)))), (0, .ref (a 0)), (1, .int (nI v)), (2, .int (nI n)), (3, .int (nI 1)), (4, .int (nI ab)), (5, .int (nI c))]) dX5_odds_92 (by decide) rfl ?_
                    have lp94 : ∀ (fu : Nat) (i : Nat) (p : Int64), (i ≤ n) → (p = powF (Int32.toInt64 (100 / nI c)) i) → n - i < fu → J X G 11 0 0 (wC G a x) [(0, .ref (a 0)), (1, .int (nI v)), (2, .int (nI n)), (3, .int (nI 1)), (4, .int (nI ab)), (5, .int (nI c)), (6, .long (Int32.toInt64 (100 / (nI c)))), (8, .long p), (10, .int (nI i))] 94 [] := by
                      intro fu
                      induction fu with
                      | zero => intro i p hi hp hm; exact absurd hm (Nat.not_lt_zero _)
                      | succ fu ih94 =>
                        intro i p hi hp hm
                        refine J_iload E dX5_odds_94 8 rfl ?_
                        refine J_iload_n E dX5_odds_96 rfl 2 rfl ?_
                        refine J_icmp_ge E (tgt := 113) dX5_odds_97 (by decide) (fun c_97 => ?_) (fun c_97 => ?_)
                        · skip
                          have n_97 : n ≤ i := cmp_le (a := n) (b := i) (by omega) (by omega) c_97
                          refine J_lload E dX5_odds_113 7 rfl ?_
                          exact ret _ _ _ _ ⟨by rw [hp, hc, show i = n by omega], _, rfl, by intro g h2 h6; simp [upG, up3, up3R, h2, h6]⟩ dX5_odds_115
                        · skip
                          have n_97 : ¬ n ≤ i := cmp_nle (a := n) (b := i) (by omega) (by omega) c_97
                          refine J_lload E dX5_odds_100 7 rfl ?_
                          refine J_lload E dX5_odds_102 6 rfl ?_
                          refine J_lmul E dX5_odds_104 ?_
                          refine J_lstore E (lv' := [(8, .long (p * (Int32.toInt64 (100 / (nI c))))), (0, .ref (a 0)), (1, .int (nI v)), (2, .int (nI n)), (3, .int (nI 1)), (4, .int (nI ab)), (5, .int (nI c)), (6, .long (Int32.toInt64 (100 / (nI c)))), (10, .int (nI i))]) dX5_odds_105 (by decide) rfl ?_
                          refine J_iinc E (lv' := [(10, .int (nI (i + 1))), (8, .long (p * (Int32.toInt64 (100 / (nI c))))), (0, .ref (a 0)), (1, .int (nI v)), (2, .int (nI n)), (3, .int (nI 1)), (4, .int (nI ab)), (5, .int (nI c)), (6, .long (Int32.toInt64 (100 / (nI c))))]) dX5_odds_107 8 rfl (nI_inc _) (by decide) rfl ?_
                          refine J_goto E (tgt := 94) dX5_odds_110 (by decide) ?_
                          refine J_lv [2, 3, 4, 5, 6, 7, 8, 1, 0] rfl ?_
                          exact ih94 (i + 1) (p * (Int32.toInt64 (100 / (nI c)))) (by omega) (by rw [hp]; rfl) (by omega)
                    refine J_lv [3, 4, 5, 6, 7, 8, 2, 1, 0] rfl ?_
                    exact lp94 _ 0 1 (by omega) rfl (Nat.lt_succ_self _)
                  · skip
                    have n_72 : 1 = 0 := cmp_eq (a := 1) (b := 0) (by omega) (by omega) c_72
                    exact absurd n_72 (by decide)
                · skip
                  have n_62 : ¬ (100 % c) = 0 := cmp_ne (a := (100 % c)) (b := 0) (by omega) (by omega) c_62
                  obtain ⟨y, rfl⟩ : ∃ y, c = y + 1 := ⟨c - 1, by omega⟩
                  refine J_iinc E (lv' := [(5, .int (nI y)), (0, .ref (a 0)), (1, .int (nI v)), (2, .int (nI n)), (3, .int (nI 1)), (4, .int (nI ab))]) dX5_odds_65 5 rfl (nI_dec _) (by decide) rfl ?_
                  refine J_goto E (tgt := 43) dX5_odds_68 (by decide) ?_
                  refine J_lv [1, 2, 3, 4, 5, 0] rfl ?_
                  exact ih43 y (by omega) (by omega) (by rw [h3, comF_n (by omega) (by omega)]) (by omega)
        refine J_lv [2, 3, 4, 5, 1, 0] rfl ?_
        exact lp43 _ 100 (by decide) (by decide) rfl (Nat.lt_succ_self _)
      · skip
        have c_23 := bI_0 c_23
        exact absurd (inB (a := 1) (b := 1) (by omega) (by decide)) c_23

set_option maxHeartbeats 4000000 in
set_option maxRecDepth 20000 in
theorem c_X5_feed_bad (l : Launch) (G : GB) (a : Nat → Nat) (x : Q3) (b n : Int32) (hb : ¬ (1 ≤ n ∧ n ≤ 4)) : CI l yX5_feed cX5_feed 4 .int 1 21 G [.ref (a 0), .int b, .int n] (wC G a x) (fun vR w' => vR = tellR 0 ∧ PubC G a (tellX x 0) w') := by
  refine CI.mk (own := RX5) (by decide) rfl (Nat.le_of_ble_eq_true rfl) ?_
  intro X E ret
  show J X G 4 0 0 (wC G a x) [(0, .ref (a 0)), (1, .int b), (2, .int n)] 0 []
  refine J_iload_n E dX5_feed_0 rfl 2 rfl ?_
  refine J_iconst E dX5_feed_1 ic_1 ?_
  refine J_icmp_lt E (tgt := 10) dX5_feed_2 (by decide) (fun c_2 => ?_) (fun c_2 => ?_)
  · skip
    refine J_aload_n E dX5_feed_10 rfl 0 rfl ?_
    refine J_iconst E dX5_feed_11 ic_0 ?_
    refine J_cVi0 E (As := [.int 0]) (c_X5_tell l G a x 0 (by omega)) cl_X5_64 yo_X5_tell dX5_feed_12 rfl rfl rfl (Nat.le_of_ble_eq_true rfl) (Nat.le_of_ble_eq_true rfl) rfl (Nat.le_of_ble_eq_true rfl) ⟨Nat.zero_le _, Nat.zero_le _⟩ ?_
    exact ret _ _ _ _ ⟨rfl, _, rfl, by intro g h2 h6; simp [upG, up3, up3R, h2, h6]⟩ rfl dX5_feed_15
  · skip
    refine J_iload_n E dX5_feed_5 rfl 2 rfl ?_
    refine J_iconst E dX5_feed_6 ic_4 ?_
    refine J_icmp_le E (tgt := 16) dX5_feed_7 (by decide) (fun c_7 => ?_) (fun c_7 => ?_)
    · skip
      exact absurd ⟨Int32.not_lt.mp c_2, c_7⟩ hb
    · skip
      refine J_aload_n E dX5_feed_10 rfl 0 rfl ?_
      refine J_iconst E dX5_feed_11 ic_0 ?_
      refine J_cVi0 E (As := [.int 0]) (c_X5_tell l G a x 0 (by omega)) cl_X5_64 yo_X5_tell dX5_feed_12 rfl rfl rfl (Nat.le_of_ble_eq_true rfl) (Nat.le_of_ble_eq_true rfl) rfl (Nat.le_of_ble_eq_true rfl) ⟨Nat.zero_le _, Nat.zero_le _⟩ ?_
      exact ret _ _ _ _ ⟨rfl, _, rfl, by intro g h2 h6; simp [upG, up3, up3R, h2, h6]⟩ rfl dX5_feed_15

set_option maxHeartbeats 4000000 in
set_option maxRecDepth 20000 in
theorem c_X5_feed_full (l : Launch) (G : GB) (a : Nat → Nat) (x : Q3) (b : Int32) (n k : Nat) (h1 : 1 ≤ n) (h2 : n ≤ 4) (hk : x 7 1 0 = nI k) (hk2 : k ≤ 120) (hf : 120 < k + n) : CI l yX5_feed cX5_feed 4 .int 1 21 G [.ref (a 0), .int b, .int (nI n)] (wC G a x) (fun vR w' => vR = tellR 1 ∧ PubC G a (tellX x 1) w') := by
  refine CI.mk (own := RX5) (by decide) rfl (Nat.le_of_ble_eq_true rfl) ?_
  intro X E ret
  show J X G 4 0 0 (wC G a x) [(0, .ref (a 0)), (1, .int b), (2, .int (nI n))] 0 []
  refine J_iload_n E dX5_feed_0 rfl 2 rfl ?_
  refine J_iconst E dX5_feed_1 ic_1 ?_
  refine J_icmp_lt E (tgt := 10) dX5_feed_2 (by decide) (fun c_2 => ?_) (fun c_2 => ?_)
  · skip
    have n_2 : n < 1 := cmp_lt (a := n) (b := 1) (by omega) (by omega) c_2
    exact absurd n_2 (by omega)
  · skip
    have n_2 : ¬ n < 1 := cmp_nlt (a := n) (b := 1) (by omega) (by omega) c_2
    refine J_iload_n E dX5_feed_5 rfl 2 rfl ?_
    refine J_iconst E dX5_feed_6 ic_4 ?_
    refine J_icmp_le E (tgt := 16) dX5_feed_7 (by decide) (fun c_7 => ?_) (fun c_7 => ?_)
    · skip
      have n_7 : n ≤ 4 := cmp_le (a := n) (b := 4) (by omega) (by omega) c_7
      refine J_aload_n E dX5_feed_16 rfl 0 rfl ?_
      refine gC0_X5_29 E dX5_feed_17 ?_
      refine gC27_X5_183 E dX5_feed_20 ?_
      refine J_top (x' := nI k) (hk) ?_
      refine J_iload_n E dX5_feed_23 rfl 2 rfl ?_
      refine J_iadd E dX5_feed_24 ?_
      refine J_top (x' := nI (k + n)) (nI_add _ _) ?_
      refine J_bipush E dX5_feed_25 bp_120 ?_
      refine J_icmp_le E (tgt := 36) dX5_feed_27 (by decide) (fun c_27 => ?_) (fun c_27 => ?_)
      · skip
        have n_27 : (k + n) ≤ 120 := cmp_le (a := (k + n)) (b := 120) (by omega) (by omega) c_27
        exact absurd n_27 (by omega)
      · skip
        have n_27 : ¬ (k + n) ≤ 120 := cmp_nle (a := (k + n)) (b := 120) (by omega) (by omega) c_27
        refine J_aload_n E dX5_feed_30 rfl 0 rfl ?_
        refine J_iconst E dX5_feed_31 ic_1 ?_
        refine J_cVi0 E (As := [.int 1]) (c_X5_tell l G a x 1 (by omega)) cl_X5_64 yo_X5_tell dX5_feed_32 rfl rfl rfl (Nat.le_of_ble_eq_true rfl) (Nat.le_of_ble_eq_true rfl) rfl (Nat.le_of_ble_eq_true rfl) ⟨Nat.zero_le _, Nat.zero_le _⟩ ?_
        exact ret _ _ _ _ ⟨rfl, _, rfl, by intro g h2 h6; simp [upG, up3, up3R, h2, h6]⟩ rfl dX5_feed_35
    · skip
      have n_7 : ¬ n ≤ 4 := cmp_nle (a := n) (b := 4) (by omega) (by omega) c_7
      exact absurd h2 n_7

set_option maxHeartbeats 4000000 in
set_option maxRecDepth 20000 in
theorem c_X5_feed_ok (l : Launch) (G : GB) (a : Nat → Nat) (x : Q3) (b : Int32) (n k : Nat) (h1 : 1 ≤ n) (h2 : n ≤ 4) (hk : x 7 1 0 = nI k) (hk2 : k ≤ 120) (hf : k + n ≤ 120) : CI l yX5_feed cX5_feed 4 .int 1 21 G [.ref (a 0), .int b, .int (nI n)] (wC G a x) (fun vR w' => vR = feedT (x 7) b n 1 0 ∧ PubC G a (upG x 7 (feedT (x 7) b n)) w') := by
  refine CI.mk (own := RX5) (by decide) rfl (Nat.le_of_ble_eq_true rfl) ?_
  intro X E ret
  show J X G 4 0 0 (wC G a x) [(0, .ref (a 0)), (1, .int b), (2, .int (nI n))] 0 []
  refine J_iload_n E dX5_feed_0 rfl 2 rfl ?_
  refine J_iconst E dX5_feed_1 ic_1 ?_
  refine J_icmp_lt E (tgt := 10) dX5_feed_2 (by decide) (fun c_2 => ?_) (fun c_2 => ?_)
  · skip
    have n_2 : n < 1 := cmp_lt (a := n) (b := 1) (by omega) (by omega) c_2
    exact absurd n_2 (by omega)
  · skip
    have n_2 : ¬ n < 1 := cmp_nlt (a := n) (b := 1) (by omega) (by omega) c_2
    refine J_iload_n E dX5_feed_5 rfl 2 rfl ?_
    refine J_iconst E dX5_feed_6 ic_4 ?_
    refine J_icmp_le E (tgt := 16) dX5_feed_7 (by decide) (fun c_7 => ?_) (fun c_7 => ?_)
    · skip
      have n_7 : n ≤ 4 := cmp_le (a := n) (b := 4) (by omega) (by omega) c_7
      refine J_aload_n E dX5_feed_16 rfl 0 rfl ?_
      refine gC0_X5_29 E dX5_feed_17 ?_
      refine gC27_X5_183 E dX5_feed_20 ?_
      refine J_top (x' := nI k) (hk) ?_
      refine J_iload_n E dX5_feed_23 rfl 2 rfl ?_
      refine J_iadd E dX5_feed_24 ?_
      refine J_top (x' := nI (k + n)) (nI_add _ _) ?_
      refine J_bipush E dX5_feed_25 bp_120 ?_
      refine J_icmp_le E (tgt := 36) dX5_feed_27 (by decide) (fun c_27 => ?_) (fun c_27 => ?_)
      · skip
        have n_27 : (k + n) ≤ 120 := cmp_le (a := (k + n)) (b := 120) (by omega) (by omega) c_27
        refine J_iload_n E dX5_feed_36 rfl 2 rfl ?_
        refine J_iconst E dX5_feed_37 ic_1 ?_
        refine J_isub E dX5_feed_38 ?_
        refine J_top (x' := nI n + (-1)) (sub1m) ?_
        refine J_istore_n E (lv' := [(3, .int (nI n + (-1))), (0, .ref (a 0)), (1, .int b), (2, .int (nI n))]) dX5_feed_39 rfl (by decide) rfl ?_
        refine J_w (ws' := wC G a (upG x 7 (x 7))) (congrArg (wC G a) upG_id.symm) ?_
        have lp40 : ∀ (fu : Nat) (i : Nat) (xh : Int32) (r : Q2), (xh = nI i + (-1)) → (i ≤ n) → (feedT (x 7) b n = feedT r b i) → (r 1 0 = nI (k + (n - i))) → i < fu → J X G 4 0 0 (wC G a (upG x 7 r)) [(0, .ref (a 0)), (1, .int b), (2, .int (nI n)), (3, .int xh)] 40 [] := by
          intro fu
          induction fu with
          | zero => intro i xh r hxh hi h3 h4 hm; exact absurd hm (Nat.not_lt_zero _)
          | succ fu ih40 =>
            intro i xh r hxh hi h3 h4 hm
            refine J_iload_n E dX5_feed_40 rfl 3 rfl ?_
            refine J_if_lt E (tgt := 67) dX5_feed_41 (by decide) (fun c_41 => ?_) (fun c_41 => ?_)
            · skip
              have hi0 := dec_neg hxh (by omega) c_41
              refine J_aload_n E dX5_feed_67 rfl 0 rfl ?_
              refine gC0_X5_29 E dX5_feed_68 ?_
              refine gC27_X5_183 E dX5_feed_71 ?_
              refine J_top (x' := r 1 0) upG_s ?_
              exact ret _ _ _ _ ⟨by rw [h3, hi0]; rfl, _, rfl, by rw [h3, hi0]; exact ShC.rfl'⟩ rfl dX5_feed_74
            · skip
              obtain ⟨y, rfl, rfl⟩ := dec_pos hxh (by omega) c_41
              refine J_aload_n E dX5_feed_44 rfl 0 rfl ?_
              refine gC0_X5_29 E dX5_feed_45 ?_
              refine J_iload_n E dX5_feed_48 rfl 1 rfl ?_
              refine J_bipush E dX5_feed_49 bp_8 ?_
              refine J_iload_n E dX5_feed_51 rfl 3 rfl ?_
              refine J_imul E dX5_feed_52 ?_
              refine J_top (x' := nI (8 * y)) (mul8 y) ?_
              refine J_ishr E dX5_feed_53 ?_
              refine J_sipush E dX5_feed_54 sp_255 ?_
              refine J_iand E dX5_feed_57 ?_
              refine J_sv7 E (As := [.int ((b >>> ((nI (8 * y)) &&& 31)) &&& 255)]) (c_X3_add l G (sh a 27) r _ ((b >>> ((nI (8 * y)) &&& 31)) &&& 255) h4 (by omega)) cl_X5_186 yo_X3_add dX5_feed_58 rfl (Nat.le_of_ble_eq_true rfl) (Nat.le_of_ble_eq_true rfl) rfl (Nat.le_of_ble_eq_true rfl) ⟨Nat.zero_le _, Nat.zero_le _⟩ ?_
              refine J_iinc E (lv' := [(3, .int ((nI y) + (-1))), (0, .ref (a 0)), (1, .int b), (2, .int (nI n))]) dX5_feed_61 3 rfl (i_dec _) (by decide) rfl ?_
              refine J_goto E (tgt := 40) dX5_feed_64 (by decide) ?_
              refine J_lv [1, 2, 3, 0] rfl ?_
              exact ih40 y ((nI y) + (-1)) (addT r ((b >>> ((nI (8 * y)) &&& 31)) &&& 255)) rfl (by omega) (by rw [h3]; rfl) (by rw [addT_sz h4, show k + (n - (y + 1)) + 1 = k + (n - y) by omega]) (by omega)
        refine J_lv [1, 2, 3, 0] rfl ?_
        exact lp40 _ n (nI n + (-1)) (x 7) rfl (by omega) rfl (by rw [Nat.sub_self]; exact hk) (Nat.lt_succ_self _)
      · skip
        have n_27 : ¬ (k + n) ≤ 120 := cmp_nle (a := (k + n)) (b := 120) (by omega) (by omega) c_27
        exact absurd hf n_27
    · skip
      have n_7 : ¬ n ≤ 4 := cmp_nle (a := n) (b := 4) (by omega) (by omega) c_7
      exact absurd h2 n_7

set_option maxHeartbeats 4000000 in
set_option maxRecDepth 20000 in
theorem c_X5_sheet_bad (l : Launch) (G : GB) (a : Nat → Nat) (x : Q3) (s b n : Int32) (hb : ¬ ((0 ≤ s ∧ s ≤ 3) ∧ (b = 0 ∨ b = 8 ∨ b = 16 ∨ b = 32))) : CI l yX5_sheet cX5_sheet 4 .int 2 41 G [.ref (a 0), .int s, .int b, .int n] (wC G a x) (fun vR w' => vR = tellR 0 ∧ PubC G a (tellX x 0) w') := by
  refine CI.mk (own := RX5) (by decide) rfl (Nat.le_of_ble_eq_true rfl) ?_
  intro X E ret
  show J X G 4 0 0 (wC G a x) [(0, .ref (a 0)), (1, .int s), (2, .int b), (3, .int n)] 0 []
  refine J_iload_n E dX5_sheet_0 rfl 1 rfl ?_
  refine J_cSiN E (As := [.int s]) (c_X5_isSheet l G s ) cl_X5_202 yo_X5_isSheet dX5_sheet_1 rfl (Nat.le_of_ble_eq_true rfl) (Nat.le_of_ble_eq_true rfl) rfl (Nat.le_of_ble_eq_true rfl) ⟨Nat.zero_le _, Nat.zero_le _⟩ ?_
  refine J_if_eq E (tgt := 29) dX5_sheet_4 (by decide) (fun c_4 => ?_) (fun c_4 => ?_)
  · skip
    have c_4 := bI_0 c_4
    refine J_aload_n E dX5_sheet_29 rfl 0 rfl ?_
    refine J_iconst E dX5_sheet_30 ic_0 ?_
    refine J_cVi0 E (As := [.int 0]) (c_X5_tell l G a x 0 (by omega)) cl_X5_64 yo_X5_tell dX5_sheet_31 rfl rfl rfl (Nat.le_of_ble_eq_true rfl) (Nat.le_of_ble_eq_true rfl) rfl (Nat.le_of_ble_eq_true rfl) ⟨Nat.zero_le _, Nat.zero_le _⟩ ?_
    exact ret _ _ _ _ ⟨rfl, _, rfl, by intro g h2 h6; simp [upG, up3, up3R, h2, h6]⟩ rfl dX5_sheet_34
  · skip
    have c_4 := bI_1 c_4
    refine J_iload_n E dX5_sheet_7 rfl 2 rfl ?_
    refine J_if_eq E (tgt := 35) dX5_sheet_8 (by decide) (fun c_8 => ?_) (fun c_8 => ?_)
    · skip
      have hw : (b = 0 ∨ b = 8 ∨ b = 16 ∨ b = 32) := Or.inl c_8
      exact absurd ⟨c_4, hw⟩ hb
    · skip
      refine J_iload_n E dX5_sheet_11 rfl 2 rfl ?_
      refine J_bipush E dX5_sheet_12 bp_8 ?_
      refine J_icmp_eq E (tgt := 35) dX5_sheet_14 (by decide) (fun c_14 => ?_) (fun c_14 => ?_)
      · skip
        have hw : (b = 0 ∨ b = 8 ∨ b = 16 ∨ b = 32) := Or.inr (Or.inl c_14)
        exact absurd ⟨c_4, hw⟩ hb
      · skip
        refine J_iload_n E dX5_sheet_17 rfl 2 rfl ?_
        refine J_bipush E dX5_sheet_18 bp_16 ?_
        refine J_icmp_eq E (tgt := 35) dX5_sheet_20 (by decide) (fun c_20 => ?_) (fun c_20 => ?_)
        · skip
          have hw : (b = 0 ∨ b = 8 ∨ b = 16 ∨ b = 32) := Or.inr (Or.inr (Or.inl c_20))
          exact absurd ⟨c_4, hw⟩ hb
        · skip
          refine J_iload_n E dX5_sheet_23 rfl 2 rfl ?_
          refine J_bipush E dX5_sheet_24 bp_32 ?_
          refine J_icmp_eq E (tgt := 35) dX5_sheet_26 (by decide) (fun c_26 => ?_) (fun c_26 => ?_)
          · skip
            have hw : (b = 0 ∨ b = 8 ∨ b = 16 ∨ b = 32) := Or.inr (Or.inr (Or.inr c_26))
            exact absurd ⟨c_4, hw⟩ hb
          · skip
            refine J_aload_n E dX5_sheet_29 rfl 0 rfl ?_
            refine J_iconst E dX5_sheet_30 ic_0 ?_
            refine J_cVi0 E (As := [.int 0]) (c_X5_tell l G a x 0 (by omega)) cl_X5_64 yo_X5_tell dX5_sheet_31 rfl rfl rfl (Nat.le_of_ble_eq_true rfl) (Nat.le_of_ble_eq_true rfl) rfl (Nat.le_of_ble_eq_true rfl) ⟨Nat.zero_le _, Nat.zero_le _⟩ ?_
            exact ret _ _ _ _ ⟨rfl, _, rfl, by intro g h2 h6; simp [upG, up3, up3R, h2, h6]⟩ rfl dX5_sheet_34

set_option maxHeartbeats 4000000 in
set_option maxRecDepth 20000 in
theorem c_X5_sheet_size (l : Launch) (G : GB) (a : Nat → Nat) (x : Q3) (s b n : Int32) (hs : 0 ≤ s ∧ s ≤ 3) (hbt : (b = 0 ∨ b = 8 ∨ b = 16 ∨ b = 32)) (hn : n < 0) : CI l yX5_sheet cX5_sheet 4 .int 2 41 G [.ref (a 0), .int s, .int b, .int n] (wC G a x) (fun vR w' => vR = tellR 6 ∧ PubC G a (tellX x 6) w') := by
  refine CI.mk (own := RX5) (by decide) rfl (Nat.le_of_ble_eq_true rfl) ?_
  intro X E ret
  show J X G 4 0 0 (wC G a x) [(0, .ref (a 0)), (1, .int s), (2, .int b), (3, .int n)] 0 []
  refine J_iload_n E dX5_sheet_0 rfl 1 rfl ?_
  refine J_cSiN E (As := [.int s]) (c_X5_isSheet l G s ) cl_X5_202 yo_X5_isSheet dX5_sheet_1 rfl (Nat.le_of_ble_eq_true rfl) (Nat.le_of_ble_eq_true rfl) rfl (Nat.le_of_ble_eq_true rfl) ⟨Nat.zero_le _, Nat.zero_le _⟩ ?_
  refine J_if_eq E (tgt := 29) dX5_sheet_4 (by decide) (fun c_4 => ?_) (fun c_4 => ?_)
  · skip
    have c_4 := bI_0 c_4
    exact absurd hs c_4
  · skip
    have c_4 := bI_1 c_4
    refine J_iload_n E dX5_sheet_7 rfl 2 rfl ?_
    refine J_if_eq E (tgt := 35) dX5_sheet_8 (by decide) (fun c_8 => ?_) (fun c_8 => ?_)
    · skip
      refine J_iload_n E dX5_sheet_35 rfl 3 rfl ?_
      refine J_if_ge E (tgt := 46) dX5_sheet_36 (by decide) (fun c_36 => ?_) (fun c_36 => ?_)
      · skip
        exact absurd hn (Int32.not_lt.mpr c_36)
      · skip
        refine J_aload_n E dX5_sheet_39 rfl 0 rfl ?_
        refine J_bipush E dX5_sheet_40 bp_6 ?_
        refine J_cVi0 E (As := [.int 6]) (c_X5_tell l G a x 6 (by omega)) cl_X5_64 yo_X5_tell dX5_sheet_42 rfl rfl rfl (Nat.le_of_ble_eq_true rfl) (Nat.le_of_ble_eq_true rfl) rfl (Nat.le_of_ble_eq_true rfl) ⟨Nat.zero_le _, Nat.zero_le _⟩ ?_
        exact ret _ _ _ _ ⟨rfl, _, rfl, by intro g h2 h6; simp [upG, up3, up3R, h2, h6]⟩ rfl dX5_sheet_45
    · skip
      refine J_iload_n E dX5_sheet_11 rfl 2 rfl ?_
      refine J_bipush E dX5_sheet_12 bp_8 ?_
      refine J_icmp_eq E (tgt := 35) dX5_sheet_14 (by decide) (fun c_14 => ?_) (fun c_14 => ?_)
      · skip
        refine J_iload_n E dX5_sheet_35 rfl 3 rfl ?_
        refine J_if_ge E (tgt := 46) dX5_sheet_36 (by decide) (fun c_36 => ?_) (fun c_36 => ?_)
        · skip
          exact absurd hn (Int32.not_lt.mpr c_36)
        · skip
          refine J_aload_n E dX5_sheet_39 rfl 0 rfl ?_
          refine J_bipush E dX5_sheet_40 bp_6 ?_
          refine J_cVi0 E (As := [.int 6]) (c_X5_tell l G a x 6 (by omega)) cl_X5_64 yo_X5_tell dX5_sheet_42 rfl rfl rfl (Nat.le_of_ble_eq_true rfl) (Nat.le_of_ble_eq_true rfl) rfl (Nat.le_of_ble_eq_true rfl) ⟨Nat.zero_le _, Nat.zero_le _⟩ ?_
          exact ret _ _ _ _ ⟨rfl, _, rfl, by intro g h2 h6; simp [upG, up3, up3R, h2, h6]⟩ rfl dX5_sheet_45
      · skip
        refine J_iload_n E dX5_sheet_17 rfl 2 rfl ?_
        refine J_bipush E dX5_sheet_18 bp_16 ?_
        refine J_icmp_eq E (tgt := 35) dX5_sheet_20 (by decide) (fun c_20 => ?_) (fun c_20 => ?_)
        · skip
          refine J_iload_n E dX5_sheet_35 rfl 3 rfl ?_
          refine J_if_ge E (tgt := 46) dX5_sheet_36 (by decide) (fun c_36 => ?_) (fun c_36 => ?_)
          · skip
            exact absurd hn (Int32.not_lt.mpr c_36)
          · skip
            refine J_aload_n E dX5_sheet_39 rfl 0 rfl ?_
            refine J_bipush E dX5_sheet_40 bp_6 ?_
            refine J_cVi0 E (As := [.int 6]) (c_X5_tell l G a x 6 (by omega)) cl_X5_64 yo_X5_tell dX5_sheet_42 rfl rfl rfl (Nat.le_of_ble_eq_true rfl) (Nat.le_of_ble_eq_true rfl) rfl (Nat.le_of_ble_eq_true rfl) ⟨Nat.zero_le _, Nat.zero_le _⟩ ?_
            exact ret _ _ _ _ ⟨rfl, _, rfl, by intro g h2 h6; simp [upG, up3, up3R, h2, h6]⟩ rfl dX5_sheet_45
        · skip
          refine J_iload_n E dX5_sheet_23 rfl 2 rfl ?_
          refine J_bipush E dX5_sheet_24 bp_32 ?_
          refine J_icmp_eq E (tgt := 35) dX5_sheet_26 (by decide) (fun c_26 => ?_) (fun c_26 => ?_)
          · skip
            refine J_iload_n E dX5_sheet_35 rfl 3 rfl ?_
            refine J_if_ge E (tgt := 46) dX5_sheet_36 (by decide) (fun c_36 => ?_) (fun c_36 => ?_)
            · skip
              exact absurd hn (Int32.not_lt.mpr c_36)
            · skip
              refine J_aload_n E dX5_sheet_39 rfl 0 rfl ?_
              refine J_bipush E dX5_sheet_40 bp_6 ?_
              refine J_cVi0 E (As := [.int 6]) (c_X5_tell l G a x 6 (by omega)) cl_X5_64 yo_X5_tell dX5_sheet_42 rfl rfl rfl (Nat.le_of_ble_eq_true rfl) (Nat.le_of_ble_eq_true rfl) rfl (Nat.le_of_ble_eq_true rfl) ⟨Nat.zero_le _, Nat.zero_le _⟩ ?_
              exact ret _ _ _ _ ⟨rfl, _, rfl, by intro g h2 h6; simp [upG, up3, up3R, h2, h6]⟩ rfl dX5_sheet_45
          · skip
            exact absurd hbt (fun z => z.elim c_8 (fun z => z.elim c_14 (fun z => z.elim c_20 c_26)))

set_option maxHeartbeats 4000000 in
set_option maxRecDepth 20000 in
theorem c_X5_sheet_big (l : Launch) (G : GB) (a : Nat → Nat) (x : Q3) (s b n : Int32) (hs : 0 ≤ s ∧ s ≤ 3) (hbt : (b = 0 ∨ b = 8 ∨ b = 16 ∨ b = 32)) (hn : ¬ n < 0) (hn2 : ¬ n ≤ 40) : CI l yX5_sheet cX5_sheet 4 .int 2 41 G [.ref (a 0), .int s, .int b, .int n] (wC G a x) (fun vR w' => vR = tellR 0 ∧ PubC G a (tellX x 0) w') := by
  refine CI.mk (own := RX5) (by decide) rfl (Nat.le_of_ble_eq_true rfl) ?_
  intro X E ret
  show J X G 4 0 0 (wC G a x) [(0, .ref (a 0)), (1, .int s), (2, .int b), (3, .int n)] 0 []
  refine J_iload_n E dX5_sheet_0 rfl 1 rfl ?_
  refine J_cSiN E (As := [.int s]) (c_X5_isSheet l G s ) cl_X5_202 yo_X5_isSheet dX5_sheet_1 rfl (Nat.le_of_ble_eq_true rfl) (Nat.le_of_ble_eq_true rfl) rfl (Nat.le_of_ble_eq_true rfl) ⟨Nat.zero_le _, Nat.zero_le _⟩ ?_
  refine J_if_eq E (tgt := 29) dX5_sheet_4 (by decide) (fun c_4 => ?_) (fun c_4 => ?_)
  · skip
    have c_4 := bI_0 c_4
    exact absurd hs c_4
  · skip
    have c_4 := bI_1 c_4
    refine J_iload_n E dX5_sheet_7 rfl 2 rfl ?_
    refine J_if_eq E (tgt := 35) dX5_sheet_8 (by decide) (fun c_8 => ?_) (fun c_8 => ?_)
    · skip
      refine J_iload_n E dX5_sheet_35 rfl 3 rfl ?_
      refine J_if_ge E (tgt := 46) dX5_sheet_36 (by decide) (fun c_36 => ?_) (fun c_36 => ?_)
      · skip
        refine J_iload_n E dX5_sheet_46 rfl 3 rfl ?_
        refine J_bipush E dX5_sheet_47 bp_40 ?_
        refine J_icmp_le E (tgt := 58) dX5_sheet_49 (by decide) (fun c_49 => ?_) (fun c_49 => ?_)
        · skip
          exact absurd c_49 hn2
        · skip
          refine J_aload_n E dX5_sheet_52 rfl 0 rfl ?_
          refine J_iconst E dX5_sheet_53 ic_0 ?_
          refine J_cVi0 E (As := [.int 0]) (c_X5_tell l G a x 0 (by omega)) cl_X5_64 yo_X5_tell dX5_sheet_54 rfl rfl rfl (Nat.le_of_ble_eq_true rfl) (Nat.le_of_ble_eq_true rfl) rfl (Nat.le_of_ble_eq_true rfl) ⟨Nat.zero_le _, Nat.zero_le _⟩ ?_
          exact ret _ _ _ _ ⟨rfl, _, rfl, by intro g h2 h6; simp [upG, up3, up3R, h2, h6]⟩ rfl dX5_sheet_57
      · skip
        exact absurd (Int32.not_le.mp c_36) hn
    · skip
      refine J_iload_n E dX5_sheet_11 rfl 2 rfl ?_
      refine J_bipush E dX5_sheet_12 bp_8 ?_
      refine J_icmp_eq E (tgt := 35) dX5_sheet_14 (by decide) (fun c_14 => ?_) (fun c_14 => ?_)
      · skip
        refine J_iload_n E dX5_sheet_35 rfl 3 rfl ?_
        refine J_if_ge E (tgt := 46) dX5_sheet_36 (by decide) (fun c_36 => ?_) (fun c_36 => ?_)
        · skip
          refine J_iload_n E dX5_sheet_46 rfl 3 rfl ?_
          refine J_bipush E dX5_sheet_47 bp_40 ?_
          refine J_icmp_le E (tgt := 58) dX5_sheet_49 (by decide) (fun c_49 => ?_) (fun c_49 => ?_)
          · skip
            exact absurd c_49 hn2
          · skip
            refine J_aload_n E dX5_sheet_52 rfl 0 rfl ?_
            refine J_iconst E dX5_sheet_53 ic_0 ?_
            refine J_cVi0 E (As := [.int 0]) (c_X5_tell l G a x 0 (by omega)) cl_X5_64 yo_X5_tell dX5_sheet_54 rfl rfl rfl (Nat.le_of_ble_eq_true rfl) (Nat.le_of_ble_eq_true rfl) rfl (Nat.le_of_ble_eq_true rfl) ⟨Nat.zero_le _, Nat.zero_le _⟩ ?_
            exact ret _ _ _ _ ⟨rfl, _, rfl, by intro g h2 h6; simp [upG, up3, up3R, h2, h6]⟩ rfl dX5_sheet_57
        · skip
          exact absurd (Int32.not_le.mp c_36) hn
      · skip
        refine J_iload_n E dX5_sheet_17 rfl 2 rfl ?_
        refine J_bipush E dX5_sheet_18 bp_16 ?_
        refine J_icmp_eq E (tgt := 35) dX5_sheet_20 (by decide) (fun c_20 => ?_) (fun c_20 => ?_)
        · skip
          refine J_iload_n E dX5_sheet_35 rfl 3 rfl ?_
          refine J_if_ge E (tgt := 46) dX5_sheet_36 (by decide) (fun c_36 => ?_) (fun c_36 => ?_)
          · skip
            refine J_iload_n E dX5_sheet_46 rfl 3 rfl ?_
            refine J_bipush E dX5_sheet_47 bp_40 ?_
            refine J_icmp_le E (tgt := 58) dX5_sheet_49 (by decide) (fun c_49 => ?_) (fun c_49 => ?_)
            · skip
              exact absurd c_49 hn2
            · skip
              refine J_aload_n E dX5_sheet_52 rfl 0 rfl ?_
              refine J_iconst E dX5_sheet_53 ic_0 ?_
              refine J_cVi0 E (As := [.int 0]) (c_X5_tell l G a x 0 (by omega)) cl_X5_64 yo_X5_tell dX5_sheet_54 rfl rfl rfl (Nat.le_of_ble_eq_true rfl) (Nat.le_of_ble_eq_true rfl) rfl (Nat.le_of_ble_eq_true rfl) ⟨Nat.zero_le _, Nat.zero_le _⟩ ?_
              exact ret _ _ _ _ ⟨rfl, _, rfl, by intro g h2 h6; simp [upG, up3, up3R, h2, h6]⟩ rfl dX5_sheet_57
          · skip
            exact absurd (Int32.not_le.mp c_36) hn
        · skip
          refine J_iload_n E dX5_sheet_23 rfl 2 rfl ?_
          refine J_bipush E dX5_sheet_24 bp_32 ?_
          refine J_icmp_eq E (tgt := 35) dX5_sheet_26 (by decide) (fun c_26 => ?_) (fun c_26 => ?_)
          · skip
            refine J_iload_n E dX5_sheet_35 rfl 3 rfl ?_
            refine J_if_ge E (tgt := 46) dX5_sheet_36 (by decide) (fun c_36 => ?_) (fun c_36 => ?_)
            · skip
              refine J_iload_n E dX5_sheet_46 rfl 3 rfl ?_
              refine J_bipush E dX5_sheet_47 bp_40 ?_
              refine J_icmp_le E (tgt := 58) dX5_sheet_49 (by decide) (fun c_49 => ?_) (fun c_49 => ?_)
              · skip
                exact absurd c_49 hn2
              · skip
                refine J_aload_n E dX5_sheet_52 rfl 0 rfl ?_
                refine J_iconst E dX5_sheet_53 ic_0 ?_
                refine J_cVi0 E (As := [.int 0]) (c_X5_tell l G a x 0 (by omega)) cl_X5_64 yo_X5_tell dX5_sheet_54 rfl rfl rfl (Nat.le_of_ble_eq_true rfl) (Nat.le_of_ble_eq_true rfl) rfl (Nat.le_of_ble_eq_true rfl) ⟨Nat.zero_le _, Nat.zero_le _⟩ ?_
                exact ret _ _ _ _ ⟨rfl, _, rfl, by intro g h2 h6; simp [upG, up3, up3R, h2, h6]⟩ rfl dX5_sheet_57
            · skip
              exact absurd (Int32.not_le.mp c_36) hn
          · skip
            exact absurd hbt (fun z => z.elim c_8 (fun z => z.elim c_14 (fun z => z.elim c_20 c_26)))

set_option maxHeartbeats 4000000 in
set_option maxRecDepth 20000 in
theorem c_X5_sheet_ok_0 (l : Launch) (G : GB) (a : Nat → Nat) (x : Q3) (b n : Int32) (hbt : (b = 0 ∨ b = 8 ∨ b = 16 ∨ b = 32)) (hn : ¬ n < 0) (hn2 : n ≤ 40) : CI l yX5_sheet cX5_sheet 4 .int 2 45 G [.ref (a 0), .int (nI 0), .int b, .int n] (wC G a x) (fun vR w' => vR = (if b = 0 then 0 else n) ∧ PubC G a (upG x 8 (beginS (x 8) b (if b = 0 then 0 else n))) w') := by
  refine CI.mk (own := RX5) (by decide) rfl (Nat.le_of_ble_eq_true rfl) ?_
  intro X E ret
  show J X G 4 0 0 (wC G a x) [(0, .ref (a 0)), (1, .int (nI 0)), (2, .int b), (3, .int n)] 0 []
  rcases hbt with rfl | rfl | rfl | rfl
  · skip
    refine J_iload_n E dX5_sheet_0 rfl 1 rfl ?_
    refine J_cSiN E (As := [.int (nI 0)]) (c_X5_isSheet l G (nI 0) ) cl_X5_202 yo_X5_isSheet dX5_sheet_1 rfl (Nat.le_of_ble_eq_true rfl) (Nat.le_of_ble_eq_true rfl) rfl (Nat.le_of_ble_eq_true rfl) ⟨Nat.zero_le _, Nat.zero_le _⟩ ?_
    refine J_if_eq E (tgt := 29) dX5_sheet_4 (by decide) (fun c_4 => ?_) (fun c_4 => ?_)
    · skip
      have c_4 := bI_0 c_4
      exact absurd (in3 (by decide)) c_4
    · skip
      have c_4 := bI_1 c_4
      refine J_iload_n E dX5_sheet_7 rfl 2 rfl ?_
      refine J_if_eq E (tgt := 35) dX5_sheet_8 (by decide) (fun c_8 => ?_) (fun c_8 => ?_)
      · skip
        have n_8 : 0 = 0 := cmp_eq (a := 0) (b := 0) (by omega) (by omega) c_8
        refine J_iload_n E dX5_sheet_35 rfl 3 rfl ?_
        refine J_if_ge E (tgt := 46) dX5_sheet_36 (by decide) (fun c_36 => ?_) (fun c_36 => ?_)
        · skip
          refine J_iload_n E dX5_sheet_46 rfl 3 rfl ?_
          refine J_bipush E dX5_sheet_47 bp_40 ?_
          refine J_icmp_le E (tgt := 58) dX5_sheet_49 (by decide) (fun c_49 => ?_) (fun c_49 => ?_)
          · skip
            refine J_aload_n E dX5_sheet_58 rfl 0 rfl ?_
            refine gC0_X5_44 E dX5_sheet_59 ?_
            refine J_iload_n E dX5_sheet_62 rfl 1 rfl ?_
            refine laC_30_0 E dX5_sheet_63 ?_
            refine J_iload_n E dX5_sheet_64 rfl 2 rfl ?_
            refine J_iload_n E dX5_sheet_65 rfl 2 rfl ?_
            refine J_if_ne E (tgt := 73) dX5_sheet_66 (by decide) (fun c_66 => ?_) (fun c_66 => ?_)
            · skip
              have n_66 : ¬ 0 = 0 := cmp_ne (a := 0) (b := 0) (by omega) (by omega) c_66
              exact absurd n_66 (by decide)
            · skip
              have n_66 : 0 = 0 := cmp_eq (a := 0) (b := 0) (by omega) (by omega) c_66
              refine J_iconst E dX5_sheet_69 ic_0 ?_
              refine J_goto E (tgt := 74) dX5_sheet_70 (by decide) ?_
              refine J_sv8 E (As := [.int 0, .int 0]) (c_X2_begin l G (sh a 31) (x 8) 0 0 ) cl_X5_205 yo_X2_begin dX5_sheet_74 rfl (Nat.le_of_ble_eq_true rfl) (Nat.le_of_ble_eq_true rfl) rfl (Nat.le_of_ble_eq_true rfl) ⟨Nat.zero_le _, Nat.zero_le _⟩ ?_
              refine J_aload_n E dX5_sheet_77 rfl 0 rfl ?_
              refine gC0_X5_44 E dX5_sheet_78 ?_
              refine J_iload_n E dX5_sheet_81 rfl 1 rfl ?_
              refine laC_30_0 E dX5_sheet_82 ?_
              refine gC31_X5_208 E dX5_sheet_83 ?_
              refine J_top (x' := (beginS (x 8) 0 0) 1 1) upG_s ?_
              exact ret _ _ _ _ ⟨by rfl, _, rfl, by intro g h2 h6; simp [upG, up3, up3R, h2, h6]⟩ rfl dX5_sheet_86
          · skip
            exact absurd hn2 c_49
        · skip
          exact absurd (Int32.not_le.mp c_36) hn
      · skip
        have n_8 : ¬ 0 = 0 := cmp_ne (a := 0) (b := 0) (by omega) (by omega) c_8
        exact absurd n_8 (by decide)
  · skip
    refine J_iload_n E dX5_sheet_0 rfl 1 rfl ?_
    refine J_cSiN E (As := [.int (nI 0)]) (c_X5_isSheet l G (nI 0) ) cl_X5_202 yo_X5_isSheet dX5_sheet_1 rfl (Nat.le_of_ble_eq_true rfl) (Nat.le_of_ble_eq_true rfl) rfl (Nat.le_of_ble_eq_true rfl) ⟨Nat.zero_le _, Nat.zero_le _⟩ ?_
    refine J_if_eq E (tgt := 29) dX5_sheet_4 (by decide) (fun c_4 => ?_) (fun c_4 => ?_)
    · skip
      have c_4 := bI_0 c_4
      exact absurd (in3 (by decide)) c_4
    · skip
      have c_4 := bI_1 c_4
      refine J_iload_n E dX5_sheet_7 rfl 2 rfl ?_
      refine J_if_eq E (tgt := 35) dX5_sheet_8 (by decide) (fun c_8 => ?_) (fun c_8 => ?_)
      · skip
        have n_8 : 8 = 0 := cmp_eq (a := 8) (b := 0) (by omega) (by omega) c_8
        exact absurd n_8 (by decide)
      · skip
        have n_8 : ¬ 8 = 0 := cmp_ne (a := 8) (b := 0) (by omega) (by omega) c_8
        refine J_iload_n E dX5_sheet_11 rfl 2 rfl ?_
        refine J_bipush E dX5_sheet_12 bp_8 ?_
        refine J_icmp_eq E (tgt := 35) dX5_sheet_14 (by decide) (fun c_14 => ?_) (fun c_14 => ?_)
        · skip
          have n_14 : 8 = 8 := cmp_eq (a := 8) (b := 8) (by omega) (by omega) c_14
          refine J_iload_n E dX5_sheet_35 rfl 3 rfl ?_
          refine J_if_ge E (tgt := 46) dX5_sheet_36 (by decide) (fun c_36 => ?_) (fun c_36 => ?_)
          · skip
            refine J_iload_n E dX5_sheet_46 rfl 3 rfl ?_
            refine J_bipush E dX5_sheet_47 bp_40 ?_
            refine J_icmp_le E (tgt := 58) dX5_sheet_49 (by decide) (fun c_49 => ?_) (fun c_49 => ?_)
            · skip
              refine J_aload_n E dX5_sheet_58 rfl 0 rfl ?_
              refine gC0_X5_44 E dX5_sheet_59 ?_
              refine J_iload_n E dX5_sheet_62 rfl 1 rfl ?_
              refine laC_30_0 E dX5_sheet_63 ?_
              refine J_iload_n E dX5_sheet_64 rfl 2 rfl ?_
              refine J_iload_n E dX5_sheet_65 rfl 2 rfl ?_
              refine J_if_ne E (tgt := 73) dX5_sheet_66 (by decide) (fun c_66 => ?_) (fun c_66 => ?_)
              · skip
                have n_66 : ¬ 8 = 0 := cmp_ne (a := 8) (b := 0) (by omega) (by omega) c_66
                refine J_iload_n E dX5_sheet_73 rfl 3 rfl ?_
                refine J_sv8 E (As := [.int 8, .int n]) (c_X2_begin l G (sh a 31) (x 8) 8 n ) cl_X5_205 yo_X2_begin dX5_sheet_74 rfl (Nat.le_of_ble_eq_true rfl) (Nat.le_of_ble_eq_true rfl) rfl (Nat.le_of_ble_eq_true rfl) ⟨Nat.zero_le _, Nat.zero_le _⟩ ?_
                refine J_aload_n E dX5_sheet_77 rfl 0 rfl ?_
                refine gC0_X5_44 E dX5_sheet_78 ?_
                refine J_iload_n E dX5_sheet_81 rfl 1 rfl ?_
                refine laC_30_0 E dX5_sheet_82 ?_
                refine gC31_X5_208 E dX5_sheet_83 ?_
                refine J_top (x' := (beginS (x 8) 8 n) 1 1) upG_s ?_
                exact ret _ _ _ _ ⟨by rfl, _, rfl, by intro g h2 h6; simp [upG, up3, up3R, h2, h6]⟩ rfl dX5_sheet_86
              · skip
                have n_66 : 8 = 0 := cmp_eq (a := 8) (b := 0) (by omega) (by omega) c_66
                exact absurd n_66 (by decide)
            · skip
              exact absurd hn2 c_49
          · skip
            exact absurd (Int32.not_le.mp c_36) hn
        · skip
          have n_14 : ¬ 8 = 8 := cmp_ne (a := 8) (b := 8) (by omega) (by omega) c_14
          exact absurd n_14 (by decide)
  · skip
    refine J_iload_n E dX5_sheet_0 rfl 1 rfl ?_
    refine J_cSiN E (As := [.int (nI 0)]) (c_X5_isSheet l G (nI 0) ) cl_X5_202 yo_X5_isSheet dX5_sheet_1 rfl (Nat.le_of_ble_eq_true rfl) (Nat.le_of_ble_eq_true rfl) rfl (Nat.le_of_ble_eq_true rfl) ⟨Nat.zero_le _, Nat.zero_le _⟩ ?_
    refine J_if_eq E (tgt := 29) dX5_sheet_4 (by decide) (fun c_4 => ?_) (fun c_4 => ?_)
    · skip
      have c_4 := bI_0 c_4
      exact absurd (in3 (by decide)) c_4
    · skip
      have c_4 := bI_1 c_4
      refine J_iload_n E dX5_sheet_7 rfl 2 rfl ?_
      refine J_if_eq E (tgt := 35) dX5_sheet_8 (by decide) (fun c_8 => ?_) (fun c_8 => ?_)
      · skip
        have n_8 : 16 = 0 := cmp_eq (a := 16) (b := 0) (by omega) (by omega) c_8
        exact absurd n_8 (by decide)
      · skip
        have n_8 : ¬ 16 = 0 := cmp_ne (a := 16) (b := 0) (by omega) (by omega) c_8
        refine J_iload_n E dX5_sheet_11 rfl 2 rfl ?_
        refine J_bipush E dX5_sheet_12 bp_8 ?_
        refine J_icmp_eq E (tgt := 35) dX5_sheet_14 (by decide) (fun c_14 => ?_) (fun c_14 => ?_)
        · skip
          have n_14 : 16 = 8 := cmp_eq (a := 16) (b := 8) (by omega) (by omega) c_14
          exact absurd n_14 (by decide)
        · skip
          have n_14 : ¬ 16 = 8 := cmp_ne (a := 16) (b := 8) (by omega) (by omega) c_14
          refine J_iload_n E dX5_sheet_17 rfl 2 rfl ?_
          refine J_bipush E dX5_sheet_18 bp_16 ?_
          refine J_icmp_eq E (tgt := 35) dX5_sheet_20 (by decide) (fun c_20 => ?_) (fun c_20 => ?_)
          · skip
            have n_20 : 16 = 16 := cmp_eq (a := 16) (b := 16) (by omega) (by omega) c_20
            refine J_iload_n E dX5_sheet_35 rfl 3 rfl ?_
            refine J_if_ge E (tgt := 46) dX5_sheet_36 (by decide) (fun c_36 => ?_) (fun c_36 => ?_)
            · skip
              refine J_iload_n E dX5_sheet_46 rfl 3 rfl ?_
              refine J_bipush E dX5_sheet_47 bp_40 ?_
              refine J_icmp_le E (tgt := 58) dX5_sheet_49 (by decide) (fun c_49 => ?_) (fun c_49 => ?_)
              · skip
                refine J_aload_n E dX5_sheet_58 rfl 0 rfl ?_
                refine gC0_X5_44 E dX5_sheet_59 ?_
                refine J_iload_n E dX5_sheet_62 rfl 1 rfl ?_
                refine laC_30_0 E dX5_sheet_63 ?_
                refine J_iload_n E dX5_sheet_64 rfl 2 rfl ?_
                refine J_iload_n E dX5_sheet_65 rfl 2 rfl ?_
                refine J_if_ne E (tgt := 73) dX5_sheet_66 (by decide) (fun c_66 => ?_) (fun c_66 => ?_)
                · skip
                  have n_66 : ¬ 16 = 0 := cmp_ne (a := 16) (b := 0) (by omega) (by omega) c_66
                  refine J_iload_n E dX5_sheet_73 rfl 3 rfl ?_
                  refine J_sv8 E (As := [.int 16, .int n]) (c_X2_begin l G (sh a 31) (x 8) 16 n ) cl_X5_205 yo_X2_begin dX5_sheet_74 rfl (Nat.le_of_ble_eq_true rfl) (Nat.le_of_ble_eq_true rfl) rfl (Nat.le_of_ble_eq_true rfl) ⟨Nat.zero_le _, Nat.zero_le _⟩ ?_
                  refine J_aload_n E dX5_sheet_77 rfl 0 rfl ?_
                  refine gC0_X5_44 E dX5_sheet_78 ?_
                  refine J_iload_n E dX5_sheet_81 rfl 1 rfl ?_
                  refine laC_30_0 E dX5_sheet_82 ?_
                  refine gC31_X5_208 E dX5_sheet_83 ?_
                  refine J_top (x' := (beginS (x 8) 16 n) 1 1) upG_s ?_
                  exact ret _ _ _ _ ⟨by rfl, _, rfl, by intro g h2 h6; simp [upG, up3, up3R, h2, h6]⟩ rfl dX5_sheet_86
                · skip
                  have n_66 : 16 = 0 := cmp_eq (a := 16) (b := 0) (by omega) (by omega) c_66
                  exact absurd n_66 (by decide)
              · skip
                exact absurd hn2 c_49
            · skip
              exact absurd (Int32.not_le.mp c_36) hn
          · skip
            have n_20 : ¬ 16 = 16 := cmp_ne (a := 16) (b := 16) (by omega) (by omega) c_20
            exact absurd n_20 (by decide)
  · skip
    refine J_iload_n E dX5_sheet_0 rfl 1 rfl ?_
    refine J_cSiN E (As := [.int (nI 0)]) (c_X5_isSheet l G (nI 0) ) cl_X5_202 yo_X5_isSheet dX5_sheet_1 rfl (Nat.le_of_ble_eq_true rfl) (Nat.le_of_ble_eq_true rfl) rfl (Nat.le_of_ble_eq_true rfl) ⟨Nat.zero_le _, Nat.zero_le _⟩ ?_
    refine J_if_eq E (tgt := 29) dX5_sheet_4 (by decide) (fun c_4 => ?_) (fun c_4 => ?_)
    · skip
      have c_4 := bI_0 c_4
      exact absurd (in3 (by decide)) c_4
    · skip
      have c_4 := bI_1 c_4
      refine J_iload_n E dX5_sheet_7 rfl 2 rfl ?_
      refine J_if_eq E (tgt := 35) dX5_sheet_8 (by decide) (fun c_8 => ?_) (fun c_8 => ?_)
      · skip
        have n_8 : 32 = 0 := cmp_eq (a := 32) (b := 0) (by omega) (by omega) c_8
        exact absurd n_8 (by decide)
      · skip
        have n_8 : ¬ 32 = 0 := cmp_ne (a := 32) (b := 0) (by omega) (by omega) c_8
        refine J_iload_n E dX5_sheet_11 rfl 2 rfl ?_
        refine J_bipush E dX5_sheet_12 bp_8 ?_
        refine J_icmp_eq E (tgt := 35) dX5_sheet_14 (by decide) (fun c_14 => ?_) (fun c_14 => ?_)
        · skip
          have n_14 : 32 = 8 := cmp_eq (a := 32) (b := 8) (by omega) (by omega) c_14
          exact absurd n_14 (by decide)
        · skip
          have n_14 : ¬ 32 = 8 := cmp_ne (a := 32) (b := 8) (by omega) (by omega) c_14
          refine J_iload_n E dX5_sheet_17 rfl 2 rfl ?_
          refine J_bipush E dX5_sheet_18 bp_16 ?_
          refine J_icmp_eq E (tgt := 35) dX5_sheet_20 (by decide) (fun c_20 => ?_) (fun c_20 => ?_)
          · skip
            have n_20 : 32 = 16 := cmp_eq (a := 32) (b := 16) (by omega) (by omega) c_20
            exact absurd n_20 (by decide)
          · skip
            have n_20 : ¬ 32 = 16 := cmp_ne (a := 32) (b := 16) (by omega) (by omega) c_20
            refine J_iload_n E dX5_sheet_23 rfl 2 rfl ?_
            refine J_bipush E dX5_sheet_24 bp_32 ?_
            refine J_icmp_eq E (tgt := 35) dX5_sheet_26 (by decide) (fun c_26 => ?_) (fun c_26 => ?_)
            · skip
              have n_26 : 32 = 32 := cmp_eq (a := 32) (b := 32) (by omega) (by omega) c_26
              refine J_iload_n E dX5_sheet_35 rfl 3 rfl ?_
              refine J_if_ge E (tgt := 46) dX5_sheet_36 (by decide) (fun c_36 => ?_) (fun c_36 => ?_)
              · skip
                refine J_iload_n E dX5_sheet_46 rfl 3 rfl ?_
                refine J_bipush E dX5_sheet_47 bp_40 ?_
                refine J_icmp_le E (tgt := 58) dX5_sheet_49 (by decide) (fun c_49 => ?_) (fun c_49 => ?_)
                · skip
                  refine J_aload_n E dX5_sheet_58 rfl 0 rfl ?_
                  refine gC0_X5_44 E dX5_sheet_59 ?_
                  refine J_iload_n E dX5_sheet_62 rfl 1 rfl ?_
                  refine laC_30_0 E dX5_sheet_63 ?_
                  refine J_iload_n E dX5_sheet_64 rfl 2 rfl ?_
                  refine J_iload_n E dX5_sheet_65 rfl 2 rfl ?_
                  refine J_if_ne E (tgt := 73) dX5_sheet_66 (by decide) (fun c_66 => ?_) (fun c_66 => ?_)
                  · skip
                    have n_66 : ¬ 32 = 0 := cmp_ne (a := 32) (b := 0) (by omega) (by omega) c_66
                    refine J_iload_n E dX5_sheet_73 rfl 3 rfl ?_
                    refine J_sv8 E (As := [.int 32, .int n]) (c_X2_begin l G (sh a 31) (x 8) 32 n ) cl_X5_205 yo_X2_begin dX5_sheet_74 rfl (Nat.le_of_ble_eq_true rfl) (Nat.le_of_ble_eq_true rfl) rfl (Nat.le_of_ble_eq_true rfl) ⟨Nat.zero_le _, Nat.zero_le _⟩ ?_
                    refine J_aload_n E dX5_sheet_77 rfl 0 rfl ?_
                    refine gC0_X5_44 E dX5_sheet_78 ?_
                    refine J_iload_n E dX5_sheet_81 rfl 1 rfl ?_
                    refine laC_30_0 E dX5_sheet_82 ?_
                    refine gC31_X5_208 E dX5_sheet_83 ?_
                    refine J_top (x' := (beginS (x 8) 32 n) 1 1) upG_s ?_
                    exact ret _ _ _ _ ⟨by rfl, _, rfl, by intro g h2 h6; simp [upG, up3, up3R, h2, h6]⟩ rfl dX5_sheet_86
                  · skip
                    have n_66 : 32 = 0 := cmp_eq (a := 32) (b := 0) (by omega) (by omega) c_66
                    exact absurd n_66 (by decide)
                · skip
                  exact absurd hn2 c_49
              · skip
                exact absurd (Int32.not_le.mp c_36) hn
            · skip
              have n_26 : ¬ 32 = 32 := cmp_ne (a := 32) (b := 32) (by omega) (by omega) c_26
              exact absurd n_26 (by decide)

set_option maxHeartbeats 4000000 in
set_option maxRecDepth 20000 in
theorem c_X5_sheet_ok_1 (l : Launch) (G : GB) (a : Nat → Nat) (x : Q3) (b n : Int32) (hbt : (b = 0 ∨ b = 8 ∨ b = 16 ∨ b = 32)) (hn : ¬ n < 0) (hn2 : n ≤ 40) : CI l yX5_sheet cX5_sheet 4 .int 2 45 G [.ref (a 0), .int (nI 1), .int b, .int n] (wC G a x) (fun vR w' => vR = (if b = 0 then 0 else n) ∧ PubC G a (upG x 9 (beginS (x 9) b (if b = 0 then 0 else n))) w') := by
  refine CI.mk (own := RX5) (by decide) rfl (Nat.le_of_ble_eq_true rfl) ?_
  intro X E ret
  show J X G 4 0 0 (wC G a x) [(0, .ref (a 0)), (1, .int (nI 1)), (2, .int b), (3, .int n)] 0 []
  rcases hbt with rfl | rfl | rfl | rfl
  · skip
    refine J_iload_n E dX5_sheet_0 rfl 1 rfl ?_
    refine J_cSiN E (As := [.int (nI 1)]) (c_X5_isSheet l G (nI 1) ) cl_X5_202 yo_X5_isSheet dX5_sheet_1 rfl (Nat.le_of_ble_eq_true rfl) (Nat.le_of_ble_eq_true rfl) rfl (Nat.le_of_ble_eq_true rfl) ⟨Nat.zero_le _, Nat.zero_le _⟩ ?_
    refine J_if_eq E (tgt := 29) dX5_sheet_4 (by decide) (fun c_4 => ?_) (fun c_4 => ?_)
    · skip
      have c_4 := bI_0 c_4
      exact absurd (in3 (by decide)) c_4
    · skip
      have c_4 := bI_1 c_4
      refine J_iload_n E dX5_sheet_7 rfl 2 rfl ?_
      refine J_if_eq E (tgt := 35) dX5_sheet_8 (by decide) (fun c_8 => ?_) (fun c_8 => ?_)
      · skip
        have n_8 : 0 = 0 := cmp_eq (a := 0) (b := 0) (by omega) (by omega) c_8
        refine J_iload_n E dX5_sheet_35 rfl 3 rfl ?_
        refine J_if_ge E (tgt := 46) dX5_sheet_36 (by decide) (fun c_36 => ?_) (fun c_36 => ?_)
        · skip
          refine J_iload_n E dX5_sheet_46 rfl 3 rfl ?_
          refine J_bipush E dX5_sheet_47 bp_40 ?_
          refine J_icmp_le E (tgt := 58) dX5_sheet_49 (by decide) (fun c_49 => ?_) (fun c_49 => ?_)
          · skip
            refine J_aload_n E dX5_sheet_58 rfl 0 rfl ?_
            refine gC0_X5_44 E dX5_sheet_59 ?_
            refine J_iload_n E dX5_sheet_62 rfl 1 rfl ?_
            refine laC_30_1 E dX5_sheet_63 ?_
            refine J_iload_n E dX5_sheet_64 rfl 2 rfl ?_
            refine J_iload_n E dX5_sheet_65 rfl 2 rfl ?_
            refine J_if_ne E (tgt := 73) dX5_sheet_66 (by decide) (fun c_66 => ?_) (fun c_66 => ?_)
            · skip
              have n_66 : ¬ 0 = 0 := cmp_ne (a := 0) (b := 0) (by omega) (by omega) c_66
              exact absurd n_66 (by decide)
            · skip
              have n_66 : 0 = 0 := cmp_eq (a := 0) (b := 0) (by omega) (by omega) c_66
              refine J_iconst E dX5_sheet_69 ic_0 ?_
              refine J_goto E (tgt := 74) dX5_sheet_70 (by decide) ?_
              refine J_sv9 E (As := [.int 0, .int 0]) (c_X2_begin l G (sh a 33) (x 9) 0 0 ) cl_X5_205 yo_X2_begin dX5_sheet_74 rfl (Nat.le_of_ble_eq_true rfl) (Nat.le_of_ble_eq_true rfl) rfl (Nat.le_of_ble_eq_true rfl) ⟨Nat.zero_le _, Nat.zero_le _⟩ ?_
              refine J_aload_n E dX5_sheet_77 rfl 0 rfl ?_
              refine gC0_X5_44 E dX5_sheet_78 ?_
              refine J_iload_n E dX5_sheet_81 rfl 1 rfl ?_
              refine laC_30_1 E dX5_sheet_82 ?_
              refine gC33_X5_208 E dX5_sheet_83 ?_
              refine J_top (x' := (beginS (x 9) 0 0) 1 1) upG_s ?_
              exact ret _ _ _ _ ⟨by rfl, _, rfl, by intro g h2 h6; simp [upG, up3, up3R, h2, h6]⟩ rfl dX5_sheet_86
          · skip
            exact absurd hn2 c_49
        · skip
          exact absurd (Int32.not_le.mp c_36) hn
      · skip
        have n_8 : ¬ 0 = 0 := cmp_ne (a := 0) (b := 0) (by omega) (by omega) c_8
        exact absurd n_8 (by decide)
  · skip
    refine J_iload_n E dX5_sheet_0 rfl 1 rfl ?_
    refine J_cSiN E (As := [.int (nI 1)]) (c_X5_isSheet l G (nI 1) ) cl_X5_202 yo_X5_isSheet dX5_sheet_1 rfl (Nat.le_of_ble_eq_true rfl) (Nat.le_of_ble_eq_true rfl) rfl (Nat.le_of_ble_eq_true rfl) ⟨Nat.zero_le _, Nat.zero_le _⟩ ?_
    refine J_if_eq E (tgt := 29) dX5_sheet_4 (by decide) (fun c_4 => ?_) (fun c_4 => ?_)
    · skip
      have c_4 := bI_0 c_4
      exact absurd (in3 (by decide)) c_4
    · skip
      have c_4 := bI_1 c_4
      refine J_iload_n E dX5_sheet_7 rfl 2 rfl ?_
      refine J_if_eq E (tgt := 35) dX5_sheet_8 (by decide) (fun c_8 => ?_) (fun c_8 => ?_)
      · skip
        have n_8 : 8 = 0 := cmp_eq (a := 8) (b := 0) (by omega) (by omega) c_8
        exact absurd n_8 (by decide)
      · skip
        have n_8 : ¬ 8 = 0 := cmp_ne (a := 8) (b := 0) (by omega) (by omega) c_8
        refine J_iload_n E dX5_sheet_11 rfl 2 rfl ?_
        refine J_bipush E dX5_sheet_12 bp_8 ?_
        refine J_icmp_eq E (tgt := 35) dX5_sheet_14 (by decide) (fun c_14 => ?_) (fun c_14 => ?_)
        · skip
          have n_14 : 8 = 8 := cmp_eq (a := 8) (b := 8) (by omega) (by omega) c_14
          refine J_iload_n E dX5_sheet_35 rfl 3 rfl ?_
          refine J_if_ge E (tgt := 46) dX5_sheet_36 (by decide) (fun c_36 => ?_) (fun c_36 => ?_)
          · skip
            refine J_iload_n E dX5_sheet_46 rfl 3 rfl ?_
            refine J_bipush E dX5_sheet_47 bp_40 ?_
            refine J_icmp_le E (tgt := 58) dX5_sheet_49 (by decide) (fun c_49 => ?_) (fun c_49 => ?_)
            · skip
              refine J_aload_n E dX5_sheet_58 rfl 0 rfl ?_
              refine gC0_X5_44 E dX5_sheet_59 ?_
              refine J_iload_n E dX5_sheet_62 rfl 1 rfl ?_
              refine laC_30_1 E dX5_sheet_63 ?_
              refine J_iload_n E dX5_sheet_64 rfl 2 rfl ?_
              refine J_iload_n E dX5_sheet_65 rfl 2 rfl ?_
              refine J_if_ne E (tgt := 73) dX5_sheet_66 (by decide) (fun c_66 => ?_) (fun c_66 => ?_)
              · skip
                have n_66 : ¬ 8 = 0 := cmp_ne (a := 8) (b := 0) (by omega) (by omega) c_66
                refine J_iload_n E dX5_sheet_73 rfl 3 rfl ?_
                refine J_sv9 E (As := [.int 8, .int n]) (c_X2_begin l G (sh a 33) (x 9) 8 n ) cl_X5_205 yo_X2_begin dX5_sheet_74 rfl (Nat.le_of_ble_eq_true rfl) (Nat.le_of_ble_eq_true rfl) rfl (Nat.le_of_ble_eq_true rfl) ⟨Nat.zero_le _, Nat.zero_le _⟩ ?_
                refine J_aload_n E dX5_sheet_77 rfl 0 rfl ?_
                refine gC0_X5_44 E dX5_sheet_78 ?_
                refine J_iload_n E dX5_sheet_81 rfl 1 rfl ?_
                refine laC_30_1 E dX5_sheet_82 ?_
                refine gC33_X5_208 E dX5_sheet_83 ?_
                refine J_top (x' := (beginS (x 9) 8 n) 1 1) upG_s ?_
                exact ret _ _ _ _ ⟨by rfl, _, rfl, by intro g h2 h6; simp [upG, up3, up3R, h2, h6]⟩ rfl dX5_sheet_86
              · skip
                have n_66 : 8 = 0 := cmp_eq (a := 8) (b := 0) (by omega) (by omega) c_66
                exact absurd n_66 (by decide)
            · skip
              exact absurd hn2 c_49
          · skip
            exact absurd (Int32.not_le.mp c_36) hn
        · skip
          have n_14 : ¬ 8 = 8 := cmp_ne (a := 8) (b := 8) (by omega) (by omega) c_14
          exact absurd n_14 (by decide)
  · skip
    refine J_iload_n E dX5_sheet_0 rfl 1 rfl ?_
    refine J_cSiN E (As := [.int (nI 1)]) (c_X5_isSheet l G (nI 1) ) cl_X5_202 yo_X5_isSheet dX5_sheet_1 rfl (Nat.le_of_ble_eq_true rfl) (Nat.le_of_ble_eq_true rfl) rfl (Nat.le_of_ble_eq_true rfl) ⟨Nat.zero_le _, Nat.zero_le _⟩ ?_
    refine J_if_eq E (tgt := 29) dX5_sheet_4 (by decide) (fun c_4 => ?_) (fun c_4 => ?_)
    · skip
      have c_4 := bI_0 c_4
      exact absurd (in3 (by decide)) c_4
    · skip
      have c_4 := bI_1 c_4
      refine J_iload_n E dX5_sheet_7 rfl 2 rfl ?_
      refine J_if_eq E (tgt := 35) dX5_sheet_8 (by decide) (fun c_8 => ?_) (fun c_8 => ?_)
      · skip
        have n_8 : 16 = 0 := cmp_eq (a := 16) (b := 0) (by omega) (by omega) c_8
        exact absurd n_8 (by decide)
      · skip
        have n_8 : ¬ 16 = 0 := cmp_ne (a := 16) (b := 0) (by omega) (by omega) c_8
        refine J_iload_n E dX5_sheet_11 rfl 2 rfl ?_
        refine J_bipush E dX5_sheet_12 bp_8 ?_
        refine J_icmp_eq E (tgt := 35) dX5_sheet_14 (by decide) (fun c_14 => ?_) (fun c_14 => ?_)
        · skip
          have n_14 : 16 = 8 := cmp_eq (a := 16) (b := 8) (by omega) (by omega) c_14
          exact absurd n_14 (by decide)
        · skip
          have n_14 : ¬ 16 = 8 := cmp_ne (a := 16) (b := 8) (by omega) (by omega) c_14
          refine J_iload_n E dX5_sheet_17 rfl 2 rfl ?_
          refine J_bipush E dX5_sheet_18 bp_16 ?_
          refine J_icmp_eq E (tgt := 35) dX5_sheet_20 (by decide) (fun c_20 => ?_) (fun c_20 => ?_)
          · skip
            have n_20 : 16 = 16 := cmp_eq (a := 16) (b := 16) (by omega) (by omega) c_20
            refine J_iload_n E dX5_sheet_35 rfl 3 rfl ?_
            refine J_if_ge E (tgt := 46) dX5_sheet_36 (by decide) (fun c_36 => ?_) (fun c_36 => ?_)
            · skip
              refine J_iload_n E dX5_sheet_46 rfl 3 rfl ?_
              refine J_bipush E dX5_sheet_47 bp_40 ?_
              refine J_icmp_le E (tgt := 58) dX5_sheet_49 (by decide) (fun c_49 => ?_) (fun c_49 => ?_)
              · skip
                refine J_aload_n E dX5_sheet_58 rfl 0 rfl ?_
                refine gC0_X5_44 E dX5_sheet_59 ?_
                refine J_iload_n E dX5_sheet_62 rfl 1 rfl ?_
                refine laC_30_1 E dX5_sheet_63 ?_
                refine J_iload_n E dX5_sheet_64 rfl 2 rfl ?_
                refine J_iload_n E dX5_sheet_65 rfl 2 rfl ?_
                refine J_if_ne E (tgt := 73) dX5_sheet_66 (by decide) (fun c_66 => ?_) (fun c_66 => ?_)
                · skip
                  have n_66 : ¬ 16 = 0 := cmp_ne (a := 16) (b := 0) (by omega) (by omega) c_66
                  refine J_iload_n E dX5_sheet_73 rfl 3 rfl ?_
                  refine J_sv9 E (As := [.int 16, .int n]) (c_X2_begin l G (sh a 33) (x 9) 16 n ) cl_X5_205 yo_X2_begin dX5_sheet_74 rfl (Nat.le_of_ble_eq_true rfl) (Nat.le_of_ble_eq_true rfl) rfl (Nat.le_of_ble_eq_true rfl) ⟨Nat.zero_le _, Nat.zero_le _⟩ ?_
                  refine J_aload_n E dX5_sheet_77 rfl 0 rfl ?_
                  refine gC0_X5_44 E dX5_sheet_78 ?_
                  refine J_iload_n E dX5_sheet_81 rfl 1 rfl ?_
                  refine laC_30_1 E dX5_sheet_82 ?_
                  refine gC33_X5_208 E dX5_sheet_83 ?_
                  refine J_top (x' := (beginS (x 9) 16 n) 1 1) upG_s ?_
                  exact ret _ _ _ _ ⟨by rfl, _, rfl, by intro g h2 h6; simp [upG, up3, up3R, h2, h6]⟩ rfl dX5_sheet_86
                · skip
                  have n_66 : 16 = 0 := cmp_eq (a := 16) (b := 0) (by omega) (by omega) c_66
                  exact absurd n_66 (by decide)
              · skip
                exact absurd hn2 c_49
            · skip
              exact absurd (Int32.not_le.mp c_36) hn
          · skip
            have n_20 : ¬ 16 = 16 := cmp_ne (a := 16) (b := 16) (by omega) (by omega) c_20
            exact absurd n_20 (by decide)
  · skip
    refine J_iload_n E dX5_sheet_0 rfl 1 rfl ?_
    refine J_cSiN E (As := [.int (nI 1)]) (c_X5_isSheet l G (nI 1) ) cl_X5_202 yo_X5_isSheet dX5_sheet_1 rfl (Nat.le_of_ble_eq_true rfl) (Nat.le_of_ble_eq_true rfl) rfl (Nat.le_of_ble_eq_true rfl) ⟨Nat.zero_le _, Nat.zero_le _⟩ ?_
    refine J_if_eq E (tgt := 29) dX5_sheet_4 (by decide) (fun c_4 => ?_) (fun c_4 => ?_)
    · skip
      have c_4 := bI_0 c_4
      exact absurd (in3 (by decide)) c_4
    · skip
      have c_4 := bI_1 c_4
      refine J_iload_n E dX5_sheet_7 rfl 2 rfl ?_
      refine J_if_eq E (tgt := 35) dX5_sheet_8 (by decide) (fun c_8 => ?_) (fun c_8 => ?_)
      · skip
        have n_8 : 32 = 0 := cmp_eq (a := 32) (b := 0) (by omega) (by omega) c_8
        exact absurd n_8 (by decide)
      · skip
        have n_8 : ¬ 32 = 0 := cmp_ne (a := 32) (b := 0) (by omega) (by omega) c_8
        refine J_iload_n E dX5_sheet_11 rfl 2 rfl ?_
        refine J_bipush E dX5_sheet_12 bp_8 ?_
        refine J_icmp_eq E (tgt := 35) dX5_sheet_14 (by decide) (fun c_14 => ?_) (fun c_14 => ?_)
        · skip
          have n_14 : 32 = 8 := cmp_eq (a := 32) (b := 8) (by omega) (by omega) c_14
          exact absurd n_14 (by decide)
        · skip
          have n_14 : ¬ 32 = 8 := cmp_ne (a := 32) (b := 8) (by omega) (by omega) c_14
          refine J_iload_n E dX5_sheet_17 rfl 2 rfl ?_
          refine J_bipush E dX5_sheet_18 bp_16 ?_
          refine J_icmp_eq E (tgt := 35) dX5_sheet_20 (by decide) (fun c_20 => ?_) (fun c_20 => ?_)
          · skip
            have n_20 : 32 = 16 := cmp_eq (a := 32) (b := 16) (by omega) (by omega) c_20
            exact absurd n_20 (by decide)
          · skip
            have n_20 : ¬ 32 = 16 := cmp_ne (a := 32) (b := 16) (by omega) (by omega) c_20
            refine J_iload_n E dX5_sheet_23 rfl 2 rfl ?_
            refine J_bipush E dX5_sheet_24 bp_32 ?_
            refine J_icmp_eq E (tgt := 35) dX5_sheet_26 (by decide) (fun c_26 => ?_) (fun c_26 => ?_)
            · skip
              have n_26 : 32 = 32 := cmp_eq (a := 32) (b := 32) (by omega) (by omega) c_26
              refine J_iload_n E dX5_sheet_35 rfl 3 rfl ?_
              refine J_if_ge E (tgt := 46) dX5_sheet_36 (by decide) (fun c_36 => ?_) (fun c_36 => ?_)
              · skip
                refine J_iload_n E dX5_sheet_46 rfl 3 rfl ?_
                refine J_bipush E dX5_sheet_47 bp_40 ?_
                refine J_icmp_le E (tgt := 58) dX5_sheet_49 (by decide) (fun c_49 => ?_) (fun c_49 => ?_)
                · skip
                  refine J_aload_n E dX5_sheet_58 rfl 0 rfl ?_
                  refine gC0_X5_44 E dX5_sheet_59 ?_
                  refine J_iload_n E dX5_sheet_62 rfl 1 rfl ?_
                  refine laC_30_1 E dX5_sheet_63 ?_
                  refine J_iload_n E dX5_sheet_64 rfl 2 rfl ?_
                  refine J_iload_n E dX5_sheet_65 rfl 2 rfl ?_
                  refine J_if_ne E (tgt := 73) dX5_sheet_66 (by decide) (fun c_66 => ?_) (fun c_66 => ?_)
                  · skip
                    have n_66 : ¬ 32 = 0 := cmp_ne (a := 32) (b := 0) (by omega) (by omega) c_66
                    refine J_iload_n E dX5_sheet_73 rfl 3 rfl ?_
                    refine J_sv9 E (As := [.int 32, .int n]) (c_X2_begin l G (sh a 33) (x 9) 32 n ) cl_X5_205 yo_X2_begin dX5_sheet_74 rfl (Nat.le_of_ble_eq_true rfl) (Nat.le_of_ble_eq_true rfl) rfl (Nat.le_of_ble_eq_true rfl) ⟨Nat.zero_le _, Nat.zero_le _⟩ ?_
                    refine J_aload_n E dX5_sheet_77 rfl 0 rfl ?_
                    refine gC0_X5_44 E dX5_sheet_78 ?_
                    refine J_iload_n E dX5_sheet_81 rfl 1 rfl ?_
                    refine laC_30_1 E dX5_sheet_82 ?_
                    refine gC33_X5_208 E dX5_sheet_83 ?_
                    refine J_top (x' := (beginS (x 9) 32 n) 1 1) upG_s ?_
                    exact ret _ _ _ _ ⟨by rfl, _, rfl, by intro g h2 h6; simp [upG, up3, up3R, h2, h6]⟩ rfl dX5_sheet_86
                  · skip
                    have n_66 : 32 = 0 := cmp_eq (a := 32) (b := 0) (by omega) (by omega) c_66
                    exact absurd n_66 (by decide)
                · skip
                  exact absurd hn2 c_49
              · skip
                exact absurd (Int32.not_le.mp c_36) hn
            · skip
              have n_26 : ¬ 32 = 32 := cmp_ne (a := 32) (b := 32) (by omega) (by omega) c_26
              exact absurd n_26 (by decide)

set_option maxHeartbeats 4000000 in
set_option maxRecDepth 20000 in
theorem c_X5_sheet_ok_2 (l : Launch) (G : GB) (a : Nat → Nat) (x : Q3) (b n : Int32) (hbt : (b = 0 ∨ b = 8 ∨ b = 16 ∨ b = 32)) (hn : ¬ n < 0) (hn2 : n ≤ 40) : CI l yX5_sheet cX5_sheet 4 .int 2 45 G [.ref (a 0), .int (nI 2), .int b, .int n] (wC G a x) (fun vR w' => vR = (if b = 0 then 0 else n) ∧ PubC G a (upG x 10 (beginS (x 10) b (if b = 0 then 0 else n))) w') := by
  refine CI.mk (own := RX5) (by decide) rfl (Nat.le_of_ble_eq_true rfl) ?_
  intro X E ret
  show J X G 4 0 0 (wC G a x) [(0, .ref (a 0)), (1, .int (nI 2)), (2, .int b), (3, .int n)] 0 []
  rcases hbt with rfl | rfl | rfl | rfl
  · skip
    refine J_iload_n E dX5_sheet_0 rfl 1 rfl ?_
    refine J_cSiN E (As := [.int (nI 2)]) (c_X5_isSheet l G (nI 2) ) cl_X5_202 yo_X5_isSheet dX5_sheet_1 rfl (Nat.le_of_ble_eq_true rfl) (Nat.le_of_ble_eq_true rfl) rfl (Nat.le_of_ble_eq_true rfl) ⟨Nat.zero_le _, Nat.zero_le _⟩ ?_
    refine J_if_eq E (tgt := 29) dX5_sheet_4 (by decide) (fun c_4 => ?_) (fun c_4 => ?_)
    · skip
      have c_4 := bI_0 c_4
      exact absurd (in3 (by decide)) c_4
    · skip
      have c_4 := bI_1 c_4
      refine J_iload_n E dX5_sheet_7 rfl 2 rfl ?_
      refine J_if_eq E (tgt := 35) dX5_sheet_8 (by decide) (fun c_8 => ?_) (fun c_8 => ?_)
      · skip
        have n_8 : 0 = 0 := cmp_eq (a := 0) (b := 0) (by omega) (by omega) c_8
        refine J_iload_n E dX5_sheet_35 rfl 3 rfl ?_
        refine J_if_ge E (tgt := 46) dX5_sheet_36 (by decide) (fun c_36 => ?_) (fun c_36 => ?_)
        · skip
          refine J_iload_n E dX5_sheet_46 rfl 3 rfl ?_
          refine J_bipush E dX5_sheet_47 bp_40 ?_
          refine J_icmp_le E (tgt := 58) dX5_sheet_49 (by decide) (fun c_49 => ?_) (fun c_49 => ?_)
          · skip
            refine J_aload_n E dX5_sheet_58 rfl 0 rfl ?_
            refine gC0_X5_44 E dX5_sheet_59 ?_
            refine J_iload_n E dX5_sheet_62 rfl 1 rfl ?_
            refine laC_30_2 E dX5_sheet_63 ?_
            refine J_iload_n E dX5_sheet_64 rfl 2 rfl ?_
            refine J_iload_n E dX5_sheet_65 rfl 2 rfl ?_
            refine J_if_ne E (tgt := 73) dX5_sheet_66 (by decide) (fun c_66 => ?_) (fun c_66 => ?_)
            · skip
              have n_66 : ¬ 0 = 0 := cmp_ne (a := 0) (b := 0) (by omega) (by omega) c_66
              exact absurd n_66 (by decide)
            · skip
              have n_66 : 0 = 0 := cmp_eq (a := 0) (b := 0) (by omega) (by omega) c_66
              refine J_iconst E dX5_sheet_69 ic_0 ?_
              refine J_goto E (tgt := 74) dX5_sheet_70 (by decide) ?_
              refine J_sv10 E (As := [.int 0, .int 0]) (c_X2_begin l G (sh a 35) (x 10) 0 0 ) cl_X5_205 yo_X2_begin dX5_sheet_74 rfl (Nat.le_of_ble_eq_true rfl) (Nat.le_of_ble_eq_true rfl) rfl (Nat.le_of_ble_eq_true rfl) ⟨Nat.zero_le _, Nat.zero_le _⟩ ?_
              refine J_aload_n E dX5_sheet_77 rfl 0 rfl ?_
              refine gC0_X5_44 E dX5_sheet_78 ?_
              refine J_iload_n E dX5_sheet_81 rfl 1 rfl ?_
              refine laC_30_2 E dX5_sheet_82 ?_
              refine gC35_X5_208 E dX5_sheet_83 ?_
              refine J_top (x' := (beginS (x 10) 0 0) 1 1) upG_s ?_
              exact ret _ _ _ _ ⟨by rfl, _, rfl, by intro g h2 h6; simp [upG, up3, up3R, h2, h6]⟩ rfl dX5_sheet_86
          · skip
            exact absurd hn2 c_49
        · skip
          exact absurd (Int32.not_le.mp c_36) hn
      · skip
        have n_8 : ¬ 0 = 0 := cmp_ne (a := 0) (b := 0) (by omega) (by omega) c_8
        exact absurd n_8 (by decide)
  · skip
    refine J_iload_n E dX5_sheet_0 rfl 1 rfl ?_
    refine J_cSiN E (As := [.int (nI 2)]) (c_X5_isSheet l G (nI 2) ) cl_X5_202 yo_X5_isSheet dX5_sheet_1 rfl (Nat.le_of_ble_eq_true rfl) (Nat.le_of_ble_eq_true rfl) rfl (Nat.le_of_ble_eq_true rfl) ⟨Nat.zero_le _, Nat.zero_le _⟩ ?_
    refine J_if_eq E (tgt := 29) dX5_sheet_4 (by decide) (fun c_4 => ?_) (fun c_4 => ?_)
    · skip
      have c_4 := bI_0 c_4
      exact absurd (in3 (by decide)) c_4
    · skip
      have c_4 := bI_1 c_4
      refine J_iload_n E dX5_sheet_7 rfl 2 rfl ?_
      refine J_if_eq E (tgt := 35) dX5_sheet_8 (by decide) (fun c_8 => ?_) (fun c_8 => ?_)
      · skip
        have n_8 : 8 = 0 := cmp_eq (a := 8) (b := 0) (by omega) (by omega) c_8
        exact absurd n_8 (by decide)
      · skip
        have n_8 : ¬ 8 = 0 := cmp_ne (a := 8) (b := 0) (by omega) (by omega) c_8
        refine J_iload_n E dX5_sheet_11 rfl 2 rfl ?_
        refine J_bipush E dX5_sheet_12 bp_8 ?_
        refine J_icmp_eq E (tgt := 35) dX5_sheet_14 (by decide) (fun c_14 => ?_) (fun c_14 => ?_)
        · skip
          have n_14 : 8 = 8 := cmp_eq (a := 8) (b := 8) (by omega) (by omega) c_14
          refine J_iload_n E dX5_sheet_35 rfl 3 rfl ?_
          refine J_if_ge E (tgt := 46) dX5_sheet_36 (by decide) (fun c_36 => ?_) (fun c_36 => ?_)
          · skip
            refine J_iload_n E dX5_sheet_46 rfl 3 rfl ?_
            refine J_bipush E dX5_sheet_47 bp_40 ?_
            refine J_icmp_le E (tgt := 58) dX5_sheet_49 (by decide) (fun c_49 => ?_) (fun c_49 => ?_)
            · skip
              refine J_aload_n E dX5_sheet_58 rfl 0 rfl ?_
              refine gC0_X5_44 E dX5_sheet_59 ?_
              refine J_iload_n E dX5_sheet_62 rfl 1 rfl ?_
              refine laC_30_2 E dX5_sheet_63 ?_
              refine J_iload_n E dX5_sheet_64 rfl 2 rfl ?_
              refine J_iload_n E dX5_sheet_65 rfl 2 rfl ?_
              refine J_if_ne E (tgt := 73) dX5_sheet_66 (by decide) (fun c_66 => ?_) (fun c_66 => ?_)
              · skip
                have n_66 : ¬ 8 = 0 := cmp_ne (a := 8) (b := 0) (by omega) (by omega) c_66
                refine J_iload_n E dX5_sheet_73 rfl 3 rfl ?_
                refine J_sv10 E (As := [.int 8, .int n]) (c_X2_begin l G (sh a 35) (x 10) 8 n ) cl_X5_205 yo_X2_begin dX5_sheet_74 rfl (Nat.le_of_ble_eq_true rfl) (Nat.le_of_ble_eq_true rfl) rfl (Nat.le_of_ble_eq_true rfl) ⟨Nat.zero_le _, Nat.zero_le _⟩ ?_
                refine J_aload_n E dX5_sheet_77 rfl 0 rfl ?_
                refine gC0_X5_44 E dX5_sheet_78 ?_
                refine J_iload_n E dX5_sheet_81 rfl 1 rfl ?_
                refine laC_30_2 E dX5_sheet_82 ?_
                refine gC35_X5_208 E dX5_sheet_83 ?_
                refine J_top (x' := (beginS (x 10) 8 n) 1 1) upG_s ?_
                exact ret _ _ _ _ ⟨by rfl, _, rfl, by intro g h2 h6; simp [upG, up3, up3R, h2, h6]⟩ rfl dX5_sheet_86
              · skip
                have n_66 : 8 = 0 := cmp_eq (a := 8) (b := 0) (by omega) (by omega) c_66
                exact absurd n_66 (by decide)
            · skip
              exact absurd hn2 c_49
          · skip
            exact absurd (Int32.not_le.mp c_36) hn
        · skip
          have n_14 : ¬ 8 = 8 := cmp_ne (a := 8) (b := 8) (by omega) (by omega) c_14
          exact absurd n_14 (by decide)
  · skip
    refine J_iload_n E dX5_sheet_0 rfl 1 rfl ?_
    refine J_cSiN E (As := [.int (nI 2)]) (c_X5_isSheet l G (nI 2) ) cl_X5_202 yo_X5_isSheet dX5_sheet_1 rfl (Nat.le_of_ble_eq_true rfl) (Nat.le_of_ble_eq_true rfl) rfl (Nat.le_of_ble_eq_true rfl) ⟨Nat.zero_le _, Nat.zero_le _⟩ ?_
    refine J_if_eq E (tgt := 29) dX5_sheet_4 (by decide) (fun c_4 => ?_) (fun c_4 => ?_)
    · skip
      have c_4 := bI_0 c_4
      exact absurd (in3 (by decide)) c_4
    · skip
      have c_4 := bI_1 c_4
      refine J_iload_n E dX5_sheet_7 rfl 2 rfl ?_
      refine J_if_eq E (tgt := 35) dX5_sheet_8 (by decide) (fun c_8 => ?_) (fun c_8 => ?_)
      · skip
        have n_8 : 16 = 0 := cmp_eq (a := 16) (b := 0) (by omega) (by omega) c_8
        exact absurd n_8 (by decide)
      · skip
        have n_8 : ¬ 16 = 0 := cmp_ne (a := 16) (b := 0) (by omega) (by omega) c_8
        refine J_iload_n E dX5_sheet_11 rfl 2 rfl ?_
        refine J_bipush E dX5_sheet_12 bp_8 ?_
        refine J_icmp_eq E (tgt := 35) dX5_sheet_14 (by decide) (fun c_14 => ?_) (fun c_14 => ?_)
        · skip
          have n_14 : 16 = 8 := cmp_eq (a := 16) (b := 8) (by omega) (by omega) c_14
          exact absurd n_14 (by decide)
        · skip
          have n_14 : ¬ 16 = 8 := cmp_ne (a := 16) (b := 8) (by omega) (by omega) c_14
          refine J_iload_n E dX5_sheet_17 rfl 2 rfl ?_
          refine J_bipush E dX5_sheet_18 bp_16 ?_
          refine J_icmp_eq E (tgt := 35) dX5_sheet_20 (by decide) (fun c_20 => ?_) (fun c_20 => ?_)
          · skip
            have n_20 : 16 = 16 := cmp_eq (a := 16) (b := 16) (by omega) (by omega) c_20
            refine J_iload_n E dX5_sheet_35 rfl 3 rfl ?_
            refine J_if_ge E (tgt := 46) dX5_sheet_36 (by decide) (fun c_36 => ?_) (fun c_36 => ?_)
            · skip
              refine J_iload_n E dX5_sheet_46 rfl 3 rfl ?_
              refine J_bipush E dX5_sheet_47 bp_40 ?_
              refine J_icmp_le E (tgt := 58) dX5_sheet_49 (by decide) (fun c_49 => ?_) (fun c_49 => ?_)
              · skip
                refine J_aload_n E dX5_sheet_58 rfl 0 rfl ?_
                refine gC0_X5_44 E dX5_sheet_59 ?_
                refine J_iload_n E dX5_sheet_62 rfl 1 rfl ?_
                refine laC_30_2 E dX5_sheet_63 ?_
                refine J_iload_n E dX5_sheet_64 rfl 2 rfl ?_
                refine J_iload_n E dX5_sheet_65 rfl 2 rfl ?_
                refine J_if_ne E (tgt := 73) dX5_sheet_66 (by decide) (fun c_66 => ?_) (fun c_66 => ?_)
                · skip
                  have n_66 : ¬ 16 = 0 := cmp_ne (a := 16) (b := 0) (by omega) (by omega) c_66
                  refine J_iload_n E dX5_sheet_73 rfl 3 rfl ?_
                  refine J_sv10 E (As := [.int 16, .int n]) (c_X2_begin l G (sh a 35) (x 10) 16 n ) cl_X5_205 yo_X2_begin dX5_sheet_74 rfl (Nat.le_of_ble_eq_true rfl) (Nat.le_of_ble_eq_true rfl) rfl (Nat.le_of_ble_eq_true rfl) ⟨Nat.zero_le _, Nat.zero_le _⟩ ?_
                  refine J_aload_n E dX5_sheet_77 rfl 0 rfl ?_
                  refine gC0_X5_44 E dX5_sheet_78 ?_
                  refine J_iload_n E dX5_sheet_81 rfl 1 rfl ?_
                  refine laC_30_2 E dX5_sheet_82 ?_
                  refine gC35_X5_208 E dX5_sheet_83 ?_
                  refine J_top (x' := (beginS (x 10) 16 n) 1 1) upG_s ?_
                  exact ret _ _ _ _ ⟨by rfl, _, rfl, by intro g h2 h6; simp [upG, up3, up3R, h2, h6]⟩ rfl dX5_sheet_86
                · skip
                  have n_66 : 16 = 0 := cmp_eq (a := 16) (b := 0) (by omega) (by omega) c_66
                  exact absurd n_66 (by decide)
              · skip
                exact absurd hn2 c_49
            · skip
              exact absurd (Int32.not_le.mp c_36) hn
          · skip
            have n_20 : ¬ 16 = 16 := cmp_ne (a := 16) (b := 16) (by omega) (by omega) c_20
            exact absurd n_20 (by decide)
  · skip
    refine J_iload_n E dX5_sheet_0 rfl 1 rfl ?_
    refine J_cSiN E (As := [.int (nI 2)]) (c_X5_isSheet l G (nI 2) ) cl_X5_202 yo_X5_isSheet dX5_sheet_1 rfl (Nat.le_of_ble_eq_true rfl) (Nat.le_of_ble_eq_true rfl) rfl (Nat.le_of_ble_eq_true rfl) ⟨Nat.zero_le _, Nat.zero_le _⟩ ?_
    refine J_if_eq E (tgt := 29) dX5_sheet_4 (by decide) (fun c_4 => ?_) (fun c_4 => ?_)
    · skip
      have c_4 := bI_0 c_4
      exact absurd (in3 (by decide)) c_4
    · skip
      have c_4 := bI_1 c_4
      refine J_iload_n E dX5_sheet_7 rfl 2 rfl ?_
      refine J_if_eq E (tgt := 35) dX5_sheet_8 (by decide) (fun c_8 => ?_) (fun c_8 => ?_)
      · skip
        have n_8 : 32 = 0 := cmp_eq (a := 32) (b := 0) (by omega) (by omega) c_8
        exact absurd n_8 (by decide)
      · skip
        have n_8 : ¬ 32 = 0 := cmp_ne (a := 32) (b := 0) (by omega) (by omega) c_8
        refine J_iload_n E dX5_sheet_11 rfl 2 rfl ?_
        refine J_bipush E dX5_sheet_12 bp_8 ?_
        refine J_icmp_eq E (tgt := 35) dX5_sheet_14 (by decide) (fun c_14 => ?_) (fun c_14 => ?_)
        · skip
          have n_14 : 32 = 8 := cmp_eq (a := 32) (b := 8) (by omega) (by omega) c_14
          exact absurd n_14 (by decide)
        · skip
          have n_14 : ¬ 32 = 8 := cmp_ne (a := 32) (b := 8) (by omega) (by omega) c_14
          refine J_iload_n E dX5_sheet_17 rfl 2 rfl ?_
          refine J_bipush E dX5_sheet_18 bp_16 ?_
          refine J_icmp_eq E (tgt := 35) dX5_sheet_20 (by decide) (fun c_20 => ?_) (fun c_20 => ?_)
          · skip
            have n_20 : 32 = 16 := cmp_eq (a := 32) (b := 16) (by omega) (by omega) c_20
            exact absurd n_20 (by decide)
          · skip
            have n_20 : ¬ 32 = 16 := cmp_ne (a := 32) (b := 16) (by omega) (by omega) c_20
            refine J_iload_n E dX5_sheet_23 rfl 2 rfl ?_
            refine J_bipush E dX5_sheet_24 bp_32 ?_
            refine J_icmp_eq E (tgt := 35) dX5_sheet_26 (by decide) (fun c_26 => ?_) (fun c_26 => ?_)
            · skip
              have n_26 : 32 = 32 := cmp_eq (a := 32) (b := 32) (by omega) (by omega) c_26
              refine J_iload_n E dX5_sheet_35 rfl 3 rfl ?_
              refine J_if_ge E (tgt := 46) dX5_sheet_36 (by decide) (fun c_36 => ?_) (fun c_36 => ?_)
              · skip
                refine J_iload_n E dX5_sheet_46 rfl 3 rfl ?_
                refine J_bipush E dX5_sheet_47 bp_40 ?_
                refine J_icmp_le E (tgt := 58) dX5_sheet_49 (by decide) (fun c_49 => ?_) (fun c_49 => ?_)
                · skip
                  refine J_aload_n E dX5_sheet_58 rfl 0 rfl ?_
                  refine gC0_X5_44 E dX5_sheet_59 ?_
                  refine J_iload_n E dX5_sheet_62 rfl 1 rfl ?_
                  refine laC_30_2 E dX5_sheet_63 ?_
                  refine J_iload_n E dX5_sheet_64 rfl 2 rfl ?_
                  refine J_iload_n E dX5_sheet_65 rfl 2 rfl ?_
                  refine J_if_ne E (tgt := 73) dX5_sheet_66 (by decide) (fun c_66 => ?_) (fun c_66 => ?_)
                  · skip
                    have n_66 : ¬ 32 = 0 := cmp_ne (a := 32) (b := 0) (by omega) (by omega) c_66
                    refine J_iload_n E dX5_sheet_73 rfl 3 rfl ?_
                    refine J_sv10 E (As := [.int 32, .int n]) (c_X2_begin l G (sh a 35) (x 10) 32 n ) cl_X5_205 yo_X2_begin dX5_sheet_74 rfl (Nat.le_of_ble_eq_true rfl) (Nat.le_of_ble_eq_true rfl) rfl (Nat.le_of_ble_eq_true rfl) ⟨Nat.zero_le _, Nat.zero_le _⟩ ?_
                    refine J_aload_n E dX5_sheet_77 rfl 0 rfl ?_
                    refine gC0_X5_44 E dX5_sheet_78 ?_
                    refine J_iload_n E dX5_sheet_81 rfl 1 rfl ?_
                    refine laC_30_2 E dX5_sheet_82 ?_
                    refine gC35_X5_208 E dX5_sheet_83 ?_
                    refine J_top (x' := (beginS (x 10) 32 n) 1 1) upG_s ?_
                    exact ret _ _ _ _ ⟨by rfl, _, rfl, by intro g h2 h6; simp [upG, up3, up3R, h2, h6]⟩ rfl dX5_sheet_86
                  · skip
                    have n_66 : 32 = 0 := cmp_eq (a := 32) (b := 0) (by omega) (by omega) c_66
                    exact absurd n_66 (by decide)
                · skip
                  exact absurd hn2 c_49
              · skip
                exact absurd (Int32.not_le.mp c_36) hn
            · skip
              have n_26 : ¬ 32 = 32 := cmp_ne (a := 32) (b := 32) (by omega) (by omega) c_26
              exact absurd n_26 (by decide)

set_option maxHeartbeats 4000000 in
set_option maxRecDepth 20000 in
theorem c_X5_sheet_ok_3 (l : Launch) (G : GB) (a : Nat → Nat) (x : Q3) (b n : Int32) (hbt : (b = 0 ∨ b = 8 ∨ b = 16 ∨ b = 32)) (hn : ¬ n < 0) (hn2 : n ≤ 40) : CI l yX5_sheet cX5_sheet 4 .int 2 45 G [.ref (a 0), .int (nI 3), .int b, .int n] (wC G a x) (fun vR w' => vR = (if b = 0 then 0 else n) ∧ PubC G a (upG x 11 (beginS (x 11) b (if b = 0 then 0 else n))) w') := by
  refine CI.mk (own := RX5) (by decide) rfl (Nat.le_of_ble_eq_true rfl) ?_
  intro X E ret
  show J X G 4 0 0 (wC G a x) [(0, .ref (a 0)), (1, .int (nI 3)), (2, .int b), (3, .int n)] 0 []
  rcases hbt with rfl | rfl | rfl | rfl
  · skip
    refine J_iload_n E dX5_sheet_0 rfl 1 rfl ?_
    refine J_cSiN E (As := [.int (nI 3)]) (c_X5_isSheet l G (nI 3) ) cl_X5_202 yo_X5_isSheet dX5_sheet_1 rfl (Nat.le_of_ble_eq_true rfl) (Nat.le_of_ble_eq_true rfl) rfl (Nat.le_of_ble_eq_true rfl) ⟨Nat.zero_le _, Nat.zero_le _⟩ ?_
    refine J_if_eq E (tgt := 29) dX5_sheet_4 (by decide) (fun c_4 => ?_) (fun c_4 => ?_)
    · skip
      have c_4 := bI_0 c_4
      exact absurd (in3 (by decide)) c_4
    · skip
      have c_4 := bI_1 c_4
      refine J_iload_n E dX5_sheet_7 rfl 2 rfl ?_
      refine J_if_eq E (tgt := 35) dX5_sheet_8 (by decide) (fun c_8 => ?_) (fun c_8 => ?_)
      · skip
        have n_8 : 0 = 0 := cmp_eq (a := 0) (b := 0) (by omega) (by omega) c_8
        refine J_iload_n E dX5_sheet_35 rfl 3 rfl ?_
        refine J_if_ge E (tgt := 46) dX5_sheet_36 (by decide) (fun c_36 => ?_) (fun c_36 => ?_)
        · skip
          refine J_iload_n E dX5_sheet_46 rfl 3 rfl ?_
          refine J_bipush E dX5_sheet_47 bp_40 ?_
          refine J_icmp_le E (tgt := 58) dX5_sheet_49 (by decide) (fun c_49 => ?_) (fun c_49 => ?_)
          · skip
            refine J_aload_n E dX5_sheet_58 rfl 0 rfl ?_
            refine gC0_X5_44 E dX5_sheet_59 ?_
            refine J_iload_n E dX5_sheet_62 rfl 1 rfl ?_
            refine laC_30_3 E dX5_sheet_63 ?_
            refine J_iload_n E dX5_sheet_64 rfl 2 rfl ?_
            refine J_iload_n E dX5_sheet_65 rfl 2 rfl ?_
            refine J_if_ne E (tgt := 73) dX5_sheet_66 (by decide) (fun c_66 => ?_) (fun c_66 => ?_)
            · skip
              have n_66 : ¬ 0 = 0 := cmp_ne (a := 0) (b := 0) (by omega) (by omega) c_66
              exact absurd n_66 (by decide)
            · skip
              have n_66 : 0 = 0 := cmp_eq (a := 0) (b := 0) (by omega) (by omega) c_66
              refine J_iconst E dX5_sheet_69 ic_0 ?_
              refine J_goto E (tgt := 74) dX5_sheet_70 (by decide) ?_
              refine J_sv11 E (As := [.int 0, .int 0]) (c_X2_begin l G (sh a 37) (x 11) 0 0 ) cl_X5_205 yo_X2_begin dX5_sheet_74 rfl (Nat.le_of_ble_eq_true rfl) (Nat.le_of_ble_eq_true rfl) rfl (Nat.le_of_ble_eq_true rfl) ⟨Nat.zero_le _, Nat.zero_le _⟩ ?_
              refine J_aload_n E dX5_sheet_77 rfl 0 rfl ?_
              refine gC0_X5_44 E dX5_sheet_78 ?_
              refine J_iload_n E dX5_sheet_81 rfl 1 rfl ?_
              refine laC_30_3 E dX5_sheet_82 ?_
              refine gC37_X5_208 E dX5_sheet_83 ?_
              refine J_top (x' := (beginS (x 11) 0 0) 1 1) upG_s ?_
              exact ret _ _ _ _ ⟨by rfl, _, rfl, by intro g h2 h6; simp [upG, up3, up3R, h2, h6]⟩ rfl dX5_sheet_86
          · skip
            exact absurd hn2 c_49
        · skip
          exact absurd (Int32.not_le.mp c_36) hn
      · skip
        have n_8 : ¬ 0 = 0 := cmp_ne (a := 0) (b := 0) (by omega) (by omega) c_8
        exact absurd n_8 (by decide)
  · skip
    refine J_iload_n E dX5_sheet_0 rfl 1 rfl ?_
    refine J_cSiN E (As := [.int (nI 3)]) (c_X5_isSheet l G (nI 3) ) cl_X5_202 yo_X5_isSheet dX5_sheet_1 rfl (Nat.le_of_ble_eq_true rfl) (Nat.le_of_ble_eq_true rfl) rfl (Nat.le_of_ble_eq_true rfl) ⟨Nat.zero_le _, Nat.zero_le _⟩ ?_
    refine J_if_eq E (tgt := 29) dX5_sheet_4 (by decide) (fun c_4 => ?_) (fun c_4 => ?_)
    · skip
      have c_4 := bI_0 c_4
      exact absurd (in3 (by decide)) c_4
    · skip
      have c_4 := bI_1 c_4
      refine J_iload_n E dX5_sheet_7 rfl 2 rfl ?_
      refine J_if_eq E (tgt := 35) dX5_sheet_8 (by decide) (fun c_8 => ?_) (fun c_8 => ?_)
      · skip
        have n_8 : 8 = 0 := cmp_eq (a := 8) (b := 0) (by omega) (by omega) c_8
        exact absurd n_8 (by decide)
      · skip
        have n_8 : ¬ 8 = 0 := cmp_ne (a := 8) (b := 0) (by omega) (by omega) c_8
        refine J_iload_n E dX5_sheet_11 rfl 2 rfl ?_
        refine J_bipush E dX5_sheet_12 bp_8 ?_
        refine J_icmp_eq E (tgt := 35) dX5_sheet_14 (by decide) (fun c_14 => ?_) (fun c_14 => ?_)
        · skip
          have n_14 : 8 = 8 := cmp_eq (a := 8) (b := 8) (by omega) (by omega) c_14
          refine J_iload_n E dX5_sheet_35 rfl 3 rfl ?_
          refine J_if_ge E (tgt := 46) dX5_sheet_36 (by decide) (fun c_36 => ?_) (fun c_36 => ?_)
          · skip
            refine J_iload_n E dX5_sheet_46 rfl 3 rfl ?_
            refine J_bipush E dX5_sheet_47 bp_40 ?_
            refine J_icmp_le E (tgt := 58) dX5_sheet_49 (by decide) (fun c_49 => ?_) (fun c_49 => ?_)
            · skip
              refine J_aload_n E dX5_sheet_58 rfl 0 rfl ?_
              refine gC0_X5_44 E dX5_sheet_59 ?_
              refine J_iload_n E dX5_sheet_62 rfl 1 rfl ?_
              refine laC_30_3 E dX5_sheet_63 ?_
              refine J_iload_n E dX5_sheet_64 rfl 2 rfl ?_
              refine J_iload_n E dX5_sheet_65 rfl 2 rfl ?_
              refine J_if_ne E (tgt := 73) dX5_sheet_66 (by decide) (fun c_66 => ?_) (fun c_66 => ?_)
              · skip
                have n_66 : ¬ 8 = 0 := cmp_ne (a := 8) (b := 0) (by omega) (by omega) c_66
                refine J_iload_n E dX5_sheet_73 rfl 3 rfl ?_
                refine J_sv11 E (As := [.int 8, .int n]) (c_X2_begin l G (sh a 37) (x 11) 8 n ) cl_X5_205 yo_X2_begin dX5_sheet_74 rfl (Nat.le_of_ble_eq_true rfl) (Nat.le_of_ble_eq_true rfl) rfl (Nat.le_of_ble_eq_true rfl) ⟨Nat.zero_le _, Nat.zero_le _⟩ ?_
                refine J_aload_n E dX5_sheet_77 rfl 0 rfl ?_
                refine gC0_X5_44 E dX5_sheet_78 ?_
                refine J_iload_n E dX5_sheet_81 rfl 1 rfl ?_
                refine laC_30_3 E dX5_sheet_82 ?_
                refine gC37_X5_208 E dX5_sheet_83 ?_
                refine J_top (x' := (beginS (x 11) 8 n) 1 1) upG_s ?_
                exact ret _ _ _ _ ⟨by rfl, _, rfl, by intro g h2 h6; simp [upG, up3, up3R, h2, h6]⟩ rfl dX5_sheet_86
              · skip
                have n_66 : 8 = 0 := cmp_eq (a := 8) (b := 0) (by omega) (by omega) c_66
                exact absurd n_66 (by decide)
            · skip
              exact absurd hn2 c_49
          · skip
            exact absurd (Int32.not_le.mp c_36) hn
        · skip
          have n_14 : ¬ 8 = 8 := cmp_ne (a := 8) (b := 8) (by omega) (by omega) c_14
          exact absurd n_14 (by decide)
  · skip
    refine J_iload_n E dX5_sheet_0 rfl 1 rfl ?_
    refine J_cSiN E (As := [.int (nI 3)]) (c_X5_isSheet l G (nI 3) ) cl_X5_202 yo_X5_isSheet dX5_sheet_1 rfl (Nat.le_of_ble_eq_true rfl) (Nat.le_of_ble_eq_true rfl) rfl (Nat.le_of_ble_eq_true rfl) ⟨Nat.zero_le _, Nat.zero_le _⟩ ?_
    refine J_if_eq E (tgt := 29) dX5_sheet_4 (by decide) (fun c_4 => ?_) (fun c_4 => ?_)
    · skip
      have c_4 := bI_0 c_4
      exact absurd (in3 (by decide)) c_4
    · skip
      have c_4 := bI_1 c_4
      refine J_iload_n E dX5_sheet_7 rfl 2 rfl ?_
      refine J_if_eq E (tgt := 35) dX5_sheet_8 (by decide) (fun c_8 => ?_) (fun c_8 => ?_)
      · skip
        have n_8 : 16 = 0 := cmp_eq (a := 16) (b := 0) (by omega) (by omega) c_8
        exact absurd n_8 (by decide)
      · skip
        have n_8 : ¬ 16 = 0 := cmp_ne (a := 16) (b := 0) (by omega) (by omega) c_8
        refine J_iload_n E dX5_sheet_11 rfl 2 rfl ?_
        refine J_bipush E dX5_sheet_12 bp_8 ?_
        refine J_icmp_eq E (tgt := 35) dX5_sheet_14 (by decide) (fun c_14 => ?_) (fun c_14 => ?_)
        · skip
          have n_14 : 16 = 8 := cmp_eq (a := 16) (b := 8) (by omega) (by omega) c_14
          exact absurd n_14 (by decide)
        · skip
          have n_14 : ¬ 16 = 8 := cmp_ne (a := 16) (b := 8) (by omega) (by omega) c_14
          refine J_iload_n E dX5_sheet_17 rfl 2 rfl ?_
          refine J_bipush E dX5_sheet_18 bp_16 ?_
          refine J_icmp_eq E (tgt := 35) dX5_sheet_20 (by decide) (fun c_20 => ?_) (fun c_20 => ?_)
          · skip
            have n_20 : 16 = 16 := cmp_eq (a := 16) (b := 16) (by omega) (by omega) c_20
            refine J_iload_n E dX5_sheet_35 rfl 3 rfl ?_
            refine J_if_ge E (tgt := 46) dX5_sheet_36 (by decide) (fun c_36 => ?_) (fun c_36 => ?_)
            · skip
              refine J_iload_n E dX5_sheet_46 rfl 3 rfl ?_
              refine J_bipush E dX5_sheet_47 bp_40 ?_
              refine J_icmp_le E (tgt := 58) dX5_sheet_49 (by decide) (fun c_49 => ?_) (fun c_49 => ?_)
              · skip
                refine J_aload_n E dX5_sheet_58 rfl 0 rfl ?_
                refine gC0_X5_44 E dX5_sheet_59 ?_
                refine J_iload_n E dX5_sheet_62 rfl 1 rfl ?_
                refine laC_30_3 E dX5_sheet_63 ?_
                refine J_iload_n E dX5_sheet_64 rfl 2 rfl ?_
                refine J_iload_n E dX5_sheet_65 rfl 2 rfl ?_
                refine J_if_ne E (tgt := 73) dX5_sheet_66 (by decide) (fun c_66 => ?_) (fun c_66 => ?_)
                · skip
                  have n_66 : ¬ 16 = 0 := cmp_ne (a := 16) (b := 0) (by omega) (by omega) c_66
                  refine J_iload_n E dX5_sheet_73 rfl 3 rfl ?_
                  refine J_sv11 E (As := [.int 16, .int n]) (c_X2_begin l G (sh a 37) (x 11) 16 n ) cl_X5_205 yo_X2_begin dX5_sheet_74 rfl (Nat.le_of_ble_eq_true rfl) (Nat.le_of_ble_eq_true rfl) rfl (Nat.le_of_ble_eq_true rfl) ⟨Nat.zero_le _, Nat.zero_le _⟩ ?_
                  refine J_aload_n E dX5_sheet_77 rfl 0 rfl ?_
                  refine gC0_X5_44 E dX5_sheet_78 ?_
                  refine J_iload_n E dX5_sheet_81 rfl 1 rfl ?_
                  refine laC_30_3 E dX5_sheet_82 ?_
                  refine gC37_X5_208 E dX5_sheet_83 ?_
                  refine J_top (x' := (beginS (x 11) 16 n) 1 1) upG_s ?_
                  exact ret _ _ _ _ ⟨by rfl, _, rfl, by intro g h2 h6; simp [upG, up3, up3R, h2, h6]⟩ rfl dX5_sheet_86
                · skip
                  have n_66 : 16 = 0 := cmp_eq (a := 16) (b := 0) (by omega) (by omega) c_66
                  exact absurd n_66 (by decide)
              · skip
                exact absurd hn2 c_49
            · skip
              exact absurd (Int32.not_le.mp c_36) hn
          · skip
            have n_20 : ¬ 16 = 16 := cmp_ne (a := 16) (b := 16) (by omega) (by omega) c_20
            exact absurd n_20 (by decide)
  · skip
    refine J_iload_n E dX5_sheet_0 rfl 1 rfl ?_
    refine J_cSiN E (As := [.int (nI 3)]) (c_X5_isSheet l G (nI 3) ) cl_X5_202 yo_X5_isSheet dX5_sheet_1 rfl (Nat.le_of_ble_eq_true rfl) (Nat.le_of_ble_eq_true rfl) rfl (Nat.le_of_ble_eq_true rfl) ⟨Nat.zero_le _, Nat.zero_le _⟩ ?_
    refine J_if_eq E (tgt := 29) dX5_sheet_4 (by decide) (fun c_4 => ?_) (fun c_4 => ?_)
    · skip
      have c_4 := bI_0 c_4
      exact absurd (in3 (by decide)) c_4
    · skip
      have c_4 := bI_1 c_4
      refine J_iload_n E dX5_sheet_7 rfl 2 rfl ?_
      refine J_if_eq E (tgt := 35) dX5_sheet_8 (by decide) (fun c_8 => ?_) (fun c_8 => ?_)
      · skip
        have n_8 : 32 = 0 := cmp_eq (a := 32) (b := 0) (by omega) (by omega) c_8
        exact absurd n_8 (by decide)
      · skip
        have n_8 : ¬ 32 = 0 := cmp_ne (a := 32) (b := 0) (by omega) (by omega) c_8
        refine J_iload_n E dX5_sheet_11 rfl 2 rfl ?_
        refine J_bipush E dX5_sheet_12 bp_8 ?_
        refine J_icmp_eq E (tgt := 35) dX5_sheet_14 (by decide) (fun c_14 => ?_) (fun c_14 => ?_)
        · skip
          have n_14 : 32 = 8 := cmp_eq (a := 32) (b := 8) (by omega) (by omega) c_14
          exact absurd n_14 (by decide)
        · skip
          have n_14 : ¬ 32 = 8 := cmp_ne (a := 32) (b := 8) (by omega) (by omega) c_14
          refine J_iload_n E dX5_sheet_17 rfl 2 rfl ?_
          refine J_bipush E dX5_sheet_18 bp_16 ?_
          refine J_icmp_eq E (tgt := 35) dX5_sheet_20 (by decide) (fun c_20 => ?_) (fun c_20 => ?_)
          · skip
            have n_20 : 32 = 16 := cmp_eq (a := 32) (b := 16) (by omega) (by omega) c_20
            exact absurd n_20 (by decide)
          · skip
            have n_20 : ¬ 32 = 16 := cmp_ne (a := 32) (b := 16) (by omega) (by omega) c_20
            refine J_iload_n E dX5_sheet_23 rfl 2 rfl ?_
            refine J_bipush E dX5_sheet_24 bp_32 ?_
            refine J_icmp_eq E (tgt := 35) dX5_sheet_26 (by decide) (fun c_26 => ?_) (fun c_26 => ?_)
            · skip
              have n_26 : 32 = 32 := cmp_eq (a := 32) (b := 32) (by omega) (by omega) c_26
              refine J_iload_n E dX5_sheet_35 rfl 3 rfl ?_
              refine J_if_ge E (tgt := 46) dX5_sheet_36 (by decide) (fun c_36 => ?_) (fun c_36 => ?_)
              · skip
                refine J_iload_n E dX5_sheet_46 rfl 3 rfl ?_
                refine J_bipush E dX5_sheet_47 bp_40 ?_
                refine J_icmp_le E (tgt := 58) dX5_sheet_49 (by decide) (fun c_49 => ?_) (fun c_49 => ?_)
                · skip
                  refine J_aload_n E dX5_sheet_58 rfl 0 rfl ?_
                  refine gC0_X5_44 E dX5_sheet_59 ?_
                  refine J_iload_n E dX5_sheet_62 rfl 1 rfl ?_
                  refine laC_30_3 E dX5_sheet_63 ?_
                  refine J_iload_n E dX5_sheet_64 rfl 2 rfl ?_
                  refine J_iload_n E dX5_sheet_65 rfl 2 rfl ?_
                  refine J_if_ne E (tgt := 73) dX5_sheet_66 (by decide) (fun c_66 => ?_) (fun c_66 => ?_)
                  · skip
                    have n_66 : ¬ 32 = 0 := cmp_ne (a := 32) (b := 0) (by omega) (by omega) c_66
                    refine J_iload_n E dX5_sheet_73 rfl 3 rfl ?_
                    refine J_sv11 E (As := [.int 32, .int n]) (c_X2_begin l G (sh a 37) (x 11) 32 n ) cl_X5_205 yo_X2_begin dX5_sheet_74 rfl (Nat.le_of_ble_eq_true rfl) (Nat.le_of_ble_eq_true rfl) rfl (Nat.le_of_ble_eq_true rfl) ⟨Nat.zero_le _, Nat.zero_le _⟩ ?_
                    refine J_aload_n E dX5_sheet_77 rfl 0 rfl ?_
                    refine gC0_X5_44 E dX5_sheet_78 ?_
                    refine J_iload_n E dX5_sheet_81 rfl 1 rfl ?_
                    refine laC_30_3 E dX5_sheet_82 ?_
                    refine gC37_X5_208 E dX5_sheet_83 ?_
                    refine J_top (x' := (beginS (x 11) 32 n) 1 1) upG_s ?_
                    exact ret _ _ _ _ ⟨by rfl, _, rfl, by intro g h2 h6; simp [upG, up3, up3R, h2, h6]⟩ rfl dX5_sheet_86
                  · skip
                    have n_66 : 32 = 0 := cmp_eq (a := 32) (b := 0) (by omega) (by omega) c_66
                    exact absurd n_66 (by decide)
                · skip
                  exact absurd hn2 c_49
              · skip
                exact absurd (Int32.not_le.mp c_36) hn
            · skip
              have n_26 : ¬ 32 = 32 := cmp_ne (a := 32) (b := 32) (by omega) (by omega) c_26
              exact absurd n_26 (by decide)

set_option maxHeartbeats 4000000 in
set_option maxRecDepth 20000 in
theorem c_X5_write_out (l : Launch) (G : GB) (a : Nat → Nat) (x : Q3) (s : Int32) (i : Int32) (v : Int32) (hs : ¬ (0 ≤ s ∧ s ≤ 3)) : CI l yX5_write cX5_write 5 .int 3 62 G [.ref (a 0), .int s, .int i, .int v] (wC G a x) (fun vR w' => vR = tellR 0 ∧ PubC G a (tellX x 0) w') := by
  refine CI.mk (own := RX5) (by decide) rfl (Nat.le_of_ble_eq_true rfl) ?_
  intro X E ret
  show J X G 5 0 0 (wC G a x) [(0, .ref (a 0)), (1, .int s), (2, .int i), (3, .int v)] 0 []
  refine J_aload_n E dX5_write_0 rfl 0 rfl ?_
  refine J_iload_n E dX5_write_1 rfl 1 rfl ?_
  refine J_cVi0 E (As := [.int s]) (c_X5_seekSheet_out l G a x s hs ) cl_X5_170 yo_X5_seekSheet dX5_write_2 rfl rfl rfl (Nat.le_of_ble_eq_true rfl) (Nat.le_of_ble_eq_true rfl) rfl (Nat.le_of_ble_eq_true rfl) ⟨Nat.zero_le _, Nat.zero_le _⟩ ?_
  refine J_istore E (lv' := [(4, .int (tellR 0)), (0, .ref (a 0)), (1, .int s), (2, .int i), (3, .int v)]) dX5_write_5 (by decide) rfl ?_
  refine J_iload E dX5_write_7 0 rfl ?_
  refine J_if_eq E (tgt := 15) dX5_write_9 (by decide) (fun c_9 => ?_) (fun c_9 => ?_)
  · skip
    exact absurd c_9 (tellR_ne (by decide))
  · skip
    refine J_iload E dX5_write_12 0 rfl ?_
    exact ret _ _ _ _ ⟨rfl, _, rfl, by intro g h2 h6; simp [upG, up3, up3R, h2, h6]⟩ rfl dX5_write_14

set_option maxHeartbeats 4000000 in
set_option maxRecDepth 20000 in
theorem c_X5_write_miss_0 (l : Launch) (G : GB) (a : Nat → Nat) (x : Q3) (i : Int32) (v : Int32) (hb : x 8 1 0 = 0) : CI l yX5_write cX5_write 5 .int 3 62 G [.ref (a 0), .int (nI 0), .int i, .int v] (wC G a x) (fun vR w' => vR = tellR 5 ∧ PubC G a (tellX x 5) w') := by
  refine CI.mk (own := RX5) (by decide) rfl (Nat.le_of_ble_eq_true rfl) ?_
  intro X E ret
  show J X G 5 0 0 (wC G a x) [(0, .ref (a 0)), (1, .int (nI 0)), (2, .int i), (3, .int v)] 0 []
  refine J_aload_n E dX5_write_0 rfl 0 rfl ?_
  refine J_iload_n E dX5_write_1 rfl 1 rfl ?_
  refine J_cVi0 E (As := [.int (nI 0)]) (c_X5_seekSheet_0_0 l G a x hb ) cl_X5_170 yo_X5_seekSheet dX5_write_2 rfl rfl rfl (Nat.le_of_ble_eq_true rfl) (Nat.le_of_ble_eq_true rfl) rfl (Nat.le_of_ble_eq_true rfl) ⟨Nat.zero_le _, Nat.zero_le _⟩ ?_
  refine J_istore E (lv' := [(4, .int (tellR 5)), (0, .ref (a 0)), (1, .int (nI 0)), (2, .int i), (3, .int v)]) dX5_write_5 (by decide) rfl ?_
  refine J_iload E dX5_write_7 0 rfl ?_
  refine J_if_eq E (tgt := 15) dX5_write_9 (by decide) (fun c_9 => ?_) (fun c_9 => ?_)
  · skip
    exact absurd c_9 (tellR_ne (by decide))
  · skip
    refine J_iload E dX5_write_12 0 rfl ?_
    exact ret _ _ _ _ ⟨rfl, _, rfl, by intro g h2 h6; simp [upG, up3, up3R, h2, h6]⟩ rfl dX5_write_14

set_option maxHeartbeats 4000000 in
set_option maxRecDepth 20000 in
theorem c_X5_write_miss_1 (l : Launch) (G : GB) (a : Nat → Nat) (x : Q3) (i : Int32) (v : Int32) (hb : x 9 1 0 = 0) : CI l yX5_write cX5_write 5 .int 3 62 G [.ref (a 0), .int (nI 1), .int i, .int v] (wC G a x) (fun vR w' => vR = tellR 5 ∧ PubC G a (tellX x 5) w') := by
  refine CI.mk (own := RX5) (by decide) rfl (Nat.le_of_ble_eq_true rfl) ?_
  intro X E ret
  show J X G 5 0 0 (wC G a x) [(0, .ref (a 0)), (1, .int (nI 1)), (2, .int i), (3, .int v)] 0 []
  refine J_aload_n E dX5_write_0 rfl 0 rfl ?_
  refine J_iload_n E dX5_write_1 rfl 1 rfl ?_
  refine J_cVi0 E (As := [.int (nI 1)]) (c_X5_seekSheet_1_0 l G a x hb ) cl_X5_170 yo_X5_seekSheet dX5_write_2 rfl rfl rfl (Nat.le_of_ble_eq_true rfl) (Nat.le_of_ble_eq_true rfl) rfl (Nat.le_of_ble_eq_true rfl) ⟨Nat.zero_le _, Nat.zero_le _⟩ ?_
  refine J_istore E (lv' := [(4, .int (tellR 5)), (0, .ref (a 0)), (1, .int (nI 1)), (2, .int i), (3, .int v)]) dX5_write_5 (by decide) rfl ?_
  refine J_iload E dX5_write_7 0 rfl ?_
  refine J_if_eq E (tgt := 15) dX5_write_9 (by decide) (fun c_9 => ?_) (fun c_9 => ?_)
  · skip
    exact absurd c_9 (tellR_ne (by decide))
  · skip
    refine J_iload E dX5_write_12 0 rfl ?_
    exact ret _ _ _ _ ⟨rfl, _, rfl, by intro g h2 h6; simp [upG, up3, up3R, h2, h6]⟩ rfl dX5_write_14

set_option maxHeartbeats 4000000 in
set_option maxRecDepth 20000 in
theorem c_X5_write_miss_2 (l : Launch) (G : GB) (a : Nat → Nat) (x : Q3) (i : Int32) (v : Int32) (hb : x 10 1 0 = 0) : CI l yX5_write cX5_write 5 .int 3 62 G [.ref (a 0), .int (nI 2), .int i, .int v] (wC G a x) (fun vR w' => vR = tellR 5 ∧ PubC G a (tellX x 5) w') := by
  refine CI.mk (own := RX5) (by decide) rfl (Nat.le_of_ble_eq_true rfl) ?_
  intro X E ret
  show J X G 5 0 0 (wC G a x) [(0, .ref (a 0)), (1, .int (nI 2)), (2, .int i), (3, .int v)] 0 []
  refine J_aload_n E dX5_write_0 rfl 0 rfl ?_
  refine J_iload_n E dX5_write_1 rfl 1 rfl ?_
  refine J_cVi0 E (As := [.int (nI 2)]) (c_X5_seekSheet_2_0 l G a x hb ) cl_X5_170 yo_X5_seekSheet dX5_write_2 rfl rfl rfl (Nat.le_of_ble_eq_true rfl) (Nat.le_of_ble_eq_true rfl) rfl (Nat.le_of_ble_eq_true rfl) ⟨Nat.zero_le _, Nat.zero_le _⟩ ?_
  refine J_istore E (lv' := [(4, .int (tellR 5)), (0, .ref (a 0)), (1, .int (nI 2)), (2, .int i), (3, .int v)]) dX5_write_5 (by decide) rfl ?_
  refine J_iload E dX5_write_7 0 rfl ?_
  refine J_if_eq E (tgt := 15) dX5_write_9 (by decide) (fun c_9 => ?_) (fun c_9 => ?_)
  · skip
    exact absurd c_9 (tellR_ne (by decide))
  · skip
    refine J_iload E dX5_write_12 0 rfl ?_
    exact ret _ _ _ _ ⟨rfl, _, rfl, by intro g h2 h6; simp [upG, up3, up3R, h2, h6]⟩ rfl dX5_write_14

set_option maxHeartbeats 4000000 in
set_option maxRecDepth 20000 in
theorem c_X5_write_miss_3 (l : Launch) (G : GB) (a : Nat → Nat) (x : Q3) (i : Int32) (v : Int32) (hb : x 11 1 0 = 0) : CI l yX5_write cX5_write 5 .int 3 62 G [.ref (a 0), .int (nI 3), .int i, .int v] (wC G a x) (fun vR w' => vR = tellR 5 ∧ PubC G a (tellX x 5) w') := by
  refine CI.mk (own := RX5) (by decide) rfl (Nat.le_of_ble_eq_true rfl) ?_
  intro X E ret
  show J X G 5 0 0 (wC G a x) [(0, .ref (a 0)), (1, .int (nI 3)), (2, .int i), (3, .int v)] 0 []
  refine J_aload_n E dX5_write_0 rfl 0 rfl ?_
  refine J_iload_n E dX5_write_1 rfl 1 rfl ?_
  refine J_cVi0 E (As := [.int (nI 3)]) (c_X5_seekSheet_3_0 l G a x hb ) cl_X5_170 yo_X5_seekSheet dX5_write_2 rfl rfl rfl (Nat.le_of_ble_eq_true rfl) (Nat.le_of_ble_eq_true rfl) rfl (Nat.le_of_ble_eq_true rfl) ⟨Nat.zero_le _, Nat.zero_le _⟩ ?_
  refine J_istore E (lv' := [(4, .int (tellR 5)), (0, .ref (a 0)), (1, .int (nI 3)), (2, .int i), (3, .int v)]) dX5_write_5 (by decide) rfl ?_
  refine J_iload E dX5_write_7 0 rfl ?_
  refine J_if_eq E (tgt := 15) dX5_write_9 (by decide) (fun c_9 => ?_) (fun c_9 => ?_)
  · skip
    exact absurd c_9 (tellR_ne (by decide))
  · skip
    refine J_iload E dX5_write_12 0 rfl ?_
    exact ret _ _ _ _ ⟨rfl, _, rfl, by intro g h2 h6; simp [upG, up3, up3R, h2, h6]⟩ rfl dX5_write_14

set_option maxHeartbeats 4000000 in
set_option maxRecDepth 20000 in
theorem c_X5_write_bad_0 (l : Launch) (G : GB) (a : Nat → Nat) (x : Q3) (i v : Int32) (hb : ¬ x 8 1 0 = 0) (hi : ¬ (0 ≤ i ∧ i < x 8 1 1)) : CI l yX5_write cX5_write 5 .int 3 62 G [.ref (a 0), .int (nI 0), .int i, .int v] (wC G a x) (fun vR w' => vR = tellR 0 ∧ PubC G a (tellX x 0) w') := by
  refine CI.mk (own := RX5) (by decide) rfl (Nat.le_of_ble_eq_true rfl) ?_
  intro X E ret
  show J X G 5 0 0 (wC G a x) [(0, .ref (a 0)), (1, .int (nI 0)), (2, .int i), (3, .int v)] 0 []
  refine J_aload_n E dX5_write_0 rfl 0 rfl ?_
  refine J_iload_n E dX5_write_1 rfl 1 rfl ?_
  refine J_cVi0 E (As := [.int (nI 0)]) (c_X5_seekSheet_0_1 l G a x hb ) cl_X5_170 yo_X5_seekSheet dX5_write_2 rfl rfl rfl (Nat.le_of_ble_eq_true rfl) (Nat.le_of_ble_eq_true rfl) rfl (Nat.le_of_ble_eq_true rfl) ⟨Nat.zero_le _, Nat.zero_le _⟩ ?_
  refine J_istore E (lv' := [(4, .int 0), (0, .ref (a 0)), (1, .int (nI 0)), (2, .int i), (3, .int v)]) dX5_write_5 (by decide) rfl ?_
  refine J_iload E dX5_write_7 0 rfl ?_
  refine J_if_eq E (tgt := 15) dX5_write_9 (by decide) (fun c_9 => ?_) (fun c_9 => ?_)
  · skip
    have n_9 : 0 = 0 := cmp_eq (a := 0) (b := 0) (by omega) (by omega) c_9
    refine J_iload_n E dX5_write_15 rfl 3 rfl ?_
    refine J_if_lt E (tgt := 32) dX5_write_16 (by decide) (fun c_16 => ?_) (fun c_16 => ?_)
    · skip
      refine J_aload_n E dX5_write_32 rfl 1 rfl ?_
      refine J_iconst E dX5_write_33 ic_0 ?_
      refine J_cVi0 E (As := [.int 0]) (c_X5_tell l G a x 0 (by omega)) cl_X5_64 yo_X5_tell dX5_write_34 rfl rfl rfl (Nat.le_of_ble_eq_true rfl) (Nat.le_of_ble_eq_true rfl) rfl (Nat.le_of_ble_eq_true rfl) ⟨Nat.zero_le _, Nat.zero_le _⟩ ?_
      exact ret _ _ _ _ ⟨rfl, _, rfl, by intro g h2 h6; simp [upG, up3, up3R, h2, h6]⟩ rfl dX5_write_37
    · skip
      refine J_iload_n E dX5_write_19 rfl 3 rfl ?_
      refine J_aload_n E dX5_write_20 rfl 1 rfl ?_
      refine gC0_X5_44 E dX5_write_21 ?_
      refine J_iload_n E dX5_write_24 rfl 2 rfl ?_
      refine laC_30_0 E dX5_write_25 ?_
      refine gC31_X5_208 E dX5_write_26 ?_
      refine J_icmp_lt E (tgt := 38) dX5_write_29 (by decide) (fun c_29 => ?_) (fun c_29 => ?_)
      · skip
        exact absurd ⟨Int32.not_lt.mp c_16, c_29⟩ hi
      · skip
        refine J_aload_n E dX5_write_32 rfl 1 rfl ?_
        refine J_iconst E dX5_write_33 ic_0 ?_
        refine J_cVi0 E (As := [.int 0]) (c_X5_tell l G a x 0 (by omega)) cl_X5_64 yo_X5_tell dX5_write_34 rfl rfl rfl (Nat.le_of_ble_eq_true rfl) (Nat.le_of_ble_eq_true rfl) rfl (Nat.le_of_ble_eq_true rfl) ⟨Nat.zero_le _, Nat.zero_le _⟩ ?_
        exact ret _ _ _ _ ⟨rfl, _, rfl, by intro g h2 h6; simp [upG, up3, up3R, h2, h6]⟩ rfl dX5_write_37
  · skip
    have n_9 : ¬ 0 = 0 := cmp_ne (a := 0) (b := 0) (by omega) (by omega) c_9
    exact absurd n_9 (by decide)

set_option maxHeartbeats 4000000 in
set_option maxRecDepth 20000 in
theorem c_X5_write_ok_0 (l : Launch) (G : GB) (a : Nat → Nat) (x : Q3) (j n : Nat) (v : Int32) (hb : ¬ x 8 1 0 = 0) (hn : x 8 1 1 = nI n) (hn2 : n ≤ 40) (hj : j < n) : CI l yX5_write cX5_write 5 .int 3 62 G [.ref (a 0), .int (nI 0), .int (nI j), .int v] (wC G a x) (fun vR w' => vR = 1 ∧ PubC G a (upG x 8 (up2 (x 8) 0 j (narS (x 8 1 0) v))) w') := by
  refine CI.mk (own := RX5) (by decide) rfl (Nat.le_of_ble_eq_true rfl) ?_
  intro X E ret
  show J X G 5 0 0 (wC G a x) [(0, .ref (a 0)), (1, .int (nI 0)), (2, .int (nI j)), (3, .int v)] 0 []
  refine J_aload_n E dX5_write_0 rfl 0 rfl ?_
  refine J_iload_n E dX5_write_1 rfl 1 rfl ?_
  refine J_cVi0 E (As := [.int (nI 0)]) (c_X5_seekSheet_0_1 l G a x hb ) cl_X5_170 yo_X5_seekSheet dX5_write_2 rfl rfl rfl (Nat.le_of_ble_eq_true rfl) (Nat.le_of_ble_eq_true rfl) rfl (Nat.le_of_ble_eq_true rfl) ⟨Nat.zero_le _, Nat.zero_le _⟩ ?_
  refine J_istore E (lv' := [(4, .int 0), (0, .ref (a 0)), (1, .int (nI 0)), (2, .int (nI j)), (3, .int v)]) dX5_write_5 (by decide) rfl ?_
  refine J_iload E dX5_write_7 0 rfl ?_
  refine J_if_eq E (tgt := 15) dX5_write_9 (by decide) (fun c_9 => ?_) (fun c_9 => ?_)
  · skip
    have n_9 : 0 = 0 := cmp_eq (a := 0) (b := 0) (by omega) (by omega) c_9
    refine J_iload_n E dX5_write_15 rfl 3 rfl ?_
    refine J_if_lt E (tgt := 32) dX5_write_16 (by decide) (fun c_16 => ?_) (fun c_16 => ?_)
    · skip
      have n_16 : j < 0 := cmp_lt (a := j) (b := 0) (by omega) (by omega) c_16
      exact absurd n_16 (by omega)
    · skip
      have n_16 : ¬ j < 0 := cmp_nlt (a := j) (b := 0) (by omega) (by omega) c_16
      refine J_iload_n E dX5_write_19 rfl 3 rfl ?_
      refine J_aload_n E dX5_write_20 rfl 1 rfl ?_
      refine gC0_X5_44 E dX5_write_21 ?_
      refine J_iload_n E dX5_write_24 rfl 2 rfl ?_
      refine laC_30_0 E dX5_write_25 ?_
      refine gC31_X5_208 E dX5_write_26 ?_
      refine J_top (x' := nI n) (hn) ?_
      refine J_icmp_lt E (tgt := 38) dX5_write_29 (by decide) (fun c_29 => ?_) (fun c_29 => ?_)
      · skip
        have n_29 : j < n := cmp_lt (a := j) (b := n) (by omega) (by omega) c_29
        refine J_aload_n E dX5_write_38 rfl 1 rfl ?_
        refine gC0_X5_44 E dX5_write_39 ?_
        refine J_iload_n E dX5_write_42 rfl 2 rfl ?_
        refine laC_30_0 E dX5_write_43 ?_
        refine J_iload_n E dX5_write_44 rfl 3 rfl ?_
        refine J_iload_n E dX5_write_45 rfl 4 rfl ?_
        refine J_sv8 E (As := [.int (nI j), .int v]) (c_X2_put l G (sh a 31) (x 8) j v (by omega)) cl_X5_209 yo_X2_put dX5_write_46 rfl (Nat.le_of_ble_eq_true rfl) (Nat.le_of_ble_eq_true rfl) rfl (Nat.le_of_ble_eq_true rfl) ⟨Nat.zero_le _, Nat.zero_le _⟩ ?_
        refine J_iconst E dX5_write_49 ic_1 ?_
        exact ret _ _ _ _ ⟨rfl, _, rfl, by intro g h2 h6; simp [upG, up3, up3R, h2, h6]⟩ rfl dX5_write_50
      · skip
        have n_29 : ¬ j < n := cmp_nlt (a := j) (b := n) (by omega) (by omega) c_29
        exact absurd hj n_29
  · skip
    have n_9 : ¬ 0 = 0 := cmp_ne (a := 0) (b := 0) (by omega) (by omega) c_9
    exact absurd n_9 (by decide)

set_option maxHeartbeats 4000000 in
set_option maxRecDepth 20000 in
theorem c_X5_write_bad_1 (l : Launch) (G : GB) (a : Nat → Nat) (x : Q3) (i v : Int32) (hb : ¬ x 9 1 0 = 0) (hi : ¬ (0 ≤ i ∧ i < x 9 1 1)) : CI l yX5_write cX5_write 5 .int 3 62 G [.ref (a 0), .int (nI 1), .int i, .int v] (wC G a x) (fun vR w' => vR = tellR 0 ∧ PubC G a (tellX x 0) w') := by
  refine CI.mk (own := RX5) (by decide) rfl (Nat.le_of_ble_eq_true rfl) ?_
  intro X E ret
  show J X G 5 0 0 (wC G a x) [(0, .ref (a 0)), (1, .int (nI 1)), (2, .int i), (3, .int v)] 0 []
  refine J_aload_n E dX5_write_0 rfl 0 rfl ?_
  refine J_iload_n E dX5_write_1 rfl 1 rfl ?_
  refine J_cVi0 E (As := [.int (nI 1)]) (c_X5_seekSheet_1_1 l G a x hb ) cl_X5_170 yo_X5_seekSheet dX5_write_2 rfl rfl rfl (Nat.le_of_ble_eq_true rfl) (Nat.le_of_ble_eq_true rfl) rfl (Nat.le_of_ble_eq_true rfl) ⟨Nat.zero_le _, Nat.zero_le _⟩ ?_
  refine J_istore E (lv' := [(4, .int 0), (0, .ref (a 0)), (1, .int (nI 1)), (2, .int i), (3, .int v)]) dX5_write_5 (by decide) rfl ?_
  refine J_iload E dX5_write_7 0 rfl ?_
  refine J_if_eq E (tgt := 15) dX5_write_9 (by decide) (fun c_9 => ?_) (fun c_9 => ?_)
  · skip
    have n_9 : 0 = 0 := cmp_eq (a := 0) (b := 0) (by omega) (by omega) c_9
    refine J_iload_n E dX5_write_15 rfl 3 rfl ?_
    refine J_if_lt E (tgt := 32) dX5_write_16 (by decide) (fun c_16 => ?_) (fun c_16 => ?_)
    · skip
      refine J_aload_n E dX5_write_32 rfl 1 rfl ?_
      refine J_iconst E dX5_write_33 ic_0 ?_
      refine J_cVi0 E (As := [.int 0]) (c_X5_tell l G a x 0 (by omega)) cl_X5_64 yo_X5_tell dX5_write_34 rfl rfl rfl (Nat.le_of_ble_eq_true rfl) (Nat.le_of_ble_eq_true rfl) rfl (Nat.le_of_ble_eq_true rfl) ⟨Nat.zero_le _, Nat.zero_le _⟩ ?_
      exact ret _ _ _ _ ⟨rfl, _, rfl, by intro g h2 h6; simp [upG, up3, up3R, h2, h6]⟩ rfl dX5_write_37
    · skip
      refine J_iload_n E dX5_write_19 rfl 3 rfl ?_
      refine J_aload_n E dX5_write_20 rfl 1 rfl ?_
      refine gC0_X5_44 E dX5_write_21 ?_
      refine J_iload_n E dX5_write_24 rfl 2 rfl ?_
      refine laC_30_1 E dX5_write_25 ?_
      refine gC33_X5_208 E dX5_write_26 ?_
      refine J_icmp_lt E (tgt := 38) dX5_write_29 (by decide) (fun c_29 => ?_) (fun c_29 => ?_)
      · skip
        exact absurd ⟨Int32.not_lt.mp c_16, c_29⟩ hi
      · skip
        refine J_aload_n E dX5_write_32 rfl 1 rfl ?_
        refine J_iconst E dX5_write_33 ic_0 ?_
        refine J_cVi0 E (As := [.int 0]) (c_X5_tell l G a x 0 (by omega)) cl_X5_64 yo_X5_tell dX5_write_34 rfl rfl rfl (Nat.le_of_ble_eq_true rfl) (Nat.le_of_ble_eq_true rfl) rfl (Nat.le_of_ble_eq_true rfl) ⟨Nat.zero_le _, Nat.zero_le _⟩ ?_
        exact ret _ _ _ _ ⟨rfl, _, rfl, by intro g h2 h6; simp [upG, up3, up3R, h2, h6]⟩ rfl dX5_write_37
  · skip
    have n_9 : ¬ 0 = 0 := cmp_ne (a := 0) (b := 0) (by omega) (by omega) c_9
    exact absurd n_9 (by decide)

set_option maxHeartbeats 4000000 in
set_option maxRecDepth 20000 in
theorem c_X5_write_ok_1 (l : Launch) (G : GB) (a : Nat → Nat) (x : Q3) (j n : Nat) (v : Int32) (hb : ¬ x 9 1 0 = 0) (hn : x 9 1 1 = nI n) (hn2 : n ≤ 40) (hj : j < n) : CI l yX5_write cX5_write 5 .int 3 62 G [.ref (a 0), .int (nI 1), .int (nI j), .int v] (wC G a x) (fun vR w' => vR = 1 ∧ PubC G a (upG x 9 (up2 (x 9) 0 j (narS (x 9 1 0) v))) w') := by
  refine CI.mk (own := RX5) (by decide) rfl (Nat.le_of_ble_eq_true rfl) ?_
  intro X E ret
  show J X G 5 0 0 (wC G a x) [(0, .ref (a 0)), (1, .int (nI 1)), (2, .int (nI j)), (3, .int v)] 0 []
  refine J_aload_n E dX5_write_0 rfl 0 rfl ?_
  refine J_iload_n E dX5_write_1 rfl 1 rfl ?_
  refine J_cVi0 E (As := [.int (nI 1)]) (c_X5_seekSheet_1_1 l G a x hb ) cl_X5_170 yo_X5_seekSheet dX5_write_2 rfl rfl rfl (Nat.le_of_ble_eq_true rfl) (Nat.le_of_ble_eq_true rfl) rfl (Nat.le_of_ble_eq_true rfl) ⟨Nat.zero_le _, Nat.zero_le _⟩ ?_
  refine J_istore E (lv' := [(4, .int 0), (0, .ref (a 0)), (1, .int (nI 1)), (2, .int (nI j)), (3, .int v)]) dX5_write_5 (by decide) rfl ?_
  refine J_iload E dX5_write_7 0 rfl ?_
  refine J_if_eq E (tgt := 15) dX5_write_9 (by decide) (fun c_9 => ?_) (fun c_9 => ?_)
  · skip
    have n_9 : 0 = 0 := cmp_eq (a := 0) (b := 0) (by omega) (by omega) c_9
    refine J_iload_n E dX5_write_15 rfl 3 rfl ?_
    refine J_if_lt E (tgt := 32) dX5_write_16 (by decide) (fun c_16 => ?_) (fun c_16 => ?_)
    · skip
      have n_16 : j < 0 := cmp_lt (a := j) (b := 0) (by omega) (by omega) c_16
      exact absurd n_16 (by omega)
    · skip
      have n_16 : ¬ j < 0 := cmp_nlt (a := j) (b := 0) (by omega) (by omega) c_16
      refine J_iload_n E dX5_write_19 rfl 3 rfl ?_
      refine J_aload_n E dX5_write_20 rfl 1 rfl ?_
      refine gC0_X5_44 E dX5_write_21 ?_
      refine J_iload_n E dX5_write_24 rfl 2 rfl ?_
      refine laC_30_1 E dX5_write_25 ?_
      refine gC33_X5_208 E dX5_write_26 ?_
      refine J_top (x' := nI n) (hn) ?_
      refine J_icmp_lt E (tgt := 38) dX5_write_29 (by decide) (fun c_29 => ?_) (fun c_29 => ?_)
      · skip
        have n_29 : j < n := cmp_lt (a := j) (b := n) (by omega) (by omega) c_29
        refine J_aload_n E dX5_write_38 rfl 1 rfl ?_
        refine gC0_X5_44 E dX5_write_39 ?_
        refine J_iload_n E dX5_write_42 rfl 2 rfl ?_
        refine laC_30_1 E dX5_write_43 ?_
        refine J_iload_n E dX5_write_44 rfl 3 rfl ?_
        refine J_iload_n E dX5_write_45 rfl 4 rfl ?_
        refine J_sv9 E (As := [.int (nI j), .int v]) (c_X2_put l G (sh a 33) (x 9) j v (by omega)) cl_X5_209 yo_X2_put dX5_write_46 rfl (Nat.le_of_ble_eq_true rfl) (Nat.le_of_ble_eq_true rfl) rfl (Nat.le_of_ble_eq_true rfl) ⟨Nat.zero_le _, Nat.zero_le _⟩ ?_
        refine J_iconst E dX5_write_49 ic_1 ?_
        exact ret _ _ _ _ ⟨rfl, _, rfl, by intro g h2 h6; simp [upG, up3, up3R, h2, h6]⟩ rfl dX5_write_50
      · skip
        have n_29 : ¬ j < n := cmp_nlt (a := j) (b := n) (by omega) (by omega) c_29
        exact absurd hj n_29
  · skip
    have n_9 : ¬ 0 = 0 := cmp_ne (a := 0) (b := 0) (by omega) (by omega) c_9
    exact absurd n_9 (by decide)

set_option maxHeartbeats 4000000 in
set_option maxRecDepth 20000 in
theorem c_X5_write_bad_2 (l : Launch) (G : GB) (a : Nat → Nat) (x : Q3) (i v : Int32) (hb : ¬ x 10 1 0 = 0) (hi : ¬ (0 ≤ i ∧ i < x 10 1 1)) : CI l yX5_write cX5_write 5 .int 3 62 G [.ref (a 0), .int (nI 2), .int i, .int v] (wC G a x) (fun vR w' => vR = tellR 0 ∧ PubC G a (tellX x 0) w') := by
  refine CI.mk (own := RX5) (by decide) rfl (Nat.le_of_ble_eq_true rfl) ?_
  intro X E ret
  show J X G 5 0 0 (wC G a x) [(0, .ref (a 0)), (1, .int (nI 2)), (2, .int i), (3, .int v)] 0 []
  refine J_aload_n E dX5_write_0 rfl 0 rfl ?_
  refine J_iload_n E dX5_write_1 rfl 1 rfl ?_
  refine J_cVi0 E (As := [.int (nI 2)]) (c_X5_seekSheet_2_1 l G a x hb ) cl_X5_170 yo_X5_seekSheet dX5_write_2 rfl rfl rfl (Nat.le_of_ble_eq_true rfl) (Nat.le_of_ble_eq_true rfl) rfl (Nat.le_of_ble_eq_true rfl) ⟨Nat.zero_le _, Nat.zero_le _⟩ ?_
  refine J_istore E (lv' := [(4, .int 0), (0, .ref (a 0)), (1, .int (nI 2)), (2, .int i), (3, .int v)]) dX5_write_5 (by decide) rfl ?_
  refine J_iload E dX5_write_7 0 rfl ?_
  refine J_if_eq E (tgt := 15) dX5_write_9 (by decide) (fun c_9 => ?_) (fun c_9 => ?_)
  · skip
    have n_9 : 0 = 0 := cmp_eq (a := 0) (b := 0) (by omega) (by omega) c_9
    refine J_iload_n E dX5_write_15 rfl 3 rfl ?_
    refine J_if_lt E (tgt := 32) dX5_write_16 (by decide) (fun c_16 => ?_) (fun c_16 => ?_)
    · skip
      refine J_aload_n E dX5_write_32 rfl 1 rfl ?_
      refine J_iconst E dX5_write_33 ic_0 ?_
      refine J_cVi0 E (As := [.int 0]) (c_X5_tell l G a x 0 (by omega)) cl_X5_64 yo_X5_tell dX5_write_34 rfl rfl rfl (Nat.le_of_ble_eq_true rfl) (Nat.le_of_ble_eq_true rfl) rfl (Nat.le_of_ble_eq_true rfl) ⟨Nat.zero_le _, Nat.zero_le _⟩ ?_
      exact ret _ _ _ _ ⟨rfl, _, rfl, by intro g h2 h6; simp [upG, up3, up3R, h2, h6]⟩ rfl dX5_write_37
    · skip
      refine J_iload_n E dX5_write_19 rfl 3 rfl ?_
      refine J_aload_n E dX5_write_20 rfl 1 rfl ?_
      refine gC0_X5_44 E dX5_write_21 ?_
      refine J_iload_n E dX5_write_24 rfl 2 rfl ?_
      refine laC_30_2 E dX5_write_25 ?_
      refine gC35_X5_208 E dX5_write_26 ?_
      refine J_icmp_lt E (tgt := 38) dX5_write_29 (by decide) (fun c_29 => ?_) (fun c_29 => ?_)
      · skip
        exact absurd ⟨Int32.not_lt.mp c_16, c_29⟩ hi
      · skip
        refine J_aload_n E dX5_write_32 rfl 1 rfl ?_
        refine J_iconst E dX5_write_33 ic_0 ?_
        refine J_cVi0 E (As := [.int 0]) (c_X5_tell l G a x 0 (by omega)) cl_X5_64 yo_X5_tell dX5_write_34 rfl rfl rfl (Nat.le_of_ble_eq_true rfl) (Nat.le_of_ble_eq_true rfl) rfl (Nat.le_of_ble_eq_true rfl) ⟨Nat.zero_le _, Nat.zero_le _⟩ ?_
        exact ret _ _ _ _ ⟨rfl, _, rfl, by intro g h2 h6; simp [upG, up3, up3R, h2, h6]⟩ rfl dX5_write_37
  · skip
    have n_9 : ¬ 0 = 0 := cmp_ne (a := 0) (b := 0) (by omega) (by omega) c_9
    exact absurd n_9 (by decide)

set_option maxHeartbeats 4000000 in
set_option maxRecDepth 20000 in
theorem c_X5_write_ok_2 (l : Launch) (G : GB) (a : Nat → Nat) (x : Q3) (j n : Nat) (v : Int32) (hb : ¬ x 10 1 0 = 0) (hn : x 10 1 1 = nI n) (hn2 : n ≤ 40) (hj : j < n) : CI l yX5_write cX5_write 5 .int 3 62 G [.ref (a 0), .int (nI 2), .int (nI j), .int v] (wC G a x) (fun vR w' => vR = 1 ∧ PubC G a (upG x 10 (up2 (x 10) 0 j (narS (x 10 1 0) v))) w') := by
  refine CI.mk (own := RX5) (by decide) rfl (Nat.le_of_ble_eq_true rfl) ?_
  intro X E ret
  show J X G 5 0 0 (wC G a x) [(0, .ref (a 0)), (1, .int (nI 2)), (2, .int (nI j)), (3, .int v)] 0 []
  refine J_aload_n E dX5_write_0 rfl 0 rfl ?_
  refine J_iload_n E dX5_write_1 rfl 1 rfl ?_
  refine J_cVi0 E (As := [.int (nI 2)]) (c_X5_seekSheet_2_1 l G a x hb ) cl_X5_170 yo_X5_seekSheet dX5_write_2 rfl rfl rfl (Nat.le_of_ble_eq_true rfl) (Nat.le_of_ble_eq_true rfl) rfl (Nat.le_of_ble_eq_true rfl) ⟨Nat.zero_le _, Nat.zero_le _⟩ ?_
  refine J_istore E (lv' := [(4, .int 0), (0, .ref (a 0)), (1, .int (nI 2)), (2, .int (nI j)), (3, .int v)]) dX5_write_5 (by decide) rfl ?_
  refine J_iload E dX5_write_7 0 rfl ?_
  refine J_if_eq E (tgt := 15) dX5_write_9 (by decide) (fun c_9 => ?_) (fun c_9 => ?_)
  · skip
    have n_9 : 0 = 0 := cmp_eq (a := 0) (b := 0) (by omega) (by omega) c_9
    refine J_iload_n E dX5_write_15 rfl 3 rfl ?_
    refine J_if_lt E (tgt := 32) dX5_write_16 (by decide) (fun c_16 => ?_) (fun c_16 => ?_)
    · skip
      have n_16 : j < 0 := cmp_lt (a := j) (b := 0) (by omega) (by omega) c_16
      exact absurd n_16 (by omega)
    · skip
      have n_16 : ¬ j < 0 := cmp_nlt (a := j) (b := 0) (by omega) (by omega) c_16
      refine J_iload_n E dX5_write_19 rfl 3 rfl ?_
      refine J_aload_n E dX5_write_20 rfl 1 rfl ?_
      refine gC0_X5_44 E dX5_write_21 ?_
      refine J_iload_n E dX5_write_24 rfl 2 rfl ?_
      refine laC_30_2 E dX5_write_25 ?_
      refine gC35_X5_208 E dX5_write_26 ?_
      refine J_top (x' := nI n) (hn) ?_
      refine J_icmp_lt E (tgt := 38) dX5_write_29 (by decide) (fun c_29 => ?_) (fun c_29 => ?_)
      · skip
        have n_29 : j < n := cmp_lt (a := j) (b := n) (by omega) (by omega) c_29
        refine J_aload_n E dX5_write_38 rfl 1 rfl ?_
        refine gC0_X5_44 E dX5_write_39 ?_
        refine J_iload_n E dX5_write_42 rfl 2 rfl ?_
        refine laC_30_2 E dX5_write_43 ?_
        refine J_iload_n E dX5_write_44 rfl 3 rfl ?_
        refine J_iload_n E dX5_write_45 rfl 4 rfl ?_
        refine J_sv10 E (As := [.int (nI j), .int v]) (c_X2_put l G (sh a 35) (x 10) j v (by omega)) cl_X5_209 yo_X2_put dX5_write_46 rfl (Nat.le_of_ble_eq_true rfl) (Nat.le_of_ble_eq_true rfl) rfl (Nat.le_of_ble_eq_true rfl) ⟨Nat.zero_le _, Nat.zero_le _⟩ ?_
        refine J_iconst E dX5_write_49 ic_1 ?_
        exact ret _ _ _ _ ⟨rfl, _, rfl, by intro g h2 h6; simp [upG, up3, up3R, h2, h6]⟩ rfl dX5_write_50
      · skip
        have n_29 : ¬ j < n := cmp_nlt (a := j) (b := n) (by omega) (by omega) c_29
        exact absurd hj n_29
  · skip
    have n_9 : ¬ 0 = 0 := cmp_ne (a := 0) (b := 0) (by omega) (by omega) c_9
    exact absurd n_9 (by decide)

set_option maxHeartbeats 4000000 in
set_option maxRecDepth 20000 in
theorem c_X5_write_bad_3 (l : Launch) (G : GB) (a : Nat → Nat) (x : Q3) (i v : Int32) (hb : ¬ x 11 1 0 = 0) (hi : ¬ (0 ≤ i ∧ i < x 11 1 1)) : CI l yX5_write cX5_write 5 .int 3 62 G [.ref (a 0), .int (nI 3), .int i, .int v] (wC G a x) (fun vR w' => vR = tellR 0 ∧ PubC G a (tellX x 0) w') := by
  refine CI.mk (own := RX5) (by decide) rfl (Nat.le_of_ble_eq_true rfl) ?_
  intro X E ret
  show J X G 5 0 0 (wC G a x) [(0, .ref (a 0)), (1, .int (nI 3)), (2, .int i), (3, .int v)] 0 []
  refine J_aload_n E dX5_write_0 rfl 0 rfl ?_
  refine J_iload_n E dX5_write_1 rfl 1 rfl ?_
  refine J_cVi0 E (As := [.int (nI 3)]) (c_X5_seekSheet_3_1 l G a x hb ) cl_X5_170 yo_X5_seekSheet dX5_write_2 rfl rfl rfl (Nat.le_of_ble_eq_true rfl) (Nat.le_of_ble_eq_true rfl) rfl (Nat.le_of_ble_eq_true rfl) ⟨Nat.zero_le _, Nat.zero_le _⟩ ?_
  refine J_istore E (lv' := [(4, .int 0), (0, .ref (a 0)), (1, .int (nI 3)), (2, .int i), (3, .int v)]) dX5_write_5 (by decide) rfl ?_
  refine J_iload E dX5_write_7 0 rfl ?_
  refine J_if_eq E (tgt := 15) dX5_write_9 (by decide) (fun c_9 => ?_) (fun c_9 => ?_)
  · skip
    have n_9 : 0 = 0 := cmp_eq (a := 0) (b := 0) (by omega) (by omega) c_9
    refine J_iload_n E dX5_write_15 rfl 3 rfl ?_
    refine J_if_lt E (tgt := 32) dX5_write_16 (by decide) (fun c_16 => ?_) (fun c_16 => ?_)
    · skip
      refine J_aload_n E dX5_write_32 rfl 1 rfl ?_
      refine J_iconst E dX5_write_33 ic_0 ?_
      refine J_cVi0 E (As := [.int 0]) (c_X5_tell l G a x 0 (by omega)) cl_X5_64 yo_X5_tell dX5_write_34 rfl rfl rfl (Nat.le_of_ble_eq_true rfl) (Nat.le_of_ble_eq_true rfl) rfl (Nat.le_of_ble_eq_true rfl) ⟨Nat.zero_le _, Nat.zero_le _⟩ ?_
      exact ret _ _ _ _ ⟨rfl, _, rfl, by intro g h2 h6; simp [upG, up3, up3R, h2, h6]⟩ rfl dX5_write_37
    · skip
      refine J_iload_n E dX5_write_19 rfl 3 rfl ?_
      refine J_aload_n E dX5_write_20 rfl 1 rfl ?_
      refine gC0_X5_44 E dX5_write_21 ?_
      refine J_iload_n E dX5_write_24 rfl 2 rfl ?_
      refine laC_30_3 E dX5_write_25 ?_
      refine gC37_X5_208 E dX5_write_26 ?_
      refine J_icmp_lt E (tgt := 38) dX5_write_29 (by decide) (fun c_29 => ?_) (fun c_29 => ?_)
      · skip
        exact absurd ⟨Int32.not_lt.mp c_16, c_29⟩ hi
      · skip
        refine J_aload_n E dX5_write_32 rfl 1 rfl ?_
        refine J_iconst E dX5_write_33 ic_0 ?_
        refine J_cVi0 E (As := [.int 0]) (c_X5_tell l G a x 0 (by omega)) cl_X5_64 yo_X5_tell dX5_write_34 rfl rfl rfl (Nat.le_of_ble_eq_true rfl) (Nat.le_of_ble_eq_true rfl) rfl (Nat.le_of_ble_eq_true rfl) ⟨Nat.zero_le _, Nat.zero_le _⟩ ?_
        exact ret _ _ _ _ ⟨rfl, _, rfl, by intro g h2 h6; simp [upG, up3, up3R, h2, h6]⟩ rfl dX5_write_37
  · skip
    have n_9 : ¬ 0 = 0 := cmp_ne (a := 0) (b := 0) (by omega) (by omega) c_9
    exact absurd n_9 (by decide)

set_option maxHeartbeats 4000000 in
set_option maxRecDepth 20000 in
theorem c_X5_write_ok_3 (l : Launch) (G : GB) (a : Nat → Nat) (x : Q3) (j n : Nat) (v : Int32) (hb : ¬ x 11 1 0 = 0) (hn : x 11 1 1 = nI n) (hn2 : n ≤ 40) (hj : j < n) : CI l yX5_write cX5_write 5 .int 3 62 G [.ref (a 0), .int (nI 3), .int (nI j), .int v] (wC G a x) (fun vR w' => vR = 1 ∧ PubC G a (upG x 11 (up2 (x 11) 0 j (narS (x 11 1 0) v))) w') := by
  refine CI.mk (own := RX5) (by decide) rfl (Nat.le_of_ble_eq_true rfl) ?_
  intro X E ret
  show J X G 5 0 0 (wC G a x) [(0, .ref (a 0)), (1, .int (nI 3)), (2, .int (nI j)), (3, .int v)] 0 []
  refine J_aload_n E dX5_write_0 rfl 0 rfl ?_
  refine J_iload_n E dX5_write_1 rfl 1 rfl ?_
  refine J_cVi0 E (As := [.int (nI 3)]) (c_X5_seekSheet_3_1 l G a x hb ) cl_X5_170 yo_X5_seekSheet dX5_write_2 rfl rfl rfl (Nat.le_of_ble_eq_true rfl) (Nat.le_of_ble_eq_true rfl) rfl (Nat.le_of_ble_eq_true rfl) ⟨Nat.zero_le _, Nat.zero_le _⟩ ?_
  refine J_istore E (lv' := [(4, .int 0), (0, .ref (a 0)), (1, .int (nI 3)), (2, .int (nI j)), (3, .int v)]) dX5_write_5 (by decide) rfl ?_
  refine J_iload E dX5_write_7 0 rfl ?_
  refine J_if_eq E (tgt := 15) dX5_write_9 (by decide) (fun c_9 => ?_) (fun c_9 => ?_)
  · skip
    have n_9 : 0 = 0 := cmp_eq (a := 0) (b := 0) (by omega) (by omega) c_9
    refine J_iload_n E dX5_write_15 rfl 3 rfl ?_
    refine J_if_lt E (tgt := 32) dX5_write_16 (by decide) (fun c_16 => ?_) (fun c_16 => ?_)
    · skip
      have n_16 : j < 0 := cmp_lt (a := j) (b := 0) (by omega) (by omega) c_16
      exact absurd n_16 (by omega)
    · skip
      have n_16 : ¬ j < 0 := cmp_nlt (a := j) (b := 0) (by omega) (by omega) c_16
      refine J_iload_n E dX5_write_19 rfl 3 rfl ?_
      refine J_aload_n E dX5_write_20 rfl 1 rfl ?_
      refine gC0_X5_44 E dX5_write_21 ?_
      refine J_iload_n E dX5_write_24 rfl 2 rfl ?_
      refine laC_30_3 E dX5_write_25 ?_
      refine gC37_X5_208 E dX5_write_26 ?_
      refine J_top (x' := nI n) (hn) ?_
      refine J_icmp_lt E (tgt := 38) dX5_write_29 (by decide) (fun c_29 => ?_) (fun c_29 => ?_)
      · skip
        have n_29 : j < n := cmp_lt (a := j) (b := n) (by omega) (by omega) c_29
        refine J_aload_n E dX5_write_38 rfl 1 rfl ?_
        refine gC0_X5_44 E dX5_write_39 ?_
        refine J_iload_n E dX5_write_42 rfl 2 rfl ?_
        refine laC_30_3 E dX5_write_43 ?_
        refine J_iload_n E dX5_write_44 rfl 3 rfl ?_
        refine J_iload_n E dX5_write_45 rfl 4 rfl ?_
        refine J_sv11 E (As := [.int (nI j), .int v]) (c_X2_put l G (sh a 37) (x 11) j v (by omega)) cl_X5_209 yo_X2_put dX5_write_46 rfl (Nat.le_of_ble_eq_true rfl) (Nat.le_of_ble_eq_true rfl) rfl (Nat.le_of_ble_eq_true rfl) ⟨Nat.zero_le _, Nat.zero_le _⟩ ?_
        refine J_iconst E dX5_write_49 ic_1 ?_
        exact ret _ _ _ _ ⟨rfl, _, rfl, by intro g h2 h6; simp [upG, up3, up3R, h2, h6]⟩ rfl dX5_write_50
      · skip
        have n_29 : ¬ j < n := cmp_nlt (a := j) (b := n) (by omega) (by omega) c_29
        exact absurd hj n_29
  · skip
    have n_9 : ¬ 0 = 0 := cmp_ne (a := 0) (b := 0) (by omega) (by omega) c_9
    exact absurd n_9 (by decide)

set_option maxHeartbeats 4000000 in
set_option maxRecDepth 20000 in
theorem c_X5_load_out (l : Launch) (G : GB) (a : Nat → Nat) (x : Q3) (s : Int32)  (hs : ¬ (0 ≤ s ∧ s ≤ 3)) : CI l yX5_load cX5_load 4 .int 3 62 G [.ref (a 0), .int s] (wC G a x) (fun vR w' => vR = tellR 0 ∧ PubC G a (tellX x 0) w') := by
  refine CI.mk (own := RX5) (by decide) rfl (Nat.le_of_ble_eq_true rfl) ?_
  intro X E ret
  show J X G 4 0 0 (wC G a x) [(0, .ref (a 0)), (1, .int s)] 0 []
  refine J_aload_n E dX5_load_0 rfl 0 rfl ?_
  refine J_iload_n E dX5_load_1 rfl 1 rfl ?_
  refine J_cVi0 E (As := [.int s]) (c_X5_seekSheet_out l G a x s hs ) cl_X5_170 yo_X5_seekSheet dX5_load_2 rfl rfl rfl (Nat.le_of_ble_eq_true rfl) (Nat.le_of_ble_eq_true rfl) rfl (Nat.le_of_ble_eq_true rfl) ⟨Nat.zero_le _, Nat.zero_le _⟩ ?_
  refine J_istore_n E (lv' := [(2, .int (tellR 0)), (0, .ref (a 0)), (1, .int s)]) dX5_load_5 rfl (by decide) rfl ?_
  refine J_iload_n E dX5_load_6 rfl 0 rfl ?_
  refine J_if_eq E (tgt := 12) dX5_load_7 (by decide) (fun c_7 => ?_) (fun c_7 => ?_)
  · skip
    exact absurd c_7 (tellR_ne (by decide))
  · skip
    refine J_iload_n E dX5_load_10 rfl 0 rfl ?_
    exact ret _ _ _ _ ⟨rfl, _, rfl, by intro g h2 h6; simp [upG, up3, up3R, h2, h6]⟩ rfl dX5_load_11

set_option maxHeartbeats 4000000 in
set_option maxRecDepth 20000 in
theorem c_X5_load_miss_0 (l : Launch) (G : GB) (a : Nat → Nat) (x : Q3)  (hb : x 8 1 0 = 0) : CI l yX5_load cX5_load 4 .int 3 62 G [.ref (a 0), .int (nI 0)] (wC G a x) (fun vR w' => vR = tellR 5 ∧ PubC G a (tellX x 5) w') := by
  refine CI.mk (own := RX5) (by decide) rfl (Nat.le_of_ble_eq_true rfl) ?_
  intro X E ret
  show J X G 4 0 0 (wC G a x) [(0, .ref (a 0)), (1, .int (nI 0))] 0 []
  refine J_aload_n E dX5_load_0 rfl 0 rfl ?_
  refine J_iload_n E dX5_load_1 rfl 1 rfl ?_
  refine J_cVi0 E (As := [.int (nI 0)]) (c_X5_seekSheet_0_0 l G a x hb ) cl_X5_170 yo_X5_seekSheet dX5_load_2 rfl rfl rfl (Nat.le_of_ble_eq_true rfl) (Nat.le_of_ble_eq_true rfl) rfl (Nat.le_of_ble_eq_true rfl) ⟨Nat.zero_le _, Nat.zero_le _⟩ ?_
  refine J_istore_n E (lv' := [(2, .int (tellR 5)), (0, .ref (a 0)), (1, .int (nI 0))]) dX5_load_5 rfl (by decide) rfl ?_
  refine J_iload_n E dX5_load_6 rfl 0 rfl ?_
  refine J_if_eq E (tgt := 12) dX5_load_7 (by decide) (fun c_7 => ?_) (fun c_7 => ?_)
  · skip
    exact absurd c_7 (tellR_ne (by decide))
  · skip
    refine J_iload_n E dX5_load_10 rfl 0 rfl ?_
    exact ret _ _ _ _ ⟨rfl, _, rfl, by intro g h2 h6; simp [upG, up3, up3R, h2, h6]⟩ rfl dX5_load_11

set_option maxHeartbeats 4000000 in
set_option maxRecDepth 20000 in
theorem c_X5_load_miss_1 (l : Launch) (G : GB) (a : Nat → Nat) (x : Q3)  (hb : x 9 1 0 = 0) : CI l yX5_load cX5_load 4 .int 3 62 G [.ref (a 0), .int (nI 1)] (wC G a x) (fun vR w' => vR = tellR 5 ∧ PubC G a (tellX x 5) w') := by
  refine CI.mk (own := RX5) (by decide) rfl (Nat.le_of_ble_eq_true rfl) ?_
  intro X E ret
  show J X G 4 0 0 (wC G a x) [(0, .ref (a 0)), (1, .int (nI 1))] 0 []
  refine J_aload_n E dX5_load_0 rfl 0 rfl ?_
  refine J_iload_n E dX5_load_1 rfl 1 rfl ?_
  refine J_cVi0 E (As := [.int (nI 1)]) (c_X5_seekSheet_1_0 l G a x hb ) cl_X5_170 yo_X5_seekSheet dX5_load_2 rfl rfl rfl (Nat.le_of_ble_eq_true rfl) (Nat.le_of_ble_eq_true rfl) rfl (Nat.le_of_ble_eq_true rfl) ⟨Nat.zero_le _, Nat.zero_le _⟩ ?_
  refine J_istore_n E (lv' := [(2, .int (tellR 5)), (0, .ref (a 0)), (1, .int (nI 1))]) dX5_load_5 rfl (by decide) rfl ?_
  refine J_iload_n E dX5_load_6 rfl 0 rfl ?_
  refine J_if_eq E (tgt := 12) dX5_load_7 (by decide) (fun c_7 => ?_) (fun c_7 => ?_)
  · skip
    exact absurd c_7 (tellR_ne (by decide))
  · skip
    refine J_iload_n E dX5_load_10 rfl 0 rfl ?_
    exact ret _ _ _ _ ⟨rfl, _, rfl, by intro g h2 h6; simp [upG, up3, up3R, h2, h6]⟩ rfl dX5_load_11

set_option maxHeartbeats 4000000 in
set_option maxRecDepth 20000 in
theorem c_X5_load_miss_2 (l : Launch) (G : GB) (a : Nat → Nat) (x : Q3)  (hb : x 10 1 0 = 0) : CI l yX5_load cX5_load 4 .int 3 62 G [.ref (a 0), .int (nI 2)] (wC G a x) (fun vR w' => vR = tellR 5 ∧ PubC G a (tellX x 5) w') := by
  refine CI.mk (own := RX5) (by decide) rfl (Nat.le_of_ble_eq_true rfl) ?_
  intro X E ret
  show J X G 4 0 0 (wC G a x) [(0, .ref (a 0)), (1, .int (nI 2))] 0 []
  refine J_aload_n E dX5_load_0 rfl 0 rfl ?_
  refine J_iload_n E dX5_load_1 rfl 1 rfl ?_
  refine J_cVi0 E (As := [.int (nI 2)]) (c_X5_seekSheet_2_0 l G a x hb ) cl_X5_170 yo_X5_seekSheet dX5_load_2 rfl rfl rfl (Nat.le_of_ble_eq_true rfl) (Nat.le_of_ble_eq_true rfl) rfl (Nat.le_of_ble_eq_true rfl) ⟨Nat.zero_le _, Nat.zero_le _⟩ ?_
  refine J_istore_n E (lv' := [(2, .int (tellR 5)), (0, .ref (a 0)), (1, .int (nI 2))]) dX5_load_5 rfl (by decide) rfl ?_
  refine J_iload_n E dX5_load_6 rfl 0 rfl ?_
  refine J_if_eq E (tgt := 12) dX5_load_7 (by decide) (fun c_7 => ?_) (fun c_7 => ?_)
  · skip
    exact absurd c_7 (tellR_ne (by decide))
  · skip
    refine J_iload_n E dX5_load_10 rfl 0 rfl ?_
    exact ret _ _ _ _ ⟨rfl, _, rfl, by intro g h2 h6; simp [upG, up3, up3R, h2, h6]⟩ rfl dX5_load_11

set_option maxHeartbeats 4000000 in
set_option maxRecDepth 20000 in
theorem c_X5_load_miss_3 (l : Launch) (G : GB) (a : Nat → Nat) (x : Q3)  (hb : x 11 1 0 = 0) : CI l yX5_load cX5_load 4 .int 3 62 G [.ref (a 0), .int (nI 3)] (wC G a x) (fun vR w' => vR = tellR 5 ∧ PubC G a (tellX x 5) w') := by
  refine CI.mk (own := RX5) (by decide) rfl (Nat.le_of_ble_eq_true rfl) ?_
  intro X E ret
  show J X G 4 0 0 (wC G a x) [(0, .ref (a 0)), (1, .int (nI 3))] 0 []
  refine J_aload_n E dX5_load_0 rfl 0 rfl ?_
  refine J_iload_n E dX5_load_1 rfl 1 rfl ?_
  refine J_cVi0 E (As := [.int (nI 3)]) (c_X5_seekSheet_3_0 l G a x hb ) cl_X5_170 yo_X5_seekSheet dX5_load_2 rfl rfl rfl (Nat.le_of_ble_eq_true rfl) (Nat.le_of_ble_eq_true rfl) rfl (Nat.le_of_ble_eq_true rfl) ⟨Nat.zero_le _, Nat.zero_le _⟩ ?_
  refine J_istore_n E (lv' := [(2, .int (tellR 5)), (0, .ref (a 0)), (1, .int (nI 3))]) dX5_load_5 rfl (by decide) rfl ?_
  refine J_iload_n E dX5_load_6 rfl 0 rfl ?_
  refine J_if_eq E (tgt := 12) dX5_load_7 (by decide) (fun c_7 => ?_) (fun c_7 => ?_)
  · skip
    exact absurd c_7 (tellR_ne (by decide))
  · skip
    refine J_iload_n E dX5_load_10 rfl 0 rfl ?_
    exact ret _ _ _ _ ⟨rfl, _, rfl, by intro g h2 h6; simp [upG, up3, up3R, h2, h6]⟩ rfl dX5_load_11

set_option maxHeartbeats 4000000 in
set_option maxRecDepth 20000 in
theorem c_X5_load_ok_0 (l : Launch) (G : GB) (a : Nat → Nat) (x : Q3) (n : Nat) (hb : ¬ x 8 1 0 = 0) (hn : x 8 1 1 = nI n) (hn2 : n ≤ 40) : CI l yX5_load cX5_load 4 .int 3 62 G [.ref (a 0), .int (nI 0)] (wC G a x) (fun vR w' => vR = nI (loadN (x 8 0) (min n 11) 0) ∧ PubC G a (upG x 0 (loadQ (x 0) (x 8 0) (loadN (x 8 0) (min n 11) 0))) w') := by
  refine CI.mk (own := RX5) (by decide) rfl (Nat.le_of_ble_eq_true rfl) ?_
  intro X E ret
  show J X G 4 0 0 (wC G a x) [(0, .ref (a 0)), (1, .int (nI 0))] 0 []
  refine J_aload_n E dX5_load_0 rfl 0 rfl ?_
  refine J_iload_n E dX5_load_1 rfl 1 rfl ?_
  refine J_cVi0 E (As := [.int (nI 0)]) (c_X5_seekSheet_0_1 l G a x hb ) cl_X5_170 yo_X5_seekSheet dX5_load_2 rfl rfl rfl (Nat.le_of_ble_eq_true rfl) (Nat.le_of_ble_eq_true rfl) rfl (Nat.le_of_ble_eq_true rfl) ⟨Nat.zero_le _, Nat.zero_le _⟩ ?_
  refine J_istore_n E (lv' := [(2, .int 0), (0, .ref (a 0)), (1, .int (nI 0))]) dX5_load_5 rfl (by decide) rfl ?_
  refine J_iload_n E dX5_load_6 rfl 0 rfl ?_
  refine J_if_eq E (tgt := 12) dX5_load_7 (by decide) (fun c_7 => ?_) (fun c_7 => ?_)
  · skip
    have n_7 : 0 = 0 := cmp_eq (a := 0) (b := 0) (by omega) (by omega) c_7
    refine J_iconst E dX5_load_12 ic_0 ?_
    refine J_istore_n E (lv' := [(3, .int 0), (2, .int 0), (0, .ref (a 0)), (1, .int (nI 0))]) dX5_load_13 rfl (by decide) rfl ?_
    refine J_w (ws' := wC G a (upG x 0 (x 0))) (congrArg (wC G a) upG_id.symm) ?_
    have lp14 : ∀ (fu : Nat) (i : Nat) (r : Q2), (i ≤ min n 11) → (r = loadQ (x 0) (x 8 0) i) → (loadN (x 8 0) (min n 11) 0 = loadN (x 8 0) (min n 11 - i) i) → min n 11 - i < fu → J X G 4 0 0 (wC G a (upG x 0 r)) [(0, .ref (a 0)), (1, .int (nI 0)), (2, .int 0), (3, .int (nI i))] 14 [] := by
      intro fu
      induction fu with
      | zero => intro i r hi hr h1 hm; exact absurd hm (Nat.not_lt_zero _)
      | succ fu ih14 =>
        intro i r hi hr h1 hm
        refine J_iload_n E dX5_load_14 rfl 3 rfl ?_
        refine J_aload_n E dX5_load_15 rfl 0 rfl ?_
        refine gC0_X5_44 E dX5_load_16 ?_
        refine J_iload_n E dX5_load_19 rfl 1 rfl ?_
        refine laC_30_0 E dX5_load_20 ?_
        refine gC31_X5_208 E dX5_load_21 ?_
        refine J_top (x' := x 8 1 1) (upG_n (by decide)) ?_
        refine J_top (x' := nI n) (hn) ?_
        refine J_icmp_ge E (tgt := 78) dX5_load_24 (by decide) (fun c_24 => ?_) (fun c_24 => ?_)
        · skip
          have n_24 : n ≤ i := cmp_le (a := n) (b := i) (by omega) (by omega) c_24
          have h2 : loadN (x 8 0) (min n 11) 0 = i := by rw [h1, show min n 11 - i = 0 by omega]; rfl
          refine J_iload_n E dX5_load_78 rfl 3 rfl ?_
          exact ret _ _ _ _ ⟨by rw [h2], _, rfl, by rw [h2, ← hr]; exact ShC.rfl'⟩ rfl dX5_load_79
        · skip
          have n_24 : ¬ n ≤ i := cmp_nle (a := n) (b := i) (by omega) (by omega) c_24
          refine J_iload_n E dX5_load_27 rfl 3 rfl ?_
          refine J_bipush E dX5_load_28 bp_11 ?_
          refine J_icmp_ge E (tgt := 78) dX5_load_30 (by decide) (fun c_30 => ?_) (fun c_30 => ?_)
          · skip
            have n_30 : 11 ≤ i := cmp_le (a := 11) (b := i) (by omega) (by omega) c_30
            have h2 : loadN (x 8 0) (min n 11) 0 = i := by rw [h1, show min n 11 - i = 0 by omega]; rfl
            refine J_iload_n E dX5_load_78 rfl 3 rfl ?_
            exact ret _ _ _ _ ⟨by rw [h2], _, rfl, by rw [h2, ← hr]; exact ShC.rfl'⟩ rfl dX5_load_79
          · skip
            have n_30 : ¬ 11 ≤ i := cmp_nle (a := 11) (b := i) (by omega) (by omega) c_30
            refine J_aload_n E dX5_load_33 rfl 0 rfl ?_
            refine gC0_X5_44 E dX5_load_34 ?_
            refine J_iload_n E dX5_load_37 rfl 1 rfl ?_
            refine laC_30_0 E dX5_load_38 ?_
            refine gC31_X5_221 E dX5_load_39 ?_
            refine J_iload_n E dX5_load_42 rfl 3 rfl ?_
            refine lC_32 E (j := i) dX5_load_43 (by omega) ?_
            refine J_top (x' := x 8 0 i) (upG_n (by decide)) ?_
            refine J_bipush E dX5_load_44 bp_99 ?_
            refine J_cSiN E (As := [.int (x 8 0 i), .int 99]) (c_X5_isUpTo l G (x 8 0 i) 99 ) cl_X5_56 yo_X5_isUpTo dX5_load_46 rfl (Nat.le_of_ble_eq_true rfl) (Nat.le_of_ble_eq_true rfl) rfl (Nat.le_of_ble_eq_true rfl) ⟨Nat.zero_le _, Nat.zero_le _⟩ ?_
            refine J_if_eq E (tgt := 78) dX5_load_49 (by decide) (fun c_49 => ?_) (fun c_49 => ?_)
            · skip
              have c_49 := bI_0 c_49
              have h2 : loadN (x 8 0) (min n 11) 0 = i := by rw [h1, show min n 11 - i = (min n 11 - (i + 1)) + 1 by omega, loadN, if_neg c_49]
              refine J_iload_n E dX5_load_78 rfl 3 rfl ?_
              exact ret _ _ _ _ ⟨by rw [h2], _, rfl, by rw [h2, ← hr]; exact ShC.rfl'⟩ rfl dX5_load_79
            · skip
              have c_49 := bI_1 c_49
              refine J_aload_n E dX5_load_52 rfl 0 rfl ?_
              refine gC0_X5_10 E dX5_load_53 ?_
              refine gC1_X5_224 E dX5_load_56 ?_
              refine J_iload_n E dX5_load_59 rfl 3 rfl ?_
              refine J_aload_n E dX5_load_60 rfl 0 rfl ?_
              refine gC0_X5_44 E dX5_load_61 ?_
              refine J_iload_n E dX5_load_64 rfl 1 rfl ?_
              refine laC_30_0 E dX5_load_65 ?_
              refine gC31_X5_221 E dX5_load_66 ?_
              refine J_iload_n E dX5_load_69 rfl 3 rfl ?_
              refine lC_32 E (j := i) dX5_load_70 (by omega) ?_
              refine J_top (x' := x 8 0 i) (upG_n (by decide)) ?_
              refine sC_4 E (j := i) dX5_load_71 (by omega) ?_
              refine J_iinc E (lv' := [(3, .int (nI (i + 1))), (0, .ref (a 0)), (1, .int (nI 0)), (2, .int 0)]) dX5_load_72 3 rfl (nI_inc _) (by decide) rfl ?_
              refine J_goto E (tgt := 14) dX5_load_75 (by decide) ?_
              refine J_lv [1, 2, 3, 0] rfl ?_
              exact ih14 (i + 1) ((up3 (upG x 0 r) 0 2 i (x 8 0 i)) 0) (by omega) (by rw [hr]; rfl) (by rw [h1, show min n 11 - i = (min n 11 - (i + 1)) + 1 by omega, loadN, if_pos c_49]) (by omega)
    refine J_lv [2, 3, 1, 0] rfl ?_
    exact lp14 _ 0 (x 0) (by omega) rfl rfl (Nat.lt_succ_self _)
  · skip
    have n_7 : ¬ 0 = 0 := cmp_ne (a := 0) (b := 0) (by omega) (by omega) c_7
    exact absurd n_7 (by decide)

set_option maxHeartbeats 4000000 in
set_option maxRecDepth 20000 in
theorem c_X5_load_ok_1 (l : Launch) (G : GB) (a : Nat → Nat) (x : Q3) (n : Nat) (hb : ¬ x 9 1 0 = 0) (hn : x 9 1 1 = nI n) (hn2 : n ≤ 40) : CI l yX5_load cX5_load 4 .int 3 62 G [.ref (a 0), .int (nI 1)] (wC G a x) (fun vR w' => vR = nI (loadN (x 9 0) (min n 11) 0) ∧ PubC G a (upG x 0 (loadQ (x 0) (x 9 0) (loadN (x 9 0) (min n 11) 0))) w') := by
  refine CI.mk (own := RX5) (by decide) rfl (Nat.le_of_ble_eq_true rfl) ?_
  intro X E ret
  show J X G 4 0 0 (wC G a x) [(0, .ref (a 0)), (1, .int (nI 1))] 0 []
  refine J_aload_n E dX5_load_0 rfl 0 rfl ?_
  refine J_iload_n E dX5_load_1 rfl 1 rfl ?_
  refine J_cVi0 E (As := [.int (nI 1)]) (c_X5_seekSheet_1_1 l G a x hb ) cl_X5_170 yo_X5_seekSheet dX5_load_2 rfl rfl rfl (Nat.le_of_ble_eq_true rfl) (Nat.le_of_ble_eq_true rfl) rfl (Nat.le_of_ble_eq_true rfl) ⟨Nat.zero_le _, Nat.zero_le _⟩ ?_
  refine J_istore_n E (lv' := [(2, .int 0), (0, .ref (a 0)), (1, .int (nI 1))]) dX5_load_5 rfl (by decide) rfl ?_
  refine J_iload_n E dX5_load_6 rfl 0 rfl ?_
  refine J_if_eq E (tgt := 12) dX5_load_7 (by decide) (fun c_7 => ?_) (fun c_7 => ?_)
  · skip
    have n_7 : 0 = 0 := cmp_eq (a := 0) (b := 0) (by omega) (by omega) c_7
    refine J_iconst E dX5_load_12 ic_0 ?_
    refine J_istore_n E (lv' := [(3, .int 0), (2, .int 0), (0, .ref (a 0)), (1, .int (nI 1))]) dX5_load_13 rfl (by decide) rfl ?_
    refine J_w (ws' := wC G a (upG x 0 (x 0))) (congrArg (wC G a) upG_id.symm) ?_
    have lp14 : ∀ (fu : Nat) (i : Nat) (r : Q2), (i ≤ min n 11) → (r = loadQ (x 0) (x 9 0) i) → (loadN (x 9 0) (min n 11) 0 = loadN (x 9 0) (min n 11 - i) i) → min n 11 - i < fu → J X G 4 0 0 (wC G a (upG x 0 r)) [(0, .ref (a 0)), (1, .int (nI 1)), (2, .int 0), (3, .int (nI i))] 14 [] := by
      intro fu
      induction fu with
      | zero => intro i r hi hr h1 hm; exact absurd hm (Nat.not_lt_zero _)
      | succ fu ih14 =>
        intro i r hi hr h1 hm
        refine J_iload_n E dX5_load_14 rfl 3 rfl ?_
        refine J_aload_n E dX5_load_15 rfl 0 rfl ?_
        refine gC0_X5_44 E dX5_load_16 ?_
        refine J_iload_n E dX5_load_19 rfl 1 rfl ?_
        refine laC_30_1 E dX5_load_20 ?_
        refine gC33_X5_208 E dX5_load_21 ?_
        refine J_top (x' := x 9 1 1) (upG_n (by decide)) ?_
        refine J_top (x' := nI n) (hn) ?_
        refine J_icmp_ge E (tgt := 78) dX5_load_24 (by decide) (fun c_24 => ?_) (fun c_24 => ?_)
        · skip
          have n_24 : n ≤ i := cmp_le (a := n) (b := i) (by omega) (by omega) c_24
          have h2 : loadN (x 9 0) (min n 11) 0 = i := by rw [h1, show min n 11 - i = 0 by omega]; rfl
          refine J_iload_n E dX5_load_78 rfl 3 rfl ?_
          exact ret _ _ _ _ ⟨by rw [h2], _, rfl, by rw [h2, ← hr]; exact ShC.rfl'⟩ rfl dX5_load_79
        · skip
          have n_24 : ¬ n ≤ i := cmp_nle (a := n) (b := i) (by omega) (by omega) c_24
          refine J_iload_n E dX5_load_27 rfl 3 rfl ?_
          refine J_bipush E dX5_load_28 bp_11 ?_
          refine J_icmp_ge E (tgt := 78) dX5_load_30 (by decide) (fun c_30 => ?_) (fun c_30 => ?_)
          · skip
            have n_30 : 11 ≤ i := cmp_le (a := 11) (b := i) (by omega) (by omega) c_30
            have h2 : loadN (x 9 0) (min n 11) 0 = i := by rw [h1, show min n 11 - i = 0 by omega]; rfl
            refine J_iload_n E dX5_load_78 rfl 3 rfl ?_
            exact ret _ _ _ _ ⟨by rw [h2], _, rfl, by rw [h2, ← hr]; exact ShC.rfl'⟩ rfl dX5_load_79
          · skip
            have n_30 : ¬ 11 ≤ i := cmp_nle (a := 11) (b := i) (by omega) (by omega) c_30
            refine J_aload_n E dX5_load_33 rfl 0 rfl ?_
            refine gC0_X5_44 E dX5_load_34 ?_
            refine J_iload_n E dX5_load_37 rfl 1 rfl ?_
            refine laC_30_1 E dX5_load_38 ?_
            refine gC33_X5_221 E dX5_load_39 ?_
            refine J_iload_n E dX5_load_42 rfl 3 rfl ?_
            refine lC_34 E (j := i) dX5_load_43 (by omega) ?_
            refine J_top (x' := x 9 0 i) (upG_n (by decide)) ?_
            refine J_bipush E dX5_load_44 bp_99 ?_
            refine J_cSiN E (As := [.int (x 9 0 i), .int 99]) (c_X5_isUpTo l G (x 9 0 i) 99 ) cl_X5_56 yo_X5_isUpTo dX5_load_46 rfl (Nat.le_of_ble_eq_true rfl) (Nat.le_of_ble_eq_true rfl) rfl (Nat.le_of_ble_eq_true rfl) ⟨Nat.zero_le _, Nat.zero_le _⟩ ?_
            refine J_if_eq E (tgt := 78) dX5_load_49 (by decide) (fun c_49 => ?_) (fun c_49 => ?_)
            · skip
              have c_49 := bI_0 c_49
              have h2 : loadN (x 9 0) (min n 11) 0 = i := by rw [h1, show min n 11 - i = (min n 11 - (i + 1)) + 1 by omega, loadN, if_neg c_49]
              refine J_iload_n E dX5_load_78 rfl 3 rfl ?_
              exact ret _ _ _ _ ⟨by rw [h2], _, rfl, by rw [h2, ← hr]; exact ShC.rfl'⟩ rfl dX5_load_79
            · skip
              have c_49 := bI_1 c_49
              refine J_aload_n E dX5_load_52 rfl 0 rfl ?_
              refine gC0_X5_10 E dX5_load_53 ?_
              refine gC1_X5_224 E dX5_load_56 ?_
              refine J_iload_n E dX5_load_59 rfl 3 rfl ?_
              refine J_aload_n E dX5_load_60 rfl 0 rfl ?_
              refine gC0_X5_44 E dX5_load_61 ?_
              refine J_iload_n E dX5_load_64 rfl 1 rfl ?_
              refine laC_30_1 E dX5_load_65 ?_
              refine gC33_X5_221 E dX5_load_66 ?_
              refine J_iload_n E dX5_load_69 rfl 3 rfl ?_
              refine lC_34 E (j := i) dX5_load_70 (by omega) ?_
              refine J_top (x' := x 9 0 i) (upG_n (by decide)) ?_
              refine sC_4 E (j := i) dX5_load_71 (by omega) ?_
              refine J_iinc E (lv' := [(3, .int (nI (i + 1))), (0, .ref (a 0)), (1, .int (nI 1)), (2, .int 0)]) dX5_load_72 3 rfl (nI_inc _) (by decide) rfl ?_
              refine J_goto E (tgt := 14) dX5_load_75 (by decide) ?_
              refine J_lv [1, 2, 3, 0] rfl ?_
              exact ih14 (i + 1) ((up3 (upG x 0 r) 0 2 i (x 9 0 i)) 0) (by omega) (by rw [hr]; rfl) (by rw [h1, show min n 11 - i = (min n 11 - (i + 1)) + 1 by omega, loadN, if_pos c_49]) (by omega)
    refine J_lv [2, 3, 1, 0] rfl ?_
    exact lp14 _ 0 (x 0) (by omega) rfl rfl (Nat.lt_succ_self _)
  · skip
    have n_7 : ¬ 0 = 0 := cmp_ne (a := 0) (b := 0) (by omega) (by omega) c_7
    exact absurd n_7 (by decide)

set_option maxHeartbeats 4000000 in
set_option maxRecDepth 20000 in
theorem c_X5_load_ok_2 (l : Launch) (G : GB) (a : Nat → Nat) (x : Q3) (n : Nat) (hb : ¬ x 10 1 0 = 0) (hn : x 10 1 1 = nI n) (hn2 : n ≤ 40) : CI l yX5_load cX5_load 4 .int 3 62 G [.ref (a 0), .int (nI 2)] (wC G a x) (fun vR w' => vR = nI (loadN (x 10 0) (min n 11) 0) ∧ PubC G a (upG x 0 (loadQ (x 0) (x 10 0) (loadN (x 10 0) (min n 11) 0))) w') := by
  refine CI.mk (own := RX5) (by decide) rfl (Nat.le_of_ble_eq_true rfl) ?_
  intro X E ret
  show J X G 4 0 0 (wC G a x) [(0, .ref (a 0)), (1, .int (nI 2))] 0 []
  refine J_aload_n E dX5_load_0 rfl 0 rfl ?_
  refine J_iload_n E dX5_load_1 rfl 1 rfl ?_
  refine J_cVi0 E (As := [.int (nI 2)]) (c_X5_seekSheet_2_1 l G a x hb ) cl_X5_170 yo_X5_seekSheet dX5_load_2 rfl rfl rfl (Nat.le_of_ble_eq_true rfl) (Nat.le_of_ble_eq_true rfl) rfl (Nat.le_of_ble_eq_true rfl) ⟨Nat.zero_le _, Nat.zero_le _⟩ ?_
  refine J_istore_n E (lv' := [(2, .int 0), (0, .ref (a 0)), (1, .int (nI 2))]) dX5_load_5 rfl (by decide) rfl ?_
  refine J_iload_n E dX5_load_6 rfl 0 rfl ?_
  refine J_if_eq E (tgt := 12) dX5_load_7 (by decide) (fun c_7 => ?_) (fun c_7 => ?_)
  · skip
    have n_7 : 0 = 0 := cmp_eq (a := 0) (b := 0) (by omega) (by omega) c_7
    refine J_iconst E dX5_load_12 ic_0 ?_
    refine J_istore_n E (lv' := [(3, .int 0), (2, .int 0), (0, .ref (a 0)), (1, .int (nI 2))]) dX5_load_13 rfl (by decide) rfl ?_
    refine J_w (ws' := wC G a (upG x 0 (x 0))) (congrArg (wC G a) upG_id.symm) ?_
    have lp14 : ∀ (fu : Nat) (i : Nat) (r : Q2), (i ≤ min n 11) → (r = loadQ (x 0) (x 10 0) i) → (loadN (x 10 0) (min n 11) 0 = loadN (x 10 0) (min n 11 - i) i) → min n 11 - i < fu → J X G 4 0 0 (wC G a (upG x 0 r)) [(0, .ref (a 0)), (1, .int (nI 2)), (2, .int 0), (3, .int (nI i))] 14 [] := by
      intro fu
      induction fu with
      | zero => intro i r hi hr h1 hm; exact absurd hm (Nat.not_lt_zero _)
      | succ fu ih14 =>
        intro i r hi hr h1 hm
        refine J_iload_n E dX5_load_14 rfl 3 rfl ?_
        refine J_aload_n E dX5_load_15 rfl 0 rfl ?_
        refine gC0_X5_44 E dX5_load_16 ?_
        refine J_iload_n E dX5_load_19 rfl 1 rfl ?_
        refine laC_30_2 E dX5_load_20 ?_
        refine gC35_X5_208 E dX5_load_21 ?_
        refine J_top (x' := x 10 1 1) (upG_n (by decide)) ?_
        refine J_top (x' := nI n) (hn) ?_
        refine J_icmp_ge E (tgt := 78) dX5_load_24 (by decide) (fun c_24 => ?_) (fun c_24 => ?_)
        · skip
          have n_24 : n ≤ i := cmp_le (a := n) (b := i) (by omega) (by omega) c_24
          have h2 : loadN (x 10 0) (min n 11) 0 = i := by rw [h1, show min n 11 - i = 0 by omega]; rfl
          refine J_iload_n E dX5_load_78 rfl 3 rfl ?_
          exact ret _ _ _ _ ⟨by rw [h2], _, rfl, by rw [h2, ← hr]; exact ShC.rfl'⟩ rfl dX5_load_79
        · skip
          have n_24 : ¬ n ≤ i := cmp_nle (a := n) (b := i) (by omega) (by omega) c_24
          refine J_iload_n E dX5_load_27 rfl 3 rfl ?_
          refine J_bipush E dX5_load_28 bp_11 ?_
          refine J_icmp_ge E (tgt := 78) dX5_load_30 (by decide) (fun c_30 => ?_) (fun c_30 => ?_)
          · skip
            have n_30 : 11 ≤ i := cmp_le (a := 11) (b := i) (by omega) (by omega) c_30
            have h2 : loadN (x 10 0) (min n 11) 0 = i := by rw [h1, show min n 11 - i = 0 by omega]; rfl
            refine J_iload_n E dX5_load_78 rfl 3 rfl ?_
            exact ret _ _ _ _ ⟨by rw [h2], _, rfl, by rw [h2, ← hr]; exact ShC.rfl'⟩ rfl dX5_load_79
          · skip
            have n_30 : ¬ 11 ≤ i := cmp_nle (a := 11) (b := i) (by omega) (by omega) c_30
            refine J_aload_n E dX5_load_33 rfl 0 rfl ?_
            refine gC0_X5_44 E dX5_load_34 ?_
            refine J_iload_n E dX5_load_37 rfl 1 rfl ?_
            refine laC_30_2 E dX5_load_38 ?_
            refine gC35_X5_221 E dX5_load_39 ?_
            refine J_iload_n E dX5_load_42 rfl 3 rfl ?_
            refine lC_36 E (j := i) dX5_load_43 (by omega) ?_
            refine J_top (x' := x 10 0 i) (upG_n (by decide)) ?_
            refine J_bipush E dX5_load_44 bp_99 ?_
            refine J_cSiN E (As := [.int (x 10 0 i), .int 99]) (c_X5_isUpTo l G (x 10 0 i) 99 ) cl_X5_56 yo_X5_isUpTo dX5_load_46 rfl (Nat.le_of_ble_eq_true rfl) (Nat.le_of_ble_eq_true rfl) rfl (Nat.le_of_ble_eq_true rfl) ⟨Nat.zero_le _, Nat.zero_le _⟩ ?_
            refine J_if_eq E (tgt := 78) dX5_load_49 (by decide) (fun c_49 => ?_) (fun c_49 => ?_)
            · skip
              have c_49 := bI_0 c_49
              have h2 : loadN (x 10 0) (min n 11) 0 = i := by rw [h1, show min n 11 - i = (min n 11 - (i + 1)) + 1 by omega, loadN, if_neg c_49]
              refine J_iload_n E dX5_load_78 rfl 3 rfl ?_
              exact ret _ _ _ _ ⟨by rw [h2], _, rfl, by rw [h2, ← hr]; exact ShC.rfl'⟩ rfl dX5_load_79
            · skip
              have c_49 := bI_1 c_49
              refine J_aload_n E dX5_load_52 rfl 0 rfl ?_
              refine gC0_X5_10 E dX5_load_53 ?_
              refine gC1_X5_224 E dX5_load_56 ?_
              refine J_iload_n E dX5_load_59 rfl 3 rfl ?_
              refine J_aload_n E dX5_load_60 rfl 0 rfl ?_
              refine gC0_X5_44 E dX5_load_61 ?_
              refine J_iload_n E dX5_load_64 rfl 1 rfl ?_
              refine laC_30_2 E dX5_load_65 ?_
              refine gC35_X5_221 E dX5_load_66 ?_
              refine J_iload_n E dX5_load_69 rfl 3 rfl ?_
              refine lC_36 E (j := i) dX5_load_70 (by omega) ?_
              refine J_top (x' := x 10 0 i) (upG_n (by decide)) ?_
              refine sC_4 E (j := i) dX5_load_71 (by omega) ?_
              refine J_iinc E (lv' := [(3, .int (nI (i + 1))), (0, .ref (a 0)), (1, .int (nI 2)), (2, .int 0)]) dX5_load_72 3 rfl (nI_inc _) (by decide) rfl ?_
              refine J_goto E (tgt := 14) dX5_load_75 (by decide) ?_
              refine J_lv [1, 2, 3, 0] rfl ?_
              exact ih14 (i + 1) ((up3 (upG x 0 r) 0 2 i (x 10 0 i)) 0) (by omega) (by rw [hr]; rfl) (by rw [h1, show min n 11 - i = (min n 11 - (i + 1)) + 1 by omega, loadN, if_pos c_49]) (by omega)
    refine J_lv [2, 3, 1, 0] rfl ?_
    exact lp14 _ 0 (x 0) (by omega) rfl rfl (Nat.lt_succ_self _)
  · skip
    have n_7 : ¬ 0 = 0 := cmp_ne (a := 0) (b := 0) (by omega) (by omega) c_7
    exact absurd n_7 (by decide)

set_option maxHeartbeats 4000000 in
set_option maxRecDepth 20000 in
theorem c_X5_load_ok_3 (l : Launch) (G : GB) (a : Nat → Nat) (x : Q3) (n : Nat) (hb : ¬ x 11 1 0 = 0) (hn : x 11 1 1 = nI n) (hn2 : n ≤ 40) : CI l yX5_load cX5_load 4 .int 3 62 G [.ref (a 0), .int (nI 3)] (wC G a x) (fun vR w' => vR = nI (loadN (x 11 0) (min n 11) 0) ∧ PubC G a (upG x 0 (loadQ (x 0) (x 11 0) (loadN (x 11 0) (min n 11) 0))) w') := by
  refine CI.mk (own := RX5) (by decide) rfl (Nat.le_of_ble_eq_true rfl) ?_
  intro X E ret
  show J X G 4 0 0 (wC G a x) [(0, .ref (a 0)), (1, .int (nI 3))] 0 []
  refine J_aload_n E dX5_load_0 rfl 0 rfl ?_
  refine J_iload_n E dX5_load_1 rfl 1 rfl ?_
  refine J_cVi0 E (As := [.int (nI 3)]) (c_X5_seekSheet_3_1 l G a x hb ) cl_X5_170 yo_X5_seekSheet dX5_load_2 rfl rfl rfl (Nat.le_of_ble_eq_true rfl) (Nat.le_of_ble_eq_true rfl) rfl (Nat.le_of_ble_eq_true rfl) ⟨Nat.zero_le _, Nat.zero_le _⟩ ?_
  refine J_istore_n E (lv' := [(2, .int 0), (0, .ref (a 0)), (1, .int (nI 3))]) dX5_load_5 rfl (by decide) rfl ?_
  refine J_iload_n E dX5_load_6 rfl 0 rfl ?_
  refine J_if_eq E (tgt := 12) dX5_load_7 (by decide) (fun c_7 => ?_) (fun c_7 => ?_)
  · skip
    have n_7 : 0 = 0 := cmp_eq (a := 0) (b := 0) (by omega) (by omega) c_7
    refine J_iconst E dX5_load_12 ic_0 ?_
    refine J_istore_n E (lv' := [(3, .int 0), (2, .int 0), (0, .ref (a 0)), (1, .int (nI 3))]) dX5_load_13 rfl (by decide) rfl ?_
    refine J_w (ws' := wC G a (upG x 0 (x 0))) (congrArg (wC G a) upG_id.symm) ?_
    have lp14 : ∀ (fu : Nat) (i : Nat) (r : Q2), (i ≤ min n 11) → (r = loadQ (x 0) (x 11 0) i) → (loadN (x 11 0) (min n 11) 0 = loadN (x 11 0) (min n 11 - i) i) → min n 11 - i < fu → J X G 4 0 0 (wC G a (upG x 0 r)) [(0, .ref (a 0)), (1, .int (nI 3)), (2, .int 0), (3, .int (nI i))] 14 [] := by
      intro fu
      induction fu with
      | zero => intro i r hi hr h1 hm; exact absurd hm (Nat.not_lt_zero _)
      | succ fu ih14 =>
        intro i r hi hr h1 hm
        refine J_iload_n E dX5_load_14 rfl 3 rfl ?_
        refine J_aload_n E dX5_load_15 rfl 0 rfl ?_
        refine gC0_X5_44 E dX5_load_16 ?_
        refine J_iload_n E dX5_load_19 rfl 1 rfl ?_
        refine laC_30_3 E dX5_load_20 ?_
        refine gC37_X5_208 E dX5_load_21 ?_
        refine J_top (x' := x 11 1 1) (upG_n (by decide)) ?_
        refine J_top (x' := nI n) (hn) ?_
        refine J_icmp_ge E (tgt := 78) dX5_load_24 (by decide) (fun c_24 => ?_) (fun c_24 => ?_)
        · skip
          have n_24 : n ≤ i := cmp_le (a := n) (b := i) (by omega) (by omega) c_24
          have h2 : loadN (x 11 0) (min n 11) 0 = i := by rw [h1, show min n 11 - i = 0 by omega]; rfl
          refine J_iload_n E dX5_load_78 rfl 3 rfl ?_
          exact ret _ _ _ _ ⟨by rw [h2], _, rfl, by rw [h2, ← hr]; exact ShC.rfl'⟩ rfl dX5_load_79
        · skip
          have n_24 : ¬ n ≤ i := cmp_nle (a := n) (b := i) (by omega) (by omega) c_24
          refine J_iload_n E dX5_load_27 rfl 3 rfl ?_
          refine J_bipush E dX5_load_28 bp_11 ?_
          refine J_icmp_ge E (tgt := 78) dX5_load_30 (by decide) (fun c_30 => ?_) (fun c_30 => ?_)
          · skip
            have n_30 : 11 ≤ i := cmp_le (a := 11) (b := i) (by omega) (by omega) c_30
            have h2 : loadN (x 11 0) (min n 11) 0 = i := by rw [h1, show min n 11 - i = 0 by omega]; rfl
            refine J_iload_n E dX5_load_78 rfl 3 rfl ?_
            exact ret _ _ _ _ ⟨by rw [h2], _, rfl, by rw [h2, ← hr]; exact ShC.rfl'⟩ rfl dX5_load_79
          · skip
            have n_30 : ¬ 11 ≤ i := cmp_nle (a := 11) (b := i) (by omega) (by omega) c_30
            refine J_aload_n E dX5_load_33 rfl 0 rfl ?_
            refine gC0_X5_44 E dX5_load_34 ?_
            refine J_iload_n E dX5_load_37 rfl 1 rfl ?_
            refine laC_30_3 E dX5_load_38 ?_
            refine gC37_X5_221 E dX5_load_39 ?_
            refine J_iload_n E dX5_load_42 rfl 3 rfl ?_
            refine lC_38 E (j := i) dX5_load_43 (by omega) ?_
            refine J_top (x' := x 11 0 i) (upG_n (by decide)) ?_
            refine J_bipush E dX5_load_44 bp_99 ?_
            refine J_cSiN E (As := [.int (x 11 0 i), .int 99]) (c_X5_isUpTo l G (x 11 0 i) 99 ) cl_X5_56 yo_X5_isUpTo dX5_load_46 rfl (Nat.le_of_ble_eq_true rfl) (Nat.le_of_ble_eq_true rfl) rfl (Nat.le_of_ble_eq_true rfl) ⟨Nat.zero_le _, Nat.zero_le _⟩ ?_
            refine J_if_eq E (tgt := 78) dX5_load_49 (by decide) (fun c_49 => ?_) (fun c_49 => ?_)
            · skip
              have c_49 := bI_0 c_49
              have h2 : loadN (x 11 0) (min n 11) 0 = i := by rw [h1, show min n 11 - i = (min n 11 - (i + 1)) + 1 by omega, loadN, if_neg c_49]
              refine J_iload_n E dX5_load_78 rfl 3 rfl ?_
              exact ret _ _ _ _ ⟨by rw [h2], _, rfl, by rw [h2, ← hr]; exact ShC.rfl'⟩ rfl dX5_load_79
            · skip
              have c_49 := bI_1 c_49
              refine J_aload_n E dX5_load_52 rfl 0 rfl ?_
              refine gC0_X5_10 E dX5_load_53 ?_
              refine gC1_X5_224 E dX5_load_56 ?_
              refine J_iload_n E dX5_load_59 rfl 3 rfl ?_
              refine J_aload_n E dX5_load_60 rfl 0 rfl ?_
              refine gC0_X5_44 E dX5_load_61 ?_
              refine J_iload_n E dX5_load_64 rfl 1 rfl ?_
              refine laC_30_3 E dX5_load_65 ?_
              refine gC37_X5_221 E dX5_load_66 ?_
              refine J_iload_n E dX5_load_69 rfl 3 rfl ?_
              refine lC_38 E (j := i) dX5_load_70 (by omega) ?_
              refine J_top (x' := x 11 0 i) (upG_n (by decide)) ?_
              refine sC_4 E (j := i) dX5_load_71 (by omega) ?_
              refine J_iinc E (lv' := [(3, .int (nI (i + 1))), (0, .ref (a 0)), (1, .int (nI 3)), (2, .int 0)]) dX5_load_72 3 rfl (nI_inc _) (by decide) rfl ?_
              refine J_goto E (tgt := 14) dX5_load_75 (by decide) ?_
              refine J_lv [1, 2, 3, 0] rfl ?_
              exact ih14 (i + 1) ((up3 (upG x 0 r) 0 2 i (x 11 0 i)) 0) (by omega) (by rw [hr]; rfl) (by rw [h1, show min n 11 - i = (min n 11 - (i + 1)) + 1 by omega, loadN, if_pos c_49]) (by omega)
    refine J_lv [2, 3, 1, 0] rfl ?_
    exact lp14 _ 0 (x 0) (by omega) rfl rfl (Nat.lt_succ_self _)
  · skip
    have n_7 : ¬ 0 = 0 := cmp_ne (a := 0) (b := 0) (by omega) (by omega) c_7
    exact absurd n_7 (by decide)

set_option maxHeartbeats 4000000 in
set_option maxRecDepth 20000 in
theorem c_X5_judge_out (l : Launch) (G : GB) (a : Nat → Nat) (x : Q3) (s : Int32)  (hs : ¬ (0 ≤ s ∧ s ≤ 3)) : CI l yX5_judge cX5_judge 5 .int 3 62 G [.ref (a 0), .int s] (wC G a x) (fun vR w' => vR = tellR 0 ∧ PubC G a (tellX x 0) w') := by
  refine CI.mk (own := RX5) (by decide) rfl (Nat.le_of_ble_eq_true rfl) ?_
  intro X E ret
  show J X G 5 0 0 (wC G a x) [(0, .ref (a 0)), (1, .int s)] 0 []
  refine J_aload_n E dX5_judge_0 rfl 0 rfl ?_
  refine J_iload_n E dX5_judge_1 rfl 1 rfl ?_
  refine J_cVi0 E (As := [.int s]) (c_X5_seekSheet_out l G a x s hs ) cl_X5_170 yo_X5_seekSheet dX5_judge_2 rfl rfl rfl (Nat.le_of_ble_eq_true rfl) (Nat.le_of_ble_eq_true rfl) rfl (Nat.le_of_ble_eq_true rfl) ⟨Nat.zero_le _, Nat.zero_le _⟩ ?_
  refine J_istore_n E (lv' := [(2, .int (tellR 0)), (0, .ref (a 0)), (1, .int s)]) dX5_judge_5 rfl (by decide) rfl ?_
  refine J_iload_n E dX5_judge_6 rfl 0 rfl ?_
  refine J_if_eq E (tgt := 12) dX5_judge_7 (by decide) (fun c_7 => ?_) (fun c_7 => ?_)
  · skip
    exact absurd c_7 (tellR_ne (by decide))
  · skip
    refine J_iload_n E dX5_judge_10 rfl 0 rfl ?_
    exact ret _ _ _ _ ⟨rfl, _, rfl, by intro g h2 h6; simp [upG, up3, up3R, h2, h6]⟩ rfl dX5_judge_11

set_option maxHeartbeats 4000000 in
set_option maxRecDepth 20000 in
theorem c_X5_judge_miss_0 (l : Launch) (G : GB) (a : Nat → Nat) (x : Q3)  (hb : x 8 1 0 = 0) : CI l yX5_judge cX5_judge 5 .int 3 62 G [.ref (a 0), .int (nI 0)] (wC G a x) (fun vR w' => vR = tellR 5 ∧ PubC G a (tellX x 5) w') := by
  refine CI.mk (own := RX5) (by decide) rfl (Nat.le_of_ble_eq_true rfl) ?_
  intro X E ret
  show J X G 5 0 0 (wC G a x) [(0, .ref (a 0)), (1, .int (nI 0))] 0 []
  refine J_aload_n E dX5_judge_0 rfl 0 rfl ?_
  refine J_iload_n E dX5_judge_1 rfl 1 rfl ?_
  refine J_cVi0 E (As := [.int (nI 0)]) (c_X5_seekSheet_0_0 l G a x hb ) cl_X5_170 yo_X5_seekSheet dX5_judge_2 rfl rfl rfl (Nat.le_of_ble_eq_true rfl) (Nat.le_of_ble_eq_true rfl) rfl (Nat.le_of_ble_eq_true rfl) ⟨Nat.zero_le _, Nat.zero_le _⟩ ?_
  refine J_istore_n E (lv' := [(2, .int (tellR 5)), (0, .ref (a 0)), (1, .int (nI 0))]) dX5_judge_5 rfl (by decide) rfl ?_
  refine J_iload_n E dX5_judge_6 rfl 0 rfl ?_
  refine J_if_eq E (tgt := 12) dX5_judge_7 (by decide) (fun c_7 => ?_) (fun c_7 => ?_)
  · skip
    exact absurd c_7 (tellR_ne (by decide))
  · skip
    refine J_iload_n E dX5_judge_10 rfl 0 rfl ?_
    exact ret _ _ _ _ ⟨rfl, _, rfl, by intro g h2 h6; simp [upG, up3, up3R, h2, h6]⟩ rfl dX5_judge_11

set_option maxHeartbeats 4000000 in
set_option maxRecDepth 20000 in
theorem c_X5_judge_miss_1 (l : Launch) (G : GB) (a : Nat → Nat) (x : Q3)  (hb : x 9 1 0 = 0) : CI l yX5_judge cX5_judge 5 .int 3 62 G [.ref (a 0), .int (nI 1)] (wC G a x) (fun vR w' => vR = tellR 5 ∧ PubC G a (tellX x 5) w') := by
  refine CI.mk (own := RX5) (by decide) rfl (Nat.le_of_ble_eq_true rfl) ?_
  intro X E ret
  show J X G 5 0 0 (wC G a x) [(0, .ref (a 0)), (1, .int (nI 1))] 0 []
  refine J_aload_n E dX5_judge_0 rfl 0 rfl ?_
  refine J_iload_n E dX5_judge_1 rfl 1 rfl ?_
  refine J_cVi0 E (As := [.int (nI 1)]) (c_X5_seekSheet_1_0 l G a x hb ) cl_X5_170 yo_X5_seekSheet dX5_judge_2 rfl rfl rfl (Nat.le_of_ble_eq_true rfl) (Nat.le_of_ble_eq_true rfl) rfl (Nat.le_of_ble_eq_true rfl) ⟨Nat.zero_le _, Nat.zero_le _⟩ ?_
  refine J_istore_n E (lv' := [(2, .int (tellR 5)), (0, .ref (a 0)), (1, .int (nI 1))]) dX5_judge_5 rfl (by decide) rfl ?_
  refine J_iload_n E dX5_judge_6 rfl 0 rfl ?_
  refine J_if_eq E (tgt := 12) dX5_judge_7 (by decide) (fun c_7 => ?_) (fun c_7 => ?_)
  · skip
    exact absurd c_7 (tellR_ne (by decide))
  · skip
    refine J_iload_n E dX5_judge_10 rfl 0 rfl ?_
    exact ret _ _ _ _ ⟨rfl, _, rfl, by intro g h2 h6; simp [upG, up3, up3R, h2, h6]⟩ rfl dX5_judge_11

set_option maxHeartbeats 4000000 in
set_option maxRecDepth 20000 in
theorem c_X5_judge_miss_2 (l : Launch) (G : GB) (a : Nat → Nat) (x : Q3)  (hb : x 10 1 0 = 0) : CI l yX5_judge cX5_judge 5 .int 3 62 G [.ref (a 0), .int (nI 2)] (wC G a x) (fun vR w' => vR = tellR 5 ∧ PubC G a (tellX x 5) w') := by
  refine CI.mk (own := RX5) (by decide) rfl (Nat.le_of_ble_eq_true rfl) ?_
  intro X E ret
  show J X G 5 0 0 (wC G a x) [(0, .ref (a 0)), (1, .int (nI 2))] 0 []
  refine J_aload_n E dX5_judge_0 rfl 0 rfl ?_
  refine J_iload_n E dX5_judge_1 rfl 1 rfl ?_
  refine J_cVi0 E (As := [.int (nI 2)]) (c_X5_seekSheet_2_0 l G a x hb ) cl_X5_170 yo_X5_seekSheet dX5_judge_2 rfl rfl rfl (Nat.le_of_ble_eq_true rfl) (Nat.le_of_ble_eq_true rfl) rfl (Nat.le_of_ble_eq_true rfl) ⟨Nat.zero_le _, Nat.zero_le _⟩ ?_
  refine J_istore_n E (lv' := [(2, .int (tellR 5)), (0, .ref (a 0)), (1, .int (nI 2))]) dX5_judge_5 rfl (by decide) rfl ?_
  refine J_iload_n E dX5_judge_6 rfl 0 rfl ?_
  refine J_if_eq E (tgt := 12) dX5_judge_7 (by decide) (fun c_7 => ?_) (fun c_7 => ?_)
  · skip
    exact absurd c_7 (tellR_ne (by decide))
  · skip
    refine J_iload_n E dX5_judge_10 rfl 0 rfl ?_
    exact ret _ _ _ _ ⟨rfl, _, rfl, by intro g h2 h6; simp [upG, up3, up3R, h2, h6]⟩ rfl dX5_judge_11

set_option maxHeartbeats 4000000 in
set_option maxRecDepth 20000 in
theorem c_X5_judge_miss_3 (l : Launch) (G : GB) (a : Nat → Nat) (x : Q3)  (hb : x 11 1 0 = 0) : CI l yX5_judge cX5_judge 5 .int 3 62 G [.ref (a 0), .int (nI 3)] (wC G a x) (fun vR w' => vR = tellR 5 ∧ PubC G a (tellX x 5) w') := by
  refine CI.mk (own := RX5) (by decide) rfl (Nat.le_of_ble_eq_true rfl) ?_
  intro X E ret
  show J X G 5 0 0 (wC G a x) [(0, .ref (a 0)), (1, .int (nI 3))] 0 []
  refine J_aload_n E dX5_judge_0 rfl 0 rfl ?_
  refine J_iload_n E dX5_judge_1 rfl 1 rfl ?_
  refine J_cVi0 E (As := [.int (nI 3)]) (c_X5_seekSheet_3_0 l G a x hb ) cl_X5_170 yo_X5_seekSheet dX5_judge_2 rfl rfl rfl (Nat.le_of_ble_eq_true rfl) (Nat.le_of_ble_eq_true rfl) rfl (Nat.le_of_ble_eq_true rfl) ⟨Nat.zero_le _, Nat.zero_le _⟩ ?_
  refine J_istore_n E (lv' := [(2, .int (tellR 5)), (0, .ref (a 0)), (1, .int (nI 3))]) dX5_judge_5 rfl (by decide) rfl ?_
  refine J_iload_n E dX5_judge_6 rfl 0 rfl ?_
  refine J_if_eq E (tgt := 12) dX5_judge_7 (by decide) (fun c_7 => ?_) (fun c_7 => ?_)
  · skip
    exact absurd c_7 (tellR_ne (by decide))
  · skip
    refine J_iload_n E dX5_judge_10 rfl 0 rfl ?_
    exact ret _ _ _ _ ⟨rfl, _, rfl, by intro g h2 h6; simp [upG, up3, up3R, h2, h6]⟩ rfl dX5_judge_11

set_option maxHeartbeats 4000000 in
set_option maxRecDepth 20000 in
theorem c_X5_judge_ok_0 (l : Launch) (G : GB) (a : Nat → Nat) (x : Q3) (n : Nat) (hb : ¬ x 8 1 0 = 0) (hn : x 8 1 1 = nI n) (hn2 : n ≤ 40) (hsp : spOk (x 0)) : CI l yX5_judge cX5_judge 5 .int 3 62 G [.ref (a 0), .int (nI 0)] (wC G a x) (fun vR w' => vR = judgR (x 0) (x 8 0) n 0 ∧ PubC G a x w') := by
  refine CI.mk (own := RX5) (by decide) rfl (Nat.le_of_ble_eq_true rfl) ?_
  intro X E ret
  show J X G 5 0 0 (wC G a x) [(0, .ref (a 0)), (1, .int (nI 0))] 0 []
  refine J_aload_n E dX5_judge_0 rfl 0 rfl ?_
  refine J_iload_n E dX5_judge_1 rfl 1 rfl ?_
  refine J_cVi0 E (As := [.int (nI 0)]) (c_X5_seekSheet_0_1 l G a x hb ) cl_X5_170 yo_X5_seekSheet dX5_judge_2 rfl rfl rfl (Nat.le_of_ble_eq_true rfl) (Nat.le_of_ble_eq_true rfl) rfl (Nat.le_of_ble_eq_true rfl) ⟨Nat.zero_le _, Nat.zero_le _⟩ ?_
  refine J_istore_n E (lv' := [(2, .int 0), (0, .ref (a 0)), (1, .int (nI 0))]) dX5_judge_5 rfl (by decide) rfl ?_
  refine J_iload_n E dX5_judge_6 rfl 0 rfl ?_
  refine J_if_eq E (tgt := 12) dX5_judge_7 (by decide) (fun c_7 => ?_) (fun c_7 => ?_)
  · skip
    have n_7 : 0 = 0 := cmp_eq (a := 0) (b := 0) (by omega) (by omega) c_7
    refine J_aload_n E dX5_judge_12 rfl 1 rfl ?_
    refine gC0_X5_44 E dX5_judge_13 ?_
    refine J_iload_n E dX5_judge_16 rfl 2 rfl ?_
    refine laC_30_0 E dX5_judge_17 ?_
    refine gC31_X5_221 E dX5_judge_18 ?_
    refine J_astore_n E (lv' := [(3, .ref (a 32)), (2, .int 0), (0, .ref (a 0)), (1, .int (nI 0))]) dX5_judge_21 rfl (by decide) rfl ?_
    refine J_iconst E dX5_judge_22 ic_0 ?_
    refine J_istore E (lv' := [(4, .int 0), (3, .ref (a 32)), (2, .int 0), (0, .ref (a 0)), (1, .int (nI 0))]) dX5_judge_23 (by decide) rfl ?_
    have lp25 : ∀ (fu : Nat) (i : Nat), (i ≤ n) → (judgR (x 0) (x 8 0) n 0 = judgR (x 0) (x 8 0) (n - i) i) → (0 < i → okH (x 8 0 (i - 1))) → n - i < fu → J X G 5 0 0 (wC G a x) [(0, .ref (a 0)), (1, .int (nI 0)), (2, .int 0), (3, .ref (a 32)), (4, .int (nI i))] 25 [] := by
      intro fu
      induction fu with
      | zero => intro i hi h1 h2 hm; exact absurd hm (Nat.not_lt_zero _)
      | succ fu ih25 =>
        intro i hi h1 h2 hm
        refine J_iload E dX5_judge_25 4 rfl ?_
        refine J_aload_n E dX5_judge_27 rfl 0 rfl ?_
        refine gC0_X5_44 E dX5_judge_28 ?_
        refine J_iload_n E dX5_judge_31 rfl 1 rfl ?_
        refine laC_30_0 E dX5_judge_32 ?_
        refine gC31_X5_208 E dX5_judge_33 ?_
        refine J_top (x' := nI n) (hn) ?_
        refine J_icmp_ge E (tgt := 85) dX5_judge_36 (by decide) (fun c_36 => ?_) (fun c_36 => ?_)
        · skip
          have n_36 : n ≤ i := cmp_le (a := n) (b := i) (by omega) (by omega) c_36
          refine J_iconst E dX5_judge_85 ic_0 ?_
          exact ret _ _ _ _ ⟨by rw [h1, show n - i = 0 by omega]; rfl, _, rfl, by intro g h2 h6; simp [upG, up3, up3R, h2, h6]⟩ rfl dX5_judge_86
        · skip
          have n_36 : ¬ n ≤ i := cmp_nle (a := n) (b := i) (by omega) (by omega) c_36
          refine J_aload_n E dX5_judge_39 rfl 3 rfl ?_
          refine J_iload E dX5_judge_40 4 rfl ?_
          refine lC_32 E (j := i) dX5_judge_42 (by omega) ?_
          refine J_cSiN E (As := [.int (x 8 0 i)]) (c_X5_isHouse l G (x 8 0 i) ) cl_X5_52 yo_X5_isHouse dX5_judge_43 rfl (Nat.le_of_ble_eq_true rfl) (Nat.le_of_ble_eq_true rfl) rfl (Nat.le_of_ble_eq_true rfl) ⟨Nat.zero_le _, Nat.zero_le _⟩ ?_
          refine J_if_eq E (tgt := 74) dX5_judge_46 (by decide) (fun c_46 => ?_) (fun c_46 => ?_)
          · skip
            have c_46 := bI_0 c_46
            refine J_iconst E dX5_judge_74 ic_1 ?_
            refine J_iload E dX5_judge_75 4 rfl ?_
            refine J_iadd E dX5_judge_77 ?_
            exact ret _ _ _ _ ⟨by first | (rw [h1, show n - i = (n - (i + 1)) + 1 by omega, judgR, if_neg (fun z : judgP _ _ _ = true => c_46 (of_decide_eq_true z).1)]) | (rw [h1, show n - (y + 1) = (n - (y + 2)) + 1 by omega, judgR, if_neg (fun z : judgP _ _ _ = true => hw (of_decide_eq_true z).2)]), _, rfl, by intro g h2 h6; simp [upG, up3, up3R, h2, h6]⟩ rfl dX5_judge_78
          · skip
            have c_46 := bI_1 c_46
            refine J_iload E dX5_judge_49 4 rfl ?_
            refine J_if_le E (tgt := 79) dX5_judge_51 (by decide) (fun c_51 => ?_) (fun c_51 => ?_)
            · skip
              have n_51 : i ≤ 0 := cmp_le (a := i) (b := 0) (by omega) (by omega) c_51
              have hw : i = 0 ∨ leadF (x 0) (x 8 0 (i - 1)).toNatClampNeg = x 8 0 i := Or.inl (by omega)
              refine J_iinc E (lv' := [(4, .int (nI (i + 1))), (0, .ref (a 0)), (1, .int (nI 0)), (2, .int 0), (3, .ref (a 32))]) dX5_judge_79 4 rfl (nI_inc _) (by decide) rfl ?_
              refine J_goto E (tgt := 25) dX5_judge_82 (by decide) ?_
              refine J_lv [1, 2, 3, 4, 0] rfl ?_
              exact ih25 (i + 1) (by omega) (by rw [h1, show n - i = (n - (i + 1)) + 1 by omega, judgR, if_pos (show judgP (x 0) (x 8 0) _ = true from decide_eq_true ⟨c_46, hw⟩)]) (fun _ => c_46) (by omega)
            · skip
              have n_51 : ¬ i ≤ 0 := cmp_nle (a := i) (b := 0) (by omega) (by omega) c_51
              refine J_aload_n E dX5_judge_54 rfl 0 rfl ?_
              refine gC0_X5_10 E dX5_judge_55 ?_
              refine J_aload_n E dX5_judge_58 rfl 3 rfl ?_
              refine J_iload E dX5_judge_59 4 rfl ?_
              obtain ⟨y, rfl⟩ : ∃ y, i = y + 1 := ⟨i - 1, by omega⟩
              obtain ⟨p, hp, hp2⟩ := okH_of (h2 (by omega))
              have hp2 : x 8 0 y = nI p := hp2
              refine J_iconst E dX5_judge_61 ic_1 ?_
              refine J_isub E dX5_judge_62 ?_
              refine J_top (x' := nI y) (nI_pred y) ?_
              refine lC_32 E (j := y) dX5_judge_63 (by omega) ?_
              refine J_top (x' := nI p) (hp2) ?_
              refine J_si0r E (As := [.int (nI p)]) (c_X1_leadsTo l G (sh a 1) (x 0) p (by omega)) cl_X5_85 yo_X1_leadsTo dX5_judge_64 rfl (Nat.le_of_ble_eq_true rfl) (Nat.le_of_ble_eq_true rfl) rfl (Nat.le_of_ble_eq_true rfl) ⟨Nat.zero_le _, Nat.zero_le _⟩ ?_
              refine J_aload_n E dX5_judge_67 rfl 3 rfl ?_
              refine J_iload E dX5_judge_68 4 rfl ?_
              refine lC_32 E (j := (y + 1)) dX5_judge_70 (by omega) ?_
              refine J_icmp_eq E (tgt := 79) dX5_judge_71 (by decide) (fun c_71 => ?_) (fun c_71 => ?_)
              · skip
                have hw : y + 1 = 0 ∨ leadF (x 0) (x 8 0 (y + 1 - 1)).toNatClampNeg = x 8 0 (y + 1) := Or.inr (by rw [show y + 1 - 1 = y by omega, hp2, nI_clamp (by omega)]; exact c_71)
                refine J_iinc E (lv' := [(4, .int (nI ((y + 1) + 1))), (0, .ref (a 0)), (1, .int (nI 0)), (2, .int 0), (3, .ref (a 32))]) dX5_judge_79 4 rfl (nI_inc _) (by decide) rfl ?_
                refine J_goto E (tgt := 25) dX5_judge_82 (by decide) ?_
                refine J_lv [1, 2, 3, 4, 0] rfl ?_
                exact ih25 ((y + 1) + 1) (by omega) (by rw [h1, show n - (y + 1) = (n - ((y + 1) + 1)) + 1 by omega, judgR, if_pos (show judgP (x 0) (x 8 0) _ = true from decide_eq_true ⟨c_46, hw⟩)]) (fun _ => c_46) (by omega)
              · skip
                have hw : ¬ (y + 1 = 0 ∨ leadF (x 0) (x 8 0 (y + 1 - 1)).toNatClampNeg = x 8 0 (y + 1)) := fun z => c_71 (by have z2 := z.resolve_left (by omega); rw [show y + 1 - 1 = y by omega, hp2, nI_clamp (by omega)] at z2; exact z2)
                refine J_iconst E dX5_judge_74 ic_1 ?_
                refine J_iload E dX5_judge_75 4 rfl ?_
                refine J_iadd E dX5_judge_77 ?_
                exact ret _ _ _ _ ⟨by first | (rw [h1, show n - i = (n - (i + 1)) + 1 by omega, judgR, if_neg (fun z : judgP _ _ _ = true => c_46 (of_decide_eq_true z).1)]) | (rw [h1, show n - (y + 1) = (n - (y + 2)) + 1 by omega, judgR, if_neg (fun z : judgP _ _ _ = true => hw (of_decide_eq_true z).2)]), _, rfl, by intro g h2 h6; simp [upG, up3, up3R, h2, h6]⟩ rfl dX5_judge_78
    refine J_lv [3, 4, 2, 1, 0] rfl ?_
    exact lp25 _ 0 (by omega) rfl (fun z => absurd z (Nat.lt_irrefl 0)) (Nat.lt_succ_self _)
  · skip
    have n_7 : ¬ 0 = 0 := cmp_ne (a := 0) (b := 0) (by omega) (by omega) c_7
    exact absurd n_7 (by decide)

set_option maxHeartbeats 4000000 in
set_option maxRecDepth 20000 in
theorem c_X5_judge_ok_1 (l : Launch) (G : GB) (a : Nat → Nat) (x : Q3) (n : Nat) (hb : ¬ x 9 1 0 = 0) (hn : x 9 1 1 = nI n) (hn2 : n ≤ 40) (hsp : spOk (x 0)) : CI l yX5_judge cX5_judge 5 .int 3 62 G [.ref (a 0), .int (nI 1)] (wC G a x) (fun vR w' => vR = judgR (x 0) (x 9 0) n 0 ∧ PubC G a x w') := by
  refine CI.mk (own := RX5) (by decide) rfl (Nat.le_of_ble_eq_true rfl) ?_
  intro X E ret
  show J X G 5 0 0 (wC G a x) [(0, .ref (a 0)), (1, .int (nI 1))] 0 []
  refine J_aload_n E dX5_judge_0 rfl 0 rfl ?_
  refine J_iload_n E dX5_judge_1 rfl 1 rfl ?_
  refine J_cVi0 E (As := [.int (nI 1)]) (c_X5_seekSheet_1_1 l G a x hb ) cl_X5_170 yo_X5_seekSheet dX5_judge_2 rfl rfl rfl (Nat.le_of_ble_eq_true rfl) (Nat.le_of_ble_eq_true rfl) rfl (Nat.le_of_ble_eq_true rfl) ⟨Nat.zero_le _, Nat.zero_le _⟩ ?_
  refine J_istore_n E (lv' := [(2, .int 0), (0, .ref (a 0)), (1, .int (nI 1))]) dX5_judge_5 rfl (by decide) rfl ?_
  refine J_iload_n E dX5_judge_6 rfl 0 rfl ?_
  refine J_if_eq E (tgt := 12) dX5_judge_7 (by decide) (fun c_7 => ?_) (fun c_7 => ?_)
  · skip
    have n_7 : 0 = 0 := cmp_eq (a := 0) (b := 0) (by omega) (by omega) c_7
    refine J_aload_n E dX5_judge_12 rfl 1 rfl ?_
    refine gC0_X5_44 E dX5_judge_13 ?_
    refine J_iload_n E dX5_judge_16 rfl 2 rfl ?_
    refine laC_30_1 E dX5_judge_17 ?_
    refine gC33_X5_221 E dX5_judge_18 ?_
    refine J_astore_n E (lv' := [(3, .ref (a 34)), (2, .int 0), (0, .ref (a 0)), (1, .int (nI 1))]) dX5_judge_21 rfl (by decide) rfl ?_
    refine J_iconst E dX5_judge_22 ic_0 ?_
    refine J_istore E (lv' := [(4, .int 0), (3, .ref (a 34)), (2, .int 0), (0, .ref (a 0)), (1, .int (nI 1))]) dX5_judge_23 (by decide) rfl ?_
    have lp25 : ∀ (fu : Nat) (i : Nat), (i ≤ n) → (judgR (x 0) (x 9 0) n 0 = judgR (x 0) (x 9 0) (n - i) i) → (0 < i → okH (x 9 0 (i - 1))) → n - i < fu → J X G 5 0 0 (wC G a x) [(0, .ref (a 0)), (1, .int (nI 1)), (2, .int 0), (3, .ref (a 34)), (4, .int (nI i))] 25 [] := by
      intro fu
      induction fu with
      | zero => intro i hi h1 h2 hm; exact absurd hm (Nat.not_lt_zero _)
      | succ fu ih25 =>
        intro i hi h1 h2 hm
        refine J_iload E dX5_judge_25 4 rfl ?_
        refine J_aload_n E dX5_judge_27 rfl 0 rfl ?_
        refine gC0_X5_44 E dX5_judge_28 ?_
        refine J_iload_n E dX5_judge_31 rfl 1 rfl ?_
        refine laC_30_1 E dX5_judge_32 ?_
        refine gC33_X5_208 E dX5_judge_33 ?_
        refine J_top (x' := nI n) (hn) ?_
        refine J_icmp_ge E (tgt := 85) dX5_judge_36 (by decide) (fun c_36 => ?_) (fun c_36 => ?_)
        · skip
          have n_36 : n ≤ i := cmp_le (a := n) (b := i) (by omega) (by omega) c_36
          refine J_iconst E dX5_judge_85 ic_0 ?_
          exact ret _ _ _ _ ⟨by rw [h1, show n - i = 0 by omega]; rfl, _, rfl, by intro g h2 h6; simp [upG, up3, up3R, h2, h6]⟩ rfl dX5_judge_86
        · skip
          have n_36 : ¬ n ≤ i := cmp_nle (a := n) (b := i) (by omega) (by omega) c_36
          refine J_aload_n E dX5_judge_39 rfl 3 rfl ?_
          refine J_iload E dX5_judge_40 4 rfl ?_
          refine lC_34 E (j := i) dX5_judge_42 (by omega) ?_
          refine J_cSiN E (As := [.int (x 9 0 i)]) (c_X5_isHouse l G (x 9 0 i) ) cl_X5_52 yo_X5_isHouse dX5_judge_43 rfl (Nat.le_of_ble_eq_true rfl) (Nat.le_of_ble_eq_true rfl) rfl (Nat.le_of_ble_eq_true rfl) ⟨Nat.zero_le _, Nat.zero_le _⟩ ?_
          refine J_if_eq E (tgt := 74) dX5_judge_46 (by decide) (fun c_46 => ?_) (fun c_46 => ?_)
          · skip
            have c_46 := bI_0 c_46
            refine J_iconst E dX5_judge_74 ic_1 ?_
            refine J_iload E dX5_judge_75 4 rfl ?_
            refine J_iadd E dX5_judge_77 ?_
            exact ret _ _ _ _ ⟨by first | (rw [h1, show n - i = (n - (i + 1)) + 1 by omega, judgR, if_neg (fun z : judgP _ _ _ = true => c_46 (of_decide_eq_true z).1)]) | (rw [h1, show n - (y + 1) = (n - (y + 2)) + 1 by omega, judgR, if_neg (fun z : judgP _ _ _ = true => hw (of_decide_eq_true z).2)]), _, rfl, by intro g h2 h6; simp [upG, up3, up3R, h2, h6]⟩ rfl dX5_judge_78
          · skip
            have c_46 := bI_1 c_46
            refine J_iload E dX5_judge_49 4 rfl ?_
            refine J_if_le E (tgt := 79) dX5_judge_51 (by decide) (fun c_51 => ?_) (fun c_51 => ?_)
            · skip
              have n_51 : i ≤ 0 := cmp_le (a := i) (b := 0) (by omega) (by omega) c_51
              have hw : i = 0 ∨ leadF (x 0) (x 9 0 (i - 1)).toNatClampNeg = x 9 0 i := Or.inl (by omega)
              refine J_iinc E (lv' := [(4, .int (nI (i + 1))), (0, .ref (a 0)), (1, .int (nI 1)), (2, .int 0), (3, .ref (a 34))]) dX5_judge_79 4 rfl (nI_inc _) (by decide) rfl ?_
              refine J_goto E (tgt := 25) dX5_judge_82 (by decide) ?_
              refine J_lv [1, 2, 3, 4, 0] rfl ?_
              exact ih25 (i + 1) (by omega) (by rw [h1, show n - i = (n - (i + 1)) + 1 by omega, judgR, if_pos (show judgP (x 0) (x 9 0) _ = true from decide_eq_true ⟨c_46, hw⟩)]) (fun _ => c_46) (by omega)
            · skip
              have n_51 : ¬ i ≤ 0 := cmp_nle (a := i) (b := 0) (by omega) (by omega) c_51
              refine J_aload_n E dX5_judge_54 rfl 0 rfl ?_
              refine gC0_X5_10 E dX5_judge_55 ?_
              refine J_aload_n E dX5_judge_58 rfl 3 rfl ?_
              refine J_iload E dX5_judge_59 4 rfl ?_
              obtain ⟨y, rfl⟩ : ∃ y, i = y + 1 := ⟨i - 1, by omega⟩
              obtain ⟨p, hp, hp2⟩ := okH_of (h2 (by omega))
              have hp2 : x 9 0 y = nI p := hp2
              refine J_iconst E dX5_judge_61 ic_1 ?_
              refine J_isub E dX5_judge_62 ?_
              refine J_top (x' := nI y) (nI_pred y) ?_
              refine lC_34 E (j := y) dX5_judge_63 (by omega) ?_
              refine J_top (x' := nI p) (hp2) ?_
              refine J_si0r E (As := [.int (nI p)]) (c_X1_leadsTo l G (sh a 1) (x 0) p (by omega)) cl_X5_85 yo_X1_leadsTo dX5_judge_64 rfl (Nat.le_of_ble_eq_true rfl) (Nat.le_of_ble_eq_true rfl) rfl (Nat.le_of_ble_eq_true rfl) ⟨Nat.zero_le _, Nat.zero_le _⟩ ?_
              refine J_aload_n E dX5_judge_67 rfl 3 rfl ?_
              refine J_iload E dX5_judge_68 4 rfl ?_
              refine lC_34 E (j := (y + 1)) dX5_judge_70 (by omega) ?_
              refine J_icmp_eq E (tgt := 79) dX5_judge_71 (by decide) (fun c_71 => ?_) (fun c_71 => ?_)
              · skip
                have hw : y + 1 = 0 ∨ leadF (x 0) (x 9 0 (y + 1 - 1)).toNatClampNeg = x 9 0 (y + 1) := Or.inr (by rw [show y + 1 - 1 = y by omega, hp2, nI_clamp (by omega)]; exact c_71)
                refine J_iinc E (lv' := [(4, .int (nI ((y + 1) + 1))), (0, .ref (a 0)), (1, .int (nI 1)), (2, .int 0), (3, .ref (a 34))]) dX5_judge_79 4 rfl (nI_inc _) (by decide) rfl ?_
                refine J_goto E (tgt := 25) dX5_judge_82 (by decide) ?_
                refine J_lv [1, 2, 3, 4, 0] rfl ?_
                exact ih25 ((y + 1) + 1) (by omega) (by rw [h1, show n - (y + 1) = (n - ((y + 1) + 1)) + 1 by omega, judgR, if_pos (show judgP (x 0) (x 9 0) _ = true from decide_eq_true ⟨c_46, hw⟩)]) (fun _ => c_46) (by omega)
              · skip
                have hw : ¬ (y + 1 = 0 ∨ leadF (x 0) (x 9 0 (y + 1 - 1)).toNatClampNeg = x 9 0 (y + 1)) := fun z => c_71 (by have z2 := z.resolve_left (by omega); rw [show y + 1 - 1 = y by omega, hp2, nI_clamp (by omega)] at z2; exact z2)
                refine J_iconst E dX5_judge_74 ic_1 ?_
                refine J_iload E dX5_judge_75 4 rfl ?_
                refine J_iadd E dX5_judge_77 ?_
                exact ret _ _ _ _ ⟨by first | (rw [h1, show n - i = (n - (i + 1)) + 1 by omega, judgR, if_neg (fun z : judgP _ _ _ = true => c_46 (of_decide_eq_true z).1)]) | (rw [h1, show n - (y + 1) = (n - (y + 2)) + 1 by omega, judgR, if_neg (fun z : judgP _ _ _ = true => hw (of_decide_eq_true z).2)]), _, rfl, by intro g h2 h6; simp [upG, up3, up3R, h2, h6]⟩ rfl dX5_judge_78
    refine J_lv [3, 4, 2, 1, 0] rfl ?_
    exact lp25 _ 0 (by omega) rfl (fun z => absurd z (Nat.lt_irrefl 0)) (Nat.lt_succ_self _)
  · skip
    have n_7 : ¬ 0 = 0 := cmp_ne (a := 0) (b := 0) (by omega) (by omega) c_7
    exact absurd n_7 (by decide)

set_option maxHeartbeats 4000000 in
set_option maxRecDepth 20000 in
theorem c_X5_judge_ok_2 (l : Launch) (G : GB) (a : Nat → Nat) (x : Q3) (n : Nat) (hb : ¬ x 10 1 0 = 0) (hn : x 10 1 1 = nI n) (hn2 : n ≤ 40) (hsp : spOk (x 0)) : CI l yX5_judge cX5_judge 5 .int 3 62 G [.ref (a 0), .int (nI 2)] (wC G a x) (fun vR w' => vR = judgR (x 0) (x 10 0) n 0 ∧ PubC G a x w') := by
  refine CI.mk (own := RX5) (by decide) rfl (Nat.le_of_ble_eq_true rfl) ?_
  intro X E ret
  show J X G 5 0 0 (wC G a x) [(0, .ref (a 0)), (1, .int (nI 2))] 0 []
  refine J_aload_n E dX5_judge_0 rfl 0 rfl ?_
  refine J_iload_n E dX5_judge_1 rfl 1 rfl ?_
  refine J_cVi0 E (As := [.int (nI 2)]) (c_X5_seekSheet_2_1 l G a x hb ) cl_X5_170 yo_X5_seekSheet dX5_judge_2 rfl rfl rfl (Nat.le_of_ble_eq_true rfl) (Nat.le_of_ble_eq_true rfl) rfl (Nat.le_of_ble_eq_true rfl) ⟨Nat.zero_le _, Nat.zero_le _⟩ ?_
  refine J_istore_n E (lv' := [(2, .int 0), (0, .ref (a 0)), (1, .int (nI 2))]) dX5_judge_5 rfl (by decide) rfl ?_
  refine J_iload_n E dX5_judge_6 rfl 0 rfl ?_
  refine J_if_eq E (tgt := 12) dX5_judge_7 (by decide) (fun c_7 => ?_) (fun c_7 => ?_)
  · skip
    have n_7 : 0 = 0 := cmp_eq (a := 0) (b := 0) (by omega) (by omega) c_7
    refine J_aload_n E dX5_judge_12 rfl 1 rfl ?_
    refine gC0_X5_44 E dX5_judge_13 ?_
    refine J_iload_n E dX5_judge_16 rfl 2 rfl ?_
    refine laC_30_2 E dX5_judge_17 ?_
    refine gC35_X5_221 E dX5_judge_18 ?_
    refine J_astore_n E (lv' := [(3, .ref (a 36)), (2, .int 0), (0, .ref (a 0)), (1, .int (nI 2))]) dX5_judge_21 rfl (by decide) rfl ?_
    refine J_iconst E dX5_judge_22 ic_0 ?_
    refine J_istore E (lv' := [(4, .int 0), (3, .ref (a 36)), (2, .int 0), (0, .ref (a 0)), (1, .int (nI 2))]) dX5_judge_23 (by decide) rfl ?_
    have lp25 : ∀ (fu : Nat) (i : Nat), (i ≤ n) → (judgR (x 0) (x 10 0) n 0 = judgR (x 0) (x 10 0) (n - i) i) → (0 < i → okH (x 10 0 (i - 1))) → n - i < fu → J X G 5 0 0 (wC G a x) [(0, .ref (a 0)), (1, .int (nI 2)), (2, .int 0), (3, .ref (a 36)), (4, .int (nI i))] 25 [] := by
      intro fu
      induction fu with
      | zero => intro i hi h1 h2 hm; exact absurd hm (Nat.not_lt_zero _)
      | succ fu ih25 =>
        intro i hi h1 h2 hm
        refine J_iload E dX5_judge_25 4 rfl ?_
        refine J_aload_n E dX5_judge_27 rfl 0 rfl ?_
        refine gC0_X5_44 E dX5_judge_28 ?_
        refine J_iload_n E dX5_judge_31 rfl 1 rfl ?_
        refine laC_30_2 E dX5_judge_32 ?_
        refine gC35_X5_208 E dX5_judge_33 ?_
        refine J_top (x' := nI n) (hn) ?_
        refine J_icmp_ge E (tgt := 85) dX5_judge_36 (by decide) (fun c_36 => ?_) (fun c_36 => ?_)
        · skip
          have n_36 : n ≤ i := cmp_le (a := n) (b := i) (by omega) (by omega) c_36
          refine J_iconst E dX5_judge_85 ic_0 ?_
          exact ret _ _ _ _ ⟨by rw [h1, show n - i = 0 by omega]; rfl, _, rfl, by intro g h2 h6; simp [upG, up3, up3R, h2, h6]⟩ rfl dX5_judge_86
        · skip
          have n_36 : ¬ n ≤ i := cmp_nle (a := n) (b := i) (by omega) (by omega) c_36
          refine J_aload_n E dX5_judge_39 rfl 3 rfl ?_
          refine J_iload E dX5_judge_40 4 rfl ?_
          refine lC_36 E (j := i) dX5_judge_42 (by omega) ?_
          refine J_cSiN E (As := [.int (x 10 0 i)]) (c_X5_isHouse l G (x 10 0 i) ) cl_X5_52 yo_X5_isHouse dX5_judge_43 rfl (Nat.le_of_ble_eq_true rfl) (Nat.le_of_ble_eq_true rfl) rfl (Nat.le_of_ble_eq_true rfl) ⟨Nat.zero_le _, Nat.zero_le _⟩ ?_
          refine J_if_eq E (tgt := 74) dX5_judge_46 (by decide) (fun c_46 => ?_) (fun c_46 => ?_)
          · skip
            have c_46 := bI_0 c_46
            refine J_iconst E dX5_judge_74 ic_1 ?_
            refine J_iload E dX5_judge_75 4 rfl ?_
            refine J_iadd E dX5_judge_77 ?_
            exact ret _ _ _ _ ⟨by first | (rw [h1, show n - i = (n - (i + 1)) + 1 by omega, judgR, if_neg (fun z : judgP _ _ _ = true => c_46 (of_decide_eq_true z).1)]) | (rw [h1, show n - (y + 1) = (n - (y + 2)) + 1 by omega, judgR, if_neg (fun z : judgP _ _ _ = true => hw (of_decide_eq_true z).2)]), _, rfl, by intro g h2 h6; simp [upG, up3, up3R, h2, h6]⟩ rfl dX5_judge_78
          · skip
            have c_46 := bI_1 c_46
            refine J_iload E dX5_judge_49 4 rfl ?_
            refine J_if_le E (tgt := 79) dX5_judge_51 (by decide) (fun c_51 => ?_) (fun c_51 => ?_)
            · skip
              have n_51 : i ≤ 0 := cmp_le (a := i) (b := 0) (by omega) (by omega) c_51
              have hw : i = 0 ∨ leadF (x 0) (x 10 0 (i - 1)).toNatClampNeg = x 10 0 i := Or.inl (by omega)
              refine J_iinc E (lv' := [(4, .int (nI (i + 1))), (0, .ref (a 0)), (1, .int (nI 2)), (2, .int 0), (3, .ref (a 36))]) dX5_judge_79 4 rfl (nI_inc _) (by decide) rfl ?_
              refine J_goto E (tgt := 25) dX5_judge_82 (by decide) ?_
              refine J_lv [1, 2, 3, 4, 0] rfl ?_
              exact ih25 (i + 1) (by omega) (by rw [h1, show n - i = (n - (i + 1)) + 1 by omega, judgR, if_pos (show judgP (x 0) (x 10 0) _ = true from decide_eq_true ⟨c_46, hw⟩)]) (fun _ => c_46) (by omega)
            · skip
              have n_51 : ¬ i ≤ 0 := cmp_nle (a := i) (b := 0) (by omega) (by omega) c_51
              refine J_aload_n E dX5_judge_54 rfl 0 rfl ?_
              refine gC0_X5_10 E dX5_judge_55 ?_
              refine J_aload_n E dX5_judge_58 rfl 3 rfl ?_
              refine J_iload E dX5_judge_59 4 rfl ?_
              obtain ⟨y, rfl⟩ : ∃ y, i = y + 1 := ⟨i - 1, by omega⟩
              obtain ⟨p, hp, hp2⟩ := okH_of (h2 (by omega))
              have hp2 : x 10 0 y = nI p := hp2
              refine J_iconst E dX5_judge_61 ic_1 ?_
              refine J_isub E dX5_judge_62 ?_
              refine J_top (x' := nI y) (nI_pred y) ?_
              refine lC_36 E (j := y) dX5_judge_63 (by omega) ?_
              refine J_top (x' := nI p) (hp2) ?_
              refine J_si0r E (As := [.int (nI p)]) (c_X1_leadsTo l G (sh a 1) (x 0) p (by omega)) cl_X5_85 yo_X1_leadsTo dX5_judge_64 rfl (Nat.le_of_ble_eq_true rfl) (Nat.le_of_ble_eq_true rfl) rfl (Nat.le_of_ble_eq_true rfl) ⟨Nat.zero_le _, Nat.zero_le _⟩ ?_
              refine J_aload_n E dX5_judge_67 rfl 3 rfl ?_
              refine J_iload E dX5_judge_68 4 rfl ?_
              refine lC_36 E (j := (y + 1)) dX5_judge_70 (by omega) ?_
              refine J_icmp_eq E (tgt := 79) dX5_judge_71 (by decide) (fun c_71 => ?_) (fun c_71 => ?_)
              · skip
                have hw : y + 1 = 0 ∨ leadF (x 0) (x 10 0 (y + 1 - 1)).toNatClampNeg = x 10 0 (y + 1) := Or.inr (by rw [show y + 1 - 1 = y by omega, hp2, nI_clamp (by omega)]; exact c_71)
                refine J_iinc E (lv' := [(4, .int (nI ((y + 1) + 1))), (0, .ref (a 0)), (1, .int (nI 2)), (2, .int 0), (3, .ref (a 36))]) dX5_judge_79 4 rfl (nI_inc _) (by decide) rfl ?_
                refine J_goto E (tgt := 25) dX5_judge_82 (by decide) ?_
                refine J_lv [1, 2, 3, 4, 0] rfl ?_
                exact ih25 ((y + 1) + 1) (by omega) (by rw [h1, show n - (y + 1) = (n - ((y + 1) + 1)) + 1 by omega, judgR, if_pos (show judgP (x 0) (x 10 0) _ = true from decide_eq_true ⟨c_46, hw⟩)]) (fun _ => c_46) (by omega)
              · skip
                have hw : ¬ (y + 1 = 0 ∨ leadF (x 0) (x 10 0 (y + 1 - 1)).toNatClampNeg = x 10 0 (y + 1)) := fun z => c_71 (by have z2 := z.resolve_left (by omega); rw [show y + 1 - 1 = y by omega, hp2, nI_clamp (by omega)] at z2; exact z2)
                refine J_iconst E dX5_judge_74 ic_1 ?_
                refine J_iload E dX5_judge_75 4 rfl ?_
                refine J_iadd E dX5_judge_77 ?_
                exact ret _ _ _ _ ⟨by first | (rw [h1, show n - i = (n - (i + 1)) + 1 by omega, judgR, if_neg (fun z : judgP _ _ _ = true => c_46 (of_decide_eq_true z).1)]) | (rw [h1, show n - (y + 1) = (n - (y + 2)) + 1 by omega, judgR, if_neg (fun z : judgP _ _ _ = true => hw (of_decide_eq_true z).2)]), _, rfl, by intro g h2 h6; simp [upG, up3, up3R, h2, h6]⟩ rfl dX5_judge_78
    refine J_lv [3, 4, 2, 1, 0] rfl ?_
    exact lp25 _ 0 (by omega) rfl (fun z => absurd z (Nat.lt_irrefl 0)) (Nat.lt_succ_self _)
  · skip
    have n_7 : ¬ 0 = 0 := cmp_ne (a := 0) (b := 0) (by omega) (by omega) c_7
    exact absurd n_7 (by decide)

set_option maxHeartbeats 4000000 in
set_option maxRecDepth 20000 in
theorem c_X5_judge_ok_3 (l : Launch) (G : GB) (a : Nat → Nat) (x : Q3) (n : Nat) (hb : ¬ x 11 1 0 = 0) (hn : x 11 1 1 = nI n) (hn2 : n ≤ 40) (hsp : spOk (x 0)) : CI l yX5_judge cX5_judge 5 .int 3 62 G [.ref (a 0), .int (nI 3)] (wC G a x) (fun vR w' => vR = judgR (x 0) (x 11 0) n 0 ∧ PubC G a x w') := by
  refine CI.mk (own := RX5) (by decide) rfl (Nat.le_of_ble_eq_true rfl) ?_
  intro X E ret
  show J X G 5 0 0 (wC G a x) [(0, .ref (a 0)), (1, .int (nI 3))] 0 []
  refine J_aload_n E dX5_judge_0 rfl 0 rfl ?_
  refine J_iload_n E dX5_judge_1 rfl 1 rfl ?_
  refine J_cVi0 E (As := [.int (nI 3)]) (c_X5_seekSheet_3_1 l G a x hb ) cl_X5_170 yo_X5_seekSheet dX5_judge_2 rfl rfl rfl (Nat.le_of_ble_eq_true rfl) (Nat.le_of_ble_eq_true rfl) rfl (Nat.le_of_ble_eq_true rfl) ⟨Nat.zero_le _, Nat.zero_le _⟩ ?_
  refine J_istore_n E (lv' := [(2, .int 0), (0, .ref (a 0)), (1, .int (nI 3))]) dX5_judge_5 rfl (by decide) rfl ?_
  refine J_iload_n E dX5_judge_6 rfl 0 rfl ?_
  refine J_if_eq E (tgt := 12) dX5_judge_7 (by decide) (fun c_7 => ?_) (fun c_7 => ?_)
  · skip
    have n_7 : 0 = 0 := cmp_eq (a := 0) (b := 0) (by omega) (by omega) c_7
    refine J_aload_n E dX5_judge_12 rfl 1 rfl ?_
    refine gC0_X5_44 E dX5_judge_13 ?_
    refine J_iload_n E dX5_judge_16 rfl 2 rfl ?_
    refine laC_30_3 E dX5_judge_17 ?_
    refine gC37_X5_221 E dX5_judge_18 ?_
    refine J_astore_n E (lv' := [(3, .ref (a 38)), (2, .int 0), (0, .ref (a 0)), (1, .int (nI 3))]) dX5_judge_21 rfl (by decide) rfl ?_
    refine J_iconst E dX5_judge_22 ic_0 ?_
    refine J_istore E (lv' := [(4, .int 0), (3, .ref (a 38)), (2, .int 0), (0, .ref (a 0)), (1, .int (nI 3))]) dX5_judge_23 (by decide) rfl ?_
    have lp25 : ∀ (fu : Nat) (i : Nat), (i ≤ n) → (judgR (x 0) (x 11 0) n 0 = judgR (x 0) (x 11 0) (n - i) i) → (0 < i → okH (x 11 0 (i - 1))) → n - i < fu → J X G 5 0 0 (wC G a x) [(0, .ref (a 0)), (1, .int (nI 3)), (2, .int 0), (3, .ref (a 38)), (4, .int (nI i))] 25 [] := by
      intro fu
      induction fu with
      | zero => intro i hi h1 h2 hm; exact absurd hm (Nat.not_lt_zero _)
      | succ fu ih25 =>
        intro i hi h1 h2 hm
        refine J_iload E dX5_judge_25 4 rfl ?_
        refine J_aload_n E dX5_judge_27 rfl 0 rfl ?_
        refine gC0_X5_44 E dX5_judge_28 ?_
        refine J_iload_n E dX5_judge_31 rfl 1 rfl ?_
        refine laC_30_3 E dX5_judge_32 ?_
        refine gC37_X5_208 E dX5_judge_33 ?_
        refine J_top (x' := nI n) (hn) ?_
        refine J_icmp_ge E (tgt := 85) dX5_judge_36 (by decide) (fun c_36 => ?_) (fun c_36 => ?_)
        · skip
          have n_36 : n ≤ i := cmp_le (a := n) (b := i) (by omega) (by omega) c_36
          refine J_iconst E dX5_judge_85 ic_0 ?_
          exact ret _ _ _ _ ⟨by rw [h1, show n - i = 0 by omega]; rfl, _, rfl, by intro g h2 h6; simp [upG, up3, up3R, h2, h6]⟩ rfl dX5_judge_86
        · skip
          have n_36 : ¬ n ≤ i := cmp_nle (a := n) (b := i) (by omega) (by omega) c_36
          refine J_aload_n E dX5_judge_39 rfl 3 rfl ?_
          refine J_iload E dX5_judge_40 4 rfl ?_
          refine lC_38 E (j := i) dX5_judge_42 (by omega) ?_
          refine J_cSiN E (As := [.int (x 11 0 i)]) (c_X5_isHouse l G (x 11 0 i) ) cl_X5_52 yo_X5_isHouse dX5_judge_43 rfl (Nat.le_of_ble_eq_true rfl) (Nat.le_of_ble_eq_true rfl) rfl (Nat.le_of_ble_eq_true rfl) ⟨Nat.zero_le _, Nat.zero_le _⟩ ?_
          refine J_if_eq E (tgt := 74) dX5_judge_46 (by decide) (fun c_46 => ?_) (fun c_46 => ?_)
          · skip
            have c_46 := bI_0 c_46
            refine J_iconst E dX5_judge_74 ic_1 ?_
            refine J_iload E dX5_judge_75 4 rfl ?_
            refine J_iadd E dX5_judge_77 ?_
            exact ret _ _ _ _ ⟨by first | (rw [h1, show n - i = (n - (i + 1)) + 1 by omega, judgR, if_neg (fun z : judgP _ _ _ = true => c_46 (of_decide_eq_true z).1)]) | (rw [h1, show n - (y + 1) = (n - (y + 2)) + 1 by omega, judgR, if_neg (fun z : judgP _ _ _ = true => hw (of_decide_eq_true z).2)]), _, rfl, by intro g h2 h6; simp [upG, up3, up3R, h2, h6]⟩ rfl dX5_judge_78
          · skip
            have c_46 := bI_1 c_46
            refine J_iload E dX5_judge_49 4 rfl ?_
            refine J_if_le E (tgt := 79) dX5_judge_51 (by decide) (fun c_51 => ?_) (fun c_51 => ?_)
            · skip
              have n_51 : i ≤ 0 := cmp_le (a := i) (b := 0) (by omega) (by omega) c_51
              have hw : i = 0 ∨ leadF (x 0) (x 11 0 (i - 1)).toNatClampNeg = x 11 0 i := Or.inl (by omega)
              refine J_iinc E (lv' := [(4, .int (nI (i + 1))), (0, .ref (a 0)), (1, .int (nI 3)), (2, .int 0), (3, .ref (a 38))]) dX5_judge_79 4 rfl (nI_inc _) (by decide) rfl ?_
              refine J_goto E (tgt := 25) dX5_judge_82 (by decide) ?_
              refine J_lv [1, 2, 3, 4, 0] rfl ?_
              exact ih25 (i + 1) (by omega) (by rw [h1, show n - i = (n - (i + 1)) + 1 by omega, judgR, if_pos (show judgP (x 0) (x 11 0) _ = true from decide_eq_true ⟨c_46, hw⟩)]) (fun _ => c_46) (by omega)
            · skip
              have n_51 : ¬ i ≤ 0 := cmp_nle (a := i) (b := 0) (by omega) (by omega) c_51
              refine J_aload_n E dX5_judge_54 rfl 0 rfl ?_
              refine gC0_X5_10 E dX5_judge_55 ?_
              refine J_aload_n E dX5_judge_58 rfl 3 rfl ?_
              refine J_iload E dX5_judge_59 4 rfl ?_
              obtain ⟨y, rfl⟩ : ∃ y, i = y + 1 := ⟨i - 1, by omega⟩
              obtain ⟨p, hp, hp2⟩ := okH_of (h2 (by omega))
              have hp2 : x 11 0 y = nI p := hp2
              refine J_iconst E dX5_judge_61 ic_1 ?_
              refine J_isub E dX5_judge_62 ?_
              refine J_top (x' := nI y) (nI_pred y) ?_
              refine lC_38 E (j := y) dX5_judge_63 (by omega) ?_
              refine J_top (x' := nI p) (hp2) ?_
              refine J_si0r E (As := [.int (nI p)]) (c_X1_leadsTo l G (sh a 1) (x 0) p (by omega)) cl_X5_85 yo_X1_leadsTo dX5_judge_64 rfl (Nat.le_of_ble_eq_true rfl) (Nat.le_of_ble_eq_true rfl) rfl (Nat.le_of_ble_eq_true rfl) ⟨Nat.zero_le _, Nat.zero_le _⟩ ?_
              refine J_aload_n E dX5_judge_67 rfl 3 rfl ?_
              refine J_iload E dX5_judge_68 4 rfl ?_
              refine lC_38 E (j := (y + 1)) dX5_judge_70 (by omega) ?_
              refine J_icmp_eq E (tgt := 79) dX5_judge_71 (by decide) (fun c_71 => ?_) (fun c_71 => ?_)
              · skip
                have hw : y + 1 = 0 ∨ leadF (x 0) (x 11 0 (y + 1 - 1)).toNatClampNeg = x 11 0 (y + 1) := Or.inr (by rw [show y + 1 - 1 = y by omega, hp2, nI_clamp (by omega)]; exact c_71)
                refine J_iinc E (lv' := [(4, .int (nI ((y + 1) + 1))), (0, .ref (a 0)), (1, .int (nI 3)), (2, .int 0), (3, .ref (a 38))]) dX5_judge_79 4 rfl (nI_inc _) (by decide) rfl ?_
                refine J_goto E (tgt := 25) dX5_judge_82 (by decide) ?_
                refine J_lv [1, 2, 3, 4, 0] rfl ?_
                exact ih25 ((y + 1) + 1) (by omega) (by rw [h1, show n - (y + 1) = (n - ((y + 1) + 1)) + 1 by omega, judgR, if_pos (show judgP (x 0) (x 11 0) _ = true from decide_eq_true ⟨c_46, hw⟩)]) (fun _ => c_46) (by omega)
              · skip
                have hw : ¬ (y + 1 = 0 ∨ leadF (x 0) (x 11 0 (y + 1 - 1)).toNatClampNeg = x 11 0 (y + 1)) := fun z => c_71 (by have z2 := z.resolve_left (by omega); rw [show y + 1 - 1 = y by omega, hp2, nI_clamp (by omega)] at z2; exact z2)
                refine J_iconst E dX5_judge_74 ic_1 ?_
                refine J_iload E dX5_judge_75 4 rfl ?_
                refine J_iadd E dX5_judge_77 ?_
                exact ret _ _ _ _ ⟨by first | (rw [h1, show n - i = (n - (i + 1)) + 1 by omega, judgR, if_neg (fun z : judgP _ _ _ = true => c_46 (of_decide_eq_true z).1)]) | (rw [h1, show n - (y + 1) = (n - (y + 2)) + 1 by omega, judgR, if_neg (fun z : judgP _ _ _ = true => hw (of_decide_eq_true z).2)]), _, rfl, by intro g h2 h6; simp [upG, up3, up3R, h2, h6]⟩ rfl dX5_judge_78
    refine J_lv [3, 4, 2, 1, 0] rfl ?_
    exact lp25 _ 0 (by omega) rfl (fun z => absurd z (Nat.lt_irrefl 0)) (Nat.lt_succ_self _)
  · skip
    have n_7 : ¬ 0 = 0 := cmp_ne (a := 0) (b := 0) (by omega) (by omega) c_7
    exact absurd n_7 (by decide)

set_option maxHeartbeats 4000000 in
set_option maxRecDepth 20000 in
theorem c_X5_image_ok (l : Launch) (G : GB) (a : Nat → Nat) (x : Q3)  : CI l yX5_image cX5_image 1 .int 2 47 G [.ref (a 0)] (wC G a x) (fun vR w' => vR = 1 ∧ PubC G a (up3 (upG x 1 (x 0)) 3 1 0 1) w') := by
  refine CI.mk (own := RX5) (by decide) rfl (Nat.le_of_ble_eq_true rfl) ?_
  intro X E ret
  show J X G 1 0 0 (wC G a x) [(0, .ref (a 0))] 0 []
  refine J_aload_n E dX5_image_0 rfl 0 rfl ?_
  refine gC0_X5_16 E dX5_image_1 ?_
  refine J_aload_n E dX5_image_4 rfl 0 rfl ?_
  refine gC0_X5_10 E dX5_image_5 ?_
  refine J_b10 E dX5_image_8 (Nat.le_of_ble_eq_true rfl) (Nat.le_of_ble_eq_true rfl) (Nat.le_of_ble_eq_true rfl) ⟨Nat.zero_le _, Nat.zero_le _⟩ ?_
  refine J_aload_n E dX5_image_11 rfl 0 rfl ?_
  refine J_iconst E dX5_image_12 ic_1 ?_
  refine pC0_X5_227 E rfl rfl dX5_image_13 ?_
  refine J_iconst E dX5_image_16 ic_1 ?_
  exact ret _ _ _ _ ⟨rfl, _, rfl, by intro g h2 h6; simp [upG, up3, up3R, h2, h6]⟩ rfl dX5_image_17

set_option maxHeartbeats 4000000 in
set_option maxRecDepth 20000 in
theorem c_X5_undo_none (l : Launch) (G : GB) (a : Nat → Nat) (x : Q3) (hk : x 3 1 0 = 0) : CI l yX5_undo cX5_undo 1 .int 1 21 G [.ref (a 0)] (wC G a x) (fun vR w' => vR = tellR 3 ∧ PubC G a (tellX x 3) w') := by
  refine CI.mk (own := RX5) (by decide) rfl (Nat.le_of_ble_eq_true rfl) ?_
  intro X E ret
  show J X G 1 0 0 (wC G a x) [(0, .ref (a 0))] 0 []
  refine J_aload_n E dX5_undo_0 rfl 0 rfl ?_
  refine gC0_X5_227 E dX5_undo_1 ?_
  refine J_if_ne E (tgt := 13) dX5_undo_4 (by decide) (fun c_4 => ?_) (fun c_4 => ?_)
  · skip
    exact absurd hk c_4
  · skip
    refine J_aload_n E dX5_undo_7 rfl 0 rfl ?_
    refine J_iconst E dX5_undo_8 ic_3 ?_
    refine J_cVi0 E (As := [.int 3]) (c_X5_tell l G a x 3 (by omega)) cl_X5_64 yo_X5_tell dX5_undo_9 rfl rfl rfl (Nat.le_of_ble_eq_true rfl) (Nat.le_of_ble_eq_true rfl) rfl (Nat.le_of_ble_eq_true rfl) ⟨Nat.zero_le _, Nat.zero_le _⟩ ?_
    exact ret _ _ _ _ ⟨rfl, _, rfl, by intro g h2 h6; simp [upG, up3, up3R, h2, h6]⟩ rfl dX5_undo_12

set_option maxHeartbeats 4000000 in
set_option maxRecDepth 20000 in
theorem c_X5_undo_ok (l : Launch) (G : GB) (a : Nat → Nat) (x : Q3) (hk : ¬ x 3 1 0 = 0) : CI l yX5_undo cX5_undo 1 .int 2 47 G [.ref (a 0)] (wC G a x) (fun vR w' => vR = x 1 7 0 ∧ PubC G a (upG x 0 (x 1)) w') := by
  refine CI.mk (own := RX5) (by decide) rfl (Nat.le_of_ble_eq_true rfl) ?_
  intro X E ret
  show J X G 1 0 0 (wC G a x) [(0, .ref (a 0))] 0 []
  refine J_aload_n E dX5_undo_0 rfl 0 rfl ?_
  refine gC0_X5_227 E dX5_undo_1 ?_
  refine J_if_ne E (tgt := 13) dX5_undo_4 (by decide) (fun c_4 => ?_) (fun c_4 => ?_)
  · skip
    refine J_aload_n E dX5_undo_13 rfl 0 rfl ?_
    refine gC0_X5_10 E dX5_undo_14 ?_
    refine J_aload_n E dX5_undo_17 rfl 0 rfl ?_
    refine gC0_X5_16 E dX5_undo_18 ?_
    refine J_b01 E dX5_undo_21 (Nat.le_of_ble_eq_true rfl) (Nat.le_of_ble_eq_true rfl) (Nat.le_of_ble_eq_true rfl) ⟨Nat.zero_le _, Nat.zero_le _⟩ ?_
    refine J_aload_n E dX5_undo_24 rfl 0 rfl ?_
    refine gC0_X5_10 E dX5_undo_25 ?_
    refine gC1_X5_106 E dX5_undo_28 ?_
    refine J_top (x' := (x 1) 7 0) upG_s ?_
    exact ret _ _ _ _ ⟨rfl, _, rfl, by intro g h2 h6; simp [upG, up3, up3R, h2, h6]⟩ rfl dX5_undo_31
  · skip
    exact absurd c_4 hk

set_option maxHeartbeats 4000000 in
set_option maxRecDepth 20000 in
theorem c_X5_tear_ok (l : Launch) (G : GB) (a : Nat → Nat) (x : Q3)  : CI l yX5_tear cX5_tear 2 .int 0 0 G [.ref (a 0)] (wC G a x) (fun vR w' => vR = (if x 3 1 0 = 0 then 0 else 1) ∧ PubC G a (up3 x 3 1 0 0) w') := by
  refine CI.mk (own := RX5) (by decide) rfl (Nat.le_of_ble_eq_true rfl) ?_
  intro X E ret
  show J X G 2 0 0 (wC G a x) [(0, .ref (a 0))] 0 []
  refine J_aload_n E dX5_tear_0 rfl 0 rfl ?_
  refine gC0_X5_227 E dX5_tear_1 ?_
  refine J_if_eq E (tgt := 11) dX5_tear_4 (by decide) (fun c_4 => ?_) (fun c_4 => ?_)
  · skip
    refine J_iconst E dX5_tear_11 ic_0 ?_
    refine J_istore_n E (lv' := [(1, .int 0), (0, .ref (a 0))]) dX5_tear_12 rfl (by decide) rfl ?_
    refine J_aload_n E dX5_tear_13 rfl 1 rfl ?_
    refine J_iconst E dX5_tear_14 ic_0 ?_
    refine pC0_X5_227 E rfl rfl dX5_tear_15 ?_
    refine J_iload_n E dX5_tear_18 rfl 0 rfl ?_
    exact ret _ _ _ _ ⟨by first | rw [if_pos c_4] | rw [if_neg c_4], _, rfl, by intro g h2 h6; simp [upG, up3, up3R, h2, h6]⟩ rfl dX5_tear_19
  · skip
    refine J_iconst E dX5_tear_7 ic_1 ?_
    refine J_goto E (tgt := 12) dX5_tear_8 (by decide) ?_
    refine J_istore_n E (lv' := [(1, .int 1), (0, .ref (a 0))]) dX5_tear_12 rfl (by decide) rfl ?_
    refine J_aload_n E dX5_tear_13 rfl 1 rfl ?_
    refine J_iconst E dX5_tear_14 ic_0 ?_
    refine pC0_X5_227 E rfl rfl dX5_tear_15 ?_
    refine J_iload_n E dX5_tear_18 rfl 0 rfl ?_
    exact ret _ _ _ _ ⟨by first | rw [if_pos c_4] | rw [if_neg c_4], _, rfl, by intro g h2 h6; simp [upG, up3, up3R, h2, h6]⟩ rfl dX5_tear_19

set_option maxHeartbeats 4000000 in
set_option maxRecDepth 20000 in
theorem c_X5_count_bad (l : Launch) (G : GB) (a : Nat → Nat) (x : Q3) (k : Int32) (hb : ¬ (0 ≤ k ∧ k ≤ 7)) : CI l yX5_count cX5_count 2 .int 1 21 G [.ref (a 0), .int k] (wC G a x) (fun vR w' => vR = tellR 0 ∧ PubC G a (tellX x 0) w') := by
  refine CI.mk (own := RX5) (by decide) rfl (Nat.le_of_ble_eq_true rfl) ?_
  intro X E ret
  show J X G 2 0 0 (wC G a x) [(0, .ref (a 0)), (1, .int k)] 0 []
  refine J_iload_n E dX5_count_0 rfl 1 rfl ?_
  by_cases c_1 : (k).toInt < 0 ∨ 7 < (k).toInt
  · refine J_tabOut E (tgt := 115) dX5_count_1 c_1 (by decide) ?_
    have n_1_0 : ¬ k = 0 := ne_out c_1 (by decide)
    have n_1_1 : ¬ k = 1 := ne_out c_1 (by decide)
    have n_1_2 : ¬ k = 2 := ne_out c_1 (by decide)
    have n_1_3 : ¬ k = 3 := ne_out c_1 (by decide)
    have n_1_4 : ¬ k = 4 := ne_out c_1 (by decide)
    have n_1_5 : ¬ k = 5 := ne_out c_1 (by decide)
    have n_1_6 : ¬ k = 6 := ne_out c_1 (by decide)
    have n_1_7 : ¬ k = 7 := ne_out c_1 (by decide)
    refine J_aload_n E dX5_count_115 rfl 0 rfl ?_
    refine J_iconst E dX5_count_116 ic_0 ?_
    refine J_cVi0 E (As := [.int 0]) (c_X5_tell l G a x 0 (by omega)) cl_X5_64 yo_X5_tell dX5_count_117 rfl rfl rfl (Nat.le_of_ble_eq_true rfl) (Nat.le_of_ble_eq_true rfl) rfl (Nat.le_of_ble_eq_true rfl) ⟨Nat.zero_le _, Nat.zero_le _⟩ ?_
    exact ret _ _ _ _ ⟨rfl, _, rfl, by intro g h2 h6; simp [upG, up3, up3R, h2, h6]⟩ rfl dX5_count_120
  · rcases sw_0_7 c_1 with i_1 | i_1 | i_1 | i_1 | i_1 | i_1 | i_1 | i_1
    · refine J_top i_1 ?_
      refine J_tabIn E (tgt := 48) (off := 47) dX5_count_1 (by decide) (by decide) rfl (by decide) ?_
      exact absurd (by rw [i_1]; decide) hb
    · refine J_top i_1 ?_
      refine J_tabIn E (tgt := 56) (off := 55) dX5_count_1 (by decide) (by decide) rfl (by decide) ?_
      exact absurd (by rw [i_1]; decide) hb
    · refine J_top i_1 ?_
      refine J_tabIn E (tgt := 64) (off := 63) dX5_count_1 (by decide) (by decide) rfl (by decide) ?_
      exact absurd (by rw [i_1]; decide) hb
    · refine J_top i_1 ?_
      refine J_tabIn E (tgt := 75) (off := 74) dX5_count_1 (by decide) (by decide) rfl (by decide) ?_
      exact absurd (by rw [i_1]; decide) hb
    · refine J_top i_1 ?_
      refine J_tabIn E (tgt := 83) (off := 82) dX5_count_1 (by decide) (by decide) rfl (by decide) ?_
      exact absurd (by rw [i_1]; decide) hb
    · refine J_top i_1 ?_
      refine J_tabIn E (tgt := 91) (off := 90) dX5_count_1 (by decide) (by decide) rfl (by decide) ?_
      exact absurd (by rw [i_1]; decide) hb
    · refine J_top i_1 ?_
      refine J_tabIn E (tgt := 99) (off := 98) dX5_count_1 (by decide) (by decide) rfl (by decide) ?_
      exact absurd (by rw [i_1]; decide) hb
    · refine J_top i_1 ?_
      refine J_tabIn E (tgt := 107) (off := 106) dX5_count_1 (by decide) (by decide) rfl (by decide) ?_
      exact absurd (by rw [i_1]; decide) hb

set_option maxHeartbeats 4000000 in
set_option maxRecDepth 20000 in
theorem c_X5_count_ok (l : Launch) (G : GB) (a : Nat → Nat) (x : Q3) (k : Nat) (hk : k < 8) : CI l yX5_count cX5_count 2 .int 1 22 G [.ref (a 0), .int (nI k)] (wC G a x) (fun vR w' => vR = countF x k ∧ PubC G a x w') := by
  refine CI.mk (own := RX5) (by decide) rfl (Nat.le_of_ble_eq_true rfl) ?_
  intro X E ret
  show J X G 2 0 0 (wC G a x) [(0, .ref (a 0)), (1, .int (nI k))] 0 []
  rcases (show k = 0 ∨ k = 1 ∨ k = 2 ∨ k = 3 ∨ k = 4 ∨ k = 5 ∨ k = 6 ∨ k = 7 by omega) with rfl | rfl | rfl | rfl | rfl | rfl | rfl | rfl
  · skip
    refine J_iload_n E dX5_count_0 rfl 1 rfl ?_
    refine J_tabIn E (tgt := 48) (off := 47) dX5_count_1 (by decide) (by decide) rfl (by decide) ?_
    refine J_aload_n E dX5_count_48 rfl 0 rfl ?_
    refine gC0_X5_10 E dX5_count_49 ?_
    refine gC1_X5_106 E dX5_count_52 ?_
    exact ret _ _ _ _ ⟨by simp [countF], _, rfl, by intro g h2 h6; simp [upG, up3, up3R, h2, h6]⟩ rfl dX5_count_55
  · skip
    refine J_iload_n E dX5_count_0 rfl 1 rfl ?_
    refine J_tabIn E (tgt := 56) (off := 55) dX5_count_1 (by decide) (by decide) rfl (by decide) ?_
    refine J_aload_n E dX5_count_56 rfl 0 rfl ?_
    refine gC0_X5_10 E dX5_count_57 ?_
    refine J_si0r E (As := []) (c_X1_housesOfOtherKinds l G (sh a 1) (x 0) ) cl_X5_231 yo_X1_housesOfOtherKinds dX5_count_60 rfl (Nat.le_of_ble_eq_true rfl) (Nat.le_of_ble_eq_true rfl) rfl (Nat.le_of_ble_eq_true rfl) ⟨Nat.zero_le _, Nat.zero_le _⟩ ?_
    exact ret _ _ _ _ ⟨by simp [countF], _, rfl, by intro g h2 h6; simp [upG, up3, up3R, h2, h6]⟩ rfl dX5_count_63
  · skip
    refine J_iload_n E dX5_count_0 rfl 1 rfl ?_
    refine J_tabIn E (tgt := 64) (off := 63) dX5_count_1 (by decide) (by decide) rfl (by decide) ?_
    refine J_aload_n E dX5_count_64 rfl 0 rfl ?_
    refine gC0_X5_10 E dX5_count_65 ?_
    refine J_si0r E (As := []) (c_X1_everDry l G (sh a 1) (x 0) ) cl_X5_123 yo_X1_everDry dX5_count_68 rfl (Nat.le_of_ble_eq_true rfl) (Nat.le_of_ble_eq_true rfl) rfl (Nat.le_of_ble_eq_true rfl) ⟨Nat.zero_le _, Nat.zero_le _⟩ ?_
    refine J_cSiN E (As := [.int (setF (fun j => decide (0 < ((x 0) 5) j)) 11)]) (c_J6_bitCount_0f7a4 l G (setF (fun j => decide (0 < ((x 0) 5) j)) 11) ) cl_X5_158 yo_J6_bitCount_0f7a4 dX5_count_71 rfl (Nat.le_of_ble_eq_true rfl) (Nat.le_of_ble_eq_true rfl) rfl (Nat.le_of_ble_eq_true rfl) ⟨Nat.zero_le _, Nat.zero_le _⟩ ?_
    exact ret _ _ _ _ ⟨by simp [countF], _, rfl, by intro g h2 h6; simp [upG, up3, up3R, h2, h6]⟩ rfl dX5_count_74
  · skip
    refine J_iload_n E dX5_count_0 rfl 1 rfl ?_
    refine J_tabIn E (tgt := 75) (off := 74) dX5_count_1 (by decide) (by decide) rfl (by decide) ?_
    refine J_aload_n E dX5_count_75 rfl 0 rfl ?_
    refine gC0_X5_10 E dX5_count_76 ?_
    refine J_si0r E (As := []) (c_X1_waterOfAll l G (sh a 1) (x 0) ) cl_X5_117 yo_X1_waterOfAll dX5_count_79 rfl (Nat.le_of_ble_eq_true rfl) (Nat.le_of_ble_eq_true rfl) rfl (Nat.le_of_ble_eq_true rfl) ⟨Nat.zero_le _, Nat.zero_le _⟩ ?_
    exact ret _ _ _ _ ⟨by simp [countF], _, rfl, by intro g h2 h6; simp [upG, up3, up3R, h2, h6]⟩ rfl dX5_count_82
  · skip
    refine J_iload_n E dX5_count_0 rfl 1 rfl ?_
    refine J_tabIn E (tgt := 83) (off := 82) dX5_count_1 (by decide) (by decide) rfl (by decide) ?_
    refine J_aload_n E dX5_count_83 rfl 0 rfl ?_
    refine gC0_X5_10 E dX5_count_84 ?_
    refine gC1_X5_114 E dX5_count_87 ?_
    exact ret _ _ _ _ ⟨by simp [countF], _, rfl, by intro g h2 h6; simp [upG, up3, up3R, h2, h6]⟩ rfl dX5_count_90
  · skip
    refine J_iload_n E dX5_count_0 rfl 1 rfl ?_
    refine J_tabIn E (tgt := 91) (off := 90) dX5_count_1 (by decide) (by decide) rfl (by decide) ?_
    refine J_aload_n E dX5_count_91 rfl 0 rfl ?_
    refine gC0_X5_29 E dX5_count_92 ?_
    refine gC27_X5_183 E dX5_count_95 ?_
    exact ret _ _ _ _ ⟨by simp [countF], _, rfl, by intro g h2 h6; simp [upG, up3, up3R, h2, h6]⟩ rfl dX5_count_98
  · skip
    refine J_iload_n E dX5_count_0 rfl 1 rfl ?_
    refine J_tabIn E (tgt := 99) (off := 98) dX5_count_1 (by decide) (by decide) rfl (by decide) ?_
    refine J_aload_n E dX5_count_99 rfl 0 rfl ?_
    refine gC0_X5_10 E dX5_count_100 ?_
    refine gC1_X5_180 E dX5_count_103 ?_
    exact ret _ _ _ _ ⟨by simp [countF], _, rfl, by intro g h2 h6; simp [upG, up3, up3R, h2, h6]⟩ rfl dX5_count_106
  · skip
    refine J_iload_n E dX5_count_0 rfl 1 rfl ?_
    refine J_tabIn E (tgt := 107) (off := 106) dX5_count_1 (by decide) (by decide) rfl (by decide) ?_
    refine J_aload_n E dX5_count_107 rfl 0 rfl ?_
    refine gC0_X5_10 E dX5_count_108 ?_
    refine J_si0r E (As := []) (c_X1_spotsHeld l G (sh a 1) (x 0) ) cl_X5_234 yo_X1_spotsHeld dX5_count_111 rfl (Nat.le_of_ble_eq_true rfl) (Nat.le_of_ble_eq_true rfl) rfl (Nat.le_of_ble_eq_true rfl) ⟨Nat.zero_le _, Nat.zero_le _⟩ ?_
    exact ret _ _ _ _ ⟨by simp [countF], _, rfl, by intro g h2 h6; simp [upG, up3, up3R, h2, h6]⟩ rfl dX5_count_114

set_option maxHeartbeats 4000000 in
set_option maxRecDepth 20000 in
theorem c_X5_status_bad (l : Launch) (G : GB) (a : Nat → Nat) (x : Q3) (w : Int32) (hb : ¬ (w = -1 ∨ 0 ≤ w ∧ w ≤ 6)) : CI l yX5_status cX5_status 4 .int 1 21 G [.ref (a 0), .int w] (wC G a x) (fun vR w' => vR = tellR 0 ∧ PubC G a (tellX x 0) w') := by
  refine CI.mk (own := RX5) (by decide) rfl (Nat.le_of_ble_eq_true rfl) ?_
  intro X E ret
  show J X G 4 0 0 (wC G a x) [(0, .ref (a 0)), (1, .int w)] 0 []
  refine J_iload_n E dX5_status_0 rfl 1 rfl ?_
  refine J_iconst E dX5_status_1 ic_m1 ?_
  refine J_icmp_eq E (tgt := 20) dX5_status_2 (by decide) (fun c_2 => ?_) (fun c_2 => ?_)
  · skip
    exact absurd (Or.inl c_2) hb
  · skip
    refine J_iload_n E dX5_status_5 rfl 1 rfl ?_
    refine J_bipush E dX5_status_6 bp_6 ?_
    refine J_cSiN E (As := [.int w, .int 6]) (c_X5_isUpTo l G w 6 ) cl_X5_56 yo_X5_isUpTo dX5_status_8 rfl (Nat.le_of_ble_eq_true rfl) (Nat.le_of_ble_eq_true rfl) rfl (Nat.le_of_ble_eq_true rfl) ⟨Nat.zero_le _, Nat.zero_le _⟩ ?_
    refine J_if_ne E (tgt := 20) dX5_status_11 (by decide) (fun c_11 => ?_) (fun c_11 => ?_)
    · skip
      have c_11 := bI_1 c_11
      exact absurd (Or.inr c_11) hb
    · skip
      have c_11 := bI_0 c_11
      refine J_aload_n E dX5_status_14 rfl 0 rfl ?_
      refine J_iconst E dX5_status_15 ic_0 ?_
      refine J_cVi0 E (As := [.int 0]) (c_X5_tell l G a x 0 (by omega)) cl_X5_64 yo_X5_tell dX5_status_16 rfl rfl rfl (Nat.le_of_ble_eq_true rfl) (Nat.le_of_ble_eq_true rfl) rfl (Nat.le_of_ble_eq_true rfl) ⟨Nat.zero_le _, Nat.zero_le _⟩ ?_
      exact ret _ _ _ _ ⟨rfl, _, rfl, by intro g h2 h6; simp [upG, up3, up3R, h2, h6]⟩ rfl dX5_status_19

set_option maxHeartbeats 4000000 in
set_option maxRecDepth 20000 in
theorem c_X5_status_one (l : Launch) (G : GB) (a : Nat → Nat) (x : Q3) (k : Nat) (hk : k < 7) : CI l yX5_status cX5_status 4 .int 1 21 G [.ref (a 0), .int (nI k)] (wC G a x) (fun vR w' => vR = x 3 0 k ∧ PubC G a x w') := by
  refine CI.mk (own := RX5) (by decide) rfl (Nat.le_of_ble_eq_true rfl) ?_
  intro X E ret
  show J X G 4 0 0 (wC G a x) [(0, .ref (a 0)), (1, .int (nI k))] 0 []
  refine J_iload_n E dX5_status_0 rfl 1 rfl ?_
  refine J_iconst E dX5_status_1 ic_m1 ?_
  refine J_icmp_eq E (tgt := 20) dX5_status_2 (by decide) (fun c_2 => ?_) (fun c_2 => ?_)
  · skip
    exact absurd c_2 (m1_ne (by omega))
  · skip
    refine J_iload_n E dX5_status_5 rfl 1 rfl ?_
    refine J_bipush E dX5_status_6 bp_6 ?_
    refine J_cSiN E (As := [.int (nI k), .int 6]) (c_X5_isUpTo l G (nI k) 6 ) cl_X5_56 yo_X5_isUpTo dX5_status_8 rfl (Nat.le_of_ble_eq_true rfl) (Nat.le_of_ble_eq_true rfl) rfl (Nat.le_of_ble_eq_true rfl) ⟨Nat.zero_le _, Nat.zero_le _⟩ ?_
    refine J_if_ne E (tgt := 20) dX5_status_11 (by decide) (fun c_11 => ?_) (fun c_11 => ?_)
    · skip
      have c_11 := bI_1 c_11
      refine J_iload_n E dX5_status_20 rfl 1 rfl ?_
      refine J_iconst E dX5_status_21 ic_m1 ?_
      refine J_icmp_eq E (tgt := 32) dX5_status_22 (by decide) (fun c_22 => ?_) (fun c_22 => ?_)
      · skip
        exact absurd c_22 (m1_ne (by omega))
      · skip
        refine J_aload_n E dX5_status_25 rfl 0 rfl ?_
        refine gC0_X5_48 E dX5_status_26 ?_
        refine J_iload_n E dX5_status_29 rfl 1 rfl ?_
        refine lC_26 E (j := k) dX5_status_30 (by omega) ?_
        exact ret _ _ _ _ ⟨rfl, _, rfl, by intro g h2 h6; simp [upG, up3, up3R, h2, h6]⟩ rfl dX5_status_31
    · skip
      have c_11 := bI_0 c_11
      exact absurd (inB (a := k) (b := 6) (by omega) (by decide)) c_11

set_option maxHeartbeats 4000000 in
set_option maxRecDepth 20000 in
theorem c_X5_status_all (l : Launch) (G : GB) (a : Nat → Nat) (x : Q3)  : CI l yX5_status cX5_status 4 .int 0 0 G [.ref (a 0), .int (-1)] (wC G a x) (fun vR w' => vR = sumF (x 3 0) 7 ∧ PubC G a x w') := by
  refine CI.mk (own := RX5) (by decide) rfl (Nat.le_of_ble_eq_true rfl) ?_
  intro X E ret
  show J X G 4 0 0 (wC G a x) [(0, .ref (a 0)), (1, .int (-1))] 0 []
  refine J_iload_n E dX5_status_0 rfl 1 rfl ?_
  refine J_iconst E dX5_status_1 ic_m1 ?_
  refine J_icmp_eq E (tgt := 20) dX5_status_2 (by decide) (fun c_2 => ?_) (fun c_2 => ?_)
  · skip
    refine J_iload_n E dX5_status_20 rfl 1 rfl ?_
    refine J_iconst E dX5_status_21 ic_m1 ?_
    refine J_icmp_eq E (tgt := 32) dX5_status_22 (by decide) (fun c_22 => ?_) (fun c_22 => ?_)
    · skip
      refine J_iconst E dX5_status_32 ic_0 ?_
      refine J_istore_n E (lv' := [(2, .int 0), (0, .ref (a 0)), (1, .int (-1))]) dX5_status_33 rfl (by decide) rfl ?_
      refine J_iconst E dX5_status_34 ic_0 ?_
      refine J_istore_n E (lv' := [(3, .int 0), (2, .int 0), (0, .ref (a 0)), (1, .int (-1))]) dX5_status_35 rfl (by decide) rfl ?_
      have lp36 : ∀ (fu : Nat) (i : Nat) (s : Int32), (i ≤ 7) → (s = sumF (x 3 0) i) → 7 - i < fu → J X G 4 0 0 (wC G a x) [(0, .ref (a 0)), (1, .int (-1)), (2, .int s), (3, .int (nI i))] 36 [] := by
        intro fu
        induction fu with
        | zero => intro i s hi h1 hm; exact absurd hm (Nat.not_lt_zero _)
        | succ fu ih36 =>
          intro i s hi h1 hm
          refine J_iload_n E dX5_status_36 rfl 3 rfl ?_
          refine J_bipush E dX5_status_37 bp_7 ?_
          refine J_icmp_ge E (tgt := 57) dX5_status_39 (by decide) (fun c_39 => ?_) (fun c_39 => ?_)
          · skip
            have n_39 : 7 ≤ i := cmp_le (a := 7) (b := i) (by omega) (by omega) c_39
            refine J_iload_n E dX5_status_57 rfl 2 rfl ?_
            exact ret _ _ _ _ ⟨by rw [h1, show i = 7 by omega], _, rfl, by intro g h2 h6; simp [upG, up3, up3R, h2, h6]⟩ rfl dX5_status_58
          · skip
            have n_39 : ¬ 7 ≤ i := cmp_nle (a := 7) (b := i) (by omega) (by omega) c_39
            refine J_iload_n E dX5_status_42 rfl 2 rfl ?_
            refine J_aload_n E dX5_status_43 rfl 0 rfl ?_
            refine gC0_X5_48 E dX5_status_44 ?_
            refine J_iload_n E dX5_status_47 rfl 3 rfl ?_
            refine lC_26 E (j := i) dX5_status_48 (by omega) ?_
            refine J_iadd E dX5_status_49 ?_
            refine J_istore_n E (lv' := [(2, .int (s + (x 3 0 i))), (0, .ref (a 0)), (1, .int (-1)), (3, .int (nI i))]) dX5_status_50 rfl (by decide) rfl ?_
            refine J_iinc E (lv' := [(3, .int (nI (i + 1))), (2, .int (s + (x 3 0 i))), (0, .ref (a 0)), (1, .int (-1))]) dX5_status_51 3 rfl (nI_inc _) (by decide) rfl ?_
            refine J_goto E (tgt := 36) dX5_status_54 (by decide) ?_
            refine J_lv [2, 3, 1, 0] rfl ?_
            exact ih36 (i + 1) (s + (x 3 0 i)) (by omega) (by rw [h1]; rfl) (by omega)
      refine J_lv [2, 3, 1, 0] rfl ?_
      exact lp36 _ 0 0 (by omega) rfl (Nat.lt_succ_self _)
    · skip
      exact absurd c_22 (by decide)
  · skip
    exact absurd c_2 (by decide)
