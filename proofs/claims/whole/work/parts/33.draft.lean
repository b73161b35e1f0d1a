theorem m1_ne {j : Nat} (h : j < 11) : ¬ nI j = -1 := by
  intro e
  have : (nI j).toInt = (-1 : Int32).toInt := congrArg _ e
  rw [nI_toInt (by omega)] at this
  have h2 : (-1 : Int32).toInt = -1 := by decide
  omega
theorem sub100 {v ab : Nat} (h : v + ab = 100) : (100 : Int32) - nI v = nI ab := by
  have := pk_sub (a := 100) (b := v) (by omega)
  rw [show ab = 100 - v by omega]; exact this
theorem rem100 {c : Nat} (h : 0 < c) (hc : c < 2 ^ 31) : (100 : Int32) - (100 : Int32) / nI c * nI c = nI (100 % c) := pk_rem (a := 100) (by decide) h hc
theorem nIz {c : Nat} (h : 0 < c) (hc : c < 2 ^ 31) : ¬ nI c = 0 := nI_ne0 h hc
theorem comF_1 (ab : Nat) : comF ab 1 = 1 := by simp [comF]
theorem comF_y {ab c : Nat} (h1 : 1 < c + 1) (h2 : ab % (c + 1) = 0) (h3 : 100 % (c + 1) = 0) : comF ab (c + 1) = c + 1 := by
  rw [comF, if_neg (by omega), if_pos ⟨h2, h3⟩]
theorem comF_n {ab c : Nat} (h1 : 1 < c + 1) (h2 : ¬ (ab % (c + 1) = 0 ∧ 100 % (c + 1) = 0)) : comF ab (c + 1) = comF ab c := by
  rw [comF, if_neg (by omega), if_neg h2]
theorem sub1m {n : Nat} : nI n - 1 = nI n + (-1) := by
  rw [Int32.sub_eq_add_neg]
theorem mul8 (y : Nat) : (8 : Int32) * nI y = nI (8 * y) := pk_mul 8 y
def cpyQ (x : Q3) (s f t o n : Nat) : Q3 := upG x (8 + t) (upR (x (8 + t)) 0 (va_cpy (x (8 + s) 0) (x (8 + t) 0) f o n))

set_option maxHeartbeats 4000000 in
set_option maxRecDepth 20000 in
theorem c_X0_isUnder (l : Launch) (G : GB) (k o : Nat) (hk : k < 7) (ho : o < 7) : CI l yX0_isUnder cX0_isUnder 4 .boolean 0 0 G [.int (nI k), .int (nI o)] ([]) (fun vR w' => vR = bI (undF k o = true) ∧ w' = []) := by
  refine CI.mk (own := RX0) (by decide) rfl (Nat.le_of_ble_eq_true rfl) ?_
  intro X E ret
  show J X G 4 0 0 ([]) [(0, .int (nI k)), (1, .int (nI o))] 0 []
  rcases (show k = 0 ∨ k = 1 ∨ k = 2 ∨ k = 3 ∨ k = 4 ∨ k = 5 ∨ k = 6 by omega) with rfl | rfl | rfl | rfl | rfl | rfl | rfl
  · skip
    refine J_iload_n E dX0_isUnder_0 rfl 0 rfl ?_
    refine J_istore_n E (lv' := [(2, .int (nI 0)), (0, .int (nI 0)), (1, .int (nI o))]) dX0_isUnder_1 rfl (by decide) rfl ?_
    refine J_iconst E dX0_isUnder_2 ic_0 ?_
    refine J_istore_n E (lv' := [(3, .int 0), (2, .int (nI 0)), (0, .int (nI 0)), (1, .int (nI o))]) dX0_isUnder_3 rfl (by decide) rfl ?_
    refine J_iload_n E dX0_isUnder_4 rfl 0 rfl ?_
    refine J_bipush E dX0_isUnder_5 bp_7 ?_
    refine J_icmp_ge E (tgt := 33) dX0_isUnder_7 (by decide) (fun c_7 => ?_) (fun c_7 => ?_)
    · skip
      have n_7 : 7 ≤ 0 := cmp_le (a := 7) (b := 0) (by omega) (by omega) c_7
      exact absurd n_7 (by decide)
    · skip
      have n_7 : ¬ 7 ≤ 0 := cmp_nle (a := 7) (b := 0) (by omega) (by omega) c_7
      refine J_iload_n E dX0_isUnder_10 rfl 1 rfl ?_
      refine J_if_lt E (tgt := 33) dX0_isUnder_11 (by decide) (fun c_11 => ?_) (fun c_11 => ?_)
      · skip
        have n_11 : 0 < 0 := cmp_lt (a := 0) (b := 0) (by omega) (by omega) c_11
        exact absurd n_11 (by decide)
      · skip
        have n_11 : ¬ 0 < 0 := cmp_nlt (a := 0) (b := 0) (by omega) (by omega) c_11
        refine J_iload_n E dX0_isUnder_14 rfl 1 rfl ?_
        refine J_iload_n E dX0_isUnder_15 rfl 3 rfl ?_
        refine J_icmp_ne E (tgt := 21) dX0_isUnder_16 (by decide) (fun c_16 => ?_) (fun c_16 => ?_)
        · skip
          have n_16 : ¬ 0 = o := cmp_ne (a := 0) (b := o) (by omega) (by omega) c_16
          refine J_abv E dX0_isUnder_21 ?_
          refine J_iload_n E dX0_isUnder_24 rfl 1 rfl ?_
          refine J_abvl E (j := 0) dX0_isUnder_25 (by decide) ?_
          refine J_top (x' := (-1)) (by decide) ?_
          refine J_istore_n E (lv' := [(2, .int (-1)), (3, .int 0), (0, .int (nI 0)), (1, .int (nI o))]) dX0_isUnder_26 rfl (by decide) rfl ?_
          refine J_iinc E (lv' := [(3, .int (nI 1)), (2, .int (-1)), (0, .int (nI 0)), (1, .int (nI o))]) dX0_isUnder_27 1 rfl (nI_inc _) (by decide) rfl ?_
          refine J_goto E (tgt := 4) dX0_isUnder_30 (by decide) ?_
          refine J_iload_n E dX0_isUnder_4 rfl 0 rfl ?_
          refine J_bipush E dX0_isUnder_5 bp_7 ?_
          refine J_icmp_ge E (tgt := 33) dX0_isUnder_7 (by decide) (fun c_7 => ?_) (fun c_7 => ?_)
          · skip
            have n_7 : 7 ≤ 1 := cmp_le (a := 7) (b := 1) (by omega) (by omega) c_7
            exact absurd n_7 (by decide)
          · skip
            have n_7 : ¬ 7 ≤ 1 := cmp_nle (a := 7) (b := 1) (by omega) (by omega) c_7
            refine J_iload_n E dX0_isUnder_10 rfl 1 rfl ?_
            refine J_if_lt E (tgt := 33) dX0_isUnder_11 (by decide) (fun c_11 => ?_) (fun c_11 => ?_)
            · skip
              refine J_iconst E dX0_isUnder_33 ic_0 ?_
              exact ret _ _ _ _ ⟨by rw [bI_f]; simp [undF]; omega, rfl⟩ rfl dX0_isUnder_34
            · skip
              exact absurd c_11 (by decide)
        · skip
          have n_16 : 0 = o := cmp_eq (a := 0) (b := o) (by omega) (by omega) c_16
          refine J_iconst E dX0_isUnder_19 ic_1 ?_
          exact ret _ _ _ _ ⟨by rw [bI_t]; simp [undF]; omega, rfl⟩ rfl dX0_isUnder_20
  · skip
    refine J_iload_n E dX0_isUnder_0 rfl 0 rfl ?_
    refine J_istore_n E (lv' := [(2, .int (nI 1)), (0, .int (nI 1)), (1, .int (nI o))]) dX0_isUnder_1 rfl (by decide) rfl ?_
    refine J_iconst E dX0_isUnder_2 ic_0 ?_
    refine J_istore_n E (lv' := [(3, .int 0), (2, .int (nI 1)), (0, .int (nI 1)), (1, .int (nI o))]) dX0_isUnder_3 rfl (by decide) rfl ?_
    refine J_iload_n E dX0_isUnder_4 rfl 0 rfl ?_
    refine J_bipush E dX0_isUnder_5 bp_7 ?_
    refine J_icmp_ge E (tgt := 33) dX0_isUnder_7 (by decide) (fun c_7 => ?_) (fun c_7 => ?_)
    · skip
      have n_7 : 7 ≤ 0 := cmp_le (a := 7) (b := 0) (by omega) (by omega) c_7
      exact absurd n_7 (by decide)
    · skip
      have n_7 : ¬ 7 ≤ 0 := cmp_nle (a := 7) (b := 0) (by omega) (by omega) c_7
      refine J_iload_n E dX0_isUnder_10 rfl 1 rfl ?_
      refine J_if_lt E (tgt := 33) dX0_isUnder_11 (by decide) (fun c_11 => ?_) (fun c_11 => ?_)
      · skip
        have n_11 : 1 < 0 := cmp_lt (a := 1) (b := 0) (by omega) (by omega) c_11
        exact absurd n_11 (by decide)
      · skip
        have n_11 : ¬ 1 < 0 := cmp_nlt (a := 1) (b := 0) (by omega) (by omega) c_11
        refine J_iload_n E dX0_isUnder_14 rfl 1 rfl ?_
        refine J_iload_n E dX0_isUnder_15 rfl 3 rfl ?_
        refine J_icmp_ne E (tgt := 21) dX0_isUnder_16 (by decide) (fun c_16 => ?_) (fun c_16 => ?_)
        · skip
          have n_16 : ¬ 1 = o := cmp_ne (a := 1) (b := o) (by omega) (by omega) c_16
          refine J_abv E dX0_isUnder_21 ?_
          refine J_iload_n E dX0_isUnder_24 rfl 1 rfl ?_
          refine J_abvl E (j := 1) dX0_isUnder_25 (by decide) ?_
          refine J_top (x' := nI 0) (by decide) ?_
          refine J_istore_n E (lv' := [(2, .int (nI 0)), (3, .int 0), (0, .int (nI 1)), (1, .int (nI o))]) dX0_isUnder_26 rfl (by decide) rfl ?_
          refine J_iinc E (lv' := [(3, .int (nI 1)), (2, .int (nI 0)), (0, .int (nI 1)), (1, .int (nI o))]) dX0_isUnder_27 1 rfl (nI_inc _) (by decide) rfl ?_
          refine J_goto E (tgt := 4) dX0_isUnder_30 (by decide) ?_
          refine J_iload_n E dX0_isUnder_4 rfl 0 rfl ?_
          refine J_bipush E dX0_isUnder_5 bp_7 ?_
          refine J_icmp_ge E (tgt := 33) dX0_isUnder_7 (by decide) (fun c_7 => ?_) (fun c_7 => ?_)
          · skip
            have n_7 : 7 ≤ 1 := cmp_le (a := 7) (b := 1) (by omega) (by omega) c_7
            exact absurd n_7 (by decide)
          · skip
            have n_7 : ¬ 7 ≤ 1 := cmp_nle (a := 7) (b := 1) (by omega) (by omega) c_7
            refine J_iload_n E dX0_isUnder_10 rfl 1 rfl ?_
            refine J_if_lt E (tgt := 33) dX0_isUnder_11 (by decide) (fun c_11 => ?_) (fun c_11 => ?_)
            · skip
              have n_11 : 0 < 0 := cmp_lt (a := 0) (b := 0) (by omega) (by omega) c_11
              exact absurd n_11 (by decide)
            · skip
              have n_11 : ¬ 0 < 0 := cmp_nlt (a := 0) (b := 0) (by omega) (by omega) c_11
              refine J_iload_n E dX0_isUnder_14 rfl 1 rfl ?_
              refine J_iload_n E dX0_isUnder_15 rfl 3 rfl ?_
              refine J_icmp_ne E (tgt := 21) dX0_isUnder_16 (by decide) (fun c_16 => ?_) (fun c_16 => ?_)
              · skip
                have n_16 : ¬ 0 = o := cmp_ne (a := 0) (b := o) (by omega) (by omega) c_16
                refine J_abv E dX0_isUnder_21 ?_
                refine J_iload_n E dX0_isUnder_24 rfl 1 rfl ?_
                refine J_abvl E (j := 0) dX0_isUnder_25 (by decide) ?_
                refine J_top (x' := (-1)) (by decide) ?_
                refine J_istore_n E (lv' := [(2, .int (-1)), (3, .int (nI 1)), (0, .int (nI 1)), (1, .int (nI o))]) dX0_isUnder_26 rfl (by decide) rfl ?_
                refine J_iinc E (lv' := [(3, .int (nI 2)), (2, .int (-1)), (0, .int (nI 1)), (1, .int (nI o))]) dX0_isUnder_27 1 rfl (nI_inc _) (by decide) rfl ?_
                refine J_goto E (tgt := 4) dX0_isUnder_30 (by decide) ?_
                refine J_iload_n E dX0_isUnder_4 rfl 0 rfl ?_
                refine J_bipush E dX0_isUnder_5 bp_7 ?_
                refine J_icmp_ge E (tgt := 33) dX0_isUnder_7 (by decide) (fun c_7 => ?_) (fun c_7 => ?_)
                · skip
                  have n_7 : 7 ≤ 2 := cmp_le (a := 7) (b := 2) (by omega) (by omega) c_7
                  exact absurd n_7 (by decide)
                · skip
                  have n_7 : ¬ 7 ≤ 2 := cmp_nle (a := 7) (b := 2) (by omega) (by omega) c_7
                  refine J_iload_n E dX0_isUnder_10 rfl 1 rfl ?_
                  refine J_if_lt E (tgt := 33) dX0_isUnder_11 (by decide) (fun c_11 => ?_) (fun c_11 => ?_)
                  · skip
                    refine J_iconst E dX0_isUnder_33 ic_0 ?_
                    exact ret _ _ _ _ ⟨by rw [bI_f]; simp [undF]; omega, rfl⟩ rfl dX0_isUnder_34
                  · skip
                    exact absurd c_11 (by decide)
              · skip
                have n_16 : 0 = o := cmp_eq (a := 0) (b := o) (by omega) (by omega) c_16
                refine J_iconst E dX0_isUnder_19 ic_1 ?_
                exact ret _ _ _ _ ⟨by rw [bI_t]; simp [undF]; omega, rfl⟩ rfl dX0_isUnder_20
        · skip
          have n_16 : 1 = o := cmp_eq (a := 1) (b := o) (by omega) (by omega) c_16
          refine J_iconst E dX0_isUnder_19 ic_1 ?_
          exact ret _ _ _ _ ⟨by rw [bI_t]; simp [undF]; omega, rfl⟩ rfl dX0_isUnder_20
  · skip
    refine J_iload_n E dX0_isUnder_0 rfl 0 rfl ?_
    refine J_istore_n E (lv' := [(2, .int (nI 2)), (0, .int (nI 2)), (1, .int (nI o))]) dX0_isUnder_1 rfl (by decide) rfl ?_
    refine J_iconst E dX0_isUnder_2 ic_0 ?_
    refine J_istore_n E (lv' := [(3, .int 0), (2, .int (nI 2)), (0, .int (nI 2)), (1, .int (nI o))]) dX0_isUnder_3 rfl (by decide) rfl ?_
    refine J_iload_n E dX0_isUnder_4 rfl 0 rfl ?_
    refine J_bipush E dX0_isUnder_5 bp_7 ?_
    refine J_icmp_ge E (tgt := 33) dX0_isUnder_7 (by decide) (fun c_7 => ?_) (fun c_7 => ?_)
    · skip
      have n_7 : 7 ≤ 0 := cmp_le (a := 7) (b := 0) (by omega) (by omega) c_7
      exact absurd n_7 (by decide)
    · skip
      have n_7 : ¬ 7 ≤ 0 := cmp_nle (a := 7) (b := 0) (by omega) (by omega) c_7
      refine J_iload_n E dX0_isUnder_10 rfl 1 rfl ?_
      refine J_if_lt E (tgt := 33) dX0_isUnder_11 (by decide) (fun c_11 => ?_) (fun c_11 => ?_)
      · skip
        have n_11 : 2 < 0 := cmp_lt (a := 2) (b := 0) (by omega) (by omega) c_11
        exact absurd n_11 (by decide)
      · skip
        have n_11 : ¬ 2 < 0 := cmp_nlt (a := 2) (b := 0) (by omega) (by omega) c_11
        refine J_iload_n E dX0_isUnder_14 rfl 1 rfl ?_
        refine J_iload_n E dX0_isUnder_15 rfl 3 rfl ?_
        refine J_icmp_ne E (tgt := 21) dX0_isUnder_16 (by decide) (fun c_16 => ?_) (fun c_16 => ?_)
        · skip
          have n_16 : ¬ 2 = o := cmp_ne (a := 2) (b := o) (by omega) (by omega) c_16
          refine J_abv E dX0_isUnder_21 ?_
          refine J_iload_n E dX0_isUnder_24 rfl 1 rfl ?_
          refine J_abvl E (j := 2) dX0_isUnder_25 (by decide) ?_
          refine J_top (x' := nI 0) (by decide) ?_
          refine J_istore_n E (lv' := [(2, .int (nI 0)), (3, .int 0), (0, .int (nI 2)), (1, .int (nI o))]) dX0_isUnder_26 rfl (by decide) rfl ?_
          refine J_iinc E (lv' := [(3, .int (nI 1)), (2, .int (nI 0)), (0, .int (nI 2)), (1, .int (nI o))]) dX0_isUnder_27 1 rfl (nI_inc _) (by decide) rfl ?_
          refine J_goto E (tgt := 4) dX0_isUnder_30 (by decide) ?_
          refine J_iload_n E dX0_isUnder_4 rfl 0 rfl ?_
          refine J_bipush E dX0_isUnder_5 bp_7 ?_
          refine J_icmp_ge E (tgt := 33) dX0_isUnder_7 (by decide) (fun c_7 => ?_) (fun c_7 => ?_)
          · skip
            have n_7 : 7 ≤ 1 := cmp_le (a := 7) (b := 1) (by omega) (by omega) c_7
            exact absurd n_7 (by decide)
          · skip
            have n_7 : ¬ 7 ≤ 1 := cmp_nle (a := 7) (b := 1) (by omega) (by omega) c_7
            refine J_iload_n E dX0_isUnder_10 rfl 1 rfl ?_
            refine J_if_lt E (tgt := 33) dX0_isUnder_11 (by decide) (fun c_11 => ?_) (fun c_11 => ?_)
            · skip
              have n_11 : 0 < 0 := cmp_lt (a := 0) (b := 0) (by omega) (by omega) c_11
              exact absurd n_11 (by decide)
            · skip
              have n_11 : ¬ 0 < 0 := cmp_nlt (a := 0) (b := 0) (by omega) (by omega) c_11
              refine J_iload_n E dX0_isUnder_14 rfl 1 rfl ?_
              refine J_iload_n E dX0_isUnder_15 rfl 3 rfl ?_
              refine J_icmp_ne E (tgt := 21) dX0_isUnder_16 (by decide) (fun c_16 => ?_) (fun c_16 => ?_)
              · skip
                have n_16 : ¬ 0 = o := cmp_ne (a := 0) (b := o) (by omega) (by omega) c_16
                refine J_abv E dX0_isUnder_21 ?_
                refine J_iload_n E dX0_isUnder_24 rfl 1 rfl ?_
                refine J_abvl E (j := 0) dX0_isUnder_25 (by decide) ?_
                refine J_top (x' := (-1)) (by decide) ?_
                refine J_istore_n E (lv' := [(2, .int (-1)), (3, .int (nI 1)), (0, .int (nI 2)), (1, .int (nI o))]) dX0_isUnder_26 rfl (by decide) rfl ?_
                refine J_iinc E (lv' := [(3, .int (nI 2)), (2, .int (-1)), (0, .int (nI 2)), (1, .int (nI o))]) dX0_isUnder_27 1 rfl (nI_inc _) (by decide) rfl ?_
                refine J_goto E (tgt := 4) dX0_isUnder_30 (by decide) ?_
                refine J_iload_n E dX0_isUnder_4 rfl 0 rfl ?_
                refine J_bipush E dX0_isUnder_5 bp_7 ?_
                refine J_icmp_ge E (tgt := 33) dX0_isUnder_7 (by decide) (fun c_7 => ?_) (fun c_7 => ?_)
                · skip
                  have n_7 : 7 ≤ 2 := cmp_le (a := 7) (b := 2) (by omega) (by omega) c_7
                  exact absurd n_7 (by decide)
                · skip
                  have n_7 : ¬ 7 ≤ 2 := cmp_nle (a := 7) (b := 2) (by omega) (by omega) c_7
                  refine J_iload_n E dX0_isUnder_10 rfl 1 rfl ?_
                  refine J_if_lt E (tgt := 33) dX0_isUnder_11 (by decide) (fun c_11 => ?_) (fun c_11 => ?_)
                  · skip
                    refine J_iconst E dX0_isUnder_33 ic_0 ?_
                    exact ret _ _ _ _ ⟨by rw [bI_f]; simp [undF]; omega, rfl⟩ rfl dX0_isUnder_34
                  · skip
                    exact absurd c_11 (by decide)
              · skip
                have n_16 : 0 = o := cmp_eq (a := 0) (b := o) (by omega) (by omega) c_16
                refine J_iconst E dX0_isUnder_19 ic_1 ?_
                exact ret _ _ _ _ ⟨by rw [bI_t]; simp [undF]; omega, rfl⟩ rfl dX0_isUnder_20
        · skip
          have n_16 : 2 = o := cmp_eq (a := 2) (b := o) (by omega) (by omega) c_16
          refine J_iconst E dX0_isUnder_19 ic_1 ?_
          exact ret _ _ _ _ ⟨by rw [bI_t]; simp [undF]; omega, rfl⟩ rfl dX0_isUnder_20
  · skip
    refine J_iload_n E dX0_isUnder_0 rfl 0 rfl ?_
    refine J_istore_n E (lv' := [(2, .int (nI 3)), (0, .int (nI 3)), (1, .int (nI o))]) dX0_isUnder_1 rfl (by decide) rfl ?_
    refine J_iconst E dX0_isUnder_2 ic_0 ?_
    refine J_istore_n E (lv' := [(3, .int 0), (2, .int (nI 3)), (0, .int (nI 3)), (1, .int (nI o))]) dX0_isUnder_3 rfl (by decide) rfl ?_
    refine J_iload_n E dX0_isUnder_4 rfl 0 rfl ?_
    refine J_bipush E dX0_isUnder_5 bp_7 ?_
    refine J_icmp_ge E (tgt := 33) dX0_isUnder_7 (by decide) (fun c_7 => ?_) (fun c_7 => ?_)
    · skip
      have n_7 : 7 ≤ 0 := cmp_le (a := 7) (b := 0) (by omega) (by omega) c_7
      exact absurd n_7 (by decide)
    · skip
      have n_7 : ¬ 7 ≤ 0 := cmp_nle (a := 7) (b := 0) (by omega) (by omega) c_7
      refine J_iload_n E dX0_isUnder_10 rfl 1 rfl ?_
      refine J_if_lt E (tgt := 33) dX0_isUnder_11 (by decide) (fun c_11 => ?_) (fun c_11 => ?_)
      · skip
        have n_11 : 3 < 0 := cmp_lt (a := 3) (b := 0) (by omega) (by omega) c_11
        exact absurd n_11 (by decide)
      · skip
        have n_11 : ¬ 3 < 0 := cmp_nlt (a := 3) (b := 0) (by omega) (by omega) c_11
        refine J_iload_n E dX0_isUnder_14 rfl 1 rfl ?_
        refine J_iload_n E dX0_isUnder_15 rfl 3 rfl ?_
        refine J_icmp_ne E (tgt := 21) dX0_isUnder_16 (by decide) (fun c_16 => ?_) (fun c_16 => ?_)
        · skip
          have n_16 : ¬ 3 = o := cmp_ne (a := 3) (b := o) (by omega) (by omega) c_16
          refine J_abv E dX0_isUnder_21 ?_
          refine J_iload_n E dX0_isUnder_24 rfl 1 rfl ?_
          refine J_abvl E (j := 3) dX0_isUnder_25 (by decide) ?_
          refine J_top (x' := nI 2) (by decide) ?_
          refine J_istore_n E (lv' := [(2, .int (nI 2)), (3, .int 0), (0, .int (nI 3)), (1, .int (nI o))]) dX0_isUnder_26 rfl (by decide) rfl ?_
          refine J_iinc E (lv' := [(3, .int (nI 1)), (2, .int (nI 2)), (0, .int (nI 3)), (1, .int (nI o))]) dX0_isUnder_27 1 rfl (nI_inc _) (by decide) rfl ?_
          refine J_goto E (tgt := 4) dX0_isUnder_30 (by decide) ?_
          refine J_iload_n E dX0_isUnder_4 rfl 0 rfl ?_
          refine J_bipush E dX0_isUnder_5 bp_7 ?_
          refine J_icmp_ge E (tgt := 33) dX0_isUnder_7 (by decide) (fun c_7 => ?_) (fun c_7 => ?_)
          · skip
            have n_7 : 7 ≤ 1 := cmp_le (a := 7) (b := 1) (by omega) (by omega) c_7
            exact absurd n_7 (by decide)
          · skip
            have n_7 : ¬ 7 ≤ 1 := cmp_nle (a := 7) (b := 1) (by omega) (by omega) c_7
            refine J_iload_n E dX0_isUnder_10 rfl 1 rfl ?_
            refine J_if_lt E (tgt := 33) dX0_isUnder_11 (by decide) (fun c_11 => ?_) (fun c_11 => ?_)
            · skip
              have n_11 : 2 < 0 := cmp_lt (a := 2) (b := 0) (by omega) (by omega) c_11
              exact absurd n_11 (by decide)
            · skip
              have n_11 : ¬ 2 < 0 := cmp_nlt (a := 2) (b := 0) (by omega) (by omega) c_11
              refine J_iload_n E dX0_isUnder_14 rfl 1 rfl ?_
              refine J_iload_n E dX0_isUnder_15 rfl 3 rfl ?_
              refine J_icmp_ne E (tgt := 21) dX0_isUnder_16 (by decide) (fun c_16 => ?_) (fun c_16 => ?_)
              · skip
                have n_16 : ¬ 2 = o := cmp_ne (a := 2) (b := o) (by omega) (by omega) c_16
                refine J_abv E dX0_isUnder_21 ?_
                refine J_iload_n E dX0_isUnder_24 rfl 1 rfl ?_
                refine J_abvl E (j := 2) dX0_isUnder_25 (by decide) ?_
                refine J_top (x' := nI 0) (by decide) ?_
                refine J_istore_n E (lv' := [(2, .int (nI 0)), (3, .int (nI 1)), (0, .int (nI 3)), (1, .int (nI o))]) dX0_isUnder_26 rfl (by decide) rfl ?_
                refine J_iinc E (lv' := [(3, .int (nI 2)), (2, .int (nI 0)), (0, .int (nI 3)), (1, .int (nI o))]) dX0_isUnder_27 1 rfl (nI_inc _) (by decide) rfl ?_
                refine J_goto E (tgt := 4) dX0_isUnder_30 (by decide) ?_
                refine J_iload_n E dX0_isUnder_4 rfl 0 rfl ?_
                refine J_bipush E dX0_isUnder_5 bp_7 ?_
                refine J_icmp_ge E (tgt := 33) dX0_isUnder_7 (by decide) (fun c_7 => ?_) (fun c_7 => ?_)
                · skip
                  have n_7 : 7 ≤ 2 := cmp_le (a := 7) (b := 2) (by omega) (by omega) c_7
                  exact absurd n_7 (by decide)
                · skip
                  have n_7 : ¬ 7 ≤ 2 := cmp_nle (a := 7) (b := 2) (by omega) (by omega) c_7
                  refine J_iload_n E dX0_isUnder_10 rfl 1 rfl ?_
                  refine J_if_lt E (tgt := 33) dX0_isUnder_11 (by decide) (fun c_11 => ?_) (fun c_11 => ?_)
                  · skip
                    have n_11 : 0 < 0 := cmp_lt (a := 0) (b := 0) (by omega) (by omega) c_11
                    exact absurd n_11 (by decide)
                  · skip
                    have n_11 : ¬ 0 < 0 := cmp_nlt (a := 0) (b := 0) (by omega) (by omega) c_11
                    refine J_iload_n E dX0_isUnder_14 rfl 1 rfl ?_
                    refine J_iload_n E dX0_isUnder_15 rfl 3 rfl ?_
                    refine J_icmp_ne E (tgt := 21) dX0_isUnder_16 (by decide) (fun c_16 => ?_) (fun c_16 => ?_)
                    · skip
                      have n_16 : ¬ 0 = o := cmp_ne (a := 0) (b := o) (by omega) (by omega) c_16
                      refine J_abv E dX0_isUnder_21 ?_
                      refine J_iload_n E dX0_isUnder_24 rfl 1 rfl ?_
                      refine J_abvl E (j := 0) dX0_isUnder_25 (by decide) ?_
                      refine J_top (x' := (-1)) (by decide) ?_
                      refine J_istore_n E (lv' := [(2, .int (-1)), (3, .int (nI 2)), (0, .int (nI 3)), (1, .int (nI o))]) dX0_isUnder_26 rfl (by decide) rfl ?_
                      refine J_iinc E (lv' := [(3, .int (nI 3)), (2, .int (-1)), (0, .int (nI 3)), (1, .int (nI o))]) dX0_isUnder_27 1 rfl (nI_inc _) (by decide) rfl ?_
                      refine J_goto E (tgt := 4) dX0_isUnder_30 (by decide) ?_
                      refine J_iload_n E dX0_isUnder_4 rfl 0 rfl ?_
                      refine J_bipush E dX0_isUnder_5 bp_7 ?_
                      refine J_icmp_ge E (tgt := 33) dX0_isUnder_7 (by decide) (fun c_7 => ?_) (fun c_7 => ?_)
                      · skip
                        have n_7 : 7 ≤ 3 := cmp_le (a := 7) (b := 3) (by omega) (by omega) c_7
                        exact absurd n_7 (by decide)
                      · skip
                        have n_7 : ¬ 7 ≤ 3 := cmp_nle (a := 7) (b := 3) (by omega) (by omega) c_7
                        refine J_iload_n E dX0_isUnder_10 rfl 1 rfl ?_
                        refine J_if_lt E (tgt := 33) dX0_isUnder_11 (by decide) (fun c_11 => ?_) (fun c_11 => ?_)
                        · skip
                          refine J_iconst E dX0_isUnder_33 ic_0 ?_
                          exact ret _ _ _ _ ⟨by rw [bI_f]; simp [undF]; omega, rfl⟩ rfl dX0_isUnder_34
                        · skip
                          exact absurd c_11 (by decide)
                    · skip
                      have n_16 : 0 = o := cmp_eq (a := 0) (b := o) (by omega) (by omega) c_16
                      refine J_iconst E dX0_isUnder_19 ic_1 ?_
                      exact ret _ _ _ _ ⟨by rw [bI_t]; simp [undF]; omega, rfl⟩ rfl dX0_isUnder_20
              · skip
                have n_16 : 2 = o := cmp_eq (a := 2) (b := o) (by omega) (by omega) c_16
                refine J_iconst E dX0_isUnder_19 ic_1 ?_
                exact ret _ _ _ _ ⟨by rw [bI_t]; simp [undF]; omega, rfl⟩ rfl dX0_isUnder_20
        · skip
          have n_16 : 3 = o := cmp_eq (a := 3) (b := o) (by omega) (by omega) c_16
          refine J_iconst E dX0_isUnder_19 ic_1 ?_
          exact ret _ _ _ _ ⟨by rw [bI_t]; simp [undF]; omega, rfl⟩ rfl dX0_isUnder_20
  · skip
    refine J_iload_n E dX0_isUnder_0 rfl 0 rfl ?_
    refine J_istore_n E (lv' := [(2, .int (nI 4)), (0, .int (nI 4)), (1, .int (nI o))]) dX0_isUnder_1 rfl (by decide) rfl ?_
    refine J_iconst E dX0_isUnder_2 ic_0 ?_
    refine J_istore_n E (lv' := [(3, .int 0), (2, .int (nI 4)), (0, .int (nI 4)), (1, .int (nI o))]) dX0_isUnder_3 rfl (by decide) rfl ?_
    refine J_iload_n E dX0_isUnder_4 rfl 0 rfl ?_
    refine J_bipush E dX0_isUnder_5 bp_7 ?_
    refine J_icmp_ge E (tgt := 33) dX0_isUnder_7 (by decide) (fun c_7 => ?_) (fun c_7 => ?_)
    · skip
      have n_7 : 7 ≤ 0 := cmp_le (a := 7) (b := 0) (by omega) (by omega) c_7
      exact absurd n_7 (by decide)
    · skip
      have n_7 : ¬ 7 ≤ 0 := cmp_nle (a := 7) (b := 0) (by omega) (by omega) c_7
      refine J_iload_n E dX0_isUnder_10 rfl 1 rfl ?_
      refine J_if_lt E (tgt := 33) dX0_isUnder_11 (by decide) (fun c_11 => ?_) (fun c_11 => ?_)
      · skip
        have n_11 : 4 < 0 := cmp_lt (a := 4) (b := 0) (by omega) (by omega) c_11
        exact absurd n_11 (by decide)
      · skip
        have n_11 : ¬ 4 < 0 := cmp_nlt (a := 4) (b := 0) (by omega) (by omega) c_11
        refine J_iload_n E dX0_isUnder_14 rfl 1 rfl ?_
        refine J_iload_n E dX0_isUnder_15 rfl 3 rfl ?_
        refine J_icmp_ne E (tgt := 21) dX0_isUnder_16 (by decide) (fun c_16 => ?_) (fun c_16 => ?_)
        · skip
          have n_16 : ¬ 4 = o := cmp_ne (a := 4) (b := o) (by omega) (by omega) c_16
          refine J_abv E dX0_isUnder_21 ?_
          refine J_iload_n E dX0_isUnder_24 rfl 1 rfl ?_
          refine J_abvl E (j := 4) dX0_isUnder_25 (by decide) ?_
          refine J_top (x' := nI 3) (by decide) ?_
          refine J_istore_n E (lv' := [(2, .int (nI 3)), (3, .int 0), (0, .int (nI 4)), (1, .int (nI o))]) dX0_isUnder_26 rfl (by decide) rfl ?_
          refine J_iinc E (lv' := [(3, .int (nI 1)), (2, .int (nI 3)), (0, .int (nI 4)), (1, .int (nI o))]) dX0_isUnder_27 1 rfl (nI_inc _) (by decide) rfl ?_
          refine J_goto E (tgt := 4) dX0_isUnder_30 (by decide) ?_
          refine J_iload_n E dX0_isUnder_4 rfl 0 rfl ?_
          refine J_bipush E dX0_isUnder_5 bp_7 ?_
          refine J_icmp_ge E (tgt := 33) dX0_isUnder_7 (by decide) (fun c_7 => ?_) (fun c_7 => ?_)
          · skip
            have n_7 : 7 ≤ 1 := cmp_le (a := 7) (b := 1) (by omega) (by omega) c_7
            exact absurd n_7 (by decide)
          · skip
            have n_7 : ¬ 7 ≤ 1 := cmp_nle (a := 7) (b := 1) (by omega) (by omega) c_7
            refine J_iload_n E dX0_isUnder_10 rfl 1 rfl ?_
            refine J_if_lt E (tgt := 33) dX0_isUnder_11 (by decide) (fun c_11 => ?_) (fun c_11 => ?_)
            · skip
              have n_11 : 3 < 0 := cmp_lt (a := 3) (b := 0) (by omega) (by omega) c_11
              exact absurd n_11 (by decide)
            · skip
              have n_11 : ¬ 3 < 0 := cmp_nlt (a := 3) (b := 0) (by omega) (by omega) c_11
              refine J_iload_n E dX0_isUnder_14 rfl 1 rfl ?_
              refine J_iload_n E dX0_isUnder_15 rfl 3 rfl ?_
              refine J_icmp_ne E (tgt := 21) dX0_isUnder_16 (by decide) (fun c_16 => ?_) (fun c_16 => ?_)
              · skip
                have n_16 : ¬ 3 = o := cmp_ne (a := 3) (b := o) (by omega) (by omega) c_16
                refine J_abv E dX0_isUnder_21 ?_
                refine J_iload_n E dX0_isUnder_24 rfl 1 rfl ?_
                refine J_abvl E (j := 3) dX0_isUnder_25 (by decide) ?_
                refine J_top (x' := nI 2) (by decide) ?_
                refine J_istore_n E (lv' := [(2, .int (nI 2)), (3, .int (nI 1)), (0, .int (nI 4)), (1, .int (nI o))]) dX0_isUnder_26 rfl (by decide) rfl ?_
                refine J_iinc E (lv' := [(3, .int (nI 2)), (2, .int (nI 2)), (0, .int (nI 4)), (1, .int (nI o))]) dX0_isUnder_27 1 rfl (nI_inc _) (by decide) rfl ?_
                refine J_goto E (tgt := 4) dX0_isUnder_30 (by decide) ?_
                refine J_iload_n E dX0_isUnder_4 rfl 0 rfl ?_
                refine J_bipush E dX0_isUnder_5 bp_7 ?_
                refine J_icmp_ge E (tgt := 33) dX0_isUnder_7 (by decide) (fun c_7 => ?_) (fun c_7 => ?_)
                · skip
                  have n_7 : 7 ≤ 2 := cmp_le (a := 7) (b := 2) (by omega) (by omega) c_7
                  exact absurd n_7 (by decide)
                · skip
                  have n_7 : ¬ 7 ≤ 2 := cmp_nle (a := 7) (b := 2) (by omega) (by omega) c_7
                  refine J_iload_n E dX0_isUnder_10 rfl 1 rfl ?_
                  refine J_if_lt E (tgt := 33) dX0_isUnder_11 (by decide) (fun c_11 => ?_) (fun c_11 => ?_)
                  · skip
                    have n_11 : 2 < 0 := cmp_lt (a := 2) (b := 0) (by omega) (by omega) c_11
                    exact absurd n_11 (by decide)
                  · skip
                    have n_11 : ¬ 2 < 0 := cmp_nlt (a := 2) (b := 0) (by omega) (by omega) c_11
                    refine J_iload_n E dX0_isUnder_14 rfl 1 rfl ?_
                    refine J_iload_n E dX0_isUnder_15 rfl 3 rfl ?_
                    refine J_icmp_ne E (tgt := 21) dX0_isUnder_16 (by decide) (fun c_16 => ?_) (fun c_16 => ?_)
                    · skip
                      have n_16 : ¬ 2 = o := cmp_ne (a := 2) (b := o) (by omega) (by omega) c_16
                      refine J_abv E dX0_isUnder_21 ?_
                      refine J_iload_n E dX0_isUnder_24 rfl 1 rfl ?_
                      refine J_abvl E (j := 2) dX0_isUnder_25 (by decide) ?_
                      refine J_top (x' := nI 0) (by decide) ?_
                      refine J_istore_n E (lv' := [(2, .int (nI 0)), (3, .int (nI 2)), (0, .int (nI 4)), (1, .int (nI o))]) dX0_isUnder_26 rfl (by decide) rfl ?_
                      refine J_iinc E (lv' := [(3, .int (nI 3)), (2, .int (nI 0)), (0, .int (nI 4)), (1, .int (nI o))]) dX0_isUnder_27 1 rfl (nI_inc _) (by decide) rfl ?_
                      refine J_goto E (tgt := 4) dX0_isUnder_30 (by decide) ?_
                      refine J_iload_n E dX0_isUnder_4 rfl 0 rfl ?_
                      refine J_bipush E dX0_isUnder_5 bp_7 ?_
                      refine J_icmp_ge E (tgt := 33) dX0_isUnder_7 (by decide) (fun c_7 => ?_) (fun c_7 => ?_)
                      · skip
                        have n_7 : 7 ≤ 3 := cmp_le (a := 7) (b := 3) (by omega) (by omega) c_7
                        exact absurd n_7 (by decide)
                      · skip
                        have n_7 : ¬ 7 ≤ 3 := cmp_nle (a := 7) (b := 3) (by omega) (by omega) c_7
                        refine J_iload_n E dX0_isUnder_10 rfl 1 rfl ?_
                        refine J_if_lt E (tgt := 33) dX0_isUnder_11 (by decide) (fun c_11 => ?_) (fun c_11 => ?_)
                        · skip
                          have n_11 : 0 < 0 := cmp_lt (a := 0) (b := 0) (by omega) (by omega) c_11
                          exact absurd n_11 (by decide)
                        · skip
                          have n_11 : ¬ 0 < 0 := cmp_nlt (a := 0) (b := 0) (by omega) (by omega) c_11
                          refine J_iload_n E dX0_isUnder_14 rfl 1 rfl ?_
                          refine J_iload_n E dX0_isUnder_15 rfl 3 rfl ?_
                          refine J_icmp_ne E (tgt := 21) dX0_isUnder_16 (by decide) (fun c_16 => ?_) (fun c_16 => ?_)
                          · skip
                            have n_16 : ¬ 0 = o := cmp_ne (a := 0) (b := o) (by omega) (by omega) c_16
                            refine J_abv E dX0_isUnder_21 ?_
                            refine J_iload_n E dX0_isUnder_24 rfl 1 rfl ?_
                            refine J_abvl E (j := 0) dX0_isUnder_25 (by decide) ?_
                            refine J_top (x' := (-1)) (by decide) ?_
                            refine J_istore_n E (lv' := [(2, .int (-1)), (3, .int (nI 3)), (0, .int (nI 4)), (1, .int (nI o))]) dX0_isUnder_26 rfl (by decide) rfl ?_
                            refine J_iinc E (lv' := [(3, .int (nI 4)), (2, .int (-1)), (0, .int (nI 4)), (1, .int (nI o))]) dX0_isUnder_27 1 rfl (nI_inc _) (by decide) rfl ?_
                            refine J_goto E (tgt := 4) dX0_isUnder_30 (by decide) ?_
                            refine J_iload_n E dX0_isUnder_4 rfl 0 rfl ?_
                            refine J_bipush E dX0_isUnder_5 bp_7 ?_
                            refine J_icmp_ge E (tgt := 33) dX0_isUnder_7 (by decide) (fun c_7 => ?_) (fun c_7 => ?_)
                            · skip
                              have n_7 : 7 ≤ 4 := cmp_le (a := 7) (b := 4) (by omega) (by omega) c_7
                              exact absurd n_7 (by decide)
                            · skip
                              have n_7 : ¬ 7 ≤ 4 := cmp_nle (a := 7) (b := 4) (by omega) (by omega) c_7
                              refine J_iload_n E dX0_isUnder_10 rfl 1 rfl ?_
                              refine J_if_lt E (tgt := 33) dX0_isUnder_11 (by decide) (fun c_11 => ?_) (fun c_11 => ?_)
                              · skip
                                refine J_iconst E dX0_isUnder_33 ic_0 ?_
                                exact ret _ _ _ _ ⟨by rw [bI_f]; simp [undF]; omega, rfl⟩ rfl dX0_isUnder_34
                              · skip
                                exact absurd c_11 (by decide)
                          · skip
                            have n_16 : 0 = o := cmp_eq (a := 0) (b := o) (by omega) (by omega) c_16
                            refine J_iconst E dX0_isUnder_19 ic_1 ?_
                            exact ret _ _ _ _ ⟨by rw [bI_t]; simp [undF]; omega, rfl⟩ rfl dX0_isUnder_20
                    · skip
                      have n_16 : 2 = o := cmp_eq (a := 2) (b := o) (by omega) (by omega) c_16
                      refine J_iconst E dX0_isUnder_19 ic_1 ?_
                      exact ret _ _ _ _ ⟨by rw [bI_t]; simp [undF]; omega, rfl⟩ rfl dX0_isUnder_20
              · skip
                have n_16 : 3 = o := cmp_eq (a := 3) (b := o) (by omega) (by omega) c_16
                refine J_iconst E dX0_isUnder_19 ic_1 ?_
                exact ret _ _ _ _ ⟨by rw [bI_t]; simp [undF]; omega, rfl⟩ rfl dX0_isUnder_20
        · skip
          have n_16 : 4 = o := cmp_eq (a := 4) (b := o) (by omega) (by omega) c_16
          refine J_iconst E dX0_isUnder_19 ic_1 ?_
          exact ret _ _ _ _ ⟨by rw [bI_t]; simp [undF]; omega, rfl⟩ rfl dX0_isUnder_20
  · skip
    refine J_iload_n E dX0_isUnder_0 rfl 0 rfl ?_
    refine J_istore_n E (lv' := [(2, .int (nI 5)), (0, .int (nI 5)), (1, .int (nI o))]) dX0_isUnder_1 rfl (by decide) rfl ?_
    refine J_iconst E dX0_isUnder_2 ic_0 ?_
    refine J_istore_n E (lv' := [(3, .int 0), (2, .int (nI 5)), (0, .int (nI 5)), (1, .int (nI o))]) dX0_isUnder_3 rfl (by decide) rfl ?_
    refine J_iload_n E dX0_isUnder_4 rfl 0 rfl ?_
    refine J_bipush E dX0_isUnder_5 bp_7 ?_
    refine J_icmp_ge E (tgt := 33) dX0_isUnder_7 (by decide) (fun c_7 => ?_) (fun c_7 => ?_)
    · skip
      have n_7 : 7 ≤ 0 := cmp_le (a := 7) (b := 0) (by omega) (by omega) c_7
      exact absurd n_7 (by decide)
    · skip
      have n_7 : ¬ 7 ≤ 0 := cmp_nle (a := 7) (b := 0) (by omega) (by omega) c_7
      refine J_iload_n E dX0_isUnder_10 rfl 1 rfl ?_
      refine J_if_lt E (tgt := 33) dX0_isUnder_11 (by decide) (fun c_11 => ?_) (fun c_11 => ?_)
      · skip
        have n_11 : 5 < 0 := cmp_lt (a := 5) (b := 0) (by omega) (by omega) c_11
        exact absurd n_11 (by decide)
      · skip
        have n_11 : ¬ 5 < 0 := cmp_nlt (a := 5) (b := 0) (by omega) (by omega) c_11
        refine J_iload_n E dX0_isUnder_14 rfl 1 rfl ?_
        refine J_iload_n E dX0_isUnder_15 rfl 3 rfl ?_
        refine J_icmp_ne E (tgt := 21) dX0_isUnder_16 (by decide) (fun c_16 => ?_) (fun c_16 => ?_)
        · skip
          have n_16 : ¬ 5 = o := cmp_ne (a := 5) (b := o) (by omega) (by omega) c_16
          refine J_abv E dX0_isUnder_21 ?_
          refine J_iload_n E dX0_isUnder_24 rfl 1 rfl ?_
          refine J_abvl E (j := 5) dX0_isUnder_25 (by decide) ?_
          refine J_top (x' := nI 0) (by decide) ?_
          refine J_istore_n E (lv' := [(2, .int (nI 0)), (3, .int 0), (0, .int (nI 5)), (1, .int (nI o))]) dX0_isUnder_26 rfl (by decide) rfl ?_
          refine J_iinc E (lv' := [(3, .int (nI 1)), (2, .int (nI 0)), (0, .int (nI 5)), (1, .int (nI o))]) dX0_isUnder_27 1 rfl (nI_inc _) (by decide) rfl ?_
          refine J_goto E (tgt := 4) dX0_isUnder_30 (by decide) ?_
          refine J_iload_n E dX0_isUnder_4 rfl 0 rfl ?_
          refine J_bipush E dX0_isUnder_5 bp_7 ?_
          refine J_icmp_ge E (tgt := 33) dX0_isUnder_7 (by decide) (fun c_7 => ?_) (fun c_7 => ?_)
          · skip
            have n_7 : 7 ≤ 1 := cmp_le (a := 7) (b := 1) (by omega) (by omega) c_7
            exact absurd n_7 (by decide)
          · skip
            have n_7 : ¬ 7 ≤ 1 := cmp_nle (a := 7) (b := 1) (by omega) (by omega) c_7
            refine J_iload_n E dX0_isUnder_10 rfl 1 rfl ?_
            refine J_if_lt E (tgt := 33) dX0_isUnder_11 (by decide) (fun c_11 => ?_) (fun c_11 => ?_)
            · skip
              have n_11 : 0 < 0 := cmp_lt (a := 0) (b := 0) (by omega) (by omega) c_11
              exact absurd n_11 (by decide)
            · skip
              have n_11 : ¬ 0 < 0 := cmp_nlt (a := 0) (b := 0) (by omega) (by omega) c_11
              refine J_iload_n E dX0_isUnder_14 rfl 1 rfl ?_
              refine J_iload_n E dX0_isUnder_15 rfl 3 rfl ?_
              refine J_icmp_ne E (tgt := 21) dX0_isUnder_16 (by decide) (fun c_16 => ?_) (fun c_16 => ?_)
              · skip
                have n_16 : ¬ 0 = o := cmp_ne (a := 0) (b := o) (by omega) (by omega) c_16
                refine J_abv E dX0_isUnder_21 ?_
                refine J_iload_n E dX0_isUnder_24 rfl 1 rfl ?_
                refine J_abvl E (j := 0) dX0_isUnder_25 (by decide) ?_
                refine J_top (x' := (-1)) (by decide) ?_
                refine J_istore_n E (lv' := [(2, .int (-1)), (3, .int (nI 1)), (0, .int (nI 5)), (1, .int (nI o))]) dX0_isUnder_26 rfl (by decide) rfl ?_
                refine J_iinc E (lv' := [(3, .int (nI 2)), (2, .int (-1)), (0, .int (nI 5)), (1, .int (nI o))]) dX0_isUnder_27 1 rfl (nI_inc _) (by decide) rfl ?_
                refine J_goto E (tgt := 4) dX0_isUnder_30 (by decide) ?_
                refine J_iload_n E dX0_isUnder_4 rfl 0 rfl ?_
                refine J_bipush E dX0_isUnder_5 bp_7 ?_
                refine J_icmp_ge E (tgt := 33) dX0_isUnder_7 (by decide) (fun c_7 => ?_) (fun c_7 => ?_)
                · skip
                  have n_7 : 7 ≤ 2 := cmp_le (a := 7) (b := 2) (by omega) (by omega) c_7
                  exact absurd n_7 (by decide)
                · skip
                  have n_7 : ¬ 7 ≤ 2 := cmp_nle (a := 7) (b := 2) (by omega) (by omega) c_7
                  refine J_iload_n E dX0_isUnder_10 rfl 1 rfl ?_
                  refine J_if_lt E (tgt := 33) dX0_isUnder_11 (by decide) (fun c_11 => ?_) (fun c_11 => ?_)
                  · skip
                    refine J_iconst E dX0_isUnder_33 ic_0 ?_
                    exact ret _ _ _ _ ⟨by rw [bI_f]; simp [undF]; omega, rfl⟩ rfl dX0_isUnder_34
                  · skip
                    exact absurd c_11 (by decide)
              · skip
                have n_16 : 0 = o := cmp_eq (a := 0) (b := o) (by omega) (by omega) c_16
                refine J_iconst E dX0_isUnder_19 ic_1 ?_
                exact ret _ _ _ _ ⟨by rw [bI_t]; simp [undF]; omega, rfl⟩ rfl dX0_isUnder_20
        · skip
          have n_16 : 5 = o := cmp_eq (a := 5) (b := o) (by omega) (by omega) c_16
          refine J_iconst E dX0_isUnder_19 ic_1 ?_
          exact ret _ _ _ _ ⟨by rw [bI_t]; simp [undF]; omega, rfl⟩ rfl dX0_isUnder_20
  · skip
    refine J_iload_n E dX0_isUnder_0 rfl 0 rfl ?_
    refine J_istore_n E (lv' := [(2, .int (nI 6)), (0, .int (nI 6)), (1, .int (nI o))]) dX0_isUnder_1 rfl (by decide) rfl ?_
    refine J_iconst E dX0_isUnder_2 ic_0 ?_
    refine J_istore_n E (lv' := [(3, .int 0), (2, .int (nI 6)), (0, .int (nI 6)), (1, .int (nI o))]) dX0_isUnder_3 rfl (by decide) rfl ?_
    refine J_iload_n E dX0_isUnder_4 rfl 0 rfl ?_
    refine J_bipush E dX0_isUnder_5 bp_7 ?_
    refine J_icmp_ge E (tgt := 33) dX0_isUnder_7 (by decide) (fun c_7 => ?_) (fun c_7 => ?_)
    · skip
      have n_7 : 7 ≤ 0 := cmp_le (a := 7) (b := 0) (by omega) (by omega) c_7
      exact absurd n_7 (by decide)
    · skip
      have n_7 : ¬ 7 ≤ 0 := cmp_nle (a := 7) (b := 0) (by omega) (by omega) c_7
      refine J_iload_n E dX0_isUnder_10 rfl 1 rfl ?_
      refine J_if_lt E (tgt := 33) dX0_isUnder_11 (by decide) (fun c_11 => ?_) (fun c_11 => ?_)
      · skip
        have n_11 : 6 < 0 := cmp_lt (a := 6) (b := 0) (by omega) (by omega) c_11
        exact absurd n_11 (by decide)
      · skip
        have n_11 : ¬ 6 < 0 := cmp_nlt (a := 6) (b := 0) (by omega) (by omega) c_11
        refine J_iload_n E dX0_isUnder_14 rfl 1 rfl ?_
        refine J_iload_n E dX0_isUnder_15 rfl 3 rfl ?_
        refine J_icmp_ne E (tgt := 21) dX0_isUnder_16 (by decide) (fun c_16 => ?_) (fun c_16 => ?_)
        · skip
          have n_16 : ¬ 6 = o := cmp_ne (a := 6) (b := o) (by omega) (by omega) c_16
          refine J_abv E dX0_isUnder_21 ?_
          refine J_iload_n E dX0_isUnder_24 rfl 1 rfl ?_
          refine J_abvl E (j := 6) dX0_isUnder_25 (by decide) ?_
          refine J_top (x' := nI 1) (by decide) ?_
          refine J_istore_n E (lv' := [(2, .int (nI 1)), (3, .int 0), (0, .int (nI 6)), (1, .int (nI o))]) dX0_isUnder_26 rfl (by decide) rfl ?_
          refine J_iinc E (lv' := [(3, .int (nI 1)), (2, .int (nI 1)), (0, .int (nI 6)), (1, .int (nI o))]) dX0_isUnder_27 1 rfl (nI_inc _) (by decide) rfl ?_
          refine J_goto E (tgt := 4) dX0_isUnder_30 (by decide) ?_
          refine J_iload_n E dX0_isUnder_4 rfl 0 rfl ?_
          refine J_bipush E dX0_isUnder_5 bp_7 ?_
          refine J_icmp_ge E (tgt := 33) dX0_isUnder_7 (by decide) (fun c_7 => ?_) (fun c_7 => ?_)
          · skip
            have n_7 : 7 ≤ 1 := cmp_le (a := 7) (b := 1) (by omega) (by omega) c_7
            exact absurd n_7 (by decide)
          · skip
            have n_7 : ¬ 7 ≤ 1 := cmp_nle (a := 7) (b := 1) (by omega) (by omega) c_7
            refine J_iload_n E dX0_isUnder_10 rfl 1 rfl ?_
            refine J_if_lt E (tgt := 33) dX0_isUnder_11 (by decide) (fun c_11 => ?_) (fun c_11 => ?_)
            · skip
              have n_11 : 1 < 0 := cmp_lt (a := 1) (b := 0) (by omega) (by omega) c_11
              exact absurd n_11 (by decide)
            · skip
              have n_11 : ¬ 1 < 0 := cmp_nlt (a := 1) (b := 0) (by omega) (by omega) c_11
              refine J_iload_n E dX0_isUnder_14 rfl 1 rfl ?_
              refine J_iload_n E dX0_isUnder_15 rfl 3 rfl ?_
              refine J_icmp_ne E (tgt := 21) dX0_isUnder_16 (by decide) (fun c_16 => ?_) (fun c_16 => ?_)
              · skip
                have n_16 : ¬ 1 = o := cmp_ne (a := 1) (b := o) (by omega) (by omega) c_16
                refine J_abv E dX0_isUnder_21 ?_
                refine J_iload_n E dX0_isUnder_24 rfl 1 rfl ?_
                refine J_abvl E (j := 1) dX0_isUnder_25 (by decide) ?_
                refine J_top (x' := nI 0) (by decide) ?_
                refine J_istore_n E (lv' := [(2, .int (nI 0)), (3, .int (nI 1)), (0, .int (nI 6)), (1, .int (nI o))]) dX0_isUnder_26 rfl (by decide) rfl ?_
                refine J_iinc E (lv' := [(3, .int (nI 2)), (2, .int (nI 0)), (0, .int (nI 6)), (1, .int (nI o))]) dX0_isUnder_27 1 rfl (nI_inc _) (by decide) rfl ?_
                refine J_goto E (tgt := 4) dX0_isUnder_30 (by decide) ?_
                refine J_iload_n E dX0_isUnder_4 rfl 0 rfl ?_
                refine J_bipush E dX0_isUnder_5 bp_7 ?_
                refine J_icmp_ge E (tgt := 33) dX0_isUnder_7 (by decide) (fun c_7 => ?_) (fun c_7 => ?_)
                · skip
                  have n_7 : 7 ≤ 2 := cmp_le (a := 7) (b := 2) (by omega) (by omega) c_7
                  exact absurd n_7 (by decide)
                · skip
                  have n_7 : ¬ 7 ≤ 2 := cmp_nle (a := 7) (b := 2) (by omega) (by omega) c_7
                  refine J_iload_n E dX0_isUnder_10 rfl 1 rfl ?_
                  refine J_if_lt E (tgt := 33) dX0_isUnder_11 (by decide) (fun c_11 => ?_) (fun c_11 => ?_)
                  · skip
                    have n_11 : 0 < 0 := cmp_lt (a := 0) (b := 0) (by omega) (by omega) c_11
                    exact absurd n_11 (by decide)
                  · skip
                    have n_11 : ¬ 0 < 0 := cmp_nlt (a := 0) (b := 0) (by omega) (by omega) c_11
                    refine J_iload_n E dX0_isUnder_14 rfl 1 rfl ?_
                    refine J_iload_n E dX0_isUnder_15 rfl 3 rfl ?_
                    refine J_icmp_ne E (tgt := 21) dX0_isUnder_16 (by decide) (fun c_16 => ?_) (fun c_16 => ?_)
                    · skip
                      have n_16 : ¬ 0 = o := cmp_ne (a := 0) (b := o) (by omega) (by omega) c_16
                      refine J_abv E dX0_isUnder_21 ?_
                      refine J_iload_n E dX0_isUnder_24 rfl 1 rfl ?_
                      refine J_abvl E (j := 0) dX0_isUnder_25 (by decide) ?_
                      refine J_top (x' := (-1)) (by decide) ?_
                      refine J_istore_n E (lv' := [(2, .int (-1)), (3, .int (nI 2)), (0, .int (nI 6)), (1, .int (nI o))]) dX0_isUnder_26 rfl (by decide) rfl ?_
                      refine J_iinc E (lv' := [(3, .int (nI 3)), (2, .int (-1)), (0, .int (nI 6)), (1, .int (nI o))]) dX0_isUnder_27 1 rfl (nI_inc _) (by decide) rfl ?_
                      refine J_goto E (tgt := 4) dX0_isUnder_30 (by decide) ?_
                      refine J_iload_n E dX0_isUnder_4 rfl 0 rfl ?_
                      refine J_bipush E dX0_isUnder_5 bp_7 ?_
                      refine J_icmp_ge E (tgt := 33) dX0_isUnder_7 (by decide) (fun c_7 => ?_) (fun c_7 => ?_)
                      · skip
                        have n_7 : 7 ≤ 3 := cmp_le (a := 7) (b := 3) (by omega) (by omega) c_7
                        exact absurd n_7 (by decide)
                      · skip
                        have n_7 : ¬ 7 ≤ 3 := cmp_nle (a := 7) (b := 3) (by omega) (by omega) c_7
                        refine J_iload_n E dX0_isUnder_10 rfl 1 rfl ?_
                        refine J_if_lt E (tgt := 33) dX0_isUnder_11 (by decide) (fun c_11 => ?_) (fun c_11 => ?_)
                        · skip
                          refine J_iconst E dX0_isUnder_33 ic_0 ?_
                          exact ret _ _ _ _ ⟨by rw [bI_f]; simp [undF]; omega, rfl⟩ rfl dX0_isUnder_34
                        · skip
                          exact absurd c_11 (by decide)
                    · skip
                      have n_16 : 0 = o := cmp_eq (a := 0) (b := o) (by omega) (by omega) c_16
                      refine J_iconst E dX0_isUnder_19 ic_1 ?_
                      exact ret _ _ _ _ ⟨by rw [bI_t]; simp [undF]; omega, rfl⟩ rfl dX0_isUnder_20
              · skip
                have n_16 : 1 = o := cmp_eq (a := 1) (b := o) (by omega) (by omega) c_16
                refine J_iconst E dX0_isUnder_19 ic_1 ?_
                exact ret _ _ _ _ ⟨by rw [bI_t]; simp [undF]; omega, rfl⟩ rfl dX0_isUnder_20
        · skip
          have n_16 : 6 = o := cmp_eq (a := 6) (b := o) (by omega) (by omega) c_16
          refine J_iconst E dX0_isUnder_19 ic_1 ?_
          exact ret _ _ _ _ ⟨by rw [bI_t]; simp [undF]; omega, rfl⟩ rfl dX0_isUnder_20

set_option maxHeartbeats 4000000 in
set_option maxRecDepth 20000 in
theorem c_X5_as_bad (l : Launch) (G : GB) (a : Nat → Nat) (x : Q3) (s k : Int32) (hb : ¬ ((0 ≤ s ∧ s ≤ 9) ∧ 0 ≤ k ∧ k ≤ 6)) : CI l yX5_as cX5_as 4 .int 2 41 G [.ref (a 0), .int s, .int k] (wC G a x) (fun vR w' => vR = tellR 0 ∧ PubC G a (tellX x 0) w') := by
  refine CI.mk (own := RX5) (by decide) rfl (Nat.le_of_ble_eq_true rfl) ?_
  intro X E ret
  show J X G 4 0 0 (wC G a x) [(0, .ref (a 0)), (1, .int s), (2, .int k)] 0 []
  refine J_iload_n E dX5_as_0 rfl 1 rfl ?_
  refine J_cSiN E (As := [.int s]) (c_X5_isSpot l G s ) cl_X5_193 yo_X5_isSpot dX5_as_1 rfl (Nat.le_of_ble_eq_true rfl) (Nat.le_of_ble_eq_true rfl) rfl (Nat.le_of_ble_eq_true rfl) ⟨Nat.zero_le _, Nat.zero_le _⟩ ?_
  refine J_if_eq E (tgt := 16) dX5_as_4 (by decide) (fun c_4 => ?_) (fun c_4 => ?_)
  · skip
    have c_4 := bI_0 c_4
    refine J_aload_n E dX5_as_16 rfl 0 rfl ?_
    refine J_iconst E dX5_as_17 ic_0 ?_
    refine J_cVi0 E (As := [.int 0]) (c_X5_tell l G a x 0 (by omega)) cl_X5_64 yo_X5_tell dX5_as_18 rfl rfl rfl (Nat.le_of_ble_eq_true rfl) (Nat.le_of_ble_eq_true rfl) rfl (Nat.le_of_ble_eq_true rfl) ⟨Nat.zero_le _, Nat.zero_le _⟩ ?_
    exact ret _ _ _ _ ⟨rfl, _, rfl, by intro g h2 h6; simp [upG, up3, up3R, h2, h6]⟩ rfl dX5_as_21
  · skip
    have c_4 := bI_1 c_4
    refine J_iload_n E dX5_as_7 rfl 2 rfl ?_
    refine J_bipush E dX5_as_8 bp_6 ?_
    refine J_cSiN E (As := [.int k, .int 6]) (c_X5_isUpTo l G k 6 ) cl_X5_56 yo_X5_isUpTo dX5_as_10 rfl (Nat.le_of_ble_eq_true rfl) (Nat.le_of_ble_eq_true rfl) rfl (Nat.le_of_ble_eq_true rfl) ⟨Nat.zero_le _, Nat.zero_le _⟩ ?_
    refine J_if_ne E (tgt := 22) dX5_as_13 (by decide) (fun c_13 => ?_) (fun c_13 => ?_)
    · skip
      have c_13 := bI_1 c_13
      exact absurd ⟨c_4, c_13⟩ hb
    · skip
      have c_13 := bI_0 c_13
      refine J_aload_n E dX5_as_16 rfl 0 rfl ?_
      refine J_iconst E dX5_as_17 ic_0 ?_
      refine J_cVi0 E (As := [.int 0]) (c_X5_tell l G a x 0 (by omega)) cl_X5_64 yo_X5_tell dX5_as_18 rfl rfl rfl (Nat.le_of_ble_eq_true rfl) (Nat.le_of_ble_eq_true rfl) rfl (Nat.le_of_ble_eq_true rfl) ⟨Nat.zero_le _, Nat.zero_le _⟩ ?_
      exact ret _ _ _ _ ⟨rfl, _, rfl, by intro g h2 h6; simp [upG, up3, up3R, h2, h6]⟩ rfl dX5_as_21

set_option maxHeartbeats 4000000 in
set_option maxRecDepth 20000 in
theorem c_X5_as_miss (l : Launch) (G : GB) (a : Nat → Nat) (x : Q3) (s k : Nat) (hs : s < 10) (hk : k < 7) (hv : x 0 6 s = -1) : CI l yX5_as cX5_as 4 .int 2 41 G [.ref (a 0), .int (nI s), .int (nI k)] (wC G a x) (fun vR w' => vR = tellR 5 ∧ PubC G a (tellX x 5) w') := by
  refine CI.mk (own := RX5) (by decide) rfl (Nat.le_of_ble_eq_true rfl) ?_
  intro X E ret
  show J X G 4 0 0 (wC G a x) [(0, .ref (a 0)), (1, .int (nI s)), (2, .int (nI k))] 0 []
  refine J_iload_n E dX5_as_0 rfl 1 rfl ?_
  refine J_cSiN E (As := [.int (nI s)]) (c_X5_isSpot l G (nI s) ) cl_X5_193 yo_X5_isSpot dX5_as_1 rfl (Nat.le_of_ble_eq_true rfl) (Nat.le_of_ble_eq_true rfl) rfl (Nat.le_of_ble_eq_true rfl) ⟨Nat.zero_le _, Nat.zero_le _⟩ ?_
  refine J_if_eq E (tgt := 16) dX5_as_4 (by decide) (fun c_4 => ?_) (fun c_4 => ?_)
  · skip
    have c_4 := bI_0 c_4
    exact absurd (inB (a := s) (b := 9) (by omega) (by decide)) c_4
  · skip
    have c_4 := bI_1 c_4
    refine J_iload_n E dX5_as_7 rfl 2 rfl ?_
    refine J_bipush E dX5_as_8 bp_6 ?_
    refine J_cSiN E (As := [.int (nI k), .int 6]) (c_X5_isUpTo l G (nI k) 6 ) cl_X5_56 yo_X5_isUpTo dX5_as_10 rfl (Nat.le_of_ble_eq_true rfl) (Nat.le_of_ble_eq_true rfl) rfl (Nat.le_of_ble_eq_true rfl) ⟨Nat.zero_le _, Nat.zero_le _⟩ ?_
    refine J_if_ne E (tgt := 22) dX5_as_13 (by decide) (fun c_13 => ?_) (fun c_13 => ?_)
    · skip
      have c_13 := bI_1 c_13
      refine J_aload_n E dX5_as_22 rfl 0 rfl ?_
      refine gC0_X5_10 E dX5_as_23 ?_
      refine gC1_X5_196 E dX5_as_26 ?_
      refine J_iload_n E dX5_as_29 rfl 1 rfl ?_
      refine lC_8 E (j := s) dX5_as_30 (by omega) ?_
      refine J_istore_n E (lv' := [(3, .int (x 0 6 s)), (0, .ref (a 0)), (1, .int (nI s)), (2, .int (nI k))]) dX5_as_31 rfl (by decide) rfl ?_
      refine J_iload_n E dX5_as_32 rfl 0 rfl ?_
      refine J_iconst E dX5_as_33 ic_m1 ?_
      refine J_icmp_ne E (tgt := 43) dX5_as_34 (by decide) (fun c_34 => ?_) (fun c_34 => ?_)
      · skip
        exact absurd hv c_34
      · skip
        refine J_aload_n E dX5_as_37 rfl 1 rfl ?_
        refine J_iconst E dX5_as_38 ic_5 ?_
        refine J_cVi0 E (As := [.int 5]) (c_X5_tell l G a x 5 (by omega)) cl_X5_64 yo_X5_tell dX5_as_39 rfl rfl rfl (Nat.le_of_ble_eq_true rfl) (Nat.le_of_ble_eq_true rfl) rfl (Nat.le_of_ble_eq_true rfl) ⟨Nat.zero_le _, Nat.zero_le _⟩ ?_
        exact ret _ _ _ _ ⟨rfl, _, rfl, by intro g h2 h6; simp [upG, up3, up3R, h2, h6]⟩ rfl dX5_as_42
    · skip
      have c_13 := bI_0 c_13
      exact absurd (inB (a := k) (b := 6) (by omega) (by decide)) c_13

set_option maxHeartbeats 4000000 in
set_option maxRecDepth 20000 in
theorem c_X5_as_no (l : Launch) (G : GB) (a : Nat → Nat) (x : Q3) (s k j kd : Nat) (hs : s < 10) (hk : k < 7) (hj : j < 11) (hkd : kd < 7) (hv : x 0 6 s = nI j) (hw : x 0 0 j = nI kd) (hu : ¬ undF kd k = true) : CI l yX5_as cX5_as 4 .int 2 41 G [.ref (a 0), .int (nI s), .int (nI k)] (wC G a x) (fun vR w' => vR = tellR 2 ∧ PubC G a (tellX x 2) w') := by
  refine CI.mk (own := RX5) (by decide) rfl (Nat.le_of_ble_eq_true rfl) ?_
  intro X E ret
  show J X G 4 0 0 (wC G a x) [(0, .ref (a 0)), (1, .int (nI s)), (2, .int (nI k))] 0 []
  refine J_iload_n E dX5_as_0 rfl 1 rfl ?_
  refine J_cSiN E (As := [.int (nI s)]) (c_X5_isSpot l G (nI s) ) cl_X5_193 yo_X5_isSpot dX5_as_1 rfl (Nat.le_of_ble_eq_true rfl) (Nat.le_of_ble_eq_true rfl) rfl (Nat.le_of_ble_eq_true rfl) ⟨Nat.zero_le _, Nat.zero_le _⟩ ?_
  refine J_if_eq E (tgt := 16) dX5_as_4 (by decide) (fun c_4 => ?_) (fun c_4 => ?_)
  · skip
    have c_4 := bI_0 c_4
    exact absurd (inB (a := s) (b := 9) (by omega) (by decide)) c_4
  · skip
    have c_4 := bI_1 c_4
    refine J_iload_n E dX5_as_7 rfl 2 rfl ?_
    refine J_bipush E dX5_as_8 bp_6 ?_
    refine J_cSiN E (As := [.int (nI k), .int 6]) (c_X5_isUpTo l G (nI k) 6 ) cl_X5_56 yo_X5_isUpTo dX5_as_10 rfl (Nat.le_of_ble_eq_true rfl) (Nat.le_of_ble_eq_true rfl) rfl (Nat.le_of_ble_eq_true rfl) ⟨Nat.zero_le _, Nat.zero_le _⟩ ?_
    refine J_if_ne E (tgt := 22) dX5_as_13 (by decide) (fun c_13 => ?_) (fun c_13 => ?_)
    · skip
      have c_13 := bI_1 c_13
      refine J_aload_n E dX5_as_22 rfl 0 rfl ?_
      refine gC0_X5_10 E dX5_as_23 ?_
      refine gC1_X5_196 E dX5_as_26 ?_
      refine J_iload_n E dX5_as_29 rfl 1 rfl ?_
      refine lC_8 E (j := s) dX5_as_30 (by omega) ?_
      refine J_top (x' := nI j) (hv) ?_
      refine J_istore_n E (lv' := [(3, .int (nI j)), (0, .ref (a 0)), (1, .int (nI s)), (2, .int (nI k))]) dX5_as_31 rfl (by decide) rfl ?_
      refine J_iload_n E dX5_as_32 rfl 0 rfl ?_
      refine J_iconst E dX5_as_33 ic_m1 ?_
      refine J_icmp_ne E (tgt := 43) dX5_as_34 (by decide) (fun c_34 => ?_) (fun c_34 => ?_)
      · skip
        refine J_aload_n E dX5_as_43 rfl 1 rfl ?_
        refine gC0_X5_10 E dX5_as_44 ?_
        refine gC1_X5_77 E dX5_as_47 ?_
        refine J_iload_n E dX5_as_50 rfl 0 rfl ?_
        refine lC_2 E (j := j) dX5_as_51 (by omega) ?_
        refine J_top (x' := nI kd) (hw) ?_
        refine J_iload_n E dX5_as_52 rfl 3 rfl ?_
        refine J_cSiN E (As := [.int (nI kd), .int (nI k)]) (c_X0_isUnder l G kd k (by omega) (by omega)) cl_X5_199 yo_X0_isUnder dX5_as_53 rfl (Nat.le_of_ble_eq_true rfl) (Nat.le_of_ble_eq_true rfl) rfl (Nat.le_of_ble_eq_true rfl) ⟨Nat.zero_le _, Nat.zero_le _⟩ ?_
        refine J_if_ne E (tgt := 65) dX5_as_56 (by decide) (fun c_56 => ?_) (fun c_56 => ?_)
        · skip
          have c_56 := bI_1 c_56
          exact absurd c_56 hu
        · skip
          have c_56 := bI_0 c_56
          refine J_aload_n E dX5_as_59 rfl 1 rfl ?_
          refine J_iconst E dX5_as_60 ic_2 ?_
          refine J_cVi0 E (As := [.int 2]) (c_X5_tell l G a x 2 (by omega)) cl_X5_64 yo_X5_tell dX5_as_61 rfl rfl rfl (Nat.le_of_ble_eq_true rfl) (Nat.le_of_ble_eq_true rfl) rfl (Nat.le_of_ble_eq_true rfl) ⟨Nat.zero_le _, Nat.zero_le _⟩ ?_
          exact ret _ _ _ _ ⟨rfl, _, rfl, by intro g h2 h6; simp [upG, up3, up3R, h2, h6]⟩ rfl dX5_as_64
      · skip
        exact absurd c_34 (m1_ne hj)
    · skip
      have c_13 := bI_0 c_13
      exact absurd (inB (a := k) (b := 6) (by omega) (by decide)) c_13

set_option maxHeartbeats 4000000 in
set_option maxRecDepth 20000 in
theorem c_X5_as_ok (l : Launch) (G : GB) (a : Nat → Nat) (x : Q3) (s k j kd : Nat) (hs : s < 10) (hk : k < 7) (hj : j < 11) (hkd : kd < 7) (hv : x 0 6 s = nI j) (hw : x 0 0 j = nI kd) (hu : undF kd k = true) : CI l yX5_as cX5_as 4 .int 2 41 G [.ref (a 0), .int (nI s), .int (nI k)] (wC G a x) (fun vR w' => vR = nI j ∧ PubC G a x w') := by
  refine CI.mk (own := RX5) (by decide) rfl (Nat.le_of_ble_eq_true rfl) ?_
  intro X E ret
  show J X G 4 0 0 (wC G a x) [(0, .ref (a 0)), (1, .int (nI s)), (2, .int (nI k))] 0 []
  refine J_iload_n E dX5_as_0 rfl 1 rfl ?_
  refine J_cSiN E (As := [.int (nI s)]) (c_X5_isSpot l G (nI s) ) cl_X5_193 yo_X5_isSpot dX5_as_1 rfl (Nat.le_of_ble_eq_true rfl) (Nat.le_of_ble_eq_true rfl) rfl (Nat.le_of_ble_eq_true rfl) ⟨Nat.zero_le _, Nat.zero_le _⟩ ?_
  refine J_if_eq E (tgt := 16) dX5_as_4 (by decide) (fun c_4 => ?_) (fun c_4 => ?_)
  · skip
    have c_4 := bI_0 c_4
    exact absurd (inB (a := s) (b := 9) (by omega) (by decide)) c_4
  · skip
    have c_4 := bI_1 c_4
    refine J_iload_n E dX5_as_7 rfl 2 rfl ?_
    refine J_bipush E dX5_as_8 bp_6 ?_
    refine J_cSiN E (As := [.int (nI k), .int 6]) (c_X5_isUpTo l G (nI k) 6 ) cl_X5_56 yo_X5_isUpTo dX5_as_10 rfl (Nat.le_of_ble_eq_true rfl) (Nat.le_of_ble_eq_true rfl) rfl (Nat.le_of_ble_eq_true rfl) ⟨Nat.zero_le _, Nat.zero_le _⟩ ?_
    refine J_if_ne E (tgt := 22) dX5_as_13 (by decide) (fun c_13 => ?_) (fun c_13 => ?_)
    · skip
      have c_13 := bI_1 c_13
      refine J_aload_n E dX5_as_22 rfl 0 rfl ?_
      refine gC0_X5_10 E dX5_as_23 ?_
      refine gC1_X5_196 E dX5_as_26 ?_
      refine J_iload_n E dX5_as_29 rfl 1 rfl ?_
      refine lC_8 E (j := s) dX5_as_30 (by omega) ?_
      refine J_top (x' := nI j) (hv) ?_
      refine J_istore_n E (lv' := [(3, .int (nI j)), (0, .ref (a 0)), (1, .int (nI s)), (2, .int (nI k))]) dX5_as_31 rfl (by decide) rfl ?_
      refine J_iload_n E dX5_as_32 rfl 0 rfl ?_
      refine J_iconst E dX5_as_33 ic_m1 ?_
      refine J_icmp_ne E (tgt := 43) dX5_as_34 (by decide) (fun c_34 => ?_) (fun c_34 => ?_)
      · skip
        refine J_aload_n E dX5_as_43 rfl 1 rfl ?_
        refine gC0_X5_10 E dX5_as_44 ?_
        refine gC1_X5_77 E dX5_as_47 ?_
        refine J_iload_n E dX5_as_50 rfl 0 rfl ?_
        refine lC_2 E (j := j) dX5_as_51 (by omega) ?_
        refine J_top (x' := nI kd) (hw) ?_
        refine J_iload_n E dX5_as_52 rfl 3 rfl ?_
        refine J_cSiN E (As := [.int (nI kd), .int (nI k)]) (c_X0_isUnder l G kd k (by omega) (by omega)) cl_X5_199 yo_X0_isUnder dX5_as_53 rfl (Nat.le_of_ble_eq_true rfl) (Nat.le_of_ble_eq_true rfl) rfl (Nat.le_of_ble_eq_true rfl) ⟨Nat.zero_le _, Nat.zero_le _⟩ ?_
        refine J_if_ne E (tgt := 65) dX5_as_56 (by decide) (fun c_56 => ?_) (fun c_56 => ?_)
        · skip
          have c_56 := bI_1 c_56
          refine J_iload_n E dX5_as_65 rfl 0 rfl ?_
          exact ret _ _ _ _ ⟨rfl, _, rfl, by intro g h2 h6; simp [upG, up3, up3R, h2, h6]⟩ rfl dX5_as_66
        · skip
          have c_56 := bI_0 c_56
          exact absurd hu c_56
      · skip
        exact absurd c_34 (m1_ne hj)
    · skip
      have c_13 := bI_0 c_13
      exact absurd (inB (a := k) (b := 6) (by omega) (by decide)) c_13

set_option maxHeartbeats 4000000 in
set_option maxRecDepth 20000 in
theorem c_X5_odds_bad (l : Launch) (G : GB) (a : Nat → Nat) (x : Q3) (v n w : Int32) (hb : ¬ ((0 ≤ v ∧ v ≤ 100) ∧ (0 ≤ n ∧ n ≤ 9) ∧ 0 ≤ w ∧ w ≤ 1)) : CL l yX5_odds cX5_odds 11 1 21 G [.ref (a 0), .int v, .int n, .int w] (wC G a x) (fun vR w' => vR = Int32.toInt64 (tellR 0) ∧ PubC G a (tellX x 0) w') := by
  refine CL.mk (own := RX5) (by decide) rfl (Nat.le_of_ble_eq_true rfl) ?_
  intro X E ret
  show J X G 11 0 0 (wC G a x) [(0, .ref (a 0)), (1, .int v), (2, .int n), (3, .int w)] 0 []
  refine J_iload_n E dX5_odds_0 rfl 1 rfl ?_
  refine J_bipush E dX5_odds_1 bp_100 ?_
  refine J_cSiN E (As := [.int v, .int 100]) (c_X5_isUpTo l G v 100 ) cl_X5_56 yo_X5_isUpTo dX5_odds_3 rfl (Nat.le_of_ble_eq_true rfl) (Nat.le_of_ble_eq_true rfl) rfl (Nat.le_of_ble_eq_true rfl) ⟨Nat.zero_le _, Nat.zero_le _⟩ ?_
  refine J_if_eq E (tgt := 26) dX5_odds_6 (by decide) (fun c_6 => ?_) (fun c_6 => ?_)
  · skip
    have c_6 := bI_0 c_6
    refine J_aload_n E dX5_odds_26 rfl 0 rfl ?_
    refine J_iconst E dX5_odds_27 ic_0 ?_
    refine J_cVi0 E (As := [.int 0]) (c_X5_tell l G a x 0 (by omega)) cl_X5_64 yo_X5_tell dX5_odds_28 rfl rfl rfl (Nat.le_of_ble_eq_true rfl) (Nat.le_of_ble_eq_true rfl) rfl (Nat.le_of_ble_eq_true rfl) ⟨Nat.zero_le _, Nat.zero_le _⟩ ?_
    refine J_i2l E dX5_odds_31 rfl ?_
    exact ret _ _ _ _ ⟨rfl, _, rfl, by intro g h2 h6; simp [upG, up3, up3R, h2, h6]⟩ dX5_odds_32
  · skip
    have c_6 := bI_1 c_6
    refine J_iload_n E dX5_odds_9 rfl 2 rfl ?_
    refine J_bipush E dX5_odds_10 bp_9 ?_
    refine J_cSiN E (As := [.int n, .int 9]) (c_X5_isUpTo l G n 9 ) cl_X5_56 yo_X5_isUpTo dX5_odds_12 rfl (Nat.le_of_ble_eq_true rfl) (Nat.le_of_ble_eq_true rfl) rfl (Nat.le_of_ble_eq_true rfl) ⟨Nat.zero_le _, Nat.zero_le _⟩ ?_
    refine J_if_eq E (tgt := 26) dX5_odds_15 (by decide) (fun c_15 => ?_) (fun c_15 => ?_)
    · skip
      have c_15 := bI_0 c_15
      refine J_aload_n E dX5_odds_26 rfl 0 rfl ?_
      refine J_iconst E dX5_odds_27 ic_0 ?_
      refine J_cVi0 E (As := [.int 0]) (c_X5_tell l G a x 0 (by omega)) cl_X5_64 yo_X5_tell dX5_odds_28 rfl rfl rfl (Nat.le_of_ble_eq_true rfl) (Nat.le_of_ble_eq_true rfl) rfl (Nat.le_of_ble_eq_true rfl) ⟨Nat.zero_le _, Nat.zero_le _⟩ ?_
      refine J_i2l E dX5_odds_31 rfl ?_
      exact ret _ _ _ _ ⟨rfl, _, rfl, by intro g h2 h6; simp [upG, up3, up3R, h2, h6]⟩ dX5_odds_32
    · skip
      have c_15 := bI_1 c_15
      refine J_iload_n E dX5_odds_18 rfl 3 rfl ?_
      refine J_iconst E dX5_odds_19 ic_1 ?_
      refine J_cSiN E (As := [.int w, .int 1]) (c_X5_isUpTo l G w 1 ) cl_X5_56 yo_X5_isUpTo dX5_odds_20 rfl (Nat.le_of_ble_eq_true rfl) (Nat.le_of_ble_eq_true rfl) rfl (Nat.le_of_ble_eq_true rfl) ⟨Nat.zero_le _, Nat.zero_le _⟩ ?_
      refine J_if_ne E (tgt := 33) dX5_odds_23 (by decide) (fun c_23 => ?_) (fun c_23 => ?_)
      · skip
        have c_23 := bI_1 c_23
        exact absurd ⟨c_6, c_15, c_23⟩ hb
      · skip
        have c_23 := bI_0 c_23
        refine J_aload_n E dX5_odds_26 rfl 0 rfl ?_
        refine J_iconst E dX5_odds_27 ic_0 ?_
        refine J_cVi0 E (As := [.int 0]) (c_X5_tell l G a x 0 (by omega)) cl_X5_64 yo_X5_tell dX5_odds_28 rfl rfl rfl (Nat.le_of_ble_eq_true rfl) (Nat.le_of_ble_eq_true rfl) rfl (Nat.le_of_ble_eq_true rfl) ⟨Nat.zero_le _, Nat.zero_le _⟩ ?_
        refine J_i2l E dX5_odds_31 rfl ?_
        exact ret _ _ _ _ ⟨rfl, _, rfl, by intro g h2 h6; simp [upG, up3, up3R, h2, h6]⟩ dX5_odds_32

set_option maxHeartbeats 4000000 in
set_option maxRecDepth 20000 in
theorem c_X5_odds_0 (l : Launch) (G : GB) (a : Nat → Nat) (x : Q3) (v ab n : Nat) (hv : v + ab = 100) (hn : n < 10) : CL l yX5_odds cX5_odds 11 1 21 G [.ref (a 0), .int (nI v), .int (nI n), .int (nI 0)] (wC G a x) (fun vR w' => vR = powF (Int32.toInt64 (nI ab / nI (comF ab 100))) n ∧ PubC G a x w') := by
  refine CL.mk (own := RX5) (by decide) rfl (Nat.le_of_ble_eq_true rfl) ?_
  intro X E ret
  show J X G 11 0 0 (wC G a x) [(0, .ref (a 0)), (1, .int (nI v)), (2, .int (nI n)), (3, .int (nI 0))] 0 []
  refine J_iload_n E dX5_odds_0 rfl 1 rfl ?_
  refine J_bipush E dX5_odds_1 bp_100 ?_
  refine J_cSiN E (As := [.int (nI v), .int 100]) (c_X5_isUpTo l G (nI v) 100 ) cl_X5_56 yo_X5_isUpTo dX5_odds_3 rfl (Nat.le_of_ble_eq_true rfl) (Nat.le_of_ble_eq_true rfl) rfl (Nat.le_of_ble_eq_true rfl) ⟨Nat.zero_le _, Nat.zero_le _⟩ ?_
  refine J_if_eq E (tgt := 26) dX5_odds_6 (by decide) (fun c_6 => ?_) (fun c_6 => ?_)
  · skip
    have c_6 := bI_0 c_6
    exact absurd (inB (a := v) (b := 100) (by omega) (by decide)) c_6
  · skip
    have c_6 := bI_1 c_6
    refine J_iload_n E dX5_odds_9 rfl 2 rfl ?_
    refine J_bipush E dX5_odds_10 bp_9 ?_
    refine J_cSiN E (As := [.int (nI n), .int 9]) (c_X5_isUpTo l G (nI n) 9 ) cl_X5_56 yo_X5_isUpTo dX5_odds_12 rfl (Nat.le_of_ble_eq_true rfl) (Nat.le_of_ble_eq_true rfl) rfl (Nat.le_of_ble_eq_true rfl) ⟨Nat.zero_le _, Nat.zero_le _⟩ ?_
    refine J_if_eq E (tgt := 26) dX5_odds_15 (by decide) (fun c_15 => ?_) (fun c_15 => ?_)
    · skip
      have c_15 := bI_0 c_15
      exact absurd (inB (a := n) (b := 9) (by omega) (by decide)) c_15
    · skip
      have c_15 := bI_1 c_15
      refine J_iload_n E dX5_odds_18 rfl 3 rfl ?_
      refine J_iconst E dX5_odds_19 ic_1 ?_
      refine J_cSiN E (As := [.int (nI 0), .int 1]) (c_X5_isUpTo l G (nI 0) 1 ) cl_X5_56 yo_X5_isUpTo dX5_odds_20 rfl (Nat.le_of_ble_eq_true rfl) (Nat.le_of_ble_eq_true rfl) rfl (Nat.le_of_ble_eq_true rfl) ⟨Nat.zero_le _, Nat.zero_le _⟩ ?_
      refine J_if_ne E (tgt := 33) dX5_odds_23 (by decide) (fun c_23 => ?_) (fun c_23 => ?_)
      · skip
        have c_23 := bI_1 c_23
        refine J_bipush E dX5_odds_33 bp_100 ?_
        refine J_iload_n E dX5_odds_35 rfl 1 rfl ?_
        refine J_isub E dX5_odds_36 ?_
        refine J_top (x' := nI ab) (sub100 hv) ?_
        refine J_istore E (lv' := [(4, .int (nI ab)), (0, .ref (a 0)), (1, .int (nI v)), (2, .int (nI n)), (3, .int (nI 0))]) dX5_odds_37 (by decide) rfl ?_
        refine J_bipush E dX5_odds_39 bp_100 ?_
        refine J_istore E (lv' := [(5, .int 100), (4, .int (nI ab)), (0, .ref (a 0)), (1, .int (nI v)), (2, .int (nI n)), (3, .int (nI 0))]) dX5_odds_41 (by decide) rfl ?_
        have lp43 : ∀ (fu : Nat) (c : Nat), (1 ≤ c) → (c ≤ 100) → (comF ab 100 = comF ab c) → c < fu → J X G 11 0 0 (wC G a x) [(0, .ref (a 0)), (1, .int (nI v)), (2, .int (nI n)), (3, .int (nI 0)), (4, .int (nI ab)), (5, .int (nI c))] 43 [] := by
          intro fu
          induction fu with
          | zero => intro c h1 h2 h3 hm; exact absurd hm (Nat.not_lt_zero _)
          | succ fu ih43 =>
            intro c h1 h2 h3 hm
            refine J_iload E dX5_odds_43 5 rfl ?_
            refine J_iconst E dX5_odds_45 ic_1 ?_
            refine J_icmp_le E (tgt := 71) dX5_odds_46 (by decide) (fun c_46 => ?_) (fun c_46 => ?_)
            · skip
              have n_46 : c ≤ 1 := cmp_le (a := c) (b := 1) (by omega) (by omega) c_46
              have hc : comF ab 100 = c := by rw [h3, show c = 1 by omega]; exact comF_1 ab
              refine J_iload_n E dX5_odds_71 rfl 3 rfl ?_
              refine J_if_ne E (tgt := 80) dX5_odds_72 (by decide) (fun c_72 => ?_) (fun c_72 => ?_)
              · skip
                have n_72 : ¬ 0 = 0 := cmp_ne (a := 0) (b := 0) (by omega) (by omega) c_72
                exact absurd n_72 (by decide)
              · skip
                have n_72 : 0 = 0 := cmp_eq (a := 0) (b := 0) (by omega) (by omega) c_72
                refine J_iload E dX5_odds_75 4 rfl ?_
                refine J_goto E (tgt := 82) dX5_odds_77 (by decide) ?_
                refine J_iload E dX5_odds_82 5 rfl ?_
                refine J_idiv E dX5_odds_84 (nIz (by omega) (by omega)) ?_
                refine J_i2l E dX5_odds_85 rfl ?_
                refine J_lstore E (lv' := [(6, .long (Int32.toInt64 ((nI ab) / (nI c)))), (0, .ref (a 0)), (1, .int (nI v)), (2, .int (nI n)), (3, .int (nI 0)), (4, .int (nI ab)), (5, .int (nI c))]) dX5_odds_86 (by decide) rfl ?_
                refine J_lconst E dX5_odds_88 lc_1 ?_
                refine J_lstore E (lv' := [(8, .long 1), (6, .long (Int32.toInt64 ((nI ab) / (nI c)))), (0, .ref (a 0)), (1, .int (nI v)), (2, .int (nI n)), (3, .int (nI 0)), (4, .int (nI ab)), (5, .int (nI c))]) dX5_odds_89 (by decide) rfl ?_
                refine J_iconst E dX5_odds_91 ic_0 ?_
                refine J_istore E (lv' := [(10, .int 0), (8, .long 1), (6, .long (Int32.toInt64 ((nI ab) / (nI c)))), (0, .ref (a 0)), (1, .int (nI v)), (2, .int (nI n)), (3, .int (nI 0)), (4, .int (nI ab)), (5, .int (nI c))]) dX5_odds_92 (by decide) rfl ?_
                have lp94 : ∀ (fu : Nat) (i : Nat) (p : Int64), (i ≤ n) → (p = powF (Int32.toInt64 (nI ab / nI c)) i) → n - i < fu → J X G 11 0 0 (wC G a x) [(0, .ref (a 0)), (1, .int (nI v)), (2, .int (nI n)), (3, .int (nI 0)), (4, .int (nI ab)), (5, .int (nI c)), (6, .long (Int32.toInt64 ((nI ab) / (nI c)))), (8, .long p), (10, .int (nI i))] 94 [] := by
                  intro fu
                  induction fu with
                  | zero => intro i p hi hp hm; exact absurd hm (Nat.not_lt_zero _)
                  | succ fu ih94 =>
                    intro i p hi hp hm
                    refine J_iload E dX5_odds_94 8 rfl ?_
                    refine J_iload_n E dX5_odds_96 rfl 2 rfl ?_
                    refine J_icmp_ge E (tgt := 113) dX5_odds_97 (by decide) (fun c_97 => ?_) (fun c_97 => ?_)
                    · skip
                      have n_97 : n ≤ i := cmp_le (a := n) (b := i) (by omega) (by omega) c_97
                      refine J_lload E dX5_odds_113 7 rfl ?_
                      exact ret _ _ _ _ ⟨by rw [hp, hc, show i = n by omega], _, rfl, by intro g h2 h6; simp [upG, up3, up3R, h2, h6]⟩ dX5_odds_115
                    · skip
                      have n_97 : ¬ n ≤ i := cmp_nle (a := n) (b := i) (by omega) (by omega) c_97
                      refine J_lload E dX5_odds_100 7 rfl ?_
                      refine J_lload E dX5_odds_102 6 rfl ?_
                      refine J_lmul E dX5_odds_104 ?_
                      refine J_lstore E (lv' := [(8, .long (p * (Int32.toInt64 ((nI ab) / (nI c))))), (0, .ref (a 0)), (1, .int (nI v)), (2, .int (nI n)), (3, .int (nI 0)), (4, .int (nI ab)), (5, .int (nI c)), (6, .long (Int32.toInt64 ((nI ab) / (nI c)))), (10, .int (nI i))]) dX5_odds_105 (by decide) rfl ?_
                      refine J_iinc E (lv' := [(10, .int (nI (i + 1))), (8, .long (p * (Int32.toInt64 ((nI ab) / (nI c))))), (0, .ref (a 0)), (1, .int (nI v)), (2, .int (nI n)), (3, .int (nI 0)), (4, .int (nI ab)), (5, .int (nI c)), (6, .long (Int32.toInt64 ((nI ab) / (nI c))))]) dX5_odds_107 8 rfl (nI_inc _) (by decide) rfl ?_
                      refine J_goto E (tgt := 94) dX5_odds_110 (by decide) ?_
                      refine J_lv [2, 3, 4, 5, 6, 7, 8, 1, 0] rfl ?_
                      exact ih94 (i + 1) (p * (Int32.toInt64 ((nI ab) / (nI c)))) (by omega) (by rw [hp]; rfl) (by omega)
                refine J_lv [3, 4, 5, 6, 7, 8, 2, 1, 0] rfl ?_
                exact lp94 _ 0 1 (by omega) rfl (Nat.lt_succ_self _)
            · skip
              have n_46 : ¬ c ≤ 1 := cmp_nle (a := c) (b := 1) (by omega) (by omega) c_46
              refine J_iload E dX5_odds_49 4 rfl ?_
              refine J_iload E dX5_odds_51 5 rfl ?_
              refine J_irem E dX5_odds_53 (nIz (by omega) (by omega)) ?_
              have hm54 : ab % c < c := Nat.mod_lt _ (by omega)
              refine J_top (x' := nI (ab % c)) (pk_rem (by omega) (by omega) (by omega)) ?_
              refine J_if_ne E (tgt := 65) dX5_odds_54 (by decide) (fun c_54 => ?_) (fun c_54 => ?_)
              · skip
                have n_54 : ¬ (ab % c) = 0 := cmp_ne (a := (ab % c)) (b := 0) (by omega) (by omega) c_54
                obtain ⟨y, rfl⟩ : ∃ y, c = y + 1 := ⟨c - 1, by omega⟩
                refine J_iinc E (lv' := [(5, .int (nI y)), (0, .ref (a 0)), (1, .int (nI v)), (2, .int (nI n)), (3, .int (nI 0)), (4, .int (nI ab))]) dX5_odds_65 5 rfl (nI_dec _) (by decide) rfl ?_
                refine J_goto E (tgt := 43) dX5_odds_68 (by decide) ?_
                refine J_lv [1, 2, 3, 4, 5, 0] rfl ?_
                exact ih43 y (by omega) (by omega) (by rw [h3, comF_n (by omega) (by omega)]) (by omega)
              · skip
                have n_54 : (ab % c) = 0 := cmp_eq (a := (ab % c)) (b := 0) (by omega) (by omega) c_54
                refine J_bipush E dX5_odds_57 bp_100 ?_
                refine J_iload E dX5_odds_59 5 rfl ?_
                refine J_irem E dX5_odds_61 (nIz (by omega) (by omega)) ?_
                have hm62 : 100 % c < c := Nat.mod_lt _ (by omega)
                refine J_top (x' := nI (100 % c)) (rem100 (by omega) (by omega)) ?_
                refine J_if_eq E (tgt := 71) dX5_odds_62 (by decide) (fun c_62 => ?_) (fun c_62 => ?_)
                · skip
                  have n_62 : (100 % c) = 0 := cmp_eq (a := (100 % c)) (b := 0) (by omega) (by omega) c_62
                  have hc : comF ab 100 = c := by rw [h3, show c = (c - 1) + 1 by omega]; exact comF_y (by omega) (by rw [show c - 1 + 1 = c by omega]; omega) (by rw [show c - 1 + 1 = c by omega]; omega)
                  refine J_iload_n E dX5_odds_71 rfl 3 rfl ?_
                  refine J_if_ne E (tgt := 80) dX5_odds_72 (by decide) (fun c_72 => ?_) (fun c_72 => ?_)
                  · skip
                    have n_72 : ¬ 0 = 0 := cmp_ne (a := 0) (b := 0) (by omega) (by omega) c_72
                    exact absurd n_72 (by decide)
                  · skip
                    have n_72 : 0 = 0 := cmp_eq (a := 0) (b := 0) (by omega) (by omega) c_72
                    refine J_iload E dX5_odds_75 4 rfl ?_
                    refine J_goto E (tgt := 82) dX5_odds_77 (by decide) ?_
                    refine J_iload E dX5_odds_82 5 rfl ?_
                    refine J_idiv E dX5_odds_84 (nIz (by omega) (by omega)) ?_
                    refine J_i2l E dX5_odds_85 rfl ?_
                    refine J_lstore E (lv' := [(6, .long (Int32.toInt64 ((nI ab) / (nI c)))), (0, .ref (a 0)), (1, .int (nI v)), (2, .int (nI n)), (3, .int (nI 0)), (4, .int (nI ab)), (5, .int (nI c))]) dX5_odds_86 (by decide) rfl ?_
                    refine J_lconst E dX5_odds_88 lc_1 ?_
                    refine J_lstore E (lv' := [(8, .long 1), (6, .long (Int32.toInt64 ((nI ab) / (nI c)))), (0, .ref (a 0)), (1, .int (nI v)), (2, .int (nI n)), (3, .int (nI 0)), (4, .int (nI ab)), (5, .int (nI c))]) dX5_odds_89 (by decide) rfl ?_
                    refine J_iconst E dX5_odds_91 ic_0 ?_
                    refine J_istore E (lv' := [(10, .int 0), (8, .long 1), (6, .long (Int32.toInt64 ((nI ab) / (nI c)))), (0, .ref (a 0)), (1, .int (nI v)), (2, .int (nI n)), (3, .int (nI 0)), (4, .int (nI ab)), (5, .int (nI c))]) dX5_odds_92 (by decide) rfl ?_
                    have lp94 : ∀ (fu : Nat) (i : Nat) (p : Int64), (i ≤ n) → (p = powF (Int32.toInt64 (nI ab / nI c)) i) → n - i < fu → J X G 11 0 0 (wC G a x) [(0, .ref (a 0)), (1, .int (nI v)), (2, .int (nI n)), (3, .int (nI 0)), (4, .int (nI ab)), (5, .int (nI c)), (6, .long (Int32.toInt64 ((nI ab) / (nI c)))), (8, .long p), (10, .int (nI i))] 94 [] := by
                      intro fu
                      induction fu with
                      | zero => intro i p hi hp hm; exact absurd hm (Nat.not_lt_zero _)
                      | succ fu ih94 =>
                        intro i p hi hp hm
                        refine J_iload E dX5_odds_94 8 rfl ?_
                        refine J_iload_n E dX5_odds_96 rfl 2 rfl ?_
                        refine J_icmp_ge E (tgt := 113) dX5_odds_97 (by decide) (fun c_97 => ?_) (fun c_97 => ?_)
                        · skip
                          have n_97 : n ≤ i := cmp_le (a := n) (b := i) (by omega) (by omega) c_97
                          refine J_lload E dX5_odds_113 7 rfl ?_
                          exact ret _ _ _ _ ⟨by rw [hp, hc, show i = n by omega], _, rfl, by intro g h2 h6; simp [upG, up3, up3R, h2, h6]⟩ dX5_odds_115
                        · skip
                          have n_97 : ¬ n ≤ i := cmp_nle (a := n) (b := i) (by omega) (by omega) c_97
                          refine J_lload E dX5_odds_100 7 rfl ?_
                          refine J_lload E dX5_odds_102 6 rfl ?_
                          refine J_lmul E dX5_odds_104 ?_
                          refine J_lstore E (lv' := [(8, .long (p * (Int32.toInt64 ((nI ab) / (nI c))))), (0, .ref (a 0)), (1, .int (nI v)), (2, .int (nI n)), (3, .int (nI 0)), (4, .int (nI ab)), (5, .int (nI c)), (6, .long (Int32.toInt64 ((nI ab) / (nI c)))), (10, .int (nI i))]) dX5_odds_105 (by decide) rfl ?_
                          refine J_iinc E (lv' := [(10, .int (nI (i + 1))), (8, .long (p * (Int32.toInt64 ((nI ab) / (nI c))))), (0, .ref (a 0)), (1, .int (nI v)), (2, .int (nI n)), (3, .int (nI 0)), (4, .int (nI ab)), (5, .int (nI c)), (6, .long (Int32.toInt64 ((nI ab) / (nI c))))]) dX5_odds_107 8 rfl (nI_inc _) (by decide) rfl ?_
                          refine J_goto E (tgt := 94) dX5_odds_110 (by decide) ?_
                          refine J_lv [2, 3, 4, 5, 6, 7, 8, 1, 0] rfl ?_
                          exact ih94 (i + 1) (p * (Int32.toInt64 ((nI ab) / (nI c)))) (by omega) (by rw [hp]; rfl) (by omega)
                    refine J_lv [3, 4, 5, 6, 7, 8, 2, 1, 0] rfl ?_
                    exact lp94 _ 0 1 (by omega) rfl (Nat.lt_succ_self _)
                · skip
                  have n_62 : ¬ (100 % c) = 0 := cmp_ne (a := (100 % c)) (b := 0) (by omega) (by omega) c_62
                  obtain ⟨y, rfl⟩ : ∃ y, c = y + 1 := ⟨c - 1, by omega⟩
                  refine J_iinc E (lv' := [(5, .int (nI y)), (0, .ref (a 0)), (1, .int (nI v)), (2, .int (nI n)), (3, .int (nI 0)), (4, .int (nI ab))]) dX5_odds_65 5 rfl (nI_dec _) (by decide) rfl ?_
                  refine J_goto E (tgt := 43) dX5_odds_68 (by decide) ?_
                  refine J_lv [1, 2, 3, 4, 5, 0] rfl ?_
                  exact ih43 y (by omega) (by omega) (by rw [h3, comF_n (by omega) (by omega)]) (by omega)
        refine J_lv [2, 3, 4, 5, 1, 0] rfl ?_
        exact lp43 _ 100 (by decide) (by decide) rfl (Nat.lt_succ_self _)
      · skip
        have c_23 := bI_0 c_23
        exact absurd (inB (a := 0) (b := 1) (by omega) (by decide)) c_23

set_option maxHeartbeats 4000000 in
set_option maxRecDepth 20000 in
theorem c_X5_odds_1 (l : Launch) (G : GB) (a : Nat → Nat) (x : Q3) (v ab n : Nat) (hv : v + ab = 100) (hn : n < 10) : CL l yX5_odds cX5_odds 11 1 21 G [.ref (a 0), .int (nI v), .int (nI n), .int (nI 1)] (wC G a x) (fun vR w' => vR = powF (Int32.toInt64 ((100 : Int32) / nI (comF ab 100))) n ∧ PubC G a x w') := by
  refine CL.mk (own := RX5) (by decide) rfl (Nat.le_of_ble_eq_true rfl) ?_
  intro X E ret
  show J X G 11 0 0 (wC G a x) [(0, .ref (a 0)), (1, .int (nI v)), (2, .int (nI n)), (3, .int (nI 1))] 0 []
  refine J_iload_n E dX5_odds_0 rfl 1 rfl ?_
  refine J_bipush E dX5_odds_1 bp_100 ?_
  refine J_cSiN E (As := [.int (nI v), .int 100]) (c_X5_isUpTo l G (nI v) 100 ) cl_X5_56 yo_X5_isUpTo dX5_odds_3 rfl (Nat.le_of_ble_eq_true rfl) (Nat.le_of_ble_eq_true rfl) rfl (Nat.le_of_ble_eq_true rfl) ⟨Nat.zero_le _, Nat.zero_le _⟩ ?_
  refine J_if_eq E (tgt := 26) dX5_odds_6 (by decide) (fun c_6 => ?_) (fun c_6 => ?_)
  · skip
    have c_6 := bI_0 c_6
    exact absurd (inB (a := v) (b := 100) (by omega) (by decide)) c_6
  · skip
    have c_6 := bI_1 c_6
    refine J_iload_n E dX5_odds_9 rfl 2 rfl ?_
    refine J_bipush E dX5_odds_10 bp_9 ?_
    refine J_cSiN E (As := [.int (nI n), .int 9]) (c_X5_isUpTo l G (nI n) 9 ) cl_X5_56 yo_X5_isUpTo dX5_odds_12 rfl (Nat.le_of_ble_eq_true rfl) (Nat.le_of_ble_eq_true rfl) rfl (Nat.le_of_ble_eq_true rfl) ⟨Nat.zero_le _, Nat.zero_le _⟩ ?_
    refine J_if_eq E (tgt := 26) dX5_odds_15 (by decide) (fun c_15 => ?_) (fun c_15 => ?_)
    · skip
      have c_15 := bI_0 c_15
      exact absurd (inB (a := n) (b := 9) (by omega) (by decide)) c_15
    · skip
      have c_15 := bI_1 c_15
      refine J_iload_n E dX5_odds_18 rfl 3 rfl ?_
      refine J_iconst E dX5_odds_19 ic_1 ?_
      refine J_cSiN E (As := [.int (nI 1), .int 1]) (c_X5_isUpTo l G (nI 1) 1 ) cl_X5_56 yo_X5_isUpTo dX5_odds_20 rfl (Nat.le_of_ble_eq_true rfl) (Nat.le_of_ble_eq_true rfl) rfl (Nat.le_of_ble_eq_true rfl) ⟨Nat.zero_le _, Nat.zero_le _⟩ ?_
      refine J_if_ne E (tgt := 33) dX5_odds_23 (by decide) (fun c_23 => ?_) (fun c_23 => ?_)
      · skip
        have c_23 := bI_1 c_23
        refine J_bipush E dX5_odds_33 bp_100 ?_
        refine J_iload_n E dX5_odds_35 rfl 1 rfl ?_
        refine J_isub E dX5_odds_36 ?_
        refine J_top (x' := nI ab) (sub100 hv) ?_
        refine J_istore E (lv' := [(4, .int (nI ab)), (0, .ref (a 0)), (1, .int (nI v)), (2, .int (nI n)), (3, .int (nI 1))]) dX5_odds_37 (by decide) rfl ?_
        refine J_bipush E dX5_odds_39 bp_100 ?_
        refine J_istore E (lv' := [(5, .int 100), (4, .int (nI ab)), (0, .ref (a 0)), (1, .int (nI v)), (2, .int (nI n)), (3, .int (nI 1))]) dX5_odds_41 (by decide) rfl ?_
        have lp43 : ∀ (fu : Nat) (c : Nat), (1 ≤ c) → (c ≤ 100) → (comF ab 100 = comF ab c) → c < fu → J X G 11 0 0 (wC G a x) [(0, .ref (a 0)), (1, .int (nI v)), (2, .int (nI n)), (3, .int (nI 1)), (4, .int (nI ab)), (5, .int (nI c))] 43 [] := by
          intro fu
          induction fu with
          | zero => intro c h1 h2 h3 hm; exact absurd hm (Nat.not_lt_zero _)
          | succ fu ih43 =>
            intro c h1 h2 h3 hm
            refine J_iload E dX5_odds_43 5 rfl ?_
            refine J_iconst E dX5_odds_45 ic_1 ?_
            refine J_icmp_le E (tgt := 71) dX5_odds_46 (by decide) (fun c_46 => ?_) (fun c_46 => ?_)
            · skip
              have n_46 : c ≤ 1 := cmp_le (a := c) (b := 1) (by omega) (by omega) c_46
              have hc : comF ab 100 = c := by rw [h3, show c = 1 by omega]; exact comF_1 ab
              refine J_iload_n E dX5_odds_71 rfl 3 rfl ?_
              refine J_if_ne E (tgt := 80) dX5_odds_72 (by decide) (fun c_72 => ?_) (fun c_72 => ?_)
              · skip
                have n_72 : ¬ 1 = 0 := cmp_ne (a := 1) (b := 0) (by omega) (by omega) c_72
                refine J_bipush E dX5_odds_80 bp_100 ?_
                refine J_iload E dX5_odds_82 5 rfl ?_
                refine J_idiv E dX5_odds_84 (nIz (by omega) (by omega)) ?_
                refine J_i2l E dX5_odds_85 rfl ?_
                refine J_lstore E (lv' := [(6, .long (Int32.toInt64 (100 / (nI c)))), (0, .ref (a 0)), (1, .int (nI v)), (2, .int (nI n)), (3, .int (nI 1)), (4, .int (nI ab)), (5, .int (nI c))]) dX5_odds_86 (by decide) rfl ?_
                refine J_lconst E dX5_odds_88 lc_1 ?_
                refine J_lstore E (lv' := [(8, .long 1), (6, .long (Int32.toInt64 (100 / (nI c)))), (0, .ref (a 0)), (1, .int (nI v)), (2, .int (nI n)), (3, .int (nI 1)), (4, .int (nI ab)), (5, .int (nI c))]) dX5_odds_89 (by decide) rfl ?_
                refine J_iconst E dX5_odds_91 ic_0 ?_
                refine J_istore E (lv' := [(10, .int 0), (8, .long 1), (6, .long (Int32.toInt64 (100 / (nI c)))), (0, .ref (a 0)), (1, .int (nI v)), (2, .int (nI n)), (3, .int (nI 1)), (4, .int (nI ab)), (5, .int (nI c))]) dX5_odds_92 (by decide) rfl ?_
                have lp94 : ∀ (fu : Nat) (i : Nat) (p : Int64), (i ≤ n) → (p = powF (Int32.toInt64 (100 / nI c)) i) → n - i < fu → J X G 11 0 0 (wC G a x) [(0, .ref (a 0)), (1, .int (nI v)), (2, .int (nI n)), (3, .int (nI 1)), (4, .int (nI ab)), (5, .int (nI c)), (6, .long (Int32.toInt64 (100 / (nI c)))), (8, .long p), (10, .int (nI i))] 94 [] := by
                  intro fu
                  induction fu with
                  | zero => intro i p hi hp hm; exact absurd hm (Nat.not_lt_zero _)
                  | succ fu ih94 =>
                    intro i p hi hp hm
                    refine J_iload E dX5_odds_94 8 rfl ?_
                    refine J_iload_n E dX5_odds_96 rfl 2 rfl ?_
                    refine J_icmp_ge E (tgt := 113) dX5_odds_97 (by decide) (fun c_97 => ?_) (fun c_97 => ?_)
                    · skip
                      have n_97 : n ≤ i := cmp_le (a := n) (b := i) (by omega) (by omega) c_97
                      refine J_lload E dX5_odds_113 7 rfl ?_
                      exact ret _ _ _ _ ⟨by rw [hp, hc, show i = n by omega], _, rfl, by intro g h2 h6; simp [upG, up3, up3R, h2, h6]⟩ dX5_odds_115
                    · skip
                      have n_97 : ¬ n ≤ i := cmp_nle (a := n) (b := i) (by omega) (by omega) c_97
                      refine J_lload E dX5_odds_100 7 rfl ?_
                      refine J_lload E dX5_odds_102 6 rfl ?_
                      refine J_lmul E dX5_odds_104 ?_
                      refine J_lstore E (lv' := [(8, .long (p * (Int32.toInt64 (100 / (nI c))))), (0, .ref (a 0)), (1, .int (nI v)), (2, .int (nI n)), (3, .int (nI 1)), (4, .int (nI ab)), (5, .int (nI c)), (6, .long (Int32.toInt64 (100 / (nI c)))), (10, .int (nI i))]) dX5_odds_105 (by decide) rfl ?_
                      refine J_iinc E (lv' := [(10, .int (nI (i + 1))), (8, .long (p * (Int32.toInt64 (100 / (nI c))))), (0, .ref (a 0)), (1, .int (nI v)), (2, .int (nI n)), (3, .int (nI 1)), (4, .int (nI ab)), (5, .int (nI c)), (6, .long (Int32.toInt64 (100 / (nI c))))]) dX5_odds_107 8 rfl (nI_inc _) (by decide) rfl ?_
                      refine J_goto E (tgt := 94) dX5_odds_110 (by decide) ?_
                      refine J_lv [2, 3, 4, 5, 6, 7, 8, 1, 0] rfl ?_
                      exact ih94 (i + 1) (p * (Int32.toInt64 (100 / (nI c)))) (by omega) (by rw [hp]; rfl) (by omega)
                refine J_lv [3, 4, 5, 6, 7, 8, 2, 1, 0] rfl ?_
                exact lp94 _ 0 1 (by omega) rfl (Nat.lt_succ_self _)
              · skip
                have n_72 : 1 = 0 := cmp_eq (a := 1) (b := 0) (by omega) (by omega) c_72
                exact absurd n_72 (by decide)
            · skip
              have n_46 : ¬ c ≤ 1 := cmp_nle (a := c) (b := 1) (by omega) (by omega) c_46
              refine J_iload E dX5_odds_49 4 rfl ?_
              refine J_iload E dX5_odds_51 5 rfl ?_
              refine J_irem E dX5_odds_53 (nIz (by omega) (by omega)) ?_
              have hm54 : ab % c < c := Nat.mod_lt _ (by omega)
              refine J_top (x' := nI (ab % c)) (pk_rem (by omega) (by omega) (by omega)) ?_
              refine J_if_ne E (tgt := 65) dX5_odds_54 (by decide) (fun c_54 => ?_) (fun c_54 => ?_)
              · skip
                have n_54 : ¬ (ab % c) = 0 := cmp_ne (a := (ab % c)) (b := 0) (by omega) (by omega) c_54
                obtain ⟨y, rfl⟩ : ∃ y, c = y + 1 := ⟨c - 1, by omega⟩
                refine J_iinc E (lv' := [(5, .int (nI y)), (0, .ref (a 0)), (1, .int (nI v)), (2, .int (nI n)), (3, .int (nI 1)), (4, .int (nI ab))]) dX5_odds_65 5 rfl (nI_dec _) (by decide) rfl ?_
                refine J_goto E (tgt := 43) dX5_odds_68 (by decide) ?_
                refine J_lv [1, 2, 3, 4, 5, 0] rfl ?_
                exact ih43 y (by omega) (by omega) (by rw [h3, comF_n (by omega) (by omega)]) (by omega)
              · skip
                have n_54 : (ab % c) = 0 := cmp_eq (a := (ab % c)) (b := 0) (by omega) (by omega) c_54
                refine J_bipush E dX5_odds_57 bp_100 ?_
                refine J_iload E dX5_odds_59 5 rfl ?_
                refine J_irem E dX5_odds_61 (nIz (by omega) (by omega)) ?_
                have hm62 : 100 % c < c := Nat.mod_lt _ (by omega)
                refine J_top (x' := nI (100 % c)) (rem100 (by omega) (by omega)) ?_
                refine J_if_eq E (tgt := 71) dX5_odds_62 (by decide) (fun c_62 => ?_) (fun c_62 => ?_)
                · skip
                  have n_62 : (100 % c) = 0 := cmp_eq (a := (100 % c)) (b := 0) (by omega) (by omega) c_62
                  have hc : comF ab 100 = c := by rw [h3, show c = (c - 1) + 1 by omega]; exact comF_y (by omega) (by rw [show c - 1 + 1 = c by omega]; omega) (by rw [show c - 1 + 1 = c by omega]; omega)
                  refine J_iload_n E dX5_odds_71 rfl 3 rfl ?_
                  refine J_if_ne E (tgt := 80) dX5_odds_72 (by decide) (fun c_72 => ?_) (fun c_72 => ?_)
                  · skip
                    have n_72 : ¬ 1 = 0 := cmp_ne (a := 1) (b := 0) (by omega) (by omega) c_72
                    refine J_bipush E dX5_odds_80 bp_100 ?_
                    refine J_iload E dX5_odds_82 5 rfl ?_
                    refine J_idiv E dX5_odds_84 (nIz (by omega) (by omega)) ?_
                    refine J_i2l E dX5_odds_85 rfl ?_
                    refine J_lstore E (lv' := [(6, .long (Int32.toInt64 (100 / (nI c)))), (0, .ref (a 0)), (1, .int (nI v)), (2, .int (nI n)), (3, .int (nI 1)), (4, .int (nI ab)), (5, .int (nI c))]) dX5_odds_86 (by decide) rfl ?_
                    refine J_lconst E dX5_odds_88 lc_1 ?_
                    refine J_lstore E (lv' := [(8, .long 1), (6, .long (Int32.toInt64 (100 / (nI c)))), (0, .ref (a 0)), (1, .int (nI v)), (2, .int (nI n)), (3, .int (nI 1)), (4, .int (nI ab)), (5, .int (nI c))]) dX5_odds_89 (by decide) rfl ?_
                    refine J_iconst E dX5_odds_91 ic_0 ?_
                    refine J_istore E (lv' := [(10, .int 0), (8, .long 1), (6, .long (Int32.toInt64 (100 / (nI c)))), (0, .ref (a 0)), (1, .int (nI v)), (2, .int (nI n)), (3, .int (nI 1)), (4, .int (nI ab)), (5, .int (nI c))]) dX5_odds_92 (by decide) rfl ?_
                    have lp94 : ∀ (fu : Nat) (i : Nat) (p : Int64), (i ≤ n) → (p = powF (Int32.toInt64 (100 / nI c)) i) → n - i < fu → J X G 11 0 0 (wC G a x) [(0, .ref (a 0)), (1, .int (nI v)), (2, .int (nI n)), (3, .int (nI 1)), (4, .int (nI ab)), (5, .int (nI c)), (6, .long (Int32.toInt64 (100 / (nI c)))), (8, .long p), (10, .int (nI i))] 94 [] := by
                      intro fu
                      induction fu with
                      | zero => intro i p hi hp hm; exact absurd hm (Nat.not_lt_zero _)
                      | succ fu ih94 =>
                        intro i p hi hp hm
                        refine J_iload E dX5_odds_94 8 rfl ?_
                        refine J_iload_n E dX5_odds_96 rfl 2 rfl ?_
                        refine J_icmp_ge E (tgt := 113) dX5_odds_97 (by decide) (fun c_97 => ?_) (fun c_97 => ?_)
                        · skip
                          have n_97 : n ≤ i := cmp_le (a := n) (b := i) (by omega) (by omega) c_97
                          refine J_lload E dX5_odds_113 7 rfl ?_
                          exact ret _ _ _ _ ⟨by rw [hp, hc, show i = n by omega], _, rfl, by intro g h2 h6; simp [upG, up3, up3R, h2, h6]⟩ dX5_odds_115
                        · skip
                          have n_97 : ¬ n ≤ i := cmp_nle (a := n) (b := i) (by omega) (by omega) c_97
                          refine J_lload E dX5_odds_100 7 rfl ?_
                          refine J_lload E dX5_odds_102 6 rfl ?_
                          refine J_lmul E dX5_odds_104 ?_
                          refine J_lstore E (lv' := [(8, .long (p * (Int32.toInt64 (100 / (nI c))))), (0, .ref (a 0)), (1, .int (nI v)), (2, .int (nI n)), (3, .int (nI 1)), (4, .int (nI ab)), (5, .int (nI c)), (6, .long (Int32.toInt64 (100 / (nI c)))), (10, .int (nI i))]) dX5_odds_105 (by decide) rfl ?_
                          refine J_iinc E (lv' := [(10, .int (nI (i + 1))), (8, .long (p * (Int32.toInt64 (100 / (nI c))))), (0, .ref (a 0)), (1, .int (nI v)), (2, .int (nI n)), (3, .int (nI 1)), (4, .int (nI ab)), (5, .int (nI c)), (6, .long (Int32.toInt64 (100 / (nI c))))]) dX5_odds_107 8 rfl (nI_inc _) (by decide) rfl ?_
                          refine J_goto E (tgt := 94) dX5_odds_110 (by decide) ?_
                          refine J_lv [2, 3, 4, 5, 6, 7, 8, 1, 0] rfl ?_
                          exact ih94 (i + 1) (p * (Int32.toInt64 (100 / (nI c)))) (by omega) (by rw [hp]; rfl) (by omega)
                    refine J_lv [3, 4, 5, 6, 7, 8, 2, 1, 0] rfl ?_
                    exact lp94 _ 0 1 (by omega) rfl (Nat.lt_succ_self _)
                  · skip
                    have n_72 : 1 = 0 := cmp_eq (a := 1) (b := 0) (by omega) (by omega) c_72
                    exact absurd n_72 (by decide)
                · skip
                  have n_62 : ¬ (100 % c) = 0 := cmp_ne (a := (100 % c)) (b := 0) (by omega) (by omega) c_62
                  obtain ⟨y, rfl⟩ : ∃ y, c = y + 1 := ⟨c - 1, by omega⟩
                  refine J_iinc E (lv' := [(5, .int (nI y)), (0, .ref (a 0)), (1, .int (nI v)), (2, .int (nI n)), (3, .int (nI 1)), (4, .int (nI ab))]) dX5_odds_65 5 rfl (nI_dec _) (by decide) rfl ?_
                  refine J_goto E (tgt := 43) dX5_odds_68 (by decide) ?_
                  refine J_lv [1, 2, 3, 4, 5, 0] rfl ?_
                  exact ih43 y (by omega) (by omega) (by rw [h3, comF_n (by omega) (by omega)]) (by omega)
        refine J_lv [2, 3, 4, 5, 1, 0] rfl ?_
        exact lp43 _ 100 (by decide) (by decide) rfl (Nat.lt_succ_self _)
      · skip
        have c_23 := bI_0 c_23
        exact absurd (inB (a := 1) (b := 1) (by omega) (by decide)) c_23

set_option maxHeartbeats 4000000 in
set_option maxRecDepth 20000 in
theorem c_X5_feed_bad (l : Launch) (G : GB) (a : Nat → Nat) (x : Q3) (b n : Int32) (hb : ¬ (1 ≤ n ∧ n ≤ 4)) : CI l yX5_feed cX5_feed 4 .int 1 21 G [.ref (a 0), .int b, .int n] (wC G a x) (fun vR w' => vR = tellR 0 ∧ PubC G a (tellX x 0) w') := by
  refine CI.mk (own := RX5) (by decide) rfl (Nat.le_of_ble_eq_true rfl) ?_
  intro X E ret
  show J X G 4 0 0 (wC G a x) [(0, .ref (a 0)), (1, .int b), (2, .int n)] 0 []
  refine J_iload_n E dX5_feed_0 rfl 2 rfl ?_
  refine J_iconst E dX5_feed_1 ic_1 ?_
  refine J_icmp_lt E (tgt := 10) dX5_feed_2 (by decide) (fun c_2 => ?_) (fun c_2 => ?_)
  · skip
    refine J_aload_n E dX5_feed_10 rfl 0 rfl ?_
    refine J_iconst E dX5_feed_11 ic_0 ?_
    refine J_cVi0 E (As := [.int 0]) (c_X5_tell l G a x 0 (by omega)) cl_X5_64 yo_X5_tell dX5_feed_12 rfl rfl rfl (Nat.le_of_ble_eq_true rfl) (Nat.le_of_ble_eq_true rfl) rfl (Nat.le_of_ble_eq_true rfl) ⟨Nat.zero_le _, Nat.zero_le _⟩ ?_
    exact ret _ _ _ _ ⟨rfl, _, rfl, by intro g h2 h6; simp [upG, up3, up3R, h2, h6]⟩ rfl dX5_feed_15
  · skip
    refine J_iload_n E dX5_feed_5 rfl 2 rfl ?_
    refine J_iconst E dX5_feed_6 ic_4 ?_
    refine J_icmp_le E (tgt := 16) dX5_feed_7 (by decide) (fun c_7 => ?_) (fun c_7 => ?_)
    · skip
      exact absurd ⟨Int32.not_lt.mp c_2, c_7⟩ hb
    · skip
      refine J_aload_n E dX5_feed_10 rfl 0 rfl ?_
      refine J_iconst E dX5_feed_11 ic_0 ?_
      refine J_cVi0 E (As := [.int 0]) (c_X5_tell l G a x 0 (by omega)) cl_X5_64 yo_X5_tell dX5_feed_12 rfl rfl rfl (Nat.le_of_ble_eq_true rfl) (Nat.le_of_ble_eq_true rfl) rfl (Nat.le_of_ble_eq_true rfl) ⟨Nat.zero_le _, Nat.zero_le _⟩ ?_
      exact ret _ _ _ _ ⟨rfl, _, rfl, by intro g h2 h6; simp [upG, up3, up3R, h2, h6]⟩ rfl dX5_feed_15

set_option maxHeartbeats 4000000 in
set_option maxRecDepth 20000 in
theorem c_X5_feed_full (l : Launch) (G : GB) (a : Nat → Nat) (x : Q3) (b : Int32) (n k : Nat) (h1 : 1 ≤ n) (h2 : n ≤ 4) (hk : x 7 1 0 = nI k) (hk2 : k ≤ 120) (hf : 120 < k + n) : CI l yX5_feed cX5_feed 4 .int 1 21 G [.ref (a 0), .int b, .int (nI n)] (wC G a x) (fun vR w' => vR = tellR 1 ∧ PubC G a (tellX x 1) w') := by
  refine CI.mk (own := RX5) (by decide) rfl (Nat.le_of_ble_eq_true rfl) ?_
  intro X E ret
  show J X G 4 0 0 (wC G a x) [(0, .ref (a 0)), (1, .int b), (2, .int (nI n))] 0 []
  refine J_iload_n E dX5_feed_0 rfl 2 rfl ?_
  refine J_iconst E dX5_feed_1 ic_1 ?_
  refine J_icmp_lt E (tgt := 10) dX5_feed_2 (by decide) (fun c_2 => ?_) (fun c_2 => ?_)
  · skip
    have n_2 : n < 1 := cmp_lt (a := n) (b := 1) (by omega) (by omega) c_2
    exact absurd n_2 (by omega)
  · skip
    have n_2 : ¬ n < 1 := cmp_nlt (a := n) (b := 1) (by omega) (by omega) c_2
    refine J_iload_n E dX5_feed_5 rfl 2 rfl ?_
    refine J_iconst E dX5_feed_6 ic_4 ?_
    refine J_icmp_le E (tgt := 16) dX5_feed_7 (by decide) (fun c_7 => ?_) (fun c_7 => ?_)
    · skip
      have n_7 : n ≤ 4 := cmp_le (a := n) (b := 4) (by omega) (by omega) c_7
      refine J_aload_n E dX5_feed_16 rfl 0 rfl ?_
      refine gC0_X5_29 E dX5_feed_17 ?_
      refine gC27_X5_183 E dX5_feed_20 ?_
      refine J_top (x' := nI k) (hk) ?_
      refine J_iload_n E dX5_feed_23 rfl 2 rfl ?_
      refine J_iadd E dX5_feed_24 ?_
      refine J_top (x' := nI (k + n)) (nI_add _ _) ?_
      refine J_bipush E dX5_feed_25 bp_120 ?_
      refine J_icmp_le E (tgt := 36) dX5_feed_27 (by decide) (fun c_27 => ?_) (fun c_27 => ?_)
      · skip
        have n_27 : (k + n) ≤ 120 := cmp_le (a := (k + n)) (b := 120) (by omega) (by omega) c_27
        exact absurd n_27 (by omega)
      · skip
        have n_27 : ¬ (k + n) ≤ 120 := cmp_nle (a := (k + n)) (b := 120) (by omega) (by omega) c_27
        refine J_aload_n E dX5_feed_30 rfl 0 rfl ?_
        refine J_iconst E dX5_feed_31 ic_1 ?_
        refine J_cVi0 E (As := [.int 1]) (c_X5_tell l G a x 1 (by omega)) cl_X5_64 yo_X5_tell dX5_feed_32 rfl rfl rfl (Nat.le_of_ble_eq_true rfl) (Nat.le_of_ble_eq_true rfl) rfl (Nat.le_of_ble_eq_true rfl) ⟨Nat.zero_le _, Nat.zero_le _⟩ ?_
        exact ret _ _ _ _ ⟨rfl, _, rfl, by intro g h2 h6; simp [upG, up3, up3R, h2, h6]⟩ rfl dX5_feed_35
    · skip
      have n_7 : ¬ n ≤ 4 := cmp_nle (a := n) (b := 4) (by omega) (by omega) c_7
      exact absurd h2 n_7

set_option maxHeartbeats 4000000 in
set_option maxRecDepth 20000 in
theorem c_X5_feed_ok (l : Launch) (G : GB) (a : Nat → Nat) (x : Q3) (b : Int32) (n k : Nat) (h1 : 1 ≤ n) (h2 : n ≤ 4) (hk : x 7 1 0 = nI k) (hk2 : k ≤ 120) (hf : k + n ≤ 120) : CI l yX5_feed cX5_feed 4 .int 1 21 G [.ref (a 0), .int b, .int (nI n)] (wC G a x) (fun vR w' => vR = feedT (x 7) b n 1 0 ∧ PubC G a (upG x 7 (feedT (x 7) b n)) w') := by
  refine CI.mk (own := RX5) (by decide) rfl (Nat.le_of_ble_eq_true rfl) ?_
  intro X E ret
  show J X G 4 0 0 (wC G a x) [(0, .ref (a 0)), (1, .int b), (2, .int (nI n))] 0 []
  refine J_iload_n E dX5_feed_0 rfl 2 rfl ?_
  refine J_iconst E dX5_feed_1 ic_1 ?_
  refine J_icmp_lt E (tgt := 10) dX5_feed_2 (by decide) (fun c_2 => ?_) (fun c_2 => ?_)
  · skip
    have n_2 : n < 1 := cmp_lt (a := n) (b := 1) (by omega) (by omega) c_2
    exact absurd n_2 (by omega)
  · skip
    have n_2 : ¬ n < 1 := cmp_nlt (a := n) (b := 1) (by omega) (by omega) c_2
    refine J_iload_n E dX5_feed_5 rfl 2 rfl ?_
    refine J_iconst E dX5_feed_6 ic_4 ?_
    refine J_icmp_le E (tgt := 16) dX5_feed_7 (by decide) (fun c_7 => ?_) (fun c_7 => ?_)
    · skip
      have n_7 : n ≤ 4 := cmp_le (a := n) (b := 4) (by omega) (by omega) c_7
      refine J_aload_n E dX5_feed_16 rfl 0 rfl ?_
      refine gC0_X5_29 E dX5_feed_17 ?_
      refine gC27_X5_183 E dX5_feed_20 ?_
      refine J_top (x' := nI k) (hk) ?_
      refine J_iload_n E dX5_feed_23 rfl 2 rfl ?_
      refine J_iadd E dX5_feed_24 ?_
      refine J_top (x' := nI (k + n)) (nI_add _ _) ?_
      refine J_bipush E dX5_feed_25 bp_120 ?_
      refine J_icmp_le E (tgt := 36) dX5_feed_27 (by decide) (fun c_27 => ?_) (fun c_27 => ?_)
      · skip
        have n_27 : (k + n) ≤ 120 := cmp_le (a := (k + n)) (b := 120) (by omega) (by omega) c_27
        refine J_iload_n E dX5_feed_36 rfl 2 rfl ?_
        refine J_iconst E dX5_feed_37 ic_1 ?_
        refine J_isub E dX5_feed_38 ?_
        refine J_top (x' := nI n + (-1)) (sub1m) ?_
        refine J_istore_n E (lv' := [(3, .int (nI n + (-1))), (0, .ref (a 0)), (1, .int b), (2, .int (nI n))]) dX5_feed_39 rfl (by decide) rfl ?_
        refine J_w (ws' := wC G a (upG x 7 (x 7))) (congrArg (wC G a) upG_id.symm) ?_
        have lp40 : ∀ (fu : Nat) (i : Nat) (xh : Int32) (r : Q2), (xh = nI i + (-1)) → (i ≤ n) → (feedT (x 7) b n = feedT r b i) → (r 1 0 = nI (k + (n - i))) → i < fu → J X G 4 0 0 (wC G a (upG x 7 r)) [(0, .ref (a 0)), (1, .int b), (2, .int (nI n)), (3, .int xh)] 40 [] := by
          intro fu
          induction fu with
          | zero => intro i xh r hxh hi h3 h4 hm; exact absurd hm (Nat.not_lt_zero _)
          | succ fu ih40 =>
            intro i xh r hxh hi h3 h4 hm
            refine J_iload_n E dX5_feed_40 rfl 3 rfl ?_
            refine J_if_lt E (tgt := 67) dX5_feed_41 (by decide) (fun c_41 => ?_) (fun c_41 => ?_)
            · skip
              have hi0 := dec_neg hxh (by omega) c_41
              refine J_aload_n E dX5_feed_67 rfl 0 rfl ?_
              refine gC0_X5_29 E dX5_feed_68 ?_
              refine gC27_X5_183 E dX5_feed_71 ?_
              refine J_top (x' := r 1 0) upG_s ?_
              exact ret _ _ _ _ ⟨by rw [h3, hi0]; rfl, _, rfl, by rw [h3, hi0]; exact ShC.rfl'⟩ rfl dX5_feed_74
            · skip
              obtain ⟨y, rfl, rfl⟩ := dec_pos hxh (by omega) c_41
              refine J_aload_n E dX5_feed_44 rfl 0 rfl ?_
              refine gC0_X5_29 E dX5_feed_45 ?_
              refine J_iload_n E dX5_feed_48 rfl 1 rfl ?_
              refine J_bipush E dX5_feed_49 bp_8 ?_
              refine J_iload_n E dX5_feed_51 rfl 3 rfl ?_
              refine J_imul E dX5_feed_52 ?_
              refine J_top (x' := nI (8 * y)) (mul8 y) ?_
              refine J_ishr E dX5_feed_53 ?_
              refine J_sipush E dX5_feed_54 sp_255 ?_
              refine J_iand E dX5_feed_57 ?_
              refine J_sv7 E (As := [.int ((b >>> ((nI (8 * y)) &&& 31)) &&& 255)]) (c_X3_add l G (sh a 27) r _ ((b >>> ((nI (8 * y)) &&& 31)) &&& 255) h4 (by omega)) cl_X5_186 yo_X3_add dX5_feed_58 rfl (Nat.le_of_ble_eq_true rfl) (Nat.le_of_ble_eq_true rfl) rfl (Nat.le_of_ble_eq_true rfl) ⟨Nat.zero_le _, Nat.zero_le _⟩ ?_
              refine J_iinc E (lv' := [(3, .int ((nI y) + (-1))), (0, .ref (a 0)), (1, .int b), (2, .int (nI n))]) dX5_feed_61 3 rfl (i_dec _) (by decide) rfl ?_
              refine J_goto E (tgt := 40) dX5_feed_64 (by decide) ?_
              refine J_lv [1, 2, 3, 0] rfl ?_
              exact ih40 y ((nI y) + (-1)) (addT r ((b >>> ((nI (8 * y)) &&& 31)) &&& 255)) rfl (by omega) (by rw [h3]; rfl) (by rw [addT_sz h4, show k + (n - (y + 1)) + 1 = k + (n - y) by omega]) (by omega)
        refine J_lv [1, 2, 3, 0] rfl ?_
        exact lp40 _ n (nI n + (-1)) (x 7) rfl (by omega) rfl (by rw [Nat.sub_self]; exact hk) (Nat.lt_succ_self _)
      · skip
        have n_27 : ¬ (k + n) ≤ 120 := cmp_nle (a := (k + n)) (b := 120) (by omega) (by omega) c_27
        exact absurd hf n_27
    · skip
      have n_7 : ¬ n ≤ 4 := cmp_nle (a := n) (b := 4) (by omega) (by omega) c_7
      exact absurd h2 n_7

set_option maxHeartbeats 4000000 in
set_option maxRecDepth 20000 in
theorem c_X5_sheet_bad (l : Launch) (G : GB) (a : Nat → Nat) (x : Q3) (s b n : Int32) (hb : ¬ ((0 ≤ s ∧ s ≤ 3) ∧ (b = 0 ∨ b = 8 ∨ b = 16 ∨ b = 32))) : CI l yX5_sheet cX5_sheet 4 .int 2 41 G [.ref (a 0), .int s, .int b, .int n] (wC G a x) (fun vR w' => vR = tellR 0 ∧ PubC G a (tellX x 0) w') := by
  refine CI.mk (own := RX5) (by decide) rfl (Nat.le_of_ble_eq_true rfl) ?_
  intro X E ret
  show J X G 4 0 0 (wC G a x) [(0, .ref (a 0)), (1, .int s), (2, .int b), (3, .int n)] 0 []
  refine J_iload_n E dX5_sheet_0 rfl 1 rfl ?_
  refine J_cSiN E (As := [.int s]) (c_X5_isSheet l G s ) cl_X5_202 yo_X5_isSheet dX5_sheet_1 rfl (Nat.le_of_ble_eq_true rfl) (Nat.le_of_ble_eq_true rfl) rfl (Nat.le_of_ble_eq_true rfl) ⟨Nat.zero_le _, Nat.zero_le _⟩ ?_
  refine J_if_eq E (tgt := 29) dX5_sheet_4 (by decide) (fun c_4 => ?_) (fun c_4 => ?_)
  · skip
    have c_4 := bI_0 c_4
    refine J_aload_n E dX5_sheet_29 rfl 0 rfl ?_
    refine J_iconst E dX5_sheet_30 ic_0 ?_
    refine J_cVi0 E (As := [.int 0]) (c_X5_tell l G a x 0 (by omega)) cl_X5_64 yo_X5_tell dX5_sheet_31 rfl rfl rfl (Nat.le_of_ble_eq_true rfl) (Nat.le_of_ble_eq_true rfl) rfl (Nat.le_of_ble_eq_true rfl) ⟨Nat.zero_le _, Nat.zero_le _⟩ ?_
    exact ret _ _ _ _ ⟨rfl, _, rfl, by intro g h2 h6; simp [upG, up3, up3R, h2, h6]⟩ rfl dX5_sheet_34
  · skip
    have c_4 := bI_1 c_4
    refine J_iload_n E dX5_sheet_7 rfl 2 rfl ?_
    refine J_if_eq E (tgt := 35) dX5_sheet_8 (by decide) (fun c_8 => ?_) (fun c_8 => ?_)
    · skip
      have hw : (b = 0 ∨ b = 8 ∨ b = 16 ∨ b = 32) := Or.inl c_8
      exact absurd ⟨c_4, hw⟩ hb
    · skip
      refine J_iload_n E dX5_sheet_11 rfl 2 rfl ?_
      refine J_bipush E dX5_sheet_12 bp_8 ?_
      refine J_icmp_eq E (tgt := 35) dX5_sheet_14 (by decide) (fun c_14 => ?_) (fun c_14 => ?_)
      · skip
        have hw : (b = 0 ∨ b = 8 ∨ b = 16 ∨ b = 32) := Or.inr (Or.inl c_14)
        exact absurd ⟨c_4, hw⟩ hb
      · skip
        refine J_iload_n E dX5_sheet_17 rfl 2 rfl ?_
        refine J_bipush E dX5_sheet_18 bp_16 ?_
        refine J_icmp_eq E (tgt := 35) dX5_sheet_20 (by decide) (fun c_20 => ?_) (fun c_20 => ?_)
        · skip
          have hw : (b = 0 ∨ b = 8 ∨ b = 16 ∨ b = 32) := Or.inr (Or.inr (Or.inl c_20))
          exact absurd ⟨c_4, hw⟩ hb
        · skip
          refine J_iload_n E dX5_sheet_23 rfl 2 rfl ?_
          refine J_bipush E dX5_sheet_24 bp_32 ?_
          refine J_icmp_eq E (tgt := 35) dX5_sheet_26 (by decide) (fun c_26 => ?_) (fun c_26 => ?_)
          · skip
            have hw : (b = 0 ∨ b = 8 ∨ b = 16 ∨ b = 32) := Or.inr (Or.inr (Or.inr c_26))
            exact absurd ⟨c_4, hw⟩ hb
          · skip
            refine J_aload_n E dX5_sheet_29 rfl 0 rfl ?_
            refine J_iconst E dX5_sheet_30 ic_0 ?_
            refine J_cVi0 E (As := [.int 0]) (c_X5_tell l G a x 0 (by omega)) cl_X5_64 yo_X5_tell dX5_sheet_31 rfl rfl rfl (Nat.le_of_ble_eq_true rfl) (Nat.le_of_ble_eq_true rfl) rfl (Nat.le_of_ble_eq_true rfl) ⟨Nat.zero_le _, Nat.zero_le _⟩ ?_
            exact ret _ _ _ _ ⟨rfl, _, rfl, by intro g h2 h6; simp [upG, up3, up3R, h2, h6]⟩ rfl dX5_sheet_34

set_option maxHeartbeats 4000000 in
set_option maxRecDepth 20000 in
theorem c_X5_sheet_size (l : Launch) (G : GB) (a : Nat → Nat) (x : Q3) (s b n : Int32) (hs : 0 ≤ s ∧ s ≤ 3) (hbt : (b = 0 ∨ b = 8 ∨ b = 16 ∨ b = 32)) (hn : n < 0) : CI l yX5_sheet cX5_sheet 4 .int 2 41 G [.ref (a 0), .int s, .int b, .int n] (wC G a x) (fun vR w' => vR = tellR 6 ∧ PubC G a (tellX x 6) w') := by
  refine CI.mk (own := RX5) (by decide) rfl (Nat.le_of_ble_eq_true rfl) ?_
  intro X E ret
  show J X G 4 0 0 (wC G a x) [(0, .ref (a 0)), (1, .int s), (2, .int b), (3, .int n)] 0 []
  refine J_iload_n E dX5_sheet_0 rfl 1 rfl ?_
  refine J_cSiN E (As := [.int s]) (c_X5_isSheet l G s ) cl_X5_202 yo_X5_isSheet dX5_sheet_1 rfl (Nat.le_of_ble_eq_true rfl) (Nat.le_of_ble_eq_true rfl) rfl (Nat.le_of_ble_eq_true rfl) ⟨Nat.zero_le _, Nat.zero_le _⟩ ?_
  refine J_if_eq E (tgt := 29) dX5_sheet_4 (by decide) (fun c_4 => ?_) (fun c_4 => ?_)
  · skip
    have c_4 := bI_0 c_4
    exact absurd hs c_4
  · skip
    have c_4 := bI_1 c_4
    refine J_iload_n E dX5_sheet_7 rfl 2 rfl ?_
    refine J_if_eq E (tgt := 35) dX5_sheet_8 (by decide) (fun c_8 => ?_) (fun c_8 => ?_)
    · skip
      refine J_iload_n E dX5_sheet_35 rfl 3 rfl ?_
      refine J_if_ge E (tgt := 46) dX5_sheet_36 (by decide) (fun c_36 => ?_) (fun c_36 => ?_)
      · skip
        exact absurd hn (Int32.not_lt.mpr c_36)
      · skip
        refine J_aload_n E dX5_sheet_39 rfl 0 rfl ?_
        refine J_bipush E dX5_sheet_40 bp_6 ?_
        refine J_cVi0 E (As := [.int 6]) (c_X5_tell l G a x 6 (by omega)) cl_X5_64 yo_X5_tell dX5_sheet_42 rfl rfl rfl (Nat.le_of_ble_eq_true rfl) (Nat.le_of_ble_eq_true rfl) rfl (Nat.le_of_ble_eq_true rfl) ⟨Nat.zero_le _, Nat.zero_le _⟩ ?_
        exact ret _ _ _ _ ⟨rfl, _, rfl, by intro g h2 h6; simp [upG, up3, up3R, h2, h6]⟩ rfl dX5_sheet_45
    · skip
      refine J_iload_n E dX5_sheet_11 rfl 2 rfl ?_
      refine J_bipush E dX5_sheet_12 bp_8 ?_
      refine J_icmp_eq E (tgt := 35) dX5_sheet_14 (by decide) (fun c_14 => ?_) (fun c_14 => ?_)
      · skip
        refine J_iload_n E dX5_sheet_35 rfl 3 rfl ?_
        refine J_if_ge E (tgt := 46) dX5_sheet_36 (by decide) (fun c_36 => ?_) (fun c_36 => ?_)
        · skip
          exact absurd hn (Int32.not_lt.mpr c_36)
        · skip
          refine J_aload_n E dX5_sheet_39 rfl 0 rfl ?_
          refine J_bipush E dX5_sheet_40 bp_6 ?_
          refine J_cVi0 E (As := [.int 6]) (c_X5_tell l G a x 6 (by omega)) cl_X5_64 yo_X5_tell dX5_sheet_42 rfl rfl rfl (Nat.le_of_ble_eq_true rfl) (Nat.le_of_ble_eq_true rfl) rfl (Nat.le_of_ble_eq_true rfl) ⟨Nat.zero_le _, Nat.zero_le _⟩ ?_
          exact ret _ _ _ _ ⟨rfl, _, rfl, by intro g h2 h6; simp [upG, up3, up3R, h2, h6]⟩ rfl dX5_sheet_45
      · skip
        refine J_iload_n E dX5_sheet_17 rfl 2 rfl ?_
        refine J_bipush E dX5_sheet_18 bp_16 ?_
        refine J_icmp_eq E (tgt := 35) dX5_sheet_20 (by decide) (fun c_20 => ?_) (fun c_20 => ?_)
        · skip
          refine J_iload_n E dX5_sheet_35 rfl 3 rfl ?_
          refine J_if_ge E (tgt := 46) dX5_sheet_36 (by decide) (fun c_36 => ?_) (fun c_36 => ?_)
          · skip
            exact absurd hn (Int32.not_lt.mpr c_36)
          · skip
            refine J_aload_n E dX5_sheet_39 rfl 0 rfl ?_
            refine J_bipush E dX5_sheet_40 bp_6 ?_
            refine J_cVi0 E (As := [.int 6]) (c_X5_tell l G a x 6 (by omega)) cl_X5_64 yo_X5_tell dX5_sheet_42 rfl rfl rfl (Nat.le_of_ble_eq_true rfl) (Nat.le_of_ble_eq_true rfl) rfl (Nat.le_of_ble_eq_true rfl) ⟨Nat.zero_le _, Nat.zero_le _⟩ ?_
            exact ret _ _ _ _ ⟨rfl, _, rfl, by intro g h2 h6; simp [upG, up3, up3R, h2, h6]⟩ rfl dX5_sheet_45
        · skip
          refine J_iload_n E dX5_sheet_23 rfl 2 rfl ?_
          refine J_bipush E dX5_sheet_24 bp_32 ?_
          refine J_icmp_eq E (tgt := 35) dX5_sheet_26 (by decide) (fun c_26 => ?_) (fun c_26 => ?_)
          · skip
            refine J_iload_n E dX5_sheet_35 rfl 3 rfl ?_
            refine J_if_ge E (tgt := 46) dX5_sheet_36 (by decide) (fun c_36 => ?_) (fun c_36 => ?_)
            · skip
              exact absurd hn (Int32.not_lt.mpr c_36)
            · skip
              refine J_aload_n E dX5_sheet_39 rfl 0 rfl ?_
              refine J_bipush E dX5_sheet_40 bp_6 ?_
              refine J_cVi0 E (As := [.int 6]) (c_X5_tell l G a x 6 (by omega)) cl_X5_64 yo_X5_tell dX5_sheet_42 rfl rfl rfl (Nat.le_of_ble_eq_true rfl) (Nat.le_of_ble_eq_true rfl) rfl (Nat.le_of_ble_eq_true rfl) ⟨Nat.zero_le _, Nat.zero_le _⟩ ?_
              exact ret _ _ _ _ ⟨rfl, _, rfl, by intro g h2 h6; simp [upG, up3, up3R, h2, h6]⟩ rfl dX5_sheet_45
          · skip
            exact absurd hbt (fun z => z.elim c_8 (fun z => z.elim c_14 (fun z => z.elim c_20 c_26)))

set_option maxHeartbeats 4000000 in
set_option maxRecDepth 20000 in
theorem c_X5_sheet_big (l : Launch) (G : GB) (a : Nat → Nat) (x : Q3) (s b n : Int32) (hs : 0 ≤ s ∧ s ≤ 3) (hbt : (b = 0 ∨ b = 8 ∨ b = 16 ∨ b = 32)) (hn : ¬ n < 0) (hn2 : ¬ n ≤ 40) : CI l yX5_sheet cX5_sheet 4 .int 2 41 G [.ref (a 0), .int s, .int b, .int n] (wC G a x) (fun vR w' => vR = tellR 0 ∧ PubC G a (tellX x 0) w') := by
  refine CI.mk (own := RX5) (by decide) rfl (Nat.le_of_ble_eq_true rfl) ?_
  intro X E ret
  show J X G 4 0 0 (wC G a x) [(0, .ref (a 0)), (1, .int s), (2, .int b), (3, .int n)] 0 []
  refine J_iload_n E dX5_sheet_0 rfl 1 rfl ?_
  refine J_cSiN E (As := [.int s]) (c_X5_isSheet l G s ) cl_X5_202 yo_X5_isSheet dX5_sheet_1 rfl (Nat.le_of_ble_eq_true rfl) (Nat.le_of_ble_eq_true rfl) rfl (Nat.le_of_ble_eq_true rfl) ⟨Nat.zero_le _, Nat.zero_le _⟩ ?_
  refine J_if_eq E (tgt := 29) dX5_sheet_4 (by decide) (fun c_4 => ?_) (fun c_4 => ?_)
  · skip
    have c_4 := bI_0 c_4
    exact absurd hs c_4
  · skip
    have c_4 := bI_1 c_4
    refine J_iload_n E dX5_sheet_7 rfl 2 rfl ?_
    refine J_if_eq E (tgt := 35) dX5_sheet_8 (by decide) (fun c_8 => ?_) (fun c_8 => ?_)
    · skip
      refine J_iload_n E dX5_sheet_35 rfl 3 rfl ?_
      refine J_if_ge E (tgt := 46) dX5_sheet_36 (by decide) (fun c_36 => ?_) (fun c_36 => ?_)
      · skip
        refine J_iload_n E dX5_sheet_46 rfl 3 rfl ?_
        refine J_bipush E dX5_sheet_47 bp_40 ?_
        refine J_icmp_le E (tgt := 58) dX5_sheet_49 (by decide) (fun c_49 => ?_) (fun c_49 => ?_)
        · skip
          exact absurd c_49 hn2
        · skip
          refine J_aload_n E dX5_sheet_52 rfl 0 rfl ?_
          refine J_iconst E dX5_sheet_53 ic_0 ?_
          refine J_cVi0 E (As := [.int 0]) (c_X5_tell l G a x 0 (by omega)) cl_X5_64 yo_X5_tell dX5_sheet_54 rfl rfl rfl (Nat.le_of_ble_eq_true rfl) (Nat.le_of_ble_eq_true rfl) rfl (Nat.le_of_ble_eq_true rfl) ⟨Nat.zero_le _, Nat.zero_le _⟩ ?_
          exact ret _ _ _ _ ⟨rfl, _, rfl, by intro g h2 h6; simp [upG, up3, up3R, h2, h6]⟩ rfl dX5_sheet_57
      · skip
        exact absurd (Int32.not_le.mp c_36) hn
    · skip
      refine J_iload_n E dX5_sheet_11 rfl 2 rfl ?_
      refine J_bipush E dX5_sheet_12 bp_8 ?_
      refine J_icmp_eq E (tgt := 35) dX5_sheet_14 (by decide) (fun c_14 => ?_) (fun c_14 => ?_)
      · skip
        refine J_iload_n E dX5_sheet_35 rfl 3 rfl ?_
        refine J_if_ge E (tgt := 46) dX5_sheet_36 (by decide) (fun c_36 => ?_) (fun c_36 => ?_)
        · skip
          refine J_iload_n E dX5_sheet_46 rfl 3 rfl ?_
          refine J_bipush E dX5_sheet_47 bp_40 ?_
          refine J_icmp_le E (tgt := 58) dX5_sheet_49 (by decide) (fun c_49 => ?_) (fun c_49 => ?_)
          · skip
            exact absurd c_49 hn2
          · skip
            refine J_aload_n E dX5_sheet_52 rfl 0 rfl ?_
            refine J_iconst E dX5_sheet_53 ic_0 ?_
            refine J_cVi0 E (As := [.int 0]) (c_X5_tell l G a x 0 (by omega)) cl_X5_64 yo_X5_tell dX5_sheet_54 rfl rfl rfl (Nat.le_of_ble_eq_true rfl) (Nat.le_of_ble_eq_true rfl) rfl (Nat.le_of_ble_eq_true rfl) ⟨Nat.zero_le _, Nat.zero_le _⟩ ?_
            exact ret _ _ _ _ ⟨rfl, _, rfl, by intro g h2 h6; simp [upG, up3, up3R, h2, h6]⟩ rfl dX5_sheet_57
        · skip
          exact absurd (Int32.not_le.mp c_36) hn
      · skip
        refine J_iload_n E dX5_sheet_17 rfl 2 rfl ?_
        refine J_bipush E dX5_sheet_18 bp_16 ?_
        refine J_icmp_eq E (tgt := 35) dX5_sheet_20 (by decide) (fun c_20 => ?_) (fun c_20 => ?_)
        · skip
          refine J_iload_n E dX5_sheet_35 rfl 3 rfl ?_
          refine J_if_ge E (tgt := 46) dX5_sheet_36 (by decide) (fun c_36 => ?_) (fun c_36 => ?_)
          · skip
            refine J_iload_n E dX5_sheet_46 rfl 3 rfl ?_
            refine J_bipush E dX5_sheet_47 bp_40 ?_
            refine J_icmp_le E (tgt := 58) dX5_sheet_49 (by decide) (fun c_49 => ?_) (fun c_49 => ?_)
            · skip
              exact absurd c_49 hn2
            · skip
              refine J_aload_n E dX5_sheet_52 rfl 0 rfl ?_
              refine J_iconst E dX5_sheet_53 ic_0 ?_
              refine J_cVi0 E (As := [.int 0]) (c_X5_tell l G a x 0 (by omega)) cl_X5_64 yo_X5_tell dX5_sheet_54 rfl rfl rfl (Nat.le_of_ble_eq_true rfl) (Nat.le_of_ble_eq_true rfl) rfl (Nat.le_of_ble_eq_true rfl) ⟨Nat.zero_le _, Nat.zero_le _⟩ ?_
              exact ret _ _ _ _ ⟨rfl, _, rfl, by intro g h2 h6; simp [upG, up3, up3R, h2, h6]⟩ rfl dX5_sheet_57
          · skip
            exact absurd (Int32.not_le.mp c_36) hn
        · skip
          refine J_iload_n E dX5_sheet_23 rfl 2 rfl ?_
          refine J_bipush E dX5_sheet_24 bp_32 ?_
          refine J_icmp_eq E (tgt := 35) dX5_sheet_26 (by decide) (fun c_26 => ?_) (fun c_26 => ?_)
          · skip
            refine J_iload_n E dX5_sheet_35 rfl 3 rfl ?_
            refine J_if_ge E (tgt := 46) dX5_sheet_36 (by decide) (fun c_36 => ?_) (fun c_36 => ?_)
            · skip
              refine J_iload_n E dX5_sheet_46 rfl 3 rfl ?_
              refine J_bipush E dX5_sheet_47 bp_40 ?_
              refine J_icmp_le E (tgt := 58) dX5_sheet_49 (by decide) (fun c_49 => ?_) (fun c_49 => ?_)
              · skip
                exact absurd c_49 hn2
              · skip
                refine J_aload_n E dX5_sheet_52 rfl 0 rfl ?_
                refine J_iconst E dX5_sheet_53 ic_0 ?_
                refine J_cVi0 E (As := [.int 0]) (c_X5_tell l G a x 0 (by omega)) cl_X5_64 yo_X5_tell dX5_sheet_54 rfl rfl rfl (Nat.le_of_ble_eq_true rfl) (Nat.le_of_ble_eq_true rfl) rfl (Nat.le_of_ble_eq_true rfl) ⟨Nat.zero_le _, Nat.zero_le _⟩ ?_
                exact ret _ _ _ _ ⟨rfl, _, rfl, by intro g h2 h6; simp [upG, up3, up3R, h2, h6]⟩ rfl dX5_sheet_57
            · skip
              exact absurd (Int32.not_le.mp c_36) hn
          · skip
            exact absurd hbt (fun z => z.elim c_8 (fun z => z.elim c_14 (fun z => z.elim c_20 c_26)))

set_option maxHeartbeats 4000000 in
set_option maxRecDepth 20000 in
theorem c_X5_sheet_ok_0 (l : Launch) (G : GB) (a : Nat → Nat) (x : Q3) (b n : Int32) (hbt : (b = 0 ∨ b = 8 ∨ b = 16 ∨ b = 32)) (hn : ¬ n < 0) (hn2 : n ≤ 40) : CI l yX5_sheet cX5_sheet 4 .int 2 45 G [.ref (a 0), .int (nI 0), .int b, .int n] (wC G a x) (fun vR w' => vR = (if b = 0 then 0 else n) ∧ PubC G a (upG x 8 (beginS (x 8) b (if b = 0 then 0 else n))) w') := by
  refine CI.mk (own := RX5) (by decide) rfl (Nat.le_of_ble_eq_true rfl) ?_
  intro X E ret
  show J X G 4 0 0 (wC G a x) [(0, .ref (a 0)), (1, .int (nI 0)), (2, .int b), (3, .int n)] 0 []
  rcases hbt with rfl | rfl | rfl | rfl
  · skip
    refine J_iload_n E dX5_sheet_0 rfl 1 rfl ?_
    refine J_cSiN E (As := [.int (nI 0)]) (c_X5_isSheet l G (nI 0) ) cl_X5_202 yo_X5_isSheet dX5_sheet_1 rfl (Nat.le_of_ble_eq_true rfl) (Nat.le_of_ble_eq_true rfl) rfl (Nat.le_of_ble_eq_true rfl) ⟨Nat.zero_le _, Nat.zero_le _⟩ ?_
    refine J_if_eq E (tgt := 29) dX5_sheet_4 (by decide) (fun c_4 => ?_) (fun c_4 => ?_)
    · skip
      have c_4 := bI_0 c_4
      exact absurd (in3 (by decide)) c_4
    · skip
      have c_4 := bI_1 c_4
      refine J_iload_n E dX5_sheet_7 rfl 2 rfl ?_
      refine J_if_eq E (tgt := 35) dX5_sheet_8 (by decide) (fun c_8 => ?_) (fun c_8 => ?_)
      · skip
        have n_8 : 0 = 0 := cmp_eq (a := 0) (b := 0) (by omega) (by omega) c_8
        refine J_iload_n E dX5_sheet_35 rfl 3 rfl ?_
        refine J_if_ge E (tgt := 46) dX5_sheet_36 (by decide) (fun c_36 => ?_) (fun c_36 => ?_)
        · skip
          refine J_iload_n E dX5_sheet_46 rfl 3 rfl ?_
          refine J_bipush E dX5_sheet_47 bp_40 ?_
          refine J_icmp_le E (tgt := 58) dX5_sheet_49 (by decide) (fun c_49 => ?_) (fun c_49 => ?_)
          · skip
            refine J_aload_n E dX5_sheet_58 rfl 0 rfl ?_
            refine gC0_X5_44 E dX5_sheet_59 ?_
            refine J_iload_n E dX5_sheet_62 rfl 1 rfl ?_
            refine laC_30_0 E dX5_sheet_63 ?_
            refine J_iload_n E dX5_sheet_64 rfl 2 rfl ?_
            refine J_iload_n E dX5_sheet_65 rfl 2 rfl ?_
            refine J_if_ne E (tgt := 73) dX5_sheet_66 (by decide) (fun c_66 => ?_) (fun c_66 => ?_)
            · skip
              have n_66 : ¬ 0 = 0 := cmp_ne (a := 0) (b := 0) (by omega) (by omega) c_66
              exact absurd n_66 (by decide)
            · skip
              have n_66 : 0 = 0 := cmp_eq (a := 0) (b := 0) (by omega) (by omega) c_66
              refine J_iconst E dX5_sheet_69 ic_0 ?_
              refine J_goto E (tgt := 74) dX5_sheet_70 (by decide) ?_
              refine J_sv8 E (As := [.int 0, .int 0]) (c_X2_begin l G (sh a 31) (x 8) 0 0 ) cl_X5_205 yo_X2_begin dX5_sheet_74 rfl (Nat.le_of_ble_eq_true rfl) (Nat.le_of_ble_eq_true rfl) rfl (Nat.le_of_ble_eq_true rfl) ⟨Nat.zero_le _, Nat.zero_le _⟩ ?_
              refine J_aload_n E dX5_sheet_77 rfl 0 rfl ?_
              refine gC0_X5_44 E dX5_sheet_78 ?_
              refine J_iload_n E dX5_sheet_81 rfl 1 rfl ?_
              refine laC_30_0 E dX5_sheet_82 ?_
              refine gC31_X5_208 E dX5_sheet_83 ?_
              refine J_top (x' := (beginS (x 8) 0 0) 1 1) upG_s ?_
              exact ret _ _ _ _ ⟨by rfl, _, rfl, by intro g h2 h6; simp [upG, up3, up3R, h2, h6]⟩ rfl dX5_sheet_86
          · skip
            exact absurd hn2 c_49
        · skip
          exact absurd (Int32.not_le.mp c_36) hn
      · skip
        have n_8 : ¬ 0 = 0 := cmp_ne (a := 0) (b := 0) (by omega) (by omega) c_8
        exact absurd n_8 (by decide)
  · skip
    refine J_iload_n E dX5_sheet_0 rfl 1 rfl ?_
    refine J_cSiN E (As := [.int (nI 0)]) (c_X5_isSheet l G (nI 0) ) cl_X5_202 yo_X5_isSheet dX5_sheet_1 rfl (Nat.le_of_ble_eq_true rfl) (Nat.le_of_ble_eq_true rfl) rfl (Nat.le_of_ble_eq_true rfl) ⟨Nat.zero_le _, Nat.zero_le _⟩ ?_
    refine J_if_eq E (tgt := 29) dX5_sheet_4 (by decide) (fun c_4 => ?_) (fun c_4 => ?_)
    · skip
      have c_4 := bI_0 c_4
      exact absurd (in3 (by decide)) c_4
    · skip
      have c_4 := bI_1 c_4
      refine J_iload_n E dX5_sheet_7 rfl 2 rfl ?_
      refine J_if_eq E (tgt := 35) dX5_sheet_8 (by decide) (fun c_8 => ?_) (fun c_8 => ?_)
      · skip
        have n_8 : 8 = 0 := cmp_eq (a := 8) (b := 0) (by omega) (by omega) c_8
        exact absurd n_8 (by decide)
      · skip
        have n_8 : ¬ 8 = 0 := cmp_ne (a := 8) (b := 0) (by omega) (by omega) c_8
        refine J_iload_n E dX5_sheet_11 rfl 2 rfl ?_
        refine J_bipush E dX5_sheet_12 bp_8 ?_
        refine J_icmp_eq E (tgt := 35) dX5_sheet_14 (by decide) (fun c_14 => ?_) (fun c_14 => ?_)
        · skip
          have n_14 : 8 = 8 := cmp_eq (a := 8) (b := 8) (by omega) (by omega) c_14
          refine J_iload_n E dX5_sheet_35 rfl 3 rfl ?_
          refine J_if_ge E (tgt := 46) dX5_sheet_36 (by decide) (fun c_36 => ?_) (fun c_36 => ?_)
          · skip
            refine J_iload_n E dX5_sheet_46 rfl 3 rfl ?_
            refine J_bipush E dX5_sheet_47 bp_40 ?_
            refine J_icmp_le E (tgt := 58) dX5_sheet_49 (by decide) (fun c_49 => ?_) (fun c_49 => ?_)
            · skip
              refine J_aload_n E dX5_sheet_58 rfl 0 rfl ?_
              refine gC0_X5_44 E dX5_sheet_59 ?_
              refine J_iload_n E dX5_sheet_62 rfl 1 rfl ?_
              refine laC_30_0 E dX5_sheet_63 ?_
              refine J_iload_n E dX5_sheet_64 rfl 2 rfl ?_
              refine J_iload_n E dX5_sheet_65 rfl 2 rfl ?_
              refine J_if_ne E (tgt := 73) dX5_sheet_66 (by decide) (fun c_66 => ?_) (fun c_66 => ?_)
              · skip
                have n_66 : ¬ 8 = 0 := cmp_ne (a := 8) (b := 0) (by omega) (by omega) c_66
                refine J_iload_n E dX5_sheet_73 rfl 3 rfl ?_
                refine J_sv8 E (As := [.int 8, .int n]) (c_X2_begin l G (sh a 31) (x 8) 8 n ) cl_X5_205 yo_X2_begin dX5_sheet_74 rfl (Nat.le_of_ble_eq_true rfl) (Nat.le_of_ble_eq_true rfl) rfl (Nat.le_of_ble_eq_true rfl) ⟨Nat.zero_le _, Nat.zero_le _⟩ ?_
                refine J_aload_n E dX5_sheet_77 rfl 0 rfl ?_
                refine gC0_X5_44 E dX5_sheet_78 ?_
                refine J_iload_n E dX5_sheet_81 rfl 1 rfl ?_
                refine laC_30_0 E dX5_sheet_82 ?_
                refine gC31_X5_208 E dX5_sheet_83 ?_
                refine J_top (x' := (beginS (x 8) 8 n) 1 1) upG_s ?_
                exact ret _ _ _ _ ⟨by rfl, _, rfl, by intro g h2 h6; simp [upG, up3, up3R, h2, h6]⟩ rfl dX5_sheet_86
              · skip
                have n_66 : 8 = 0 := cmp_eq (a := 8) (b := 0) (by omega) (by omega) c_66
                exact absurd n_66 (by decide)
            · skip
              exact absurd hn2 c_49
          · skip
            exact absurd (Int32.not_le.mp c_36) hn
        · skip
          have n_14 : ¬ 8 = 8 := cmp_ne (a := 8) (b := 8) (by omega) (by omega) c_14
          exact absurd n_14 (by decide)
  · skip
    refine J_iload_n E dX5_sheet_0 rfl 1 rfl ?_
    refine J_cSiN E (As := [.int (nI 0)]) (c_X5_isSheet l G (nI 0) ) cl_X5_202 yo_X5_isSheet dX5_sheet_1 rfl (Nat.le_of_ble_eq_true rfl) (Nat.le_of_ble_eq_true rfl) rfl (Nat.le_of_ble_eq_true rfl) ⟨Nat.zero_le _, Nat.zero_le _⟩ ?_
    refine J_if_eq E (tgt := 29) dX5_sheet_4 (by decide) (fun c_4 => ?_) (fun c_4 => ?_)
    · skip
      have c_4 := bI_0 c_4
      exact absurd (in3 (by decide)) c_4
    · skip
      have c_4 := bI_1 c_4
      refine J_iload_n E dX5_sheet_7 rfl 2 rfl ?_
      refine J_if_eq E (tgt := 35) dX5_sheet_8 (by decide) (fun c_8 => ?_) (fun c_8 => ?_)
      · skip
        have n_8 : 16 = 0 := cmp_eq (a := 16) (b := 0) (by omega) (by omega) c_8
        exact absurd n_8 (by decide)
      · skip
        have n_8 : ¬ 16 = 0 := cmp_ne (a := 16) (b := 0) (by omega) (by omega) c_8
        refine J_iload_n E dX5_sheet_11 rfl 2 rfl ?_
        refine J_bipush E dX5_sheet_12 bp_8 ?_
        refine J_icmp_eq E (tgt := 35) dX5_sheet_14 (by decide) (fun c_14 => ?_) (fun c_14 => ?_)
        · skip
          have n_14 : 16 = 8 := cmp_eq (a := 16) (b := 8) (by omega) (by omega) c_14
          exact absurd n_14 (by decide)
        · skip
          have n_14 : ¬ 16 = 8 := cmp_ne (a := 16) (b := 8) (by omega) (by omega) c_14
          refine J_iload_n E dX5_sheet_17 rfl 2 rfl ?_
          refine J_bipush E dX5_sheet_18 bp_16 ?_
          refine J_icmp_eq E (tgt := 35) dX5_sheet_20 (by decide) (fun c_20 => ?_) (fun c_20 => ?_)
          · skip
            have n_20 : 16 = 16 := cmp_eq (a := 16) (b := 16) (by omega) (by omega) c_20
            refine J_iload_n E dX5_sheet_35 rfl 3 rfl ?_
            refine J_if_ge E (tgt := 46) dX5_sheet_36 (by decide) (fun c_36 => ?_) (fun c_36 => ?_)
            · skip
              refine J_iload_n E dX5_sheet_46 rfl 3 rfl ?_
              refine J_bipush E dX5_sheet_47 bp_40 ?_
              refine J_icmp_le E (tgt := 58) dX5_sheet_49 (by decide) (fun c_49 => ?_) (fun c_49 => ?_)
              · skip
                refine J_aload_n E dX5_sheet_58 rfl 0 rfl ?_
                refine gC0_X5_44 E dX5_sheet_59 ?_
                refine J_iload_n E dX5_sheet_62 rfl 1 rfl ?_
                refine laC_30_0 E dX5_sheet_63 ?_
                refine J_iload_n E dX5_sheet_64 rfl 2 rfl ?_
                refine J_iload_n E dX5_sheet_65 rfl 2 rfl ?_
                refine J_if_ne E (tgt := 73) dX5_sheet_66 (by decide) (fun c_66 => ?_) (fun c_66 => ?_)
                · skip
                  have n_66 : ¬ 16 = 0 := cmp_ne (a := 16) (b := 0) (by omega) (by omega) c_66
                  refine J_iload_n E dX5_sheet_73 rfl 3 rfl ?_
                  refine J_sv8 E (As := [.int 16, .int n]) (c_X2_begin l G (sh a 31) (x 8) 16 n ) cl_X5_205 yo_X2_begin dX5_sheet_74 rfl (Nat.le_of_ble_eq_true rfl) (Nat.le_of_ble_eq_true rfl) rfl (Nat.le_of_ble_eq_true rfl) ⟨Nat.zero_le _, Nat.zero_le _⟩ ?_
                  refine J_aload_n E dX5_sheet_77 rfl 0 rfl ?_
                  refine gC0_X5_44 E dX5_sheet_78 ?_
                  refine J_iload_n E dX5_sheet_81 rfl 1 rfl ?_
                  refine laC_30_0 E dX5_sheet_82 ?_
                  refine gC31_X5_208 E dX5_sheet_83 ?_
                  refine J_top (x' := (beginS (x 8) 16 n) 1 1) upG_s ?_
                  exact ret _ _ _ _ ⟨by rfl, _, rfl, by intro g h2 h6; simp [upG, up3, up3R, h2, h6]⟩ rfl dX5_sheet_86
                · skip
                  have n_66 : 16 = 0 := cmp_eq (a := 16) (b := 0) (by omega) (by omega) c_66
                  exact absurd n_66 (by decide)
              · skip
                exact absurd hn2 c_49
            · skip
              exact absurd (Int32.not_le.mp c_36) hn
          · skip
            have n_20 : ¬ 16 = 16 := cmp_ne (a := 16) (b := 16) (by omega) (by omega) c_20
            exact absurd n_20 (by decide)
  · skip
    refine J_iload_n E dX5_sheet_0 rfl 1 rfl ?_
    refine J_cSiN E (As := [.int (nI 0)]) (c_X5_isSheet l G (nI 0) ) cl_X5_202 yo_X5_isSheet dX5_sheet_1 rfl (Nat.le_of_ble_eq_true rfl) (Nat.le_of_ble_eq_true rfl) rfl (Nat.le_of_ble_eq_true rfl) ⟨Nat.zero_le _, Nat.zero_le _⟩ ?_
    refine J_if_eq E (tgt := 29) dX5_sheet_4 (by decide) (fun c_4 => ?_) (fun c_4 => ?_)
    · skip
      have c_4 := bI_0 c_4
      exact absurd (in3 (by decide)) c_4
    · skip
      have c_4 := bI_1 c_4
      refine J_iload_n E dX5_sheet_7 rfl 2 rfl ?_
      refine J_if_eq E (tgt := 35) dX5_sheet_8 (by decide) (fun c_8 => ?_) (fun c_8 => ?_)
      · skip
        have n_8 : 32 = 0 := cmp_eq (a := 32) (b := 0) (by omega) (by omega) c_8
        exact absurd n_8 (by decide)
      · skip
        have n_8 : ¬ 32 = 0 := cmp_ne (a := 32) (b := 0) (by omega) (by omega) c_8
        refine J_iload_n E dX5_sheet_11 rfl 2 rfl ?_
        refine J_bipush E dX5_sheet_12 bp_8 ?_
        refine J_icmp_eq E (tgt := 35) dX5_sheet_14 (by decide) (fun c_14 => ?_) (fun c_14 => ?_)
        · skip
          have n_14 : 32 = 8 := cmp_eq (a := 32) (b := 8) (by omega) (by omega) c_14
          exact absurd n_14 (by decide)
        · skip
          have n_14 : ¬ 32 = 8 := cmp_ne (a := 32) (b := 8) (by omega) (by omega) c_14
          refine J_iload_n E dX5_sheet_17 rfl 2 rfl ?_
          refine J_bipush E dX5_sheet_18 bp_16 ?_
          refine J_icmp_eq E (tgt := 35) dX5_sheet_20 (by decide) (fun c_20 => ?_) (fun c_20 => ?_)
          · skip
            have n_20 : 32 = 16 := cmp_eq (a := 32) (b := 16) (by omega) (by omega) c_20
            exact absurd n_20 (by decide)
          · skip
            have n_20 : ¬ 32 = 16 := cmp_ne (a := 32) (b := 16) (by omega) (by omega) c_20
            refine J_iload_n E dX5_sheet_23 rfl 2 rfl ?_
            refine J_bipush E dX5_sheet_24 bp_32 ?_
            refine J_icmp_eq E (tgt := 35) dX5_sheet_26 (by decide) (fun c_26 => ?_) (fun c_26 => ?_)
            · skip
              have n_26 : 32 = 32 := cmp_eq (a := 32) (b := 32) (by omega) (by omega) c_26
              refine J_iload_n E dX5_sheet_35 rfl 3 rfl ?_
              refine J_if_ge E (tgt := 46) dX5_sheet_36 (by decide) (fun c_36 => ?_) (fun c_36 => ?_)
              · skip
                refine J_iload_n E dX5_sheet_46 rfl 3 rfl ?_
                refine J_bipush E dX5_sheet_47 bp_40 ?_
                refine J_icmp_le E (tgt := 58) dX5_sheet_49 (by decide) (fun c_49 => ?_) (fun c_49 => ?_)
                · skip
                  refine J_aload_n E dX5_sheet_58 rfl 0 rfl ?_
                  refine gC0_X5_44 E dX5_sheet_59 ?_
                  refine J_iload_n E dX5_sheet_62 rfl 1 rfl ?_
                  refine laC_30_0 E dX5_sheet_63 ?_
                  refine J_iload_n E dX5_sheet_64 rfl 2 rfl ?_
                  refine J_iload_n E dX5_sheet_65 rfl 2 rfl ?_
                  refine J_if_ne E (tgt := 73) dX5_sheet_66 (by decide) (fun c_66 => ?_) (fun c_66 => ?_)
                  · skip
                    have n_66 : ¬ 32 = 0 := cmp_ne (a := 32) (b := 0) (by omega) (by omega) c_66
                    refine J_iload_n E dX5_sheet_73 rfl 3 rfl ?_
                    refine J_sv8 E (As := [.int 32, .int n]) (c_X2_begin l G (sh a 31) (x 8) 32 n ) cl_X5_205 yo_X2_begin dX5_sheet_74 rfl (Nat.le_of_ble_eq_true rfl) (Nat.le_of_ble_eq_true rfl) rfl (Nat.le_of_ble_eq_true rfl) ⟨Nat.zero_le _, Nat.zero_le _⟩ ?_
                    refine J_aload_n E dX5_sheet_77 rfl 0 rfl ?_
                    refine gC0_X5_44 E dX5_sheet_78 ?_
                    refine J_iload_n E dX5_sheet_81 rfl 1 rfl ?_
                    refine laC_30_0 E dX5_sheet_82 ?_
                    refine gC31_X5_208 E dX5_sheet_83 ?_
                    refine J_top (x' := (beginS (x 8) 32 n) 1 1) upG_s ?_
                    exact ret _ _ _ _ ⟨by rfl, _, rfl, by intro g h2 h6; simp [upG, up3, up3R, h2, h6]⟩ rfl dX5_sheet_86
                  · skip
                    have n_66 : 32 = 0 := cmp_eq (a := 32) (b := 0) (by omega) (by omega) c_66
                    exact absurd n_66 (by decide)
                · skip
                  exact absurd hn2 c_49
              · skip
                exact absurd (Int32.not_le.mp c_36) hn
            · skip
              have n_26 : ¬ 32 = 32 := cmp_ne (a := 32) (b := 32) (by omega) (by omega) c_26
              exact absurd n_26 (by decide)

set_option maxHeartbeats 4000000 in
set_option maxRecDepth 20000 in
theorem c_X5_sheet_ok_1 (l : Launch) (G : GB) (a : Nat → Nat) (x : Q3) (b n : Int32) (hbt : (b = 0 ∨ b = 8 ∨ b = 16 ∨ b = 32)) (hn : ¬ n < 0) (hn2 : n ≤ 40) : CI l yX5_sheet cX5_sheet 4 .int 2 45 G [.ref (a 0), .int (nI 1), .int b, .int n] (wC G a x) (fun vR w' => vR = (if b = 0 then 0 else n) ∧ PubC G a (upG x 9 (beginS (x 9) b (if b = 0 then 0 else n))) w') := by
  refine CI.mk (own := RX5) (by decide) rfl (Nat.le_of_ble_eq_true rfl) ?_
  intro X E ret
  show J X G 4 0 0 (wC G a x) [(0, .ref (a 0)), (1, .int (nI 1)), (2, .int b), (3, .int n)] 0 []
  rcases hbt with rfl | rfl | rfl | rfl
  · skip
    refine J_iload_n E dX5_sheet_0 rfl 1 rfl ?_
    refine J_cSiN E (As := [.int (nI 1)]) (c_X5_isSheet l G (nI 1) ) cl_X5_202 yo_X5_isSheet dX5_sheet_1 rfl (Nat.le_of_ble_eq_true rfl) (Nat.le_of_ble_eq_true rfl) rfl (Nat.le_of_ble_eq_true rfl) ⟨Nat.zero_le _, Nat.zero_le _⟩ ?_
    refine J_if_eq E (tgt := 29) dX5_sheet_4 (by decide) (fun c_4 => ?_) (fun c_4 => ?_)
    · skip
      have c_4 := bI_0 c_4
      exact absurd (in3 (by decide)) c_4
    · skip
      have c_4 := bI_1 c_4
      refine J_iload_n E dX5_sheet_7 rfl 2 rfl ?_
      refine J_if_eq E (tgt := 35) dX5_sheet_8 (by decide) (fun c_8 => ?_) (fun c_8 => ?_)
      · skip
        have n_8 : 0 = 0 := cmp_eq (a := 0) (b := 0) (by omega) (by omega) c_8
        refine J_iload_n E dX5_sheet_35 rfl 3 rfl ?_
        refine J_if_ge E (tgt := 46) dX5_sheet_36 (by decide) (fun c_36 => ?_) (fun c_36 => ?_)
        · skip
          refine J_iload_n E dX5_sheet_46 rfl 3 rfl ?_
          refine J_bipush E dX5_sheet_47 bp_40 ?_
          refine J_icmp_le E (tgt := 58) dX5_sheet_49 (by decide) (fun c_49 => ?_) (fun c_49 => ?_)
          · skip
            refine J_aload_n E dX5_sheet_58 rfl 0 rfl ?_
            refine gC0_X5_44 E dX5_sheet_59 ?_
            refine J_iload_n E dX5_sheet_62 rfl 1 rfl ?_
            refine laC_30_1 E dX5_sheet_63 ?_
            refine J_iload_n E dX5_sheet_64 rfl 2 rfl ?_
            refine J_iload_n E dX5_sheet_65 rfl 2 rfl ?_
            refine J_if_ne E (tgt := 73) dX5_sheet_66 (by decide) (fun c_66 => ?_) (fun c_66 => ?_)
            · skip
              have n_66 : ¬ 0 = 0 := cmp_ne (a := 0) (b := 0) (by omega) (by omega) c_66
              exact absurd n_66 (by decide)
            · skip
              have n_66 : 0 = 0 := cmp_eq (a := 0) (b := 0) (by omega) (by omega) c_66
              refine J_iconst E dX5_sheet_69 ic_0 ?_
              refine J_goto E (tgt := 74) dX5_sheet_70 (by decide) ?_
              refine J_sv9 E (As := [.int 0, .int 0]) (c_X2_begin l G (sh a 33) (x 9) 0 0 ) cl_X5_205 yo_X2_begin dX5_sheet_74 rfl (Nat.le_of_ble_eq_true rfl) (Nat.le_of_ble_eq_true rfl) rfl (Nat.le_of_ble_eq_true rfl) ⟨Nat.zero_le _, Nat.zero_le _⟩ ?_
              refine J_aload_n E dX5_sheet_77 rfl 0 rfl ?_
              refine gC0_X5_44 E dX5_sheet_78 ?_
              refine J_iload_n E dX5_sheet_81 rfl 1 rfl ?_
              refine laC_30_1 E dX5_sheet_82 ?_
              refine gC33_X5_208 E dX5_sheet_83 ?_
              refine J_top (x' := (beginS (x 9) 0 0) 1 1) upG_s ?_
              exact ret _ _ _ _ ⟨by rfl, _, rfl, by intro g h2 h6; simp [upG, up3, up3R, h2, h6]⟩ rfl dX5_sheet_86
          · skip
            exact absurd hn2 c_49
        · skip
          exact absurd (Int32.not_le.mp c_36) hn
      · skip
        have n_8 : ¬ 0 = 0 := cmp_ne (a := 0) (b := 0) (by omega) (by omega) c_8
        exact absurd n_8 (by decide)
  · skip
    refine J_iload_n E dX5_sheet_0 rfl 1 rfl ?_
    refine J_cSiN E (As := [.int (nI 1)]) (c_X5_isSheet l G (nI 1) ) cl_X5_202 yo_X5_isSheet dX5_sheet_1 rfl (Nat.le_of_ble_eq_true rfl) (Nat.le_of_ble_eq_true rfl) rfl (Nat.le_of_ble_eq_true rfl) ⟨Nat.zero_le _, Nat.zero_le _⟩ ?_
    refine J_if_eq E (tgt := 29) dX5_sheet_4 (by decide) (fun c_4 => ?_) (fun c_4 => ?_)
    · skip
      have c_4 := bI_0 c_4
      exact absurd (in3 (by decide)) c_4
    · skip
      have c_4 := bI_1 c_4
      refine J_iload_n E dX5_sheet_7 rfl 2 rfl ?_
      refine J_if_eq E (tgt := 35) dX5_sheet_8 (by decide) (fun c_8 => ?_) (fun c_8 => ?_)
      · skip
        have n_8 : 8 = 0 := cmp_eq (a := 8) (b := 0) (by omega) (by omega) c_8
        exact absurd n_8 (by decide)
      · skip
        have n_8 : ¬ 8 = 0 := cmp_ne (a := 8) (b := 0) (by omega) (by omega) c_8
        refine J_iload_n E dX5_sheet_11 rfl 2 rfl ?_
        refine J_bipush E dX5_sheet_12 bp_8 ?_
        refine J_icmp_eq E (tgt := 35) dX5_sheet_14 (by decide) (fun c_14 => ?_) (fun c_14 => ?_)
        · skip
          have n_14 : 8 = 8 := cmp_eq (a := 8) (b := 8) (by omega) (by omega) c_14
          refine J_iload_n E dX5_sheet_35 rfl 3 rfl ?_
          refine J_if_ge E (tgt := 46) dX5_sheet_36 (by decide) (fun c_36 => ?_) (fun c_36 => ?_)
          · skip
            refine J_iload_n E dX5_sheet_46 rfl 3 rfl ?_
            refine J_bipush E dX5_sheet_47 bp_40 ?_
            refine J_icmp_le E (tgt := 58) dX5_sheet_49 (by decide) (fun c_49 => ?_) (fun c_49 => ?_)
            · skip
              refine J_aload_n E dX5_sheet_58 rfl 0 rfl ?_
              refine gC0_X5_44 E dX5_sheet_59 ?_
              refine J_iload_n E dX5_sheet_62 rfl 1 rfl ?_
              refine laC_30_1 E dX5_sheet_63 ?_
              refine J_iload_n E dX5_sheet_64 rfl 2 rfl ?_
              refine J_iload_n E dX5_sheet_65 rfl 2 rfl ?_
              refine J_if_ne E (tgt := 73) dX5_sheet_66 (by decide) (fun c_66 => ?_) (fun c_66 => ?_)
              · skip
                have n_66 : ¬ 8 = 0 := cmp_ne (a := 8) (b := 0) (by omega) (by omega) c_66
                refine J_iload_n E dX5_sheet_73 rfl 3 rfl ?_
                refine J_sv9 E (As := [.int 8, .int n]) (c_X2_begin l G (sh a 33) (x 9) 8 n ) cl_X5_205 yo_X2_begin dX5_sheet_74 rfl (Nat.le_of_ble_eq_true rfl) (Nat.le_of_ble_eq_true rfl) rfl (Nat.le_of_ble_eq_true rfl) ⟨Nat.zero_le _, Nat.zero_le _⟩ ?_
                refine J_aload_n E dX5_sheet_77 rfl 0 rfl ?_
                refine gC0_X5_44 E dX5_sheet_78 ?_
                refine J_iload_n E dX5_sheet_81 rfl 1 rfl ?_
                refine laC_30_1 E dX5_sheet_82 ?_
                refine gC33_X5_208 E dX5_sheet_83 ?_
                refine J_top (x' := (beginS (x 9) 8 n) 1 1) upG_s ?_
                exact ret _ _ _ _ ⟨by rfl, _, rfl, by intro g h2 h6; simp [upG, up3, up3R, h2, h6]⟩ rfl dX5_sheet_86
              · skip
                have n_66 : 8 = 0 := cmp_eq (a := 8) (b := 0) (by omega) (by omega) c_66
                exact absurd n_66 (by decide)
            · skip
              exact absurd hn2 c_49
          · skip
            exact absurd (Int32.not_le.mp c_36) hn
        · skip
          have n_14 : ¬ 8 = 8 := cmp_ne (a := 8) (b := 8) (by omega) (by omega) c_14
          exact absurd n_14 (by decide)
  · skip
    refine J_iload_n E dX5_sheet_0 rfl 1 rfl ?_
    refine J_cSiN E (As := [.int (nI 1)]) (c_X5_isSheet l G (nI 1) ) cl_X5_202 yo_X5_isSheet dX5_sheet_1 rfl (Nat.le_of_ble_eq_true rfl) (Nat.le_of_ble_eq_true rfl) rfl (Nat.le_of_ble_eq_true rfl) ⟨Nat.zero_le _, Nat.zero_le _⟩ ?_
    refine J_if_eq E (tgt := 29) dX5_sheet_4 (by decide) (fun c_4 => ?_) (fun c_4 => ?_)
    · skip
      have c_4 := bI_0 c_4
      exact absurd (in3 (by decide)) c_4
    · skip
      have c_4 := bI_1 c_4
      refine J_iload_n E dX5_sheet_7 rfl 2 rfl ?_
      refine J_if_eq E (tgt := 35) dX5_sheet_8 (by decide) (fun c_8 => ?_) (fun c_8 => ?_)
      · skip
        have n_8 : 16 = 0 := cmp_eq (a := 16) (b := 0) (by omega) (by omega) c_8
        exact absurd n_8 (by decide)
      · skip
        have n_8 : ¬ 16 = 0 := cmp_ne (a := 16) (b := 0) (by omega) (by omega) c_8
        refine J_iload_n E dX5_sheet_11 rfl 2 rfl ?_
        refine J_bipush E dX5_sheet_12 bp_8 ?_
        refine J_icmp_eq E (tgt := 35) dX5_sheet_14 (by decide) (fun c_14 => ?_) (fun c_14 => ?_)
        · skip
          have n_14 : 16 = 8 := cmp_eq (a := 16) (b := 8) (by omega) (by omega) c_14
          exact absurd n_14 (by decide)
        · skip
          have n_14 : ¬ 16 = 8 := cmp_ne (a := 16) (b := 8) (by omega) (by omega) c_14
          refine J_iload_n E dX5_sheet_17 rfl 2 rfl ?_
          refine J_bipush E dX5_sheet_18 bp_16 ?_
          refine J_icmp_eq E (tgt := 35) dX5_sheet_20 (by decide) (fun c_20 => ?_) (fun c_20 => ?_)
          · skip
            have n_20 : 16 = 16 := cmp_eq (a := 16) (b := 16) (by omega) (by omega) c_20
            refine J_iload_n E dX5_sheet_35 rfl 3 rfl ?_
            refine J_if_ge E (tgt := 46) dX5_sheet_36 (by decide) (fun c_36 => ?_) (fun c_36 => ?_)
            · skip
              refine J_iload_n E dX5_sheet_46 rfl 3 rfl ?_
              refine J_bipush E dX5_sheet_47 bp_40 ?_
              refine J_icmp_le E (tgt := 58) dX5_sheet_49 (by decide) (fun c_49 => ?_) (fun c_49 => ?_)
              · skip
                refine J_aload_n E dX5_sheet_58 rfl 0 rfl ?_
                refine gC0_X5_44 E dX5_sheet_59 ?_
                refine J_iload_n E dX5_sheet_62 rfl 1 rfl ?_
                refine laC_30_1 E dX5_sheet_63 ?_
                refine J_iload_n E dX5_sheet_64 rfl 2 rfl ?_
                refine J_iload_n E dX5_sheet_65 rfl 2 rfl ?_
                refine J_if_ne E (tgt := 73) dX5_sheet_66 (by decide) (fun c_66 => ?_) (fun c_66 => ?_)
                · skip
                  have n_66 : ¬ 16 = 0 := cmp_ne (a := 16) (b := 0) (by omega) (by omega) c_66
                  refine J_iload_n E dX5_sheet_73 rfl 3 rfl ?_
                  refine J_sv9 E (As := [.int 16, .int n]) (c_X2_begin l G (sh a 33) (x 9) 16 n ) cl_X5_205 yo_X2_begin dX5_sheet_74 rfl (Nat.le_of_ble_eq_true rfl) (Nat.le_of_ble_eq_true rfl) rfl (Nat.le_of_ble_eq_true rfl) ⟨Nat.zero_le _, Nat.zero_le _⟩ ?_
                  refine J_aload_n E dX5_sheet_77 rfl 0 rfl ?_
                  refine gC0_X5_44 E dX5_sheet_78 ?_
                  refine J_iload_n E dX5_sheet_81 rfl 1 rfl ?_
                  refine laC_30_1 E dX5_sheet_82 ?_
                  refine gC33_X5_208 E dX5_sheet_83 ?_
                  refine J_top (x' := (beginS (x 9) 16 n) 1 1) upG_s ?_
                  exact ret _ _ _ _ ⟨by rfl, _, rfl, by intro g h2 h6; simp [upG, up3, up3R, h2, h6]⟩ rfl dX5_sheet_86
                · skip
                  have n_66 : 16 = 0 := cmp_eq (a := 16) (b := 0) (by omega) (by omega) c_66
                  exact absurd n_66 (by decide)
              · skip
                exact absurd hn2 c_49
            · skip
              exact absurd (Int32.not_le.mp c_36) hn
          · skip
            have n_20 : ¬ 16 = 16 := cmp_ne (a := 16) (b := 16) (by omega) (by omega) c_20
            exact absurd n_20 (by decide)
  · skip
    refine J_iload_n E dX5_sheet_0 rfl 1 rfl ?_
    refine J_cSiN E (As := [.int (nI 1)]) (c_X5_isSheet l G (nI 1) ) cl_X5_202 yo_X5_isSheet dX5_sheet_1 rfl (Nat.le_of_ble_eq_true rfl) (Nat.le_of_ble_eq_true rfl) rfl (Nat.le_of_ble_eq_true rfl) ⟨Nat.zero_le _, Nat.zero_le _⟩ ?_
    refine J_if_eq E (tgt := 29) dX5_sheet_4 (by decide) (fun c_4 => ?_) (fun c_4 => ?_)
    · skip
      have c_4 := bI_0 c_4
      exact absurd (in3 (by decide)) c_4
    · skip
      have c_4 := bI_1 c_4
      refine J_iload_n E dX5_sheet_7 rfl 2 rfl ?_
      refine J_if_eq E (tgt := 35) dX5_sheet_8 (by decide) (fun c_8 => ?_) (fun c_8 => ?_)
      · skip
        have n_8 : 32 = 0 := cmp_eq (a := 32) (b := 0) (by omega) (by omega) c_8
        exact absurd n_8 (by decide)
      · skip
        have n_8 : ¬ 32 = 0 := cmp_ne (a := 32) (b := 0) (by omega) (by omega) c_8
        refine J_iload_n E dX5_sheet_11 rfl 2 rfl ?_
        refine J_bipush E dX5_sheet_12 bp_8 ?_
        refine J_icmp_eq E (tgt := 35) dX5_sheet_14 (by decide) (fun c_14 => ?_) (fun c_14 => ?_)
        · skip
          have n_14 : 32 = 8 := cmp_eq (a := 32) (b := 8) (by omega) (by omega) c_14
          exact absurd n_14 (by decide)
        · skip
          have n_14 : ¬ 32 = 8 := cmp_ne (a := 32) (b := 8) (by omega) (by omega) c_14
          refine J_iload_n E dX5_sheet_17 rfl 2 rfl ?_
          refine J_bipush E dX5_sheet_18 bp_16 ?_
          refine J_icmp_eq E (tgt := 35) dX5_sheet_20 (by decide) (fun c_20 => ?_) (fun c_20 => ?_)
          · skip
            have n_20 : 32 = 16 := cmp_eq (a := 32) (b := 16) (by omega) (by omega) c_20
            exact absurd n_20 (by decide)
          · skip
            have n_20 : ¬ 32 = 16 := cmp_ne (a := 32) (b := 16) (by omega) (by omega) c_20
            refine J_iload_n E dX5_sheet_23 rfl 2 rfl ?_
            refine J_bipush E dX5_sheet_24 bp_32 ?_
            refine J_icmp_eq E (tgt := 35) dX5_sheet_26 (by decide) (fun c_26 => ?_) (fun c_26 => ?_)
            · skip
              have n_26 : 32 = 32 := cmp_eq (a := 32) (b := 32) (by omega) (by omega) c_26
              refine J_iload_n E dX5_sheet_35 rfl 3 rfl ?_
              refine J_if_ge E (tgt := 46) dX5_sheet_36 (by decide) (fun c_36 => ?_) (fun c_36 => ?_)
              · skip
                refine J_iload_n E dX5_sheet_46 rfl 3 rfl ?_
                refine J_bipush E dX5_sheet_47 bp_40 ?_
                refine J_icmp_le E (tgt := 58) dX5_sheet_49 (by decide) (fun c_49 => ?_) (fun c_49 => ?_)
                · skip
                  refine J_aload_n E dX5_sheet_58 rfl 0 rfl ?_
                  refine gC0_X5_44 E dX5_sheet_59 ?_
                  refine J_iload_n E dX5_sheet_62 rfl 1 rfl ?_
                  refine laC_30_1 E dX5_sheet_63 ?_
                  refine J_iload_n E dX5_sheet_64 rfl 2 rfl ?_
                  refine J_iload_n E dX5_sheet_65 rfl 2 rfl ?_
                  refine J_if_ne E (tgt := 73) dX5_sheet_66 (by decide) (fun c_66 => ?_) (fun c_66 => ?_)
                  · skip
                    have n_66 : ¬ 32 = 0 := cmp_ne (a := 32) (b := 0) (by omega) (by omega) c_66
                    refine J_iload_n E dX5_sheet_73 rfl 3 rfl ?_
                    refine J_sv9 E (As := [.int 32, .int n]) (c_X2_begin l G (sh a 33) (x 9) 32 n ) cl_X5_205 yo_X2_begin dX5_sheet_74 rfl (Nat.le_of_ble_eq_true rfl) (Nat.le_of_ble_eq_true rfl) rfl (Nat.le_of_ble_eq_true rfl) ⟨Nat.zero_le _, Nat.zero_le _⟩ ?_
                    refine J_aload_n E dX5_sheet_77 rfl 0 rfl ?_
                    refine gC0_X5_44 E dX5_sheet_78 ?_
                    refine J_iload_n E dX5_sheet_81 rfl 1 rfl ?_
                    refine laC_30_1 E dX5_sheet_82 ?_
                    refine gC33_X5_208 E dX5_sheet_83 ?_
                    refine J_top (x' := (beginS (x 9) 32 n) 1 1) upG_s ?_
                    exact ret _ _ _ _ ⟨by rfl, _, rfl, by intro g h2 h6; simp [upG, up3, up3R, h2, h6]⟩ rfl dX5_sheet_86
                  · skip
                    have n_66 : 32 = 0 := cmp_eq (a := 32) (b := 0) (by omega) (by omega) c_66
                    exact absurd n_66 (by decide)
                · skip
                  exact absurd hn2 c_49
              · skip
                exact absurd (Int32.not_le.mp c_36) hn
            · skip
              have n_26 : ¬ 32 = 32 := cmp_ne (a := 32) (b := 32) (by omega) (by omega) c_26
              exact absurd n_26 (by decide)

set_option maxHeartbeats 4000000 in
set_option maxRecDepth 20000 in
theorem c_X5_sheet_ok_2 (l : Launch) (G : GB) (a : Nat → Nat) (x : Q3) (b n : Int32) (hbt : (b = 0 ∨ b = 8 ∨ b = 16 ∨ b = 32)) (hn : ¬ n < 0) (hn2 : n ≤ 40) : CI l yX5_sheet cX5_sheet 4 .int 2 45 G [.ref (a 0), .int (nI 2), .int b, .int n] (wC G a x) (fun vR w' => vR = (if b = 0 then 0 else n) ∧ PubC G a (upG x 10 (beginS (x 10) b (if b = 0 then 0 else n))) w') := by
  refine CI.mk (own := RX5) (by decide) rfl (Nat.le_of_ble_eq_true rfl) ?_
  intro X E ret
  show J X G 4 0 0 (wC G a x) [(0, .ref (a 0)), (1, .int (nI 2)), (2, .int b), (3, .int n)] 0 []
  rcases hbt with rfl | rfl | rfl | rfl
  · skip
    refine J_iload_n E dX5_sheet_0 rfl 1 rfl ?_
    refine J_cSiN E (As := [.int (nI 2)]) (c_X5_isSheet l G (nI 2) ) cl_X5_202 yo_X5_isSheet dX5_sheet_1 rfl (Nat.le_of_ble_eq_true rfl) (Nat.le_of_ble_eq_true rfl) rfl (Nat.le_of_ble_eq_true rfl) ⟨Nat.zero_le _, Nat.zero_le _⟩ ?_
    refine J_if_eq E (tgt := 29) dX5_sheet_4 (by decide) (fun c_4 => ?_) (fun c_4 => ?_)
    · skip
      have c_4 := bI_0 c_4
      exact absurd (in3 (by decide)) c_4
    · skip
      have c_4 := bI_1 c_4
      refine J_iload_n E dX5_sheet_7 rfl 2 rfl ?_
      refine J_if_eq E (tgt := 35) dX5_sheet_8 (by decide) (fun c_8 => ?_) (fun c_8 => ?_)
      · skip
        have n_8 : 0 = 0 := cmp_eq (a := 0) (b := 0) (by omega) (by omega) c_8
        refine J_iload_n E dX5_sheet_35 rfl 3 rfl ?_
        refine J_if_ge E (tgt := 46) dX5_sheet_36 (by decide) (fun c_36 => ?_) (fun c_36 => ?_)
        · skip
          refine J_iload_n E dX5_sheet_46 rfl 3 rfl ?_
          refine J_bipush E dX5_sheet_47 bp_40 ?_
          refine J_icmp_le E (tgt := 58) dX5_sheet_49 (by decide) (fun c_49 => ?_) (fun c_49 => ?_)
          · skip
            refine J_aload_n E dX5_sheet_58 rfl 0 rfl ?_
            refine gC0_X5_44 E dX5_sheet_59 ?_
            refine J_iload_n E dX5_sheet_62 rfl 1 rfl ?_
            refine laC_30_2 E dX5_sheet_63 ?_
            refine J_iload_n E dX5_sheet_64 rfl 2 rfl ?_
            refine J_iload_n E dX5_sheet_65 rfl 2 rfl ?_
            refine J_if_ne E (tgt := 73) dX5_sheet_66 (by decide) (fun c_66 => ?_) (fun c_66 => ?_)
            · skip
              have n_66 : ¬ 0 = 0 := cmp_ne (a := 0) (b := 0) (by omega) (by omega) c_66
              exact absurd n_66 (by decide)
            · skip
              have n_66 : 0 = 0 := cmp_eq (a := 0) (b := 0) (by omega) (by omega) c_66
              refine J_iconst E dX5_sheet_69 ic_0 ?_
              refine J_goto E (tgt := 74) dX5_sheet_70 (by decide) ?_
              refine J_sv10 E (As := [.int 0, .int 0]) (c_X2_begin l G (sh a 35) (x 10) 0 0 ) cl_X5_205 yo_X2_begin dX5_sheet_74 rfl (Nat.le_of_ble_eq_true rfl) (Nat.le_of_ble_eq_true rfl) rfl (Nat.le_of_ble_eq_true rfl) ⟨Nat.zero_le _, Nat.zero_le _⟩ ?_
              refine J_aload_n E dX5_sheet_77 rfl 0 rfl ?_
              refine gC0_X5_44 E dX5_sheet_78 ?_
              refine J_iload_n E dX5_sheet_81 rfl 1 rfl ?_
              refine laC_30_2 E dX5_sheet_82 ?_
              refine gC35_X5_208 E dX5_sheet_83 ?_
              refine J_top (x' := (beginS (x 10) 0 0) 1 1) upG_s ?_
              exact ret _ _ _ _ ⟨by rfl, _, rfl, by intro g h2 h6; simp [upG, up3, up3R, h2, h6]⟩ rfl dX5_sheet_86
          · skip
            exact absurd hn2 c_49
        · skip
          exact absurd (Int32.not_le.mp c_36) hn
      · skip
        have n_8 : ¬ 0 = 0 := cmp_ne (a := 0) (b := 0) (by omega) (by omega) c_8
        exact absurd n_8 (by decide)
  · skip
    refine J_iload_n E dX5_sheet_0 rfl 1 rfl ?_
    refine J_cSiN E (As := [.int (nI 2)]) (c_X5_isSheet l G (nI 2) ) cl_X5_202 yo_X5_isSheet dX5_sheet_1 rfl (Nat.le_of_ble_eq_true rfl) (Nat.le_of_ble_eq_true rfl) rfl (Nat.le_of_ble_eq_true rfl) ⟨Nat.zero_le _, Nat.zero_le _⟩ ?_
    refine J_if_eq E (tgt := 29) dX5_sheet_4 (by decide) (fun c_4 => ?_) (fun c_4 => ?_)
    · skip
      have c_4 := bI_0 c_4
      exact absurd (in3 (by decide)) c_4
    · skip
      have c_4 := bI_1 c_4
      refine J_iload_n E dX5_sheet_7 rfl 2 rfl ?_
      refine J_if_eq E (tgt := 35) dX5_sheet_8 (by decide) (fun c_8 => ?_) (fun c_8 => ?_)
      · skip
        have n_8 : 8 = 0 := cmp_eq (a := 8) (b := 0) (by omega) (by omega) c_8
        exact absurd n_8 (by decide)
      · skip
        have n_8 : ¬ 8 = 0 := cmp_ne (a := 8) (b := 0) (by omega) (by omega) c_8
        refine J_iload_n E dX5_sheet_11 rfl 2 rfl ?_
        refine J_bipush E dX5_sheet_12 bp_8 ?_
        refine J_icmp_eq E (tgt := 35) dX5_sheet_14 (by decide) (fun c_14 => ?_) (fun c_14 => ?_)
        · skip
          have n_14 : 8 = 8 := cmp_eq (a := 8) (b := 8) (by omega) (by omega) c_14
          refine J_iload_n E dX5_sheet_35 rfl 3 rfl ?_
          refine J_if_ge E (tgt := 46) dX5_sheet_36 (by decide) (fun c_36 => ?_) (fun c_36 => ?_)
          · skip
            refine J_iload_n E dX5_sheet_46 rfl 3 rfl ?_
            refine J_bipush E dX5_sheet_47 bp_40 ?_
            refine J_icmp_le E (tgt := 58) dX5_sheet_49 (by decide) (fun c_49 => ?_) (fun c_49 => ?_)
            · skip
              refine J_aload_n E dX5_sheet_58 rfl 0 rfl ?_
              refine gC0_X5_44 E dX5_sheet_59 ?_
              refine J_iload_n E dX5_sheet_62 rfl 1 rfl ?_
              refine laC_30_2 E dX5_sheet_63 ?_
              refine J_iload_n E dX5_sheet_64 rfl 2 rfl ?_
              refine J_iload_n E dX5_sheet_65 rfl 2 rfl ?_
              refine J_if_ne E (tgt := 73) dX5_sheet_66 (by decide) (fun c_66 => ?_) (fun c_66 => ?_)
              · skip
                have n_66 : ¬ 8 = 0 := cmp_ne (a := 8) (b := 0) (by omega) (by omega) c_66
                refine J_iload_n E dX5_sheet_73 rfl 3 rfl ?_
                refine J_sv10 E (As := [.int 8, .int n]) (c_X2_begin l G (sh a 35) (x 10) 8 n ) cl_X5_205 yo_X2_begin dX5_sheet_74 rfl (Nat.le_of_ble_eq_true rfl) (Nat.le_of_ble_eq_true rfl) rfl (Nat.le_of_ble_eq_true rfl) ⟨Nat.zero_le _, Nat.zero_le _⟩ ?_
                refine J_aload_n E dX5_sheet_77 rfl 0 rfl ?_
                refine gC0_X5_44 E dX5_sheet_78 ?_
                refine J_iload_n E dX5_sheet_81 rfl 1 rfl ?_
                refine laC_30_2 E dX5_sheet_82 ?_
                refine gC35_X5_208 E dX5_sheet_83 ?_
                refine J_top (x' := (beginS (x 10) 8 n) 1 1) upG_s ?_
                exact ret _ _ _ _ ⟨by rfl, _, rfl, by intro g h2 h6; simp [upG, up3, up3R, h2, h6]⟩ rfl dX5_sheet_86
              · skip
                have n_66 : 8 = 0 := cmp_eq (a := 8) (b := 0) (by omega) (by omega) c_66
                exact absurd n_66 (by decide)
            · skip
              exact absurd hn2 c_49
          · skip
            exact absurd (Int32.not_le.mp c_36) hn
        · skip
          have n_14 : ¬ 8 = 8 := cmp_ne (a := 8) (b := 8) (by omega) (by omega) c_14
          exact absurd n_14 (by decide)
  · skip
    refine J_iload_n E dX5_sheet_0 rfl 1 rfl ?_
    refine J_cSiN E (As := [.int (nI 2)]) (c_X5_isSheet l G (nI 2) ) cl_X5_202 yo_X5_isSheet dX5_sheet_1 rfl (Nat.le_of_ble_eq_true rfl) (Nat.le_of_ble_eq_true rfl) rfl (Nat.le_of_ble_eq_true rfl) ⟨Nat.zero_le _, Nat.zero_le _⟩ ?_
    refine J_if_eq E (tgt := 29) dX5_sheet_4 (by decide) (fun c_4 => ?_) (fun c_4 => ?_)
    · skip
      have c_4 := bI_0 c_4
      exact absurd (in3 (by decide)) c_4
    · skip
      have c_4 := bI_1 c_4
      refine J_iload_n E dX5_sheet_7 rfl 2 rfl ?_
      refine J_if_eq E (tgt := 35) dX5_sheet_8 (by decide) (fun c_8 => ?_) (fun c_8 => ?_)
      · skip
        have n_8 : 16 = 0 := cmp_eq (a := 16) (b := 0) (by omega) (by omega) c_8
        exact absurd n_8 (by decide)
      · skip
        have n_8 : ¬ 16 = 0 := cmp_ne (a := 16) (b := 0) (by omega) (by omega) c_8
        refine J_iload_n E dX5_sheet_11 rfl 2 rfl ?_
        refine J_bipush E dX5_sheet_12 bp_8 ?_
        refine J_icmp_eq E (tgt := 35) dX5_sheet_14 (by decide) (fun c_14 => ?_) (fun c_14 => ?_)
        · skip
          have n_14 : 16 = 8 := cmp_eq (a := 16) (b := 8) (by omega) (by omega) c_14
          exact absurd n_14 (by decide)
        · skip
          have n_14 : ¬ 16 = 8 := cmp_ne (a := 16) (b := 8) (by omega) (by omega) c_14
          refine J_iload_n E dX5_sheet_17 rfl 2 rfl ?_
          refine J_bipush E dX5_sheet_18 bp_16 ?_
          refine J_icmp_eq E (tgt := 35) dX5_sheet_20 (by decide) (fun c_20 => ?_) (fun c_20 => ?_)
          · skip
            have n_20 : 16 = 16 := cmp_eq (a := 16) (b := 16) (by omega) (by omega) c_20
            refine J_iload_n E dX5_sheet_35 rfl 3 rfl ?_
            refine J_if_ge E (tgt := 46) dX5_sheet_36 (by decide) (fun c_36 => ?_) (fun c_36 => ?_)
            · skip
              refine J_iload_n E dX5_sheet_46 rfl 3 rfl ?_
              refine J_bipush E dX5_sheet_47 bp_40 ?_
              refine J_icmp_le E (tgt := 58) dX5_sheet_49 (by decide) (fun c_49 => ?_) (fun c_49 => ?_)
              · skip
                refine J_aload_n E dX5_sheet_58 rfl 0 rfl ?_
                refine gC0_X5_44 E dX5_sheet_59 ?_
                refine J_iload_n E dX5_sheet_62 rfl 1 rfl ?_
                refine laC_30_2 E dX5_sheet_63 ?_
                refine J_iload_n E dX5_sheet_64 rfl 2 rfl ?_
                refine J_iload_n E dX5_sheet_65 rfl 2 rfl ?_
                refine J_if_ne E (tgt := 73) dX5_sheet_66 (by decide) (fun c_66 => ?_) (fun c_66 => ?_)
                · skip
                  have n_66 : ¬ 16 = 0 := cmp_ne (a := 16) (b := 0) (by omega) (by omega) c_66
                  refine J_iload_n E dX5_sheet_73 rfl 3 rfl ?_
                  refine J_sv10 E (As := [.int 16, .int n]) (c_X2_begin l G (sh a 35) (x 10) 16 n ) cl_X5_205 yo_X2_begin dX5_sheet_74 rfl (Nat.le_of_ble_eq_true rfl) (Nat.le_of_ble_eq_true rfl) rfl (Nat.le_of_ble_eq_true rfl) ⟨Nat.zero_le _, Nat.zero_le _⟩ ?_
                  refine J_aload_n E dX5_sheet_77 rfl 0 rfl ?_
                  refine gC0_X5_44 E dX5_sheet_78 ?_
                  refine J_iload_n E dX5_sheet_81 rfl 1 rfl ?_
                  refine laC_30_2 E dX5_sheet_82 ?_
                  refine gC35_X5_208 E dX5_sheet_83 ?_
                  refine J_top (x' := (beginS (x 10) 16 n) 1 1) upG_s ?_
                  exact ret _ _ _ _ ⟨by rfl, _, rfl, by intro g h2 h6; simp [upG, up3, up3R, h2, h6]⟩ rfl dX5_sheet_86
                · skip
                  have n_66 : 16 = 0 := cmp_eq (a := 16) (b := 0) (by omega) (by omega) c_66
                  exact absurd n_66 (by decide)
              · skip
                exact absurd hn2 c_49
            · skip
              exact absurd (Int32.not_le.mp c_36) hn
          · skip
            have n_20 : ¬ 16 = 16 := cmp_ne (a := 16) (b := 16) (by omega) (by omega) c_20
            exact absurd n_20 (by decide)
  · skip
    refine J_iload_n E dX5_sheet_0 rfl 1 rfl ?_
    refine J_cSiN E (As := [.int (nI 2)]) (c_X5_isSheet l G (nI 2) ) cl_X5_202 yo_X5_isSheet dX5_sheet_1 rfl (Nat.le_of_ble_eq_true rfl) (Nat.le_of_ble_eq_true rfl) rfl (Nat.le_of_ble_eq_true rfl) ⟨Nat.zero_le _, Nat.zero_le _⟩ ?_
    refine J_if_eq E (tgt := 29) dX5_sheet_4 (by decide) (fun c_4 => ?_) (fun c_4 => ?_)
    · skip
      have c_4 := bI_0 c_4
      exact absurd (in3 (by decide)) c_4
    · skip
      have c_4 := bI_1 c_4
      refine J_iload_n E dX5_sheet_7 rfl 2 rfl ?_
      refine J_if_eq E (tgt := 35) dX5_sheet_8 (by decide) (fun c_8 => ?_) (fun c_8 => ?_)
      · skip
        have n_8 : 32 = 0 := cmp_eq (a := 32) (b := 0) (by omega) (by omega) c_8
        exact absurd n_8 (by decide)
      · skip
        have n_8 : ¬ 32 = 0 := cmp_ne (a := 32) (b := 0) (by omega) (by omega) c_8
        refine J_iload_n E dX5_sheet_11 rfl 2 rfl ?_
        refine J_bipush E dX5_sheet_12 bp_8 ?_
        refine J_icmp_eq E (tgt := 35) dX5_sheet_14 (by decide) (fun c_14 => ?_) (fun c_14 => ?_)
        · skip
          have n_14 : 32 = 8 := cmp_eq (a := 32) (b := 8) (by omega) (by omega) c_14
          exact absurd n_14 (by decide)
        · skip
          have n_14 : ¬ 32 = 8 := cmp_ne (a := 32) (b := 8) (by omega) (by omega) c_14
          refine J_iload_n E dX5_sheet_17 rfl 2 rfl ?_
          refine J_bipush E dX5_sheet_18 bp_16 ?_
          refine J_icmp_eq E (tgt := 35) dX5_sheet_20 (by decide) (fun c_20 => ?_) (fun c_20 => ?_)
          · skip
            have n_20 : 32 = 16 := cmp_eq (a := 32) (b := 16) (by omega) (by omega) c_20
            exact absurd n_20 (by decide)
          · skip
            have n_20 : ¬ 32 = 16 := cmp_ne (a := 32) (b := 16) (by omega) (by omega) c_20
            refine J_iload_n E dX5_sheet_23 rfl 2 rfl ?_
            refine J_bipush E dX5_sheet_24 bp_32 ?_
            refine J_icmp_eq E (tgt := 35) dX5_sheet_26 (by decide) (fun c_26 => ?_) (fun c_26 => ?_)
            · skip
              have n_26 : 32 = 32 := cmp_eq (a := 32) (b := 32) (by omega) (by omega) c_26
              refine J_iload_n E dX5_sheet_35 rfl 3 rfl ?_
              refine J_if_ge E (tgt := 46) dX5_sheet_36 (by decide) (fun c_36 => ?_) (fun c_36 => ?_)
              · skip
                refine J_iload_n E dX5_sheet_46 rfl 3 rfl ?_
                refine J_bipush E dX5_sheet_47 bp_40 ?_
                refine J_icmp_le E (tgt := 58) dX5_sheet_49 (by decide) (fun c_49 => ?_) (fun c_49 => ?_)
                · skip
                  refine J_aload_n E dX5_sheet_58 rfl 0 rfl ?_
                  refine gC0_X5_44 E dX5_sheet_59 ?_
                  refine J_iload_n E dX5_sheet_62 rfl 1 rfl ?_
                  refine laC_30_2 E dX5_sheet_63 ?_
                  refine J_iload_n E dX5_sheet_64 rfl 2 rfl ?_
                  refine J_iload_n E dX5_sheet_65 rfl 2 rfl ?_
                  refine J_if_ne E (tgt := 73) dX5_sheet_66 (by decide) (fun c_66 => ?_) (fun c_66 => ?_)
                  · skip
                    have n_66 : ¬ 32 = 0 := cmp_ne (a := 32) (b := 0) (by omega) (by omega) c_66
                    refine J_iload_n E dX5_sheet_73 rfl 3 rfl ?_
                    refine J_sv10 E (As := [.int 32, .int n]) (c_X2_begin l G (sh a 35) (x 10) 32 n ) cl_X5_205 yo_X2_begin dX5_sheet_74 rfl (Nat.le_of_ble_eq_true rfl) (Nat.le_of_ble_eq_true rfl) rfl (Nat.le_of_ble_eq_true rfl) ⟨Nat.zero_le _, Nat.zero_le _⟩ ?_
                    refine J_aload_n E dX5_sheet_77 rfl 0 rfl ?_
                    refine gC0_X5_44 E dX5_sheet_78 ?_
                    refine J_iload_n E dX5_sheet_81 rfl 1 rfl ?_
                    refine laC_30_2 E dX5_sheet_82 ?_
                    refine gC35_X5_208 E dX5_sheet_83 ?_
                    refine J_top (x' := (beginS (x 10) 32 n) 1 1) upG_s ?_
                    exact ret _ _ _ _ ⟨by rfl, _, rfl, by intro g h2 h6; simp [upG, up3, up3R, h2, h6]⟩ rfl dX5_sheet_86
                  · skip
                    have n_66 : 32 = 0 := cmp_eq (a := 32) (b := 0) (by omega) (by omega) c_66
                    exact absurd n_66 (by decide)
                · skip
                  exact absurd hn2 c_49
              · skip
                exact absurd (Int32.not_le.mp c_36) hn
            · skip
              have n_26 : ¬ 32 = 32 := cmp_ne (a := 32) (b := 32) (by omega) (by omega) c_26
              exact absurd n_26 (by decide)

set_option maxHeartbeats 4000000 in
set_option maxRecDepth 20000 in
theorem c_X5_sheet_ok_3 (l : Launch) (G : GB) (a : Nat → Nat) (x : Q3) (b n : Int32) (hbt : (b = 0 ∨ b = 8 ∨ b = 16 ∨ b = 32)) (hn : ¬ n < 0) (hn2 : n ≤ 40) : CI l yX5_sheet cX5_sheet 4 .int 2 45 G [.ref (a 0), .int (nI 3), .int b, .int n] (wC G a x) (fun vR w' => vR = (if b = 0 then 0 else n) ∧ PubC G a (upG x 11 (beginS (x 11) b (if b = 0 then 0 else n))) w') := by
  refine CI.mk (own := RX5) (by decide) rfl (Nat.le_of_ble_eq_true rfl) ?_
  intro X E ret
  show J X G 4 0 0 (wC G a x) [(0, .ref (a 0)), (1, .int (nI 3)), (2, .int b), (3, .int n)] 0 []
  rcases hbt with rfl | rfl | rfl | rfl
  · skip
    refine J_iload_n E dX5_sheet_0 rfl 1 rfl ?_
    refine J_cSiN E (As := [.int (nI 3)]) (c_X5_isSheet l G (nI 3) ) cl_X5_202 yo_X5_isSheet dX5_sheet_1 rfl (Nat.le_of_ble_eq_true rfl) (Nat.le_of_ble_eq_true rfl) rfl (Nat.le_of_ble_eq_true rfl) ⟨Nat.zero_le _, Nat.zero_le _⟩ ?_
    refine J_if_eq E (tgt := 29) dX5_sheet_4 (by decide) (fun c_4 => ?_) (fun c_4 => ?_)
    · skip
      have c_4 := bI_0 c_4
      exact absurd (in3 (by decide)) c_4
    · skip
      have c_4 := bI_1 c_4
      refine J_iload_n E dX5_sheet_7 rfl 2 rfl ?_
      refine J_if_eq E (tgt := 35) dX5_sheet_8 (by decide) (fun c_8 => ?_) (fun c_8 => ?_)
      · skip
        have n_8 : 0 = 0 := cmp_eq (a := 0) (b := 0) (by omega) (by omega) c_8
        refine J_iload_n E dX5_sheet_35 rfl 3 rfl ?_
        refine J_if_ge E (tgt := 46) dX5_sheet_36 (by decide) (fun c_36 => ?_) (fun c_36 => ?_)
        · skip
          refine J_iload_n E dX5_sheet_46 rfl 3 rfl ?_
          refine J_bipush E dX5_sheet_47 bp_40 ?_
          refine J_icmp_le E (tgt := 58) dX5_sheet_49 (by decide) (fun c_49 => ?_) (fun c_49 => ?_)
          · skip
            refine J_aload_n E dX5_sheet_58 rfl 0 rfl ?_
            refine gC0_X5_44 E dX5_sheet_59 ?_
            refine J_iload_n E dX5_sheet_62 rfl 1 rfl ?_
            refine laC_30_3 E dX5_sheet_63 ?_
            refine J_iload_n E dX5_sheet_64 rfl 2 rfl ?_
            refine J_iload_n E dX5_sheet_65 rfl 2 rfl ?_
            refine J_if_ne E (tgt := 73) dX5_sheet_66 (by decide) (fun c_66 => ?_) (fun c_66 => ?_)
            · skip
              have n_66 : ¬ 0 = 0 := cmp_ne (a := 0) (b := 0) (by omega) (by omega) c_66
              exact absurd n_66 (by decide)
            · skip
              have n_66 : 0 = 0 := cmp_eq (a := 0) (b := 0) (by omega) (by omega) c_66
              refine J_iconst E dX5_sheet_69 ic_0 ?_
              refine J_goto E (tgt := 74) dX5_sheet_70 (by decide) ?_
              refine J_sv11 E (As := [.int 0, .int 0]) (c_X2_begin l G (sh a 37) (x 11) 0 0 ) cl_X5_205 yo_X2_begin dX5_sheet_74 rfl (Nat.le_of_ble_eq_true rfl) (Nat.le_of_ble_eq_true rfl) rfl (Nat.le_of_ble_eq_true rfl) ⟨Nat.zero_le _, Nat.zero_le _⟩ ?_
              refine J_aload_n E dX5_sheet_77 rfl 0 rfl ?_
              refine gC0_X5_44 E dX5_sheet_78 ?_
              refine J_iload_n E dX5_sheet_81 rfl 1 rfl ?_
              refine laC_30_3 E dX5_sheet_82 ?_
              refine gC37_X5_208 E dX5_sheet_83 ?_
              refine J_top (x' := (beginS (x 11) 0 0) 1 1) upG_s ?_
              exact ret _ _ _ _ ⟨by rfl, _, rfl, by intro g h2 h6; simp [upG, up3, up3R, h2, h6]⟩ rfl dX5_sheet_86
          · skip
            exact absurd hn2 c_49
        · skip
          exact absurd (Int32.not_le.mp c_36) hn
      · skip
        have n_8 : ¬ 0 = 0 := cmp_ne (a := 0) (b := 0) (by omega) (by omega) c_8
        exact absurd n_8 (by decide)
  · skip
    refine J_iload_n E dX5_sheet_0 rfl 1 rfl ?_
    refine J_cSiN E (As := [.int (nI 3)]) (c_X5_isSheet l G (nI 3) ) cl_X5_202 yo_X5_isSheet dX5_sheet_1 rfl (Nat.le_of_ble_eq_true rfl) (Nat.le_of_ble_eq_true rfl) rfl (Nat.le_of_ble_eq_true rfl) ⟨Nat.zero_le _, Nat.zero_le _⟩ ?_
    refine J_if_eq E (tgt := 29) dX5_sheet_4 (by decide) (fun c_4 => ?_) (fun c_4 => ?_)
    · skip
      have c_4 := bI_0 c_4
      exact absurd (in3 (by decide)) c_4
    · skip
      have c_4 := bI_1 c_4
      refine J_iload_n E dX5_sheet_7 rfl 2 rfl ?_
      refine J_if_eq E (tgt := 35) dX5_sheet_8 (by decide) (fun c_8 => ?_) (fun c_8 => ?_)
      · skip
        have n_8 : 8 = 0 := cmp_eq (a := 8) (b := 0) (by omega) (by omega) c_8
        exact absurd n_8 (by decide)
      · skip
        have n_8 : ¬ 8 = 0 := cmp_ne (a := 8) (b := 0) (by omega) (by omega) c_8
        refine J_iload_n E dX5_sheet_11 rfl 2 rfl ?_
        refine J_bipush E dX5_sheet_12 bp_8 ?_
        refine J_icmp_eq E (tgt := 35) dX5_sheet_14 (by decide) (fun c_14 => ?_) (fun c_14 => ?_)
        · skip
          have n_14 : 8 = 8 := cmp_eq (a := 8) (b := 8) (by omega) (by omega) c_14
          refine J_iload_n E dX5_sheet_35 rfl 3 rfl ?_
          refine J_if_ge E (tgt := 46) dX5_sheet_36 (by decide) (fun c_36 => ?_) (fun c_36 => ?_)
          · skip
            refine J_iload_n E dX5_sheet_46 rfl 3 rfl ?_
            refine J_bipush E dX5_sheet_47 bp_40 ?_
            refine J_icmp_le E (tgt := 58) dX5_sheet_49 (by decide) (fun c_49 => ?_) (fun c_49 => ?_)
            · skip
              refine J_aload_n E dX5_sheet_58 rfl 0 rfl ?_
              refine gC0_X5_44 E dX5_sheet_59 ?_
              refine J_iload_n E dX5_sheet_62 rfl 1 rfl ?_
              refine laC_30_3 E dX5_sheet_63 ?_
              refine J_iload_n E dX5_sheet_64 rfl 2 rfl ?_
              refine J_iload_n E dX5_sheet_65 rfl 2 rfl ?_
              refine J_if_ne E (tgt := 73) dX5_sheet_66 (by decide) (fun c_66 => ?_) (fun c_66 => ?_)
              · skip
                have n_66 : ¬ 8 = 0 := cmp_ne (a := 8) (b := 0) (by omega) (by omega) c_66
                refine J_iload_n E dX5_sheet_73 rfl 3 rfl ?_
                refine J_sv11 E (As := [.int 8, .int n]) (c_X2_begin l G (sh a 37) (x 11) 8 n ) cl_X5_205 yo_X2_begin dX5_sheet_74 rfl (Nat.le_of_ble_eq_true rfl) (Nat.le_of_ble_eq_true rfl) rfl (Nat.le_of_ble_eq_true rfl) ⟨Nat.zero_le _, Nat.zero_le _⟩ ?_
                refine J_aload_n E dX5_sheet_77 rfl 0 rfl ?_
                refine gC0_X5_44 E dX5_sheet_78 ?_
                refine J_iload_n E dX5_sheet_81 rfl 1 rfl ?_
                refine laC_30_3 E dX5_sheet_82 ?_
                refine gC37_X5_208 E dX5_sheet_83 ?_
                refine J_top (x' := (beginS (x 11) 8 n) 1 1) upG_s ?_
                exact ret _ _ _ _ ⟨by rfl, _, rfl, by intro g h2 h6; simp [upG, up3, up3R, h2, h6]⟩ rfl dX5_sheet_86
              · skip
                have n_66 : 8 = 0 := cmp_eq (a := 8) (b := 0) (by omega) (by omega) c_66
                exact absurd n_66 (by decide)
            · skip
              exact absurd hn2 c_49
          · skip
            exact absurd (Int32.not_le.mp c_36) hn
        · skip
          have n_14 : ¬ 8 = 8 := cmp_ne (a := 8) (b := 8) (by omega) (by omega) c_14
          exact absurd n_14 (by decide)
  · skip
    refine J_iload_n E dX5_sheet_0 rfl 1 rfl ?_
    refine J_cSiN E (As := [.int (nI 3)]) (c_X5_isSheet l G (nI 3) ) cl_X5_202 yo_X5_isSheet dX5_sheet_1 rfl (Nat.le_of_ble_eq_true rfl) (Nat.le_of_ble_eq_true rfl) rfl (Nat.le_of_ble_eq_true rfl) ⟨Nat.zero_le _, Nat.zero_le _⟩ ?_
    refine J_if_eq E (tgt := 29) dX5_sheet_4 (by decide) (fun c_4 => ?_) (fun c_4 => ?_)
    · skip
      have c_4 := bI_0 c_4
      exact absurd (in3 (by decide)) c_4
    · skip
      have c_4 := bI_1 c_4
      refine J_iload_n E dX5_sheet_7 rfl 2 rfl ?_
      refine J_if_eq E (tgt := 35) dX5_sheet_8 (by decide) (fun c_8 => ?_) (fun c_8 => ?_)
      · skip
        have n_8 : 16 = 0 := cmp_eq (a := 16) (b := 0) (by omega) (by omega) c_8
        exact absurd n_8 (by decide)
      · skip
        have n_8 : ¬ 16 = 0 := cmp_ne (a := 16) (b := 0) (by omega) (by omega) c_8
        refine J_iload_n E dX5_sheet_11 rfl 2 rfl ?_
        refine J_bipush E dX5_sheet_12 bp_8 ?_
        refine J_icmp_eq E (tgt := 35) dX5_sheet_14 (by decide) (fun c_14 => ?_) (fun c_14 => ?_)
        · skip
          have n_14 : 16 = 8 := cmp_eq (a := 16) (b := 8) (by omega) (by omega) c_14
          exact absurd n_14 (by decide)
        · skip
          have n_14 : ¬ 16 = 8 := cmp_ne (a := 16) (b := 8) (by omega) (by omega) c_14
          refine J_iload_n E dX5_sheet_17 rfl 2 rfl ?_
          refine J_bipush E dX5_sheet_18 bp_16 ?_
          refine J_icmp_eq E (tgt := 35) dX5_sheet_20 (by decide) (fun c_20 => ?_) (fun c_20 => ?_)
          · skip
            have n_20 : 16 = 16 := cmp_eq (a := 16) (b := 16) (by omega) (by omega) c_20
            refine J_iload_n E dX5_sheet_35 rfl 3 rfl ?_
            refine J_if_ge E (tgt := 46) dX5_sheet_36 (by decide) (fun c_36 => ?_) (fun c_36 => ?_)
            · skip
              refine J_iload_n E dX5_sheet_46 rfl 3 rfl ?_
              refine J_bipush E dX5_sheet_47 bp_40 ?_
              refine J_icmp_le E (tgt := 58) dX5_sheet_49 (by decide) (fun c_49 => ?_) (fun c_49 => ?_)
              · skip
                refine J_aload_n E dX5_sheet_58 rfl 0 rfl ?_
                refine gC0_X5_44 E dX5_sheet_59 ?_
                refine J_iload_n E dX5_sheet_62 rfl 1 rfl ?_
                refine laC_30_3 E dX5_sheet_63 ?_
                refine J_iload_n E dX5_sheet_64 rfl 2 rfl ?_
                refine J_iload_n E dX5_sheet_65 rfl 2 rfl ?_
                refine J_if_ne E (tgt := 73) dX5_sheet_66 (by decide) (fun c_66 => ?_) (fun c_66 => ?_)
                · skip
                  have n_66 : ¬ 16 = 0 := cmp_ne (a := 16) (b := 0) (by omega) (by omega) c_66
                  refine J_iload_n E dX5_sheet_73 rfl 3 rfl ?_
                  refine J_sv11 E (As := [.int 16, .int n]) (c_X2_begin l G (sh a 37) (x 11) 16 n ) cl_X5_205 yo_X2_begin dX5_sheet_74 rfl (Nat.le_of_ble_eq_true rfl) (Nat.le_of_ble_eq_true rfl) rfl (Nat.le_of_ble_eq_true rfl) ⟨Nat.zero_le _, Nat.zero_le _⟩ ?_
                  refine J_aload_n E dX5_sheet_77 rfl 0 rfl ?_
                  refine gC0_X5_44 E dX5_sheet_78 ?_
                  refine J_iload_n E dX5_sheet_81 rfl 1 rfl ?_
                  refine laC_30_3 E dX5_sheet_82 ?_
                  refine gC37_X5_208 E dX5_sheet_83 ?_
                  refine J_top (x' := (beginS (x 11) 16 n) 1 1) upG_s ?_
                  exact ret _ _ _ _ ⟨by rfl, _, rfl, by intro g h2 h6; simp [upG, up3, up3R, h2, h6]⟩ rfl dX5_sheet_86
                · skip
                  have n_66 : 16 = 0 := cmp_eq (a := 16) (b := 0) (by omega) (by omega) c_66
                  exact absurd n_66 (by decide)
              · skip
                exact absurd hn2 c_49
            · skip
              exact absurd (Int32.not_le.mp c_36) hn
          · skip
            have n_20 : ¬ 16 = 16 := cmp_ne (a := 16) (b := 16) (by omega) (by omega) c_20
            exact absurd n_20 (by decide)
  · skip
    refine J_iload_n E dX5_sheet_0 rfl 1 rfl ?_
    refine J_cSiN E (As := [.int (nI 3)]) (c_X5_isSheet l G (nI 3) ) cl_X5_202 yo_X5_isSheet dX5_sheet_1 rfl (Nat.le_of_ble_eq_true rfl) (Nat.le_of_ble_eq_true rfl) rfl (Nat.le_of_ble_eq_true rfl) ⟨Nat.zero_le _, Nat.zero_le _⟩ ?_
    refine J_if_eq E (tgt := 29) dX5_sheet_4 (by decide) (fun c_4 => ?_) (fun c_4 => ?_)
    · skip
      have c_4 := bI_0 c_4
      exact absurd (in3 (by decide)) c_4
    · skip
      have c_4 := bI_1 c_4
      refine J_iload_n E dX5_sheet_7 rfl 2 rfl ?_
      refine J_if_eq E (tgt := 35) dX5_sheet_8 (by decide) (fun c_8 => ?_) (fun c_8 => ?_)
      · skip
        have n_8 : 32 = 0 := cmp_eq (a := 32) (b := 0) (by omega) (by omega) c_8
        exact absurd n_8 (by decide)
      · skip
        have n_8 : ¬ 32 = 0 := cmp_ne (a := 32) (b := 0) (by omega) (by omega) c_8
        refine J_iload_n E dX5_sheet_11 rfl 2 rfl ?_
        refine J_bipush E dX5_sheet_12 bp_8 ?_
        refine J_icmp_eq E (tgt := 35) dX5_sheet_14 (by decide) (fun c_14 => ?_) (fun c_14 => ?_)
        · skip
          have n_14 : 32 = 8 := cmp_eq (a := 32) (b := 8) (by omega) (by omega) c_14
          exact absurd n_14 (by decide)
        · skip
          have n_14 : ¬ 32 = 8 := cmp_ne (a := 32) (b := 8) (by omega) (by omega) c_14
          refine J_iload_n E dX5_sheet_17 rfl 2 rfl ?_
          refine J_bipush E dX5_sheet_18 bp_16 ?_
          refine J_icmp_eq E (tgt := 35) dX5_sheet_20 (by decide) (fun c_20 => ?_) (fun c_20 => ?_)
          · skip
            have n_20 : 32 = 16 := cmp_eq (a := 32) (b := 16) (by omega) (by omega) c_20
            exact absurd n_20 (by decide)
          · skip
            have n_20 : ¬ 32 = 16 := cmp_ne (a := 32) (b := 16) (by omega) (by omega) c_20
            refine J_iload_n E dX5_sheet_23 rfl 2 rfl ?_
            refine J_bipush E dX5_sheet_24 bp_32 ?_
            refine J_icmp_eq E (tgt := 35) dX5_sheet_26 (by decide) (fun c_26 => ?_) (fun c_26 => ?_)
            · skip
              have n_26 : 32 = 32 := cmp_eq (a := 32) (b := 32) (by omega) (by omega) c_26
              refine J_iload_n E dX5_sheet_35 rfl 3 rfl ?_
              refine J_if_ge E (tgt := 46) dX5_sheet_36 (by decide) (fun c_36 => ?_) (fun c_36 => ?_)
              · skip
                refine J_iload_n E dX5_sheet_46 rfl 3 rfl ?_
                refine J_bipush E dX5_sheet_47 bp_40 ?_
                refine J_icmp_le E (tgt := 58) dX5_sheet_49 (by decide) (fun c_49 => ?_) (fun c_49 => ?_)
                · skip
                  refine J_aload_n E dX5_sheet_58 rfl 0 rfl ?_
                  refine gC0_X5_44 E dX5_sheet_59 ?_
                  refine J_iload_n E dX5_sheet_62 rfl 1 rfl ?_
                  refine laC_30_3 E dX5_sheet_63 ?_
                  refine J_iload_n E dX5_sheet_64 rfl 2 rfl ?_
                  refine J_iload_n E dX5_sheet_65 rfl 2 rfl ?_
                  refine J_if_ne E (tgt := 73) dX5_sheet_66 (by decide) (fun c_66 => ?_) (fun c_66 => ?_)
                  · skip
                    have n_66 : ¬ 32 = 0 := cmp_ne (a := 32) (b := 0) (by omega) (by omega) c_66
                    refine J_iload_n E dX5_sheet_73 rfl 3 rfl ?_
                    refine J_sv11 E (As := [.int 32, .int n]) (c_X2_begin l G (sh a 37) (x 11) 32 n ) cl_X5_205 yo_X2_begin dX5_sheet_74 rfl (Nat.le_of_ble_eq_true rfl) (Nat.le_of_ble_eq_true rfl) rfl (Nat.le_of_ble_eq_true rfl) ⟨Nat.zero_le _, Nat.zero_le _⟩ ?_
                    refine J_aload_n E dX5_sheet_77 rfl 0 rfl ?_
                    refine gC0_X5_44 E dX5_sheet_78 ?_
                    refine J_iload_n E dX5_sheet_81 rfl 1 rfl ?_
                    refine laC_30_3 E dX5_sheet_82 ?_
                    refine gC37_X5_208 E dX5_sheet_83 ?_
                    refine J_top (x' := (beginS (x 11) 32 n) 1 1) upG_s ?_
                    exact ret _ _ _ _ ⟨by rfl, _, rfl, by intro g h2 h6; simp [upG, up3, up3R, h2, h6]⟩ rfl dX5_sheet_86
                  · skip
                    have n_66 : 32 = 0 := cmp_eq (a := 32) (b := 0) (by omega) (by omega) c_66
                    exact absurd n_66 (by decide)
                · skip
                  exact absurd hn2 c_49
              · skip
                exact absurd (Int32.not_le.mp c_36) hn
            · skip
              have n_26 : ¬ 32 = 32 := cmp_ne (a := 32) (b := 32) (by omega) (by omega) c_26
              exact absurd n_26 (by decide)

set_option maxHeartbeats 4000000 in
set_option maxRecDepth 20000 in
theorem c_X5_write_out (l : Launch) (G : GB) (a : Nat → Nat) (x : Q3) (s : Int32) (i : Int32) (v : Int32) (hs : ¬ (0 ≤ s ∧ s ≤ 3)) : CI l yX5_write cX5_write 5 .int 3 62 G [.ref (a 0), .int s, .int i, .int v] (wC G a x) (fun vR w' => vR = tellR 0 ∧ PubC G a (tellX x 0) w') := by
  refine CI.mk (own := RX5) (by decide) rfl (Nat.le_of_ble_eq_true rfl) ?_
  intro X E ret
  show J X G 5 0 0 (wC G a x) [(0, .ref (a 0)), (1, .int s), (2, .int i), (3, .int v)] 0 []
  refine J_aload_n E dX5_write_0 rfl 0 rfl ?_
  refine J_iload_n E dX5_write_1 rfl 1 rfl ?_
  refine J_cVi0 E (As := [.int s]) (c_X5_seekSheet_out l G a x s hs ) cl_X5_170 yo_X5_seekSheet dX5_write_2 rfl rfl rfl (Nat.le_of_ble_eq_true rfl) (Nat.le_of_ble_eq_true rfl) rfl (Nat.le_of_ble_eq_true rfl) ⟨Nat.zero_le _, Nat.zero_le _⟩ ?_
  refine J_istore E (lv' := [(4, .int (tellR 0)), (0, .ref (a 0)), (1, .int s), (2, .int i), (3, .int v)]) dX5_write_5 (by decide) rfl ?_
  refine J_iload E dX5_write_7 0 rfl ?_
  refine J_if_eq E (tgt := 15) dX5_write_9 (by decide) (fun c_9 => ?_) (fun c_9 => ?_)
  · skip
    exact absurd c_9 (tellR_ne (by decide))
  · skip
    refine J_iload E dX5_write_12 0 rfl ?_
    exact ret _ _ _ _ ⟨rfl, _, rfl, by intro g h2 h6; simp [upG, up3, up3R, h2, h6]⟩ rfl dX5_write_14

set_option maxHeartbeats 4000000 in
set_option maxRecDepth 20000 in
theorem c_X5_write_miss_0 (l : Launch) (G : GB) (a : Nat → Nat) (x : Q3) (i : Int32) (v : Int32) (hb : x 8 1 0 = 0) : CI l yX5_write cX5_write 5 .int 3 62 G [.ref (a 0), .int (nI 0), .int i, .int v] (wC G a x) (fun vR w' => vR = tellR 5 ∧ PubC G a (tellX x 5) w') := by
  refine CI.mk (own := RX5) (by decide) rfl (Nat.le_of_ble_eq_true rfl) ?_
  intro X E ret
  show J X G 5 0 0 (wC G a x) [(0, .ref (a 0)), (1, .int (nI 0)), (2, .int i), (3, .int v)] 0 []
  refine J_aload_n E dX5_write_0 rfl 0 rfl ?_
  refine J_iload_n E dX5_write_1 rfl 1 rfl ?_
  refine J_cVi0 E (As := [.int (nI 0)]) (c_X5_seekSheet_0_0 l G a x hb ) cl_X5_170 yo_X5_seekSheet dX5_write_2 rfl rfl rfl (Nat.le_of_ble_eq_true rfl) (Nat.le_of_ble_eq_true rfl) rfl (Nat.le_of_ble_eq_true rfl) ⟨Nat.zero_le _, Nat.zero_le _⟩ ?_
  refine J_istore E (lv' := [(4, .int (tellR 5)), (0, .ref (a 0)), (1, .int (nI 0)), (2, .int i), (3, .int v)]) dX5_write_5 (by decide) rfl ?_
  refine J_iload E dX5_write_7 0 rfl ?_
  refine J_if_eq E (tgt := 15) dX5_write_9 (by decide) (fun c_9 => ?_) (fun c_9 => ?_)
  · skip
    exact absurd c_9 (tellR_ne (by decide))
  · skip
    refine J_iload E dX5_write_12 0 rfl ?_
    exact ret _ _ _ _ ⟨rfl, _, rfl, by intro g h2 h6; simp [upG, up3, up3R, h2, h6]⟩ rfl dX5_write_14

set_option maxHeartbeats 4000000 in
set_option maxRecDepth 20000 in
theorem c_X5_write_miss_1 (l : Launch) (G : GB) (a : Nat → Nat) (x : Q3) (i : Int32) (v : Int32) (hb : x 9 1 0 = 0) : CI l yX5_write cX5_write 5 .int 3 62 G [.ref (a 0), .int (nI 1), .int i, .int v] (wC G a x) (fun vR w' => vR = tellR 5 ∧ PubC G a (tellX x 5) w') := by
  refine CI.mk (own := RX5) (by decide) rfl (Nat.le_of_ble_eq_true rfl) ?_
  intro X E ret
  show J X G 5 0 0 (wC G a x) [(0, .ref (a 0)), (1, .int (nI 1)), (2, .int i), (3, .int v)] 0 []
  refine J_aload_n E dX5_write_0 rfl 0 rfl ?_
  refine J_iload_n E dX5_write_1 rfl 1 rfl ?_
  refine J_cVi0 E (As := [.int (nI 1)]) (c_X5_seekSheet_1_0 l G a x hb ) cl_X5_170 yo_X5_seekSheet dX5_write_2 rfl rfl rfl (Nat.le_of_ble_eq_true rfl) (Nat.le_of_ble_eq_true rfl) rfl (Nat.le_of_ble_eq_true rfl) ⟨Nat.zero_le _, Nat.zero_le _⟩ ?_
  refine J_istore E (lv' := [(4, .int (tellR 5)), (0, .ref (a 0)), (1, .int (nI 1)), (2, .int i), (3, .int v)]) dX5_write_5 (by decide) rfl ?_
  refine J_iload E dX5_write_7 0 rfl ?_
  refine J_if_eq E (tgt := 15) dX5_write_9 (by decide) (fun c_9 => ?_) (fun c_9 => ?_)
  · skip
    exact absurd c_9 (tellR_ne (by decide))
  · skip
    refine J_iload E dX5_write_12 0 rfl ?_
    exact ret _ _ _ _ ⟨rfl, _, rfl, by intro g h2 h6; simp [upG, up3, up3R, h2, h6]⟩ rfl dX5_write_14

set_option maxHeartbeats 4000000 in
set_option maxRecDepth 20000 in
theorem c_X5_write_miss_2 (l : Launch) (G : GB) (a : Nat → Nat) (x : Q3) (i : Int32) (v : Int32) (hb : x 10 1 0 = 0) : CI l yX5_write cX5_write 5 .int 3 62 G [.ref (a 0), .int (nI 2), .int i, .int v] (wC G a x) (fun vR w' => vR = tellR 5 ∧ PubC G a (tellX x 5) w') := by
  refine CI.mk (own := RX5) (by decide) rfl (Nat.le_of_ble_eq_true rfl) ?_
  intro X E ret
  show J X G 5 0 0 (wC G a x) [(0, .ref (a 0)), (1, .int (nI 2)), (2, .int i), (3, .int v)] 0 []
  refine J_aload_n E dX5_write_0 rfl 0 rfl ?_
  refine J_iload_n E dX5_write_1 rfl 1 rfl ?_
  refine J_cVi0 E (As := [.int (nI 2)]) (c_X5_seekSheet_2_0 l G a x hb ) cl_X5_170 yo_X5_seekSheet dX5_write_2 rfl rfl rfl (Nat.le_of_ble_eq_true rfl) (Nat.le_of_ble_eq_true rfl) rfl (Nat.le_of_ble_eq_true rfl) ⟨Nat.zero_le _, Nat.zero_le _⟩ ?_
  refine J_istore E (lv' := [(4, .int (tellR 5)), (0, .ref (a 0)), (1, .int (nI 2)), (2, .int i), (3, .int v)]) dX5_write_5 (by decide) rfl ?_
  refine J_iload E dX5_write_7 0 rfl ?_
  refine J_if_eq E (tgt := 15) dX5_write_9 (by decide) (fun c_9 => ?_) (fun c_9 => ?_)
  · skip
    exact absurd c_9 (tellR_ne (by decide))
  · skip
    refine J_iload E dX5_write_12 0 rfl ?_
    exact ret _ _ _ _ ⟨rfl, _, rfl, by intro g h2 h6; simp [upG, up3, up3R, h2, h6]⟩ rfl dX5_write_14

set_option maxHeartbeats 4000000 in
set_option maxRecDepth 20000 in
theorem c_X5_write_miss_3 (l : Launch) (G : GB) (a : Nat → Nat) (x : Q3) (i : Int32) (v : Int32) (hb : x 11 1 0 = 0) : CI l yX5_write cX5_write 5 .int 3 62 G [.ref (a 0), .int (nI 3), .int i, .int v] (wC G a x) (fun vR w' => vR = tellR 5 ∧ PubC G a (tellX x 5) w') := by
  refine CI.mk (own := RX5) (by decide) rfl (Nat.le_of_ble_eq_true rfl) ?_
  intro X E ret
  show J X G 5 0 0 (wC G a x) [(0, .ref (a 0)), (1, .int (nI 3)), (2, .int i), (3, .int v)] 0 []
  refine J_aload_n E dX5_write_0 rfl 0 rfl ?_
  refine J_iload_n E dX5_write_1 rfl 1 rfl ?_
  refine J_cVi0 E (As := [.int (nI 3)]) (c_X5_seekSheet_3_0 l G a x hb ) cl_X5_170 yo_X5_seekSheet dX5_write_2 rfl rfl rfl (Nat.le_of_ble_eq_true rfl) (Nat.le_of_ble_eq_true rfl) rfl (Nat.le_of_ble_eq_true rfl) ⟨Nat.zero_le _, Nat.zero_le _⟩ ?_
  refine J_istore E (lv' := [(4, .int (tellR 5)), (0, .ref (a 0)), (1, .int (nI 3)), (2, .int i), (3, .int v)]) dX5_write_5 (by decide) rfl ?_
  refine J_iload E dX5_write_7 0 rfl ?_
  refine J_if_eq E (tgt := 15) dX5_write_9 (by decide) (fun c_9 => ?_) (fun c_9 => ?_)
  · skip
    exact absurd c_9 (tellR_ne (by decide))
  · skip
    refine J_iload E dX5_write_12 0 rfl ?_
    exact ret _ _ _ _ ⟨rfl, _, rfl, by intro g h2 h6; simp [upG, up3, up3R, h2, h6]⟩ rfl dX5_write_14

set_option maxHeartbeats 4000000 in
set_option maxRecDepth 20000 in
theorem c_X5_write_bad_0 (l : Launch) (G : GB) (a : Nat → Nat) (x : Q3) (i v : Int32) (hb : ¬ x 8 1 0 = 0) (hi : ¬ (0 ≤ i ∧ i < x 8 1 1)) : CI l yX5_write cX5_write 5 .int 3 62 G [.ref (a 0), .int (nI 0), .int i, .int v] (wC G a x) (fun vR w' => vR = tellR 0 ∧ PubC G a (tellX x 0) w') := by
  refine CI.mk (own := RX5) (by decide) rfl (Nat.le_of_ble_eq_true rfl) ?_
  intro X E ret
  show J X G 5 0 0 (wC G a x) [(0, .ref (a 0)), (1, .int (nI 0)), (2, .int i), (3, .int v)] 0 []
  refine J_aload_n E dX5_write_0 rfl 0 rfl ?_
  refine J_iload_n E dX5_write_1 rfl 1 rfl ?_
  refine J_cVi0 E (As := [.int (nI 0)]) (c_X5_seekSheet_0_1 l G a x hb ) cl_X5_170 yo_X5_seekSheet dX5_write_2 rfl rfl rfl (Nat.le_of_ble_eq_true rfl) (Nat.le_of_ble_eq_true rfl) rfl (Nat.le_of_ble_eq_true rfl) ⟨Nat.zero_le _, Nat.zero_le _⟩ ?_
  refine J_istore E (lv' := [(4, .int 0), (0, .ref (a 0)), (1, .int (nI 0)), (2, .int i), (3, .int v)]) dX5_write_5 (by decide) rfl ?_
  refine J_iload E dX5_write_7 0 rfl ?_
  refine J_if_eq E (tgt := 15) dX5_write_9 (by decide) (fun c_9 => ?_) (fun c_9 => ?_)
  · skip
    have n_9 : 0 = 0 := cmp_eq (a := 0) (b := 0) (by omega) (by omega) c_9
    refine J_iload_n E dX5_write_15 rfl 3 rfl ?_
    refine J_if_lt E (tgt := 32) dX5_write_16 (by decide) (fun c_16 => ?_) (fun c_16 => ?_)
    · skip
      refine J_aload_n E dX5_write_32 rfl 1 rfl ?_
      refine J_iconst E dX5_write_33 ic_0 ?_
      refine J_cVi0 E (As := [.int 0]) (c_X5_tell l G a x 0 (by omega)) cl_X5_64 yo_X5_tell dX5_write_34 rfl rfl rfl (Nat.le_of_ble_eq_true rfl) (Nat.le_of_ble_eq_true rfl) rfl (Nat.le_of_ble_eq_true rfl) ⟨Nat.zero_le _, Nat.zero_le _⟩ ?_
      exact ret _ _ _ _ ⟨rfl, _, rfl, by intro g h2 h6; simp [upG, up3, up3R, h2, h6]⟩ rfl dX5_write_37
    · skip
      refine J_iload_n E dX5_write_19 rfl 3 rfl ?_
      refine J_aload_n E dX5_write_20 rfl 1 rfl ?_
      refine gC0_X5_44 E dX5_write_21 ?_
      refine J_iload_n E dX5_write_24 rfl 2 rfl ?_
      refine laC_30_0 E dX5_write_25 ?_
      refine gC31_X5_208 E dX5_write_26 ?_
      refine J_icmp_lt E (tgt := 38) dX5_write_29 (by decide) (fun c_29 => ?_) (fun c_29 => ?_)
      · skip
        exact absurd ⟨Int32.not_lt.mp c_16, c_29⟩ hi
      · skip
        refine J_aload_n E dX5_write_32 rfl 1 rfl ?_
        refine J_iconst E dX5_write_33 ic_0 ?_
        refine J_cVi0 E (As := [.int 0]) (c_X5_tell l G a x 0 (by omega)) cl_X5_64 yo_X5_tell dX5_write_34 rfl rfl rfl (Nat.le_of_ble_eq_true rfl) (Nat.le_of_ble_eq_true rfl) rfl (Nat.le_of_ble_eq_true rfl) ⟨Nat.zero_le _, Nat.zero_le _⟩ ?_
        exact ret _ _ _ _ ⟨rfl, _, rfl, by intro g h2 h6; simp [upG, up3, up3R, h2, h6]⟩ rfl dX5_write_37
  · skip
    have n_9 : ¬ 0 = 0 := cmp_ne (a := 0) (b := 0) (by omega) (by omega) c_9
    exact absurd n_9 (by decide)

set_option maxHeartbeats 4000000 in
set_option maxRecDepth 20000 in
theorem c_X5_write_ok_0 (l : Launch) (G : GB) (a : Nat → Nat) (x : Q3) (j n : Nat) (v : Int32) (hb : ¬ x 8 1 0 = 0) (hn : x 8 1 1 = nI n) (hn2 : n ≤ 40) (hj : j < n) : CI l yX5_write cX5_write 5 .int 3 62 G [.ref (a 0), .int (nI 0), .int (nI j), .int v] (wC G a x) (fun vR w' => vR = 1 ∧ PubC G a (upG x 8 (up2 (x 8) 0 j (narS (x 8 1 0) v))) w') := by
  refine CI.mk (own := RX5) (by decide) rfl (Nat.le_of_ble_eq_true rfl) ?_
  intro X E ret
  show J X G 5 0 0 (wC G a x) [(0, .ref (a 0)), (1, .int (nI 0)), (2, .int (nI j)), (3, .int v)] 0 []
  refine J_aload_n E dX5_write_0 rfl 0 rfl ?_
  refine J_iload_n E dX5_write_1 rfl 1 rfl ?_
  refine J_cVi0 E (As := [.int (nI 0)]) (c_X5_seekSheet_0_1 l G a x hb ) cl_X5_170 yo_X5_seekSheet dX5_write_2 rfl rfl rfl (Nat.le_of_ble_eq_true rfl) (Nat.le_of_ble_eq_true rfl) rfl (Nat.le_of_ble_eq_true rfl) ⟨Nat.zero_le _, Nat.zero_le _⟩ ?_
  refine J_istore E (lv' := [(4, .int 0), (0, .ref (a 0)), (1, .int (nI 0)), (2, .int (nI j)), (3, .int v)]) dX5_write_5 (by decide) rfl ?_
  refine J_iload E dX5_write_7 0 rfl ?_
  refine J_if_eq E (tgt := 15) dX5_write_9 (by decide) (fun c_9 => ?_) (fun c_9 => ?_)
  · skip
    have n_9 : 0 = 0 := cmp_eq (a := 0) (b := 0) (by omega) (by omega) c_9
    refine J_iload_n E dX5_write_15 rfl 3 rfl ?_
    refine J_if_lt E (tgt := 32) dX5_write_16 (by decide) (fun c_16 => ?_) (fun c_16 => ?_)
    · skip
      have n_16 : j < 0 := cmp_lt (a := j) (b := 0) (by omega) (by omega) c_16
      exact absurd n_16 (by omega)
    · skip
      have n_16 : ¬ j < 0 := cmp_nlt (a := j) (b := 0) (by omega) (by omega) c_16
      refine J_iload_n E dX5_write_19 rfl 3 rfl ?_
      refine J_aload_n E dX5_write_20 rfl 1 rfl ?_
      refine gC0_X5_44 E dX5_write_21 ?_
      refine J_iload_n E dX5_write_24 rfl 2 rfl ?_
      refine laC_30_0 E dX5_write_25 ?_
      refine gC31_X5_208 E dX5_write_26 ?_
      refine J_top (x' := nI n) (hn) ?_
      refine J_icmp_lt E (tgt := 38) dX5_write_29 (by decide) (fun c_29 => ?_) (fun c_29 => ?_)
      · skip
        have n_29 : j < n := cmp_lt (a := j) (b := n) (by omega) (by omega) c_29
        refine J_aload_n E dX5_write_38 rfl 1 rfl ?_
        refine gC0_X5_44 E dX5_write_39 ?_
        refine J_iload_n E dX5_write_42 rfl 2 rfl ?_
        refine laC_30_0 E dX5_write_43 ?_
        refine J_iload_n E dX5_write_44 rfl 3 rfl ?_
        refine J_iload_n E dX5_write_45 rfl 4 rfl ?_
        refine J_sv8 E (As := [.int (nI j), .int v]) (c_X2_put l G (sh a 31) (x 8) j v (by omega)) cl_X5_209 yo_X2_put dX5_write_46 rfl (Nat.le_of_ble_eq_true rfl) (Nat.le_of_ble_eq_true rfl) rfl (Nat.le_of_ble_eq_true rfl) ⟨Nat.zero_le _, Nat.zero_le _⟩ ?_
        refine J_iconst E dX5_write_49 ic_1 ?_
        exact ret _ _ _ _ ⟨rfl, _, rfl, by intro g h2 h6; simp [upG, up3, up3R, h2, h6]⟩ rfl dX5_write_50
      · skip
        have n_29 : ¬ j < n := cmp_nlt (a := j) (b := n) (by omega) (by omega) c_29
        exact absurd hj n_29
  · skip
    have n_9 : ¬ 0 = 0 := cmp_ne (a := 0) (b := 0) (by omega) (by omega) c_9
    exact absurd n_9 (by decide)

set_option maxHeartbeats 4000000 in
set_option maxRecDepth 20000 in
theorem c_X5_write_bad_1 (l : Launch) (G : GB) (a : Nat → Nat) (x : Q3) (i v : Int32) (hb : ¬ x 9 1 0 = 0) (hi : ¬ (0 ≤ i ∧ i < x 9 1 1)) : CI l yX5_write cX5_write 5 .int 3 62 G [.ref (a 0), .int (nI 1), .int i, .int v] (wC G a x) (fun vR w' => vR = tellR 0 ∧ PubC G a (tellX x 0) w') := by
  refine CI.mk (own := RX5) (by decide) rfl (Nat.le_of_ble_eq_true rfl) ?_
  intro X E ret
  show J X G 5 0 0 (wC G a x) [(0, .ref (a 0)), (1, .int (nI 1)), (2, .int i), (3, .int v)] 0 []
  refine J_aload_n E dX5_write_0 rfl 0 rfl ?_
  refine J_iload_n E dX5_write_1 rfl 1 rfl ?_
  refine J_cVi0 E (As := [.int (nI 1)]) (c_X5_seekSheet_1_1 l G a x hb ) cl_X5_170 yo_X5_seekSheet dX5_write_2 rfl rfl rfl (Nat.le_of_ble_eq_true rfl) (Nat.le_of_ble_eq_true rfl) rfl (Nat.le_of_ble_eq_true rfl) ⟨Nat.zero_le _, Nat.zero_le _⟩ ?_
  refine J_istore E (lv' := [(4, .int 0), (0, .ref (a 0)), (1, .int (nI 1)), (2, .int i), (3, .int v)]) dX5_write_5 (by decide) rfl ?_
  refine J_iload E dX5_write_7 0 rfl ?_
  refine J_if_eq E (tgt := 15) dX5_write_9 (by decide) (fun c_9 => ?_) (fun c_9 => ?_)
  · skip
    have n_9 : 0 = 0 := cmp_eq (a := 0) (b := 0) (by omega) (by omega) c_9
    refine J_iload_n E dX5_write_15 rfl 3 rfl ?_
    refine J_if_lt E (tgt := 32) dX5_write_16 (by decide) (fun c_16 => ?_) (fun c_16 => ?_)
    · skip
      refine J_aload_n E dX5_write_32 rfl 1 rfl ?_
      refine J_iconst E dX5_write_33 ic_0 ?_
      refine J_cVi0 E (As := [.int 0]) (c_X5_tell l G a x 0 (by omega)) cl_X5_64 yo_X5_tell dX5_write_34 rfl rfl rfl (Nat.le_of_ble_eq_true rfl) (Nat.le_of_ble_eq_true rfl) rfl (Nat.le_of_ble_eq_true rfl) ⟨Nat.zero_le _, Nat.zero_le _⟩ ?_
      exact ret _ _ _ _ ⟨rfl, _, rfl, by intro g h2 h6; simp [upG, up3, up3R, h2, h6]⟩ rfl dX5_write_37
    · skip
      refine J_iload_n E dX5_write_19 rfl 3 rfl ?_
      refine J_aload_n E dX5_write_20 rfl 1 rfl ?_
      refine gC0_X5_44 E dX5_write_21 ?_
      refine J_iload_n E dX5_write_24 rfl 2 rfl ?_
      refine laC_30_1 E dX5_write_25 ?_
      refine gC33_X5_208 E dX5_write_26 ?_
      refine J_icmp_lt E (tgt := 38) dX5_write_29 (by decide) (fun c_29 => ?_) (fun c_29 => ?_)
      · skip
        exact absurd ⟨Int32.not_lt.mp c_16, c_29⟩ hi
      · skip
        refine J_aload_n E dX5_write_32 rfl 1 rfl ?_
        refine J_iconst E dX5_write_33 ic_0 ?_
        refine J_cVi0 E (As := [.int 0]) (c_X5_tell l G a x 0 (by omega)) cl_X5_64 yo_X5_tell dX5_write_34 rfl rfl rfl (Nat.le_of_ble_eq_true rfl) (Nat.le_of_ble_eq_true rfl) rfl (Nat.le_of_ble_eq_true rfl) ⟨Nat.zero_le _, Nat.zero_le _⟩ ?_
        exact ret _ _ _ _ ⟨rfl, _, rfl, by intro g h2 h6; simp [upG, up3, up3R, h2, h6]⟩ rfl dX5_write_37
  · skip
    have n_9 : ¬ 0 = 0 := cmp_ne (a := 0) (b := 0) (by omega) (by omega) c_9
    exact absurd n_9 (by decide)

set_option maxHeartbeats 4000000 in
set_option maxRecDepth 20000 in
theorem c_X5_write_ok_1 (l : Launch) (G : GB) (a : Nat → Nat) (x : Q3) (j n : Nat) (v : Int32) (hb : ¬ x 9 1 0 = 0) (hn : x 9 1 1 = nI n) (hn2 : n ≤ 40) (hj : j < n) : CI l yX5_write cX5_write 5 .int 3 62 G [.ref (a 0), .int (nI 1), .int (nI j), .int v] (wC G a x) (fun vR w' => vR = 1 ∧ PubC G a (upG x 9 (up2 (x 9) 0 j (narS (x 9 1 0) v))) w') := by
  refine CI.mk (own := RX5) (by decide) rfl (Nat.le_of_ble_eq_true rfl) ?_
  intro X E ret
  show J X G 5 0 0 (wC G a x) [(0, .ref (a 0)), (1, .int (nI 1)), (2, .int (nI j)), (3, .int v)] 0 []
  refine J_aload_n E dX5_write_0 rfl 0 rfl ?_
  refine J_iload_n E dX5_write_1 rfl 1 rfl ?_
  refine J_cVi0 E (As := [.int (nI 1)]) (c_X5_seekSheet_1_1 l G a x hb ) cl_X5_170 yo_X5_seekSheet dX5_write_2 rfl rfl rfl (Nat.le_of_ble_eq_true rfl) (Nat.le_of_ble_eq_true rfl) rfl (Nat.le_of_ble_eq_true rfl) ⟨Nat.zero_le _, Nat.zero_le _⟩ ?_
  refine J_istore E (lv' := [(4, .int 0), (0, .ref (a 0)), (1, .int (nI 1)), (2, .int (nI j)), (3, .int v)]) dX5_write_5 (by decide) rfl ?_
  refine J_iload E dX5_write_7 0 rfl ?_
  refine J_if_eq E (tgt := 15) dX5_write_9 (by decide) (fun c_9 => ?_) (fun c_9 => ?_)
  · skip
    have n_9 : 0 = 0 := cmp_eq (a := 0) (b := 0) (by omega) (by omega) c_9
    refine J_iload_n E dX5_write_15 rfl 3 rfl ?_
    refine J_if_lt E (tgt := 32) dX5_write_16 (by decide) (fun c_16 => ?_) (fun c_16 => ?_)
    · skip
      have n_16 : j < 0 := cmp_lt (a := j) (b := 0) (by omega) (by omega) c_16
      exact absurd n_16 (by omega)
    · skip
      have n_16 : ¬ j < 0 := cmp_nlt (a := j) (b := 0) (by omega) (by omega) c_16
      refine J_iload_n E dX5_write_19 rfl 3 rfl ?_
      refine J_aload_n E dX5_write_20 rfl 1 rfl ?_
      refine gC0_X5_44 E dX5_write_21 ?_
      refine J_iload_n E dX5_write_24 rfl 2 rfl ?_
      refine laC_30_1 E dX5_write_25 ?_
      refine gC33_X5_208 E dX5_write_26 ?_
      refine J_top (x' := nI n) (hn) ?_
      refine J_icmp_lt E (tgt := 38) dX5_write_29 (by decide) (fun c_29 => ?_) (fun c_29 => ?_)
      · skip
        have n_29 : j < n := cmp_lt (a := j) (b := n) (by omega) (by omega) c_29
        refine J_aload_n E dX5_write_38 rfl 1 rfl ?_
        refine gC0_X5_44 E dX5_write_39 ?_
        refine J_iload_n E dX5_write_42 rfl 2 rfl ?_
        refine laC_30_1 E dX5_write_43 ?_
        refine J_iload_n E dX5_write_44 rfl 3 rfl ?_
        refine J_iload_n E dX5_write_45 rfl 4 rfl ?_
        refine J_sv9 E (As := [.int (nI j), .int v]) (c_X2_put l G (sh a 33) (x 9) j v (by omega)) cl_X5_209 yo_X2_put dX5_write_46 rfl (Nat.le_of_ble_eq_true rfl) (Nat.le_of_ble_eq_true rfl) rfl (Nat.le_of_ble_eq_true rfl) ⟨Nat.zero_le _, Nat.zero_le _⟩ ?_
        refine J_iconst E dX5_write_49 ic_1 ?_
        exact ret _ _ _ _ ⟨rfl, _, rfl, by intro g h2 h6; simp [upG, up3, up3R, h2, h6]⟩ rfl dX5_write_50
      · skip
        have n_29 : ¬ j < n := cmp_nlt (a := j) (b := n) (by omega) (by omega) c_29
        exact absurd hj n_29
  · skip
    have n_9 : ¬ 0 = 0 := cmp_ne (a := 0) (b := 0) (by omega) (by omega) c_9
    exact absurd n_9 (by decide)

set_option maxHeartbeats 4000000 in
set_option maxRecDepth 20000 in
theorem c_X5_write_bad_2 (l : Launch) (G : GB) (a : Nat → Nat) (x : Q3) (i v : Int32) (hb : ¬ x 10 1 0 = 0) (hi : ¬ (0 ≤ i ∧ i < x 10 1 1)) : CI l yX5_write cX5_write 5 .int 3 62 G [.ref (a 0), .int (nI 2), .int i, .int v] (wC G a x) (fun vR w' => vR = tellR 0 ∧ PubC G a (tellX x 0) w') := by
  refine CI.mk (own := RX5) (by decide) rfl (Nat.le_of_ble_eq_true rfl) ?_
  intro X E ret
  show J X G 5 0 0 (wC G a x) [(0, .ref (a 0)), (1, .int (nI 2)), (2, .int i), (3, .int v)] 0 []
  refine J_aload_n E dX5_write_0 rfl 0 rfl ?_
  refine J_iload_n E dX5_write_1 rfl 1 rfl ?_
  refine J_cVi0 E (As := [.int (nI 2)]) (c_X5_seekSheet_2_1 l G a x hb ) cl_X5_170 yo_X5_seekSheet dX5_write_2 rfl rfl rfl (Nat.le_of_ble_eq_true rfl) (Nat.le_of_ble_eq_true rfl) rfl (Nat.le_of_ble_eq_true rfl) ⟨Nat.zero_le _, Nat.zero_le _⟩ ?_
  refine J_istore E (lv' := [(4, .int 0), (0, .ref (a 0)), (1, .int (nI 2)), (2, .int i), (3, .int v)]) dX5_write_5 (by decide) rfl ?_
  refine J_iload E dX5_write_7 0 rfl ?_
  refine J_if_eq E (tgt := 15) dX5_write_9 (by decide) (fun c_9 => ?_) (fun c_9 => ?_)
  · skip
    have n_9 : 0 = 0 := cmp_eq (a := 0) (b := 0) (by omega) (by omega) c_9
    refine J_iload_n E dX5_write_15 rfl 3 rfl ?_
    refine J_if_lt E (tgt := 32) dX5_write_16 (by decide) (fun c_16 => ?_) (fun c_16 => ?_)
    · skip
      refine J_aload_n E dX5_write_32 rfl 1 rfl ?_
      refine J_iconst E dX5_write_33 ic_0 ?_
      refine J_cVi0 E (As := [.int 0]) (c_X5_tell l G a x 0 (by omega)) cl_X5_64 yo_X5_tell dX5_write_34 rfl rfl rfl (Nat.le_of_ble_eq_true rfl) (Nat.le_of_ble_eq_true rfl) rfl (Nat.le_of_ble_eq_true rfl) ⟨Nat.zero_le _, Nat.zero_le _⟩ ?_
      exact ret _ _ _ _ ⟨rfl, _, rfl, by intro g h2 h6; simp [upG, up3, up3R, h2, h6]⟩ rfl dX5_write_37
    · skip
      refine J_iload_n E dX5_write_19 rfl 3 rfl ?_
      refine J_aload_n E dX5_write_20 rfl 1 rfl ?_
      refine gC0_X5_44 E dX5_write_21 ?_
      refine J_iload_n E dX5_write_24 rfl 2 rfl ?_
      refine laC_30_2 E dX5_write_25 ?_
      refine gC35_X5_208 E dX5_write_26 ?_
      refine J_icmp_lt E (tgt := 38) dX5_write_29 (by decide) (fun c_29 => ?_) (fun c_29 => ?_)
      · skip
        exact absurd ⟨Int32.not_lt.mp c_16, c_29⟩ hi
      · skip
        refine J_aload_n E dX5_write_32 rfl 1 rfl ?_
        refine J_iconst E dX5_write_33 ic_0 ?_
        refine J_cVi0 E (As := [.int 0]) (c_X5_tell l G a x 0 (by omega)) cl_X5_64 yo_X5_tell dX5_write_34 rfl rfl rfl (Nat.le_of_ble_eq_true rfl) (Nat.le_of_ble_eq_true rfl) rfl (Nat.le_of_ble_eq_true rfl) ⟨Nat.zero_le _, Nat.zero_le _⟩ ?_
        exact ret _ _ _ _ ⟨rfl, _, rfl, by intro g h2 h6; simp [upG, up3, up3R, h2, h6]⟩ rfl dX5_write_37
  · skip
    have n_9 : ¬ 0 = 0 := cmp_ne (a := 0) (b := 0) (by omega) (by omega) c_9
    exact absurd n_9 (by decide)

set_option maxHeartbeats 4000000 in
set_option maxRecDepth 20000 in
theorem c_X5_write_ok_2 (l : Launch) (G : GB) (a : Nat → Nat) (x : Q3) (j n : Nat) (v : Int32) (hb : ¬ x 10 1 0 = 0) (hn : x 10 1 1 = nI n) (hn2 : n ≤ 40) (hj : j < n) : CI l yX5_write cX5_write 5 .int 3 62 G [.ref (a 0), .int (nI 2), .int (nI j), .int v] (wC G a x) (fun vR w' => vR = 1 ∧ PubC G a (upG x 10 (up2 (x 10) 0 j (narS (x 10 1 0) v))) w') := by
  refine CI.mk (own := RX5) (by decide) rfl (Nat.le_of_ble_eq_true rfl) ?_
  intro X E ret
  show J X G 5 0 0 (wC G a x) [(0, .ref (a 0)), (1, .int (nI 2)), (2, .int (nI j)), (3, .int v)] 0 []
  refine J_aload_n E dX5_write_0 rfl 0 rfl ?_
  refine J_iload_n E dX5_write_1 rfl 1 rfl ?_
  refine J_cVi0 E (As := [.int (nI 2)]) (c_X5_seekSheet_2_1 l G a x hb ) cl_X5_170 yo_X5_seekSheet dX5_write_2 rfl rfl rfl (Nat.le_of_ble_eq_true rfl) (Nat.le_of_ble_eq_true rfl) rfl (Nat.le_of_ble_eq_true rfl) ⟨Nat.zero_le _, Nat.zero_le _⟩ ?_
  refine J_istore E (lv' := [(4, .int 0), (0, .ref (a 0)), (1, .int (nI 2)), (2, .int (nI j)), (3, .int v)]) dX5_write_5 (by decide) rfl ?_
  refine J_iload E dX5_write_7 0 rfl ?_
  refine J_if_eq E (tgt := 15) dX5_write_9 (by decide) (fun c_9 => ?_) (fun c_9 => ?_)
  · skip
    have n_9 : 0 = 0 := cmp_eq (a := 0) (b := 0) (by omega) (by omega) c_9
    refine J_iload_n E dX5_write_15 rfl 3 rfl ?_
    refine J_if_lt E (tgt := 32) dX5_write_16 (by decide) (fun c_16 => ?_) (fun c_16 => ?_)
    · skip
      have n_16 : j < 0 := cmp_lt (a := j) (b := 0) (by omega) (by omega) c_16
      exact absurd n_16 (by omega)
    · skip
      have n_16 : ¬ j < 0 := cmp_nlt (a := j) (b := 0) (by omega) (by omega) c_16
      refine J_iload_n E dX5_write_19 rfl 3 rfl ?_
      refine J_aload_n E dX5_write_20 rfl 1 rfl ?_
      refine gC0_X5_44 E dX5_write_21 ?_
      refine J_iload_n E dX5_write_24 rfl 2 rfl ?_
      refine laC_30_2 E dX5_write_25 ?_
      refine gC35_X5_208 E dX5_write_26 ?_
      refine J_top (x' := nI n) (hn) ?_
      refine J_icmp_lt E (tgt := 38) dX5_write_29 (by decide) (fun c_29 => ?_) (fun c_29 => ?_)
      · skip
        have n_29 : j < n := cmp_lt (a := j) (b := n) (by omega) (by omega) c_29
        refine J_aload_n E dX5_write_38 rfl 1 rfl ?_
        refine gC0_X5_44 E dX5_write_39 ?_
        refine J_iload_n E dX5_write_42 rfl 2 rfl ?_
        refine laC_30_2 E dX5_write_43 ?_
        refine J_iload_n E dX5_write_44 rfl 3 rfl ?_
        refine J_iload_n E dX5_write_45 rfl 4 rfl ?_
        refine J_sv10 E (As := [.int (nI j), .int v]) (c_X2_put l G (sh a 35) (x 10) j v (by omega)) cl_X5_209 yo_X2_put dX5_write_46 rfl (Nat.le_of_ble_eq_true rfl) (Nat.le_of_ble_eq_true rfl) rfl (Nat.le_of_ble_eq_true rfl) ⟨Nat.zero_le _, Nat.zero_le _⟩ ?_
        refine J_iconst E dX5_write_49 ic_1 ?_
        exact ret _ _ _ _ ⟨rfl, _, rfl, by intro g h2 h6; simp [upG, up3, up3R, h2, h6]⟩ rfl dX5_write_50
      · skip
        have n_29 : ¬ j < n := cmp_nlt (a := j) (b := n) (by omega) (by omega) c_29
        exact absurd hj n_29
  · skip
    have n_9 : ¬ 0 = 0 := cmp_ne (a := 0) (b := 0) (by omega) (by omega) c_9
    exact absurd n_9 (by decide)

set_option maxHeartbeats 4000000 in
set_option maxRecDepth 20000 in
theorem c_X5_write_bad_3 (l : Launch) (G : GB) (a : Nat → Nat) (x : Q3) (i v : Int32) (hb : ¬ x 11 1 0 = 0) (hi : ¬ (0 ≤ i ∧ i < x 11 1 1)) : CI l yX5_write cX5_write 5 .int 3 62 G [.ref (a 0), .int (nI 3), .int i, .int v] (wC G a x) (fun vR w' => vR = tellR 0 ∧ PubC G a (tellX x 0) w') := by
  refine CI.mk (own := RX5) (by decide) rfl (Nat.le_of_ble_eq_true rfl) ?_
  intro X E ret
  show J X G 5 0 0 (wC G a x) [(0, .ref (a 0)), (1, .int (nI 3)), (2, .int i), (3, .int v)] 0 []
  refine J_aload_n E dX5_write_0 rfl 0 rfl ?_
  refine J_iload_n E dX5_write_1 rfl 1 rfl ?_
  refine J_cVi0 E (As := [.int (nI 3)]) (c_X5_seekSheet_3_1 l G a x hb ) cl_X5_170 yo_X5_seekSheet dX5_write_2 rfl rfl rfl (Nat.le_of_ble_eq_true rfl) (Nat.le_of_ble_eq_true rfl) rfl (Nat.le_of_ble_eq_true rfl) ⟨Nat.zero_le _, Nat.zero_le _⟩ ?_
  refine J_istore E (lv' := [(4, .int 0), (0, .ref (a 0)), (1, .int (nI 3)), (2, .int i), (3, .int v)]) dX5_write_5 (by decide) rfl ?_
  refine J_iload E dX5_write_7 0 rfl ?_
  refine J_if_eq E (tgt := 15) dX5_write_9 (by decide) (fun c_9 => ?_) (fun c_9 => ?_)
  · skip
    have n_9 : 0 = 0 := cmp_eq (a := 0) (b := 0) (by omega) (by omega) c_9
    refine J_iload_n E dX5_write_15 rfl 3 rfl ?_
    refine J_if_lt E (tgt := 32) dX5_write_16 (by decide) (fun c_16 => ?_) (fun c_16 => ?_)
    · skip
      refine J_aload_n E dX5_write_32 rfl 1 rfl ?_
      refine J_iconst E dX5_write_33 ic_0 ?_
      refine J_cVi0 E (As := [.int 0]) (c_X5_tell l G a x 0 (by omega)) cl_X5_64 yo_X5_tell dX5_write_34 rfl rfl rfl (Nat.le_of_ble_eq_true rfl) (Nat.le_of_ble_eq_true rfl) rfl (Nat.le_of_ble_eq_true rfl) ⟨Nat.zero_le _, Nat.zero_le _⟩ ?_
      exact ret _ _ _ _ ⟨rfl, _, rfl, by intro g h2 h6; simp [upG, up3, up3R, h2, h6]⟩ rfl dX5_write_37
    · skip
      refine J_iload_n E dX5_write_19 rfl 3 rfl ?_
      refine J_aload_n E dX5_write_20 rfl 1 rfl ?_
      refine gC0_X5_44 E dX5_write_21 ?_
      refine J_iload_n E dX5_write_24 rfl 2 rfl ?_
      refine laC_30_3 E dX5_write_25 ?_
      refine gC37_X5_208 E dX5_write_26 ?_
      refine J_icmp_lt E (tgt := 38) dX5_write_29 (by decide) (fun c_29 => ?_) (fun c_29 => ?_)
      · skip
        exact absurd ⟨Int32.not_lt.mp c_16, c_29⟩ hi
      · skip
        refine J_aload_n E dX5_write_32 rfl 1 rfl ?_
        refine J_iconst E dX5_write_33 ic_0 ?_
        refine J_cVi0 E (As := [.int 0]) (c_X5_tell l G a x 0 (by omega)) cl_X5_64 yo_X5_tell dX5_write_34 rfl rfl rfl (Nat.le_of_ble_eq_true rfl) (Nat.le_of_ble_eq_true rfl) rfl (Nat.le_of_ble_eq_true rfl) ⟨Nat.zero_le _, Nat.zero_le _⟩ ?_
        exact ret _ _ _ _ ⟨rfl, _, rfl, by intro g h2 h6; simp [upG, up3, up3R, h2, h6]⟩ rfl dX5_write_37
  · skip
    have n_9 : ¬ 0 = 0 := cmp_ne (a := 0) (b := 0) (by omega) (by omega) c_9
    exact absurd n_9 (by decide)

set_option maxHeartbeats 4000000 in
set_option maxRecDepth 20000 in
theorem c_X5_write_ok_3 (l : Launch) (G : GB) (a : Nat → Nat) (x : Q3) (j n : Nat) (v : Int32) (hb : ¬ x 11 1 0 = 0) (hn : x 11 1 1 = nI n) (hn2 : n ≤ 40) (hj : j < n) : CI l yX5_write cX5_write 5 .int 3 62 G [.ref (a 0), .int (nI 3), .int (nI j), .int v] (wC G a x) (fun vR w' => vR = 1 ∧ PubC G a (upG x 11 (up2 (x 11) 0 j (narS (x 11 1 0) v))) w') := by
  refine CI.mk (own := RX5) (by decide) rfl (Nat.le_of_ble_eq_true rfl) ?_
  intro X E ret
  show J X G 5 0 0 (wC G a x) [(0, .ref (a 0)), (1, .int (nI 3)), (2, .int (nI j)), (3, .int v)] 0 []
  refine J_aload_n E dX5_write_0 rfl 0 rfl ?_
  refine J_iload_n E dX5_write_1 rfl 1 rfl ?_
  refine J_cVi0 E (As := [.int (nI 3)]) (c_X5_seekSheet_3_1 l G a x hb ) cl_X5_170 yo_X5_seekSheet dX5_write_2 rfl rfl rfl (Nat.le_of_ble_eq_true rfl) (Nat.le_of_ble_eq_true rfl) rfl (Nat.le_of_ble_eq_true rfl) ⟨Nat.zero_le _, Nat.zero_le _⟩ ?_
  refine J_istore E (lv' := [(4, .int 0), (0, .ref (a 0)), (1, .int (nI 3)), (2, .int (nI j)), (3, .int v)]) dX5_write_5 (by decide) rfl ?_
  refine J_iload E dX5_write_7 0 rfl ?_
  refine J_if_eq E (tgt := 15) dX5_write_9 (by decide) (fun c_9 => ?_) (fun c_9 => ?_)
  · skip
    have n_9 : 0 = 0 := cmp_eq (a := 0) (b := 0) (by omega) (by omega) c_9
    refine J_iload_n E dX5_write_15 rfl 3 rfl ?_
    refine J_if_lt E (tgt := 32) dX5_write_16 (by decide) (fun c_16 => ?_) (fun c_16 => ?_)
    · skip
      have n_16 : j < 0 := cmp_lt (a := j) (b := 0) (by omega) (by omega) c_16
      exact absurd n_16 (by omega)
    · skip
      have n_16 : ¬ j < 0 := cmp_nlt (a := j) (b := 0) (by omega) (by omega) c_16
      refine J_iload_n E dX5_write_19 rfl 3 rfl ?_
      refine J_aload_n E dX5_write_20 rfl 1 rfl ?_
      refine gC0_X5_44 E dX5_write_21 ?_
      refine J_iload_n E dX5_write_24 rfl 2 rfl ?_
      refine laC_30_3 E dX5_write_25 ?_
      refine gC37_X5_208 E dX5_write_26 ?_
      refine J_top (x' := nI n) (hn) ?_
      refine J_icmp_lt E (tgt := 38) dX5_write_29 (by decide) (fun c_29 => ?_) (fun c_29 => ?_)
      · skip
        have n_29 : j < n := cmp_lt (a := j) (b := n) (by omega) (by omega) c_29
        refine J_aload_n E dX5_write_38 rfl 1 rfl ?_
        refine gC0_X5_44 E dX5_write_39 ?_
        refine J_iload_n E dX5_write_42 rfl 2 rfl ?_
        refine laC_30_3 E dX5_write_43 ?_
        refine J_iload_n E dX5_write_44 rfl 3 rfl ?_
        refine J_iload_n E dX5_write_45 rfl 4 rfl ?_
        refine J_sv11 E (As := [.int (nI j), .int v]) (c_X2_put l G (sh a 37) (x 11) j v (by omega)) cl_X5_209 yo_X2_put dX5_write_46 rfl (Nat.le_of_ble_eq_true rfl) (Nat.le_of_ble_eq_true rfl) rfl (Nat.le_of_ble_eq_true rfl) ⟨Nat.zero_le _, Nat.zero_le _⟩ ?_
        refine J_iconst E dX5_write_49 ic_1 ?_
        exact ret _ _ _ _ ⟨rfl, _, rfl, by intro g h2 h6; simp [upG, up3, up3R, h2, h6]⟩ rfl dX5_write_50
      · skip
        have n_29 : ¬ j < n := cmp_nlt (a := j) (b := n) (by omega) (by omega) c_29
        exact absurd hj n_29
  · skip
    have n_9 : ¬ 0 = 0 := cmp_ne (a := 0) (b := 0) (by omega) (by omega) c_9
    exact absurd n_9 (by decide)

set_option maxHeartbeats 4000000 in
set_option maxRecDepth 20000 in
theorem c_X5_load_out (l : Launch) (G : GB) (a : Nat → Nat) (x : Q3) (s : Int32)  (hs : ¬ (0 ≤ s ∧ s ≤ 3)) : CI l yX5_load cX5_load 4 .int 3 62 G [.ref (a 0), .int s] (wC G a x) (fun vR w' => vR = tellR 0 ∧ PubC G a (tellX x 0) w') := by
  refine CI.mk (own := RX5) (by decide) rfl (Nat.le_of_ble_eq_true rfl) ?_
  intro X E ret
  show J X G 4 0 0 (wC G a x) [(0, .ref (a 0)), (1, .int s)] 0 []
  refine J_aload_n E dX5_load_0 rfl 0 rfl ?_
  refine J_iload_n E dX5_load_1 rfl 1 rfl ?_
  refine J_cVi0 E (As := [.int s]) (c_X5_seekSheet_out l G a x s hs ) cl_X5_170 yo_X5_seekSheet dX5_load_2 rfl rfl rfl (Nat.le_of_ble_eq_true rfl) (Nat.le_of_ble_eq_true rfl) rfl (Nat.le_of_ble_eq_true rfl) ⟨Nat.zero_le _, Nat.zero_le _⟩ ?_
  refine J_istore_n E (lv' := [(2, .int (tellR 0)), (0, .ref (a 0)), (1, .int s)]) dX5_load_5 rfl (by decide) rfl ?_
  refine J_iload_n E dX5_load_6 rfl 0 rfl ?_
  refine J_if_eq E (tgt := 12) dX5_load_7 (by decide) (fun c_7 => ?_) (fun c_7 => ?_)
  · skip
    exact absurd c_7 (tellR_ne (by decide))
  · skip
    refine J_iload_n E dX5_load_10 rfl 0 rfl ?_
    exact ret _ _ _ _ ⟨rfl, _, rfl, by intro g h2 h6; simp [upG, up3, up3R, h2, h6]⟩ rfl dX5_load_11

set_option maxHeartbeats 4000000 in
set_option maxRecDepth 20000 in
theorem c_X5_load_miss_0 (l : Launch) (G : GB) (a : Nat → Nat) (x : Q3)  (hb : x 8 1 0 = 0) : CI l yX5_load cX5_load 4 .int 3 62 G [.ref (a 0), .int (nI 0)] (wC G a x) (fun vR w' => vR = tellR 5 ∧ PubC G a (tellX x 5) w') := by
  refine CI.mk (own := RX5) (by decide) rfl (Nat.le_of_ble_eq_true rfl) ?_
  intro X E ret
  show J X G 4 0 0 (wC G a x) [(0, .ref (a 0)), (1, .int (nI 0))] 0 []
  refine J_aload_n E dX5_load_0 rfl 0 rfl ?_
  refine J_iload_n E dX5_load_1 rfl 1 rfl ?_
  refine J_cVi0 E (As := [.int (nI 0)]) (c_X5_seekSheet_0_0 l G a x hb ) cl_X5_170 yo_X5_seekSheet dX5_load_2 rfl rfl rfl (Nat.le_of_ble_eq_true rfl) (Nat.le_of_ble_eq_true rfl) rfl (Nat.le_of_ble_eq_true rfl) ⟨Nat.zero_le _, Nat.zero_le _⟩ ?_
  refine J_istore_n E (lv' := [(2, .int (tellR 5)), (0, .ref (a 0)), (1, .int (nI 0))]) dX5_load_5 rfl (by decide) rfl ?_
  refine J_iload_n E dX5_load_6 rfl 0 rfl ?_
  refine J_if_eq E (tgt := 12) dX5_load_7 (by decide) (fun c_7 => ?_) (fun c_7 => ?_)
  · skip
    exact absurd c_7 (tellR_ne (by decide))
  · skip
    refine J_iload_n E dX5_load_10 rfl 0 rfl ?_
    exact ret _ _ _ _ ⟨rfl, _, rfl, by intro g h2 h6; simp [upG, up3, up3R, h2, h6]⟩ rfl dX5_load_11

set_option maxHeartbeats 4000000 in
set_option maxRecDepth 20000 in
theorem c_X5_load_miss_1 (l : Launch) (G : GB) (a : Nat → Nat) (x : Q3)  (hb : x 9 1 0 = 0) : CI l yX5_load cX5_load 4 .int 3 62 G [.ref (a 0), .int (nI 1)] (wC G a x) (fun vR w' => vR = tellR 5 ∧ PubC G a (tellX x 5) w') := by
  refine CI.mk (own := RX5) (by decide) rfl (Nat.le_of_ble_eq_true rfl) ?_
  intro X E ret
  show J X G 4 0 0 (wC G a x) [(0, .ref (a 0)), (1, .int (nI 1))] 0 []
  refine J_aload_n E dX5_load_0 rfl 0 rfl ?_
  refine J_iload_n E dX5_load_1 rfl 1 rfl ?_
  refine J_cVi0 E (As := [.int (nI 1)]) (c_X5_seekSheet_1_0 l G a x hb ) cl_X5_170 yo_X5_seekSheet dX5_load_2 rfl rfl rfl (Nat.le_of_ble_eq_true rfl) (Nat.le_of_ble_eq_true rfl) rfl (Nat.le_of_ble_eq_true rfl) ⟨Nat.zero_le _, Nat.zero_le _⟩ ?_
  refine J_istore_n E (lv' := [(2, .int (tellR 5)), (0, .ref (a 0)), (1, .int (nI 1))]) dX5_load_5 rfl (by decide) rfl ?_
  refine J_iload_n E dX5_load_6 rfl 0 rfl ?_
  refine J_if_eq E (tgt := 12) dX5_load_7 (by decide) (fun c_7 => ?_) (fun c_7 => ?_)
  · skip
    exact absurd c_7 (tellR_ne (by decide))
  · skip
    refine J_iload_n E dX5_load_10 rfl 0 rfl ?_
    exact ret _ _ _ _ ⟨rfl, _, rfl, by intro g h2 h6; simp [upG, up3, up3R, h2, h6]⟩ rfl dX5_load_11

set_option maxHeartbeats 4000000 in
set_option maxRecDepth 20000 in
theorem c_X5_load_miss_2 (l : Launch) (G : GB) (a : Nat → Nat) (x : Q3)  (hb : x 10 1 0 = 0) : CI l yX5_load cX5_load 4 .int 3 62 G [.ref (a 0), .int (nI 2)] (wC G a x) (fun vR w' => vR = tellR 5 ∧ PubC G a (tellX x 5) w') := by
  refine CI.mk (own := RX5) (by decide) rfl (Nat.le_of_ble_eq_true rfl) ?_
  intro X E ret
  show J X G 4 0 0 (wC G a x) [(0, .ref (a 0)), (1, .int (nI 2))] 0 []
  refine J_aload_n E dX5_load_0 rfl 0 rfl ?_
  refine J_iload_n E dX5_load_1 rfl 1 rfl ?_
  refine J_cVi0 E (As := [.int (nI 2)]) (c_X5_seekSheet_2_0 l G a x hb ) cl_X5_170 yo_X5_seekSheet dX5_load_2 rfl rfl rfl (Nat.le_of_ble_eq_true rfl) (Nat.le_of_ble_eq_true rfl) rfl (Nat.le_of_ble_eq_true rfl) ⟨Nat.zero_le _, Nat.zero_le _⟩ ?_
  refine J_istore_n E (lv' := [(2, .int (tellR 5)), (0, .ref (a 0)), (1, .int (nI 2))]) dX5_load_5 rfl (by decide) rfl ?_
  refine J_iload_n E dX5_load_6 rfl 0 rfl ?_
  refine J_if_eq E (tgt := 12) dX5_load_7 (by decide) (fun c_7 => ?_) (fun c_7 => ?_)
  · skip
    exact absurd c_7 (tellR_ne (by decide))
  · skip
    refine J_iload_n E dX5_load_10 rfl 0 rfl ?_
    exact ret _ _ _ _ ⟨rfl, _, rfl, by intro g h2 h6; simp [upG, up3, up3R, h2, h6]⟩ rfl dX5_load_11

set_option maxHeartbeats 4000000 in
set_option maxRecDepth 20000 in
theorem c_X5_load_miss_3 (l : Launch) (G : GB) (a : Nat → Nat) (x : Q3)  (hb : x 11 1 0 = 0) : CI l yX5_load cX5_load 4 .int 3 62 G [.ref (a 0), .int (nI 3)] (wC G a x) (fun vR w' => vR = tellR 5 ∧ PubC G a (tellX x 5) w') := by
  refine CI.mk (own := RX5) (by decide) rfl (Nat.le_of_ble_eq_true rfl) ?_
  intro X E ret
  show J X G 4 0 0 (wC G a x) [(0, .ref (a 0)), (1, .int (nI 3))] 0 []
  refine J_aload_n E dX5_load_0 rfl 0 rfl ?_
  refine J_iload_n E dX5_load_1 rfl 1 rfl ?_
  refine J_cVi0 E (As := [.int (nI 3)]) (c_X5_seekSheet_3_0 l G a x hb ) cl_X5_170 yo_X5_seekSheet dX5_load_2 rfl rfl rfl (Nat.le_of_ble_eq_true rfl) (Nat.le_of_ble_eq_true rfl) rfl (Nat.le_of_ble_eq_true rfl) ⟨Nat.zero_le _, Nat.zero_le _⟩ ?_
  refine J_istore_n E (lv' := [(2, .int (tellR 5)), (0, .ref (a 0)), (1, .int (nI 3))]) dX5_load_5 rfl (by decide) rfl ?_
  refine J_iload_n E dX5_load_6 rfl 0 rfl ?_
  refine J_if_eq E (tgt := 12) dX5_load_7 (by decide) (fun c_7 => ?_) (fun c_7 => ?_)
  · skip
    exact absurd c_7 (tellR_ne (by decide))
  · skip
    refine J_iload_n E dX5_load_10 rfl 0 rfl ?_
    exact ret _ _ _ _ ⟨rfl, _, rfl, by intro g h2 h6; simp [upG, up3, up3R, h2, h6]⟩ rfl dX5_load_11

set_option maxHeartbeats 4000000 in
set_option maxRecDepth 20000 in
theorem c_X5_load_ok_0 (l : Launch) (G : GB) (a : Nat → Nat) (x : Q3) (n : Nat) (hb : ¬ x 8 1 0 = 0) (hn : x 8 1 1 = nI n) (hn2 : n ≤ 40) : CI l yX5_load cX5_load 4 .int 3 62 G [.ref (a 0), .int (nI 0)] (wC G a x) (fun vR w' => vR = nI (loadN (x 8 0) (min n 11) 0) ∧ PubC G a (upG x 0 (loadQ (x 0) (x 8 0) (loadN (x 8 0) (min n 11) 0))) w') := by
  refine CI.mk (own := RX5) (by decide) rfl (Nat.le_of_ble_eq_true rfl) ?_
  intro X E ret
  show J X G 4 0 0 (wC G a x) [(0, .ref (a 0)), (1, .int (nI 0))] 0 []
  refine J_aload_n E dX5_load_0 rfl 0 rfl ?_
  refine J_iload_n E dX5_load_1 rfl 1 rfl ?_
  refine J_cVi0 E (As := [.int (nI 0)]) (c_X5_seekSheet_0_1 l G a x hb ) cl_X5_170 yo_X5_seekSheet dX5_load_2 rfl rfl rfl (Nat.le_of_ble_eq_true rfl) (Nat.le_of_ble_eq_true rfl) rfl (Nat.le_of_ble_eq_true rfl) ⟨Nat.zero_le _, Nat.zero_le _⟩ ?_
  refine J_istore_n E (lv' := [(2, .int 0), (0, .ref (a 0)), (1, .int (nI 0))]) dX5_load_5 rfl (by decide) rfl ?_
  refine J_iload_n E dX5_load_6 rfl 0 rfl ?_
  refine J_if_eq E (tgt := 12) dX5_load_7 (by decide) (fun c_7 => ?_) (fun c_7 => ?_)
  · skip
    have n_7 : 0 = 0 := cmp_eq (a := 0) (b := 0) (by omega) (by omega) c_7
    refine J_iconst E dX5_load_12 ic_0 ?_
    refine J_istore_n E (lv' := [(3, .int 0), (2, .int 0), (0, .ref (a 0)), (1, .int (nI 0))]) dX5_load_13 rfl (by decide) rfl ?_
    refine J_w (ws' := wC G a (upG x 0 (x 0))) (congrArg (wC G a) upG_id.symm) ?_
    have lp14 : ∀ (fu : Nat) (i : Nat) (r : Q2), (i ≤ min n 11) → (r = loadQ (x 0) (x 8 0) i) → (loadN (x 8 0) (min n 11) 0 = loadN (x 8 0) (min n 11 - i) i) → min n 11 - i < fu → J X G 4 0 0 (wC G a (upG x 0 r)) [(0, .ref (a 0)), (1, .int (nI 0)), (2, .int 0), (3, .int (nI i))] 14 [] := by
      intro fu
      induction fu with
      | zero => intro i r hi hr h1 hm; exact absurd hm (Nat.not_lt_zero _)
      | succ fu ih14 =>
        intro i r hi hr h1 hm
        refine J_iload_n E dX5_load_14 rfl 3 rfl ?_
        refine J_aload_n E dX5_load_15 rfl 0 rfl ?_
        refine gC0_X5_44 E dX5_load_16 ?_
        refine J_iload_n E dX5_load_19 rfl 1 rfl ?_
        refine laC_30_0 E dX5_load_20 ?_
        refine gC31_X5_208 E dX5_load_21 ?_
        refine J_top (x' := x 8 1 1) (upG_n (by decide)) ?_
        refine J_top (x' := nI n) (hn) ?_
        refine J_icmp_ge E (tgt := 78) dX5_load_24 (by decide) (fun c_24 => ?_) (fun c_24 => ?_)
        · skip
          have n_24 : n ≤ i := cmp_le (a := n) (b := i) (by omega) (by omega) c_24
          have h2 : loadN (x 8 0) (min n 11) 0 = i := by rw [h1, show min n 11 - i = 0 by omega]; rfl
          refine J_iload_n E dX5_load_78 rfl 3 rfl ?_
          exact ret _ _ _ _ ⟨by rw [h2], _, rfl, by rw [h2, ← hr]; exact ShC.rfl'⟩ rfl dX5_load_79
        · skip
          have n_24 : ¬ n ≤ i := cmp_nle (a := n) (b := i) (by omega) (by omega) c_24
          refine J_iload_n E dX5_load_27 rfl 3 rfl ?_
          refine J_bipush E dX5_load_28 bp_11 ?_
          refine J_icmp_ge E (tgt := 78) dX5_load_30 (by decide) (fun c_30 => ?_) (fun c_30 => ?_)
          · skip
            have n_30 : 11 ≤ i := cmp_le (a := 11) (b := i) (by omega) (by omega) c_30
            have h2 : loadN (x 8 0) (min n 11) 0 = i := by rw [h1, show min n 11 - i = 0 by omega]; rfl
            refine J_iload_n E dX5_load_78 rfl 3 rfl ?_
            exact ret _ _ _ _ ⟨by rw [h2], _, rfl, by rw [h2, ← hr]; exact ShC.rfl'⟩ rfl dX5_load_79
          · skip
            have n_30 : ¬ 11 ≤ i := cmp_nle (a := 11) (b := i) (by omega) (by omega) c_30
            refine J_aload_n E dX5_load_33 rfl 0 rfl ?_
            refine gC0_X5_44 E dX5_load_34 ?_
            refine J_iload_n E dX5_load_37 rfl 1 rfl ?_
            refine laC_30_0 E dX5_load_38 ?_
            refine gC31_X5_221 E dX5_load_39 ?_
            refine J_iload_n E dX5_load_42 rfl 3 rfl ?_
            refine lC_32 E (j := i) dX5_load_43 (by omega) ?_
            refine J_top (x' := x 8 0 i) (upG_n (by decide)) ?_
            refine J_bipush E dX5_load_44 bp_99 ?_
            refine J_cSiN E (As := [.int (x 8 0 i), .int 99]) (c_X5_isUpTo l G (x 8 0 i) 99 ) cl_X5_56 yo_X5_isUpTo dX5_load_46 rfl (Nat.le_of_ble_eq_true rfl) (Nat.le_of_ble_eq_true rfl) rfl (Nat.le_of_ble_eq_true rfl) ⟨Nat.zero_le _, Nat.zero_le _⟩ ?_
            refine J_if_eq E (tgt := 78) dX5_load_49 (by decide) (fun c_49 => ?_) (fun c_49 => ?_)
            · skip
              have c_49 := bI_0 c_49
              have h2 : loadN (x 8 0) (min n 11) 0 = i := by rw [h1, show min n 11 - i = (min n 11 - (i + 1)) + 1 by omega, loadN, if_neg c_49]
              refine J_iload_n E dX5_load_78 rfl 3 rfl ?_
              exact ret _ _ _ _ ⟨by rw [h2], _, rfl, by rw [h2, ← hr]; exact ShC.rfl'⟩ rfl dX5_load_79
            · skip
              have c_49 := bI_1 c_49
              refine J_aload_n E dX5_load_52 rfl 0 rfl ?_
              refine gC0_X5_10 E dX5_load_53 ?_
              refine gC1_X5_224 E dX5_load_56 ?_
              refine J_iload_n E dX5_load_59 rfl 3 rfl ?_
              refine J_aload_n E dX5_load_60 rfl 0 rfl ?_
              refine gC0_X5_44 E dX5_load_61 ?_
              refine J_iload_n E dX5_load_64 rfl 1 rfl ?_
              refine laC_30_0 E dX5_load_65 ?_
              refine gC31_X5_221 E dX5_load_66 ?_
              refine J_iload_n E dX5_load_69 rfl 3 rfl ?_
              refine lC_32 E (j := i) dX5_load_70 (by omega) ?_
              refine J_top (x' := x 8 0 i) (upG_n (by decide)) ?_
              refine sC_4 E (j := i) dX5_load_71 (by omega) ?_
              refine J_iinc E (lv' := [(3, .int (nI (i + 1))), (0, .ref (a 0)), (1, .int (nI 0)), (2, .int 0)]) dX5_load_72 3 rfl (nI_inc _) (by decide) rfl ?_
              refine J_goto E (tgt := 14) dX5_load_75 (by decide) ?_
              refine J_lv [1, 2, 3, 0] rfl ?_
              exact ih14 (i + 1) ((up3 (upG x 0 r) 0 2 i (x 8 0 i)) 0) (by omega) (by rw [hr]; rfl) (by rw [h1, show min n 11 - i = (min n 11 - (i + 1)) + 1 by omega, loadN, if_pos c_49]) (by omega)
    refine J_lv [2, 3, 1, 0] rfl ?_
    exact lp14 _ 0 (x 0) (by omega) rfl rfl (Nat.lt_succ_self _)
  · skip
    have n_7 : ¬ 0 = 0 := cmp_ne (a := 0) (b := 0) (by omega) (by omega) c_7
    exact absurd n_7 (by decide)

set_option maxHeartbeats 4000000 in
set_option maxRecDepth 20000 in
theorem c_X5_load_ok_1 (l : Launch) (G : GB) (a : Nat → Nat) (x : Q3) (n : Nat) (hb : ¬ x 9 1 0 = 0) (hn : x 9 1 1 = nI n) (hn2 : n ≤ 40) : CI l yX5_load cX5_load 4 .int 3 62 G [.ref (a 0), .int (nI 1)] (wC G a x) (fun vR w' => vR = nI (loadN (x 9 0) (min n 11) 0) ∧ PubC G a (upG x 0 (loadQ (x 0) (x 9 0) (loadN (x 9 0) (min n 11) 0))) w') := by
  refine CI.mk (own := RX5) (by decide) rfl (Nat.le_of_ble_eq_true rfl) ?_
  intro X E ret
  show J X G 4 0 0 (wC G a x) [(0, .ref (a 0)), (1, .int (nI 1))] 0 []
  refine J_aload_n E dX5_load_0 rfl 0 rfl ?_
  refine J_iload_n E dX5_load_1 rfl 1 rfl ?_
  refine J_cVi0 E (As := [.int (nI 1)]) (c_X5_seekSheet_1_1 l G a x hb ) cl_X5_170 yo_X5_seekSheet dX5_load_2 rfl rfl rfl (Nat.le_of_ble_eq_true rfl) (Nat.le_of_ble_eq_true rfl) rfl (Nat.le_of_ble_eq_true rfl) ⟨Nat.zero_le _, Nat.zero_le _⟩ ?_
  refine J_istore_n E (lv' := [(2, .int 0), (0, .ref (a 0)), (1, .int (nI 1))]) dX5_load_5 rfl (by decide) rfl ?_
  refine J_iload_n E dX5_load_6 rfl 0 rfl ?_
  refine J_if_eq E (tgt := 12) dX5_load_7 (by decide) (fun c_7 => ?_) (fun c_7 => ?_)
  · skip
    have n_7 : 0 = 0 := cmp_eq (a := 0) (b := 0) (by omega) (by omega) c_7
    refine J_iconst E dX5_load_12 ic_0 ?_
    refine J_istore_n E (lv' := [(3, .int 0), (2, .int 0), (0, .ref (a 0)), (1, .int (nI 1))]) dX5_load_13 rfl (by decide) rfl ?_
    refine J_w (ws' := wC G a (upG x 0 (x 0))) (congrArg (wC G a) upG_id.symm) ?_
    have lp14 : ∀ (fu : Nat) (i : Nat) (r : Q2), (i ≤ min n 11) → (r = loadQ (x 0) (x 9 0) i) → (loadN (x 9 0) (min n 11) 0 = loadN (x 9 0) (min n 11 - i) i) → min n 11 - i < fu → J X G 4 0 0 (wC G a (upG x 0 r)) [(0, .ref (a 0)), (1, .int (nI 1)), (2, .int 0), (3, .int (nI i))] 14 [] := by
      intro fu
      induction fu with
      | zero => intro i r hi hr h1 hm; exact absurd hm (Nat.not_lt_zero _)
      | succ fu ih14 =>
        intro i r hi hr h1 hm
        refine J_iload_n E dX5_load_14 rfl 3 rfl ?_
        refine J_aload_n E dX5_load_15 rfl 0 rfl ?_
        refine gC0_X5_44 E dX5_load_16 ?_
        refine J_iload_n E dX5_load_19 rfl 1 rfl ?_
        refine laC_30_1 E dX5_load_20 ?_
        refine gC33_X5_208 E dX5_load_21 ?_
        refine J_top (x' := x 9 1 1) (upG_n (by decide)) ?_
        refine J_top (x' := nI n) (hn) ?_
        refine J_icmp_ge E (tgt := 78) dX5_load_24 (by decide) (fun c_24 => ?_) (fun c_24 => ?_)
        · skip
          have n_24 : n ≤ i := cmp_le (a := n) (b := i) (by omega) (by omega) c_24
          have h2 : loadN (x 9 0) (min n 11) 0 = i := by rw [h1, show min n 11 - i = 0 by omega]; rfl
          refine J_iload_n E dX5_load_78 rfl 3 rfl ?_
          exact ret _ _ _ _ ⟨by rw [h2], _, rfl, by rw [h2, ← hr]; exact ShC.rfl'⟩ rfl dX5_load_79
        · skip
          have n_24 : ¬ n ≤ i := cmp_nle (a := n) (b := i) (by omega) (by omega) c_24
          refine J_iload_n E dX5_load_27 rfl 3 rfl ?_
          refine J_bipush E dX5_load_28 bp_11 ?_
          refine J_icmp_ge E (tgt := 78) dX5_load_30 (by decide) (fun c_30 => ?_) (fun c_30 => ?_)
          · skip
            have n_30 : 11 ≤ i := cmp_le (a := 11) (b := i) (by omega) (by omega) c_30
            have h2 : loadN (x 9 0) (min n 11) 0 = i := by rw [h1, show min n 11 - i = 0 by omega]; rfl
            refine J_iload_n E dX5_load_78 rfl 3 rfl ?_
            exact ret _ _ _ _ ⟨by rw [h2], _, rfl, by rw [h2, ← hr]; exact ShC.rfl'⟩ rfl dX5_load_79
          · skip
            have n_30 : ¬ 11 ≤ i := cmp_nle (a := 11) (b := i) (by omega) (by omega) c_30
            refine J_aload_n E dX5_load_33 rfl 0 rfl ?_
            refine gC0_X5_44 E dX5_load_34 ?_
            refine J_iload_n E dX5_load_37 rfl 1 rfl ?_
            refine laC_30_1 E dX5_load_38 ?_
            refine gC33_X5_221 E dX5_load_39 ?_
            refine J_iload_n E dX5_load_42 rfl 3 rfl ?_
            refine lC_34 E (j := i) dX5_load_43 (by omega) ?_
            refine J_top (x' := x 9 0 i) (upG_n (by decide)) ?_
            refine J_bipush E dX5_load_44 bp_99 ?_
            refine J_cSiN E (As := [.int (x 9 0 i), .int 99]) (c_X5_isUpTo l G (x 9 0 i) 99 ) cl_X5_56 yo_X5_isUpTo dX5_load_46 rfl (Nat.le_of_ble_eq_true rfl) (Nat.le_of_ble_eq_true rfl) rfl (Nat.le_of_ble_eq_true rfl) ⟨Nat.zero_le _, Nat.zero_le _⟩ ?_
            refine J_if_eq E (tgt := 78) dX5_load_49 (by decide) (fun c_49 => ?_) (fun c_49 => ?_)
            · skip
              have c_49 := bI_0 c_49
              have h2 : loadN (x 9 0) (min n 11) 0 = i := by rw [h1, show min n 11 - i = (min n 11 - (i + 1)) + 1 by omega, loadN, if_neg c_49]
              refine J_iload_n E dX5_load_78 rfl 3 rfl ?_
              exact ret _ _ _ _ ⟨by rw [h2], _, rfl, by rw [h2, ← hr]; exact ShC.rfl'⟩ rfl dX5_load_79
            · skip
              have c_49 := bI_1 c_49
              refine J_aload_n E dX5_load_52 rfl 0 rfl ?_
              refine gC0_X5_10 E dX5_load_53 ?_
              refine gC1_X5_224 E dX5_load_56 ?_
              refine J_iload_n E dX5_load_59 rfl 3 rfl ?_
              refine J_aload_n E dX5_load_60 rfl 0 rfl ?_
              refine gC0_X5_44 E dX5_load_61 ?_
              refine J_iload_n E dX5_load_64 rfl 1 rfl ?_
              refine laC_30_1 E dX5_load_65 ?_
              refine gC33_X5_221 E dX5_load_66 ?_
              refine J_iload_n E dX5_load_69 rfl 3 rfl ?_
              refine lC_34 E (j := i) dX5_load_70 (by omega) ?_
              refine J_top (x' := x 9 0 i) (upG_n (by decide)) ?_
              refine sC_4 E (j := i) dX5_load_71 (by omega) ?_
              refine J_iinc E (lv' := [(3, .int (nI (i + 1))), (0, .ref (a 0)), (1, .int (nI 1)), (2, .int 0)]) dX5_load_72 3 rfl (nI_inc _) (by decide) rfl ?_
              refine J_goto E (tgt := 14) dX5_load_75 (by decide) ?_
              refine J_lv [1, 2, 3, 0] rfl ?_
              exact ih14 (i + 1) ((up3 (upG x 0 r) 0 2 i (x 9 0 i)) 0) (by omega) (by rw [hr]; rfl) (by rw [h1, show min n 11 - i = (min n 11 - (i + 1)) + 1 by omega, loadN, if_pos c_49]) (by omega)
    refine J_lv [2, 3, 1, 0] rfl ?_
    exact lp14 _ 0 (x 0) (by omega) rfl rfl (Nat.lt_succ_self _)
  · skip
    have n_7 : ¬ 0 = 0 := cmp_ne (a := 0) (b := 0) (by omega) (by omega) c_7
    exact absurd n_7 (by decide)

set_option maxHeartbeats 4000000 in
set_option maxRecDepth 20000 in
theorem c_X5_load_ok_2 (l : Launch) (G : GB) (a : Nat → Nat) (x : Q3) (n : Nat) (hb : ¬ x 10 1 0 = 0) (hn : x 10 1 1 = nI n) (hn2 : n ≤ 40) : CI l yX5_load cX5_load 4 .int 3 62 G [.ref (a 0), .int (nI 2)] (wC G a x) (fun vR w' => vR = nI (loadN (x 10 0) (min n 11) 0) ∧ PubC G a (upG x 0 (loadQ (x 0) (x 10 0) (loadN (x 10 0) (min n 11) 0))) w') := by
  refine CI.mk (own := RX5) (by decide) rfl (Nat.le_of_ble_eq_true rfl) ?_
  intro X E ret
  show J X G 4 0 0 (wC G a x) [(0, .ref (a 0)), (1, .int (nI 2))] 0 []
  refine J_aload_n E dX5_load_0 rfl 0 rfl ?_
  refine J_iload_n E dX5_load_1 rfl 1 rfl ?_
  refine J_cVi0 E (As := [.int (nI 2)]) (c_X5_seekSheet_2_1 l G a x hb ) cl_X5_170 yo_X5_seekSheet dX5_load_2 rfl rfl rfl (Nat.le_of_ble_eq_true rfl) (Nat.le_of_ble_eq_true rfl) rfl (Nat.le_of_ble_eq_true rfl) ⟨Nat.zero_le _, Nat.zero_le _⟩ ?_
  refine J_istore_n E (lv' := [(2, .int 0), (0, .ref (a 0)), (1, .int (nI 2))]) dX5_load_5 rfl (by decide) rfl ?_
  refine J_iload_n E dX5_load_6 rfl 0 rfl ?_
  refine J_if_eq E (tgt := 12) dX5_load_7 (by decide) (fun c_7 => ?_) (fun c_7 => ?_)
  · skip
    have n_7 : 0 = 0 := cmp_eq (a := 0) (b := 0) (by omega) (by omega) c_7
    refine J_iconst E dX5_load_12 ic_0 ?_
    refine J_istore_n E (lv' := [(3, .int 0), (2, .int 0), (0, .ref (a 0)), (1, .int (nI 2))]) dX5_load_13 rfl (by decide) rfl ?_
    refine J_w (ws' := wC G a (upG x 0 (x 0))) (congrArg (wC G a) upG_id.symm) ?_
    have lp14 : ∀ (fu : Nat) (i : Nat) (r : Q2), (i ≤ min n 11) → (r = loadQ (x 0) (x 10 0) i) → (loadN (x 10 0) (min n 11) 0 = loadN (x 10 0) (min n 11 - i) i) → min n 11 - i < fu → J X G 4 0 0 (wC G a (upG x 0 r)) [(0, .ref (a 0)), (1, .int (nI 2)), (2, .int 0), (3, .int (nI i))] 14 [] := by
      intro fu
      induction fu with
      | zero => intro i r hi hr h1 hm; exact absurd hm (Nat.not_lt_zero _)
      | succ fu ih14 =>
        intro i r hi hr h1 hm
        refine J_iload_n E dX5_load_14 rfl 3 rfl ?_
        refine J_aload_n E dX5_load_15 rfl 0 rfl ?_
        refine gC0_X5_44 E dX5_load_16 ?_
        refine J_iload_n E dX5_load_19 rfl 1 rfl ?_
        refine laC_30_2 E dX5_load_20 ?_
        refine gC35_X5_208 E dX5_load_21 ?_
        refine J_top (x' := x 10 1 1) (upG_n (by decide)) ?_
        refine J_top (x' := nI n) (hn) ?_
        refine J_icmp_ge E (tgt := 78) dX5_load_24 (by decide) (fun c_24 => ?_) (fun c_24 => ?_)
        · skip
          have n_24 : n ≤ i := cmp_le (a := n) (b := i) (by omega) (by omega) c_24
          have h2 : loadN (x 10 0) (min n 11) 0 = i := by rw [h1, show min n 11 - i = 0 by omega]; rfl
          refine J_iload_n E dX5_load_78 rfl 3 rfl ?_
          exact ret _ _ _ _ ⟨by rw [h2], _, rfl, by rw [h2, ← hr]; exact ShC.rfl'⟩ rfl dX5_load_79
        · skip
          have n_24 : ¬ n ≤ i := cmp_nle (a := n) (b := i) (by omega) (by omega) c_24
          refine J_iload_n E dX5_load_27 rfl 3 rfl ?_
          refine J_bipush E dX5_load_28 bp_11 ?_
          refine J_icmp_ge E (tgt := 78) dX5_load_30 (by decide) (fun c_30 => ?_) (fun c_30 => ?_)
          · skip
            have n_30 : 11 ≤ i := cmp_le (a := 11) (b := i) (by omega) (by omega) c_30
            have h2 : loadN (x 10 0) (min n 11) 0 = i := by rw [h1, show min n 11 - i = 0 by omega]; rfl
            refine J_iload_n E dX5_load_78 rfl 3 rfl ?_
            exact ret _ _ _ _ ⟨by rw [h2], _, rfl, by rw [h2, ← hr]; exact ShC.rfl'⟩ rfl dX5_load_79
          · skip
            have n_30 : ¬ 11 ≤ i := cmp_nle (a := 11) (b := i) (by omega) (by omega) c_30
            refine J_aload_n E dX5_load_33 rfl 0 rfl ?_
            refine gC0_X5_44 E dX5_load_34 ?_
            refine J_iload_n E dX5_load_37 rfl 1 rfl ?_
            refine laC_30_2 E dX5_load_38 ?_
            refine gC35_X5_221 E dX5_load_39 ?_
            refine J_iload_n E dX5_load_42 rfl 3 rfl ?_
            refine lC_36 E (j := i) dX5_load_43 (by omega) ?_
            refine J_top (x' := x 10 0 i) (upG_n (by decide)) ?_
            refine J_bipush E dX5_load_44 bp_99 ?_
            refine J_cSiN E (As := [.int (x 10 0 i), .int 99]) (c_X5_isUpTo l G (x 10 0 i) 99 ) cl_X5_56 yo_X5_isUpTo dX5_load_46 rfl (Nat.le_of_ble_eq_true rfl) (Nat.le_of_ble_eq_true rfl) rfl (Nat.le_of_ble_eq_true rfl) ⟨Nat.zero_le _, Nat.zero_le _⟩ ?_
            refine J_if_eq E (tgt := 78) dX5_load_49 (by decide) (fun c_49 => ?_) (fun c_49 => ?_)
            · skip
              have c_49 := bI_0 c_49
              have h2 : loadN (x 10 0) (min n 11) 0 = i := by rw [h1, show min n 11 - i = (min n 11 - (i + 1)) + 1 by omega, loadN, if_neg c_49]
              refine J_iload_n E dX5_load_78 rfl 3 rfl ?_
              exact ret _ _ _ _ ⟨by rw [h2], _, rfl, by rw [h2, ← hr]; exact ShC.rfl'⟩ rfl dX5_load_79
            · skip
              have c_49 := bI_1 c_49
              refine J_aload_n E dX5_load_52 rfl 0 rfl ?_
              refine gC0_X5_10 E dX5_load_53 ?_
              refine gC1_X5_224 E dX5_load_56 ?_
              refine J_iload_n E dX5_load_59 rfl 3 rfl ?_
              refine J_aload_n E dX5_load_60 rfl 0 rfl ?_
              refine gC0_X5_44 E dX5_load_61 ?_
              refine J_iload_n E dX5_load_64 rfl 1 rfl ?_
              refine laC_30_2 E dX5_load_65 ?_
              refine gC35_X5_221 E dX5_load_66 ?_
              refine J_iload_n E dX5_load_69 rfl 3 rfl ?_
              refine lC_36 E (j := i) dX5_load_70 (by omega) ?_
              refine J_top (x' := x 10 0 i) (upG_n (by decide)) ?_
              refine sC_4 E (j := i) dX5_load_71 (by omega) ?_
              refine J_iinc E (lv' := [(3, .int (nI (i + 1))), (0, .ref (a 0)), (1, .int (nI 2)), (2, .int 0)]) dX5_load_72 3 rfl (nI_inc _) (by decide) rfl ?_
              refine J_goto E (tgt := 14) dX5_load_75 (by decide) ?_
              refine J_lv [1, 2, 3, 0] rfl ?_
              exact ih14 (i + 1) ((up3 (upG x 0 r) 0 2 i (x 10 0 i)) 0) (by omega) (by rw [hr]; rfl) (by rw [h1, show min n 11 - i = (min n 11 - (i + 1)) + 1 by omega, loadN, if_pos c_49]) (by omega)
    refine J_lv [2, 3, 1, 0] rfl ?_
    exact lp14 _ 0 (x 0) (by omega) rfl rfl (Nat.lt_succ_self _)
  · skip
    have n_7 : ¬ 0 = 0 := cmp_ne (a := 0) (b := 0) (by omega) (by omega) c_7
    exact absurd n_7 (by decide)

set_option maxHeartbeats 4000000 in
set_option maxRecDepth 20000 in
theorem c_X5_load_ok_3 (l : Launch) (G : GB) (a : Nat → Nat) (x : Q3) (n : Nat) (hb : ¬ x 11 1 0 = 0) (hn : x 11 1 1 = nI n) (hn2 : n ≤ 40) : CI l yX5_load cX5_load 4 .int 3 62 G [.ref (a 0), .int (nI 3)] (wC G a x) (fun vR w' => vR = nI (loadN (x 11 0) (min n 11) 0) ∧ PubC G a (upG x 0 (loadQ (x 0) (x 11 0) (loadN (x 11 0) (min n 11) 0))) w') := by
  refine CI.mk (own := RX5) (by decide) rfl (Nat.le_of_ble_eq_true rfl) ?_
  intro X E ret
  show J X G 4 0 0 (wC G a x) [(0, .ref (a 0)), (1, .int (nI 3))] 0 []
  refine J_aload_n E dX5_load_0 rfl 0 rfl ?_
  refine J_iload_n E dX5_load_1 rfl 1 rfl ?_
  refine J_cVi0 E (As := [.int (nI 3)]) (c_X5_seekSheet_3_1 l G a x hb ) cl_X5_170 yo_X5_seekSheet dX5_load_2 rfl rfl rfl (Nat.le_of_ble_eq_true rfl) (Nat.le_of_ble_eq_true rfl) rfl (Nat.le_of_ble_eq_true rfl) ⟨Nat.zero_le _, Nat.zero_le _⟩ ?_
  refine J_istore_n E (lv' := [(2, .int 0), (0, .ref (a 0)), (1, .int (nI 3))]) dX5_load_5 rfl (by decide) rfl ?_
  refine J_iload_n E dX5_load_6 rfl 0 rfl ?_
  refine J_if_eq E (tgt := 12) dX5_load_7 (by decide) (fun c_7 => ?_) (fun c_7 => ?_)
  · skip
    have n_7 : 0 = 0 := cmp_eq (a := 0) (b := 0) (by omega) (by omega) c_7
    refine J_iconst E dX5_load_12 ic_0 ?_
    refine J_istore_n E (lv' := [(3, .int 0), (2, .int 0), (0, .ref (a 0)), (1, .int (nI 3))]) dX5_load_13 rfl (by decide) rfl ?_
    refine J_w (ws' := wC G a (upG x 0 (x 0))) (congrArg (wC G a) upG_id.symm) ?_
    have lp14 : ∀ (fu : Nat) (i : Nat) (r : Q2), (i ≤ min n 11) → (r = loadQ (x 0) (x 11 0) i) → (loadN (x 11 0) (min n 11) 0 = loadN (x 11 0) (min n 11 - i) i) → min n 11 - i < fu → J X G 4 0 0 (wC G a (upG x 0 r)) [(0, .ref (a 0)), (1, .int (nI 3)), (2, .int 0), (3, .int (nI i))] 14 [] := by
      intro fu
      induction fu with
      | zero => intro i r hi hr h1 hm; exact absurd hm (Nat.not_lt_zero _)
      | succ fu ih14 =>
        intro i r hi hr h1 hm
        refine J_iload_n E dX5_load_14 rfl 3 rfl ?_
        refine J_aload_n E dX5_load_15 rfl 0 rfl ?_
        refine gC0_X5_44 E dX5_load_16 ?_
        refine J_iload_n E dX5_load_19 rfl 1 rfl ?_
        refine laC_30_3 E dX5_load_20 ?_
        refine gC37_X5_208 E dX5_load_21 ?_
        refine J_top (x' := x 11 1 1) (upG_n (by decide)) ?_
        refine J_top (x' := nI n) (hn) ?_
        refine J_icmp_ge E (tgt := 78) dX5_load_24 (by decide) (fun c_24 => ?_) (fun c_24 => ?_)
        · skip
          have n_24 : n ≤ i := cmp_le (a := n) (b := i) (by omega) (by omega) c_24
          have h2 : loadN (x 11 0) (min n 11) 0 = i := by rw [h1, show min n 11 - i = 0 by omega]; rfl
          refine J_iload_n E dX5_load_78 rfl 3 rfl ?_
          exact ret _ _ _ _ ⟨by rw [h2], _, rfl, by rw [h2, ← hr]; exact ShC.rfl'⟩ rfl dX5_load_79
        · skip
          have n_24 : ¬ n ≤ i := cmp_nle (a := n) (b := i) (by omega) (by omega) c_24
          refine J_iload_n E dX5_load_27 rfl 3 rfl ?_
          refine J_bipush E dX5_load_28 bp_11 ?_
          refine J_icmp_ge E (tgt := 78) dX5_load_30 (by decide) (fun c_30 => ?_) (fun c_30 => ?_)
          · skip
            have n_30 : 11 ≤ i := cmp_le (a := 11) (b := i) (by omega) (by omega) c_30
            have h2 : loadN (x 11 0) (min n 11) 0 = i := by rw [h1, show min n 11 - i = 0 by omega]; rfl
            refine J_iload_n E dX5_load_78 rfl 3 rfl ?_
            exact ret _ _ _ _ ⟨by rw [h2], _, rfl, by rw [h2, ← hr]; exact ShC.rfl'⟩ rfl dX5_load_79
          · skip
            have n_30 : ¬ 11 ≤ i := cmp_nle (a := 11) (b := i) (by omega) (by omega) c_30
            refine J_aload_n E dX5_load_33 rfl 0 rfl ?_
            refine gC0_X5_44 E dX5_load_34 ?_
            refine J_iload_n E dX5_load_37 rfl 1 rfl ?_
            refine laC_30_3 E dX5_load_38 ?_
            refine gC37_X5_221 E dX5_load_39 ?_
            refine J_iload_n E dX5_load_42 rfl 3 rfl ?_
            refine lC_38 E (j := i) dX5_load_43 (by omega) ?_
            refine J_top (x' := x 11 0 i) (upG_n (by decide)) ?_
            refine J_bipush E dX5_load_44 bp_99 ?_
            refine J_cSiN E (As := [.int (x 11 0 i), .int 99]) (c_X5_isUpTo l G (x 11 0 i) 99 ) cl_X5_56 yo_X5_isUpTo dX5_load_46 rfl (Nat.le_of_ble_eq_true rfl) (Nat.le_of_ble_eq_true rfl) rfl (Nat.le_of_ble_eq_true rfl) ⟨Nat.zero_le _, Nat.zero_le _⟩ ?_
            refine J_if_eq E (tgt := 78) dX5_load_49 (by decide) (fun c_49 => ?_) (fun c_49 => ?_)
            · skip
              have c_49 := bI_0 c_49
              have h2 : loadN (x 11 0) (min n 11) 0 = i := by rw [h1, show min n 11 - i = (min n 11 - (i + 1)) + 1 by omega, loadN, if_neg c_49]
              refine J_iload_n E dX5_load_78 rfl 3 rfl ?_
              exact ret _ _ _ _ ⟨by rw [h2], _, rfl, by rw [h2, ← hr]; exact ShC.rfl'⟩ rfl dX5_load_79
            · skip
              have c_49 := bI_1 c_49
              refine J_aload_n E dX5_load_52 rfl 0 rfl ?_
              refine gC0_X5_10 E dX5_load_53 ?_
              refine gC1_X5_224 E dX5_load_56 ?_
              refine J_iload_n E dX5_load_59 rfl 3 rfl ?_
              refine J_aload_n E dX5_load_60 rfl 0 rfl ?_
              refine gC0_X5_44 E dX5_load_61 ?_
              refine J_iload_n E dX5_load_64 rfl 1 rfl ?_
              refine laC_30_3 E dX5_load_65 ?_
              refine gC37_X5_221 E dX5_load_66 ?_
              refine J_iload_n E dX5_load_69 rfl 3 rfl ?_
              refine lC_38 E (j := i) dX5_load_70 (by omega) ?_
              refine J_top (x' := x 11 0 i) (upG_n (by decide)) ?_
              refine sC_4 E (j := i) dX5_load_71 (by omega) ?_
              refine J_iinc E (lv' := [(3, .int (nI (i + 1))), (0, .ref (a 0)), (1, .int (nI 3)), (2, .int 0)]) dX5_load_72 3 rfl (nI_inc _) (by decide) rfl ?_
              refine J_goto E (tgt := 14) dX5_load_75 (by decide) ?_
              refine J_lv [1, 2, 3, 0] rfl ?_
              exact ih14 (i + 1) ((up3 (upG x 0 r) 0 2 i (x 11 0 i)) 0) (by omega) (by rw [hr]; rfl) (by rw [h1, show min n 11 - i = (min n 11 - (i + 1)) + 1 by omega, loadN, if_pos c_49]) (by omega)
    refine J_lv [2, 3, 1, 0] rfl ?_
    exact lp14 _ 0 (x 0) (by omega) rfl rfl (Nat.lt_succ_self _)
  · skip
    have n_7 : ¬ 0 = 0 := cmp_ne (a := 0) (b := 0) (by omega) (by omega) c_7
    exact absurd n_7 (by decide)

set_option maxHeartbeats 4000000 in
set_option maxRecDepth 20000 in
theorem c_X5_judge_out (l : Launch) (G : GB) (a : Nat → Nat) (x : Q3) (s : Int32)  (hs : ¬ (0 ≤ s ∧ s ≤ 3)) : CI l yX5_judge cX5_judge 5 .int 3 62 G [.ref (a 0), .int s] (wC G a x) (fun vR w' => vR = tellR 0 ∧ PubC G a (tellX x 0) w') := by
  refine CI.mk (own := RX5) (by decide) rfl (Nat.le_of_ble_eq_true rfl) ?_
  intro X E ret
  show J X G 5 0 0 (wC G a x) [(0, .ref (a 0)), (1, .int s)] 0 []
  refine J_aload_n E dX5_judge_0 rfl 0 rfl ?_
  refine J_iload_n E dX5_judge_1 rfl 1 rfl ?_
  refine J_cVi0 E (As := [.int s]) (c_X5_seekSheet_out l G a x s hs ) cl_X5_170 yo_X5_seekSheet dX5_judge_2 rfl rfl rfl (Nat.le_of_ble_eq_true rfl) (Nat.le_of_ble_eq_true rfl) rfl (Nat.le_of_ble_eq_true rfl) ⟨Nat.zero_le _, Nat.zero_le _⟩ ?_
  refine J_istore_n E (lv' := [(2, .int (tellR 0)), (0, .ref (a 0)), (1, .int s)]) dX5_judge_5 rfl (by decide) rfl ?_
  refine J_iload_n E dX5_judge_6 rfl 0 rfl ?_
  refine J_if_eq E (tgt := 12) dX5_judge_7 (by decide) (fun c_7 => ?_) (fun c_7 => ?_)
  · skip
    exact absurd c_7 (tellR_ne (by decide))
  · skip
    refine J_iload_n E dX5_judge_10 rfl 0 rfl ?_
    exact ret _ _ _ _ ⟨rfl, _, rfl, by intro g h2 h6; simp [upG, up3, up3R, h2, h6]⟩ rfl dX5_judge_11

set_option maxHeartbeats 4000000 in
set_option maxRecDepth 20000 in
theorem c_X5_judge_miss_0 (l : Launch) (G : GB) (a : Nat → Nat) (x : Q3)  (hb : x 8 1 0 = 0) : CI l yX5_judge cX5_judge 5 .int 3 62 G [.ref (a 0), .int (nI 0)] (wC G a x) (fun vR w' => vR = tellR 5 ∧ PubC G a (tellX x 5) w') := by
  refine CI.mk (own := RX5) (by decide) rfl (Nat.le_of_ble_eq_true rfl) ?_
  intro X E ret
  show J X G 5 0 0 (wC G a x) [(0, .ref (a 0)), (1, .int (nI 0))] 0 []
  refine J_aload_n E dX5_judge_0 rfl 0 rfl ?_
  refine J_iload_n E dX5_judge_1 rfl 1 rfl ?_
  refine J_cVi0 E (As := [.int (nI 0)]) (c_X5_seekSheet_0_0 l G a x hb ) cl_X5_170 yo_X5_seekSheet dX5_judge_2 rfl rfl rfl (Nat.le_of_ble_eq_true rfl) (Nat.le_of_ble_eq_true rfl) rfl (Nat.le_of_ble_eq_true rfl) ⟨Nat.zero_le _, Nat.zero_le _⟩ ?_
  refine J_istore_n E (lv' := [(2, .int (tellR 5)), (0, .ref (a 0)), (1, .int (nI 0))]) dX5_judge_5 rfl (by decide) rfl ?_
  refine J_iload_n E dX5_judge_6 rfl 0 rfl ?_
  refine J_if_eq E (tgt := 12) dX5_judge_7 (by decide) (fun c_7 => ?_) (fun c_7 => ?_)
  · skip
    exact absurd c_7 (tellR_ne (by decide))
  · skip
    refine J_iload_n E dX5_judge_10 rfl 0 rfl ?_
    exact ret _ _ _ _ ⟨rfl, _, rfl, by intro g h2 h6; simp [upG, up3, up3R, h2, h6]⟩ rfl dX5_judge_11

set_option maxHeartbeats 4000000 in
set_option maxRecDepth 20000 in
theorem c_X5_judge_miss_1 (l : Launch) (G : GB) (a : Nat → Nat) (x : Q3)  (hb : x 9 1 0 = 0) : CI l yX5_judge cX5_judge 5 .int 3 62 G [.ref (a 0), .int (nI 1)] (wC G a x) (fun vR w' => vR = tellR 5 ∧ PubC G a (tellX x 5) w') := by
  refine CI.mk (own := RX5) (by decide) rfl (Nat.le_of_ble_eq_true rfl) ?_
  intro X E ret
  show J X G 5 0 0 (wC G a x) [(0, .ref (a 0)), (1, .int (nI 1))] 0 []
  refine J_aload_n E dX5_judge_0 rfl 0 rfl ?_
  refine J_iload_n E dX5_judge_1 rfl 1 rfl ?_
  refine J_cVi0 E (As := [.int (nI 1)]) (c_X5_seekSheet_1_0 l G a x hb ) cl_X5_170 yo_X5_seekSheet dX5_judge_2 rfl rfl rfl (Nat.le_of_ble_eq_true rfl) (Nat.le_of_ble_eq_true rfl) rfl (Nat.le_of_ble_eq_true rfl) ⟨Nat.zero_le _, Nat.zero_le _⟩ ?_
  refine J_istore_n E (lv' := [(2, .int (tellR 5)), (0, .ref (a 0)), (1, .int (nI 1))]) dX5_judge_5 rfl (by decide) rfl ?_
  refine J_iload_n E dX5_judge_6 rfl 0 rfl ?_
  refine J_if_eq E (tgt := 12) dX5_judge_7 (by decide) (fun c_7 => ?_) (fun c_7 => ?_)
  · skip
    exact absurd c_7 (tellR_ne (by decide))
  · skip
    refine J_iload_n E dX5_judge_10 rfl 0 rfl ?_
    exact ret _ _ _ _ ⟨rfl, _, rfl, by intro g h2 h6; simp [upG, up3, up3R, h2, h6]⟩ rfl dX5_judge_11

set_option maxHeartbeats 4000000 in
set_option maxRecDepth 20000 in
theorem c_X5_judge_miss_2 (l : Launch) (G : GB) (a : Nat → Nat) (x : Q3)  (hb : x 10 1 0 = 0) : CI l yX5_judge cX5_judge 5 .int 3 62 G [.ref (a 0), .int (nI 2)] (wC G a x) (fun vR w' => vR = tellR 5 ∧ PubC G a (tellX x 5) w') := by
  refine CI.mk (own := RX5) (by decide) rfl (Nat.le_of_ble_eq_true rfl) ?_
  intro X E ret
  show J X G 5 0 0 (wC G a x) [(0, .ref (a 0)), (1, .int (nI 2))] 0 []
  refine J_aload_n E dX5_judge_0 rfl 0 rfl ?_
  refine J_iload_n E dX5_judge_1 rfl 1 rfl ?_
  refine J_cVi0 E (As := [.int (nI 2)]) (c_X5_seekSheet_2_0 l G a x hb ) cl_X5_170 yo_X5_seekSheet dX5_judge_2 rfl rfl rfl (Nat.le_of_ble_eq_true rfl) (Nat.le_of_ble_eq_true rfl) rfl (Nat.le_of_ble_eq_true rfl) ⟨Nat.zero_le _, Nat.zero_le _⟩ ?_
  refine J_istore_n E (lv' := [(2, .int (tellR 5)), (0, .ref (a 0)), (1, .int (nI 2))]) dX5_judge_5 rfl (by decide) rfl ?_
  refine J_iload_n E dX5_judge_6 rfl 0 rfl ?_
  refine J_if_eq E (tgt := 12) dX5_judge_7 (by decide) (fun c_7 => ?_) (fun c_7 => ?_)
  · skip
    exact absurd c_7 (tellR_ne (by decide))
  · skip
    refine J_iload_n E dX5_judge_10 rfl 0 rfl ?_
    exact ret _ _ _ _ ⟨rfl, _, rfl, by intro g h2 h6; simp [upG, up3, up3R, h2, h6]⟩ rfl dX5_judge_11

set_option maxHeartbeats 4000000 in
set_option maxRecDepth 20000 in
theorem c_X5_judge_miss_3 (l : Launch) (G : GB) (a : Nat → Nat) (x : Q3)  (hb : x 11 1 0 = 0) : CI l yX5_judge cX5_judge 5 .int 3 62 G [.ref (a 0), .int (nI 3)] (wC G a x) (fun vR w' => vR = tellR 5 ∧ PubC G a (tellX x 5) w') := by
  refine CI.mk (own := RX5) (by decide) rfl (Nat.le_of_ble_eq_true rfl) ?_
  intro X E ret
  show J X G 5 0 0 (wC G a x) [(0, .ref (a 0)), (1, .int (nI 3))] 0 []
  refine J_aload_n E dX5_judge_0 rfl 0 rfl ?_
  refine J_iload_n E dX5_judge_1 rfl 1 rfl ?_
  refine J_cVi0 E (As := [.int (nI 3)]) (c_X5_seekSheet_3_0 l G a x hb ) cl_X5_170 yo_X5_seekSheet dX5_judge_2 rfl rfl rfl (Nat.le_of_ble_eq_true rfl) (Nat.le_of_ble_eq_true rfl) rfl (Nat.le_of_ble_eq_true rfl) ⟨Nat.zero_le _, Nat.zero_le _⟩ ?_
  refine J_istore_n E (lv' := [(2, .int (tellR 5)), (0, .ref (a 0)), (1, .int (nI 3))]) dX5_judge_5 rfl (by decide) rfl ?_
  refine J_iload_n E dX5_judge_6 rfl 0 rfl ?_
  refine J_if_eq E (tgt := 12) dX5_judge_7 (by decide) (fun c_7 => ?_) (fun c_7 => ?_)
  · skip
    exact absurd c_7 (tellR_ne (by decide))
  · skip
    refine J_iload_n E dX5_judge_10 rfl 0 rfl ?_
    exact ret _ _ _ _ ⟨rfl, _, rfl, by intro g h2 h6; simp [upG, up3, up3R, h2, h6]⟩ rfl dX5_judge_11

set_option maxHeartbeats 4000000 in
set_option maxRecDepth 20000 in
theorem c_X5_judge_ok_0 (l : Launch) (G : GB) (a : Nat → Nat) (x : Q3) (n : Nat) (hb : ¬ x 8 1 0 = 0) (hn : x 8 1 1 = nI n) (hn2 : n ≤ 40) (hsp : spOk (x 0)) : CI l yX5_judge cX5_judge 5 .int 3 62 G [.ref (a 0), .int (nI 0)] (wC G a x) (fun vR w' => vR = judgR (x 0) (x 8 0) n 0 ∧ PubC G a x w') := by
  refine CI.mk (own := RX5) (by decide) rfl (Nat.le_of_ble_eq_true rfl) ?_
  intro X E ret
  show J X G 5 0 0 (wC G a x) [(0, .ref (a 0)), (1, .int (nI 0))] 0 []
  refine J_aload_n E dX5_judge_0 rfl 0 rfl ?_
  refine J_iload_n E dX5_judge_1 rfl 1 rfl ?_
  refine J_cVi0 E (As := [.int (nI 0)]) (c_X5_seekSheet_0_1 l G a x hb ) cl_X5_170 yo_X5_seekSheet dX5_judge_2 rfl rfl rfl (Nat.le_of_ble_eq_true rfl) (Nat.le_of_ble_eq_true rfl) rfl (Nat.le_of_ble_eq_true rfl) ⟨Nat.zero_le _, Nat.zero_le _⟩ ?_
  refine J_istore_n E (lv' := [(2, .int 0), (0, .ref (a 0)), (1, .int (nI 0))]) dX5_judge_5 rfl (by decide) rfl ?_
  refine J_iload_n E dX5_judge_6 rfl 0 rfl ?_
  refine J_if_eq E (tgt := 12) dX5_judge_7 (by decide) (fun c_7 => ?_) (fun c_7 => ?_)
  · skip
    have n_7 : 0 = 0 := cmp_eq (a := 0) (b := 0) (by omega) (by omega) c_7
    refine J_aload_n E dX5_judge_12 rfl 1 rfl ?_
    refine gC0_X5_44 E dX5_judge_13 ?_
    refine J_iload_n E dX5_judge_16 rfl 2 rfl ?_
    refine laC_30_0 E dX5_judge_17 ?_
    refine gC31_X5_221 E dX5_judge_18 ?_
    refine J_astore_n E (lv' := [(3, .ref (a 32)), (2, .int 0), (0, .ref (a 0)), (1, .int (nI 0))]) dX5_judge_21 rfl (by decide) rfl ?_
    refine J_iconst E dX5_judge_22 ic_0 ?_
    refine J_istore E (lv' := [(4, .int 0), (3, .ref (a 32)), (2, .int 0), (0, .ref (a 0)), (1, .int (nI 0))]) dX5_judge_23 (by decide) rfl ?_
    have lp25 : ∀ (fu : Nat) (i : Nat), (i ≤ n) → (judgR (x 0) (x 8 0) n 0 = judgR (x 0) (x 8 0) (n - i) i) → (0 < i → okH (x 8 0 (i - 1))) → n - i < fu → J X G 5 0 0 (wC G a x) [(0, .ref (a 0)), (1, .int (nI 0)), (2, .int 0), (3, .ref (a 32)), (4, .int (nI i))] 25 [] := by
      intro fu
      induction fu with
      | zero => intro i hi h1 h2 hm; exact absurd hm (Nat.not_lt_zero _)
      | succ fu ih25 =>
        intro i hi h1 h2 hm
        refine J_iload E dX5_judge_25 4 rfl ?_
        refine J_aload_n E dX5_judge_27 rfl 0 rfl ?_
        refine gC0_X5_44 E dX5_judge_28 ?_
        refine J_iload_n E dX5_judge_31 rfl 1 rfl ?_
        refine laC_30_0 E dX5_judge_32 ?_
        refine gC31_X5_208 E dX5_judge_33 ?_
        refine J_top (x' := nI n) (hn) ?_
        refine J_icmp_ge E (tgt := 85) dX5_judge_36 (by decide) (fun c_36 => ?_) (fun c_36 => ?_)
        · skip
          have n_36 : n ≤ i := cmp_le (a := n) (b := i) (by omega) (by omega) c_36
          refine J_iconst E dX5_judge_85 ic_0 ?_
          exact ret _ _ _ _ ⟨by rw [h1, show n - i = 0 by omega]; rfl, _, rfl, by intro g h2 h6; simp [upG, up3, up3R, h2, h6]⟩ rfl dX5_judge_86
        · skip
          have n_36 : ¬ n ≤ i := cmp_nle (a := n) (b := i) (by omega) (by omega) c_36
          refine J_aload_n E dX5_judge_39 rfl 3 rfl ?_
          refine J_iload E dX5_judge_40 4 rfl ?_
          refine lC_32 E (j := i) dX5_judge_42 (by omega) ?_
          refine J_cSiN E (As := [.int (x 8 0 i)]) (c_X5_isHouse l G (x 8 0 i) ) cl_X5_52 yo_X5_isHouse dX5_judge_43 rfl (Nat.le_of_ble_eq_true rfl) (Nat.le_of_ble_eq_true rfl) rfl (Nat.le_of_ble_eq_true rfl) ⟨Nat.zero_le _, Nat.zero_le _⟩ ?_
          refine J_if_eq E (tgt := 74) dX5_judge_46 (by decide) (fun c_46 => ?_) (fun c_46 => ?_)
          · skip
            have c_46 := bI_0 c_46
            refine J_iconst E dX5_judge_74 ic_1 ?_
            refine J_iload E dX5_judge_75 4 rfl ?_
            refine J_iadd E dX5_judge_77 ?_
            exact ret _ _ _ _ ⟨by first | (rw [h1, show n - i = (n - (i + 1)) + 1 by omega, judgR, if_neg (fun z : judgP _ _ _ = true => c_46 (of_decide_eq_true z).1)]) | (rw [h1, show n - (y + 1) = (n - (y + 2)) + 1 by omega, judgR, if_neg (fun z : judgP _ _ _ = true => hw (of_decide_eq_true z).2)]), _, rfl, by intro g h2 h6; simp [upG, up3, up3R, h2, h6]⟩ rfl dX5_judge_78
          · skip
            have c_46 := bI_1 c_46
            refine J_iload E dX5_judge_49 4 rfl ?_
            refine J_if_le E (tgt := 79) dX5_judge_51 (by decide) (fun c_51 => ?_) (fun c_51 => ?_)
            · skip
              have n_51 : i ≤ 0 := cmp_le (a := i) (b := 0) (by omega) (by omega) c_51
              have hw : i = 0 ∨ leadF (x 0) (x 8 0 (i - 1)).toNatClampNeg = x 8 0 i := Or.inl (by omega)
              refine J_iinc E (lv' := [(4, .int (nI (i + 1))), (0, .ref (a 0)), (1, .int (nI 0)), (2, .int 0), (3, .ref (a 32))]) dX5_judge_79 4 rfl (nI_inc _) (by decide) rfl ?_
              refine J_goto E (tgt := 25) dX5_judge_82 (by decide) ?_
              refine J_lv [1, 2, 3, 4, 0] rfl ?_
              exact ih25 (i + 1) (by omega) (by rw [h1, show n - i = (n - (i + 1)) + 1 by omega, judgR, if_pos (show judgP (x 0) (x 8 0) _ = true from decide_eq_true ⟨c_46, hw⟩)]) (fun _ => c_46) (by omega)
            · skip
              have n_51 : ¬ i ≤ 0 := cmp_nle (a := i) (b := 0) (by omega) (by omega) c_51
              refine J_aload_n E dX5_judge_54 rfl 0 rfl ?_
              refine gC0_X5_10 E dX5_judge_55 ?_
              refine J_aload_n E dX5_judge_58 rfl 3 rfl ?_
              refine J_iload E dX5_judge_59 4 rfl ?_
              obtain ⟨y, rfl⟩ : ∃ y, i = y + 1 := ⟨i - 1, by omega⟩
              obtain ⟨p, hp, hp2⟩ := okH_of (h2 (by omega))
              have hp2 : x 8 0 y = nI p := hp2
              refine J_iconst E dX5_judge_61 ic_1 ?_
              refine J_isub E dX5_judge_62 ?_
              refine J_top (x' := nI y) (nI_pred y) ?_
              refine lC_32 E (j := y) dX5_judge_63 (by omega) ?_
              refine J_top (x' := nI p) (hp2) ?_
              refine J_si0r E (As := [.int (nI p)]) (c_X1_leadsTo l G (sh a 1) (x 0) p (by omega)) cl_X5_85 yo_X1_leadsTo dX5_judge_64 rfl (Nat.le_of_ble_eq_true rfl) (Nat.le_of_ble_eq_true rfl) rfl (Nat.le_of_ble_eq_true rfl) ⟨Nat.zero_le _, Nat.zero_le _⟩ ?_
              refine J_aload_n E dX5_judge_67 rfl 3 rfl ?_
              refine J_iload E dX5_judge_68 4 rfl ?_
              refine lC_32 E (j := (y + 1)) dX5_judge_70 (by omega) ?_
              refine J_icmp_eq E (tgt := 79) dX5_judge_71 (by decide) (fun c_71 => ?_) (fun c_71 => ?_)
              · skip
                have hw : y + 1 = 0 ∨ leadF (x 0) (x 8 0 (y + 1 - 1)).toNatClampNeg = x 8 0 (y + 1) := Or.inr (by rw [show y + 1 - 1 = y by omega, hp2, nI_clamp (by omega)]; exact c_71)
                refine J_iinc E (lv' := [(4, .int (nI ((y + 1) + 1))), (0, .ref (a 0)), (1, .int (nI 0)), (2, .int 0), (3, .ref (a 32))]) dX5_judge_79 4 rfl (nI_inc _) (by decide) rfl ?_
                refine J_goto E (tgt := 25) dX5_judge_82 (by decide) ?_
                refine J_lv [1, 2, 3, 4, 0] rfl ?_
                exact ih25 ((y + 1) + 1) (by omega) (by rw [h1, show n - (y + 1) = (n - ((y + 1) + 1)) + 1 by omega, judgR, if_pos (show judgP (x 0) (x 8 0) _ = true from decide_eq_true ⟨c_46, hw⟩)]) (fun _ => c_46) (by omega)
              · skip
                have hw : ¬ (y + 1 = 0 ∨ leadF (x 0) (x 8 0 (y + 1 - 1)).toNatClampNeg = x 8 0 (y + 1)) := fun z => c_71 (by have z2 := z.resolve_left (by omega); rw [show y + 1 - 1 = y by omega, hp2, nI_clamp (by omega)] at z2; exact z2)
                refine J_iconst E dX5_judge_74 ic_1 ?_
                refine J_iload E dX5_judge_75 4 rfl ?_
                refine J_iadd E dX5_judge_77 ?_
                exact ret _ _ _ _ ⟨by first | (rw [h1, show n - i = (n - (i + 1)) + 1 by omega, judgR, if_neg (fun z : judgP _ _ _ = true => c_46 (of_decide_eq_true z).1)]) | (rw [h1, show n - (y + 1) = (n - (y + 2)) + 1 by omega, judgR, if_neg (fun z : judgP _ _ _ = true => hw (of_decide_eq_true z).2)]), _, rfl, by intro g h2 h6; simp [upG, up3, up3R, h2, h6]⟩ rfl dX5_judge_78
    refine J_lv [3, 4, 2, 1, 0] rfl ?_
    exact lp25 _ 0 (by omega) rfl (fun z => absurd z (Nat.lt_irrefl 0)) (Nat.lt_succ_self _)
  · skip
    have n_7 : ¬ 0 = 0 := cmp_ne (a := 0) (b := 0) (by omega) (by omega) c_7
    exact absurd n_7 (by decide)

set_option maxHeartbeats 4000000 in
set_option maxRecDepth 20000 in
theorem c_X5_judge_ok_1 (l : Launch) (G : GB) (a : Nat → Nat) (x : Q3) (n : Nat) (hb : ¬ x 9 1 0 = 0) (hn : x 9 1 1 = nI n) (hn2 : n ≤ 40) (hsp : spOk (x 0)) : CI l yX5_judge cX5_judge 5 .int 3 62 G [.ref (a 0), .int (nI 1)] (wC G a x) (fun vR w' => vR = judgR (x 0) (x 9 0) n 0 ∧ PubC G a x w') := by
  refine CI.mk (own := RX5) (by decide) rfl (Nat.le_of_ble_eq_true rfl) ?_
  intro X E ret
  show J X G 5 0 0 (wC G a x) [(0, .ref (a 0)), (1, .int (nI 1))] 0 []
  refine J_aload_n E dX5_judge_0 rfl 0 rfl ?_
  refine J_iload_n E dX5_judge_1 rfl 1 rfl ?_
  refine J_cVi0 E (As := [.int (nI 1)]) (c_X5_seekSheet_1_1 l G a x hb ) cl_X5_170 yo_X5_seekSheet dX5_judge_2 rfl rfl rfl (Nat.le_of_ble_eq_true rfl) (Nat.le_of_ble_eq_true rfl) rfl (Nat.le_of_ble_eq_true rfl) ⟨Nat.zero_le _, Nat.zero_le _⟩ ?_
  refine J_istore_n E (lv' := [(2, .int 0), (0, .ref (a 0)), (1, .int (nI 1))]) dX5_judge_5 rfl (by decide) rfl ?_
  refine J_iload_n E dX5_judge_6 rfl 0 rfl ?_
  refine J_if_eq E (tgt := 12) dX5_judge_7 (by decide) (fun c_7 => ?_) (fun c_7 => ?_)
  · skip
    have n_7 : 0 = 0 := cmp_eq (a := 0) (b := 0) (by omega) (by omega) c_7
    refine J_aload_n E dX5_judge_12 rfl 1 rfl ?_
    refine gC0_X5_44 E dX5_judge_13 ?_
    refine J_iload_n E dX5_judge_16 rfl 2 rfl ?_
    refine laC_30_1 E dX5_judge_17 ?_
    refine gC33_X5_221 E dX5_judge_18 ?_
    refine J_astore_n E (lv' := [(3, .ref (a 34)), (2, .int 0), (0, .ref (a 0)), (1, .int (nI 1))]) dX5_judge_21 rfl (by decide) rfl ?_
    refine J_iconst E dX5_judge_22 ic_0 ?_
    refine J_istore E (lv' := [(4, .int 0), (3, .ref (a 34)), (2, .int 0), (0, .ref (a 0)), (1, .int (nI 1))]) dX5_judge_23 (by decide) rfl ?_
    have lp25 : ∀ (fu : Nat) (i : Nat), (i ≤ n) → (judgR (x 0) (x 9 0) n 0 = judgR (x 0) (x 9 0) (n - i) i) → (0 < i → okH (x 9 0 (i - 1))) → n - i < fu → J X G 5 0 0 (wC G a x) [(0, .ref (a 0)), (1, .int (nI 1)), (2, .int 0), (3, .ref (a 34)), (4, .int (nI i))] 25 [] := by
      intro fu
      induction fu with
      | zero => intro i hi h1 h2 hm; exact absurd hm (Nat.not_lt_zero _)
      | succ fu ih25 =>
        intro i hi h1 h2 hm
        refine J_iload E dX5_judge_25 4 rfl ?_
        refine J_aload_n E dX5_judge_27 rfl 0 rfl ?_
        refine gC0_X5_44 E dX5_judge_28 ?_
        refine J_iload_n E dX5_judge_31 rfl 1 rfl ?_
        refine laC_30_1 E dX5_judge_32 ?_
        refine gC33_X5_208 E dX5_judge_33 ?_
        refine J_top (x' := nI n) (hn) ?_
        refine J_icmp_ge E (tgt := 85) dX5_judge_36 (by decide) (fun c_36 => ?_) (fun c_36 => ?_)
        · skip
          have n_36 : n ≤ i := cmp_le (a := n) (b := i) (by omega) (by omega) c_36
          refine J_iconst E dX5_judge_85 ic_0 ?_
          exact ret _ _ _ _ ⟨by rw [h1, show n - i = 0 by omega]; rfl, _, rfl, by intro g h2 h6; simp [upG, up3, up3R, h2, h6]⟩ rfl dX5_judge_86
        · skip
          have n_36 : ¬ n ≤ i := cmp_nle (a := n) (b := i) (by omega) (by omega) c_36
          refine J_aload_n E dX5_judge_39 rfl 3 rfl ?_
          refine J_iload E dX5_judge_40 4 rfl ?_
          refine lC_34 E (j := i) dX5_judge_42 (by omega) ?_
          refine J_cSiN E (As := [.int (x 9 0 i)]) (c_X5_isHouse l G (x 9 0 i) ) cl_X5_52 yo_X5_isHouse dX5_judge_43 rfl (Nat.le_of_ble_eq_true rfl) (Nat.le_of_ble_eq_true rfl) rfl (Nat.le_of_ble_eq_true rfl) ⟨Nat.zero_le _, Nat.zero_le _⟩ ?_
          refine J_if_eq E (tgt := 74) dX5_judge_46 (by decide) (fun c_46 => ?_) (fun c_46 => ?_)
          · skip
            have c_46 := bI_0 c_46
            refine J_iconst E dX5_judge_74 ic_1 ?_
            refine J_iload E dX5_judge_75 4 rfl ?_
            refine J_iadd E dX5_judge_77 ?_
            exact ret _ _ _ _ ⟨by first | (rw [h1, show n - i = (n - (i + 1)) + 1 by omega, judgR, if_neg (fun z : judgP _ _ _ = true => c_46 (of_decide_eq_true z).1)]) | (rw [h1, show n - (y + 1) = (n - (y + 2)) + 1 by omega, judgR, if_neg (fun z : judgP _ _ _ = true => hw (of_decide_eq_true z).2)]), _, rfl, by intro g h2 h6; simp [upG, up3, up3R, h2, h6]⟩ rfl dX5_judge_78
          · skip
            have c_46 := bI_1 c_46
            refine J_iload E dX5_judge_49 4 rfl ?_
            refine J_if_le E (tgt := 79) dX5_judge_51 (by decide) (fun c_51 => ?_) (fun c_51 => ?_)
            · skip
              have n_51 : i ≤ 0 := cmp_le (a := i) (b := 0) (by omega) (by omega) c_51
              have hw : i = 0 ∨ leadF (x 0) (x 9 0 (i - 1)).toNatClampNeg = x 9 0 i := Or.inl (by omega)
              refine J_iinc E (lv' := [(4, .int (nI (i + 1))), (0, .ref (a 0)), (1, .int (nI 1)), (2, .int 0), (3, .ref (a 34))]) dX5_judge_79 4 rfl (nI_inc _) (by decide) rfl ?_
              refine J_goto E (tgt := 25) dX5_judge_82 (by decide) ?_
              refine J_lv [1, 2, 3, 4, 0] rfl ?_
              exact ih25 (i + 1) (by omega) (by rw [h1, show n - i = (n - (i + 1)) + 1 by omega, judgR, if_pos (show judgP (x 0) (x 9 0) _ = true from decide_eq_true ⟨c_46, hw⟩)]) (fun _ => c_46) (by omega)
            · skip
              have n_51 : ¬ i ≤ 0 := cmp_nle (a := i) (b := 0) (by omega) (by omega) c_51
              refine J_aload_n E dX5_judge_54 rfl 0 rfl ?_
              refine gC0_X5_10 E dX5_judge_55 ?_
              refine J_aload_n E dX5_judge_58 rfl 3 rfl ?_
              refine J_iload E dX5_judge_59 4 rfl ?_
              obtain ⟨y, rfl⟩ : ∃ y, i = y + 1 := ⟨i - 1, by omega⟩
              obtain ⟨p, hp, hp2⟩ := okH_of (h2 (by omega))
              have hp2 : x 9 0 y = nI p := hp2
              refine J_iconst E dX5_judge_61 ic_1 ?_
              refine J_isub E dX5_judge_62 ?_
              refine J_top (x' := nI y) (nI_pred y) ?_
              refine lC_34 E (j := y) dX5_judge_63 (by omega) ?_
              refine J_top (x' := nI p) (hp2) ?_
              refine J_si0r E (As := [.int (nI p)]) (c_X1_leadsTo l G (sh a 1) (x 0) p (by omega)) cl_X5_85 yo_X1_leadsTo dX5_judge_64 rfl (Nat.le_of_ble_eq_true rfl) (Nat.le_of_ble_eq_true rfl) rfl (Nat.le_of_ble_eq_true rfl) ⟨Nat.zero_le _, Nat.zero_le _⟩ ?_
              refine J_aload_n E dX5_judge_67 rfl 3 rfl ?_
              refine J_iload E dX5_judge_68 4 rfl ?_
              refine lC_34 E (j := (y + 1)) dX5_judge_70 (by omega) ?_
              refine J_icmp_eq E (tgt := 79) dX5_judge_71 (by decide) (fun c_71 => ?_) (fun c_71 => ?_)
              · skip
                have hw : y + 1 = 0 ∨ leadF (x 0) (x 9 0 (y + 1 - 1)).toNatClampNeg = x 9 0 (y + 1) := Or.inr (by rw [show y + 1 - 1 = y by omega, hp2, nI_clamp (by omega)]; exact c_71)
                refine J_iinc E (lv' := [(4, .int (nI ((y + 1) + 1))), (0, .ref (a 0)), (1, .int (nI 1)), (2, .int 0), (3, .ref (a 34))]) dX5_judge_79 4 rfl (nI_inc _) (by decide) rfl ?_
                refine J_goto E (tgt := 25) dX5_judge_82 (by decide) ?_
                refine J_lv [1, 2, 3, 4, 0] rfl ?_
                exact ih25 ((y + 1) + 1) (by omega) (by rw [h1, show n - (y + 1) = (n - ((y + 1) + 1)) + 1 by omega, judgR, if_pos (show judgP (x 0) (x 9 0) _ = true from decide_eq_true ⟨c_46, hw⟩)]) (fun _ => c_46) (by omega)
              · skip
                have hw : ¬ (y + 1 = 0 ∨ leadF (x 0) (x 9 0 (y + 1 - 1)).toNatClampNeg = x 9 0 (y + 1)) := fun z => c_71 (by have z2 := z.resolve_left (by omega); rw [show y + 1 - 1 = y by omega, hp2, nI_clamp (by omega)] at z2; exact z2)
                refine J_iconst E dX5_judge_74 ic_1 ?_
                refine J_iload E dX5_judge_75 4 rfl ?_
                refine J_iadd E dX5_judge_77 ?_
                exact ret _ _ _ _ ⟨by first | (rw [h1, show n - i = (n - (i + 1)) + 1 by omega, judgR, if_neg (fun z : judgP _ _ _ = true => c_46 (of_decide_eq_true z).1)]) | (rw [h1, show n - (y + 1) = (n - (y + 2)) + 1 by omega, judgR, if_neg (fun z : judgP _ _ _ = true => hw (of_decide_eq_true z).2)]), _, rfl, by intro g h2 h6; simp [upG, up3, up3R, h2, h6]⟩ rfl dX5_judge_78
    refine J_lv [3, 4, 2, 1, 0] rfl ?_
    exact lp25 _ 0 (by omega) rfl (fun z => absurd z (Nat.lt_irrefl 0)) (Nat.lt_succ_self _)
  · skip
    have n_7 : ¬ 0 = 0 := cmp_ne (a := 0) (b := 0) (by omega) (by omega) c_7
    exact absurd n_7 (by decide)

set_option maxHeartbeats 4000000 in
set_option maxRecDepth 20000 in
theorem c_X5_judge_ok_2 (l : Launch) (G : GB) (a : Nat → Nat) (x : Q3) (n : Nat) (hb : ¬ x 10 1 0 = 0) (hn : x 10 1 1 = nI n) (hn2 : n ≤ 40) (hsp : spOk (x 0)) : CI l yX5_judge cX5_judge 5 .int 3 62 G [.ref (a 0), .int (nI 2)] (wC G a x) (fun vR w' => vR = judgR (x 0) (x 10 0) n 0 ∧ PubC G a x w') := by
  refine CI.mk (own := RX5) (by decide) rfl (Nat.le_of_ble_eq_true rfl) ?_
  intro X E ret
  show J X G 5 0 0 (wC G a x) [(0, .ref (a 0)), (1, .int (nI 2))] 0 []
  refine J_aload_n E dX5_judge_0 rfl 0 rfl ?_
  refine J_iload_n E dX5_judge_1 rfl 1 rfl ?_
  refine J_cVi0 E (As := [.int (nI 2)]) (c_X5_seekSheet_2_1 l G a x hb ) cl_X5_170 yo_X5_seekSheet dX5_judge_2 rfl rfl rfl (Nat.le_of_ble_eq_true rfl) (Nat.le_of_ble_eq_true rfl) rfl (Nat.le_of_ble_eq_true rfl) ⟨Nat.zero_le _, Nat.zero_le _⟩ ?_
  refine J_istore_n E (lv' := [(2, .int 0), (0, .ref (a 0)), (1, .int (nI 2))]) dX5_judge_5 rfl (by decide) rfl ?_
  refine J_iload_n E dX5_judge_6 rfl 0 rfl ?_
  refine J_if_eq E (tgt := 12) dX5_judge_7 (by decide) (fun c_7 => ?_) (fun c_7 => ?_)
  · skip
    have n_7 : 0 = 0 := cmp_eq (a := 0) (b := 0) (by omega) (by omega) c_7
    refine J_aload_n E dX5_judge_12 rfl 1 rfl ?_
    refine gC0_X5_44 E dX5_judge_13 ?_
    refine J_iload_n E dX5_judge_16 rfl 2 rfl ?_
    refine laC_30_2 E dX5_judge_17 ?_
    refine gC35_X5_221 E dX5_judge_18 ?_
    refine J_astore_n E (lv' := [(3, .ref (a 36)), (2, .int 0), (0, .ref (a 0)), (1, .int (nI 2))]) dX5_judge_21 rfl (by decide) rfl ?_
    refine J_iconst E dX5_judge_22 ic_0 ?_
    refine J_istore E (lv' := [(4, .int 0), (3, .ref (a 36)), (2, .int 0), (0, .ref (a 0)), (1, .int (nI 2))]) dX5_judge_23 (by decide) rfl ?_
    have lp25 : ∀ (fu : Nat) (i : Nat), (i ≤ n) → (judgR (x 0) (x 10 0) n 0 = judgR (x 0) (x 10 0) (n - i) i) → (0 < i → okH (x 10 0 (i - 1))) → n - i < fu → J X G 5 0 0 (wC G a x) [(0, .ref (a 0)), (1, .int (nI 2)), (2, .int 0), (3, .ref (a 36)), (4, .int (nI i))] 25 [] := by
      intro fu
      induction fu with
      | zero => intro i hi h1 h2 hm; exact absurd hm (Nat.not_lt_zero _)
      | succ fu ih25 =>
        intro i hi h1 h2 hm
        refine J_iload E dX5_judge_25 4 rfl ?_
        refine J_aload_n E dX5_judge_27 rfl 0 rfl ?_
        refine gC0_X5_44 E dX5_judge_28 ?_
        refine J_iload_n E dX5_judge_31 rfl 1 rfl ?_
        refine laC_30_2 E dX5_judge_32 ?_
        refine gC35_X5_208 E dX5_judge_33 ?_
        refine J_top (x' := nI n) (hn) ?_
        refine J_icmp_ge E (tgt := 85) dX5_judge_36 (by decide) (fun c_36 => ?_) (fun c_36 => ?_)
        · skip
          have n_36 : n ≤ i := cmp_le (a := n) (b := i) (by omega) (by omega) c_36
          refine J_iconst E dX5_judge_85 ic_0 ?_
          exact ret _ _ _ _ ⟨by rw [h1, show n - i = 0 by omega]; rfl, _, rfl, by intro g h2 h6; simp [upG, up3, up3R, h2, h6]⟩ rfl dX5_judge_86
        · skip
          have n_36 : ¬ n ≤ i := cmp_nle (a := n) (b := i) (by omega) (by omega) c_36
          refine J_aload_n E dX5_judge_39 rfl 3 rfl ?_
          refine J_iload E dX5_judge_40 4 rfl ?_
          refine lC_36 E (j := i) dX5_judge_42 (by omega) ?_
          refine J_cSiN E (As := [.int (x 10 0 i)]) (c_X5_isHouse l G (x 10 0 i) ) cl_X5_52 yo_X5_isHouse dX5_judge_43 rfl (Nat.le_of_ble_eq_true rfl) (Nat.le_of_ble_eq_true rfl) rfl (Nat.le_of_ble_eq_true rfl) ⟨Nat.zero_le _, Nat.zero_le _⟩ ?_
          refine J_if_eq E (tgt := 74) dX5_judge_46 (by decide) (fun c_46 => ?_) (fun c_46 => ?_)
          · skip
            have c_46 := bI_0 c_46
            refine J_iconst E dX5_judge_74 ic_1 ?_
            refine J_iload E dX5_judge_75 4 rfl ?_
            refine J_iadd E dX5_judge_77 ?_
            exact ret _ _ _ _ ⟨by first | (rw [h1, show n - i = (n - (i + 1)) + 1 by omega, judgR, if_neg (fun z : judgP _ _ _ = true => c_46 (of_decide_eq_true z).1)]) | (rw [h1, show n - (y + 1) = (n - (y + 2)) + 1 by omega, judgR, if_neg (fun z : judgP _ _ _ = true => hw (of_decide_eq_true z).2)]), _, rfl, by intro g h2 h6; simp [upG, up3, up3R, h2, h6]⟩ rfl dX5_judge_78
          · skip
            have c_46 := bI_1 c_46
            refine J_iload E dX5_judge_49 4 rfl ?_
            refine J_if_le E (tgt := 79) dX5_judge_51 (by decide) (fun c_51 => ?_) (fun c_51 => ?_)
            · skip
              have n_51 : i ≤ 0 := cmp_le (a := i) (b := 0) (by omega) (by omega) c_51
              have hw : i = 0 ∨ leadF (x 0) (x 10 0 (i - 1)).toNatClampNeg = x 10 0 i := Or.inl (by omega)
              refine J_iinc E (lv' := [(4, .int (nI (i + 1))), (0, .ref (a 0)), (1, .int (nI 2)), (2, .int 0), (3, .ref (a 36))]) dX5_judge_79 4 rfl (nI_inc _) (by decide) rfl ?_
              refine J_goto E (tgt := 25) dX5_judge_82 (by decide) ?_
              refine J_lv [1, 2, 3, 4, 0] rfl ?_
              exact ih25 (i + 1) (by omega) (by rw [h1, show n - i = (n - (i + 1)) + 1 by omega, judgR, if_pos (show judgP (x 0) (x 10 0) _ = true from decide_eq_true ⟨c_46, hw⟩)]) (fun _ => c_46) (by omega)
            · skip
              have n_51 : ¬ i ≤ 0 := cmp_nle (a := i) (b := 0) (by omega) (by omega) c_51
              refine J_aload_n E dX5_judge_54 rfl 0 rfl ?_
              refine gC0_X5_10 E dX5_judge_55 ?_
              refine J_aload_n E dX5_judge_58 rfl 3 rfl ?_
              refine J_iload E dX5_judge_59 4 rfl ?_
              obtain ⟨y, rfl⟩ : ∃ y, i = y + 1 := ⟨i - 1, by omega⟩
              obtain ⟨p, hp, hp2⟩ := okH_of (h2 (by omega))
              have hp2 : x 10 0 y = nI p := hp2
              refine J_iconst E dX5_judge_61 ic_1 ?_
              refine J_isub E dX5_judge_62 ?_
              refine J_top (x' := nI y) (nI_pred y) ?_
              refine lC_36 E (j := y) dX5_judge_63 (by omega) ?_
              refine J_top (x' := nI p) (hp2) ?_
              refine J_si0r E (As := [.int (nI p)]) (c_X1_leadsTo l G (sh a 1) (x 0) p (by omega)) cl_X5_85 yo_X1_leadsTo dX5_judge_64 rfl (Nat.le_of_ble_eq_true rfl) (Nat.le_of_ble_eq_true rfl) rfl (Nat.le_of_ble_eq_true rfl) ⟨Nat.zero_le _, Nat.zero_le _⟩ ?_
              refine J_aload_n E dX5_judge_67 rfl 3 rfl ?_
              refine J_iload E dX5_judge_68 4 rfl ?_
              refine lC_36 E (j := (y + 1)) dX5_judge_70 (by omega) ?_
              refine J_icmp_eq E (tgt := 79) dX5_judge_71 (by decide) (fun c_71 => ?_) (fun c_71 => ?_)
              · skip
                have hw : y + 1 = 0 ∨ leadF (x 0) (x 10 0 (y + 1 - 1)).toNatClampNeg = x 10 0 (y + 1) := Or.inr (by rw [show y + 1 - 1 = y by omega, hp2, nI_clamp (by omega)]; exact c_71)
                refine J_iinc E (lv' := [(4, .int (nI ((y + 1) + 1))), (0, .ref (a 0)), (1, .int (nI 2)), (2, .int 0), (3, .ref (a 36))]) dX5_judge_79 4 rfl (nI_inc _) (by decide) rfl ?_
                refine J_goto E (tgt := 25) dX5_judge_82 (by decide) ?_
                refine J_lv [1, 2, 3, 4, 0] rfl ?_
                exact ih25 ((y + 1) + 1) (by omega) (by rw [h1, show n - (y + 1) = (n - ((y + 1) + 1)) + 1 by omega, judgR, if_pos (show judgP (x 0) (x 10 0) _ = true from decide_eq_true ⟨c_46, hw⟩)]) (fun _ => c_46) (by omega)
              · skip
                have hw : ¬ (y + 1 = 0 ∨ leadF (x 0) (x 10 0 (y + 1 - 1)).toNatClampNeg = x 10 0 (y + 1)) := fun z => c_71 (by have z2 := z.resolve_left (by omega); rw [show y + 1 - 1 = y by omega, hp2, nI_clamp (by omega)] at z2; exact z2)
                refine J_iconst E dX5_judge_74 ic_1 ?_
                refine J_iload E dX5_judge_75 4 rfl ?_
                refine J_iadd E dX5_judge_77 ?_
                exact ret _ _ _ _ ⟨by first | (rw [h1, show n - i = (n - (i + 1)) + 1 by omega, judgR, if_neg (fun z : judgP _ _ _ = true => c_46 (of_decide_eq_true z).1)]) | (rw [h1, show n - (y + 1) = (n - (y + 2)) + 1 by omega, judgR, if_neg (fun z : judgP _ _ _ = true => hw (of_decide_eq_true z).2)]), _, rfl, by intro g h2 h6; simp [upG, up3, up3R, h2, h6]⟩ rfl dX5_judge_78
    refine J_lv [3, 4, 2, 1, 0] rfl ?_
    exact lp25 _ 0 (by omega) rfl (fun z => absurd z (Nat.lt_irrefl 0)) (Nat.lt_succ_self _)
  · skip
    have n_7 : ¬ 0 = 0 := cmp_ne (a := 0) (b := 0) (by omega) (by omega) c_7
    exact absurd n_7 (by decide)

set_option maxHeartbeats 4000000 in
set_option maxRecDepth 20000 in
theorem c_X5_judge_ok_3 (l : Launch) (G : GB) (a : Nat → Nat) (x : Q3) (n : Nat) (hb : ¬ x 11 1 0 = 0) (hn : x 11 1 1 = nI n) (hn2 : n ≤ 40) (hsp : spOk (x 0)) : CI l yX5_judge cX5_judge 5 .int 3 62 G [.ref (a 0), .int (nI 3)] (wC G a x) (fun vR w' => vR = judgR (x 0) (x 11 0) n 0 ∧ PubC G a x w') := by
  refine CI.mk (own := RX5) (by decide) rfl (Nat.le_of_ble_eq_true rfl) ?_
  intro X E ret
  show J X G 5 0 0 (wC G a x) [(0, .ref (a 0)), (1, .int (nI 3))] 0 []
  refine J_aload_n E dX5_judge_0 rfl 0 rfl ?_
  refine J_iload_n E dX5_judge_1 rfl 1 rfl ?_
  refine J_cVi0 E (As := [.int (nI 3)]) (c_X5_seekSheet_3_1 l G a x hb ) cl_X5_170 yo_X5_seekSheet dX5_judge_2 rfl rfl rfl (Nat.le_of_ble_eq_true rfl) (Nat.le_of_ble_eq_true rfl) rfl (Nat.le_of_ble_eq_true rfl) ⟨Nat.zero_le _, Nat.zero_le _⟩ ?_
  refine J_istore_n E (lv' := [(2, .int 0), (0, .ref (a 0)), (1, .int (nI 3))]) dX5_judge_5 rfl (by decide) rfl ?_
  refine J_iload_n E dX5_judge_6 rfl 0 rfl ?_
  refine J_if_eq E (tgt := 12) dX5_judge_7 (by decide) (fun c_7 => ?_) (fun c_7 => ?_)
  · skip
    have n_7 : 0 = 0 := cmp_eq (a := 0) (b := 0) (by omega) (by omega) c_7
    refine J_aload_n E dX5_judge_12 rfl 1 rfl ?_
    refine gC0_X5_44 E dX5_judge_13 ?_
    refine J_iload_n E dX5_judge_16 rfl 2 rfl ?_
    refine laC_30_3 E dX5_judge_17 ?_
    refine gC37_X5_221 E dX5_judge_18 ?_
    refine J_astore_n E (lv' := [(3, .ref (a 38)), (2, .int 0), (0, .ref (a 0)), (1, .int (nI 3))]) dX5_judge_21 rfl (by decide) rfl ?_
    refine J_iconst E dX5_judge_22 ic_0 ?_
    refine J_istore E (lv' := [(4, .int 0), (3, .ref (a 38)), (2, .int 0), (0, .ref (a 0)), (1, .int (nI 3))]) dX5_judge_23 (by decide) rfl ?_
    have lp25 : ∀ (fu : Nat) (i : Nat), (i ≤ n) → (judgR (x 0) (x 11 0) n 0 = judgR (x 0) (x 11 0) (n - i) i) → (0 < i → okH (x 11 0 (i - 1))) → n - i < fu → J X G 5 0 0 (wC G a x) [(0, .ref (a 0)), (1, .int (nI 3)), (2, .int 0), (3, .ref (a 38)), (4, .int (nI i))] 25 [] := by
      intro fu
      induction fu with
      | zero => intro i hi h1 h2 hm; exact absurd hm (Nat.not_lt_zero _)
      | succ fu ih25 =>
        intro i hi h1 h2 hm
        refine J_iload E dX5_judge_25 4 rfl ?_
        refine J_aload_n E dX5_judge_27 rfl 0 rfl ?_
        refine gC0_X5_44 E dX5_judge_28 ?_
        refine J_iload_n E dX5_judge_31 rfl 1 rfl ?_
        refine laC_30_3 E dX5_judge_32 ?_
        refine gC37_X5_208 E dX5_judge_33 ?_
        refine J_top (x' := nI n) (hn) ?_
        refine J_icmp_ge E (tgt := 85) dX5_judge_36 (by decide) (fun c_36 => ?_) (fun c_36 => ?_)
        · skip
          have n_36 : n ≤ i := cmp_le (a := n) (b := i) (by omega) (by omega) c_36
          refine J_iconst E dX5_judge_85 ic_0 ?_
          exact ret _ _ _ _ ⟨by rw [h1, show n - i = 0 by omega]; rfl, _, rfl, by intro g h2 h6; simp [upG, up3, up3R, h2, h6]⟩ rfl dX5_judge_86
        · skip
          have n_36 : ¬ n ≤ i := cmp_nle (a := n) (b := i) (by omega) (by omega) c_36
          refine J_aload_n E dX5_judge_39 rfl 3 rfl ?_
          refine J_iload E dX5_judge_40 4 rfl ?_
          refine lC_38 E (j := i) dX5_judge_42 (by omega) ?_
          refine J_cSiN E (As := [.int (x 11 0 i)]) (c_X5_isHouse l G (x 11 0 i) ) cl_X5_52 yo_X5_isHouse dX5_judge_43 rfl (Nat.le_of_ble_eq_true rfl) (Nat.le_of_ble_eq_true rfl) rfl (Nat.le_of_ble_eq_true rfl) ⟨Nat.zero_le _, Nat.zero_le _⟩ ?_
          refine J_if_eq E (tgt := 74) dX5_judge_46 (by decide) (fun c_46 => ?_) (fun c_46 => ?_)
          · skip
            have c_46 := bI_0 c_46
            refine J_iconst E dX5_judge_74 ic_1 ?_
            refine J_iload E dX5_judge_75 4 rfl ?_
            refine J_iadd E dX5_judge_77 ?_
            exact ret _ _ _ _ ⟨by first | (rw [h1, show n - i = (n - (i + 1)) + 1 by omega, judgR, if_neg (fun z : judgP _ _ _ = true => c_46 (of_decide_eq_true z).1)]) | (rw [h1, show n - (y + 1) = (n - (y + 2)) + 1 by omega, judgR, if_neg (fun z : judgP _ _ _ = true => hw (of_decide_eq_true z).2)]), _, rfl, by intro g h2 h6; simp [upG, up3, up3R, h2, h6]⟩ rfl dX5_judge_78
          · skip
            have c_46 := bI_1 c_46
            refine J_iload E dX5_judge_49 4 rfl ?_
            refine J_if_le E (tgt := 79) dX5_judge_51 (by decide) (fun c_51 => ?_) (fun c_51 => ?_)
            · skip
              have n_51 : i ≤ 0 := cmp_le (a := i) (b := 0) (by omega) (by omega) c_51
              have hw : i = 0 ∨ leadF (x 0) (x 11 0 (i - 1)).toNatClampNeg = x 11 0 i := Or.inl (by omega)
              refine J_iinc E (lv' := [(4, .int (nI (i + 1))), (0, .ref (a 0)), (1, .int (nI 3)), (2, .int 0), (3, .ref (a 38))]) dX5_judge_79 4 rfl (nI_inc _) (by decide) rfl ?_
              refine J_goto E (tgt := 25) dX5_judge_82 (by decide) ?_
              refine J_lv [1, 2, 3, 4, 0] rfl ?_
              exact ih25 (i + 1) (by omega) (by rw [h1, show n - i = (n - (i + 1)) + 1 by omega, judgR, if_pos (show judgP (x 0) (x 11 0) _ = true from decide_eq_true ⟨c_46, hw⟩)]) (fun _ => c_46) (by omega)
            · skip
              have n_51 : ¬ i ≤ 0 := cmp_nle (a := i) (b := 0) (by omega) (by omega) c_51
              refine J_aload_n E dX5_judge_54 rfl 0 rfl ?_
              refine gC0_X5_10 E dX5_judge_55 ?_
              refine J_aload_n E dX5_judge_58 rfl 3 rfl ?_
              refine J_iload E dX5_judge_59 4 rfl ?_
              obtain ⟨y, rfl⟩ : ∃ y, i = y + 1 := ⟨i - 1, by omega⟩
              obtain ⟨p, hp, hp2⟩ := okH_of (h2 (by omega))
              have hp2 : x 11 0 y = nI p := hp2
              refine J_iconst E dX5_judge_61 ic_1 ?_
              refine J_isub E dX5_judge_62 ?_
              refine J_top (x' := nI y) (nI_pred y) ?_
              refine lC_38 E (j := y) dX5_judge_63 (by omega) ?_
              refine J_top (x' := nI p) (hp2) ?_
              refine J_si0r E (As := [.int (nI p)]) (c_X1_leadsTo l G (sh a 1) (x 0) p (by omega)) cl_X5_85 yo_X1_leadsTo dX5_judge_64 rfl (Nat.le_of_ble_eq_true rfl) (Nat.le_of_ble_eq_true rfl) rfl (Nat.le_of_ble_eq_true rfl) ⟨Nat.zero_le _, Nat.zero_le _⟩ ?_
              refine J_aload_n E dX5_judge_67 rfl 3 rfl ?_
              refine J_iload E dX5_judge_68 4 rfl ?_
              refine lC_38 E (j := (y + 1)) dX5_judge_70 (by omega) ?_
              refine J_icmp_eq E (tgt := 79) dX5_judge_71 (by decide) (fun c_71 => ?_) (fun c_71 => ?_)
              · skip
                have hw : y + 1 = 0 ∨ leadF (x 0) (x 11 0 (y + 1 - 1)).toNatClampNeg = x 11 0 (y + 1) := Or.inr (by rw [show y + 1 - 1 = y by omega, hp2, nI_clamp (by omega)]; exact c_71)
                refine J_iinc E (lv' := [(4, .int (nI ((y + 1) + 1))), (0, .ref (a 0)), (1, .int (nI 3)), (2, .int 0), (3, .ref (a 38))]) dX5_judge_79 4 rfl (nI_inc _) (by decide) rfl ?_
                refine J_goto E (tgt := 25) dX5_judge_82 (by decide) ?_
                refine J_lv [1, 2, 3, 4, 0] rfl ?_
                exact ih25 ((y + 1) + 1) (by omega) (by rw [h1, show n - (y + 1) = (n - ((y + 1) + 1)) + 1 by omega, judgR, if_pos (show judgP (x 0) (x 11 0) _ = true from decide_eq_true ⟨c_46, hw⟩)]) (fun _ => c_46) (by omega)
              · skip
                have hw : ¬ (y + 1 = 0 ∨ leadF (x 0) (x 11 0 (y + 1 - 1)).toNatClampNeg = x 11 0 (y + 1)) := fun z => c_71 (by have z2 := z.resolve_left (by omega); rw [show y + 1 - 1 = y by omega, hp2, nI_clamp (by omega)] at z2; exact z2)
                refine J_iconst E dX5_judge_74 ic_1 ?_
                refine J_iload E dX5_judge_75 4 rfl ?_
                refine J_iadd E dX5_judge_77 ?_
                exact ret _ _ _ _ ⟨by first | (rw [h1, show n - i = (n - (i + 1)) + 1 by omega, judgR, if_neg (fun z : judgP _ _ _ = true => c_46 (of_decide_eq_true z).1)]) | (rw [h1, show n - (y + 1) = (n - (y + 2)) + 1 by omega, judgR, if_neg (fun z : judgP _ _ _ = true => hw (of_decide_eq_true z).2)]), _, rfl, by intro g h2 h6; simp [upG, up3, up3R, h2, h6]⟩ rfl dX5_judge_78
    refine J_lv [3, 4, 2, 1, 0] rfl ?_
    exact lp25 _ 0 (by omega) rfl (fun z => absurd z (Nat.lt_irrefl 0)) (Nat.lt_succ_self _)
  · skip
    have n_7 : ¬ 0 = 0 := cmp_ne (a := 0) (b := 0) (by omega) (by omega) c_7
    exact absurd n_7 (by decide)

set_option maxHeartbeats 4000000 in
set_option maxRecDepth 20000 in
theorem c_X5_image_ok (l : Launch) (G : GB) (a : Nat → Nat) (x : Q3)  : CI l yX5_image cX5_image 1 .int 2 47 G [.ref (a 0)] (wC G a x) (fun vR w' => vR = 1 ∧ PubC G a (up3 (upG x 1 (x 0)) 3 1 0 1) w') := by
  refine CI.mk (own := RX5) (by decide) rfl (Nat.le_of_ble_eq_true rfl) ?_
  intro X E ret
  show J X G 1 0 0 (wC G a x) [(0, .ref (a 0))] 0 []
  refine J_aload_n E dX5_image_0 rfl 0 rfl ?_
  refine gC0_X5_16 E dX5_image_1 ?_
  refine J_aload_n E dX5_image_4 rfl 0 rfl ?_
  refine gC0_X5_10 E dX5_image_5 ?_
  refine J_b10 E dX5_image_8 (Nat.le_of_ble_eq_true rfl) (Nat.le_of_ble_eq_true rfl) (Nat.le_of_ble_eq_true rfl) ⟨Nat.zero_le _, Nat.zero_le _⟩ ?_
  refine J_aload_n E dX5_image_11 rfl 0 rfl ?_
  refine J_iconst E dX5_image_12 ic_1 ?_
  refine pC0_X5_227 E rfl rfl dX5_image_13 ?_
  refine J_iconst E dX5_image_16 ic_1 ?_
  exact ret _ _ _ _ ⟨rfl, _, rfl, by intro g h2 h6; simp [upG, up3, up3R, h2, h6]⟩ rfl dX5_image_17

set_option maxHeartbeats 4000000 in
set_option maxRecDepth 20000 in
theorem c_X5_undo_none (l : Launch) (G : GB) (a : Nat → Nat) (x : Q3) (hk : x 3 1 0 = 0) : CI l yX5_undo cX5_undo 1 .int 1 21 G [.ref (a 0)] (wC G a x) (fun vR w' => vR = tellR 3 ∧ PubC G a (tellX x 3) w') := by
  refine CI.mk (own := RX5) (by decide) rfl (Nat.le_of_ble_eq_true rfl) ?_
  intro X E ret
  show J X G 1 0 0 (wC G a x) [(0, .ref (a 0))] 0 []
  refine J_aload_n E dX5_undo_0 rfl 0 rfl ?_
  refine gC0_X5_227 E dX5_undo_1 ?_
  refine J_if_ne E (tgt := 13) dX5_undo_4 (by decide) (fun c_4 => ?_) (fun c_4 => ?_)
  · skip
    exact absurd hk c_4
  · skip
    refine J_aload_n E dX5_undo_7 rfl 0 rfl ?_
    refine J_iconst E dX5_undo_8 ic_3 ?_
    refine J_cVi0 E (As := [.int 3]) (c_X5_tell l G a x 3 (by omega)) cl_X5_64 yo_X5_tell dX5_undo_9 rfl rfl rfl (Nat.le_of_ble_eq_true rfl) (Nat.le_of_ble_eq_true rfl) rfl (Nat.le_of_ble_eq_true rfl) ⟨Nat.zero_le _, Nat.zero_le _⟩ ?_
    exact ret _ _ _ _ ⟨rfl, _, rfl, by intro g h2 h6; simp [upG, up3, up3R, h2, h6]⟩ rfl dX5_undo_12

set_option maxHeartbeats 4000000 in
set_option maxRecDepth 20000 in
theorem c_X5_undo_ok (l : Launch) (G : GB) (a : Nat → Nat) (x : Q3) (hk : ¬ x 3 1 0 = 0) : CI l yX5_undo cX5_undo 1 .int 2 47 G [.ref (a 0)] (wC G a x) (fun vR w' => vR = x 1 7 0 ∧ PubC G a (upG x 0 (x 1)) w') := by
  refine CI.mk (own := RX5) (by decide) rfl (Nat.le_of_ble_eq_true rfl) ?_
  intro X E ret
  show J X G 1 0 0 (wC G a x) [(0, .ref (a 0))] 0 []
  refine J_aload_n E dX5_undo_0 rfl 0 rfl ?_
  refine gC0_X5_227 E dX5_undo_1 ?_
  refine J_if_ne E (tgt := 13) dX5_undo_4 (by decide) (fun c_4 => ?_) (fun c_4 => ?_)
  · skip
    refine J_aload_n E dX5_undo_13 rfl 0 rfl ?_
    refine gC0_X5_10 E dX5_undo_14 ?_
    refine J_aload_n E dX5_undo_17 rfl 0 rfl ?_
    refine gC0_X5_16 E dX5_undo_18 ?_
    refine J_b01 E dX5_undo_21 (Nat.le_of_ble_eq_true rfl) (Nat.le_of_ble_eq_true rfl) (Nat.le_of_ble_eq_true rfl) ⟨Nat.zero_le _, Nat.zero_le _⟩ ?_
    refine J_aload_n E dX5_undo_24 rfl 0 rfl ?_
    refine gC0_X5_10 E dX5_undo_25 ?_
    refine gC1_X5_106 E dX5_undo_28 ?_
    refine J_top (x' := (x 1) 7 0) upG_s ?_
    exact ret _ _ _ _ ⟨rfl, _, rfl, by intro g h2 h6; simp [upG, up3, up3R, h2, h6]⟩ rfl dX5_undo_31
  · skip
    exact absurd c_4 hk

set_option maxHeartbeats 4000000 in
set_option maxRecDepth 20000 in
theorem c_X5_tear_ok (l : Launch) (G : GB) (a : Nat → Nat) (x : Q3)  : CI l yX5_tear cX5_tear 2 .int 0 0 G [.ref (a 0)] (wC G a x) (fun vR w' => vR = (if x 3 1 0 = 0 then 0 else 1) ∧ PubC G a (up3 x 3 1 0 0) w') := by
  refine CI.mk (own := RX5) (by decide) rfl (Nat.le_of_ble_eq_true rfl) ?_
  intro X E ret
  show J X G 2 0 0 (wC G a x) [(0, .ref (a 0))] 0 []
  refine J_aload_n E dX5_tear_0 rfl 0 rfl ?_
  refine gC0_X5_227 E dX5_tear_1 ?_
  refine J_if_eq E (tgt := 11) dX5_tear_4 (by decide) (fun c_4 => ?_) (fun c_4 => ?_)
  · skip
    refine J_iconst E dX5_tear_11 ic_0 ?_
    refine J_istore_n E (lv' := [(1, .int 0), (0, .ref (a 0))]) dX5_tear_12 rfl (by decide) rfl ?_
    refine J_aload_n E dX5_tear_13 rfl 1 rfl ?_
    refine J_iconst E dX5_tear_14 ic_0 ?_
    refine pC0_X5_227 E rfl rfl dX5_tear_15 ?_
    refine J_iload_n E dX5_tear_18 rfl 0 rfl ?_
    exact ret _ _ _ _ ⟨by first | rw [if_pos c_4] | rw [if_neg c_4], _, rfl, by intro g h2 h6; simp [upG, up3, up3R, h2, h6]⟩ rfl dX5_tear_19
  · skip
    refine J_iconst E dX5_tear_7 ic_1 ?_
    refine J_goto E (tgt := 12) dX5_tear_8 (by decide) ?_
    refine J_istore_n E (lv' := [(1, .int 1), (0, .ref (a 0))]) dX5_tear_12 rfl (by decide) rfl ?_
    refine J_aload_n E dX5_tear_13 rfl 1 rfl ?_
    refine J_iconst E dX5_tear_14 ic_0 ?_
    refine pC0_X5_227 E rfl rfl dX5_tear_15 ?_
    refine J_iload_n E dX5_tear_18 rfl 0 rfl ?_
    exact ret _ _ _ _ ⟨by first | rw [if_pos c_4] | rw [if_neg c_4], _, rfl, by intro g h2 h6; simp [upG, up3, up3R, h2, h6]⟩ rfl dX5_tear_19

set_option maxHeartbeats 4000000 in
set_option maxRecDepth 20000 in
theorem c_X5_count_bad (l : Launch) (G : GB) (a : Nat → Nat) (x : Q3) (k : Int32) (hb : ¬ (0 ≤ k ∧ k ≤ 7)) : CI l yX5_count cX5_count 2 .int 1 21 G [.ref (a 0), .int k] (wC G a x) (fun vR w' => vR = tellR 0 ∧ PubC G a (tellX x 0) w') := by
  refine CI.mk (own := RX5) (by decide) rfl (Nat.le_of_ble_eq_true rfl) ?_
  intro X E ret
  show J X G 2 0 0 (wC G a x) [(0, .ref (a 0)), (1, .int k)] 0 []
  refine J_iload_n E dX5_count_0 rfl 1 rfl ?_
  by_cases c_1 : (k).toInt < 0 ∨ 7 < (k).toInt
  · refine J_tabOut E (tgt := 115) dX5_count_1 c_1 (by decide) ?_
    have n_1_0 : ¬ k = 0 := ne_out c_1 (by decide)
    have n_1_1 : ¬ k = 1 := ne_out c_1 (by decide)
    have n_1_2 : ¬ k = 2 := ne_out c_1 (by decide)
    have n_1_3 : ¬ k = 3 := ne_out c_1 (by decide)
    have n_1_4 : ¬ k = 4 := ne_out c_1 (by decide)
    have n_1_5 : ¬ k = 5 := ne_out c_1 (by decide)
    have n_1_6 : ¬ k = 6 := ne_out c_1 (by decide)
    have n_1_7 : ¬ k = 7 := ne_out c_1 (by decide)
    refine J_aload_n E dX5_count_115 rfl 0 rfl ?_
    refine J_iconst E dX5_count_116 ic_0 ?_
    refine J_cVi0 E (As := [.int 0]) (c_X5_tell l G a x 0 (by omega)) cl_X5_64 yo_X5_tell dX5_count_117 rfl rfl rfl (Nat.le_of_ble_eq_true rfl) (Nat.le_of_ble_eq_true rfl) rfl (Nat.le_of_ble_eq_true rfl) ⟨Nat.zero_le _, Nat.zero_le _⟩ ?_
    exact ret _ _ _ _ ⟨rfl, _, rfl, by intro g h2 h6; simp [upG, up3, up3R, h2, h6]⟩ rfl dX5_count_120
  · rcases sw_0_7 c_1 with i_1 | i_1 | i_1 | i_1 | i_1 | i_1 | i_1 | i_1
    · refine J_top i_1 ?_
      refine J_tabIn E (tgt := 48) (off := 47) dX5_count_1 (by decide) (by decide) rfl (by decide) ?_
      exact absurd (by rw [i_1]; decide) hb
    · refine J_top i_1 ?_
      refine J_tabIn E (tgt := 56) (off := 55) dX5_count_1 (by decide) (by decide) rfl (by decide) ?_
      exact absurd (by rw [i_1]; decide) hb
    · refine J_top i_1 ?_
      refine J_tabIn E (tgt := 64) (off := 63) dX5_count_1 (by decide) (by decide) rfl (by decide) ?_
      exact absurd (by rw [i_1]; decide) hb
    · refine J_top i_1 ?_
      refine J_tabIn E (tgt := 75) (off := 74) dX5_count_1 (by decide) (by decide) rfl (by decide) ?_
      exact absurd (by rw [i_1]; decide) hb
    · refine J_top i_1 ?_
      refine J_tabIn E (tgt := 83) (off := 82) dX5_count_1 (by decide) (by decide) rfl (by decide) ?_
      exact absurd (by rw [i_1]; decide) hb
    · refine J_top i_1 ?_
      refine J_tabIn E (tgt := 91) (off := 90) dX5_count_1 (by decide) (by decide) rfl (by decide) ?_
      exact absurd (by rw [i_1]; decide) hb
    · refine J_top i_1 ?_
      refine J_tabIn E (tgt := 99) (off := 98) dX5_count_1 (by decide) (by decide) rfl (by decide) ?_
      exact absurd (by rw [i_1]; decide) hb
    · refine J_top i_1 ?_
      refine J_tabIn E (tgt := 107) (off := 106) dX5_count_1 (by decide) (by decide) rfl (by decide) ?_
      exact absurd (by rw [i_1]; decide) hb

set_option maxHeartbeats 4000000 in
set_option maxRecDepth 20000 in
theorem c_X5_count_ok (l : Launch) (G : GB) (a : Nat → Nat) (x : Q3) (k : Nat) (hk : k < 8) : CI l yX5_count cX5_count 2 .int 1 22 G [.ref (a 0), .int (nI k)] (wC G a x) (fun vR w' => vR = countF x k ∧ PubC G a x w') := by
  refine CI.mk (own := RX5) (by decide) rfl (Nat.le_of_ble_eq_true rfl) ?_
  intro X E ret
  show J X G 2 0 0 (wC G a x) [(0, .ref (a 0)), (1, .int (nI k))] 0 []
  rcases (show k = 0 ∨ k = 1 ∨ k = 2 ∨ k = 3 ∨ k = 4 ∨ k = 5 ∨ k = 6 ∨ k = 7 by omega) with rfl | rfl | rfl | rfl | rfl | rfl | rfl | rfl
  · skip
    refine J_iload_n E dX5_count_0 rfl 1 rfl ?_
    refine J_tabIn E (tgt := 48) (off := 47) dX5_count_1 (by decide) (by decide) rfl (by decide) ?_
    refine J_aload_n E dX5_count_48 rfl 0 rfl ?_
    refine gC0_X5_10 E dX5_count_49 ?_
    refine gC1_X5_106 E dX5_count_52 ?_
    exact ret _ _ _ _ ⟨by simp [countF], _, rfl, by intro g h2 h6; simp [upG, up3, up3R, h2, h6]⟩ rfl dX5_count_55
  · skip
    refine J_iload_n E dX5_count_0 rfl 1 rfl ?_
    refine J_tabIn E (tgt := 56) (off := 55) dX5_count_1 (by decide) (by decide) rfl (by decide) ?_
    refine J_aload_n E dX5_count_56 rfl 0 rfl ?_
    refine gC0_X5_10 E dX5_count_57 ?_
    refine J_si0r E (As := []) (c_X1_housesOfOtherKinds l G (sh a 1) (x 0) ) cl_X5_231 yo_X1_housesOfOtherKinds dX5_count_60 rfl (Nat.le_of_ble_eq_true rfl) (Nat.le_of_ble_eq_true rfl) rfl (Nat.le_of_ble_eq_true rfl) ⟨Nat.zero_le _, Nat.zero_le _⟩ ?_
    exact ret _ _ _ _ ⟨by simp [countF], _, rfl, by intro g h2 h6; simp [upG, up3, up3R, h2, h6]⟩ rfl dX5_count_63
  · skip
    refine J_iload_n E dX5_count_0 rfl 1 rfl ?_
    refine J_tabIn E (tgt := 64) (off := 63) dX5_count_1 (by decide) (by decide) rfl (by decide) ?_
    refine J_aload_n E dX5_count_64 rfl 0 rfl ?_
    refine gC0_X5_10 E dX5_count_65 ?_
    refine J_si0r E (As := []) (c_X1_everDry l G (sh a 1) (x 0) ) cl_X5_123 yo_X1_everDry dX5_count_68 rfl (Nat.le_of_ble_eq_true rfl) (Nat.le_of_ble_eq_true rfl) rfl (Nat.le_of_ble_eq_true rfl) ⟨Nat.zero_le _, Nat.zero_le _⟩ ?_
    refine J_cSiN E (As := [.int (setF (fun j => decide (0 < ((x 0) 5) j)) 11)]) (c_J6_bitCount_0f7a4 l G (setF (fun j => decide (0 < ((x 0) 5) j)) 11) ) cl_X5_158 yo_J6_bitCount_0f7a4 dX5_count_71 rfl (Nat.le_of_ble_eq_true rfl) (Nat.le_of_ble_eq_true rfl) rfl (Nat.le_of_ble_eq_true rfl) ⟨Nat.zero_le _, Nat.zero_le _⟩ ?_
    exact ret _ _ _ _ ⟨by simp [countF], _, rfl, by intro g h2 h6; simp [upG, up3, up3R, h2, h6]⟩ rfl dX5_count_74
  · skip
    refine J_iload_n E dX5_count_0 rfl 1 rfl ?_
    refine J_tabIn E (tgt := 75) (off := 74) dX5_count_1 (by decide) (by decide) rfl (by decide) ?_
    refine J_aload_n E dX5_count_75 rfl 0 rfl ?_
    refine gC0_X5_10 E dX5_count_76 ?_
    refine J_si0r E (As := []) (c_X1_waterOfAll l G (sh a 1) (x 0) ) cl_X5_117 yo_X1_waterOfAll dX5_count_79 rfl (Nat.le_of_ble_eq_true rfl) (Nat.le_of_ble_eq_true rfl) rfl (Nat.le_of_ble_eq_true rfl) ⟨Nat.zero_le _, Nat.zero_le _⟩ ?_
    exact ret _ _ _ _ ⟨by simp [countF], _, rfl, by intro g h2 h6; simp [upG, up3, up3R, h2, h6]⟩ rfl dX5_count_82
  · skip
    refine J_iload_n E dX5_count_0 rfl 1 rfl ?_
    refine J_tabIn E (tgt := 83) (off := 82) dX5_count_1 (by decide) (by decide) rfl (by decide) ?_
    refine J_aload_n E dX5_count_83 rfl 0 rfl ?_
    refine gC0_X5_10 E dX5_count_84 ?_
    refine gC1_X5_114 E dX5_count_87 ?_
    exact ret _ _ _ _ ⟨by simp [countF], _, rfl, by intro g h2 h6; simp [upG, up3, up3R, h2, h6]⟩ rfl dX5_count_90
  · skip
    refine J_iload_n E dX5_count_0 rfl 1 rfl ?_
    refine J_tabIn E (tgt := 91) (off := 90) dX5_count_1 (by decide) (by decide) rfl (by decide) ?_
    refine J_aload_n E dX5_count_91 rfl 0 rfl ?_
    refine gC0_X5_29 E dX5_count_92 ?_
    refine gC27_X5_183 E dX5_count_95 ?_
    exact ret _ _ _ _ ⟨by simp [countF], _, rfl, by intro g h2 h6; simp [upG, up3, up3R, h2, h6]⟩ rfl dX5_count_98
  · skip
    refine J_iload_n E dX5_count_0 rfl 1 rfl ?_
    refine J_tabIn E (tgt := 99) (off := 98) dX5_count_1 (by decide) (by decide) rfl (by decide) ?_
    refine J_aload_n E dX5_count_99 rfl 0 rfl ?_
    refine gC0_X5_10 E dX5_count_100 ?_
    refine gC1_X5_180 E dX5_count_103 ?_
    exact ret _ _ _ _ ⟨by simp [countF], _, rfl, by intro g h2 h6; simp [upG, up3, up3R, h2, h6]⟩ rfl dX5_count_106
  · skip
    refine J_iload_n E dX5_count_0 rfl 1 rfl ?_
    refine J_tabIn E (tgt := 107) (off := 106) dX5_count_1 (by decide) (by decide) rfl (by decide) ?_
    refine J_aload_n E dX5_count_107 rfl 0 rfl ?_
    refine gC0_X5_10 E dX5_count_108 ?_
    refine J_si0r E (As := []) (c_X1_spotsHeld l G (sh a 1) (x 0) ) cl_X5_234 yo_X1_spotsHeld dX5_count_111 rfl (Nat.le_of_ble_eq_true rfl) (Nat.le_of_ble_eq_true rfl) rfl (Nat.le_of_ble_eq_true rfl) ⟨Nat.zero_le _, Nat.zero_le _⟩ ?_
    exact ret _ _ _ _ ⟨by simp [countF], _, rfl, by intro g h2 h6; simp [upG, up3, up3R, h2, h6]⟩ rfl dX5_count_114

set_option maxHeartbeats 4000000 in
set_option maxRecDepth 20000 in
theorem c_X5_status_bad (l : Launch) (G : GB) (a : Nat → Nat) (x : Q3) (w : Int32) (hb : ¬ (w = -1 ∨ 0 ≤ w ∧ w ≤ 6)) : CI l yX5_status cX5_status 4 .int 1 21 G [.ref (a 0), .int w] (wC G a x) (fun vR w' => vR = tellR 0 ∧ PubC G a (tellX x 0) w') := by
  refine CI.mk (own := RX5) (by decide) rfl (Nat.le_of_ble_eq_true rfl) ?_
  intro X E ret
  show J X G 4 0 0 (wC G a x) [(0, .ref (a 0)), (1, .int w)] 0 []
  refine J_iload_n E dX5_status_0 rfl 1 rfl ?_
  refine J_iconst E dX5_status_1 ic_m1 ?_
  refine J_icmp_eq E (tgt := 20) dX5_status_2 (by decide) (fun c_2 => ?_) (fun c_2 => ?_)
  · skip
    exact absurd (Or.inl c_2) hb
  · skip
    refine J_iload_n E dX5_status_5 rfl 1 rfl ?_
    refine J_bipush E dX5_status_6 bp_6 ?_
    refine J_cSiN E (As := [.int w, .int 6]) (c_X5_isUpTo l G w 6 ) cl_X5_56 yo_X5_isUpTo dX5_status_8 rfl (Nat.le_of_ble_eq_true rfl) (Nat.le_of_ble_eq_true rfl) rfl (Nat.le_of_ble_eq_true rfl) ⟨Nat.zero_le _, Nat.zero_le _⟩ ?_
    refine J_if_ne E (tgt := 20) dX5_status_11 (by decide) (fun c_11 => ?_) (fun c_11 => ?_)
    · skip
      have c_11 := bI_1 c_11
      exact absurd (Or.inr c_11) hb
    · skip
      have c_11 := bI_0 c_11
      refine J_aload_n E dX5_status_14 rfl 0 rfl ?_
      refine J_iconst E dX5_status_15 ic_0 ?_
      refine J_cVi0 E (As := [.int 0]) (c_X5_tell l G a x 0 (by omega)) cl_X5_64 yo_X5_tell dX5_status_16 rfl rfl rfl (Nat.le_of_ble_eq_true rfl) (Nat.le_of_ble_eq_true rfl) rfl (Nat.le_of_ble_eq_true rfl) ⟨Nat.zero_le _, Nat.zero_le _⟩ ?_
      exact ret _ _ _ _ ⟨rfl, _, rfl, by intro g h2 h6; simp [upG, up3, up3R, h2, h6]⟩ rfl dX5_status_19

set_option maxHeartbeats 4000000 in
set_option maxRecDepth 20000 in
theorem c_X5_status_one (l : Launch) (G : GB) (a : Nat → Nat) (x : Q3) (k : Nat) (hk : k < 7) : CI l yX5_status cX5_status 4 .int 1 21 G [.ref (a 0), .int (nI k)] (wC G a x) (fun vR w' => vR = x 3 0 k ∧ PubC G a x w') := by
  refine CI.mk (own := RX5) (by decide) rfl (Nat.le_of_ble_eq_true rfl) ?_
  intro X E ret
  show J X G 4 0 0 (wC G a x) [(0, .ref (a 0)), (1, .int (nI k))] 0 []
  refine J_iload_n E dX5_status_0 rfl 1 rfl ?_
  refine J_iconst E dX5_status_1 ic_m1 ?_
  refine J_icmp_eq E (tgt := 20) dX5_status_2 (by decide) (fun c_2 => ?_) (fun c_2 => ?_)
  · skip
    exact absurd c_2 (m1_ne (by omega))
  · skip
    refine J_iload_n E dX5_status_5 rfl 1 rfl ?_
    refine J_bipush E dX5_status_6 bp_6 ?_
    refine J_cSiN E (As := [.int (nI k), .int 6]) (c_X5_isUpTo l G (nI k) 6 ) cl_X5_56 yo_X5_isUpTo dX5_status_8 rfl (Nat.le_of_ble_eq_true rfl) (Nat.le_of_ble_eq_true rfl) rfl (Nat.le_of_ble_eq_true rfl) ⟨Nat.zero_le _, Nat.zero_le _⟩ ?_
    refine J_if_ne E (tgt := 20) dX5_status_11 (by decide) (fun c_11 => ?_) (fun c_11 => ?_)
    · skip
      have c_11 := bI_1 c_11
      refine J_iload_n E dX5_status_20 rfl 1 rfl ?_
      refine J_iconst E dX5_status_21 ic_m1 ?_
      refine J_icmp_eq E (tgt := 32) dX5_status_22 (by decide) (fun c_22 => ?_) (fun c_22 => ?_)
      · skip
        exact absurd c_22 (m1_ne (by omega))
      · skip
        refine J_aload_n E dX5_status_25 rfl 0 rfl ?_
        refine gC0_X5_48 E dX5_status_26 ?_
        refine J_iload_n E dX5_status_29 rfl 1 rfl ?_
        refine lC_26 E (j := k) dX5_status_30 (by omega) ?_
        exact ret _ _ _ _ ⟨rfl, _, rfl, by intro g h2 h6; simp [upG, up3, up3R, h2, h6]⟩ rfl dX5_status_31
    · skip
      have c_11 := bI_0 c_11
      exact absurd (inB (a := k) (b := 6) (by omega) (by decide)) c_11

set_option maxHeartbeats 4000000 in
set_option maxRecDepth 20000 in
theorem c_X5_status_all (l : Launch) (G : GB) (a : Nat → Nat) (x : Q3)  : CI l yX5_status cX5_status 4 .int 0 0 G [.ref (a 0), .int (-1)] (wC G a x) (fun vR w' => vR = sumF (x 3 0) 7 ∧ PubC G a x w') := by
  refine CI.mk (own := RX5) (by decide) rfl (Nat.le_of_ble_eq_true rfl) ?_
  intro X E ret
  show J X G 4 0 0 (wC G a x) [(0, .ref (a 0)), (1, .int (-1))] 0 []
  refine J_iload_n E dX5_status_0 rfl 1 rfl ?_
  refine J_iconst E dX5_status_1 ic_m1 ?_
  refine J_icmp_eq E (tgt := 20) dX5_status_2 (by decide) (fun c_2 => ?_) (fun c_2 => ?_)
  · skip
    refine J_iload_n E dX5_status_20 rfl 1 rfl ?_
    refine J_iconst E dX5_status_21 ic_m1 ?_
    refine J_icmp_eq E (tgt := 32) dX5_status_22 (by decide) (fun c_22 => ?_) (fun c_22 => ?_)
    · skip
      refine J_iconst E dX5_status_32 ic_0 ?_
      refine J_istore_n E (lv' := [(2, .int 0), (0, .ref (a 0)), (1, .int (-1))]) dX5_status_33 rfl (by decide) rfl ?_
      refine J_iconst E dX5_status_34 ic_0 ?_
      refine J_istore_n E (lv' := [(3, .int 0), (2, .int 0), (0, .ref (a 0)), (1, .int (-1))]) dX5_status_35 rfl (by decide) rfl ?_
      have lp36 : ∀ (fu : Nat) (i : Nat) (s : Int32), (i ≤ 7) → (s = sumF (x 3 0) i) → 7 - i < fu → J X G 4 0 0 (wC G a x) [(0, .ref (a 0)), (1, .int (-1)), (2, .int s), (3, .int (nI i))] 36 [] := by
        intro fu
        induction fu with
        | zero => intro i s hi h1 hm; exact absurd hm (Nat.not_lt_zero _)
        | succ fu ih36 =>
          intro i s hi h1 hm
          refine J_iload_n E dX5_status_36 rfl 3 rfl ?_
          refine J_bipush E dX5_status_37 bp_7 ?_
          refine J_icmp_ge E (tgt := 57) dX5_status_39 (by decide) (fun c_39 => ?_) (fun c_39 => ?_)
          · skip
            have n_39 : 7 ≤ i := cmp_le (a := 7) (b := i) (by omega) (by omega) c_39
            refine J_iload_n E dX5_status_57 rfl 2 rfl ?_
            exact ret _ _ _ _ ⟨by rw [h1, show i = 7 by omega], _, rfl, by intro g h2 h6; simp [upG, up3, up3R, h2, h6]⟩ rfl dX5_status_58
          · skip
            have n_39 : ¬ 7 ≤ i := cmp_nle (a := 7) (b := i) (by omega) (by omega) c_39
            refine J_iload_n E dX5_status_42 rfl 2 rfl ?_
            refine J_aload_n E dX5_status_43 rfl 0 rfl ?_
            refine gC0_X5_48 E dX5_status_44 ?_
            refine J_iload_n E dX5_status_47 rfl 3 rfl ?_
            refine lC_26 E (j := i) dX5_status_48 (by omega) ?_
            refine J_iadd E dX5_status_49 ?_
            refine J_istore_n E (lv' := [(2, .int (s + (x 3 0 i))), (0, .ref (a 0)), (1, .int (-1)), (3, .int (nI i))]) dX5_status_50 rfl (by decide) rfl ?_
            refine J_iinc E (lv' := [(3, .int (nI (i + 1))), (2, .int (s + (x 3 0 i))), (0, .ref (a 0)), (1, .int (-1))]) dX5_status_51 3 rfl (nI_inc _) (by decide) rfl ?_
            refine J_goto E (tgt := 36) dX5_status_54 (by decide) ?_
            refine J_lv [2, 3, 1, 0] rfl ?_
            exact ih36 (i + 1) (s + (x 3 0 i)) (by omega) (by rw [h1]; rfl) (by omega)
      refine J_lv [2, 3, 1, 0] rfl ?_
      exact lp36 _ 0 0 (by omega) rfl (Nat.lt_succ_self _)
    · skip
      exact absurd c_22 (by decide)
  · skip
    exact absurd c_2 (by decide)
theorem byS_len : ∀ i, i < 27 → (byS i).length < 100 := by decide +kernel
theorem byS_ch : ∀ i, i < 27 → ∀ k, k < (byS i).length → (((byS i).getD k 0 &&& 255).toUInt32 % 65536).toInt32 = (byS i).getD k 0 ∧ narrow .char (.int ((byS i).getD k 0)) = .int ((byS i).getD k 0) := by decide +kernel
section ST
variable {X : JX} {l : Launch} {G : GB} {cc : ByteArray} {own : String} {nL fr lo kc ks pc : Nat} {ws : va_W} {lv : List (Nat × Value)} {st : List Value}
theorem J_gCS (E : JE X l G cc RJ0 nL fr lo) (hd : decode cc pc = .ok (.getstatic 38, 3)) (K : J X G nL kc ks ws lv (pc + 3) (.int 1 :: st)) : J X G nL kc ks ws lv pc st := fun H locs ls hP hD hS hl =>
  va_gets E.1 E.2.1 E.2.2.2.2.2.2.2.2.1.2.2.1 hS E.2.2.2.1 (E.2.2.2.2.1 _ fl_J0_38) (fun _ h => h) hd (K H locs ls hP hD hS hl)
theorem J_gSio (E : JE X l G cc RJ0 nL fr lo) (hd : decode cc pc = .ok (.getstatic 1053, 3)) (K0 : J X G nL kc ks ws lv (pc + 3) (.null :: st)) (K1 : ∀ t : Nat, J X G nL kc ks ws lv (pc + 3) (.ref t :: st)) : J X G nL kc ks ws lv pc st := fun H locs ls hP hD hS hl => by
  rcases E.2.2.2.2.2.2.2.2.1.2.2.2.1 with h | ⟨t, h⟩
  · exact va_gets E.1 E.2.1 h hS E.2.2.2.1 (E.2.2.2.2.1 _ fl_J0_1053) (fun _ h => h) hd (K0 H locs ls hP hD hS hl)
  · exact va_gets E.1 E.2.1 h hS E.2.2.2.1 (E.2.2.2.2.1 _ fl_J0_1053) (fun _ h => h) hd (K1 t H locs ls hP hD hS hl)
theorem J_gSc {i : Nat} (E : JE X l G cc RJ0 nL fr lo) (hi : i < 27) (hd : decode cc pc = .ok (.getfield 15, 3)) (K : J X G nL kc ks ws lv (pc + 3) (.int 0 :: st)) : J X G nL kc ks ws lv pc (.ref (G.2.2.2.2.1 i) :: st) := fun H locs ls hP hD hS hl =>
  vk_getf E.1 E.2.1 (E.2.2.2.2.2.2.2.2.1.2.2.2.2.1 i hi).2.1 hS E.2.2.2.1 (E.2.2.2.2.1 _ fl_J0_15) (fun _ h => h) hd (K H locs ls hP hD hS hl)
theorem J_gSv {i : Nat} (E : JE X l G cc RJ0 nL fr lo) (hi : i < 27) (hd : decode cc pc = .ok (.getfield 9, 3)) (K : J X G nL kc ks ws lv (pc + 3) (.ref (G.2.2.2.2.2 i) :: st)) : J X G nL kc ks ws lv pc (.ref (G.2.2.2.2.1 i) :: st) := fun H locs ls hP hD hS hl =>
  vk_getf E.1 E.2.1 (E.2.2.2.2.2.2.2.2.1.2.2.2.2.1 i hi).2.2.1 hS E.2.2.2.1 (E.2.2.2.2.1 _ fl_J0_9) (fun _ h => h) hd (K H locs ls hP hD hS hl)
theorem J_lenS {i : Nat} (E : JE X l G cc own nL fr lo) (hi : i < 27) (hd : decode cc pc = .ok (.arraylength, 1)) (K : J X G nL kc ks ws lv (pc + 1) (.int (nI (byS i).length) :: st)) : J X G nL kc ks ws lv pc (.ref (G.2.2.2.2.2 i) :: st) := fun H locs ls hP hD hS hl =>
  va_tlen E.1 E.2.1 (E.2.2.2.2.2.2.2.2.1.2.2.2.2.1 i hi).2.2.2 hS rfl hd (K H locs ls hP hD hS hl)
theorem J_baldS {i k : Nat} (E : JE X l G cc own nL fr lo) (hi : i < 27) (hk : k < (byS i).length) (hd : decode cc pc = .ok (.baload, 1)) (K : J X G nL kc ks ws lv (pc + 1) (.int ((byS i).getD k 0) :: st)) : J X G nL kc ks ws lv pc (.int (nI k) :: .ref (G.2.2.2.2.2 i) :: st) := fun H locs ls hP hD hS hl => by
  have hL := byS_len i hi
  exact va_tb E.1 E.2.1 (E.2.2.2.2.2.2.2.2.1.2.2.2.2.1 i hi).2.2.2 hS (vp_in_nI hk (by omega)) (by rw [nI_clamp (by omega)]) hd (K H locs ls hP hD hS hl)
theorem J_ldcS (E : JE X l G cc own nL fr lo) {idx q : Nat} {tx : String} (hq : strK[q]? = some (own, idx, tx)) (hd : decode cc pc = .ok (.ldc idx, 2)) (K : J X G nL kc ks ws lv (pc + 2) (.ref (G.2.2.2.2.1 q) :: st)) : J X G nL kc ks ws lv pc st := fun H locs ls hP hD hS hl =>
  va_ldcS E.1 E.2.1 E.2.2.2.1 (E.2.2.2.2.2.2.2.2.1.2.2.2.2.2 q _ hq) hd (K H locs ls hP hD hS hl)
theorem J_ldcwS (E : JE X l G cc own nL fr lo) {idx q : Nat} {tx : String} (hq : strK[q]? = some (own, idx, tx)) (hd : decode cc pc = .ok (.ldc_w idx, 3)) (K : J X G nL kc ks ws lv (pc + 3) (.ref (G.2.2.2.2.1 q) :: st)) : J X G nL kc ks ws lv pc st := by
  intro H locs ls hP hD hS hl T hT Y
  obtain ⟨t, a1, b1⟩ := K H locs ls hP hD hS hl T hT Y
  refine ⟨t, ?_, b1⟩
  have hZ : vk_R own idx tx (G.2.2.2.2.1 q) X.1.2.2.2.2.1 := E.2.2.2.2.2.2.2.2.1.2.2.2.2.2 q _ hq
  obtain ⟨k, cf, i, a', hk, hcf, hcp, -, hr, hev'⟩ := Cond.stringRef_spec E.2.2.2.1 hZ.1
  cases hZ.2.symm.trans hev'
  obtain ⟨k', hk', he⟩ := Y.warmed.alike.2.2 _ _ hk
  have hr' : k'.resolved[idx]? = some (some (.string (G.2.2.2.2.1 q))) := by
    rcases Y.warmed.entry hk hk' idx with h | ⟨h, -⟩
    · rw [h]; exact hr
    · rw [hr] at h; cases h
  have hdc : decode X.2.1.2.2.2.1.code (F0 X.1.2.2.2.2.2 pc ls st).pc = .ok (.ldc_w idx, 3) := by rw [E.2.1]; exact hd
  jvm_step Y.here [E.1, hdc, ldc_w.wp_string (s := T) (f := F0 X.1.2.2.2.2.2 pc ls st) Y.here.top hk' (by rw [he]; exact hcf) hcp hr']
  exact a1
theorem J_callKi (E : JE X l G cc own nL fr lo) {y : MethodName} {bc : ByteArray} {mL fr' lo' idx na i : Nat} {rt : FieldType} {R : Int32} {As rest : List Value} (hi : i < 27) (hc : CI l y bc mL rt fr' lo' G (.ref (G.2.2.2.2.1 i) :: As) [] (fun v w' => v = R ∧ w' = [])) (hg : GoodIn lw_T (wsV own idx RJ0 y (WS y bc mL (some rt)))) (hy : y.cls = RJ0 ∧ y.cls ≠ "java/lang/invoke/MethodHandle" ∧ y.cls ≠ "java/lang/invoke/VarHandle" ∧ (parseMethodDescriptor y.desc).map (fun d => d.parameters.length) = some na) (hd : decode cc pc = .ok (.invokevirtual idx, 3)) (hn : As.length = na) (hR1 : fr' + 1 ≤ fr) (hR2 : 8 + (mL + 11) + lo' ≤ lo) (hst : st = As.reverse ++ .ref (G.2.2.2.2.1 i) :: rest) (hrm : (rest.map fun v => v.category).sum ≤ 8) (hk : kc ≤ X.1.2.2.2.1.cells ∧ ks ≤ X.1.2.2.2.1.slots)
    (K : J X G nL kc ks ws lv (pc + 3) (.int R :: rest)) : J X G nL kc ks ws lv pc st := by
  intro H locs ls hP0 hD0 hS hl
  obtain ⟨hx, hb, hml, hown, hts, hK, hA, rfl, hC, hf1, hf2⟩ := E
  subst hst
  have hP : va_P G.1 vwCl ([] ++ ([] ++ ws)) H := by simpa using hP0
  have hD : va_D X.2.2 ([] ++ ([] ++ ws)) := by simpa using hD0
  have hPc := seg_P hP
  have hDc := seg_D hD
  have hFc := seg_F hD hS hA
  refine va_calli (va_runV (As := As) (rest := rest) ⟨hx, hb, hml, hown, hts⟩ (hc H.size) (cwV na hts hg rfl rfl rfl hy ⟨Nat.le_trans hR1 hf1, Nat.le_trans hR2 hf2⟩) ⟨mP_blind, va_Orecv (hC.2.2.2.2.1 i hi).1 hS, fun U hU hW => ⟨rfl, by rw [hU], by rw [hU]; exact hPc, va_K.moved hW.alike hK, hDc.weaken (fun _ _ _ _ => trivial), by rw [hU]; exact cst.go hW hC hS.2.1 hFc⟩⟩ rfl hn hl.1 rfl (lv_room hrm) hd ⟨hk.1, hk.2⟩) hS (fun q _ h => hFc q h) hFc (fun r w' t H1 locs1 ht hvm hw hB hz1 hk1 hS1 => ?_)
  obtain ⟨hP1, hD1⟩ := hB
  obtain ⟨rfl, rfl⟩ := hw
  rw [ht] at hP1
  obtain ⟨hP2, hD2⟩ := seg_join hP hD hk1 hFc hP1 hD1
  exact K H1 locs1 ls (by simpa using hP2) (by simpa using hD2) hS1 hl
end ST

set_option maxHeartbeats 4000000 in
set_option maxRecDepth 20000 in
theorem c_J0_coder_7d493 (l : Launch) (G : GB) (i : Nat) (hi : i < 27) : CI l yJ0_coder_7d493 cJ0_coder_7d493 1 .byte 0 0 G [.ref (G.2.2.2.2.1 i)] [] (fun v w' => v = 0 ∧ w' = []) := by
  refine CI.mk (own := RJ0) (by decide) rfl (Nat.le_of_ble_eq_true rfl) ?_
  intro X E ret
  show J X G 1 0 0 [] [(0, .ref (G.2.2.2.2.1 i))] 0 []
  refine J_gCS E dJ0_coder_7d493_0 ?_
  refine J_if_eq E (tgt := 13) dJ0_coder_7d493_3 (by decide) (fun c_3 => ?_) (fun c_3 => ?_)
  · exact absurd c_3 (by decide)
  · refine J_aload_n E dJ0_coder_7d493_6 rfl 0 rfl ?_
    refine J_gSc E hi dJ0_coder_7d493_7 ?_
    refine J_goto E (tgt := 14) dJ0_coder_7d493_10 (by decide) ?_
    exact ret _ _ _ _ ⟨rfl, rfl⟩ rfl dJ0_coder_7d493_14
set_option maxHeartbeats 4000000 in
set_option maxRecDepth 20000 in
theorem c_J0_length_8abf5 (l : Launch) (G : GB) (i : Nat) (hi : i < 27) : CI l yJ0_length_8abf5 cJ0_length_8abf5 1 .int 1 20 G [.ref (G.2.2.2.2.1 i)] [] (fun v w' => v = nI (byS i).length ∧ w' = []) := by
  refine CI.mk (own := RJ0) (by decide) rfl (Nat.le_of_ble_eq_true rfl) ?_
  intro X E ret
  show J X G 1 0 0 [] [(0, .ref (G.2.2.2.2.1 i))] 0 []
  refine J_aload_n E dJ0_length_8abf5_0 rfl 0 rfl ?_
  refine J_gSv E hi dJ0_length_8abf5_1 ?_
  refine J_lenS E hi dJ0_length_8abf5_4 ?_
  refine J_aload_n E dJ0_length_8abf5_5 rfl 0 rfl ?_
  refine J_callKi E (As := []) hi (c_J0_coder_7d493 l G i hi) cl_J0_335 yo_J0_coder_7d493 dJ0_length_8abf5_6 rfl (Nat.le_of_ble_eq_true rfl) (Nat.le_of_ble_eq_true rfl) rfl (Nat.le_of_ble_eq_true rfl) ⟨Nat.zero_le _, Nat.zero_le _⟩ ?_
  refine J_ishr E dJ0_length_8abf5_9 ?_
  have hL := byS_len i hi
  exact ret _ _ _ _ ⟨by rw [pk_shrN (n := (byS i).length) (by omega) _ 0 (by decide)]; simp, rfl⟩ rfl dJ0_length_8abf5_10
set_option maxHeartbeats 4000000 in
set_option maxRecDepth 20000 in
theorem c_J0_isLatin1_aae02 (l : Launch) (G : GB) (i : Nat) (hi : i < 27) : CI l yJ0_isLatin1_aae02 cJ0_isLatin1_aae02 1 .boolean 0 0 G [.ref (G.2.2.2.2.1 i)] [] (fun v w' => v = 1 ∧ w' = []) := by
  refine CI.mk (own := RJ0) (by decide) rfl (Nat.le_of_ble_eq_true rfl) ?_
  intro X E ret
  show J X G 1 0 0 [] [(0, .ref (G.2.2.2.2.1 i))] 0 []
  refine J_gCS E dJ0_isLatin1_aae02_0 ?_
  refine J_if_eq E (tgt := 17) dJ0_isLatin1_aae02_3 (by decide) (fun c_3 => ?_) (fun c_3 => ?_)
  · exact absurd c_3 (by decide)
  · refine J_aload_n E dJ0_isLatin1_aae02_6 rfl 0 rfl ?_
    refine J_gSc E hi dJ0_isLatin1_aae02_7 ?_
    refine J_if_ne E (tgt := 17) dJ0_isLatin1_aae02_10 (by decide) (fun c_10 => ?_) (fun c_10 => ?_)
    · exact absurd rfl c_10
    · refine J_iconst E dJ0_isLatin1_aae02_13 ic_1 ?_
      refine J_goto E (tgt := 18) dJ0_isLatin1_aae02_14 (by decide) ?_
      exact ret _ _ _ _ ⟨rfl, rfl⟩ rfl dJ0_isLatin1_aae02_18

set_option maxHeartbeats 4000000 in
set_option maxRecDepth 20000 in
theorem c_J3_checkIndex_n (l : Launch) (G : GB) (k n : Nat) (hk : k < n) (hn : n < 2 ^ 31) : CI l yJ3_checkIndex_8e157 cJ3_checkIndex_8e157 3 .int 0 0 G [.int (nI k), .int (nI n), .null] [] (fun v w' => v = nI k ∧ w' = []) := by
  refine CI.mk (own := RJ3) (by decide) rfl (Nat.le_of_ble_eq_true rfl) ?_
  intro X E ret
  show J X G 3 0 0 [] [(0, .int (nI k)), (1, .int (nI n)), (2, .null)] 0 []
  refine J_iload_n E dJ3_checkIndex_8e157_0 rfl 0 rfl ?_
  refine J_if_lt E (tgt := 9) dJ3_checkIndex_8e157_1 (by decide) (fun c_1 => ?_) (fun c_1 => ?_)
  · exact absurd c_1 (nI_pos (by omega))
  · refine J_iload_n E dJ3_checkIndex_8e157_4 rfl 0 rfl ?_
    refine J_iload_n E dJ3_checkIndex_8e157_5 rfl 1 rfl ?_
    refine J_icmp_lt E (tgt := 16) dJ3_checkIndex_8e157_6 (by decide) (fun c_6 => ?_) (fun c_6 => ?_)
    · refine J_iload_n E dJ3_checkIndex_8e157_16 rfl 0 rfl ?_
      exact ret _ _ _ _ ⟨rfl, rfl⟩ rfl dJ3_checkIndex_8e157_17
    · exact absurd (nI_lt hk hn) c_6

set_option maxHeartbeats 4000000 in
set_option maxRecDepth 20000 in
theorem c_J3_checkIndex_r (l : Launch) (G : GB) (t : Nat) (k n : Nat) (hk : k < n) (hn : n < 2 ^ 31) : CI l yJ3_checkIndex_8e157 cJ3_checkIndex_8e157 3 .int 0 0 G [.int (nI k), .int (nI n), .ref t] [] (fun v w' => v = nI k ∧ w' = []) := by
  refine CI.mk (own := RJ3) (by decide) rfl (Nat.le_of_ble_eq_true rfl) ?_
  intro X E ret
  show J X G 3 0 0 [] [(0, .int (nI k)), (1, .int (nI n)), (2, .ref t)] 0 []
  refine J_iload_n E dJ3_checkIndex_8e157_0 rfl 0 rfl ?_
  refine J_if_lt E (tgt := 9) dJ3_checkIndex_8e157_1 (by decide) (fun c_1 => ?_) (fun c_1 => ?_)
  · exact absurd c_1 (nI_pos (by omega))
  · refine J_iload_n E dJ3_checkIndex_8e157_4 rfl 0 rfl ?_
    refine J_iload_n E dJ3_checkIndex_8e157_5 rfl 1 rfl ?_
    refine J_icmp_lt E (tgt := 16) dJ3_checkIndex_8e157_6 (by decide) (fun c_6 => ?_) (fun c_6 => ?_)
    · refine J_iload_n E dJ3_checkIndex_8e157_16 rfl 0 rfl ?_
      exact ret _ _ _ _ ⟨rfl, rfl⟩ rfl dJ3_checkIndex_8e157_17
    · exact absurd (nI_lt hk hn) c_6

set_option maxHeartbeats 4000000 in
set_option maxRecDepth 20000 in
theorem c_J0_checkIndex_df160 (l : Launch) (G : GB) (k n : Nat) (hk : k < n) (hn : n < 2 ^ 31) : CV l yJ0_checkIndex_df160 cJ0_checkIndex_df160 2 1 22 0 0 G [.int (nI k), .int (nI n)] [] (fun w' => w' = []) := by
  refine CV.mk (own := RJ0) (by decide) rfl (Nat.le_of_ble_eq_true rfl) ?_
  intro X E _ _ _ ret
  show J X G 2 0 0 [] [(0, .int (nI k)), (1, .int (nI n))] 0 []
  refine J_iload_n E dJ0_checkIndex_df160_0 rfl 0 rfl ?_
  refine J_iload_n E dJ0_checkIndex_df160_1 rfl 1 rfl ?_
  refine J_gSio E dJ0_checkIndex_df160_2 ?_ (fun t => ?_)
  · refine J_cSiN E (As := [.int (nI k), .int (nI n), .null]) (c_J3_checkIndex_n l G k n hk hn) cl_J0_1059 yo_J3_checkIndex_8e157 dJ0_checkIndex_df160_5 rfl (Nat.le_of_ble_eq_true rfl) (Nat.le_of_ble_eq_true rfl) rfl (Nat.le_of_ble_eq_true rfl) ⟨Nat.zero_le _, Nat.zero_le _⟩ ?_
    refine J_pop E dJ0_checkIndex_df160_8 rfl ?_
    exact ret _ _ _ rfl dJ0_checkIndex_df160_9
  · refine J_cSiN E (As := [.int (nI k), .int (nI n), .ref t]) (c_J3_checkIndex_r l G t k n hk hn) cl_J0_1059 yo_J3_checkIndex_8e157 dJ0_checkIndex_df160_5 rfl (Nat.le_of_ble_eq_true rfl) (Nat.le_of_ble_eq_true rfl) rfl (Nat.le_of_ble_eq_true rfl) ⟨Nat.zero_le _, Nat.zero_le _⟩ ?_
    refine J_pop E dJ0_checkIndex_df160_8 rfl ?_
    exact ret _ _ _ rfl dJ0_checkIndex_df160_9
set_option maxHeartbeats 4000000 in
set_option maxRecDepth 20000 in
theorem c_J1_charAt_3b067 (l : Launch) (G : GB) (i k : Nat) (hi : i < 27) (hk : k < (byS i).length) : CI l yJ1_charAt_3b067 cJ1_charAt_3b067 2 .char 2 43 G [.ref (G.2.2.2.2.2 i), .int (nI k)] [] (fun v w' => v = (byS i).getD k 0 ∧ w' = []) := by
  refine CI.mk (own := RJ1) (by decide) rfl (Nat.le_of_ble_eq_true rfl) ?_
  intro X E ret
  show J X G 2 0 0 [] [(0, .ref (G.2.2.2.2.2 i)), (1, .int (nI k))] 0 []
  have hL := byS_len i hi
  refine J_iload_n E dJ1_charAt_3b067_0 rfl 1 rfl ?_
  refine J_aload_n E dJ1_charAt_3b067_1 rfl 0 rfl ?_
  refine J_lenS E hi dJ1_charAt_3b067_2 ?_
  refine J_cSvN E (As := [.int (nI k), .int (nI (byS i).length)]) (c_J0_checkIndex_df160 l G k (byS i).length hk (by omega)) cl_J1_9 yo_J0_checkIndex_df160 dJ1_charAt_3b067_3 rfl (Nat.le_of_ble_eq_true rfl) (Nat.le_of_ble_eq_true rfl) rfl (Nat.le_of_ble_eq_true rfl) ⟨Nat.zero_le _, Nat.zero_le _⟩ ?_
  refine J_aload_n E dJ1_charAt_3b067_6 rfl 0 rfl ?_
  refine J_iload_n E dJ1_charAt_3b067_7 rfl 1 rfl ?_
  refine J_baldS E hi hk dJ1_charAt_3b067_8 ?_
  refine J_sipush E dJ1_charAt_3b067_9 sp_255 ?_
  refine J_iand E dJ1_charAt_3b067_12 ?_
  refine J_i2c E dJ1_charAt_3b067_13 (byS_ch i hi k hk).1 ?_
  exact ret _ _ _ _ ⟨rfl, rfl⟩ (byS_ch i hi k hk).2 dJ1_charAt_3b067_14
set_option maxHeartbeats 4000000 in
set_option maxRecDepth 20000 in
theorem c_J0_charAt_5068e (l : Launch) (G : GB) (i k : Nat) (hi : i < 27) (hk : k < (byS i).length) : CI l yJ0_charAt_5068e cJ0_charAt_5068e 2 .char 3 64 G [.ref (G.2.2.2.2.1 i), .int (nI k)] [] (fun v w' => v = (byS i).getD k 0 ∧ w' = []) := by
  refine CI.mk (own := RJ0) (by decide) rfl (Nat.le_of_ble_eq_true rfl) ?_
  intro X E ret
  show J X G 2 0 0 [] [(0, .ref (G.2.2.2.2.1 i)), (1, .int (nI k))] 0 []
  refine J_aload_n E dJ0_charAt_5068e_0 rfl 0 rfl ?_
  refine J_callKi E (As := []) hi (c_J0_isLatin1_aae02 l G i hi) cl_J0_492 yo_J0_isLatin1_aae02 dJ0_charAt_5068e_1 rfl (Nat.le_of_ble_eq_true rfl) (Nat.le_of_ble_eq_true rfl) rfl (Nat.le_of_ble_eq_true rfl) ⟨Nat.zero_le _, Nat.zero_le _⟩ ?_
  refine J_if_eq E (tgt := 16) dJ0_charAt_5068e_4 (by decide) (fun c_4 => ?_) (fun c_4 => ?_)
  · exact absurd c_4 (by decide)
  · refine J_aload_n E dJ0_charAt_5068e_7 rfl 0 rfl ?_
    refine J_gSv E hi dJ0_charAt_5068e_8 ?_
    refine J_iload_n E dJ0_charAt_5068e_11 rfl 1 rfl ?_
    refine J_cSiN E (As := [.ref (G.2.2.2.2.2 i), .int (nI k)]) (c_J1_charAt_3b067 l G i k hi hk) cl_J0_495 yo_J1_charAt_3b067 dJ0_charAt_5068e_12 rfl (Nat.le_of_ble_eq_true rfl) (Nat.le_of_ble_eq_true rfl) rfl (Nat.le_of_ble_eq_true rfl) ⟨Nat.zero_le _, Nat.zero_le _⟩ ?_
    exact ret _ _ _ _ ⟨rfl, rfl⟩ (byS_ch i hi k hk).2 dJ0_charAt_5068e_15
/-- from i on while p holds -/
def runF (p : Nat → Bool) : Nat → Nat → Nat
  | 0, i => i
  | f + 1, i => if p i then runF p f (i + 1) else i
def endF (p : Nat → Bool) (i : Nat) : Nat := runF p (121 - i) i
theorem endF_t {p : Nat → Bool} {i : Nat} (h : i ≤ 120) (hp : p i = true) : endF p i = endF p (i + 1) := by
  unfold endF
  rw [show 121 - i = (121 - (i + 1)) + 1 by omega, runF, if_pos hp]
theorem endF_f {p : Nat → Bool} {i : Nat} (hp : ¬ p i = true) : endF p i = i := by
  unfold endF
  cases (121 - i) with
  | zero => rfl
  | succ f => rw [runF, if_neg hp]
theorem runF_le {p : Nat → Bool} {n : Nat} (h : ∀ i, p i = true → i < n) : ∀ f i, i ≤ n → runF p f i ≤ n
  | 0, _, hi => hi
  | f + 1, i, hi => by
    rw [runF]
    by_cases c : p i = true
    · rw [if_pos c]; exact runF_le h f (i + 1) (h i c)
    · rw [if_neg c]; exact hi
theorem runF_ge {p : Nat → Bool} : ∀ f i, i ≤ runF p f i
  | 0, _ => Nat.le_refl _
  | f + 1, i => by
    rw [runF]
    by_cases c : p i = true
    · rw [if_pos c]; exact Nat.le_trans (Nat.le_succ i) (runF_ge f (i + 1))
    · rw [if_neg c]; exact Nat.le_refl _
theorem runF_all {p : Nat → Bool} : ∀ f i j, i ≤ j → j < runF p f i → p j = true
  | 0, i, j, h1, h2 => absurd h2 (by rw [runF]; omega)
  | f + 1, i, j, h1, h2 => by
    rw [runF] at h2
    by_cases c : p i = true
    · rw [if_pos c] at h2
      rcases Nat.lt_or_eq_of_le h1 with h | rfl
      · exact runF_all f (i + 1) j h h2
      · exact c
    · rw [if_neg c] at h2; omega
theorem endF_le {p : Nat → Bool} {n i : Nat} (h : ∀ i, p i = true → i < n) (hi : i ≤ n) : endF p i ≤ n := runF_le h _ _ hi
theorem endF_ge {p : Nat → Bool} {i : Nat} : i ≤ endF p i := runF_ge _ _
theorem endF_all {p : Nat → Bool} {i j : Nat} (h1 : i ≤ j) (h2 : j < endF p i) : p j = true := runF_all _ _ _ h1 h2
def bet (f : Nat → Int32) (n : Nat) (lo hi : Int32) (i : Nat) : Bool := decide (i < n ∧ lo ≤ f i ∧ f i ≤ hi)
theorem bet_lt {f : Nat → Int32} {n : Nat} {lo hi : Int32} {i : Nat} (h : bet f n lo hi i = true) : i < n := (of_decide_eq_true h).1
theorem bet_t {f : Nat → Int32} {n : Nat} {lo hi : Int32} {i : Nat} (h : i < n ∧ lo ≤ f i ∧ f i ≤ hi) : bet f n lo hi i = true := decide_eq_true h
theorem bet_f {f : Nat → Int32} {n : Nat} {lo hi : Int32} {i : Nat} (h : ¬ (i < n ∧ lo ≤ f i ∧ f i ≤ hi)) : ¬ bet f n lo hi i = true := fun z => h (of_decide_eq_true z)
theorem bet_o {f : Nat → Int32} {n : Nat} {lo hi : Int32} {i : Nat} (h : n ≤ i) : ¬ bet f n lo hi i = true := fun z => absurd (bet_lt z) (by omega)
theorem bet_b {f : Nat → Int32} {n i : Nat} (h : i < n) (h2 : f i = 32) : bet f n 32 32 i = true := bet_t ⟨h, by rw [h2]; decide, by rw [h2]; decide⟩
theorem bet_nb {f : Nat → Int32} {n i : Nat} (h2 : ¬ f i = 32) : ¬ bet f n 32 32 i = true := bet_f (fun z => h2 (Int32.le_antisymm z.2.2 z.2.1))
def tokS (f : Nat → Int32) (n e : Nat) : Nat := endF (bet f n 32 32) e
def tokE (f : Nat → Int32) (n s : Nat) : Nat := if bet f n 97 122 s then endF (bet f n 97 122) s else if bet f n 48 57 s then endF (bet f n 48 57) s else if s < n then s + 1 else s
def tokK (f : Nat → Int32) (n s : Nat) : Int32 := if n ≤ s then 0 else if bet f n 97 122 s then 1 else if bet f n 48 57 s then 2 else if f s = 59 then 3 else 4
/-- the number of so many digits from s on, 10000 at most -/
def numF (f : Nat → Int32) (s : Nat) : Nat → Int32
  | 0 => 0
  | k + 1 => mn 10000 (numF f s k * 10 + f (s + k) - 48)
theorem tokS_le {f : Nat → Int32} {n e : Nat} (h : e ≤ n) : tokS f n e ≤ n := endF_le (fun _ => bet_lt) h
theorem tokE_le {f : Nat → Int32} {n s : Nat} (h : s ≤ n) : tokE f n s ≤ n := by
  unfold tokE
  split
  · exact endF_le (fun _ => bet_lt) h
  · split
    · exact endF_le (fun _ => bet_lt) h
    · split
      · omega
      · exact h
theorem tokE_ge {f : Nat → Int32} {n s : Nat} : s ≤ tokE f n s := by
  unfold tokE
  split
  · exact endF_ge
  · split
    · exact endF_ge
    · split
      · omega
      · exact Nat.le_refl _
def rd4 (r : Q2) (s e : Nat) (k v : Int32) : Q2 := fun i j => if i = 1 then (if j = 0 then nI s else if j = 1 then nI e else if j = 2 then k else if j = 3 then v else r i j) else r i j
theorem rdg_0 {q : Q3} {r : Q2} {s e : Nat} {k v : Int32} : upG q 6 (rd4 r s e k v) 6 1 0 = nI s := rfl
theorem rdg_1 {q : Q3} {r : Q2} {s e : Nat} {k v : Int32} : upG q 6 (rd4 r s e k v) 6 1 1 = nI e := rfl
theorem rdg_2 {q : Q3} {r : Q2} {s e : Nat} {k v : Int32} : upG q 6 (rd4 r s e k v) 6 1 2 = k := rfl
theorem rdg_3 {q : Q3} {r : Q2} {s e : Nat} {k v : Int32} : upG q 6 (rd4 r s e k v) 6 1 3 = v := rfl
theorem rdw {q : Q3} {r : Q2} {s e s' e' : Nat} {k v k' v' x : Int32} (j : Nat) (h : ∀ i, (if i = j then x else rd4 r s e k v 1 i) = rd4 r s' e' k' v' 1 i) : up3 (upG q 6 (rd4 r s e k v)) 6 1 j x = upG q 6 (rd4 r s' e' k' v') := by
  funext g i y
  by_cases hg : g = 6
  · subst hg
    by_cases hi : i = 1
    · subst hi
      have := h y
      simp only [up3, upG, up2, upd, if_true]
      exact this
    · simp [up3, upG, up2, rd4, hi]
  · simp [up3, upG, hg]
theorem rdw_0 {q : Q3} {r : Q2} {s e s' : Nat} {k v : Int32} : up3 (upG q 6 (rd4 r s e k v)) 6 1 0 (nI s') = upG q 6 (rd4 r s' e k v) := rdw 0 (fun i => by by_cases h : i = 0 <;> simp [rd4, h])
theorem rdw_1 {q : Q3} {r : Q2} {s e e' : Nat} {k v : Int32} : up3 (upG q 6 (rd4 r s e k v)) 6 1 1 (nI e') = upG q 6 (rd4 r s e' k v) := rdw 1 (fun i => by by_cases h : i = 1 <;> simp [rd4, h])
theorem rdw_2 {q : Q3} {r : Q2} {s e : Nat} {k v k' : Int32} : up3 (upG q 6 (rd4 r s e k v)) 6 1 2 k' = upG q 6 (rd4 r s e k' v) := rdw 2 (fun i => by by_cases h : i = 2 <;> simp [rd4, h])
theorem rdw_3 {q : Q3} {r : Q2} {s e : Nat} {k v v' : Int32} : up3 (upG q 6 (rd4 r s e k v)) 6 1 3 v' = upG q 6 (rd4 r s e k v') := rdw 3 (fun i => by by_cases h : i = 3 <;> simp [rd4, h])
/-- the start of next(): start is where the last one ended -/
theorem rd_in {q : Q3} {e : Nat} (he : q 6 1 1 = nI e) : up3 q 6 1 0 (q 6 1 1) = upG q 6 (rd4 (q 6) e e (q 6 1 2) (q 6 1 3)) := by
  funext g i y
  by_cases hg : g = 6
  · subst hg
    by_cases hi : i = 1
    · subst hi
      by_cases h0 : y = 0
      · subst h0; simp [up3, up2, upd, upG, rd4, he]
      · by_cases h1 : y = 1
        · subst h1; simp [up3, up2, upd, upG, rd4, he]
        · by_cases h2 : y = 2
          · subst h2; simp [up3, up2, upd, upG, rd4]
          · by_cases h3 : y = 3
            · subst h3; simp [up3, up2, upd, upG, rd4]
            · simp [up3, up2, upd, upG, rd4, h0, h1, h2, h3]
    · simp [up3, up2, upG, rd4, hi]
  · simp [up3, upG, hg]
def nextR (f : Nat → Int32) (n : Nat) (r : Q2) (e : Nat) : Q2 := rd4 r (tokS f n e) (tokE f n (tokS f n e)) (tokK f n (tokS f n e)) (if tokK f n (tokS f n e) = 2 then numF f (tokS f n e) (tokE f n (tokS f n e) - tokS f n e) else r 1 3)
/-- the next token -/
def nextX (q : Q3) : Q3 := upG q 6 (nextR (q 7 0) (q 7 1 0).toNatClampNeg (q 6) (q 6 1 1).toNatClampNeg)
theorem nextX_eq {q : Q3} {n e s e' : Nat} {k v : Int32} (hn : q 7 1 0 = nI n) (hn2 : n ≤ 120) (he : q 6 1 1 = nI e) (he2 : e ≤ n) (hs : s = tokS (q 7 0) n e) (he' : e' = tokE (q 7 0) n s) (hk : k = tokK (q 7 0) n s) (hv : v = if k = 2 then numF (q 7 0) s (e' - s) else q 6 1 3) : upG q 6 (rd4 (q 6) s e' k v) = nextX q := by
  rw [nextX, hn, he, nI_clamp (by omega), nI_clamp (by omega), nextR, hv, hk, he', hs]
def okN (q : Q3) : Prop := ∃ n e : Nat, q 7 1 0 = nI n ∧ n ≤ 120 ∧ q 6 1 1 = nI e ∧ e ≤ n
def okT (q : Q3) : Prop := ∃ n s e : Nat, (q 7 1 0 = nI n ∧ n ≤ 120) ∧ q 6 1 0 = nI s ∧ q 6 1 1 = nI e ∧ s ≤ e ∧ e ≤ n
theorem okT.n {q : Q3} (h : okT q) : okN q := by
  obtain ⟨n, s, e, ⟨h1, h2⟩, -, h4, -, h6⟩ := h
  exact ⟨n, e, h1, h2, h4, h6⟩
theorem okT_next {q : Q3} (h : okN q) : okT (nextX q) := by
  obtain ⟨n, e, h1, h2, h4, h6⟩ := h
  rw [← nextX_eq h1 h2 h4 h6 rfl rfl rfl rfl]
  exact ⟨n, _, _, ⟨h1, h2⟩, rfl, rfl, tokE_ge, tokE_le (tokS_le h6)⟩
theorem okT_up {q : Q3} (h : okT q) (r j : Nat) (v : Int32) : okT (up3 q 0 r j v) := by
  obtain ⟨n, s, e, ⟨h1, h2⟩, h3, h4, h5, h6⟩ := h
  exact ⟨n, s, e, ⟨by rw [up3_row (by omega)]; exact h1, h2⟩, by rw [up3_row (by omega)]; exact h3, by rw [up3_row (by omega)]; exact h4, h5, h6⟩
def isW (q : Q3) (i : Nat) : Bool := decide (q 6 1 2 = 1 ∧ (q 6 1 1).toNatClampNeg - (q 6 1 0).toNatClampNeg = (byS i).length ∧ ∀ j, j < (byS i).length → q 7 0 ((q 6 1 0).toNatClampNeg + j) = (byS i).getD j 0)
theorem isW_iff {q : Q3} {i n s e : Nat} (hn : n ≤ 120) (hs : q 6 1 0 = nI s) (he : q 6 1 1 = nI e) (h1 : s ≤ e) (h2 : e ≤ n) : isW q i = true ↔ (q 6 1 2 = 1 ∧ e - s = (byS i).length ∧ ∀ j, j < (byS i).length → q 7 0 (s + j) = (byS i).getD j 0) := by
  rw [isW, hs, he, nI_clamp (by omega), nI_clamp (by omega), decide_eq_true_iff]
def isN (q : Q3) (m : Int32) : Bool := decide (q 6 1 2 = 2 ∧ q 6 1 3 ≤ m)
section TQR
variable {X : JX} {l : Launch} {G : GB} {cc : ByteArray} {nL fr lo kc ks pc : Nat} {lv : List (Nat × Value)} {st : List Value}
theorem J_tqi (E : JE X l G cc RX4 nL fr lo) {y : MethodName} {bc : ByteArray} {mL fr' lo' idx na : Nat} {rt : FieldType} {R : Int32} {As rest : List Value} {h : Nat → Nat} {q : Q3} (hc : CI l y bc mL rt fr' lo' G (.ref (h 1) :: As) (wT G (sh h 1) (q 7)) (fun v w' => v = R ∧ w' = wT G (sh h 1) (q 7))) (hg : GoodIn lw_T (wsV RX4 idx RX3 y (WS y bc mL (some rt)))) (hy : y.cls = RX3 ∧ y.cls ≠ "java/lang/invoke/MethodHandle" ∧ y.cls ≠ "java/lang/invoke/VarHandle" ∧ (parseMethodDescriptor y.desc).map (fun d => d.parameters.length) = some na) (hd : decode cc pc = .ok (.invokevirtual idx, 3)) (hn : As.length = na) (hR1 : fr' + 1 ≤ fr) (hR2 : 8 + (mL + 11) + lo' ≤ lo) (hst : st = As.reverse ++ .ref (h 1) :: rest) (hrm : (rest.map fun v => v.category).sum ≤ 8) (hk : kc ≤ X.1.2.2.2.1.cells ∧ ks ≤ X.1.2.2.2.1.slots) (K : J X G nL kc ks (wTQ G h q) lv (pc + 3) (.int R :: rest)) : J X G nL kc ks (wTQ G h q) lv pc st :=
  J_cVi1 E [(h 0, .inr (3, [.ref (h 1), .int (q 6 1 0), .int (q 6 1 1), .int (q 6 1 2), .int (q 6 1 3)]))] (wQ G (sh h 3) (q 0)) hc hg hy hd rfl rfl hn hR1 hR2 hst hrm rfl hk (J_w rfl K)
end TQR

set_option maxHeartbeats 4000000 in
set_option maxRecDepth 20000 in
theorem c_X4_readWord (l : Launch) (G : GB) (h : Nat → Nat) (q : Q3) (r : Q2) (s e : Nat) (k v : Int32) (n : Nat) (hn : q 7 1 0 = nI n) (hn2 : n ≤ 120) (he2 : e ≤ n)  : CV l yX4_readWord cX4_readWord 1 1 23 0 0 G [.ref (h 0)] (wTQ G h (upG q 6 (rd4 r s e k v))) (fun w' => w' = wTQ G h (upG q 6 (rd4 r s (endF (bet (q 7 0) n 97 122) e) 1 v))) := by
  refine CV.mk (own := RX4) (by decide) rfl (Nat.le_of_ble_eq_true rfl) ?_
  intro X E _ _ _ ret
  show J X G 1 0 0 (wTQ G h (upG q 6 (rd4 r s e k v))) [(0, .ref (h 0))] 0 []
  refine J_aload_n E dX4_readWord_0 rfl 0 rfl ?_
  refine J_iconst E dX4_readWord_1 ic_1 ?_
  refine pTQ0_X4_26 E dX4_readWord_2 ?_
  refine J_w (ws' := wTQ G h (upG q 6 (rd4 r s e 1 v))) (congrArg (wTQ G h) rdw_2) ?_
  have lp5 : ∀ (fu : Nat) (i : Nat), (i ≤ n) → (endF (bet (q 7 0) n 97 122) e = endF (bet (q 7 0) n 97 122) i) → n - i < fu → J X G 1 0 0 (wTQ G h (upG q 6 (rd4 r s i 1 v))) [(0, .ref (h 0))] 5 [] := by
    intro fu
    induction fu with
    | zero => intro i hi h1 hm; exact absurd hm (Nat.not_lt_zero _)
    | succ fu ih5 =>
      intro i hi h1 hm
      refine J_aload_n E dX4_readWord_5 rfl 0 rfl ?_
      refine gTQ0_X4_15 E dX4_readWord_6 ?_
      refine J_top (x' := nI i) rdg_1 ?_
      refine J_aload_n E dX4_readWord_9 rfl 0 rfl ?_
      refine gTQ0_X4_9 E dX4_readWord_10 ?_
      refine gTQ1_X4_123 E dX4_readWord_13 ?_
      refine J_top (x' := q 7 1 0) (upG_n (by decide)) ?_
      refine J_top (x' := nI n) (hn) ?_
      refine J_icmp_ge E (tgt := 50) dX4_readWord_16 (by decide) (fun c_16 => ?_) (fun c_16 => ?_)
      · skip
        have n_16 : n ≤ i := cmp_le (a := n) (b := i) (by omega) (by omega) c_16
        exact ret _ _ _ (congrArg (wTQ G h) (by first | rw [h1, endF_f (bet_o (by omega))] | rw [h1, endF_f (bet_f c_34)])) dX4_readWord_50
      · skip
        have n_16 : ¬ n ≤ i := cmp_nle (a := n) (b := i) (by omega) (by omega) c_16
        refine J_aload_n E dX4_readWord_19 rfl 0 rfl ?_
        refine gTQ0_X4_9 E dX4_readWord_20 ?_
        refine J_aload_n E dX4_readWord_23 rfl 0 rfl ?_
        refine gTQ0_X4_15 E dX4_readWord_24 ?_
        refine J_top (x' := nI i) rdg_1 ?_
        refine J_bipush E dX4_readWord_27 bp_97 ?_
        refine J_bipush E dX4_readWord_29 bp_122 ?_
        refine J_tqi E (As := [.int (nI i), .int 97, .int 122]) (c_X3_isBetween l G (sh h 1) (q 7) _ i 97 122 hn hn2 (by omega)) cl_X4_126 yo_X3_isBetween dX4_readWord_31 rfl (Nat.le_of_ble_eq_true rfl) (Nat.le_of_ble_eq_true rfl) rfl (Nat.le_of_ble_eq_true rfl) ⟨Nat.zero_le _, Nat.zero_le _⟩ ?_
        refine J_if_eq E (tgt := 50) dX4_readWord_34 (by decide) (fun c_34 => ?_) (fun c_34 => ?_)
        · skip
          have c_34 := bI_0 c_34
          exact ret _ _ _ (congrArg (wTQ G h) (by first | rw [h1, endF_f (bet_o (by omega))] | rw [h1, endF_f (bet_f c_34)])) dX4_readWord_50
        · skip
          have c_34 := bI_1 c_34
          refine J_aload_n E dX4_readWord_37 rfl 0 rfl ?_
          refine J_dup E dX4_readWord_38 rfl ?_
          refine gTQ0_X4_15 E dX4_readWord_39 ?_
          refine J_top (x' := nI i) rdg_1 ?_
          refine J_iconst E dX4_readWord_42 ic_1 ?_
          refine J_iadd E dX4_readWord_43 ?_
          refine J_top (x' := nI (i + 1)) (nI_1 i) ?_
          refine pTQ0_X4_15 E dX4_readWord_44 ?_
          refine J_w (ws' := wTQ G h (upG q 6 (rd4 r s (i + 1) 1 v))) (congrArg (wTQ G h) rdw_1) ?_
          refine J_goto E (tgt := 5) dX4_readWord_47 (by decide) ?_
          refine J_lv [0] rfl ?_
          exact ih5 (i + 1) (by omega) (by rw [h1]; exact endF_t (by omega) (bet_t c_34)) (by omega)
  refine J_lv [0] rfl ?_
  exact lp5 _ e he2 rfl (Nat.lt_succ_self _)

set_option maxHeartbeats 4000000 in
set_option maxRecDepth 20000 in
theorem c_X4_readNumber (l : Launch) (G : GB) (h : Nat → Nat) (q : Q3) (r : Q2) (s e : Nat) (k v : Int32) (n : Nat) (hn : q 7 1 0 = nI n) (hn2 : n ≤ 120) (he2 : e ≤ n)  : CV l yX4_readNumber cX4_readNumber 1 1 23 0 0 G [.ref (h 0)] (wTQ G h (upG q 6 (rd4 r s e k v))) (fun w' => w' = wTQ G h (upG q 6 (rd4 r s (endF (bet (q 7 0) n 48 57) e) 2 (numF (q 7 0) e (endF (bet (q 7 0) n 48 57) e - e))))) := by
  refine CV.mk (own := RX4) (by decide) rfl (Nat.le_of_ble_eq_true rfl) ?_
  intro X E _ _ _ ret
  show J X G 1 0 0 (wTQ G h (upG q 6 (rd4 r s e k v))) [(0, .ref (h 0))] 0 []
  refine J_aload_n E dX4_readNumber_0 rfl 0 rfl ?_
  refine J_iconst E dX4_readNumber_1 ic_2 ?_
  refine pTQ0_X4_26 E dX4_readNumber_2 ?_
  refine J_w (ws' := wTQ G h (upG q 6 (rd4 r s e 2 v))) (congrArg (wTQ G h) rdw_2) ?_
  refine J_aload_n E dX4_readNumber_5 rfl 0 rfl ?_
  refine J_iconst E dX4_readNumber_6 ic_0 ?_
  refine pTQ0_X4_51 E dX4_readNumber_7 ?_
  refine J_w (ws' := wTQ G h (upG q 6 (rd4 r s e 2 0))) (congrArg (wTQ G h) rdw_3) ?_
  have lp10 : ∀ (fu : Nat) (i : Nat) (z : Int32), (i ≤ n) → (e ≤ i) → (endF (bet (q 7 0) n 48 57) e = endF (bet (q 7 0) n 48 57) i) → (z = numF (q 7 0) e (i - e)) → n - i < fu → J X G 1 0 0 (wTQ G h (upG q 6 (rd4 r s i 2 z))) [(0, .ref (h 0))] 10 [] := by
    intro fu
    induction fu with
    | zero => intro i z hi he h1 h2 hm; exact absurd hm (Nat.not_lt_zero _)
    | succ fu ih10 =>
      intro i z hi he h1 h2 hm
      refine J_aload_n E dX4_readNumber_10 rfl 0 rfl ?_
      refine gTQ0_X4_15 E dX4_readNumber_11 ?_
      refine J_top (x' := nI i) rdg_1 ?_
      refine J_aload_n E dX4_readNumber_14 rfl 0 rfl ?_
      refine gTQ0_X4_9 E dX4_readNumber_15 ?_
      refine gTQ1_X4_123 E dX4_readNumber_18 ?_
      refine J_top (x' := q 7 1 0) (upG_n (by decide)) ?_
      refine J_top (x' := nI n) (hn) ?_
      refine J_icmp_ge E (tgt := 88) dX4_readNumber_21 (by decide) (fun c_21 => ?_) (fun c_21 => ?_)
      · skip
        have n_21 : n ≤ i := cmp_le (a := n) (b := i) (by omega) (by omega) c_21
        exact ret _ _ _ (congrArg (wTQ G h) (by first | rw [h1, endF_f (bet_o (by omega)), h2] | rw [h1, endF_f (bet_f c_39), h2])) dX4_readNumber_88
      · skip
        have n_21 : ¬ n ≤ i := cmp_nle (a := n) (b := i) (by omega) (by omega) c_21
        refine J_aload_n E dX4_readNumber_24 rfl 0 rfl ?_
        refine gTQ0_X4_9 E dX4_readNumber_25 ?_
        refine J_aload_n E dX4_readNumber_28 rfl 0 rfl ?_
        refine gTQ0_X4_15 E dX4_readNumber_29 ?_
        refine J_top (x' := nI i) rdg_1 ?_
        refine J_bipush E dX4_readNumber_32 bp_48 ?_
        refine J_bipush E dX4_readNumber_34 bp_57 ?_
        refine J_tqi E (As := [.int (nI i), .int 48, .int 57]) (c_X3_isBetween l G (sh h 1) (q 7) _ i 48 57 hn hn2 (by omega)) cl_X4_126 yo_X3_isBetween dX4_readNumber_36 rfl (Nat.le_of_ble_eq_true rfl) (Nat.le_of_ble_eq_true rfl) rfl (Nat.le_of_ble_eq_true rfl) ⟨Nat.zero_le _, Nat.zero_le _⟩ ?_
        refine J_if_eq E (tgt := 88) dX4_readNumber_39 (by decide) (fun c_39 => ?_) (fun c_39 => ?_)
        · skip
          have c_39 := bI_0 c_39
          exact ret _ _ _ (congrArg (wTQ G h) (by first | rw [h1, endF_f (bet_o (by omega)), h2] | rw [h1, endF_f (bet_f c_39), h2])) dX4_readNumber_88
        · skip
          have c_39 := bI_1 c_39
          refine J_aload_n E dX4_readNumber_42 rfl 0 rfl ?_
          refine J_sipush E dX4_readNumber_43 sp_10000 ?_
          refine J_aload_n E dX4_readNumber_46 rfl 0 rfl ?_
          refine gTQ0_X4_51 E dX4_readNumber_47 ?_
          refine J_top (x' := z) rdg_3 ?_
          refine J_bipush E dX4_readNumber_50 bp_10 ?_
          refine J_imul E dX4_readNumber_52 ?_
          refine J_aload_n E dX4_readNumber_53 rfl 0 rfl ?_
          refine gTQ0_X4_9 E dX4_readNumber_54 ?_
          refine gTQ1_X4_116 E dX4_readNumber_57 ?_
          refine J_aload_n E dX4_readNumber_60 rfl 0 rfl ?_
          refine gTQ0_X4_15 E dX4_readNumber_61 ?_
          refine J_top (x' := nI i) rdg_1 ?_
          refine lTQ_2 E (j := i) dX4_readNumber_64 (by omega) ?_
          refine J_top (x' := q 7 0 i) (upG_n (by decide)) ?_
          refine J_iadd E dX4_readNumber_65 ?_
          refine J_bipush E dX4_readNumber_66 bp_48 ?_
          refine J_isub E dX4_readNumber_68 ?_
          refine J_mmin E ml_X4_136 st_mmin ini_J9 co_mmin dX4_readNumber_69 (by decide) (Nat.le_of_ble_eq_true rfl) ⟨Nat.zero_le _, Nat.zero_le _⟩ ?_
          refine pTQ0_X4_51 E dX4_readNumber_72 ?_
          refine J_w (ws' := wTQ G h (upG q 6 (rd4 r s i 2 (mn 10000 (((z * 10) + (q 7 0 i)) - 48))))) (congrArg (wTQ G h) rdw_3) ?_
          refine J_aload_n E dX4_readNumber_75 rfl 0 rfl ?_
          refine J_dup E dX4_readNumber_76 rfl ?_
          refine gTQ0_X4_15 E dX4_readNumber_77 ?_
          refine J_top (x' := nI i) rdg_1 ?_
          refine J_iconst E dX4_readNumber_80 ic_1 ?_
          refine J_iadd E dX4_readNumber_81 ?_
          refine J_top (x' := nI (i + 1)) (nI_1 i) ?_
          refine pTQ0_X4_15 E dX4_readNumber_82 ?_
          refine J_w (ws' := wTQ G h (upG q 6 (rd4 r s (i + 1) 2 (mn 10000 (((z * 10) + (q 7 0 i)) - 48))))) (congrArg (wTQ G h) rdw_1) ?_
          refine J_goto E (tgt := 10) dX4_readNumber_85 (by decide) ?_
          refine J_lv [0] rfl ?_
          exact ih10 (i + 1) (mn 10000 (((z * 10) + (q 7 0 i)) - 48)) (by omega) (by omega) (by rw [h1]; exact endF_t (by omega) (bet_t c_39)) (by rw [h2, show i + 1 - e = (i - e) + 1 by omega, numF, show e + (i - e) = i by omega]) (by omega)
  refine J_lv [0] rfl ?_
  exact lp10 _ e 0 he2 (Nat.le_refl _) rfl (by rw [Nat.sub_self]; rfl) (Nat.lt_succ_self _)

set_option maxHeartbeats 4000000 in
set_option maxRecDepth 20000 in
theorem c_X4_nextToken (l : Launch) (G : GB) (h : Nat → Nat) (q : Q3) (hq : okN q) : CV l yX4_nextToken cX4_nextToken 1 2 43 0 0 G [.ref (h 0)] (wTQ G h q) (fun w' => w' = wTQ G h (nextX q)) := by
  refine CV.mk (own := RX4) (by decide) rfl (Nat.le_of_ble_eq_true rfl) ?_
  intro X E _ _ _ ret
  show J X G 1 0 0 (wTQ G h q) [(0, .ref (h 0))] 0 []
  obtain ⟨n, e, hn, hn2, he, he2⟩ := hq
  refine J_aload_n E dX4_nextToken_0 rfl 0 rfl ?_
  refine J_aload_n E dX4_nextToken_1 rfl 0 rfl ?_
  refine gTQ0_X4_15 E dX4_nextToken_2 ?_
  refine pTQ0_X4_31 E dX4_nextToken_5 ?_
  refine J_w (ws' := wTQ G h (upG q 6 (rd4 (q 6) e e (q 6 1 2) (q 6 1 3)))) (congrArg (wTQ G h) (rd_in he)) ?_
  have lp8 : ∀ (fu : Nat) (i : Nat), (i ≤ n) → (endF (bet (q 7 0) n 32 32) e = endF (bet (q 7 0) n 32 32) i) → n - i < fu → J X G 1 0 0 (wTQ G h (upG q 6 (rd4 (q 6) i e (q 6 1 2) (q 6 1 3)))) [(0, .ref (h 0))] 8 [] := by
    intro fu
    induction fu with
    | zero => intro i hi h1 hm; exact absurd hm (Nat.not_lt_zero _)
    | succ fu ih8 =>
      intro i hi h1 hm
      refine J_aload_n E dX4_nextToken_8 rfl 0 rfl ?_
      refine gTQ0_X4_31 E dX4_nextToken_9 ?_
      refine J_top (x' := nI i) rdg_0 ?_
      refine J_aload_n E dX4_nextToken_12 rfl 0 rfl ?_
      refine gTQ0_X4_9 E dX4_nextToken_13 ?_
      refine gTQ1_X4_123 E dX4_nextToken_16 ?_
      refine J_top (x' := q 7 1 0) (upG_n (by decide)) ?_
      refine J_top (x' := nI n) (hn) ?_
      refine J_icmp_ge E (tgt := 52) dX4_nextToken_19 (by decide) (fun c_19 => ?_) (fun c_19 => ?_)
      · skip
        have n_19 : n ≤ i := cmp_le (a := n) (b := i) (by omega) (by omega) c_19
        refine J_aload_n E dX4_nextToken_52 rfl 0 rfl ?_
        refine J_aload_n E dX4_nextToken_53 rfl 0 rfl ?_
        refine gTQ0_X4_31 E dX4_nextToken_54 ?_
        refine J_top (x' := nI i) rdg_0 ?_
        refine pTQ0_X4_15 E dX4_nextToken_57 ?_
        refine J_w (ws' := wTQ G h (upG q 6 (rd4 (q 6) i i (q 6 1 2) (q 6 1 3)))) (congrArg (wTQ G h) rdw_1) ?_
        refine J_aload_n E dX4_nextToken_60 rfl 0 rfl ?_
        refine gTQ0_X4_31 E dX4_nextToken_61 ?_
        refine J_top (x' := nI i) rdg_0 ?_
        refine J_aload_n E dX4_nextToken_64 rfl 0 rfl ?_
        refine gTQ0_X4_9 E dX4_nextToken_65 ?_
        refine gTQ1_X4_123 E dX4_nextToken_68 ?_
        refine J_top (x' := q 7 1 0) (upG_n (by decide)) ?_
        refine J_top (x' := nI n) (hn) ?_
        refine J_icmp_lt E (tgt := 82) dX4_nextToken_71 (by decide) (fun c_71 => ?_) (fun c_71 => ?_)
        · skip
          have n_71 : i < n := cmp_lt (a := i) (b := n) (by omega) (by omega) c_71
          refine J_aload_n E dX4_nextToken_82 rfl 0 rfl ?_
          refine gTQ0_X4_9 E dX4_nextToken_83 ?_
          refine J_aload_n E dX4_nextToken_86 rfl 0 rfl ?_
          refine gTQ0_X4_31 E dX4_nextToken_87 ?_
          refine J_top (x' := nI i) rdg_0 ?_
          refine J_bipush E dX4_nextToken_90 bp_97 ?_
          refine J_bipush E dX4_nextToken_92 bp_122 ?_
          refine J_tqi E (As := [.int (nI i), .int 97, .int 122]) (c_X3_isBetween l G (sh h 1) (q 7) _ i 97 122 hn hn2 (by omega)) cl_X4_126 yo_X3_isBetween dX4_nextToken_94 rfl (Nat.le_of_ble_eq_true rfl) (Nat.le_of_ble_eq_true rfl) rfl (Nat.le_of_ble_eq_true rfl) ⟨Nat.zero_le _, Nat.zero_le _⟩ ?_
          refine J_if_eq E (tgt := 107) dX4_nextToken_97 (by decide) (fun c_97 => ?_) (fun c_97 => ?_)
          · skip
            have c_97 := bI_0 c_97
            refine J_aload_n E dX4_nextToken_107 rfl 0 rfl ?_
            refine gTQ0_X4_9 E dX4_nextToken_108 ?_
            refine J_aload_n E dX4_nextToken_111 rfl 0 rfl ?_
            refine gTQ0_X4_31 E dX4_nextToken_112 ?_
            refine J_top (x' := nI i) rdg_0 ?_
            refine J_bipush E dX4_nextToken_115 bp_48 ?_
            refine J_bipush E dX4_nextToken_117 bp_57 ?_
            refine J_tqi E (As := [.int (nI i), .int 48, .int 57]) (c_X3_isBetween l G (sh h 1) (q 7) _ i 48 57 hn hn2 (by omega)) cl_X4_126 yo_X3_isBetween dX4_nextToken_119 rfl (Nat.le_of_ble_eq_true rfl) (Nat.le_of_ble_eq_true rfl) rfl (Nat.le_of_ble_eq_true rfl) ⟨Nat.zero_le _, Nat.zero_le _⟩ ?_
            refine J_if_eq E (tgt := 132) dX4_nextToken_122 (by decide) (fun c_122 => ?_) (fun c_122 => ?_)
            · skip
              have c_122 := bI_0 c_122
              refine J_aload_n E dX4_nextToken_132 rfl 0 rfl ?_
              refine J_aload_n E dX4_nextToken_133 rfl 0 rfl ?_
              refine gTQ0_X4_9 E dX4_nextToken_134 ?_
              refine gTQ1_X4_116 E dX4_nextToken_137 ?_
              refine J_aload_n E dX4_nextToken_140 rfl 0 rfl ?_
              refine gTQ0_X4_31 E dX4_nextToken_141 ?_
              refine J_top (x' := nI i) rdg_0 ?_
              refine lTQ_2 E (j := i) dX4_nextToken_144 (by omega) ?_
              refine J_top (x' := q 7 0 i) (upG_n (by decide)) ?_
              refine J_bipush E dX4_nextToken_145 bp_59 ?_
              refine J_icmp_ne E (tgt := 154) dX4_nextToken_147 (by decide) (fun c_147 => ?_) (fun c_147 => ?_)
              · skip
                refine J_iconst E dX4_nextToken_154 ic_4 ?_
                refine pTQ0_X4_26 E dX4_nextToken_155 ?_
                refine J_w (ws' := wTQ G h (upG q 6 (rd4 (q 6) i i 4 (q 6 1 3)))) (congrArg (wTQ G h) rdw_2) ?_
                refine J_aload_n E dX4_nextToken_158 rfl 0 rfl ?_
                refine J_aload_n E dX4_nextToken_159 rfl 0 rfl ?_
                refine gTQ0_X4_31 E dX4_nextToken_160 ?_
                refine J_top (x' := nI i) rdg_0 ?_
                refine J_iconst E dX4_nextToken_163 ic_1 ?_
                refine J_iadd E dX4_nextToken_164 ?_
                refine J_top (x' := nI (i + 1)) (nI_1 i) ?_
                refine pTQ0_X4_15 E dX4_nextToken_165 ?_
                refine J_w (ws' := wTQ G h (upG q 6 (rd4 (q 6) i (i + 1) 4 (q 6 1 3)))) (congrArg (wTQ G h) rdw_1) ?_
                have hS : i = tokS (q 7 0) n e := by unfold tokS; rw [h1]; first | exact (endF_f (bet_o (by omega))).symm | exact (endF_f (bet_nb c_36)).symm
                refine ret _ _ _ (congrArg (wTQ G h) (nextX_eq hn hn2 he he2 hS ?_ ?_ ?_)) dX4_nextToken_168
                · rw [tokE, if_neg (bet_f c_97), if_neg (bet_f c_122), if_pos (by omega)]
                · rw [tokK, if_neg (by omega), if_neg (bet_f c_97), if_neg (bet_f c_122)]; first | rw [if_pos c_147] | rw [if_neg c_147]
                · rw [if_neg (by decide)]
              · skip
                refine J_iconst E dX4_nextToken_150 ic_3 ?_
                refine J_goto E (tgt := 155) dX4_nextToken_151 (by decide) ?_
                refine pTQ0_X4_26 E dX4_nextToken_155 ?_
                refine J_w (ws' := wTQ G h (upG q 6 (rd4 (q 6) i i 3 (q 6 1 3)))) (congrArg (wTQ G h) rdw_2) ?_
                refine J_aload_n E dX4_nextToken_158 rfl 0 rfl ?_
                refine J_aload_n E dX4_nextToken_159 rfl 0 rfl ?_
                refine gTQ0_X4_31 E dX4_nextToken_160 ?_
                refine J_top (x' := nI i) rdg_0 ?_
                refine J_iconst E dX4_nextToken_163 ic_1 ?_
                refine J_iadd E dX4_nextToken_164 ?_
                refine J_top (x' := nI (i + 1)) (nI_1 i) ?_
                refine pTQ0_X4_15 E dX4_nextToken_165 ?_
                refine J_w (ws' := wTQ G h (upG q 6 (rd4 (q 6) i (i + 1) 3 (q 6 1 3)))) (congrArg (wTQ G h) rdw_1) ?_
                have hS : i = tokS (q 7 0) n e := by unfold tokS; rw [h1]; first | exact (endF_f (bet_o (by omega))).symm | exact (endF_f (bet_nb c_36)).symm
                refine ret _ _ _ (congrArg (wTQ G h) (nextX_eq hn hn2 he he2 hS ?_ ?_ ?_)) dX4_nextToken_168
                · rw [tokE, if_neg (bet_f c_97), if_neg (bet_f c_122), if_pos (by omega)]
                · rw [tokK, if_neg (by omega), if_neg (bet_f c_97), if_neg (bet_f c_122)]; first | rw [if_pos c_147] | rw [if_neg c_147]
                · rw [if_neg (by decide)]
            · skip
              have c_122 := bI_1 c_122
              refine J_aload_n E dX4_nextToken_125 rfl 0 rfl ?_
              refine J_cVv0 E (As := []) (c_X4_readNumber l G h q (q 6) i i (q 6 1 2) (q 6 1 3) n hn hn2 (by omega)) cl_X4_133 yo_X4_readNumber dX4_nextToken_126 rfl rfl rfl (Nat.le_of_ble_eq_true rfl) (Nat.le_of_ble_eq_true rfl) rfl (Nat.le_of_ble_eq_true rfl) ⟨Nat.zero_le _, Nat.zero_le _⟩ ?_
              refine J_goto E (tgt := 168) dX4_nextToken_129 (by decide) ?_
              have hS : i = tokS (q 7 0) n e := by unfold tokS; rw [h1]; first | exact (endF_f (bet_o (by omega))).symm | exact (endF_f (bet_nb c_36)).symm
              refine ret _ _ _ (congrArg (wTQ G h) (nextX_eq hn hn2 he he2 hS ?_ ?_ ?_)) dX4_nextToken_168
              · rw [tokE, if_neg (bet_f c_97), if_pos (bet_t c_122)]
              · rw [tokK, if_neg (by omega), if_neg (bet_f c_97), if_pos (bet_t c_122)]
              · rw [if_pos rfl]
          · skip
            have c_97 := bI_1 c_97
            refine J_aload_n E dX4_nextToken_100 rfl 0 rfl ?_
            refine J_cVv0 E (As := []) (c_X4_readWord l G h q (q 6) i i (q 6 1 2) (q 6 1 3) n hn hn2 (by omega)) cl_X4_130 yo_X4_readWord dX4_nextToken_101 rfl rfl rfl (Nat.le_of_ble_eq_true rfl) (Nat.le_of_ble_eq_true rfl) rfl (Nat.le_of_ble_eq_true rfl) ⟨Nat.zero_le _, Nat.zero_le _⟩ ?_
            refine J_goto E (tgt := 168) dX4_nextToken_104 (by decide) ?_
            have hS : i = tokS (q 7 0) n e := by unfold tokS; rw [h1]; first | exact (endF_f (bet_o (by omega))).symm | exact (endF_f (bet_nb c_36)).symm
            refine ret _ _ _ (congrArg (wTQ G h) (nextX_eq hn hn2 he he2 hS ?_ ?_ ?_)) dX4_nextToken_168
            · rw [tokE, if_pos (bet_t c_97)]
            · rw [tokK, if_neg (by omega), if_pos (bet_t c_97)]
            · rw [if_neg (by decide)]
        · skip
          have n_71 : ¬ i < n := cmp_nlt (a := i) (b := n) (by omega) (by omega) c_71
          refine J_aload_n E dX4_nextToken_74 rfl 0 rfl ?_
          refine J_iconst E dX4_nextToken_75 ic_0 ?_
          refine pTQ0_X4_26 E dX4_nextToken_76 ?_
          refine J_w (ws' := wTQ G h (upG q 6 (rd4 (q 6) i i 0 (q 6 1 3)))) (congrArg (wTQ G h) rdw_2) ?_
          refine J_goto E (tgt := 168) dX4_nextToken_79 (by decide) ?_
          have hS : i = tokS (q 7 0) n e := by unfold tokS; rw [h1]; first | exact (endF_f (bet_o (by omega))).symm | exact (endF_f (bet_nb c_36)).symm
          refine ret _ _ _ (congrArg (wTQ G h) (nextX_eq hn hn2 he he2 hS ?_ ?_ ?_)) dX4_nextToken_168
          · rw [tokE, if_neg (bet_o (by omega)), if_neg (bet_o (by omega)), if_neg (by omega)]
          · rw [tokK, if_pos (by omega)]
          · rw [if_neg (by decide)]
      · skip
        have n_19 : ¬ n ≤ i := cmp_nle (a := n) (b := i) (by omega) (by omega) c_19
        refine J_aload_n E dX4_nextToken_22 rfl 0 rfl ?_
        refine gTQ0_X4_9 E dX4_nextToken_23 ?_
        refine gTQ1_X4_116 E dX4_nextToken_26 ?_
        refine J_aload_n E dX4_nextToken_29 rfl 0 rfl ?_
        refine gTQ0_X4_31 E dX4_nextToken_30 ?_
        refine J_top (x' := nI i) rdg_0 ?_
        refine lTQ_2 E (j := i) dX4_nextToken_33 (by omega) ?_
        refine J_top (x' := q 7 0 i) (upG_n (by decide)) ?_
        refine J_bipush E dX4_nextToken_34 bp_32 ?_
        refine J_icmp_ne E (tgt := 52) dX4_nextToken_36 (by decide) (fun c_36 => ?_) (fun c_36 => ?_)
        · skip
          refine J_aload_n E dX4_nextToken_52 rfl 0 rfl ?_
          refine J_aload_n E dX4_nextToken_53 rfl 0 rfl ?_
          refine gTQ0_X4_31 E dX4_nextToken_54 ?_
          refine J_top (x' := nI i) rdg_0 ?_
          refine pTQ0_X4_15 E dX4_nextToken_57 ?_
          refine J_w (ws' := wTQ G h (upG q 6 (rd4 (q 6) i i (q 6 1 2) (q 6 1 3)))) (congrArg (wTQ G h) rdw_1) ?_
          refine J_aload_n E dX4_nextToken_60 rfl 0 rfl ?_
          refine gTQ0_X4_31 E dX4_nextToken_61 ?_
          refine J_top (x' := nI i) rdg_0 ?_
          refine J_aload_n E dX4_nextToken_64 rfl 0 rfl ?_
          refine gTQ0_X4_9 E dX4_nextToken_65 ?_
          refine gTQ1_X4_123 E dX4_nextToken_68 ?_
          refine J_top (x' := q 7 1 0) (upG_n (by decide)) ?_
          refine J_top (x' := nI n) (hn) ?_
          refine J_icmp_lt E (tgt := 82) dX4_nextToken_71 (by decide) (fun c_71 => ?_) (fun c_71 => ?_)
          · skip
            have n_71 : i < n := cmp_lt (a := i) (b := n) (by omega) (by omega) c_71
            refine J_aload_n E dX4_nextToken_82 rfl 0 rfl ?_
            refine gTQ0_X4_9 E dX4_nextToken_83 ?_
            refine J_aload_n E dX4_nextToken_86 rfl 0 rfl ?_
            refine gTQ0_X4_31 E dX4_nextToken_87 ?_
            refine J_top (x' := nI i) rdg_0 ?_
            refine J_bipush E dX4_nextToken_90 bp_97 ?_
            refine J_bipush E dX4_nextToken_92 bp_122 ?_
            refine J_tqi E (As := [.int (nI i), .int 97, .int 122]) (c_X3_isBetween l G (sh h 1) (q 7) _ i 97 122 hn hn2 (by omega)) cl_X4_126 yo_X3_isBetween dX4_nextToken_94 rfl (Nat.le_of_ble_eq_true rfl) (Nat.le_of_ble_eq_true rfl) rfl (Nat.le_of_ble_eq_true rfl) ⟨Nat.zero_le _, Nat.zero_le _⟩ ?_
            refine J_if_eq E (tgt := 107) dX4_nextToken_97 (by decide) (fun c_97 => ?_) (fun c_97 => ?_)
            · skip
              have c_97 := bI_0 c_97
              refine J_aload_n E dX4_nextToken_107 rfl 0 rfl ?_
              refine gTQ0_X4_9 E dX4_nextToken_108 ?_
              refine J_aload_n E dX4_nextToken_111 rfl 0 rfl ?_
              refine gTQ0_X4_31 E dX4_nextToken_112 ?_
              refine J_top (x' := nI i) rdg_0 ?_
              refine J_bipush E dX4_nextToken_115 bp_48 ?_
              refine J_bipush E dX4_nextToken_117 bp_57 ?_
              refine J_tqi E (As := [.int (nI i), .int 48, .int 57]) (c_X3_isBetween l G (sh h 1) (q 7) _ i 48 57 hn hn2 (by omega)) cl_X4_126 yo_X3_isBetween dX4_nextToken_119 rfl (Nat.le_of_ble_eq_true rfl) (Nat.le_of_ble_eq_true rfl) rfl (Nat.le_of_ble_eq_true rfl) ⟨Nat.zero_le _, Nat.zero_le _⟩ ?_
              refine J_if_eq E (tgt := 132) dX4_nextToken_122 (by decide) (fun c_122 => ?_) (fun c_122 => ?_)
              · skip
                have c_122 := bI_0 c_122
                refine J_aload_n E dX4_nextToken_132 rfl 0 rfl ?_
                refine J_aload_n E dX4_nextToken_133 rfl 0 rfl ?_
                refine gTQ0_X4_9 E dX4_nextToken_134 ?_
                refine gTQ1_X4_116 E dX4_nextToken_137 ?_
                refine J_aload_n E dX4_nextToken_140 rfl 0 rfl ?_
                refine gTQ0_X4_31 E dX4_nextToken_141 ?_
                refine J_top (x' := nI i) rdg_0 ?_
                refine lTQ_2 E (j := i) dX4_nextToken_144 (by omega) ?_
                refine J_top (x' := q 7 0 i) (upG_n (by decide)) ?_
                refine J_bipush E dX4_nextToken_145 bp_59 ?_
                refine J_icmp_ne E (tgt := 154) dX4_nextToken_147 (by decide) (fun c_147 => ?_) (fun c_147 => ?_)
                · skip
                  refine J_iconst E dX4_nextToken_154 ic_4 ?_
                  refine pTQ0_X4_26 E dX4_nextToken_155 ?_
                  refine J_w (ws' := wTQ G h (upG q 6 (rd4 (q 6) i i 4 (q 6 1 3)))) (congrArg (wTQ G h) rdw_2) ?_
                  refine J_aload_n E dX4_nextToken_158 rfl 0 rfl ?_
                  refine J_aload_n E dX4_nextToken_159 rfl 0 rfl ?_
                  refine gTQ0_X4_31 E dX4_nextToken_160 ?_
                  refine J_top (x' := nI i) rdg_0 ?_
                  refine J_iconst E dX4_nextToken_163 ic_1 ?_
                  refine J_iadd E dX4_nextToken_164 ?_
                  refine J_top (x' := nI (i + 1)) (nI_1 i) ?_
                  refine pTQ0_X4_15 E dX4_nextToken_165 ?_
                  refine J_w (ws' := wTQ G h (upG q 6 (rd4 (q 6) i (i + 1) 4 (q 6 1 3)))) (congrArg (wTQ G h) rdw_1) ?_
                  have hS : i = tokS (q 7 0) n e := by unfold tokS; rw [h1]; first | exact (endF_f (bet_o (by omega))).symm | exact (endF_f (bet_nb c_36)).symm
                  refine ret _ _ _ (congrArg (wTQ G h) (nextX_eq hn hn2 he he2 hS ?_ ?_ ?_)) dX4_nextToken_168
                  · rw [tokE, if_neg (bet_f c_97), if_neg (bet_f c_122), if_pos (by omega)]
                  · rw [tokK, if_neg (by omega), if_neg (bet_f c_97), if_neg (bet_f c_122)]; first | rw [if_pos c_147] | rw [if_neg c_147]
                  · rw [if_neg (by decide)]
                · skip
                  refine J_iconst E dX4_nextToken_150 ic_3 ?_
                  refine J_goto E (tgt := 155) dX4_nextToken_151 (by decide) ?_
                  refine pTQ0_X4_26 E dX4_nextToken_155 ?_
                  refine J_w (ws' := wTQ G h (upG q 6 (rd4 (q 6) i i 3 (q 6 1 3)))) (congrArg (wTQ G h) rdw_2) ?_
                  refine J_aload_n E dX4_nextToken_158 rfl 0 rfl ?_
                  refine J_aload_n E dX4_nextToken_159 rfl 0 rfl ?_
                  refine gTQ0_X4_31 E dX4_nextToken_160 ?_
                  refine J_top (x' := nI i) rdg_0 ?_
                  refine J_iconst E dX4_nextToken_163 ic_1 ?_
                  refine J_iadd E dX4_nextToken_164 ?_
                  refine J_top (x' := nI (i + 1)) (nI_1 i) ?_
                  refine pTQ0_X4_15 E dX4_nextToken_165 ?_
                  refine J_w (ws' := wTQ G h (upG q 6 (rd4 (q 6) i (i + 1) 3 (q 6 1 3)))) (congrArg (wTQ G h) rdw_1) ?_
                  have hS : i = tokS (q 7 0) n e := by unfold tokS; rw [h1]; first | exact (endF_f (bet_o (by omega))).symm | exact (endF_f (bet_nb c_36)).symm
                  refine ret _ _ _ (congrArg (wTQ G h) (nextX_eq hn hn2 he he2 hS ?_ ?_ ?_)) dX4_nextToken_168
                  · rw [tokE, if_neg (bet_f c_97), if_neg (bet_f c_122), if_pos (by omega)]
                  · rw [tokK, if_neg (by omega), if_neg (bet_f c_97), if_neg (bet_f c_122)]; first | rw [if_pos c_147] | rw [if_neg c_147]
                  · rw [if_neg (by decide)]
              · skip
                have c_122 := bI_1 c_122
                refine J_aload_n E dX4_nextToken_125 rfl 0 rfl ?_
                refine J_cVv0 E (As := []) (c_X4_readNumber l G h q (q 6) i i (q 6 1 2) (q 6 1 3) n hn hn2 (by omega)) cl_X4_133 yo_X4_readNumber dX4_nextToken_126 rfl rfl rfl (Nat.le_of_ble_eq_true rfl) (Nat.le_of_ble_eq_true rfl) rfl (Nat.le_of_ble_eq_true rfl) ⟨Nat.zero_le _, Nat.zero_le _⟩ ?_
                refine J_goto E (tgt := 168) dX4_nextToken_129 (by decide) ?_
                have hS : i = tokS (q 7 0) n e := by unfold tokS; rw [h1]; first | exact (endF_f (bet_o (by omega))).symm | exact (endF_f (bet_nb c_36)).symm
                refine ret _ _ _ (congrArg (wTQ G h) (nextX_eq hn hn2 he he2 hS ?_ ?_ ?_)) dX4_nextToken_168
                · rw [tokE, if_neg (bet_f c_97), if_pos (bet_t c_122)]
                · rw [tokK, if_neg (by omega), if_neg (bet_f c_97), if_pos (bet_t c_122)]
                · rw [if_pos rfl]
            · skip
              have c_97 := bI_1 c_97
              refine J_aload_n E dX4_nextToken_100 rfl 0 rfl ?_
              refine J_cVv0 E (As := []) (c_X4_readWord l G h q (q 6) i i (q 6 1 2) (q 6 1 3) n hn hn2 (by omega)) cl_X4_130 yo_X4_readWord dX4_nextToken_101 rfl rfl rfl (Nat.le_of_ble_eq_true rfl) (Nat.le_of_ble_eq_true rfl) rfl (Nat.le_of_ble_eq_true rfl) ⟨Nat.zero_le _, Nat.zero_le _⟩ ?_
              refine J_goto E (tgt := 168) dX4_nextToken_104 (by decide) ?_
              have hS : i = tokS (q 7 0) n e := by unfold tokS; rw [h1]; first | exact (endF_f (bet_o (by omega))).symm | exact (endF_f (bet_nb c_36)).symm
              refine ret _ _ _ (congrArg (wTQ G h) (nextX_eq hn hn2 he he2 hS ?_ ?_ ?_)) dX4_nextToken_168
              · rw [tokE, if_pos (bet_t c_97)]
              · rw [tokK, if_neg (by omega), if_pos (bet_t c_97)]
              · rw [if_neg (by decide)]
          · skip
            have n_71 : ¬ i < n := cmp_nlt (a := i) (b := n) (by omega) (by omega) c_71
            refine J_aload_n E dX4_nextToken_74 rfl 0 rfl ?_
            refine J_iconst E dX4_nextToken_75 ic_0 ?_
            refine pTQ0_X4_26 E dX4_nextToken_76 ?_
            refine J_w (ws' := wTQ G h (upG q 6 (rd4 (q 6) i i 0 (q 6 1 3)))) (congrArg (wTQ G h) rdw_2) ?_
            refine J_goto E (tgt := 168) dX4_nextToken_79 (by decide) ?_
            have hS : i = tokS (q 7 0) n e := by unfold tokS; rw [h1]; first | exact (endF_f (bet_o (by omega))).symm | exact (endF_f (bet_nb c_36)).symm
            refine ret _ _ _ (congrArg (wTQ G h) (nextX_eq hn hn2 he he2 hS ?_ ?_ ?_)) dX4_nextToken_168
            · rw [tokE, if_neg (bet_o (by omega)), if_neg (bet_o (by omega)), if_neg (by omega)]
            · rw [tokK, if_pos (by omega)]
            · rw [if_neg (by decide)]
        · skip
          refine J_aload_n E dX4_nextToken_39 rfl 0 rfl ?_
          refine J_dup E dX4_nextToken_40 rfl ?_
          refine gTQ0_X4_31 E dX4_nextToken_41 ?_
          refine J_top (x' := nI i) rdg_0 ?_
          refine J_iconst E dX4_nextToken_44 ic_1 ?_
          refine J_iadd E dX4_nextToken_45 ?_
          refine J_top (x' := nI (i + 1)) (nI_1 i) ?_
          refine pTQ0_X4_31 E dX4_nextToken_46 ?_
          refine J_w (ws' := wTQ G h (upG q 6 (rd4 (q 6) (i + 1) e (q 6 1 2) (q 6 1 3)))) (congrArg (wTQ G h) rdw_0) ?_
          refine J_goto E (tgt := 8) dX4_nextToken_49 (by decide) ?_
          refine J_lv [0] rfl ?_
          exact ih8 (i + 1) (by omega) (by rw [h1]; exact endF_t (by omega) (bet_b (by omega) c_36)) (by omega)
  refine J_lv [0] rfl ?_
  exact lp8 _ e he2 rfl (Nat.lt_succ_self _)
def kwF (q : Q3) : Int32 := if isW q 7 then 0 else if isW q 1 then 1 else if isW q 2 then 2 else if isW q 3 then 3 else if isW q 4 then 4 else if isW q 5 then 5 else if isW q 6 then 6 else -1
def rrB (q : Q3) : Bool := isN (nextX q) 999
def rrX (q : Q3) : Q3 := if isN (nextX q) 999 then nextX (up3 (nextX q) 0 7 2 (nextX q 6 1 3)) else nextX q
def rpB (q : Q3) (i : Nat) (m : Int32) : Bool := !isW q i || isN (nextX q) m
def rpX (q : Q3) (i r j : Nat) (m : Int32) : Q3 := if isW q i then (if isN (nextX q) m then nextX (up3 (nextX q) 0 r j (nextX q 6 1 3)) else nextX q) else q
def rsX (q : Q3) (j : Nat) : Q3 := if isW q 11 then nextX (up3 q 0 4 j 0) else if isW q 12 then nextX (up3 q 0 4 j 1) else q
def riA (q : Q3) (j : Nat) : Q3 := nextX (up3 (nextX q) 0 0 j (kwF q))
def ripB (a : Q3) (j : Nat) : Bool := rpB a 8 9999 && (rpB (rpX a 8 1 j 9999) 9 99 && rpB (rpX (rpX a 8 1 j 9999) 9 2 j 99) 10 999)
def ripX (a : Q3) (j : Nat) : Q3 := if rpB a 8 9999 then (if rpB (rpX a 8 1 j 9999) 9 99 then (if rpB (rpX (rpX a 8 1 j 9999) 9 2 j 99) 10 999 then rsX (rpX (rpX (rpX a 8 1 j 9999) 9 2 j 99) 10 3 j 999) j else rpX (rpX (rpX a 8 1 j 9999) 9 2 j 99) 10 3 j 999) else rpX (rpX a 8 1 j 9999) 9 2 j 99) else rpX a 8 1 j 9999
def numN (q : Q3) : Nat := (nextX q 6 1 3).toNatClampNeg
def riB (q : Q3) : Bool := if isW q 0 then rrB q else if kwF q < 0 then false else if isN (nextX q) 10 then ripB (riA q (numN q)) (numN q) else false
def riX (q : Q3) : Q3 := if isW q 0 then rrX q else if kwF q < 0 then q else if isN (nextX q) 10 then ripX (riA q (numN q)) (numN q) else nextX q
def tlF : Nat → Bool → Q3 → Nat → Bool × Q3 × Nat
  | 0, b, q, n => (b, q, n)
  | f + 1, b, q, n => if b = true ∧ q 6 1 2 = 3 then tlF f (riB (nextX q)) (riX (nextX q)) (n + 1) else (b, q, n)
theorem tlF_end {f n : Nat} {b : Bool} {q : Q3} (h : ¬ (b = true ∧ q 6 1 2 = 3)) : tlF f b q n = (b, q, n) := by
  cases f with
  | zero => rfl
  | succ f => rw [tlF, if_neg h]
def tl0 (q : Q3) : Bool × Q3 × Nat := tlF 119 (riB (nextX (up3 q 6 1 1 0))) (riX (nextX (up3 q 6 1 1 0))) 1
def tlR (t : Bool × Q3 × Nat) : Int32 := if t.1 = true ∧ t.2.1 6 1 2 = 0 then nI t.2.2 else -1 - t.2.1 6 1 0
theorem mn_le (x y : Int32) : mn x y ≤ x := by
  unfold mn
  split
  · rename_i h; exact Int32.le_of_lt h
  · exact Int32.le_refl _
theorem i32_le {x y : Int32} : x ≤ y ↔ x.toInt ≤ y.toInt := Int32.le_iff_toInt_le
theorem numF_in {f : Nat → Int32} {s : Nat} : ∀ k, (∀ i, i < k → 48 ≤ f (s + i) ∧ f (s + i) ≤ 57) → ∃ v : Nat, v ≤ 10000 ∧ numF f s k = nI v
  | 0, _ => ⟨0, by decide, rfl⟩
  | k + 1, h => by
    obtain ⟨v, hv, e⟩ := numF_in k (fun i hi => h i (by omega))
    obtain ⟨h1, h2⟩ := h k (by omega)
    obtain ⟨d, hd, e2⟩ := nI_of2 (x := f (s + k)) (M := 57) (n := 57) rfl (fun z => absurd (i32_le.mp h1) (by have := Int32.lt_iff_toInt_lt.mp z; have a0 : (0 : Int32).toInt = 0 := by decide; have a1 : (48 : Int32).toInt = 48 := by decide; omega)) h2
    rw [e2] at h1
    have hd2 : 48 ≤ d := cmp_le (a := 48) (b := d) (by decide) (by omega) h1
    have e3 : numF f s (k + 1) = mn 10000 (nI (v * 10 + (d - 48))) := by
      rw [numF, e, e2, show (10 : Int32) = nI 10 from rfl, pk_mul, nI_add, show (48 : Int32) = nI 48 from rfl, pk_sub (by omega), show v * 10 + d - 48 = v * 10 + (d - 48) by omega]
    rw [e3, mn]
    split
    · rename_i h3
      have := cmp_lt (a := v * 10 + (d - 48)) (b := 10000) (by omega) (by decide) h3
      exact ⟨v * 10 + (d - 48), by omega, rfl⟩
    · exact ⟨10000, by decide, rfl⟩
theorem tokK_2 {f : Nat → Int32} {n s : Nat} (h : tokK f n s = 2) : ¬ bet f n 97 122 s = true ∧ bet f n 48 57 s = true := by
  unfold tokK at h
  split at h
  · exact absurd h (by decide)
  · split at h
    · exact absurd h (by decide)
    · split at h
      · rename_i a b; exact ⟨a, b⟩
      · split at h <;> exact absurd h (by decide)
theorem nextX_num {q : Q3} (hq : okN q) (h : nextX q 6 1 2 = 2) : ∃ v : Nat, v ≤ 10000 ∧ nextX q 6 1 3 = nI v := by
  obtain ⟨n, e, hn, hn2, he, he2⟩ := hq
  have hx := nextX_eq hn hn2 he he2 rfl rfl rfl rfl
  rw [← hx] at h ⊢
  have h : tokK (q 7 0) n (tokS (q 7 0) n e) = 2 := h
  show ∃ v : Nat, v ≤ 10000 ∧ (if tokK (q 7 0) n (tokS (q 7 0) n e) = 2 then numF (q 7 0) (tokS (q 7 0) n e) (tokE (q 7 0) n (tokS (q 7 0) n e) - tokS (q 7 0) n e) else q 6 1 3) = nI v
  rw [if_pos h]
  obtain ⟨h1, h2⟩ := tokK_2 h
  refine numF_in _ (fun i hi => ?_)
  have e1 : tokE (q 7 0) n (tokS (q 7 0) n e) = endF (bet (q 7 0) n 48 57) (tokS (q 7 0) n e) := by rw [tokE, if_neg h1, if_pos h2]
  rw [e1] at hi
  have := endF_all (p := bet (q 7 0) n 48 57) (i := tokS (q 7 0) n e) (j := tokS (q 7 0) n e + i) (by omega) (by omega)
  exact (of_decide_eq_true this).2
theorem isN_num {q : Q3} {m : Nat} (hm : m < 10000) (hq : okN q) (h : isN (nextX q) (nI m) = true) : ∃ v : Nat, v ≤ m ∧ nextX q 6 1 3 = nI v ∧ numN q = v := by
  obtain ⟨h1, h2⟩ := of_decide_eq_true h
  obtain ⟨v, hv, e⟩ := nextX_num hq h1
  rw [e] at h2
  exact ⟨v, cmp_le (by omega) (by omega) h2, e, by rw [numN, e, nI_clamp (by omega)]⟩
theorem okT_rr {q : Q3} (h : okT q) : okT (rrX q) := by
  unfold rrX
  split
  · exact okT_next (okT_up (okT_next h.n) _ _ _).n
  · exact okT_next h.n
theorem okT_rp {q : Q3} (h : okT q) (i r j : Nat) (m : Int32) : okT (rpX q i r j m) := by
  unfold rpX
  split
  · split
    · exact okT_next (okT_up (okT_next h.n) _ _ _).n
    · exact okT_next h.n
  · exact h
theorem okT_rs {q : Q3} (h : okT q) (j : Nat) : okT (rsX q j) := by
  unfold rsX
  split
  · exact okT_next (okT_up h _ _ _).n
  · split
    · exact okT_next (okT_up h _ _ _).n
    · exact h
theorem okT_rip {q : Q3} (h : okT q) (j : Nat) : okT (ripX q j) := by
  unfold ripX
  split
  · split
    · split
      · exact okT_rs (okT_rp (okT_rp (okT_rp h _ _ _ _) _ _ _ _) _ _ _ _) _
      · exact okT_rp (okT_rp (okT_rp h _ _ _ _) _ _ _ _) _ _ _ _
    · exact okT_rp (okT_rp h _ _ _ _) _ _ _ _
  · exact okT_rp h _ _ _ _
theorem okT_ri {q : Q3} (h : okT q) : okT (riX q) := by
  unfold riX
  split
  · exact okT_rr h
  · split
    · exact h
    · split
      · exact okT_rip (okT_next (okT_up (okT_next h.n) _ _ _).n) _
      · exact okT_next h.n
theorem nextX_7 (q : Q3) : nextX q 7 = q 7 := by simp [nextX, upG]
theorem up0_7 (q : Q3) (r j : Nat) (v : Int32) : up3 q 0 r j v 7 = q 7 := by simp [up3]
theorem rr_7 (q : Q3) : rrX q 7 = q 7 := by unfold rrX; split <;> simp [nextX_7, up0_7]
theorem rp_7 (q : Q3) (i r j : Nat) (m : Int32) : rpX q i r j m 7 = q 7 := by unfold rpX; split <;> [split; skip] <;> simp [nextX_7, up0_7]
theorem rs_7 (q : Q3) (j : Nat) : rsX q j 7 = q 7 := by unfold rsX; split <;> [skip; split] <;> simp [nextX_7, up0_7]
theorem rip_7 (q : Q3) (j : Nat) : ripX q j 7 = q 7 := by
  unfold ripX
  split
  · split
    · split
      · rw [rs_7, rp_7, rp_7, rp_7]
      · rw [rp_7, rp_7, rp_7]
    · rw [rp_7, rp_7]
  · rw [rp_7]
theorem ri_7 (q : Q3) : riX q 7 = q 7 := by
  unfold riX
  split
  · exact rr_7 q
  · split
    · rfl
    · split
      · rw [rip_7, riA, nextX_7, up0_7, nextX_7]
      · exact nextX_7 q
theorem tlF_7 : ∀ (f : Nat) (b : Bool) (q : Q3) (n : Nat), (tlF f b q n).2.1 7 = q 7
  | 0, _, _, _ => rfl
  | f + 1, b, q, n => by
    rw [tlF]
    split
    · rw [tlF_7, ri_7, nextX_7]
    · rfl
theorem tl0_7 (q : Q3) : (tl0 q).2.1 7 = q 7 := by
  rw [tl0, tlF_7, ri_7, nextX_7]; simp [up3]

set_option maxHeartbeats 4000000 in
set_option maxRecDepth 20000 in
theorem c_X4_isWord (l : Launch) (G : GB) (h : Nat → Nat) (q : Q3) (i : Nat) (hi : i < 27) (hq : okT q) : CI l yX4_isWord cX4_isWord 3 .boolean 4 85 G [.ref (h 0), .ref (G.2.2.2.2.1 i)] (wTQ G h q) (fun vR w' => vR = bI (isW q i = true) ∧ w' = wTQ G h q) := by
  refine CI.mk (own := RX4) (by decide) rfl (Nat.le_of_ble_eq_true rfl) ?_
  intro X E ret
  show J X G 3 0 0 (wTQ G h q) [(0, .ref (h 0)), (1, .ref (G.2.2.2.2.1 i))] 0 []
  obtain ⟨n, s, e, ⟨hn, hn2⟩, hs, he, hse, hen⟩ := hq
  have hL := byS_len i hi
  refine J_aload_n E dX4_isWord_0 rfl 0 rfl ?_
  refine gTQ0_X4_26 E dX4_isWord_1 ?_
  refine J_iconst E dX4_isWord_4 ic_1 ?_
  refine J_icmp_ne E (tgt := 24) dX4_isWord_5 (by decide) (fun c_5 => ?_) (fun c_5 => ?_)
  · skip
    refine J_iconst E dX4_isWord_24 ic_0 ?_
    exact ret _ _ _ _ ⟨by rw [bI_f]; intro z; have z := (isW_iff hn2 hs he hse hen).mp z; first | exact absurd z.1 c_5 | exact absurd z.2.1 n_21, (congrArg (wTQ G h) (rfl))⟩ rfl dX4_isWord_25
  · skip
    refine J_aload_n E dX4_isWord_8 rfl 0 rfl ?_
    refine gTQ0_X4_15 E dX4_isWord_9 ?_
    refine J_top (x' := nI e) (he) ?_
    refine J_aload_n E dX4_isWord_12 rfl 0 rfl ?_
    refine gTQ0_X4_31 E dX4_isWord_13 ?_
    refine J_top (x' := nI s) (hs) ?_
    refine J_isub E dX4_isWord_16 ?_
    refine J_top (x' := nI (e - s)) (pk_sub hse) ?_
    refine J_aload_n E dX4_isWord_17 rfl 1 rfl ?_
    refine J_callKi E (As := []) (i := i) hi (c_J0_length_8abf5 l G i hi) cl_X4_111 yo_J0_length_8abf5 dX4_isWord_18 rfl (Nat.le_of_ble_eq_true rfl) (Nat.le_of_ble_eq_true rfl) rfl (Nat.le_of_ble_eq_true rfl) ⟨Nat.zero_le _, Nat.zero_le _⟩ ?_
    refine J_icmp_eq E (tgt := 26) dX4_isWord_21 (by decide) (fun c_21 => ?_) (fun c_21 => ?_)
    · skip
      have n_21 : (e - s) = ((byS i).length) := cmp_eq (a := (e - s)) (b := ((byS i).length)) (by omega) (by omega) c_21
      refine J_iconst E dX4_isWord_26 ic_0 ?_
      refine J_istore_n E (lv' := [(2, .int 0), (0, .ref (h 0)), (1, .ref (G.2.2.2.2.1 i))]) dX4_isWord_27 rfl (by decide) rfl ?_
      have lp28 : ∀ (fu : Nat) (j : Nat), (j ≤ (byS i).length) → (∀ y, y < j → q 7 0 (s + y) = (byS i).getD y 0) → (byS i).length - j < fu → J X G 3 0 0 (wTQ G h q) [(0, .ref (h 0)), (1, .ref (G.2.2.2.2.1 i)), (2, .int (nI j))] 28 [] := by
        intro fu
        induction fu with
        | zero => intro j hj h1 hm; exact absurd hm (Nat.not_lt_zero _)
        | succ fu ih28 =>
          intro j hj h1 hm
          refine J_iload_n E dX4_isWord_28 rfl 2 rfl ?_
          refine J_aload_n E dX4_isWord_29 rfl 1 rfl ?_
          refine J_callKi E (As := []) (i := i) hi (c_J0_length_8abf5 l G i hi) cl_X4_111 yo_J0_length_8abf5 dX4_isWord_30 rfl (Nat.le_of_ble_eq_true rfl) (Nat.le_of_ble_eq_true rfl) rfl (Nat.le_of_ble_eq_true rfl) ⟨Nat.zero_le _, Nat.zero_le _⟩ ?_
          refine J_icmp_ge E (tgt := 66) dX4_isWord_33 (by decide) (fun c_33 => ?_) (fun c_33 => ?_)
          · skip
            have n_33 : ((byS i).length) ≤ j := cmp_le (a := ((byS i).length)) (b := j) (by omega) (by omega) c_33
            refine J_iconst E dX4_isWord_66 ic_1 ?_
            exact ret _ _ _ _ ⟨by rw [bI_t]; exact (isW_iff hn2 hs he hse hen).mpr ⟨c_5, n_21, fun y hy => h1 y (by omega)⟩, (congrArg (wTQ G h) (rfl))⟩ rfl dX4_isWord_67
          · skip
            have n_33 : ¬ ((byS i).length) ≤ j := cmp_nle (a := ((byS i).length)) (b := j) (by omega) (by omega) c_33
            refine J_aload_n E dX4_isWord_36 rfl 0 rfl ?_
            refine gTQ0_X4_9 E dX4_isWord_37 ?_
            refine gTQ1_X4_116 E dX4_isWord_40 ?_
            refine J_aload_n E dX4_isWord_43 rfl 0 rfl ?_
            refine gTQ0_X4_31 E dX4_isWord_44 ?_
            refine J_top (x' := nI s) (hs) ?_
            refine J_iload_n E dX4_isWord_47 rfl 2 rfl ?_
            refine J_iadd E dX4_isWord_48 ?_
            refine J_top (x' := nI (s + j)) (nI_add s j) ?_
            refine lTQ_2 E (j := (s + j)) dX4_isWord_49 (by omega) ?_
            refine J_aload_n E dX4_isWord_50 rfl 1 rfl ?_
            refine J_iload_n E dX4_isWord_51 rfl 2 rfl ?_
            refine J_callKi E (As := [.int (nI j)]) (i := i) hi (c_J0_charAt_5068e l G i j hi (by omega)) cl_X4_119 yo_J0_charAt_5068e dX4_isWord_52 rfl (Nat.le_of_ble_eq_true rfl) (Nat.le_of_ble_eq_true rfl) rfl (Nat.le_of_ble_eq_true rfl) ⟨Nat.zero_le _, Nat.zero_le _⟩ ?_
            refine J_icmp_eq E (tgt := 60) dX4_isWord_55 (by decide) (fun c_55 => ?_) (fun c_55 => ?_)
            · skip
              refine J_iinc E (lv' := [(2, .int (nI (j + 1))), (0, .ref (h 0)), (1, .ref (G.2.2.2.2.1 i))]) dX4_isWord_60 2 rfl (nI_inc _) (by decide) rfl ?_
              refine J_goto E (tgt := 28) dX4_isWord_63 (by decide) ?_
              refine J_lv [1, 2, 0] rfl ?_
              exact ih28 (j + 1) (by omega) (fun y hy => by rcases Nat.lt_succ_iff_lt_or_eq.mp hy with z | rfl; exact h1 y z; exact c_55) (by omega)
            · skip
              refine J_iconst E dX4_isWord_58 ic_0 ?_
              exact ret _ _ _ _ ⟨by rw [bI_f]; intro z; have z := (isW_iff hn2 hs he hse hen).mp z; exact c_55 (z.2.2 j (by omega)), (congrArg (wTQ G h) (rfl))⟩ rfl dX4_isWord_59
      refine J_lv [1, 2, 0] rfl ?_
      exact lp28 _ 0 (Nat.zero_le _) (fun y hy => absurd hy (Nat.not_lt_zero y)) (Nat.lt_succ_self _)
    · skip
      have n_21 : ¬ (e - s) = ((byS i).length) := cmp_ne (a := (e - s)) (b := ((byS i).length)) (by omega) (by omega) c_21
      refine J_iconst E dX4_isWord_24 ic_0 ?_
      exact ret _ _ _ _ ⟨by rw [bI_f]; intro z; have z := (isW_iff hn2 hs he hse hen).mp z; first | exact absurd z.1 c_5 | exact absurd z.2.1 n_21, (congrArg (wTQ G h) (rfl))⟩ rfl dX4_isWord_25

set_option maxHeartbeats 4000000 in
set_option maxRecDepth 20000 in
theorem c_X4_isNumber (l : Launch) (G : GB) (h : Nat → Nat) (q : Q3) (m : Int32) : CI l yX4_isNumber cX4_isNumber 2 .boolean 0 0 G [.ref (h 0), .int m] (wTQ G h q) (fun vR w' => vR = bI (isN q m = true) ∧ w' = wTQ G h q) := by
  refine CI.mk (own := RX4) (by decide) rfl (Nat.le_of_ble_eq_true rfl) ?_
  intro X E ret
  show J X G 2 0 0 (wTQ G h q) [(0, .ref (h 0)), (1, .int m)] 0 []
  refine J_aload_n E dX4_isNumber_0 rfl 0 rfl ?_
  refine gTQ0_X4_26 E dX4_isNumber_1 ?_
  refine J_iconst E dX4_isNumber_4 ic_2 ?_
  refine J_icmp_ne E (tgt := 20) dX4_isNumber_5 (by decide) (fun c_5 => ?_) (fun c_5 => ?_)
  · skip
    refine J_iconst E dX4_isNumber_20 ic_0 ?_
    exact ret _ _ _ _ ⟨by first | (rw [bI_t]; exact decide_eq_true ⟨c_5, Int32.not_lt.mp c_13⟩) | (rw [bI_f]; intro z; have z := of_decide_eq_true z; first | exact absurd z.1 c_5 | exact absurd z.2 (Int32.not_le.mpr c_13)), (congrArg (wTQ G h) (rfl))⟩ rfl dX4_isNumber_21
  · skip
    refine J_aload_n E dX4_isNumber_8 rfl 0 rfl ?_
    refine gTQ0_X4_51 E dX4_isNumber_9 ?_
    refine J_iload_n E dX4_isNumber_12 rfl 1 rfl ?_
    refine J_icmp_gt E (tgt := 20) dX4_isNumber_13 (by decide) (fun c_13 => ?_) (fun c_13 => ?_)
    · skip
      refine J_iconst E dX4_isNumber_20 ic_0 ?_
      exact ret _ _ _ _ ⟨by first | (rw [bI_t]; exact decide_eq_true ⟨c_5, Int32.not_lt.mp c_13⟩) | (rw [bI_f]; intro z; have z := of_decide_eq_true z; first | exact absurd z.1 c_5 | exact absurd z.2 (Int32.not_le.mpr c_13)), (congrArg (wTQ G h) (rfl))⟩ rfl dX4_isNumber_21
    · skip
      refine J_iconst E dX4_isNumber_16 ic_1 ?_
      refine J_goto E (tgt := 21) dX4_isNumber_17 (by decide) ?_
      exact ret _ _ _ _ ⟨by first | (rw [bI_t]; exact decide_eq_true ⟨c_5, Int32.not_lt.mp c_13⟩) | (rw [bI_f]; intro z; have z := of_decide_eq_true z; first | exact absurd z.1 c_5 | exact absurd z.2 (Int32.not_le.mpr c_13)), (congrArg (wTQ G h) (rfl))⟩ rfl dX4_isNumber_21

set_option maxHeartbeats 4000000 in
set_option maxRecDepth 20000 in
theorem c_X4_nameOf_0 (l : Launch) (G : GB)  : CR l yX4_nameOf cX4_nameOf 1 (.object "java/lang/String") 0 0 G [.int (nI 0)] ([]) (fun vR w' => vR = G.2.2.2.2.1 7 ∧ w' = []) := by
  refine CR.mk (own := RX4) (by decide) rfl (Nat.le_of_ble_eq_true rfl) ?_
  intro X E ret
  show J X G 1 0 0 ([]) [(0, .int (nI 0))] 0 []
  refine J_iload_n E dX4_nameOf_0 rfl 0 rfl ?_
  refine J_tabOut E (tgt := 58) dX4_nameOf_1 (by decide) (by decide) ?_
  refine J_ldcS E (q := 7) rfl dX4_nameOf_58 ?_
  exact ret _ _ _ _ ⟨rfl, rfl⟩ (Or.inr ⟨_, rfl⟩) dX4_nameOf_60

set_option maxHeartbeats 4000000 in
set_option maxRecDepth 20000 in
theorem c_X4_nameOf_1 (l : Launch) (G : GB)  : CR l yX4_nameOf cX4_nameOf 1 (.object "java/lang/String") 0 0 G [.int (nI 1)] ([]) (fun vR w' => vR = G.2.2.2.2.1 1 ∧ w' = []) := by
  refine CR.mk (own := RX4) (by decide) rfl (Nat.le_of_ble_eq_true rfl) ?_
  intro X E ret
  show J X G 1 0 0 ([]) [(0, .int (nI 1))] 0 []
  refine J_iload_n E dX4_nameOf_0 rfl 0 rfl ?_
  refine J_tabIn E (tgt := 40) (off := 39) dX4_nameOf_1 (by decide) (by decide) rfl (by decide) ?_
  refine J_ldcS E (q := 1) rfl dX4_nameOf_40 ?_
  exact ret _ _ _ _ ⟨rfl, rfl⟩ (Or.inr ⟨_, rfl⟩) dX4_nameOf_42

set_option maxHeartbeats 4000000 in
set_option maxRecDepth 20000 in
theorem c_X4_nameOf_2 (l : Launch) (G : GB)  : CR l yX4_nameOf cX4_nameOf 1 (.object "java/lang/String") 0 0 G [.int (nI 2)] ([]) (fun vR w' => vR = G.2.2.2.2.1 2 ∧ w' = []) := by
  refine CR.mk (own := RX4) (by decide) rfl (Nat.le_of_ble_eq_true rfl) ?_
  intro X E ret
  show J X G 1 0 0 ([]) [(0, .int (nI 2))] 0 []
  refine J_iload_n E dX4_nameOf_0 rfl 0 rfl ?_
  refine J_tabIn E (tgt := 43) (off := 42) dX4_nameOf_1 (by decide) (by decide) rfl (by decide) ?_
  refine J_ldcS E (q := 2) rfl dX4_nameOf_43 ?_
  exact ret _ _ _ _ ⟨rfl, rfl⟩ (Or.inr ⟨_, rfl⟩) dX4_nameOf_45

set_option maxHeartbeats 4000000 in
set_option maxRecDepth 20000 in
theorem c_X4_nameOf_3 (l : Launch) (G : GB)  : CR l yX4_nameOf cX4_nameOf 1 (.object "java/lang/String") 0 0 G [.int (nI 3)] ([]) (fun vR w' => vR = G.2.2.2.2.1 3 ∧ w' = []) := by
  refine CR.mk (own := RX4) (by decide) rfl (Nat.le_of_ble_eq_true rfl) ?_
  intro X E ret
  show J X G 1 0 0 ([]) [(0, .int (nI 3))] 0 []
  refine J_iload_n E dX4_nameOf_0 rfl 0 rfl ?_
  refine J_tabIn E (tgt := 46) (off := 45) dX4_nameOf_1 (by decide) (by decide) rfl (by decide) ?_
  refine J_ldcS E (q := 3) rfl dX4_nameOf_46 ?_
  exact ret _ _ _ _ ⟨rfl, rfl⟩ (Or.inr ⟨_, rfl⟩) dX4_nameOf_48

set_option maxHeartbeats 4000000 in
set_option maxRecDepth 20000 in
theorem c_X4_nameOf_4 (l : Launch) (G : GB)  : CR l yX4_nameOf cX4_nameOf 1 (.object "java/lang/String") 0 0 G [.int (nI 4)] ([]) (fun vR w' => vR = G.2.2.2.2.1 4 ∧ w' = []) := by
  refine CR.mk (own := RX4) (by decide) rfl (Nat.le_of_ble_eq_true rfl) ?_
  intro X E ret
  show J X G 1 0 0 ([]) [(0, .int (nI 4))] 0 []
  refine J_iload_n E dX4_nameOf_0 rfl 0 rfl ?_
  refine J_tabIn E (tgt := 49) (off := 48) dX4_nameOf_1 (by decide) (by decide) rfl (by decide) ?_
  refine J_ldcS E (q := 4) rfl dX4_nameOf_49 ?_
  exact ret _ _ _ _ ⟨rfl, rfl⟩ (Or.inr ⟨_, rfl⟩) dX4_nameOf_51

set_option maxHeartbeats 4000000 in
set_option maxRecDepth 20000 in
theorem c_X4_nameOf_5 (l : Launch) (G : GB)  : CR l yX4_nameOf cX4_nameOf 1 (.object "java/lang/String") 0 0 G [.int (nI 5)] ([]) (fun vR w' => vR = G.2.2.2.2.1 5 ∧ w' = []) := by
  refine CR.mk (own := RX4) (by decide) rfl (Nat.le_of_ble_eq_true rfl) ?_
  intro X E ret
  show J X G 1 0 0 ([]) [(0, .int (nI 5))] 0 []
  refine J_iload_n E dX4_nameOf_0 rfl 0 rfl ?_
  refine J_tabIn E (tgt := 52) (off := 51) dX4_nameOf_1 (by decide) (by decide) rfl (by decide) ?_
  refine J_ldcS E (q := 5) rfl dX4_nameOf_52 ?_
  exact ret _ _ _ _ ⟨rfl, rfl⟩ (Or.inr ⟨_, rfl⟩) dX4_nameOf_54

set_option maxHeartbeats 4000000 in
set_option maxRecDepth 20000 in
theorem c_X4_nameOf_6 (l : Launch) (G : GB)  : CR l yX4_nameOf cX4_nameOf 1 (.object "java/lang/String") 0 0 G [.int (nI 6)] ([]) (fun vR w' => vR = G.2.2.2.2.1 6 ∧ w' = []) := by
  refine CR.mk (own := RX4) (by decide) rfl (Nat.le_of_ble_eq_true rfl) ?_
  intro X E ret
  show J X G 1 0 0 ([]) [(0, .int (nI 6))] 0 []
  refine J_iload_n E dX4_nameOf_0 rfl 0 rfl ?_
  refine J_tabIn E (tgt := 55) (off := 54) dX4_nameOf_1 (by decide) (by decide) rfl (by decide) ?_
  refine J_ldcS E (q := 6) rfl dX4_nameOf_55 ?_
  exact ret _ _ _ _ ⟨rfl, rfl⟩ (Or.inr ⟨_, rfl⟩) dX4_nameOf_57

set_option maxHeartbeats 4000000 in
set_option maxRecDepth 20000 in
theorem c_X4_kindOfWord (l : Launch) (G : GB) (h : Nat → Nat) (q : Q3) (hq : okT q)  : CI l yX4_kindOfWord cX4_kindOfWord 2 .int 5 107 G [.ref (h 0)] (wTQ G h q) (fun vR w' => vR = kwF q ∧ w' = wTQ G h q) := by
  refine CI.mk (own := RX4) (by decide) rfl (Nat.le_of_ble_eq_true rfl) ?_
  intro X E ret
  show J X G 2 0 0 (wTQ G h q) [(0, .ref (h 0))] 0 []
  refine J_iconst E dX4_kindOfWord_0 ic_0 ?_
  refine J_istore_n E (lv' := [(1, .int 0), (0, .ref (h 0))]) dX4_kindOfWord_1 rfl (by decide) rfl ?_
  refine J_iload_n E dX4_kindOfWord_2 rfl 0 rfl ?_
  refine J_bipush E dX4_kindOfWord_3 bp_7 ?_
  refine J_icmp_ge E (tgt := 27) dX4_kindOfWord_5 (by decide) (fun c_5 => ?_) (fun c_5 => ?_)
  · skip
    have n_5 : 7 ≤ 0 := cmp_le (a := 7) (b := 0) (by omega) (by omega) c_5
    exact absurd n_5 (by decide)
  · skip
    have n_5 : ¬ 7 ≤ 0 := cmp_nle (a := 7) (b := 0) (by omega) (by omega) c_5
    refine J_aload_n E dX4_kindOfWord_8 rfl 1 rfl ?_
    refine J_iload_n E dX4_kindOfWord_9 rfl 0 rfl ?_
    refine J_cSrN E (As := [.int 0]) (c_X4_nameOf_0 l G ) cl_X4_93 yo_X4_nameOf dX4_kindOfWord_10 rfl (Nat.le_of_ble_eq_true rfl) (Nat.le_of_ble_eq_true rfl) rfl (Nat.le_of_ble_eq_true rfl) ⟨Nat.zero_le _, Nat.zero_le _⟩ ?_
    refine J_cVi0 E (As := [.ref (G.2.2.2.2.1 7)]) (c_X4_isWord l G h q 7 (by decide) hq) cl_X4_36 yo_X4_isWord dX4_kindOfWord_13 rfl rfl rfl (Nat.le_of_ble_eq_true rfl) (Nat.le_of_ble_eq_true rfl) rfl (Nat.le_of_ble_eq_true rfl) ⟨Nat.zero_le _, Nat.zero_le _⟩ ?_
    refine J_if_eq E (tgt := 21) dX4_kindOfWord_16 (by decide) (fun c_16 => ?_) (fun c_16 => ?_)
    · skip
      have c_16 := bI_0 c_16
      refine J_iinc E (lv' := [(1, .int (nI 1)), (0, .ref (h 0))]) dX4_kindOfWord_21 0 rfl (nI_inc _) (by decide) rfl ?_
      refine J_goto E (tgt := 2) dX4_kindOfWord_24 (by decide) ?_
      refine J_iload_n E dX4_kindOfWord_2 rfl 0 rfl ?_
      refine J_bipush E dX4_kindOfWord_3 bp_7 ?_
      refine J_icmp_ge E (tgt := 27) dX4_kindOfWord_5 (by decide) (fun c_5 => ?_) (fun c_5 => ?_)
      · skip
        have n_5 : 7 ≤ 1 := cmp_le (a := 7) (b := 1) (by omega) (by omega) c_5
        exact absurd n_5 (by decide)
      · skip
        have n_5 : ¬ 7 ≤ 1 := cmp_nle (a := 7) (b := 1) (by omega) (by omega) c_5
        refine J_aload_n E dX4_kindOfWord_8 rfl 1 rfl ?_
        refine J_iload_n E dX4_kindOfWord_9 rfl 0 rfl ?_
        refine J_cSrN E (As := [.int (nI 1)]) (c_X4_nameOf_1 l G ) cl_X4_93 yo_X4_nameOf dX4_kindOfWord_10 rfl (Nat.le_of_ble_eq_true rfl) (Nat.le_of_ble_eq_true rfl) rfl (Nat.le_of_ble_eq_true rfl) ⟨Nat.zero_le _, Nat.zero_le _⟩ ?_
        refine J_cVi0 E (As := [.ref (G.2.2.2.2.1 1)]) (c_X4_isWord l G h q 1 (by decide) hq) cl_X4_36 yo_X4_isWord dX4_kindOfWord_13 rfl rfl rfl (Nat.le_of_ble_eq_true rfl) (Nat.le_of_ble_eq_true rfl) rfl (Nat.le_of_ble_eq_true rfl) ⟨Nat.zero_le _, Nat.zero_le _⟩ ?_
        refine J_if_eq E (tgt := 21) dX4_kindOfWord_16 (by decide) (fun c_16 => ?_) (fun c_16 => ?_)
        · skip
          have c_16 := bI_0 c_16
          refine J_iinc E (lv' := [(1, .int (nI 2)), (0, .ref (h 0))]) dX4_kindOfWord_21 0 rfl (nI_inc _) (by decide) rfl ?_
          refine J_goto E (tgt := 2) dX4_kindOfWord_24 (by decide) ?_
          refine J_iload_n E dX4_kindOfWord_2 rfl 0 rfl ?_
          refine J_bipush E dX4_kindOfWord_3 bp_7 ?_
          refine J_icmp_ge E (tgt := 27) dX4_kindOfWord_5 (by decide) (fun c_5 => ?_) (fun c_5 => ?_)
          · skip
            have n_5 : 7 ≤ 2 := cmp_le (a := 7) (b := 2) (by omega) (by omega) c_5
            exact absurd n_5 (by decide)
          · skip
            have n_5 : ¬ 7 ≤ 2 := cmp_nle (a := 7) (b := 2) (by omega) (by omega) c_5
            refine J_aload_n E dX4_kindOfWord_8 rfl 1 rfl ?_
            refine J_iload_n E dX4_kindOfWord_9 rfl 0 rfl ?_
            refine J_cSrN E (As := [.int (nI 2)]) (c_X4_nameOf_2 l G ) cl_X4_93 yo_X4_nameOf dX4_kindOfWord_10 rfl (Nat.le_of_ble_eq_true rfl) (Nat.le_of_ble_eq_true rfl) rfl (Nat.le_of_ble_eq_true rfl) ⟨Nat.zero_le _, Nat.zero_le _⟩ ?_
            refine J_cVi0 E (As := [.ref (G.2.2.2.2.1 2)]) (c_X4_isWord l G h q 2 (by decide) hq) cl_X4_36 yo_X4_isWord dX4_kindOfWord_13 rfl rfl rfl (Nat.le_of_ble_eq_true rfl) (Nat.le_of_ble_eq_true rfl) rfl (Nat.le_of_ble_eq_true rfl) ⟨Nat.zero_le _, Nat.zero_le _⟩ ?_
            refine J_if_eq E (tgt := 21) dX4_kindOfWord_16 (by decide) (fun c_16 => ?_) (fun c_16 => ?_)
            · skip
              have c_16 := bI_0 c_16
              refine J_iinc E (lv' := [(1, .int (nI 3)), (0, .ref (h 0))]) dX4_kindOfWord_21 0 rfl (nI_inc _) (by decide) rfl ?_
              refine J_goto E (tgt := 2) dX4_kindOfWord_24 (by decide) ?_
              refine J_iload_n E dX4_kindOfWord_2 rfl 0 rfl ?_
              refine J_bipush E dX4_kindOfWord_3 bp_7 ?_
              refine J_icmp_ge E (tgt := 27) dX4_kindOfWord_5 (by decide) (fun c_5 => ?_) (fun c_5 => ?_)
              · skip
                have n_5 : 7 ≤ 3 := cmp_le (a := 7) (b := 3) (by omega) (by omega) c_5
                exact absurd n_5 (by decide)
              · skip
                have n_5 : ¬ 7 ≤ 3 := cmp_nle (a := 7) (b := 3) (by omega) (by omega) c_5
                refine J_aload_n E dX4_kindOfWord_8 rfl 1 rfl ?_
                refine J_iload_n E dX4_kindOfWord_9 rfl 0 rfl ?_
                refine J_cSrN E (As := [.int (nI 3)]) (c_X4_nameOf_3 l G ) cl_X4_93 yo_X4_nameOf dX4_kindOfWord_10 rfl (Nat.le_of_ble_eq_true rfl) (Nat.le_of_ble_eq_true rfl) rfl (Nat.le_of_ble_eq_true rfl) ⟨Nat.zero_le _, Nat.zero_le _⟩ ?_
                refine J_cVi0 E (As := [.ref (G.2.2.2.2.1 3)]) (c_X4_isWord l G h q 3 (by decide) hq) cl_X4_36 yo_X4_isWord dX4_kindOfWord_13 rfl rfl rfl (Nat.le_of_ble_eq_true rfl) (Nat.le_of_ble_eq_true rfl) rfl (Nat.le_of_ble_eq_true rfl) ⟨Nat.zero_le _, Nat.zero_le _⟩ ?_
                refine J_if_eq E (tgt := 21) dX4_kindOfWord_16 (by decide) (fun c_16 => ?_) (fun c_16 => ?_)
                · skip
                  have c_16 := bI_0 c_16
                  refine J_iinc E (lv' := [(1, .int (nI 4)), (0, .ref (h 0))]) dX4_kindOfWord_21 0 rfl (nI_inc _) (by decide) rfl ?_
                  refine J_goto E (tgt := 2) dX4_kindOfWord_24 (by decide) ?_
                  refine J_iload_n E dX4_kindOfWord_2 rfl 0 rfl ?_
                  refine J_bipush E dX4_kindOfWord_3 bp_7 ?_
                  refine J_icmp_ge E (tgt := 27) dX4_kindOfWord_5 (by decide) (fun c_5 => ?_) (fun c_5 => ?_)
                  · skip
                    have n_5 : 7 ≤ 4 := cmp_le (a := 7) (b := 4) (by omega) (by omega) c_5
                    exact absurd n_5 (by decide)
                  · skip
                    have n_5 : ¬ 7 ≤ 4 := cmp_nle (a := 7) (b := 4) (by omega) (by omega) c_5
                    refine J_aload_n E dX4_kindOfWord_8 rfl 1 rfl ?_
                    refine J_iload_n E dX4_kindOfWord_9 rfl 0 rfl ?_
                    refine J_cSrN E (As := [.int (nI 4)]) (c_X4_nameOf_4 l G ) cl_X4_93 yo_X4_nameOf dX4_kindOfWord_10 rfl (Nat.le_of_ble_eq_true rfl) (Nat.le_of_ble_eq_true rfl) rfl (Nat.le_of_ble_eq_true rfl) ⟨Nat.zero_le _, Nat.zero_le _⟩ ?_
                    refine J_cVi0 E (As := [.ref (G.2.2.2.2.1 4)]) (c_X4_isWord l G h q 4 (by decide) hq) cl_X4_36 yo_X4_isWord dX4_kindOfWord_13 rfl rfl rfl (Nat.le_of_ble_eq_true rfl) (Nat.le_of_ble_eq_true rfl) rfl (Nat.le_of_ble_eq_true rfl) ⟨Nat.zero_le _, Nat.zero_le _⟩ ?_
                    refine J_if_eq E (tgt := 21) dX4_kindOfWord_16 (by decide) (fun c_16 => ?_) (fun c_16 => ?_)
                    · skip
                      have c_16 := bI_0 c_16
                      refine J_iinc E (lv' := [(1, .int (nI 5)), (0, .ref (h 0))]) dX4_kindOfWord_21 0 rfl (nI_inc _) (by decide) rfl ?_
                      refine J_goto E (tgt := 2) dX4_kindOfWord_24 (by decide) ?_
                      refine J_iload_n E dX4_kindOfWord_2 rfl 0 rfl ?_
                      refine J_bipush E dX4_kindOfWord_3 bp_7 ?_
                      refine J_icmp_ge E (tgt := 27) dX4_kindOfWord_5 (by decide) (fun c_5 => ?_) (fun c_5 => ?_)
                      · skip
                        have n_5 : 7 ≤ 5 := cmp_le (a := 7) (b := 5) (by omega) (by omega) c_5
                        exact absurd n_5 (by decide)
                      · skip
                        have n_5 : ¬ 7 ≤ 5 := cmp_nle (a := 7) (b := 5) (by omega) (by omega) c_5
                        refine J_aload_n E dX4_kindOfWord_8 rfl 1 rfl ?_
                        refine J_iload_n E dX4_kindOfWord_9 rfl 0 rfl ?_
                        refine J_cSrN E (As := [.int (nI 5)]) (c_X4_nameOf_5 l G ) cl_X4_93 yo_X4_nameOf dX4_kindOfWord_10 rfl (Nat.le_of_ble_eq_true rfl) (Nat.le_of_ble_eq_true rfl) rfl (Nat.le_of_ble_eq_true rfl) ⟨Nat.zero_le _, Nat.zero_le _⟩ ?_
                        refine J_cVi0 E (As := [.ref (G.2.2.2.2.1 5)]) (c_X4_isWord l G h q 5 (by decide) hq) cl_X4_36 yo_X4_isWord dX4_kindOfWord_13 rfl rfl rfl (Nat.le_of_ble_eq_true rfl) (Nat.le_of_ble_eq_true rfl) rfl (Nat.le_of_ble_eq_true rfl) ⟨Nat.zero_le _, Nat.zero_le _⟩ ?_
                        refine J_if_eq E (tgt := 21) dX4_kindOfWord_16 (by decide) (fun c_16 => ?_) (fun c_16 => ?_)
                        · skip
                          have c_16 := bI_0 c_16
                          refine J_iinc E (lv' := [(1, .int (nI 6)), (0, .ref (h 0))]) dX4_kindOfWord_21 0 rfl (nI_inc _) (by decide) rfl ?_
                          refine J_goto E (tgt := 2) dX4_kindOfWord_24 (by decide) ?_
                          refine J_iload_n E dX4_kindOfWord_2 rfl 0 rfl ?_
                          refine J_bipush E dX4_kindOfWord_3 bp_7 ?_
                          refine J_icmp_ge E (tgt := 27) dX4_kindOfWord_5 (by decide) (fun c_5 => ?_) (fun c_5 => ?_)
                          · skip
                            have n_5 : 7 ≤ 6 := cmp_le (a := 7) (b := 6) (by omega) (by omega) c_5
                            exact absurd n_5 (by decide)
                          · skip
                            have n_5 : ¬ 7 ≤ 6 := cmp_nle (a := 7) (b := 6) (by omega) (by omega) c_5
                            refine J_aload_n E dX4_kindOfWord_8 rfl 1 rfl ?_
                            refine J_iload_n E dX4_kindOfWord_9 rfl 0 rfl ?_
                            refine J_cSrN E (As := [.int (nI 6)]) (c_X4_nameOf_6 l G ) cl_X4_93 yo_X4_nameOf dX4_kindOfWord_10 rfl (Nat.le_of_ble_eq_true rfl) (Nat.le_of_ble_eq_true rfl) rfl (Nat.le_of_ble_eq_true rfl) ⟨Nat.zero_le _, Nat.zero_le _⟩ ?_
                            refine J_cVi0 E (As := [.ref (G.2.2.2.2.1 6)]) (c_X4_isWord l G h q 6 (by decide) hq) cl_X4_36 yo_X4_isWord dX4_kindOfWord_13 rfl rfl rfl (Nat.le_of_ble_eq_true rfl) (Nat.le_of_ble_eq_true rfl) rfl (Nat.le_of_ble_eq_true rfl) ⟨Nat.zero_le _, Nat.zero_le _⟩ ?_
                            refine J_if_eq E (tgt := 21) dX4_kindOfWord_16 (by decide) (fun c_16 => ?_) (fun c_16 => ?_)
                            · skip
                              have c_16 := bI_0 c_16
                              refine J_iinc E (lv' := [(1, .int (nI 7)), (0, .ref (h 0))]) dX4_kindOfWord_21 0 rfl (nI_inc _) (by decide) rfl ?_
                              refine J_goto E (tgt := 2) dX4_kindOfWord_24 (by decide) ?_
                              refine J_iload_n E dX4_kindOfWord_2 rfl 0 rfl ?_
                              refine J_bipush E dX4_kindOfWord_3 bp_7 ?_
                              refine J_icmp_ge E (tgt := 27) dX4_kindOfWord_5 (by decide) (fun c_5 => ?_) (fun c_5 => ?_)
                              · skip
                                have n_5 : 7 ≤ 7 := cmp_le (a := 7) (b := 7) (by omega) (by omega) c_5
                                refine J_iconst E dX4_kindOfWord_27 ic_m1 ?_
                                exact ret _ _ _ _ ⟨by simp only [kwF, {HB}]; rfl, (congrArg (wTQ G h) (rfl))⟩ rfl dX4_kindOfWord_28
                              · skip
                                have n_5 : ¬ 7 ≤ 7 := cmp_nle (a := 7) (b := 7) (by omega) (by omega) c_5
                                exact absurd n_5 (by decide)
                            · skip
                              have c_16 := bI_1 c_16
                              refine J_iload_n E dX4_kindOfWord_19 rfl 0 rfl ?_
                              exact ret _ _ _ _ ⟨by simp only [kwF, {HB}]; rfl, (congrArg (wTQ G h) (rfl))⟩ rfl dX4_kindOfWord_20
                        · skip
                          have c_16 := bI_1 c_16
                          refine J_iload_n E dX4_kindOfWord_19 rfl 0 rfl ?_
                          exact ret _ _ _ _ ⟨by simp only [kwF, {HB}]; rfl, (congrArg (wTQ G h) (rfl))⟩ rfl dX4_kindOfWord_20
                    · skip
                      have c_16 := bI_1 c_16
                      refine J_iload_n E dX4_kindOfWord_19 rfl 0 rfl ?_
                      exact ret _ _ _ _ ⟨by simp only [kwF, {HB}]; rfl, (congrArg (wTQ G h) (rfl))⟩ rfl dX4_kindOfWord_20
                · skip
                  have c_16 := bI_1 c_16
                  refine J_iload_n E dX4_kindOfWord_19 rfl 0 rfl ?_
                  exact ret _ _ _ _ ⟨by simp only [kwF, {HB}]; rfl, (congrArg (wTQ G h) (rfl))⟩ rfl dX4_kindOfWord_20
            · skip
              have c_16 := bI_1 c_16
              refine J_iload_n E dX4_kindOfWord_19 rfl 0 rfl ?_
              exact ret _ _ _ _ ⟨by simp only [kwF, {HB}]; rfl, (congrArg (wTQ G h) (rfl))⟩ rfl dX4_kindOfWord_20
        · skip
          have c_16 := bI_1 c_16
          refine J_iload_n E dX4_kindOfWord_19 rfl 0 rfl ?_
          exact ret _ _ _ _ ⟨by simp only [kwF, {HB}]; rfl, (congrArg (wTQ G h) (rfl))⟩ rfl dX4_kindOfWord_20
    · skip
      have c_16 := bI_1 c_16
      refine J_iload_n E dX4_kindOfWord_19 rfl 0 rfl ?_
      exact ret _ _ _ _ ⟨by simp only [kwF, {HB}]; rfl, (congrArg (wTQ G h) (rfl))⟩ rfl dX4_kindOfWord_20

set_option maxHeartbeats 4000000 in
set_option maxRecDepth 20000 in
theorem c_X4_readRain (l : Launch) (G : GB) (h : Nat → Nat) (q : Q3) (hq : okT q)  : CI l yX4_readRain cX4_readRain 2 .boolean 3 63 G [.ref (h 0), .ref (h 3)] (wTQ G h q) (fun vR w' => vR = bI (rrB q = true) ∧ w' = wTQ G h (rrX q)) := by
  refine CI.mk (own := RX4) (by decide) rfl (Nat.le_of_ble_eq_true rfl) ?_
  intro X E ret
  show J X G 2 0 0 (wTQ G h q) [(0, .ref (h 0)), (1, .ref (h 3))] 0 []
  refine J_aload_n E dX4_readRain_0 rfl 0 rfl ?_
  refine J_cVv0 E (As := []) (c_X4_nextToken l G h q hq.n) cl_X4_19 yo_X4_nextToken dX4_readRain_1 rfl rfl rfl (Nat.le_of_ble_eq_true rfl) (Nat.le_of_ble_eq_true rfl) rfl (Nat.le_of_ble_eq_true rfl) ⟨Nat.zero_le _, Nat.zero_le _⟩ ?_
  refine J_aload_n E dX4_readRain_4 rfl 0 rfl ?_
  refine J_sipush E dX4_readRain_5 sp_999 ?_
  refine J_cVi0 E (As := [.int 999]) (c_X4_isNumber l G h (nextX q) 999 ) cl_X4_47 yo_X4_isNumber dX4_readRain_8 rfl rfl rfl (Nat.le_of_ble_eq_true rfl) (Nat.le_of_ble_eq_true rfl) rfl (Nat.le_of_ble_eq_true rfl) ⟨Nat.zero_le _, Nat.zero_le _⟩ ?_
  refine J_if_ne E (tgt := 16) dX4_readRain_11 (by decide) (fun c_11 => ?_) (fun c_11 => ?_)
  · skip
    have c_11 := bI_1 c_11
    refine J_aload_n E dX4_readRain_16 rfl 1 rfl ?_
    refine J_aload_n E dX4_readRain_17 rfl 0 rfl ?_
    refine gTQ0_X4_51 E dX4_readRain_18 ?_
    refine pTQ3_X4_82 E dX4_readRain_21 ?_
    refine J_aload_n E dX4_readRain_24 rfl 0 rfl ?_
    refine J_cVv0 E (As := []) (c_X4_nextToken l G h (up3 (nextX q) 0 7 2 ((nextX q) 6 1 3)) (okT_up (okT_next hq.n) _ _ _).n) cl_X4_19 yo_X4_nextToken dX4_readRain_25 rfl rfl rfl (Nat.le_of_ble_eq_true rfl) (Nat.le_of_ble_eq_true rfl) rfl (Nat.le_of_ble_eq_true rfl) ⟨Nat.zero_le _, Nat.zero_le _⟩ ?_
    refine J_iconst E dX4_readRain_28 ic_1 ?_
    exact ret _ _ _ _ ⟨by rw [bI_t c_11], (congrArg (wTQ G h) (by rw [rrX, if_pos c_11]))⟩ rfl dX4_readRain_29
  · skip
    have c_11 := bI_0 c_11
    refine J_iconst E dX4_readRain_14 ic_0 ?_
    exact ret _ _ _ _ ⟨by rw [bI_f c_11], (congrArg (wTQ G h) (by rw [rrX, if_neg c_11]))⟩ rfl dX4_readRain_15

set_option maxHeartbeats 4000000 in
set_option maxRecDepth 20000 in
theorem c_X4_readPart_1 (l : Launch) (G : GB) (h : Nat → Nat) (q : Q3) (i j : Nat) (m : Int32) (hi : i < 27) (hj : j < 11) (hq : okT q) : CI l yX4_readPart cX4_readPart 5 .boolean 5 107 G [.ref (h 0), .ref (G.2.2.2.2.1 i), .ref (h 5), .int (nI j), .int m] (wTQ G h q) (fun vR w' => vR = bI (rpB q i m = true) ∧ w' = wTQ G h (rpX q i 1 j m)) := by
  refine CI.mk (own := RX4) (by decide) rfl (Nat.le_of_ble_eq_true rfl) ?_
  intro X E ret
  show J X G 5 0 0 (wTQ G h q) [(0, .ref (h 0)), (1, .ref (G.2.2.2.2.1 i)), (2, .ref (h 5)), (3, .int (nI j)), (4, .int m)] 0 []
  refine J_aload_n E dX4_readPart_0 rfl 0 rfl ?_
  refine J_aload_n E dX4_readPart_1 rfl 1 rfl ?_
  refine J_cVi0 E (As := [.ref (G.2.2.2.2.1 i)]) (c_X4_isWord l G h q i hi hq) cl_X4_36 yo_X4_isWord dX4_readPart_2 rfl rfl rfl (Nat.le_of_ble_eq_true rfl) (Nat.le_of_ble_eq_true rfl) rfl (Nat.le_of_ble_eq_true rfl) ⟨Nat.zero_le _, Nat.zero_le _⟩ ?_
  refine J_if_ne E (tgt := 10) dX4_readPart_5 (by decide) (fun c_5 => ?_) (fun c_5 => ?_)
  · skip
    have c_5 := bI_1 c_5
    refine J_aload_n E dX4_readPart_10 rfl 0 rfl ?_
    refine J_cVv0 E (As := []) (c_X4_nextToken l G h q hq.n) cl_X4_19 yo_X4_nextToken dX4_readPart_11 rfl rfl rfl (Nat.le_of_ble_eq_true rfl) (Nat.le_of_ble_eq_true rfl) rfl (Nat.le_of_ble_eq_true rfl) ⟨Nat.zero_le _, Nat.zero_le _⟩ ?_
    refine J_aload_n E dX4_readPart_14 rfl 0 rfl ?_
    refine J_iload E dX4_readPart_15 4 rfl ?_
    refine J_cVi0 E (As := [.int m]) (c_X4_isNumber l G h (nextX q) m ) cl_X4_47 yo_X4_isNumber dX4_readPart_17 rfl rfl rfl (Nat.le_of_ble_eq_true rfl) (Nat.le_of_ble_eq_true rfl) rfl (Nat.le_of_ble_eq_true rfl) ⟨Nat.zero_le _, Nat.zero_le _⟩ ?_
    refine J_if_ne E (tgt := 25) dX4_readPart_20 (by decide) (fun c_20 => ?_) (fun c_20 => ?_)
    · skip
      have c_20 := bI_1 c_20
      refine J_aload_n E dX4_readPart_25 rfl 2 rfl ?_
      refine J_iload_n E dX4_readPart_26 rfl 3 rfl ?_
      refine J_aload_n E dX4_readPart_27 rfl 0 rfl ?_
      refine gTQ0_X4_51 E dX4_readPart_28 ?_
      refine sTQ_5 E (j := j) dX4_readPart_31 (by omega) ?_
      refine J_aload_n E dX4_readPart_32 rfl 0 rfl ?_
      refine J_cVv0 E (As := []) (c_X4_nextToken l G h (up3 (nextX q) 0 1 j ((nextX q) 6 1 3)) (okT_up (okT_next hq.n) _ _ _).n) cl_X4_19 yo_X4_nextToken dX4_readPart_33 rfl rfl rfl (Nat.le_of_ble_eq_true rfl) (Nat.le_of_ble_eq_true rfl) rfl (Nat.le_of_ble_eq_true rfl) ⟨Nat.zero_le _, Nat.zero_le _⟩ ?_
      refine J_iconst E dX4_readPart_36 ic_1 ?_
      exact ret _ _ _ _ ⟨by rw [bI_t]; simp [rpB, c_5, c_20], (congrArg (wTQ G h) (by rw [rpX, if_pos c_5, if_pos c_20]))⟩ rfl dX4_readPart_37
    · skip
      have c_20 := bI_0 c_20
      refine J_iconst E dX4_readPart_23 ic_0 ?_
      exact ret _ _ _ _ ⟨by rw [bI_f]; simp [rpB, c_5, c_20], (congrArg (wTQ G h) (by rw [rpX, if_pos c_5, if_neg c_20]))⟩ rfl dX4_readPart_24
  · skip
    have c_5 := bI_0 c_5
    refine J_iconst E dX4_readPart_8 ic_1 ?_
    exact ret _ _ _ _ ⟨by rw [bI_t]; simp [rpB, c_5], (congrArg (wTQ G h) (by rw [rpX, if_neg c_5]))⟩ rfl dX4_readPart_9

set_option maxHeartbeats 4000000 in
set_option maxRecDepth 20000 in
theorem c_X4_readPart_2 (l : Launch) (G : GB) (h : Nat → Nat) (q : Q3) (i j : Nat) (m : Int32) (hi : i < 27) (hj : j < 11) (hq : okT q) : CI l yX4_readPart cX4_readPart 5 .boolean 5 107 G [.ref (h 0), .ref (G.2.2.2.2.1 i), .ref (h 6), .int (nI j), .int m] (wTQ G h q) (fun vR w' => vR = bI (rpB q i m = true) ∧ w' = wTQ G h (rpX q i 2 j m)) := by
  refine CI.mk (own := RX4) (by decide) rfl (Nat.le_of_ble_eq_true rfl) ?_
  intro X E ret
  show J X G 5 0 0 (wTQ G h q) [(0, .ref (h 0)), (1, .ref (G.2.2.2.2.1 i)), (2, .ref (h 6)), (3, .int (nI j)), (4, .int m)] 0 []
  refine J_aload_n E dX4_readPart_0 rfl 0 rfl ?_
  refine J_aload_n E dX4_readPart_1 rfl 1 rfl ?_
  refine J_cVi0 E (As := [.ref (G.2.2.2.2.1 i)]) (c_X4_isWord l G h q i hi hq) cl_X4_36 yo_X4_isWord dX4_readPart_2 rfl rfl rfl (Nat.le_of_ble_eq_true rfl) (Nat.le_of_ble_eq_true rfl) rfl (Nat.le_of_ble_eq_true rfl) ⟨Nat.zero_le _, Nat.zero_le _⟩ ?_
  refine J_if_ne E (tgt := 10) dX4_readPart_5 (by decide) (fun c_5 => ?_) (fun c_5 => ?_)
  · skip
    have c_5 := bI_1 c_5
    refine J_aload_n E dX4_readPart_10 rfl 0 rfl ?_
    refine J_cVv0 E (As := []) (c_X4_nextToken l G h q hq.n) cl_X4_19 yo_X4_nextToken dX4_readPart_11 rfl rfl rfl (Nat.le_of_ble_eq_true rfl) (Nat.le_of_ble_eq_true rfl) rfl (Nat.le_of_ble_eq_true rfl) ⟨Nat.zero_le _, Nat.zero_le _⟩ ?_
    refine J_aload_n E dX4_readPart_14 rfl 0 rfl ?_
    refine J_iload E dX4_readPart_15 4 rfl ?_
    refine J_cVi0 E (As := [.int m]) (c_X4_isNumber l G h (nextX q) m ) cl_X4_47 yo_X4_isNumber dX4_readPart_17 rfl rfl rfl (Nat.le_of_ble_eq_true rfl) (Nat.le_of_ble_eq_true rfl) rfl (Nat.le_of_ble_eq_true rfl) ⟨Nat.zero_le _, Nat.zero_le _⟩ ?_
    refine J_if_ne E (tgt := 25) dX4_readPart_20 (by decide) (fun c_20 => ?_) (fun c_20 => ?_)
    · skip
      have c_20 := bI_1 c_20
      refine J_aload_n E dX4_readPart_25 rfl 2 rfl ?_
      refine J_iload_n E dX4_readPart_26 rfl 3 rfl ?_
      refine J_aload_n E dX4_readPart_27 rfl 0 rfl ?_
      refine gTQ0_X4_51 E dX4_readPart_28 ?_
      refine sTQ_6 E (j := j) dX4_readPart_31 (by omega) ?_
      refine J_aload_n E dX4_readPart_32 rfl 0 rfl ?_
      refine J_cVv0 E (As := []) (c_X4_nextToken l G h (up3 (nextX q) 0 2 j ((nextX q) 6 1 3)) (okT_up (okT_next hq.n) _ _ _).n) cl_X4_19 yo_X4_nextToken dX4_readPart_33 rfl rfl rfl (Nat.le_of_ble_eq_true rfl) (Nat.le_of_ble_eq_true rfl) rfl (Nat.le_of_ble_eq_true rfl) ⟨Nat.zero_le _, Nat.zero_le _⟩ ?_
      refine J_iconst E dX4_readPart_36 ic_1 ?_
      exact ret _ _ _ _ ⟨by rw [bI_t]; simp [rpB, c_5, c_20], (congrArg (wTQ G h) (by rw [rpX, if_pos c_5, if_pos c_20]))⟩ rfl dX4_readPart_37
    · skip
      have c_20 := bI_0 c_20
      refine J_iconst E dX4_readPart_23 ic_0 ?_
      exact ret _ _ _ _ ⟨by rw [bI_f]; simp [rpB, c_5, c_20], (congrArg (wTQ G h) (by rw [rpX, if_pos c_5, if_neg c_20]))⟩ rfl dX4_readPart_24
  · skip
    have c_5 := bI_0 c_5
    refine J_iconst E dX4_readPart_8 ic_1 ?_
    exact ret _ _ _ _ ⟨by rw [bI_t]; simp [rpB, c_5], (congrArg (wTQ G h) (by rw [rpX, if_neg c_5]))⟩ rfl dX4_readPart_9

set_option maxHeartbeats 4000000 in
set_option maxRecDepth 20000 in
theorem c_X4_readPart_3 (l : Launch) (G : GB) (h : Nat → Nat) (q : Q3) (i j : Nat) (m : Int32) (hi : i < 27) (hj : j < 11) (hq : okT q) : CI l yX4_readPart cX4_readPart 5 .boolean 5 107 G [.ref (h 0), .ref (G.2.2.2.2.1 i), .ref (h 7), .int (nI j), .int m] (wTQ G h q) (fun vR w' => vR = bI (rpB q i m = true) ∧ w' = wTQ G h (rpX q i 3 j m)) := by
  refine CI.mk (own := RX4) (by decide) rfl (Nat.le_of_ble_eq_true rfl) ?_
  intro X E ret
  show J X G 5 0 0 (wTQ G h q) [(0, .ref (h 0)), (1, .ref (G.2.2.2.2.1 i)), (2, .ref (h 7)), (3, .int (nI j)), (4, .int m)] 0 []
  refine J_aload_n E dX4_readPart_0 rfl 0 rfl ?_
  refine J_aload_n E dX4_readPart_1 rfl 1 rfl ?_
  refine J_cVi0 E (As := [.ref (G.2.2.2.2.1 i)]) (c_X4_isWord l G h q i hi hq) cl_X4_36 yo_X4_isWord dX4_readPart_2 rfl rfl rfl (Nat.le_of_ble_eq_true rfl) (Nat.le_of_ble_eq_true rfl) rfl (Nat.le_of_ble_eq_true rfl) ⟨Nat.zero_le _, Nat.zero_le _⟩ ?_
  refine J_if_ne E (tgt := 10) dX4_readPart_5 (by decide) (fun c_5 => ?_) (fun c_5 => ?_)
  · skip
    have c_5 := bI_1 c_5
    refine J_aload_n E dX4_readPart_10 rfl 0 rfl ?_
    refine J_cVv0 E (As := []) (c_X4_nextToken l G h q hq.n) cl_X4_19 yo_X4_nextToken dX4_readPart_11 rfl rfl rfl (Nat.le_of_ble_eq_true rfl) (Nat.le_of_ble_eq_true rfl) rfl (Nat.le_of_ble_eq_true rfl) ⟨Nat.zero_le _, Nat.zero_le _⟩ ?_
    refine J_aload_n E dX4_readPart_14 rfl 0 rfl ?_
    refine J_iload E dX4_readPart_15 4 rfl ?_
    refine J_cVi0 E (As := [.int m]) (c_X4_isNumber l G h (nextX q) m ) cl_X4_47 yo_X4_isNumber dX4_readPart_17 rfl rfl rfl (Nat.le_of_ble_eq_true rfl) (Nat.le_of_ble_eq_true rfl) rfl (Nat.le_of_ble_eq_true rfl) ⟨Nat.zero_le _, Nat.zero_le _⟩ ?_
    refine J_if_ne E (tgt := 25) dX4_readPart_20 (by decide) (fun c_20 => ?_) (fun c_20 => ?_)
    · skip
      have c_20 := bI_1 c_20
      refine J_aload_n E dX4_readPart_25 rfl 2 rfl ?_
      refine J_iload_n E dX4_readPart_26 rfl 3 rfl ?_
      refine J_aload_n E dX4_readPart_27 rfl 0 rfl ?_
      refine gTQ0_X4_51 E dX4_readPart_28 ?_
      refine sTQ_7 E (j := j) dX4_readPart_31 (by omega) ?_
      refine J_aload_n E dX4_readPart_32 rfl 0 rfl ?_
      refine J_cVv0 E (As := []) (c_X4_nextToken l G h (up3 (nextX q) 0 3 j ((nextX q) 6 1 3)) (okT_up (okT_next hq.n) _ _ _).n) cl_X4_19 yo_X4_nextToken dX4_readPart_33 rfl rfl rfl (Nat.le_of_ble_eq_true rfl) (Nat.le_of_ble_eq_true rfl) rfl (Nat.le_of_ble_eq_true rfl) ⟨Nat.zero_le _, Nat.zero_le _⟩ ?_
      refine J_iconst E dX4_readPart_36 ic_1 ?_
      exact ret _ _ _ _ ⟨by rw [bI_t]; simp [rpB, c_5, c_20], (congrArg (wTQ G h) (by rw [rpX, if_pos c_5, if_pos c_20]))⟩ rfl dX4_readPart_37
    · skip
      have c_20 := bI_0 c_20
      refine J_iconst E dX4_readPart_23 ic_0 ?_
      exact ret _ _ _ _ ⟨by rw [bI_f]; simp [rpB, c_5, c_20], (congrArg (wTQ G h) (by rw [rpX, if_pos c_5, if_neg c_20]))⟩ rfl dX4_readPart_24
  · skip
    have c_5 := bI_0 c_5
    refine J_iconst E dX4_readPart_8 ic_1 ?_
    exact ret _ _ _ _ ⟨by rw [bI_t]; simp [rpB, c_5], (congrArg (wTQ G h) (by rw [rpX, if_neg c_5]))⟩ rfl dX4_readPart_9

set_option maxHeartbeats 4000000 in
set_option maxRecDepth 20000 in
theorem c_X4_readSpout (l : Launch) (G : GB) (h : Nat → Nat) (q : Q3) (j : Nat) (hj : j < 11) (hq : okT q) : CI l yX4_readSpout cX4_readSpout 3 .boolean 5 107 G [.ref (h 0), .ref (h 3), .int (nI j)] (wTQ G h q) (fun vR w' => vR = 1 ∧ w' = wTQ G h (rsX q j)) := by
  refine CI.mk (own := RX4) (by decide) rfl (Nat.le_of_ble_eq_true rfl) ?_
  intro X E ret
  show J X G 3 0 0 (wTQ G h q) [(0, .ref (h 0)), (1, .ref (h 3)), (2, .int (nI j))] 0 []
  refine J_aload_n E dX4_readSpout_0 rfl 0 rfl ?_
  refine J_ldcS E (q := 11) rfl dX4_readSpout_1 ?_
  refine J_cVi0 E (As := [.ref (G.2.2.2.2.1 11)]) (c_X4_isWord l G h q 11 (by decide) hq) cl_X4_36 yo_X4_isWord dX4_readSpout_3 rfl rfl rfl (Nat.le_of_ble_eq_true rfl) (Nat.le_of_ble_eq_true rfl) rfl (Nat.le_of_ble_eq_true rfl) ⟨Nat.zero_le _, Nat.zero_le _⟩ ?_
  refine J_if_eq E (tgt := 23) dX4_readSpout_6 (by decide) (fun c_6 => ?_) (fun c_6 => ?_)
  · skip
    have c_6 := bI_0 c_6
    refine J_aload_n E dX4_readSpout_23 rfl 0 rfl ?_
    refine J_ldcS E (q := 12) rfl dX4_readSpout_24 ?_
    refine J_cVi0 E (As := [.ref (G.2.2.2.2.1 12)]) (c_X4_isWord l G h q 12 (by decide) hq) cl_X4_36 yo_X4_isWord dX4_readSpout_26 rfl rfl rfl (Nat.le_of_ble_eq_true rfl) (Nat.le_of_ble_eq_true rfl) rfl (Nat.le_of_ble_eq_true rfl) ⟨Nat.zero_le _, Nat.zero_le _⟩ ?_
    refine J_if_eq E (tgt := 43) dX4_readSpout_29 (by decide) (fun c_29 => ?_) (fun c_29 => ?_)
    · skip
      have c_29 := bI_0 c_29
      refine J_iconst E dX4_readSpout_43 ic_1 ?_
      exact ret _ _ _ _ ⟨rfl, (congrArg (wTQ G h) (by first | rw [rsX, if_pos c_6] | rw [rsX, if_neg c_6, if_pos c_29] | rw [rsX, if_neg c_6, if_neg c_29]))⟩ rfl dX4_readSpout_44
    · skip
      have c_29 := bI_1 c_29
      refine J_aload_n E dX4_readSpout_32 rfl 1 rfl ?_
      refine gTQ3_X4_86 E dX4_readSpout_33 ?_
      refine J_iload_n E dX4_readSpout_36 rfl 2 rfl ?_
      refine J_iconst E dX4_readSpout_37 ic_1 ?_
      refine sTQ_8 E (j := j) dX4_readSpout_38 (by omega) ?_
      refine J_aload_n E dX4_readSpout_39 rfl 0 rfl ?_
      refine J_cVv0 E (As := []) (c_X4_nextToken l G h (up3 q 0 4 j 1) (okT_up hq _ _ _).n) cl_X4_19 yo_X4_nextToken dX4_readSpout_40 rfl rfl rfl (Nat.le_of_ble_eq_true rfl) (Nat.le_of_ble_eq_true rfl) rfl (Nat.le_of_ble_eq_true rfl) ⟨Nat.zero_le _, Nat.zero_le _⟩ ?_
      refine J_iconst E dX4_readSpout_43 ic_1 ?_
      exact ret _ _ _ _ ⟨rfl, (congrArg (wTQ G h) (by first | rw [rsX, if_pos c_6] | rw [rsX, if_neg c_6, if_pos c_29] | rw [rsX, if_neg c_6, if_neg c_29]))⟩ rfl dX4_readSpout_44
  · skip
    have c_6 := bI_1 c_6
    refine J_aload_n E dX4_readSpout_9 rfl 1 rfl ?_
    refine gTQ3_X4_86 E dX4_readSpout_10 ?_
    refine J_iload_n E dX4_readSpout_13 rfl 2 rfl ?_
    refine J_iconst E dX4_readSpout_14 ic_0 ?_
    refine sTQ_8 E (j := j) dX4_readSpout_15 (by omega) ?_
    refine J_aload_n E dX4_readSpout_16 rfl 0 rfl ?_
    refine J_cVv0 E (As := []) (c_X4_nextToken l G h (up3 q 0 4 j 0) (okT_up hq _ _ _).n) cl_X4_19 yo_X4_nextToken dX4_readSpout_17 rfl rfl rfl (Nat.le_of_ble_eq_true rfl) (Nat.le_of_ble_eq_true rfl) rfl (Nat.le_of_ble_eq_true rfl) ⟨Nat.zero_le _, Nat.zero_le _⟩ ?_
    refine J_goto E (tgt := 43) dX4_readSpout_20 (by decide) ?_
    refine J_iconst E dX4_readSpout_43 ic_1 ?_
    exact ret _ _ _ _ ⟨rfl, (congrArg (wTQ G h) (by first | rw [rsX, if_pos c_6] | rw [rsX, if_neg c_6, if_pos c_29] | rw [rsX, if_neg c_6, if_neg c_29]))⟩ rfl dX4_readSpout_44

set_option maxHeartbeats 4000000 in
set_option maxRecDepth 20000 in
theorem c_X4_readItem (l : Launch) (G : GB) (h : Nat → Nat) (q : Q3) (hq : okT q)  : CI l yX4_readItem cX4_readItem 4 .boolean 6 131 G [.ref (h 0), .ref (h 3)] (wTQ G h q) (fun vR w' => vR = bI (riB q = true) ∧ w' = wTQ G h (riX q)) := by
  refine CI.mk (own := RX4) (by decide) rfl (Nat.le_of_ble_eq_true rfl) ?_
  intro X E ret
  show J X G 4 0 0 (wTQ G h q) [(0, .ref (h 0)), (1, .ref (h 3))] 0 []
  refine J_aload_n E dX4_readItem_0 rfl 0 rfl ?_
  refine J_ldcS E (q := 0) rfl dX4_readItem_1 ?_
  refine J_cVi0 E (As := [.ref (G.2.2.2.2.1 0)]) (c_X4_isWord l G h q 0 (by decide) hq) cl_X4_36 yo_X4_isWord dX4_readItem_3 rfl rfl rfl (Nat.le_of_ble_eq_true rfl) (Nat.le_of_ble_eq_true rfl) rfl (Nat.le_of_ble_eq_true rfl) ⟨Nat.zero_le _, Nat.zero_le _⟩ ?_
  refine J_if_eq E (tgt := 15) dX4_readItem_6 (by decide) (fun c_6 => ?_) (fun c_6 => ?_)
  · skip
    have c_6 := bI_0 c_6
    refine J_aload_n E dX4_readItem_15 rfl 0 rfl ?_
    refine J_cVi0 E (As := []) (c_X4_kindOfWord l G h q hq) cl_X4_43 yo_X4_kindOfWord dX4_readItem_16 rfl rfl rfl (Nat.le_of_ble_eq_true rfl) (Nat.le_of_ble_eq_true rfl) rfl (Nat.le_of_ble_eq_true rfl) ⟨Nat.zero_le _, Nat.zero_le _⟩ ?_
    refine J_istore_n E (lv' := [(2, .int (kwF q)), (0, .ref (h 0)), (1, .ref (h 3))]) dX4_readItem_19 rfl (by decide) rfl ?_
    refine J_iload_n E dX4_readItem_20 rfl 0 rfl ?_
    refine J_if_ge E (tgt := 26) dX4_readItem_21 (by decide) (fun c_21 => ?_) (fun c_21 => ?_)
    · skip
      refine J_aload_n E dX4_readItem_26 rfl 1 rfl ?_
      refine J_cVv0 E (As := []) (c_X4_nextToken l G h q hq.n) cl_X4_19 yo_X4_nextToken dX4_readItem_27 rfl rfl rfl (Nat.le_of_ble_eq_true rfl) (Nat.le_of_ble_eq_true rfl) rfl (Nat.le_of_ble_eq_true rfl) ⟨Nat.zero_le _, Nat.zero_le _⟩ ?_
      refine J_aload_n E dX4_readItem_30 rfl 1 rfl ?_
      refine J_bipush E dX4_readItem_31 bp_10 ?_
      refine J_cVi0 E (As := [.int 10]) (c_X4_isNumber l G h (nextX q) 10 ) cl_X4_47 yo_X4_isNumber dX4_readItem_33 rfl rfl rfl (Nat.le_of_ble_eq_true rfl) (Nat.le_of_ble_eq_true rfl) rfl (Nat.le_of_ble_eq_true rfl) ⟨Nat.zero_le _, Nat.zero_le _⟩ ?_
      refine J_if_ne E (tgt := 41) dX4_readItem_36 (by decide) (fun c_36 => ?_) (fun c_36 => ?_)
      · skip
        have c_36 := bI_1 c_36
        refine J_aload_n E dX4_readItem_41 rfl 1 rfl ?_
        refine gTQ0_X4_51 E dX4_readItem_42 ?_
        obtain ⟨j, hj, hjv, hjn⟩ := isN_num (m := 10) (by decide) hq.n c_36
        refine J_top (x' := nI j) (hjv) ?_
        refine J_istore_n E (lv' := [(3, .int (nI j)), (2, .int (kwF q)), (0, .ref (h 0)), (1, .ref (h 3))]) dX4_readItem_45 rfl (by decide) rfl ?_
        refine J_aload_n E dX4_readItem_46 rfl 3 rfl ?_
        refine gTQ3_X4_54 E dX4_readItem_47 ?_
        refine J_iload_n E dX4_readItem_50 rfl 0 rfl ?_
        refine J_iload_n E dX4_readItem_51 rfl 1 rfl ?_
        refine sTQ_4 E (j := j) dX4_readItem_52 (by omega) ?_
        refine J_aload_n E dX4_readItem_53 rfl 2 rfl ?_
        refine J_cVv0 E (As := []) (c_X4_nextToken l G h (up3 (nextX q) 0 0 j (kwF q)) (okT_up (okT_next hq.n) _ _ _).n) cl_X4_19 yo_X4_nextToken dX4_readItem_54 rfl rfl rfl (Nat.le_of_ble_eq_true rfl) (Nat.le_of_ble_eq_true rfl) rfl (Nat.le_of_ble_eq_true rfl) ⟨Nat.zero_le _, Nat.zero_le _⟩ ?_
        refine J_w (ws' := wTQ G h (riA q j)) (congrArg (wTQ G h) (rfl)) ?_
        refine J_aload_n E dX4_readItem_57 rfl 2 rfl ?_
        refine J_ldcS E (q := 8) rfl dX4_readItem_58 ?_
        refine J_aload_n E dX4_readItem_60 rfl 3 rfl ?_
        refine gTQ3_X4_62 E dX4_readItem_61 ?_
        refine J_iload_n E dX4_readItem_64 rfl 0 rfl ?_
        refine J_sipush E dX4_readItem_65 sp_9999 ?_
        refine J_cVi0 E (As := [.ref (G.2.2.2.2.1 8), .ref (h 5), .int (nI j), .int 9999]) (c_X4_readPart_1 l G h (riA q j) 8 j 9999 (by decide) (by omega) (show okT (riA q j) from (okT_next (okT_up (okT_next hq.n) _ _ _).n))) cl_X4_65 yo_X4_readPart dX4_readItem_68 rfl rfl rfl (Nat.le_of_ble_eq_true rfl) (Nat.le_of_ble_eq_true rfl) rfl (Nat.le_of_ble_eq_true rfl) ⟨Nat.zero_le _, Nat.zero_le _⟩ ?_
        refine J_if_eq E (tgt := 120) dX4_readItem_71 (by decide) (fun c_71 => ?_) (fun c_71 => ?_)
        · skip
          have c_71 := bI_0 c_71
          refine J_iconst E dX4_readItem_120 ic_0 ?_
          exact ret _ _ _ _ ⟨by first | (rw [bI_f]; rw [riB, if_neg c_6, if_neg c_21, if_pos c_36, hjn]; simp only [ripB]; first | simp [c_71]; done | simp [c_71, c_87]; done | simp [c_71, c_87, c_104]; done) | (rw [bI_t]; rw [riB, if_neg c_6, if_neg c_21, if_pos c_36, hjn]; simp only [ripB]; simp [c_71, c_87, c_104]), (congrArg (wTQ G h) (by first | rw [riX, if_neg c_6, if_neg c_21, if_pos c_36, hjn, ripX, if_neg c_71] | rw [riX, if_neg c_6, if_neg c_21, if_pos c_36, hjn, ripX, if_pos c_71, if_neg c_87] | rw [riX, if_neg c_6, if_neg c_21, if_pos c_36, hjn, ripX, if_pos c_71, if_pos c_87, if_neg c_104] | rw [riX, if_neg c_6, if_neg c_21, if_pos c_36, hjn, ripX, if_pos c_71, if_pos c_87, if_pos c_104]))⟩ rfl dX4_readItem_121
        · skip
          have c_71 := bI_1 c_71
          refine J_aload_n E dX4_readItem_74 rfl 2 rfl ?_
          refine J_ldcS E (q := 9) rfl dX4_readItem_75 ?_
          refine J_aload_n E dX4_readItem_77 rfl 3 rfl ?_
          refine gTQ3_X4_71 E dX4_readItem_78 ?_
          refine J_iload_n E dX4_readItem_81 rfl 0 rfl ?_
          refine J_bipush E dX4_readItem_82 bp_99 ?_
          refine J_cVi0 E (As := [.ref (G.2.2.2.2.1 9), .ref (h 6), .int (nI j), .int 99]) (c_X4_readPart_2 l G h (rpX (riA q j) 8 1 j 9999) 9 j 99 (by decide) (by omega) (okT_rp (show okT (riA q j) from (okT_next (okT_up (okT_next hq.n) _ _ _).n)) _ _ _ _)) cl_X4_65 yo_X4_readPart dX4_readItem_84 rfl rfl rfl (Nat.le_of_ble_eq_true rfl) (Nat.le_of_ble_eq_true rfl) rfl (Nat.le_of_ble_eq_true rfl) ⟨Nat.zero_le _, Nat.zero_le _⟩ ?_
          refine J_if_eq E (tgt := 120) dX4_readItem_87 (by decide) (fun c_87 => ?_) (fun c_87 => ?_)
          · skip
            have c_87 := bI_0 c_87
            refine J_iconst E dX4_readItem_120 ic_0 ?_
            exact ret _ _ _ _ ⟨by first | (rw [bI_f]; rw [riB, if_neg c_6, if_neg c_21, if_pos c_36, hjn]; simp only [ripB]; first | simp [c_71]; done | simp [c_71, c_87]; done | simp [c_71, c_87, c_104]; done) | (rw [bI_t]; rw [riB, if_neg c_6, if_neg c_21, if_pos c_36, hjn]; simp only [ripB]; simp [c_71, c_87, c_104]), (congrArg (wTQ G h) (by first | rw [riX, if_neg c_6, if_neg c_21, if_pos c_36, hjn, ripX, if_neg c_71] | rw [riX, if_neg c_6, if_neg c_21, if_pos c_36, hjn, ripX, if_pos c_71, if_neg c_87] | rw [riX, if_neg c_6, if_neg c_21, if_pos c_36, hjn, ripX, if_pos c_71, if_pos c_87, if_neg c_104] | rw [riX, if_neg c_6, if_neg c_21, if_pos c_36, hjn, ripX, if_pos c_71, if_pos c_87, if_pos c_104]))⟩ rfl dX4_readItem_121
          · skip
            have c_87 := bI_1 c_87
            refine J_aload_n E dX4_readItem_90 rfl 2 rfl ?_
            refine J_ldcS E (q := 10) rfl dX4_readItem_91 ?_
            refine J_aload_n E dX4_readItem_93 rfl 3 rfl ?_
            refine gTQ3_X4_76 E dX4_readItem_94 ?_
            refine J_iload_n E dX4_readItem_97 rfl 0 rfl ?_
            refine J_sipush E dX4_readItem_98 sp_999 ?_
            refine J_cVi0 E (As := [.ref (G.2.2.2.2.1 10), .ref (h 7), .int (nI j), .int 999]) (c_X4_readPart_3 l G h (rpX (rpX (riA q j) 8 1 j 9999) 9 2 j 99) 10 j 999 (by decide) (by omega) (okT_rp (okT_rp (show okT (riA q j) from (okT_next (okT_up (okT_next hq.n) _ _ _).n)) _ _ _ _) _ _ _ _)) cl_X4_65 yo_X4_readPart dX4_readItem_101 rfl rfl rfl (Nat.le_of_ble_eq_true rfl) (Nat.le_of_ble_eq_true rfl) rfl (Nat.le_of_ble_eq_true rfl) ⟨Nat.zero_le _, Nat.zero_le _⟩ ?_
            refine J_if_eq E (tgt := 120) dX4_readItem_104 (by decide) (fun c_104 => ?_) (fun c_104 => ?_)
            · skip
              have c_104 := bI_0 c_104
              refine J_iconst E dX4_readItem_120 ic_0 ?_
              exact ret _ _ _ _ ⟨by first | (rw [bI_f]; rw [riB, if_neg c_6, if_neg c_21, if_pos c_36, hjn]; simp only [ripB]; first | simp [c_71]; done | simp [c_71, c_87]; done | simp [c_71, c_87, c_104]; done) | (rw [bI_t]; rw [riB, if_neg c_6, if_neg c_21, if_pos c_36, hjn]; simp only [ripB]; simp [c_71, c_87, c_104]), (congrArg (wTQ G h) (by first | rw [riX, if_neg c_6, if_neg c_21, if_pos c_36, hjn, ripX, if_neg c_71] | rw [riX, if_neg c_6, if_neg c_21, if_pos c_36, hjn, ripX, if_pos c_71, if_neg c_87] | rw [riX, if_neg c_6, if_neg c_21, if_pos c_36, hjn, ripX, if_pos c_71, if_pos c_87, if_neg c_104] | rw [riX, if_neg c_6, if_neg c_21, if_pos c_36, hjn, ripX, if_pos c_71, if_pos c_87, if_pos c_104]))⟩ rfl dX4_readItem_121
            · skip
              have c_104 := bI_1 c_104
              refine J_aload_n E dX4_readItem_107 rfl 2 rfl ?_
              refine J_aload_n E dX4_readItem_108 rfl 3 rfl ?_
              refine J_iload_n E dX4_readItem_109 rfl 0 rfl ?_
              refine J_cVi0 E (As := [.ref (h 3), .int (nI j)]) (c_X4_readSpout l G h (rpX (rpX (rpX (riA q j) 8 1 j 9999) 9 2 j 99) 10 3 j 999) j (by omega) (okT_rp (okT_rp (okT_rp (show okT (riA q j) from (okT_next (okT_up (okT_next hq.n) _ _ _).n)) _ _ _ _) _ _ _ _) _ _ _ _)) cl_X4_78 yo_X4_readSpout dX4_readItem_110 rfl rfl rfl (Nat.le_of_ble_eq_true rfl) (Nat.le_of_ble_eq_true rfl) rfl (Nat.le_of_ble_eq_true rfl) ⟨Nat.zero_le _, Nat.zero_le _⟩ ?_
              refine J_if_eq E (tgt := 120) dX4_readItem_113 (by decide) (fun c_113 => ?_) (fun c_113 => ?_)
              · skip
                have n_113 : 1 = 0 := cmp_eq (a := 1) (b := 0) (by omega) (by omega) c_113
                exact absurd n_113 (by decide)
              · skip
                have n_113 : ¬ 1 = 0 := cmp_ne (a := 1) (b := 0) (by omega) (by omega) c_113
                refine J_iconst E dX4_readItem_116 ic_1 ?_
                refine J_goto E (tgt := 121) dX4_readItem_117 (by decide) ?_
                exact ret _ _ _ _ ⟨by first | (rw [bI_f]; rw [riB, if_neg c_6, if_neg c_21, if_pos c_36, hjn]; simp only [ripB]; first | simp [c_71]; done | simp [c_71, c_87]; done | simp [c_71, c_87, c_104]; done) | (rw [bI_t]; rw [riB, if_neg c_6, if_neg c_21, if_pos c_36, hjn]; simp only [ripB]; simp [c_71, c_87, c_104]), (congrArg (wTQ G h) (by first | rw [riX, if_neg c_6, if_neg c_21, if_pos c_36, hjn, ripX, if_neg c_71] | rw [riX, if_neg c_6, if_neg c_21, if_pos c_36, hjn, ripX, if_pos c_71, if_neg c_87] | rw [riX, if_neg c_6, if_neg c_21, if_pos c_36, hjn, ripX, if_pos c_71, if_pos c_87, if_neg c_104] | rw [riX, if_neg c_6, if_neg c_21, if_pos c_36, hjn, ripX, if_pos c_71, if_pos c_87, if_pos c_104]))⟩ rfl dX4_readItem_121
      · skip
        have c_36 := bI_0 c_36
        refine J_iconst E dX4_readItem_39 ic_0 ?_
        exact ret _ _ _ _ ⟨by rw [bI_f]; rw [riB, if_neg c_6, if_neg c_21, if_neg c_36]; decide, (congrArg (wTQ G h) (by rw [riX, if_neg c_6, if_neg c_21, if_neg c_36]))⟩ rfl dX4_readItem_40
    · skip
      refine J_iconst E dX4_readItem_24 ic_0 ?_
      exact ret _ _ _ _ ⟨by rw [bI_f]; rw [riB, if_neg c_6, if_pos c_21]; decide, (congrArg (wTQ G h) (by rw [riX, if_neg c_6, if_pos c_21]))⟩ rfl dX4_readItem_25
  · skip
    have c_6 := bI_1 c_6
    refine J_aload_n E dX4_readItem_9 rfl 0 rfl ?_
    refine J_aload_n E dX4_readItem_10 rfl 1 rfl ?_
    refine J_cVi0 E (As := [.ref (h 3)]) (c_X4_readRain l G h q hq) cl_X4_40 yo_X4_readRain dX4_readItem_11 rfl rfl rfl (Nat.le_of_ble_eq_true rfl) (Nat.le_of_ble_eq_true rfl) rfl (Nat.le_of_ble_eq_true rfl) ⟨Nat.zero_le _, Nat.zero_le _⟩ ?_
    exact ret _ _ _ _ ⟨by rw [riB, if_pos c_6], (congrArg (wTQ G h) (by rw [riX, if_pos c_6]))⟩ bI_nar dX4_readItem_14

set_option maxHeartbeats 4000000 in
set_option maxRecDepth 20000 in
theorem c_X4_readInto (l : Launch) (G : GB) (h : Nat → Nat) (q : Q3) (n : Nat) (hn : q 7 1 0 = nI n) (hn2 : n ≤ 120)  : CI l yX4_readInto cX4_readInto 4 .int 7 154 G [.ref (h 0), .ref (h 3)] (wTQ G h q) (fun vR w' => vR = tlR (tl0 q) ∧ w' = wTQ G h ((tl0 q).2.1)) := by
  refine CI.mk (own := RX4) (by decide) rfl (Nat.le_of_ble_eq_true rfl) ?_
  intro X E ret
  show J X G 4 0 0 (wTQ G h q) [(0, .ref (h 0)), (1, .ref (h 3))] 0 []
  refine J_aload_n E dX4_readInto_0 rfl 0 rfl ?_
  refine J_iconst E dX4_readInto_1 ic_0 ?_
  refine pTQ0_X4_15 E dX4_readInto_2 ?_
  refine J_aload_n E dX4_readInto_5 rfl 0 rfl ?_
  refine J_cVv0 E (As := []) (c_X4_nextToken l G h (up3 q 6 1 1 0) ⟨n, 0, hn, hn2, rfl, Nat.zero_le _⟩) cl_X4_19 yo_X4_nextToken dX4_readInto_6 rfl rfl rfl (Nat.le_of_ble_eq_true rfl) (Nat.le_of_ble_eq_true rfl) rfl (Nat.le_of_ble_eq_true rfl) ⟨Nat.zero_le _, Nat.zero_le _⟩ ?_
  refine J_aload_n E dX4_readInto_9 rfl 0 rfl ?_
  refine J_aload_n E dX4_readInto_10 rfl 1 rfl ?_
  refine J_cVi0 E (As := [.ref (h 3)]) (c_X4_readItem l G h (nextX (up3 q 6 1 1 0)) (okT_next (show okN (up3 q 6 1 1 0) from ⟨n, 0, hn, hn2, rfl, Nat.zero_le _⟩))) cl_X4_22 yo_X4_readItem dX4_readInto_11 rfl rfl rfl (Nat.le_of_ble_eq_true rfl) (Nat.le_of_ble_eq_true rfl) rfl (Nat.le_of_ble_eq_true rfl) ⟨Nat.zero_le _, Nat.zero_le _⟩ ?_
  refine J_istore_n E (lv' := [(2, .int (bI (riB (nextX (up3 q 6 1 1 0)) = true))), (0, .ref (h 0)), (1, .ref (h 3))]) dX4_readInto_14 rfl (by decide) rfl ?_
  refine J_iconst E dX4_readInto_15 ic_1 ?_
  refine J_istore_n E (lv' := [(3, .int 1), (2, .int (bI (riB (nextX (up3 q 6 1 1 0)) = true))), (0, .ref (h 0)), (1, .ref (h 3))]) dX4_readInto_16 rfl (by decide) rfl ?_
  have lp17 : ∀ (fu : Nat) (b : Bool) (i : Nat) (S : Q3), (i ≤ 120) → (1 ≤ i) → (okT S) → (tl0 q = tlF (120 - i) b S i) → 120 - i < fu → J X G 4 0 0 (wTQ G h S) [(0, .ref (h 0)), (1, .ref (h 3)), (2, .int (bI (riB (nextX (up3 q 6 1 1 0)) = true))), (3, .int (nI i))] 17 [] := by
    intro fu
    induction fu with
    | zero => intro b i S hi h0 hS h1 hm; exact absurd hm (Nat.not_lt_zero _)
    | succ fu ih17 =>
      intro b i S hi h0 hS h1 hm
      refine J_iload_n E dX4_readInto_17 rfl 2 rfl ?_
      refine J_if_eq E (tgt := 51) dX4_readInto_18 (by decide) (fun c_18 => ?_) (fun c_18 => ?_)
      · skip
        have c_18 := bI_0 c_18
        have h2 : tl0 q = (b, S, i) := by rw [h1]; exact tlF_end (fun z => c_18 z.1)
        refine J_iload_n E dX4_readInto_51 rfl 2 rfl ?_
        refine J_if_eq E (tgt := 66) dX4_readInto_52 (by decide) (fun c_52 => ?_) (fun c_52 => ?_)
        · skip
          have c_52 := bI_0 c_52
          refine J_iconst E dX4_readInto_66 ic_m1 ?_
          refine J_aload_n E dX4_readInto_67 rfl 0 rfl ?_
          refine gTQ0_X4_31 E dX4_readInto_68 ?_
          refine J_isub E dX4_readInto_71 ?_
          exact ret _ _ _ _ ⟨by rw [h2, tlR]; first | rw [if_pos ⟨c_52, c_59⟩] | rw [if_neg (fun z => c_52 z.1)] | rw [if_neg (fun z => c_59 z.2)], (congrArg (wTQ G h) (by rw [h2]))⟩ rfl dX4_readInto_72
        · skip
          have c_52 := bI_1 c_52
          refine J_aload_n E dX4_readInto_55 rfl 0 rfl ?_
          refine gTQ0_X4_26 E dX4_readInto_56 ?_
          refine J_if_ne E (tgt := 66) dX4_readInto_59 (by decide) (fun c_59 => ?_) (fun c_59 => ?_)
          · skip
            refine J_iconst E dX4_readInto_66 ic_m1 ?_
            refine J_aload_n E dX4_readInto_67 rfl 0 rfl ?_
            refine gTQ0_X4_31 E dX4_readInto_68 ?_
            refine J_isub E dX4_readInto_71 ?_
            exact ret _ _ _ _ ⟨by rw [h2, tlR]; first | rw [if_pos ⟨c_52, c_59⟩] | rw [if_neg (fun z => c_52 z.1)] | rw [if_neg (fun z => c_59 z.2)], (congrArg (wTQ G h) (by rw [h2]))⟩ rfl dX4_readInto_72
          · skip
            refine J_iload_n E dX4_readInto_62 rfl 3 rfl ?_
            refine J_goto E (tgt := 72) dX4_readInto_63 (by decide) ?_
            exact ret _ _ _ _ ⟨by rw [h2, tlR]; first | rw [if_pos ⟨c_52, c_59⟩] | rw [if_neg (fun z => c_52 z.1)] | rw [if_neg (fun z => c_59 z.2)], (congrArg (wTQ G h) (by rw [h2]))⟩ rfl dX4_readInto_72
      · skip
        have c_18 := bI_1 c_18
        refine J_aload_n E dX4_readInto_21 rfl 0 rfl ?_
        refine gTQ0_X4_26 E dX4_readInto_22 ?_
        refine J_iconst E dX4_readInto_25 ic_3 ?_
        refine J_icmp_ne E (tgt := 51) dX4_readInto_26 (by decide) (fun c_26 => ?_) (fun c_26 => ?_)
        · skip
          have h2 : tl0 q = (b, S, i) := by rw [h1]; exact tlF_end (fun z => c_26 z.2)
          refine J_iload_n E dX4_readInto_51 rfl 2 rfl ?_
          refine J_if_eq E (tgt := 66) dX4_readInto_52 (by decide) (fun c_52 => ?_) (fun c_52 => ?_)
          · skip
            have c_52 := bI_0 c_52
            refine J_iconst E dX4_readInto_66 ic_m1 ?_
            refine J_aload_n E dX4_readInto_67 rfl 0 rfl ?_
            refine gTQ0_X4_31 E dX4_readInto_68 ?_
            refine J_isub E dX4_readInto_71 ?_
            exact ret _ _ _ _ ⟨by rw [h2, tlR]; first | rw [if_pos ⟨c_52, c_59⟩] | rw [if_neg (fun z => c_52 z.1)] | rw [if_neg (fun z => c_59 z.2)], (congrArg (wTQ G h) (by rw [h2]))⟩ rfl dX4_readInto_72
          · skip
            have c_52 := bI_1 c_52
            refine J_aload_n E dX4_readInto_55 rfl 0 rfl ?_
            refine gTQ0_X4_26 E dX4_readInto_56 ?_
            refine J_if_ne E (tgt := 66) dX4_readInto_59 (by decide) (fun c_59 => ?_) (fun c_59 => ?_)
            · skip
              refine J_iconst E dX4_readInto_66 ic_m1 ?_
              refine J_aload_n E dX4_readInto_67 rfl 0 rfl ?_
              refine gTQ0_X4_31 E dX4_readInto_68 ?_
              refine J_isub E dX4_readInto_71 ?_
              exact ret _ _ _ _ ⟨by rw [h2, tlR]; first | rw [if_pos ⟨c_52, c_59⟩] | rw [if_neg (fun z => c_52 z.1)] | rw [if_neg (fun z => c_59 z.2)], (congrArg (wTQ G h) (by rw [h2]))⟩ rfl dX4_readInto_72
            · skip
              refine J_iload_n E dX4_readInto_62 rfl 3 rfl ?_
              refine J_goto E (tgt := 72) dX4_readInto_63 (by decide) ?_
              exact ret _ _ _ _ ⟨by rw [h2, tlR]; first | rw [if_pos ⟨c_52, c_59⟩] | rw [if_neg (fun z => c_52 z.1)] | rw [if_neg (fun z => c_59 z.2)], (congrArg (wTQ G h) (by rw [h2]))⟩ rfl dX4_readInto_72
        · skip
          refine J_iload_n E dX4_readInto_29 rfl 3 rfl ?_
          refine J_bipush E dX4_readInto_30 bp_120 ?_
          refine J_icmp_ge E (tgt := 51) dX4_readInto_32 (by decide) (fun c_32 => ?_) (fun c_32 => ?_)
          · skip
            have n_32 : 120 ≤ i := cmp_le (a := 120) (b := i) (by omega) (by omega) c_32
            have h2 : tl0 q = (b, S, i) := by rw [h1, show 120 - i = 0 by omega]; rfl
            refine J_iload_n E dX4_readInto_51 rfl 2 rfl ?_
            refine J_if_eq E (tgt := 66) dX4_readInto_52 (by decide) (fun c_52 => ?_) (fun c_52 => ?_)
            · skip
              have c_52 := bI_0 c_52
              refine J_iconst E dX4_readInto_66 ic_m1 ?_
              refine J_aload_n E dX4_readInto_67 rfl 0 rfl ?_
              refine gTQ0_X4_31 E dX4_readInto_68 ?_
              refine J_isub E dX4_readInto_71 ?_
              exact ret _ _ _ _ ⟨by rw [h2, tlR]; first | rw [if_pos ⟨c_52, c_59⟩] | rw [if_neg (fun z => c_52 z.1)] | rw [if_neg (fun z => c_59 z.2)], (congrArg (wTQ G h) (by rw [h2]))⟩ rfl dX4_readInto_72
            · skip
              have c_52 := bI_1 c_52
              refine J_aload_n E dX4_readInto_55 rfl 0 rfl ?_
              refine gTQ0_X4_26 E dX4_readInto_56 ?_
              refine J_if_ne E (tgt := 66) dX4_readInto_59 (by decide) (fun c_59 => ?_) (fun c_59 => ?_)
              · skip
                refine J_iconst E dX4_readInto_66 ic_m1 ?_
                refine J_aload_n E dX4_readInto_67 rfl 0 rfl ?_
                refine gTQ0_X4_31 E dX4_readInto_68 ?_
                refine J_isub E dX4_readInto_71 ?_
                exact ret _ _ _ _ ⟨by rw [h2, tlR]; first | rw [if_pos ⟨c_52, c_59⟩] | rw [if_neg (fun z => c_52 z.1)] | rw [if_neg (fun z => c_59 z.2)], (congrArg (wTQ G h) (by rw [h2]))⟩ rfl dX4_readInto_72
              · skip
                refine J_iload_n E dX4_readInto_62 rfl 3 rfl ?_
                refine J_goto E (tgt := 72) dX4_readInto_63 (by decide) ?_
                exact ret _ _ _ _ ⟨by rw [h2, tlR]; first | rw [if_pos ⟨c_52, c_59⟩] | rw [if_neg (fun z => c_52 z.1)] | rw [if_neg (fun z => c_59 z.2)], (congrArg (wTQ G h) (by rw [h2]))⟩ rfl dX4_readInto_72
          · skip
            have n_32 : ¬ 120 ≤ i := cmp_nle (a := 120) (b := i) (by omega) (by omega) c_32
            refine J_aload_n E dX4_readInto_35 rfl 0 rfl ?_
            refine J_cVv0 E (As := []) (c_X4_nextToken l G h S hS.n) cl_X4_19 yo_X4_nextToken dX4_readInto_36 rfl rfl rfl (Nat.le_of_ble_eq_true rfl) (Nat.le_of_ble_eq_true rfl) rfl (Nat.le_of_ble_eq_true rfl) ⟨Nat.zero_le _, Nat.zero_le _⟩ ?_
            refine J_aload_n E dX4_readInto_39 rfl 0 rfl ?_
            refine J_aload_n E dX4_readInto_40 rfl 1 rfl ?_
            refine J_cVi0 E (As := [.ref (h 3)]) (c_X4_readItem l G h (nextX S) (okT_next hS.n)) cl_X4_22 yo_X4_readItem dX4_readInto_41 rfl rfl rfl (Nat.le_of_ble_eq_true rfl) (Nat.le_of_ble_eq_true rfl) rfl (Nat.le_of_ble_eq_true rfl) ⟨Nat.zero_le _, Nat.zero_le _⟩ ?_
            refine J_istore_n E (lv' := [(2, .int (bI (riB (nextX S) = true))), (0, .ref (h 0)), (1, .ref (h 3)), (3, .int (nI i))]) dX4_readInto_44 rfl (by decide) rfl ?_
            refine J_iinc E (lv' := [(3, .int (nI (i + 1))), (2, .int (bI (riB (nextX S) = true))), (0, .ref (h 0)), (1, .ref (h 3))]) dX4_readInto_45 3 rfl (nI_inc _) (by decide) rfl ?_
            refine J_goto E (tgt := 17) dX4_readInto_48 (by decide) ?_
            refine J_lv [2, 3, 1, 0] rfl ?_
            exact ih17 (riB (nextX S)) (i + 1) (riX (nextX S)) (by omega) (by omega) (okT_ri (okT_next hS.n)) (by rw [h1, show 120 - i = (120 - (i + 1)) + 1 by omega, tlF, if_pos ⟨c_18, c_26⟩]) (by omega)
  refine J_lv [2, 3, 1, 0] rfl ?_
  exact lp17 _ (riB (nextX (up3 q 6 1 1 0))) 1 (riX (nextX (up3 q 6 1 1 0))) (by decide) (by decide) (okT_ri (okT_next (show okN (up3 q 6 1 1 0) from ⟨n, 0, hn, hn2, rfl, Nat.zero_le _⟩))) rfl (Nat.lt_succ_self _)

def hTQ (a : Nat → Nat) : Nat → Nat := fun k => if k = 0 then a 29 else if k = 1 then a 27 else if k = 2 then a 28 else a (14 + k)
def tqX (x : Q3) : Q3 := fun g => if g = 0 then x 2 else x g
/-- the object behind a text */ -/
def txX (x q : Q3) : Q3 := fun g => if g = 2 then q 0 else if g = 6 then (fun r => if r = 1 then q 6 1 else x 6 r) else x g
section PT
variable (c A B T F P r s R : va_W)
theorem perm_tq : (c ++ (A ++ (B ++ (T ++ (F ++ (P ++ ((r ++ s) ++ R))))))).Perm ([] ++ ((r ++ (P ++ T)) ++ (c ++ (A ++ (B ++ (F ++ (s ++ R))))))) := by
  classical
  rw [List.perm_iff_count]
  intro z
  simp only [List.count_append, List.count_nil]
  omega
end PT
theorem tq_seg {G : GB} {a : Nat → Nat} {x : Q3} : wTQ G (hTQ a) (tqX x) = [(a 29, .inr (3, [.ref (a 27), .int (x 6 1 0), .int (x 6 1 1), .int (x 6 1 2), .int (x 6 1 3)]))] ++ (wT G (sh a 27) (x 7) ++ wQ G (sh a 17) (x 2)) := rfl

set_option maxHeartbeats 4000000 in
theorem J_tx {X : JX} {l : Launch} {G : GB} {cc : ByteArray} {nL fr lo kc ks pc : Nat} {lv : List (Nat × Value)} {rest : List Value} (E : JE X l G cc RX5 nL fr lo) {a : Nat → Nat} {x : Q3} {n : Nat} (hn : x 7 1 0 = nI n) (hn2 : n ≤ 120) (hd : decode cc pc = .ok (.invokevirtual 189, 3)) (hR1 : 8 ≤ fr) (hR2 : 177 ≤ lo) (hrm : (rest.map fun v => v.category).sum ≤ 8) (hk : kc ≤ X.1.2.2.2.1.cells ∧ ks ≤ X.1.2.2.2.1.slots) (K : J X G nL kc ks (wC G a (txX x (tl0 (tqX x)).2.1)) lv (pc + 3) (.int (tlR (tl0 (tqX x))) :: rest)) : J X G nL kc ks (wC G a x) lv pc (.ref (a 17) :: .ref (a 29) :: rest) := by
  refine J_perm (ws' := [] ++ (wTQ G (hTQ a) (tqX x) ++ ([(a 0, .inr (4, [.ref (a 1), .ref (a 9), .ref (a 17), .ref (a 25), .ref (a 27), .ref (a 29), .ref (a 30), .ref (a 26), .int (x 3 1 0)]))] ++ (wQ G (sh a 1) (x 0) ++ (wQ G (sh a 9) (x 1) ++ ([(a 25, .inl (G.2.1, 11, .inl (x 6 0))), (a 26, .inl (G.2.1, 7, .inl (x 3 0)))] ++ ([(a 30, .inl (G.2.2.1, 4, .inr (.inr (.inr (.inr (shR a))))))] ++ (wS G (sh a 31) (x 8) ++ (wS G (sh a 33) (x 9) ++ (wS G (sh a 35) (x 10) ++ wS G (sh a 37) (x 11))))))))))) (perm_tq _ _ _ _ _ _ _ _ _) ?_
  refine J_cVi1 E (As := [.ref (a 17)]) [] ([(a 0, .inr (4, [.ref (a 1), .ref (a 9), .ref (a 17), .ref (a 25), .ref (a 27), .ref (a 29), .ref (a 30), .ref (a 26), .int (x 3 1 0)]))] ++ (wQ G (sh a 1) (x 0) ++ (wQ G (sh a 9) (x 1) ++ ([(a 25, .inl (G.2.1, 11, .inl (x 6 0))), (a 26, .inl (G.2.1, 7, .inl (x 3 0)))] ++ ([(a 30, .inl (G.2.2.1, 4, .inr (.inr (.inr (.inr (shR a))))))] ++ (wS G (sh a 31) (x 8) ++ (wS G (sh a 33) (x 9) ++ (wS G (sh a 35) (x 10) ++ wS G (sh a 37) (x 11))))))))) (c_X4_readInto l G (hTQ a) (tqX x) n hn hn2) cl_X5_189 yo_X4_readInto hd rfl rfl rfl (Nat.le_trans (Nat.le_of_ble_eq_true rfl) hR1) (Nat.le_trans (Nat.le_of_ble_eq_true rfl) hR2) rfl hrm rfl hk ?_
  have h7 : (tl0 (tqX x)).2.1 7 = x 7 := tl0_7 (tqX x)
  refine J_perm (ws' := wC G a (txX x (tl0 (tqX x)).2.1)) ?_ K
  have hp := perm_tq ([(a 0, .inr (4, [.ref (a 1), .ref (a 9), .ref (a 17), .ref (a 25), .ref (a 27), .ref (a 29), .ref (a 30), .ref (a 26), .int (x 3 1 0)]))]) (wQ G (sh a 1) (x 0)) (wQ G (sh a 9) (x 1)) (wQ G (sh a 17) ((tl0 (tqX x)).2.1 0)) ([(a 25, .inl (G.2.1, 11, .inl (x 6 0))), (a 26, .inl (G.2.1, 7, .inl (x 3 0)))]) (wT G (sh a 27) ((tl0 (tqX x)).2.1 7)) ([(a 29, .inr (3, [.ref (a 27), .int ((tl0 (tqX x)).2.1 6 1 0), .int ((tl0 (tqX x)).2.1 6 1 1), .int ((tl0 (tqX x)).2.1 6 1 2), .int ((tl0 (tqX x)).2.1 6 1 3)]))]) ([(a 30, .inl (G.2.2.1, 4, .inr (.inr (.inr (.inr (shR a))))))]) (wS G (sh a 31) (x 8) ++ (wS G (sh a 33) (x 9) ++ (wS G (sh a 35) (x 10) ++ wS G (sh a 37) (x 11))))
  have hw : wC G a (txX x (tl0 (tqX x)).2.1) = ([(a 0, .inr (4, [.ref (a 1), .ref (a 9), .ref (a 17), .ref (a 25), .ref (a 27), .ref (a 29), .ref (a 30), .ref (a 26), .int (x 3 1 0)]))]) ++ ((wQ G (sh a 1) (x 0)) ++ ((wQ G (sh a 9) (x 1)) ++ ((wQ G (sh a 17) ((tl0 (tqX x)).2.1 0)) ++ (([(a 25, .inl (G.2.1, 11, .inl (x 6 0))), (a 26, .inl (G.2.1, 7, .inl (x 3 0)))]) ++ (wT G (sh a 27) ((tl0 (tqX x)).2.1 7) ++ ((([(a 29, .inr (3, [.ref (a 27), .int ((tl0 (tqX x)).2.1 6 1 0), .int ((tl0 (tqX x)).2.1 6 1 1), .int ((tl0 (tqX x)).2.1 6 1 2), .int ((tl0 (tqX x)).2.1 6 1 3)]))]) ++ [(a 30, .inl (G.2.2.1, 4, .inr (.inr (.inr (.inr (shR a))))))]) ++ (wS G (sh a 31) (x 8) ++ (wS G (sh a 33) (x 9) ++ (wS G (sh a 35) (x 10) ++ wS G (sh a 37) (x 11)))))))))) := by rw [h7]; rfl
  rw [hw]
  exact hp.symm

set_option maxHeartbeats 4000000 in
set_option maxRecDepth 20000 in
theorem c_X5_text (l : Launch) (G : GB) (a : Nat → Nat) (x : Q3) (n : Nat) (hn : x 7 1 0 = nI n) (hn2 : n ≤ 120) : CI l yX5_text cX5_text 2 .int 8 177 G [.ref (a 0)] (wC G a x) (fun vR w' => vR = tlR (tl0 (tqX (upG x 2 (x 0)))) ∧ PubC G a (up3 (upG x 0 (if tlR (tl0 (tqX (upG x 2 (x 0)))) ≤ 0 then x 0 else (tl0 (tqX (upG x 2 (x 0)))).2.1 0)) 7 1 0 0) w') := by
  refine CI.mk (own := RX5) (by decide) rfl (Nat.le_of_ble_eq_true rfl) ?_
  intro X E ret
  show J X G 2 0 0 (wC G a x) [(0, .ref (a 0))] 0 []
  refine J_aload_n E dX5_text_0 rfl 0 rfl ?_
  refine gC0_X5_19 E dX5_text_1 ?_
  refine J_aload_n E dX5_text_4 rfl 0 rfl ?_
  refine gC0_X5_10 E dX5_text_5 ?_
  refine J_b20 E dX5_text_8 (Nat.le_of_ble_eq_true rfl) (Nat.le_of_ble_eq_true rfl) (Nat.le_of_ble_eq_true rfl) ⟨Nat.zero_le _, Nat.zero_le _⟩ ?_
  refine J_aload_n E dX5_text_11 rfl 0 rfl ?_
  refine gC0_X5_38 E dX5_text_12 ?_
  refine J_aload_n E dX5_text_15 rfl 0 rfl ?_
  refine gC0_X5_19 E dX5_text_16 ?_
  refine J_tx E (n := n) hn hn2 dX5_text_19 (Nat.le_of_ble_eq_true rfl) (Nat.le_of_ble_eq_true rfl) (Nat.le_of_ble_eq_true rfl) ⟨Nat.zero_le _, Nat.zero_le _⟩ ?_
  refine J_istore_n E (lv' := [(1, .int (tlR (tl0 (tqX (upG x 2 (x 0)))))), (0, .ref (a 0))]) dX5_text_22 rfl (by decide) rfl ?_
  refine J_iload_n E dX5_text_23 rfl 0 rfl ?_
  refine J_if_le E (tgt := 38) dX5_text_24 (by decide) (fun c_24 => ?_) (fun c_24 => ?_)
  · skip
    refine J_aload_n E dX5_text_38 rfl 1 rfl ?_
    refine gC0_X5_29 E dX5_text_39 ?_
    refine J_iconst E dX5_text_42 ic_0 ?_
    refine pC27_X5_183 E dX5_text_43 ?_
    refine J_iload_n E dX5_text_46 rfl 0 rfl ?_
    exact ret _ _ _ _ ⟨rfl, _, rfl, by intro g h2 h6; first | rw [if_neg c_24] | rw [if_pos c_24]; by_cases g0 : g = 0 <;> by_cases g7 : g = 7 <;> simp [upG, up3, txX, h2, h6, g0, g7]⟩ rfl dX5_text_47
  · skip
    refine J_aload_n E dX5_text_27 rfl 1 rfl ?_
    refine gC0_X5_10 E dX5_text_28 ?_
    refine J_aload_n E dX5_text_31 rfl 1 rfl ?_
    refine gC0_X5_19 E dX5_text_32 ?_
    refine J_b02 E dX5_text_35 (Nat.le_of_ble_eq_true rfl) (Nat.le_of_ble_eq_true rfl) (Nat.le_of_ble_eq_true rfl) ⟨Nat.zero_le _, Nat.zero_le _⟩ ?_
    refine J_aload_n E dX5_text_38 rfl 1 rfl ?_
    refine gC0_X5_29 E dX5_text_39 ?_
    refine J_iconst E dX5_text_42 ic_0 ?_
    refine pC27_X5_183 E dX5_text_43 ?_
    refine J_iload_n E dX5_text_46 rfl 0 rfl ?_
    exact ret _ _ _ _ ⟨rfl, _, rfl, by intro g h2 h6; first | rw [if_neg c_24] | rw [if_pos c_24]; by_cases g0 : g = 0 <;> by_cases g7 : g = 7 <;> simp [upG, up3, txX, h2, h6, g0, g7]⟩ rfl dX5_text_47
set_option maxHeartbeats 4000000 in
set_option maxRecDepth 20000 in
theorem c_X5_copy_bad (l : Launch) (G : GB) (a : Nat → Nat) (x : Q3) (s f t o n : Int32) (hb : ¬ ((0 ≤ s ∧ s ≤ 3) ∧ 0 ≤ t ∧ t ≤ 3)) : CI l yX5_copy cX5_copy 8 .int 2 41 G [.ref (a 0), .int s, .int f, .int t, .int o, .int n] (wC G a x) (fun vR w' => vR = tellR 0 ∧ PubC G a (tellX x 0) w') := by
  refine CI.mk (own := RX5) (by decide) rfl (Nat.le_of_ble_eq_true rfl) ?_
  intro X E ret
  show J X G 8 0 0 (wC G a x) [(0, .ref (a 0)), (1, .int s), (2, .int f), (3, .int t), (4, .int o), (5, .int n)] 0 []
  refine J_iload_n E dX5_copy_0 rfl 1 rfl ?_
  refine J_cSiN E (As := [.int s]) (c_X5_isSheet l G s ) cl_X5_202 yo_X5_isSheet dX5_copy_1 rfl (Nat.le_of_ble_eq_true rfl) (Nat.le_of_ble_eq_true rfl) rfl (Nat.le_of_ble_eq_true rfl) ⟨Nat.zero_le _, Nat.zero_le _⟩ ?_
  refine J_if_eq E (tgt := 14) dX5_copy_4 (by decide) (fun c_4 => ?_) (fun c_4 => ?_)
  · skip
    have c_4 := bI_0 c_4
    refine J_aload_n E dX5_copy_14 rfl 0 rfl ?_
    refine J_iconst E dX5_copy_15 ic_0 ?_
    refine J_cVi0 E (As := [.int 0]) (c_X5_tell l G a x 0 (by omega)) cl_X5_64 yo_X5_tell dX5_copy_16 rfl rfl rfl (Nat.le_of_ble_eq_true rfl) (Nat.le_of_ble_eq_true rfl) rfl (Nat.le_of_ble_eq_true rfl) ⟨Nat.zero_le _, Nat.zero_le _⟩ ?_
    exact ret _ _ _ _ ⟨rfl, _, rfl, by intro g h2 h6; simp [upG, up3, up3R, h2, h6]⟩ rfl dX5_copy_19
  · skip
    have c_4 := bI_1 c_4
    refine J_iload_n E dX5_copy_7 rfl 3 rfl ?_
    refine J_cSiN E (As := [.int t]) (c_X5_isSheet l G t ) cl_X5_202 yo_X5_isSheet dX5_copy_8 rfl (Nat.le_of_ble_eq_true rfl) (Nat.le_of_ble_eq_true rfl) rfl (Nat.le_of_ble_eq_true rfl) ⟨Nat.zero_le _, Nat.zero_le _⟩ ?_
    refine J_if_ne E (tgt := 20) dX5_copy_11 (by decide) (fun c_11 => ?_) (fun c_11 => ?_)
    · skip
      have c_11 := bI_1 c_11
      exact absurd ⟨c_4, c_11⟩ hb
    · skip
      have c_11 := bI_0 c_11
      refine J_aload_n E dX5_copy_14 rfl 0 rfl ?_
      refine J_iconst E dX5_copy_15 ic_0 ?_
      refine J_cVi0 E (As := [.int 0]) (c_X5_tell l G a x 0 (by omega)) cl_X5_64 yo_X5_tell dX5_copy_16 rfl rfl rfl (Nat.le_of_ble_eq_true rfl) (Nat.le_of_ble_eq_true rfl) rfl (Nat.le_of_ble_eq_true rfl) ⟨Nat.zero_le _, Nat.zero_le _⟩ ?_
      exact ret _ _ _ _ ⟨rfl, _, rfl, by intro g h2 h6; simp [upG, up3, up3R, h2, h6]⟩ rfl dX5_copy_19

set_option maxHeartbeats 4000000 in
set_option maxRecDepth 20000 in
theorem c_X5_copy_miss (l : Launch) (G : GB) (a : Nat → Nat) (x : Q3) (i k : Nat) (f o n : Int32) (hi : i < 4) (hk : k < 4) (hb : x (8 + i) 1 0 = 0 ∨ x (8 + k) 1 0 = 0) : CI l yX5_copy cX5_copy 8 .int 2 41 G [.ref (a 0), .int (nI i), .int f, .int (nI k), .int o, .int n] (wC G a x) (fun vR w' => vR = tellR 5 ∧ PubC G a (tellX x 5) w') := by
  refine CI.mk (own := RX5) (by decide) rfl (Nat.le_of_ble_eq_true rfl) ?_
  intro X E ret
  show J X G 8 0 0 (wC G a x) [(0, .ref (a 0)), (1, .int (nI i)), (2, .int f), (3, .int (nI k)), (4, .int o), (5, .int n)] 0 []
  rcases (show (i = 0 ∧ k = 0) ∨ (i = 0 ∧ k = 1) ∨ (i = 0 ∧ k = 2) ∨ (i = 0 ∧ k = 3) ∨ (i = 1 ∧ k = 0) ∨ (i = 1 ∧ k = 1) ∨ (i = 1 ∧ k = 2) ∨ (i = 1 ∧ k = 3) ∨ (i = 2 ∧ k = 0) ∨ (i = 2 ∧ k = 1) ∨ (i = 2 ∧ k = 2) ∨ (i = 2 ∧ k = 3) ∨ (i = 3 ∧ k = 0) ∨ (i = 3 ∧ k = 1) ∨ (i = 3 ∧ k = 2) ∨ (i = 3 ∧ k = 3) by omega) with ⟨rfl, rfl⟩ | ⟨rfl, rfl⟩ | ⟨rfl, rfl⟩ | ⟨rfl, rfl⟩ | ⟨rfl, rfl⟩ | ⟨rfl, rfl⟩ | ⟨rfl, rfl⟩ | ⟨rfl, rfl⟩ | ⟨rfl, rfl⟩ | ⟨rfl, rfl⟩ | ⟨rfl, rfl⟩ | ⟨rfl, rfl⟩ | ⟨rfl, rfl⟩ | ⟨rfl, rfl⟩ | ⟨rfl, rfl⟩ | ⟨rfl, rfl⟩
  · skip
    refine J_iload_n E dX5_copy_0 rfl 1 rfl ?_
    refine J_cSiN E (As := [.int (nI 0)]) (c_X5_isSheet l G (nI 0) ) cl_X5_202 yo_X5_isSheet dX5_copy_1 rfl (Nat.le_of_ble_eq_true rfl) (Nat.le_of_ble_eq_true rfl) rfl (Nat.le_of_ble_eq_true rfl) ⟨Nat.zero_le _, Nat.zero_le _⟩ ?_
    refine J_if_eq E (tgt := 14) dX5_copy_4 (by decide) (fun c_4 => ?_) (fun c_4 => ?_)
    · skip
      have c_4 := bI_0 c_4
      exact absurd (in3 (by decide)) c_4
    · skip
      have c_4 := bI_1 c_4
      refine J_iload_n E dX5_copy_7 rfl 3 rfl ?_
      refine J_cSiN E (As := [.int (nI 0)]) (c_X5_isSheet l G (nI 0) ) cl_X5_202 yo_X5_isSheet dX5_copy_8 rfl (Nat.le_of_ble_eq_true rfl) (Nat.le_of_ble_eq_true rfl) rfl (Nat.le_of_ble_eq_true rfl) ⟨Nat.zero_le _, Nat.zero_le _⟩ ?_
      refine J_if_ne E (tgt := 20) dX5_copy_11 (by decide) (fun c_11 => ?_) (fun c_11 => ?_)
      · skip
        have c_11 := bI_1 c_11
        refine J_aload_n E dX5_copy_20 rfl 0 rfl ?_
        refine gC0_X5_44 E dX5_copy_21 ?_
        refine J_iload_n E dX5_copy_24 rfl 1 rfl ?_
        refine laC_30_0 E dX5_copy_25 ?_
        refine J_astore E (lv' := [(6, .ref (a 31)), (0, .ref (a 0)), (1, .int (nI 0)), (2, .int f), (3, .int (nI 0)), (4, .int o), (5, .int n)]) dX5_copy_26 (by decide) rfl ?_
        refine J_aload_n E dX5_copy_28 rfl 1 rfl ?_
        refine gC0_X5_44 E dX5_copy_29 ?_
        refine J_iload_n E dX5_copy_32 rfl 4 rfl ?_
        refine laC_30_0 E dX5_copy_33 ?_
        refine J_astore E (lv' := [(7, .ref (a 31)), (6, .ref (a 31)), (0, .ref (a 0)), (1, .int (nI 0)), (2, .int f), (3, .int (nI 0)), (4, .int o), (5, .int n)]) dX5_copy_34 (by decide) rfl ?_
        refine J_aload E dX5_copy_36 1 rfl ?_
        refine J_si8r E (As := []) (c_X2_isMissing l G (sh a 31) (x 8) ) cl_X5_212 yo_X2_isMissing dX5_copy_38 rfl (Nat.le_of_ble_eq_true rfl) (Nat.le_of_ble_eq_true rfl) rfl (Nat.le_of_ble_eq_true rfl) ⟨Nat.zero_le _, Nat.zero_le _⟩ ?_
        refine J_if_ne E (tgt := 52) dX5_copy_41 (by decide) (fun c_41 => ?_) (fun c_41 => ?_)
        · skip
          have c_41 := bI_1 c_41
          refine J_aload_n E dX5_copy_52 rfl 2 rfl ?_
          refine J_iconst E dX5_copy_53 ic_5 ?_
          refine J_cVi0 E (As := [.int 5]) (c_X5_tell l G a x 5 (by omega)) cl_X5_64 yo_X5_tell dX5_copy_54 rfl rfl rfl (Nat.le_of_ble_eq_true rfl) (Nat.le_of_ble_eq_true rfl) rfl (Nat.le_of_ble_eq_true rfl) ⟨Nat.zero_le _, Nat.zero_le _⟩ ?_
          exact ret _ _ _ _ ⟨rfl, _, rfl, by intro g h2 h6; simp [upG, up3, up3R, h2, h6]⟩ rfl dX5_copy_57
        · skip
          have c_41 := bI_0 c_41
          refine J_aload E dX5_copy_44 0 rfl ?_
          refine J_si8r E (As := []) (c_X2_isMissing l G (sh a 31) (x 8) ) cl_X5_212 yo_X2_isMissing dX5_copy_46 rfl (Nat.le_of_ble_eq_true rfl) (Nat.le_of_ble_eq_true rfl) rfl (Nat.le_of_ble_eq_true rfl) ⟨Nat.zero_le _, Nat.zero_le _⟩ ?_
          refine J_if_eq E (tgt := 58) dX5_copy_49 (by decide) (fun c_49 => ?_) (fun c_49 => ?_)
          · skip
            have c_49 := bI_0 c_49
            exact hb.elim c_41 c_49
          · skip
            have c_49 := bI_1 c_49
            refine J_aload_n E dX5_copy_52 rfl 2 rfl ?_
            refine J_iconst E dX5_copy_53 ic_5 ?_
            refine J_cVi0 E (As := [.int 5]) (c_X5_tell l G a x 5 (by omega)) cl_X5_64 yo_X5_tell dX5_copy_54 rfl rfl rfl (Nat.le_of_ble_eq_true rfl) (Nat.le_of_ble_eq_true rfl) rfl (Nat.le_of_ble_eq_true rfl) ⟨Nat.zero_le _, Nat.zero_le _⟩ ?_
            exact ret _ _ _ _ ⟨rfl, _, rfl, by intro g h2 h6; simp [upG, up3, up3R, h2, h6]⟩ rfl dX5_copy_57
      · skip
        have c_11 := bI_0 c_11
        exact absurd (in3 (by decide)) c_11
  · skip
    refine J_iload_n E dX5_copy_0 rfl 1 rfl ?_
    refine J_cSiN E (As := [.int (nI 0)]) (c_X5_isSheet l G (nI 0) ) cl_X5_202 yo_X5_isSheet dX5_copy_1 rfl (Nat.le_of_ble_eq_true rfl) (Nat.le_of_ble_eq_true rfl) rfl (Nat.le_of_ble_eq_true rfl) ⟨Nat.zero_le _, Nat.zero_le _⟩ ?_
    refine J_if_eq E (tgt := 14) dX5_copy_4 (by decide) (fun c_4 => ?_) (fun c_4 => ?_)
    · skip
      have c_4 := bI_0 c_4
      exact absurd (in3 (by decide)) c_4
    · skip
      have c_4 := bI_1 c_4
      refine J_iload_n E dX5_copy_7 rfl 3 rfl ?_
      refine J_cSiN E (As := [.int (nI 1)]) (c_X5_isSheet l G (nI 1) ) cl_X5_202 yo_X5_isSheet dX5_copy_8 rfl (Nat.le_of_ble_eq_true rfl) (Nat.le_of_ble_eq_true rfl) rfl (Nat.le_of_ble_eq_true rfl) ⟨Nat.zero_le _, Nat.zero_le _⟩ ?_
      refine J_if_ne E (tgt := 20) dX5_copy_11 (by decide) (fun c_11 => ?_) (fun c_11 => ?_)
      · skip
        have c_11 := bI_1 c_11
        refine J_aload_n E dX5_copy_20 rfl 0 rfl ?_
        refine gC0_X5_44 E dX5_copy_21 ?_
        refine J_iload_n E dX5_copy_24 rfl 1 rfl ?_
        refine laC_30_0 E dX5_copy_25 ?_
        refine J_astore E (lv' := [(6, .ref (a 31)), (0, .ref (a 0)), (1, .int (nI 0)), (2, .int f), (3, .int (nI 1)), (4, .int o), (5, .int n)]) dX5_copy_26 (by decide) rfl ?_
        refine J_aload_n E dX5_copy_28 rfl 1 rfl ?_
        refine gC0_X5_44 E dX5_copy_29 ?_
        refine J_iload_n E dX5_copy_32 rfl 4 rfl ?_
        refine laC_30_1 E dX5_copy_33 ?_
        refine J_astore E (lv' := [(7, .ref (a 33)), (6, .ref (a 31)), (0, .ref (a 0)), (1, .int (nI 0)), (2, .int f), (3, .int (nI 1)), (4, .int o), (5, .int n)]) dX5_copy_34 (by decide) rfl ?_
        refine J_aload E dX5_copy_36 1 rfl ?_
        refine J_si8r E (As := []) (c_X2_isMissing l G (sh a 31) (x 8) ) cl_X5_212 yo_X2_isMissing dX5_copy_38 rfl (Nat.le_of_ble_eq_true rfl) (Nat.le_of_ble_eq_true rfl) rfl (Nat.le_of_ble_eq_true rfl) ⟨Nat.zero_le _, Nat.zero_le _⟩ ?_
        refine J_if_ne E (tgt := 52) dX5_copy_41 (by decide) (fun c_41 => ?_) (fun c_41 => ?_)
        · skip
          have c_41 := bI_1 c_41
          refine J_aload_n E dX5_copy_52 rfl 2 rfl ?_
          refine J_iconst E dX5_copy_53 ic_5 ?_
          refine J_cVi0 E (As := [.int 5]) (c_X5_tell l G a x 5 (by omega)) cl_X5_64 yo_X5_tell dX5_copy_54 rfl rfl rfl (Nat.le_of_ble_eq_true rfl) (Nat.le_of_ble_eq_true rfl) rfl (Nat.le_of_ble_eq_true rfl) ⟨Nat.zero_le _, Nat.zero_le _⟩ ?_
          exact ret _ _ _ _ ⟨rfl, _, rfl, by intro g h2 h6; simp [upG, up3, up3R, h2, h6]⟩ rfl dX5_copy_57
        · skip
          have c_41 := bI_0 c_41
          refine J_aload E dX5_copy_44 0 rfl ?_
          refine J_si9r E (As := []) (c_X2_isMissing l G (sh a 33) (x 9) ) cl_X5_212 yo_X2_isMissing dX5_copy_46 rfl (Nat.le_of_ble_eq_true rfl) (Nat.le_of_ble_eq_true rfl) rfl (Nat.le_of_ble_eq_true rfl) ⟨Nat.zero_le _, Nat.zero_le _⟩ ?_
          refine J_if_eq E (tgt := 58) dX5_copy_49 (by decide) (fun c_49 => ?_) (fun c_49 => ?_)
          · skip
            have c_49 := bI_0 c_49
            exact hb.elim c_41 c_49
          · skip
            have c_49 := bI_1 c_49
            refine J_aload_n E dX5_copy_52 rfl 2 rfl ?_
            refine J_iconst E dX5_copy_53 ic_5 ?_
            refine J_cVi0 E (As := [.int 5]) (c_X5_tell l G a x 5 (by omega)) cl_X5_64 yo_X5_tell dX5_copy_54 rfl rfl rfl (Nat.le_of_ble_eq_true rfl) (Nat.le_of_ble_eq_true rfl) rfl (Nat.le_of_ble_eq_true rfl) ⟨Nat.zero_le _, Nat.zero_le _⟩ ?_
            exact ret _ _ _ _ ⟨rfl, _, rfl, by intro g h2 h6; simp [upG, up3, up3R, h2, h6]⟩ rfl dX5_copy_57
      · skip
        have c_11 := bI_0 c_11
        exact absurd (in3 (by decide)) c_11
  · skip
    refine J_iload_n E dX5_copy_0 rfl 1 rfl ?_
    refine J_cSiN E (As := [.int (nI 0)]) (c_X5_isSheet l G (nI 0) ) cl_X5_202 yo_X5_isSheet dX5_copy_1 rfl (Nat.le_of_ble_eq_true rfl) (Nat.le_of_ble_eq_true rfl) rfl (Nat.le_of_ble_eq_true rfl) ⟨Nat.zero_le _, Nat.zero_le _⟩ ?_
    refine J_if_eq E (tgt := 14) dX5_copy_4 (by decide) (fun c_4 => ?_) (fun c_4 => ?_)
    · skip
      have c_4 := bI_0 c_4
      exact absurd (in3 (by decide)) c_4
    · skip
      have c_4 := bI_1 c_4
      refine J_iload_n E dX5_copy_7 rfl 3 rfl ?_
      refine J_cSiN E (As := [.int (nI 2)]) (c_X5_isSheet l G (nI 2) ) cl_X5_202 yo_X5_isSheet dX5_copy_8 rfl (Nat.le_of_ble_eq_true rfl) (Nat.le_of_ble_eq_true rfl) rfl (Nat.le_of_ble_eq_true rfl) ⟨Nat.zero_le _, Nat.zero_le _⟩ ?_
      refine J_if_ne E (tgt := 20) dX5_copy_11 (by decide) (fun c_11 => ?_) (fun c_11 => ?_)
      · skip
        have c_11 := bI_1 c_11
        refine J_aload_n E dX5_copy_20 rfl 0 rfl ?_
        refine gC0_X5_44 E dX5_copy_21 ?_
        refine J_iload_n E dX5_copy_24 rfl 1 rfl ?_
        refine laC_30_0 E dX5_copy_25 ?_
        refine J_astore E (lv' := [(6, .ref (a 31)), (0, .ref (a 0)), (1, .int (nI 0)), (2, .int f), (3, .int (nI 2)), (4, .int o), (5, .int n)]) dX5_copy_26 (by decide) rfl ?_
        refine J_aload_n E dX5_copy_28 rfl 1 rfl ?_
        refine gC0_X5_44 E dX5_copy_29 ?_
        refine J_iload_n E dX5_copy_32 rfl 4 rfl ?_
        refine laC_30_2 E dX5_copy_33 ?_
        refine J_astore E (lv' := [(7, .ref (a 35)), (6, .ref (a 31)), (0, .ref (a 0)), (1, .int (nI 0)), (2, .int f), (3, .int (nI 2)), (4, .int o), (5, .int n)]) dX5_copy_34 (by decide) rfl ?_
        refine J_aload E dX5_copy_36 1 rfl ?_
        refine J_si8r E (As := []) (c_X2_isMissing l G (sh a 31) (x 8) ) cl_X5_212 yo_X2_isMissing dX5_copy_38 rfl (Nat.le_of_ble_eq_true rfl) (Nat.le_of_ble_eq_true rfl) rfl (Nat.le_of_ble_eq_true rfl) ⟨Nat.zero_le _, Nat.zero_le _⟩ ?_
        refine J_if_ne E (tgt := 52) dX5_copy_41 (by decide) (fun c_41 => ?_) (fun c_41 => ?_)
        · skip
          have c_41 := bI_1 c_41
          refine J_aload_n E dX5_copy_52 rfl 2 rfl ?_
          refine J_iconst E dX5_copy_53 ic_5 ?_
          refine J_cVi0 E (As := [.int 5]) (c_X5_tell l G a x 5 (by omega)) cl_X5_64 yo_X5_tell dX5_copy_54 rfl rfl rfl (Nat.le_of_ble_eq_true rfl) (Nat.le_of_ble_eq_true rfl) rfl (Nat.le_of_ble_eq_true rfl) ⟨Nat.zero_le _, Nat.zero_le _⟩ ?_
          exact ret _ _ _ _ ⟨rfl, _, rfl, by intro g h2 h6; simp [upG, up3, up3R, h2, h6]⟩ rfl dX5_copy_57
        · skip
          have c_41 := bI_0 c_41
          refine J_aload E dX5_copy_44 0 rfl ?_
          refine J_si10r E (As := []) (c_X2_isMissing l G (sh a 35) (x 10) ) cl_X5_212 yo_X2_isMissing dX5_copy_46 rfl (Nat.le_of_ble_eq_true rfl) (Nat.le_of_ble_eq_true rfl) rfl (Nat.le_of_ble_eq_true rfl) ⟨Nat.zero_le _, Nat.zero_le _⟩ ?_
          refine J_if_eq E (tgt := 58) dX5_copy_49 (by decide) (fun c_49 => ?_) (fun c_49 => ?_)
          · skip
            have c_49 := bI_0 c_49
            exact hb.elim c_41 c_49
          · skip
            have c_49 := bI_1 c_49
            refine J_aload_n E dX5_copy_52 rfl 2 rfl ?_
            refine J_iconst E dX5_copy_53 ic_5 ?_
            refine J_cVi0 E (As := [.int 5]) (c_X5_tell l G a x 5 (by omega)) cl_X5_64 yo_X5_tell dX5_copy_54 rfl rfl rfl (Nat.le_of_ble_eq_true rfl) (Nat.le_of_ble_eq_true rfl) rfl (Nat.le_of_ble_eq_true rfl) ⟨Nat.zero_le _, Nat.zero_le _⟩ ?_
            exact ret _ _ _ _ ⟨rfl, _, rfl, by intro g h2 h6; simp [upG, up3, up3R, h2, h6]⟩ rfl dX5_copy_57
      · skip
        have c_11 := bI_0 c_11
        exact absurd (in3 (by decide)) c_11
  · skip
    refine J_iload_n E dX5_copy_0 rfl 1 rfl ?_
    refine J_cSiN E (As := [.int (nI 0)]) (c_X5_isSheet l G (nI 0) ) cl_X5_202 yo_X5_isSheet dX5_copy_1 rfl (Nat.le_of_ble_eq_true rfl) (Nat.le_of_ble_eq_true rfl) rfl (Nat.le_of_ble_eq_true rfl) ⟨Nat.zero_le _, Nat.zero_le _⟩ ?_
    refine J_if_eq E (tgt := 14) dX5_copy_4 (by decide) (fun c_4 => ?_) (fun c_4 => ?_)
    · skip
      have c_4 := bI_0 c_4
      exact absurd (in3 (by decide)) c_4
    · skip
      have c_4 := bI_1 c_4
      refine J_iload_n E dX5_copy_7 rfl 3 rfl ?_
      refine J_cSiN E (As := [.int (nI 3)]) (c_X5_isSheet l G (nI 3) ) cl_X5_202 yo_X5_isSheet dX5_copy_8 rfl (Nat.le_of_ble_eq_true rfl) (Nat.le_of_ble_eq_true rfl) rfl (Nat.le_of_ble_eq_true rfl) ⟨Nat.zero_le _, Nat.zero_le _⟩ ?_
      refine J_if_ne E (tgt := 20) dX5_copy_11 (by decide) (fun c_11 => ?_) (fun c_11 => ?_)
      · skip
        have c_11 := bI_1 c_11
        refine J_aload_n E dX5_copy_20 rfl 0 rfl ?_
        refine gC0_X5_44 E dX5_copy_21 ?_
        refine J_iload_n E dX5_copy_24 rfl 1 rfl ?_
        refine laC_30_0 E dX5_copy_25 ?_
        refine J_astore E (lv' := [(6, .ref (a 31)), (0, .ref (a 0)), (1, .int (nI 0)), (2, .int f), (3, .int (nI 3)), (4, .int o), (5, .int n)]) dX5_copy_26 (by decide) rfl ?_
        refine J_aload_n E dX5_copy_28 rfl 1 rfl ?_
        refine gC0_X5_44 E dX5_copy_29 ?_
        refine J_iload_n E dX5_copy_32 rfl 4 rfl ?_
        refine laC_30_3 E dX5_copy_33 ?_
        refine J_astore E (lv' := [(7, .ref (a 37)), (6, .ref (a 31)), (0, .ref (a 0)), (1, .int (nI 0)), (2, .int f), (3, .int (nI 3)), (4, .int o), (5, .int n)]) dX5_copy_34 (by decide) rfl ?_
        refine J_aload E dX5_copy_36 1 rfl ?_
        refine J_si8r E (As := []) (c_X2_isMissing l G (sh a 31) (x 8) ) cl_X5_212 yo_X2_isMissing dX5_copy_38 rfl (Nat.le_of_ble_eq_true rfl) (Nat.le_of_ble_eq_true rfl) rfl (Nat.le_of_ble_eq_true rfl) ⟨Nat.zero_le _, Nat.zero_le _⟩ ?_
        refine J_if_ne E (tgt := 52) dX5_copy_41 (by decide) (fun c_41 => ?_) (fun c_41 => ?_)
        · skip
          have c_41 := bI_1 c_41
          refine J_aload_n E dX5_copy_52 rfl 2 rfl ?_
          refine J_iconst E dX5_copy_53 ic_5 ?_
          refine J_cVi0 E (As := [.int 5]) (c_X5_tell l G a x 5 (by omega)) cl_X5_64 yo_X5_tell dX5_copy_54 rfl rfl rfl (Nat.le_of_ble_eq_true rfl) (Nat.le_of_ble_eq_true rfl) rfl (Nat.le_of_ble_eq_true rfl) ⟨Nat.zero_le _, Nat.zero_le _⟩ ?_
          exact ret _ _ _ _ ⟨rfl, _, rfl, by intro g h2 h6; simp [upG, up3, up3R, h2, h6]⟩ rfl dX5_copy_57
        · skip
          have c_41 := bI_0 c_41
          refine J_aload E dX5_copy_44 0 rfl ?_
          refine J_si11r E (As := []) (c_X2_isMissing l G (sh a 37) (x 11) ) cl_X5_212 yo_X2_isMissing dX5_copy_46 rfl (Nat.le_of_ble_eq_true rfl) (Nat.le_of_ble_eq_true rfl) rfl (Nat.le_of_ble_eq_true rfl) ⟨Nat.zero_le _, Nat.zero_le _⟩ ?_
          refine J_if_eq E (tgt := 58) dX5_copy_49 (by decide) (fun c_49 => ?_) (fun c_49 => ?_)
          · skip
            have c_49 := bI_0 c_49
            exact hb.elim c_41 c_49
          · skip
            have c_49 := bI_1 c_49
            refine J_aload_n E dX5_copy_52 rfl 2 rfl ?_
            refine J_iconst E dX5_copy_53 ic_5 ?_
            refine J_cVi0 E (As := [.int 5]) (c_X5_tell l G a x 5 (by omega)) cl_X5_64 yo_X5_tell dX5_copy_54 rfl rfl rfl (Nat.le_of_ble_eq_true rfl) (Nat.le_of_ble_eq_true rfl) rfl (Nat.le_of_ble_eq_true rfl) ⟨Nat.zero_le _, Nat.zero_le _⟩ ?_
            exact ret _ _ _ _ ⟨rfl, _, rfl, by intro g h2 h6; simp [upG, up3, up3R, h2, h6]⟩ rfl dX5_copy_57
      · skip
        have c_11 := bI_0 c_11
        exact absurd (in3 (by decide)) c_11
  · skip
    refine J_iload_n E dX5_copy_0 rfl 1 rfl ?_
    refine J_cSiN E (As := [.int (nI 1)]) (c_X5_isSheet l G (nI 1) ) cl_X5_202 yo_X5_isSheet dX5_copy_1 rfl (Nat.le_of_ble_eq_true rfl) (Nat.le_of_ble_eq_true rfl) rfl (Nat.le_of_ble_eq_true rfl) ⟨Nat.zero_le _, Nat.zero_le _⟩ ?_
    refine J_if_eq E (tgt := 14) dX5_copy_4 (by decide) (fun c_4 => ?_) (fun c_4 => ?_)
    · skip
      have c_4 := bI_0 c_4
      exact absurd (in3 (by decide)) c_4
    · skip
      have c_4 := bI_1 c_4
      refine J_iload_n E dX5_copy_7 rfl 3 rfl ?_
      refine J_cSiN E (As := [.int (nI 0)]) (c_X5_isSheet l G (nI 0) ) cl_X5_202 yo_X5_isSheet dX5_copy_8 rfl (Nat.le_of_ble_eq_true rfl) (Nat.le_of_ble_eq_true rfl) rfl (Nat.le_of_ble_eq_true rfl) ⟨Nat.zero_le _, Nat.zero_le _⟩ ?_
      refine J_if_ne E (tgt := 20) dX5_copy_11 (by decide) (fun c_11 => ?_) (fun c_11 => ?_)
      · skip
        have c_11 := bI_1 c_11
        refine J_aload_n E dX5_copy_20 rfl 0 rfl ?_
        refine gC0_X5_44 E dX5_copy_21 ?_
        refine J_iload_n E dX5_copy_24 rfl 1 rfl ?_
        refine laC_30_1 E dX5_copy_25 ?_
        refine J_astore E (lv' := [(6, .ref (a 33)), (0, .ref (a 0)), (1, .int (nI 1)), (2, .int f), (3, .int (nI 0)), (4, .int o), (5, .int n)]) dX5_copy_26 (by decide) rfl ?_
        refine J_aload_n E dX5_copy_28 rfl 1 rfl ?_
        refine gC0_X5_44 E dX5_copy_29 ?_
        refine J_iload_n E dX5_copy_32 rfl 4 rfl ?_
        refine laC_30_0 E dX5_copy_33 ?_
        refine J_astore E (lv' := [(7, .ref (a 31)), (6, .ref (a 33)), (0, .ref (a 0)), (1, .int (nI 1)), (2, .int f), (3, .int (nI 0)), (4, .int o), (5, .int n)]) dX5_copy_34 (by decide) rfl ?_
        refine J_aload E dX5_copy_36 1 rfl ?_
        refine J_si9r E (As := []) (c_X2_isMissing l G (sh a 33) (x 9) ) cl_X5_212 yo_X2_isMissing dX5_copy_38 rfl (Nat.le_of_ble_eq_true rfl) (Nat.le_of_ble_eq_true rfl) rfl (Nat.le_of_ble_eq_true rfl) ⟨Nat.zero_le _, Nat.zero_le _⟩ ?_
        refine J_if_ne E (tgt := 52) dX5_copy_41 (by decide) (fun c_41 => ?_) (fun c_41 => ?_)
        · skip
          have c_41 := bI_1 c_41
          refine J_aload_n E dX5_copy_52 rfl 2 rfl ?_
          refine J_iconst E dX5_copy_53 ic_5 ?_
          refine J_cVi0 E (As := [.int 5]) (c_X5_tell l G a x 5 (by omega)) cl_X5_64 yo_X5_tell dX5_copy_54 rfl rfl rfl (Nat.le_of_ble_eq_true rfl) (Nat.le_of_ble_eq_true rfl) rfl (Nat.le_of_ble_eq_true rfl) ⟨Nat.zero_le _, Nat.zero_le _⟩ ?_
          exact ret _ _ _ _ ⟨rfl, _, rfl, by intro g h2 h6; simp [upG, up3, up3R, h2, h6]⟩ rfl dX5_copy_57
        · skip
          have c_41 := bI_0 c_41
          refine J_aload E dX5_copy_44 0 rfl ?_
          refine J_si8r E (As := []) (c_X2_isMissing l G (sh a 31) (x 8) ) cl_X5_212 yo_X2_isMissing dX5_copy_46 rfl (Nat.le_of_ble_eq_true rfl) (Nat.le_of_ble_eq_true rfl) rfl (Nat.le_of_ble_eq_true rfl) ⟨Nat.zero_le _, Nat.zero_le _⟩ ?_
          refine J_if_eq E (tgt := 58) dX5_copy_49 (by decide) (fun c_49 => ?_) (fun c_49 => ?_)
          · skip
            have c_49 := bI_0 c_49
            exact hb.elim c_41 c_49
          · skip
            have c_49 := bI_1 c_49
            refine J_aload_n E dX5_copy_52 rfl 2 rfl ?_
            refine J_iconst E dX5_copy_53 ic_5 ?_
            refine J_cVi0 E (As := [.int 5]) (c_X5_tell l G a x 5 (by omega)) cl_X5_64 yo_X5_tell dX5_copy_54 rfl rfl rfl (Nat.le_of_ble_eq_true rfl) (Nat.le_of_ble_eq_true rfl) rfl (Nat.le_of_ble_eq_true rfl) ⟨Nat.zero_le _, Nat.zero_le _⟩ ?_
            exact ret _ _ _ _ ⟨rfl, _, rfl, by intro g h2 h6; simp [upG, up3, up3R, h2, h6]⟩ rfl dX5_copy_57
      · skip
        have c_11 := bI_0 c_11
        exact absurd (in3 (by decide)) c_11
  · skip
    refine J_iload_n E dX5_copy_0 rfl 1 rfl ?_
    refine J_cSiN E (As := [.int (nI 1)]) (c_X5_isSheet l G (nI 1) ) cl_X5_202 yo_X5_isSheet dX5_copy_1 rfl (Nat.le_of_ble_eq_true rfl) (Nat.le_of_ble_eq_true rfl) rfl (Nat.le_of_ble_eq_true rfl) ⟨Nat.zero_le _, Nat.zero_le _⟩ ?_
    refine J_if_eq E (tgt := 14) dX5_copy_4 (by decide) (fun c_4 => ?_) (fun c_4 => ?_)
    · skip
      have c_4 := bI_0 c_4
      exact absurd (in3 (by decide)) c_4
    · skip
      have c_4 := bI_1 c_4
      refine J_iload_n E dX5_copy_7 rfl 3 rfl ?_
      refine J_cSiN E (As := [.int (nI 1)]) (c_X5_isSheet l G (nI 1) ) cl_X5_202 yo_X5_isSheet dX5_copy_8 rfl (Nat.le_of_ble_eq_true rfl) (Nat.le_of_ble_eq_true rfl) rfl (Nat.le_of_ble_eq_true rfl) ⟨Nat.zero_le _, Nat.zero_le _⟩ ?_
      refine J_if_ne E (tgt := 20) dX5_copy_11 (by decide) (fun c_11 => ?_) (fun c_11 => ?_)
      · skip
        have c_11 := bI_1 c_11
        refine J_aload_n E dX5_copy_20 rfl 0 rfl ?_
        refine gC0_X5_44 E dX5_copy_21 ?_
        refine J_iload_n E dX5_copy_24 rfl 1 rfl ?_
        refine laC_30_1 E dX5_copy_25 ?_
        refine J_astore E (lv' := [(6, .ref (a 33)), (0, .ref (a 0)), (1, .int (nI 1)), (2, .int f), (3, .int (nI 1)), (4, .int o), (5, .int n)]) dX5_copy_26 (by decide) rfl ?_
        refine J_aload_n E dX5_copy_28 rfl 1 rfl ?_
        refine gC0_X5_44 E dX5_copy_29 ?_
        refine J_iload_n E dX5_copy_32 rfl 4 rfl ?_
        refine laC_30_1 E dX5_copy_33 ?_
        refine J_astore E (lv' := [(7, .ref (a 33)), (6, .ref (a 33)), (0, .ref (a 0)), (1, .int (nI 1)), (2, .int f), (3, .int (nI 1)), (4, .int o), (5, .int n)]) dX5_copy_34 (by decide) rfl ?_
        refine J_aload E dX5_copy_36 1 rfl ?_
        refine J_si9r E (As := []) (c_X2_isMissing l G (sh a 33) (x 9) ) cl_X5_212 yo_X2_isMissing dX5_copy_38 rfl (Nat.le_of_ble_eq_true rfl) (Nat.le_of_ble_eq_true rfl) rfl (Nat.le_of_ble_eq_true rfl) ⟨Nat.zero_le _, Nat.zero_le _⟩ ?_
        refine J_if_ne E (tgt := 52) dX5_copy_41 (by decide) (fun c_41 => ?_) (fun c_41 => ?_)
        · skip
          have c_41 := bI_1 c_41
          refine J_aload_n E dX5_copy_52 rfl 2 rfl ?_
          refine J_iconst E dX5_copy_53 ic_5 ?_
          refine J_cVi0 E (As := [.int 5]) (c_X5_tell l G a x 5 (by omega)) cl_X5_64 yo_X5_tell dX5_copy_54 rfl rfl rfl (Nat.le_of_ble_eq_true rfl) (Nat.le_of_ble_eq_true rfl) rfl (Nat.le_of_ble_eq_true rfl) ⟨Nat.zero_le _, Nat.zero_le _⟩ ?_
          exact ret _ _ _ _ ⟨rfl, _, rfl, by intro g h2 h6; simp [upG, up3, up3R, h2, h6]⟩ rfl dX5_copy_57
        · skip
          have c_41 := bI_0 c_41
          refine J_aload E dX5_copy_44 0 rfl ?_
          refine J_si9r E (As := []) (c_X2_isMissing l G (sh a 33) (x 9) ) cl_X5_212 yo_X2_isMissing dX5_copy_46 rfl (Nat.le_of_ble_eq_true rfl) (Nat.le_of_ble_eq_true rfl) rfl (Nat.le_of_ble_eq_true rfl) ⟨Nat.zero_le _, Nat.zero_le _⟩ ?_
          refine J_if_eq E (tgt := 58) dX5_copy_49 (by decide) (fun c_49 => ?_) (fun c_49 => ?_)
          · skip
            have c_49 := bI_0 c_49
            exact hb.elim c_41 c_49
          · skip
            have c_49 := bI_1 c_49
            refine J_aload_n E dX5_copy_52 rfl 2 rfl ?_
            refine J_iconst E dX5_copy_53 ic_5 ?_
            refine J_cVi0 E (As := [.int 5]) (c_X5_tell l G a x 5 (by omega)) cl_X5_64 yo_X5_tell dX5_copy_54 rfl rfl rfl (Nat.le_of_ble_eq_true rfl) (Nat.le_of_ble_eq_true rfl) rfl (Nat.le_of_ble_eq_true rfl) ⟨Nat.zero_le _, Nat.zero_le _⟩ ?_
            exact ret _ _ _ _ ⟨rfl, _, rfl, by intro g h2 h6; simp [upG, up3, up3R, h2, h6]⟩ rfl dX5_copy_57
      · skip
        have c_11 := bI_0 c_11
        exact absurd (in3 (by decide)) c_11
  · skip
    refine J_iload_n E dX5_copy_0 rfl 1 rfl ?_
    refine J_cSiN E (As := [.int (nI 1)]) (c_X5_isSheet l G (nI 1) ) cl_X5_202 yo_X5_isSheet dX5_copy_1 rfl (Nat.le_of_ble_eq_true rfl) (Nat.le_of_ble_eq_true rfl) rfl (Nat.le_of_ble_eq_true rfl) ⟨Nat.zero_le _, Nat.zero_le _⟩ ?_
    refine J_if_eq E (tgt := 14) dX5_copy_4 (by decide) (fun c_4 => ?_) (fun c_4 => ?_)
    · skip
      have c_4 := bI_0 c_4
      exact absurd (in3 (by decide)) c_4
    · skip
      have c_4 := bI_1 c_4
      refine J_iload_n E dX5_copy_7 rfl 3 rfl ?_
      refine J_cSiN E (As := [.int (nI 2)]) (c_X5_isSheet l G (nI 2) ) cl_X5_202 yo_X5_isSheet dX5_copy_8 rfl (Nat.le_of_ble_eq_true rfl) (Nat.le_of_ble_eq_true rfl) rfl (Nat.le_of_ble_eq_true rfl) ⟨Nat.zero_le _, Nat.zero_le _⟩ ?_
      refine J_if_ne E (tgt := 20) dX5_copy_11 (by decide) (fun c_11 => ?_) (fun c_11 => ?_)
      · skip
        have c_11 := bI_1 c_11
        refine J_aload_n E dX5_copy_20 rfl 0 rfl ?_
        refine gC0_X5_44 E dX5_copy_21 ?_
        refine J_iload_n E dX5_copy_24 rfl 1 rfl ?_
        refine laC_30_1 E dX5_copy_25 ?_
        refine J_astore E (lv' := [(6, .ref (a 33)), (0, .ref (a 0)), (1, .int (nI 1)), (2, .int f), (3, .int (nI 2)), (4, .int o), (5, .int n)]) dX5_copy_26 (by decide) rfl ?_
        refine J_aload_n E dX5_copy_28 rfl 1 rfl ?_
        refine gC0_X5_44 E dX5_copy_29 ?_
        refine J_iload_n E dX5_copy_32 rfl 4 rfl ?_
        refine laC_30_2 E dX5_copy_33 ?_
        refine J_astore E (lv' := [(7, .ref (a 35)), (6, .ref (a 33)), (0, .ref (a 0)), (1, .int (nI 1)), (2, .int f), (3, .int (nI 2)), (4, .int o), (5, .int n)]) dX5_copy_34 (by decide) rfl ?_
        refine J_aload E dX5_copy_36 1 rfl ?_
        refine J_si9r E (As := []) (c_X2_isMissing l G (sh a 33) (x 9) ) cl_X5_212 yo_X2_isMissing dX5_copy_38 rfl (Nat.le_of_ble_eq_true rfl) (Nat.le_of_ble_eq_true rfl) rfl (Nat.le_of_ble_eq_true rfl) ⟨Nat.zero_le _, Nat.zero_le _⟩ ?_
        refine J_if_ne E (tgt := 52) dX5_copy_41 (by decide) (fun c_41 => ?_) (fun c_41 => ?_)
        · skip
          have c_41 := bI_1 c_41
          refine J_aload_n E dX5_copy_52 rfl 2 rfl ?_
          refine J_iconst E dX5_copy_53 ic_5 ?_
          refine J_cVi0 E (As := [.int 5]) (c_X5_tell l G a x 5 (by omega)) cl_X5_64 yo_X5_tell dX5_copy_54 rfl rfl rfl (Nat.le_of_ble_eq_true rfl) (Nat.le_of_ble_eq_true rfl) rfl (Nat.le_of_ble_eq_true rfl) ⟨Nat.zero_le _, Nat.zero_le _⟩ ?_
          exact ret _ _ _ _ ⟨rfl, _, rfl, by intro g h2 h6; simp [upG, up3, up3R, h2, h6]⟩ rfl dX5_copy_57
        · skip
          have c_41 := bI_0 c_41
          refine J_aload E dX5_copy_44 0 rfl ?_
          refine J_si10r E (As := []) (c_X2_isMissing l G (sh a 35) (x 10) ) cl_X5_212 yo_X2_isMissing dX5_copy_46 rfl (Nat.le_of_ble_eq_true rfl) (Nat.le_of_ble_eq_true rfl) rfl (Nat.le_of_ble_eq_true rfl) ⟨Nat.zero_le _, Nat.zero_le _⟩ ?_
          refine J_if_eq E (tgt := 58) dX5_copy_49 (by decide) (fun c_49 => ?_) (fun c_49 => ?_)
          · skip
            have c_49 := bI_0 c_49
            exact hb.elim c_41 c_49
          · skip
            have c_49 := bI_1 c_49
            refine J_aload_n E dX5_copy_52 rfl 2 rfl ?_
            refine J_iconst E dX5_copy_53 ic_5 ?_
            refine J_cVi0 E (As := [.int 5]) (c_X5_tell l G a x 5 (by omega)) cl_X5_64 yo_X5_tell dX5_copy_54 rfl rfl rfl (Nat.le_of_ble_eq_true rfl) (Nat.le_of_ble_eq_true rfl) rfl (Nat.le_of_ble_eq_true rfl) ⟨Nat.zero_le _, Nat.zero_le _⟩ ?_
            exact ret _ _ _ _ ⟨rfl, _, rfl, by intro g h2 h6; simp [upG, up3, up3R, h2, h6]⟩ rfl dX5_copy_57
      · skip
        have c_11 := bI_0 c_11
        exact absurd (in3 (by decide)) c_11
  · skip
    refine J_iload_n E dX5_copy_0 rfl 1 rfl ?_
    refine J_cSiN E (As := [.int (nI 1)]) (c_X5_isSheet l G (nI 1) ) cl_X5_202 yo_X5_isSheet dX5_copy_1 rfl (Nat.le_of_ble_eq_true rfl) (Nat.le_of_ble_eq_true rfl) rfl (Nat.le_of_ble_eq_true rfl) ⟨Nat.zero_le _, Nat.zero_le _⟩ ?_
    refine J_if_eq E (tgt := 14) dX5_copy_4 (by decide) (fun c_4 => ?_) (fun c_4 => ?_)
    · skip
      have c_4 := bI_0 c_4
      exact absurd (in3 (by decide)) c_4
    · skip
      have c_4 := bI_1 c_4
      refine J_iload_n E dX5_copy_7 rfl 3 rfl ?_
      refine J_cSiN E (As := [.int (nI 3)]) (c_X5_isSheet l G (nI 3) ) cl_X5_202 yo_X5_isSheet dX5_copy_8 rfl (Nat.le_of_ble_eq_true rfl) (Nat.le_of_ble_eq_true rfl) rfl (Nat.le_of_ble_eq_true rfl) ⟨Nat.zero_le _, Nat.zero_le _⟩ ?_
      refine J_if_ne E (tgt := 20) dX5_copy_11 (by decide) (fun c_11 => ?_) (fun c_11 => ?_)
      · skip
        have c_11 := bI_1 c_11
        refine J_aload_n E dX5_copy_20 rfl 0 rfl ?_
        refine gC0_X5_44 E dX5_copy_21 ?_
        refine J_iload_n E dX5_copy_24 rfl 1 rfl ?_
        refine laC_30_1 E dX5_copy_25 ?_
        refine J_astore E (lv' := [(6, .ref (a 33)), (0, .ref (a 0)), (1, .int (nI 1)), (2, .int f), (3, .int (nI 3)), (4, .int o), (5, .int n)]) dX5_copy_26 (by decide) rfl ?_
        refine J_aload_n E dX5_copy_28 rfl 1 rfl ?_
        refine gC0_X5_44 E dX5_copy_29 ?_
        refine J_iload_n E dX5_copy_32 rfl 4 rfl ?_
        refine laC_30_3 E dX5_copy_33 ?_
        refine J_astore E (lv' := [(7, .ref (a 37)), (6, .ref (a 33)), (0, .ref (a 0)), (1, .int (nI 1)), (2, .int f), (3, .int (nI 3)), (4, .int o), (5, .int n)]) dX5_copy_34 (by decide) rfl ?_
        refine J_aload E dX5_copy_36 1 rfl ?_
        refine J_si9r E (As := []) (c_X2_isMissing l G (sh a 33) (x 9) ) cl_X5_212 yo_X2_isMissing dX5_copy_38 rfl (Nat.le_of_ble_eq_true rfl) (Nat.le_of_ble_eq_true rfl) rfl (Nat.le_of_ble_eq_true rfl) ⟨Nat.zero_le _, Nat.zero_le _⟩ ?_
        refine J_if_ne E (tgt := 52) dX5_copy_41 (by decide) (fun c_41 => ?_) (fun c_41 => ?_)
        · skip
          have c_41 := bI_1 c_41
          refine J_aload_n E dX5_copy_52 rfl 2 rfl ?_
          refine J_iconst E dX5_copy_53 ic_5 ?_
          refine J_cVi0 E (As := [.int 5]) (c_X5_tell l G a x 5 (by omega)) cl_X5_64 yo_X5_tell dX5_copy_54 rfl rfl rfl (Nat.le_of_ble_eq_true rfl) (Nat.le_of_ble_eq_true rfl) rfl (Nat.le_of_ble_eq_true rfl) ⟨Nat.zero_le _, Nat.zero_le _⟩ ?_
          exact ret _ _ _ _ ⟨rfl, _, rfl, by intro g h2 h6; simp [upG, up3, up3R, h2, h6]⟩ rfl dX5_copy_57
        · skip
          have c_41 := bI_0 c_41
          refine J_aload E dX5_copy_44 0 rfl ?_
          refine J_si11r E (As := []) (c_X2_isMissing l G (sh a 37) (x 11) ) cl_X5_212 yo_X2_isMissing dX5_copy_46 rfl (Nat.le_of_ble_eq_true rfl) (Nat.le_of_ble_eq_true rfl) rfl (Nat.le_of_ble_eq_true rfl) ⟨Nat.zero_le _, Nat.zero_le _⟩ ?_
          refine J_if_eq E (tgt := 58) dX5_copy_49 (by decide) (fun c_49 => ?_) (fun c_49 => ?_)
          · skip
            have c_49 := bI_0 c_49
            exact hb.elim c_41 c_49
          · skip
            have c_49 := bI_1 c_49
            refine J_aload_n E dX5_copy_52 rfl 2 rfl ?_
            refine J_iconst E dX5_copy_53 ic_5 ?_
            refine J_cVi0 E (As := [.int 5]) (c_X5_tell l G a x 5 (by omega)) cl_X5_64 yo_X5_tell dX5_copy_54 rfl rfl rfl (Nat.le_of_ble_eq_true rfl) (Nat.le_of_ble_eq_true rfl) rfl (Nat.le_of_ble_eq_true rfl) ⟨Nat.zero_le _, Nat.zero_le _⟩ ?_
            exact ret _ _ _ _ ⟨rfl, _, rfl, by intro g h2 h6; simp [upG, up3, up3R, h2, h6]⟩ rfl dX5_copy_57
      · skip
        have c_11 := bI_0 c_11
        exact absurd (in3 (by decide)) c_11
  · skip
    refine J_iload_n E dX5_copy_0 rfl 1 rfl ?_
    refine J_cSiN E (As := [.int (nI 2)]) (c_X5_isSheet l G (nI 2) ) cl_X5_202 yo_X5_isSheet dX5_copy_1 rfl (Nat.le_of_ble_eq_true rfl) (Nat.le_of_ble_eq_true rfl) rfl (Nat.le_of_ble_eq_true rfl) ⟨Nat.zero_le _, Nat.zero_le _⟩ ?_
    refine J_if_eq E (tgt := 14) dX5_copy_4 (by decide) (fun c_4 => ?_) (fun c_4 => ?_)
    · skip
      have c_4 := bI_0 c_4
      exact absurd (in3 (by decide)) c_4
    · skip
      have c_4 := bI_1 c_4
      refine J_iload_n E dX5_copy_7 rfl 3 rfl ?_
      refine J_cSiN E (As := [.int (nI 0)]) (c_X5_isSheet l G (nI 0) ) cl_X5_202 yo_X5_isSheet dX5_copy_8 rfl (Nat.le_of_ble_eq_true rfl) (Nat.le_of_ble_eq_true rfl) rfl (Nat.le_of_ble_eq_true rfl) ⟨Nat.zero_le _, Nat.zero_le _⟩ ?_
      refine J_if_ne E (tgt := 20) dX5_copy_11 (by decide) (fun c_11 => ?_) (fun c_11 => ?_)
      · skip
        have c_11 := bI_1 c_11
        refine J_aload_n E dX5_copy_20 rfl 0 rfl ?_
        refine gC0_X5_44 E dX5_copy_21 ?_
        refine J_iload_n E dX5_copy_24 rfl 1 rfl ?_
        refine laC_30_2 E dX5_copy_25 ?_
        refine J_astore E (lv' := [(6, .ref (a 35)), (0, .ref (a 0)), (1, .int (nI 2)), (2, .int f), (3, .int (nI 0)), (4, .int o), (5, .int n)]) dX5_copy_26 (by decide) rfl ?_
        refine J_aload_n E dX5_copy_28 rfl 1 rfl ?_
        refine gC0_X5_44 E dX5_copy_29 ?_
        refine J_iload_n E dX5_copy_32 rfl 4 rfl ?_
        refine laC_30_0 E dX5_copy_33 ?_
        refine J_astore E (lv' := [(7, .ref (a 31)), (6, .ref (a 35)), (0, .ref (a 0)), (1, .int (nI 2)), (2, .int f), (3, .int (nI 0)), (4, .int o), (5, .int n)]) dX5_copy_34 (by decide) rfl ?_
        refine J_aload E dX5_copy_36 1 rfl ?_
        refine J_si10r E (As := []) (c_X2_isMissing l G (sh a 35) (x 10) ) cl_X5_212 yo_X2_isMissing dX5_copy_38 rfl (Nat.le_of_ble_eq_true rfl) (Nat.le_of_ble_eq_true rfl) rfl (Nat.le_of_ble_eq_true rfl) ⟨Nat.zero_le _, Nat.zero_le _⟩ ?_
        refine J_if_ne E (tgt := 52) dX5_copy_41 (by decide) (fun c_41 => ?_) (fun c_41 => ?_)
        · skip
          have c_41 := bI_1 c_41
          refine J_aload_n E dX5_copy_52 rfl 2 rfl ?_
          refine J_iconst E dX5_copy_53 ic_5 ?_
          refine J_cVi0 E (As := [.int 5]) (c_X5_tell l G a x 5 (by omega)) cl_X5_64 yo_X5_tell dX5_copy_54 rfl rfl rfl (Nat.le_of_ble_eq_true rfl) (Nat.le_of_ble_eq_true rfl) rfl (Nat.le_of_ble_eq_true rfl) ⟨Nat.zero_le _, Nat.zero_le _⟩ ?_
          exact ret _ _ _ _ ⟨rfl, _, rfl, by intro g h2 h6; simp [upG, up3, up3R, h2, h6]⟩ rfl dX5_copy_57
        · skip
          have c_41 := bI_0 c_41
          refine J_aload E dX5_copy_44 0 rfl ?_
          refine J_si8r E (As := []) (c_X2_isMissing l G (sh a 31) (x 8) ) cl_X5_212 yo_X2_isMissing dX5_copy_46 rfl (Nat.le_of_ble_eq_true rfl) (Nat.le_of_ble_eq_true rfl) rfl (Nat.le_of_ble_eq_true rfl) ⟨Nat.zero_le _, Nat.zero_le _⟩ ?_
          refine J_if_eq E (tgt := 58) dX5_copy_49 (by decide) (fun c_49 => ?_) (fun c_49 => ?_)
          · skip
            have c_49 := bI_0 c_49
            exact hb.elim c_41 c_49
          · skip
            have c_49 := bI_1 c_49
            refine J_aload_n E dX5_copy_52 rfl 2 rfl ?_
            refine J_iconst E dX5_copy_53 ic_5 ?_
            refine J_cVi0 E (As := [.int 5]) (c_X5_tell l G a x 5 (by omega)) cl_X5_64 yo_X5_tell dX5_copy_54 rfl rfl rfl (Nat.le_of_ble_eq_true rfl) (Nat.le_of_ble_eq_true rfl) rfl (Nat.le_of_ble_eq_true rfl) ⟨Nat.zero_le _, Nat.zero_le _⟩ ?_
            exact ret _ _ _ _ ⟨rfl, _, rfl, by intro g h2 h6; simp [upG, up3, up3R, h2, h6]⟩ rfl dX5_copy_57
      · skip
        have c_11 := bI_0 c_11
        exact absurd (in3 (by decide)) c_11
  · skip
    refine J_iload_n E dX5_copy_0 rfl 1 rfl ?_
    refine J_cSiN E (As := [.int (nI 2)]) (c_X5_isSheet l G (nI 2) ) cl_X5_202 yo_X5_isSheet dX5_copy_1 rfl (Nat.le_of_ble_eq_true rfl) (Nat.le_of_ble_eq_true rfl) rfl (Nat.le_of_ble_eq_true rfl) ⟨Nat.zero_le _, Nat.zero_le _⟩ ?_
    refine J_if_eq E (tgt := 14) dX5_copy_4 (by decide) (fun c_4 => ?_) (fun c_4 => ?_)
    · skip
      have c_4 := bI_0 c_4
      exact absurd (in3 (by decide)) c_4
    · skip
      have c_4 := bI_1 c_4
      refine J_iload_n E dX5_copy_7 rfl 3 rfl ?_
      refine J_cSiN E (As := [.int (nI 1)]) (c_X5_isSheet l G (nI 1) ) cl_X5_202 yo_X5_isSheet dX5_copy_8 rfl (Nat.le_of_ble_eq_true rfl) (Nat.le_of_ble_eq_true rfl) rfl (Nat.le_of_ble_eq_true rfl) ⟨Nat.zero_le _, Nat.zero_le _⟩ ?_
      refine J_if_ne E (tgt := 20) dX5_copy_11 (by decide) (fun c_11 => ?_) (fun c_11 => ?_)
      · skip
        have c_11 := bI_1 c_11
        refine J_aload_n E dX5_copy_20 rfl 0 rfl ?_
        refine gC0_X5_44 E dX5_copy_21 ?_
        refine J_iload_n E dX5_copy_24 rfl 1 rfl ?_
        refine laC_30_2 E dX5_copy_25 ?_
        refine J_astore E (lv' := [(6, .ref (a 35)), (0, .ref (a 0)), (1, .int (nI 2)), (2, .int f), (3, .int (nI 1)), (4, .int o), (5, .int n)]) dX5_copy_26 (by decide) rfl ?_
        refine J_aload_n E dX5_copy_28 rfl 1 rfl ?_
        refine gC0_X5_44 E dX5_copy_29 ?_
        refine J_iload_n E dX5_copy_32 rfl 4 rfl ?_
        refine laC_30_1 E dX5_copy_33 ?_
        refine J_astore E (lv' := [(7, .ref (a 33)), (6, .ref (a 35)), (0, .ref (a 0)), (1, .int (nI 2)), (2, .int f), (3, .int (nI 1)), (4, .int o), (5, .int n)]) dX5_copy_34 (by decide) rfl ?_
        refine J_aload E dX5_copy_36 1 rfl ?_
        refine J_si10r E (As := []) (c_X2_isMissing l G (sh a 35) (x 10) ) cl_X5_212 yo_X2_isMissing dX5_copy_38 rfl (Nat.le_of_ble_eq_true rfl) (Nat.le_of_ble_eq_true rfl) rfl (Nat.le_of_ble_eq_true rfl) ⟨Nat.zero_le _, Nat.zero_le _⟩ ?_
        refine J_if_ne E (tgt := 52) dX5_copy_41 (by decide) (fun c_41 => ?_) (fun c_41 => ?_)
        · skip
          have c_41 := bI_1 c_41
          refine J_aload_n E dX5_copy_52 rfl 2 rfl ?_
          refine J_iconst E dX5_copy_53 ic_5 ?_
          refine J_cVi0 E (As := [.int 5]) (c_X5_tell l G a x 5 (by omega)) cl_X5_64 yo_X5_tell dX5_copy_54 rfl rfl rfl (Nat.le_of_ble_eq_true rfl) (Nat.le_of_ble_eq_true rfl) rfl (Nat.le_of_ble_eq_true rfl) ⟨Nat.zero_le _, Nat.zero_le _⟩ ?_
          exact ret _ _ _ _ ⟨rfl, _, rfl, by intro g h2 h6; simp [upG, up3, up3R, h2, h6]⟩ rfl dX5_copy_57
        · skip
          have c_41 := bI_0 c_41
          refine J_aload E dX5_copy_44 0 rfl ?_
          refine J_si9r E (As := []) (c_X2_isMissing l G (sh a 33) (x 9) ) cl_X5_212 yo_X2_isMissing dX5_copy_46 rfl (Nat.le_of_ble_eq_true rfl) (Nat.le_of_ble_eq_true rfl) rfl (Nat.le_of_ble_eq_true rfl) ⟨Nat.zero_le _, Nat.zero_le _⟩ ?_
          refine J_if_eq E (tgt := 58) dX5_copy_49 (by decide) (fun c_49 => ?_) (fun c_49 => ?_)
          · skip
            have c_49 := bI_0 c_49
            exact hb.elim c_41 c_49
          · skip
            have c_49 := bI_1 c_49
            refine J_aload_n E dX5_copy_52 rfl 2 rfl ?_
            refine J_iconst E dX5_copy_53 ic_5 ?_
            refine J_cVi0 E (As := [.int 5]) (c_X5_tell l G a x 5 (by omega)) cl_X5_64 yo_X5_tell dX5_copy_54 rfl rfl rfl (Nat.le_of_ble_eq_true rfl) (Nat.le_of_ble_eq_true rfl) rfl (Nat.le_of_ble_eq_true rfl) ⟨Nat.zero_le _, Nat.zero_le _⟩ ?_
            exact ret _ _ _ _ ⟨rfl, _, rfl, by intro g h2 h6; simp [upG, up3, up3R, h2, h6]⟩ rfl dX5_copy_57
      · skip
        have c_11 := bI_0 c_11
        exact absurd (in3 (by decide)) c_11
  · skip
    refine J_iload_n E dX5_copy_0 rfl 1 rfl ?_
    refine J_cSiN E (As := [.int (nI 2)]) (c_X5_isSheet l G (nI 2) ) cl_X5_202 yo_X5_isSheet dX5_copy_1 rfl (Nat.le_of_ble_eq_true rfl) (Nat.le_of_ble_eq_true rfl) rfl (Nat.le_of_ble_eq_true rfl) ⟨Nat.zero_le _, Nat.zero_le _⟩ ?_
    refine J_if_eq E (tgt := 14) dX5_copy_4 (by decide) (fun c_4 => ?_) (fun c_4 => ?_)
    · skip
      have c_4 := bI_0 c_4
      exact absurd (in3 (by decide)) c_4
    · skip
      have c_4 := bI_1 c_4
      refine J_iload_n E dX5_copy_7 rfl 3 rfl ?_
      refine J_cSiN E (As := [.int (nI 2)]) (c_X5_isSheet l G (nI 2) ) cl_X5_202 yo_X5_isSheet dX5_copy_8 rfl (Nat.le_of_ble_eq_true rfl) (Nat.le_of_ble_eq_true rfl) rfl (Nat.le_of_ble_eq_true rfl) ⟨Nat.zero_le _, Nat.zero_le _⟩ ?_
      refine J_if_ne E (tgt := 20) dX5_copy_11 (by decide) (fun c_11 => ?_) (fun c_11 => ?_)
      · skip
        have c_11 := bI_1 c_11
        refine J_aload_n E dX5_copy_20 rfl 0 rfl ?_
        refine gC0_X5_44 E dX5_copy_21 ?_
        refine J_iload_n E dX5_copy_24 rfl 1 rfl ?_
        refine laC_30_2 E dX5_copy_25 ?_
        refine J_astore E (lv' := [(6, .ref (a 35)), (0, .ref (a 0)), (1, .int (nI 2)), (2, .int f), (3, .int (nI 2)), (4, .int o), (5, .int n)]) dX5_copy_26 (by decide) rfl ?_
        refine J_aload_n E dX5_copy_28 rfl 1 rfl ?_
        refine gC0_X5_44 E dX5_copy_29 ?_
        refine J_iload_n E dX5_copy_32 rfl 4 rfl ?_
        refine laC_30_2 E dX5_copy_33 ?_
        refine J_astore E (lv' := [(7, .ref (a 35)), (6, .ref (a 35)), (0, .ref (a 0)), (1, .int (nI 2)), (2, .int f), (3, .int (nI 2)), (4, .int o), (5, .int n)]) dX5_copy_34 (by decide) rfl ?_
        refine J_aload E dX5_copy_36 1 rfl ?_
        refine J_si10r E (As := []) (c_X2_isMissing l G (sh a 35) (x 10) ) cl_X5_212 yo_X2_isMissing dX5_copy_38 rfl (Nat.le_of_ble_eq_true rfl) (Nat.le_of_ble_eq_true rfl) rfl (Nat.le_of_ble_eq_true rfl) ⟨Nat.zero_le _, Nat.zero_le _⟩ ?_
        refine J_if_ne E (tgt := 52) dX5_copy_41 (by decide) (fun c_41 => ?_) (fun c_41 => ?_)
        · skip
          have c_41 := bI_1 c_41
          refine J_aload_n E dX5_copy_52 rfl 2 rfl ?_
          refine J_iconst E dX5_copy_53 ic_5 ?_
          refine J_cVi0 E (As := [.int 5]) (c_X5_tell l G a x 5 (by omega)) cl_X5_64 yo_X5_tell dX5_copy_54 rfl rfl rfl (Nat.le_of_ble_eq_true rfl) (Nat.le_of_ble_eq_true rfl) rfl (Nat.le_of_ble_eq_true rfl) ⟨Nat.zero_le _, Nat.zero_le _⟩ ?_
          exact ret _ _ _ _ ⟨rfl, _, rfl, by intro g h2 h6; simp [upG, up3, up3R, h2, h6]⟩ rfl dX5_copy_57
        · skip
          have c_41 := bI_0 c_41
          refine J_aload E dX5_copy_44 0 rfl ?_
          refine J_si10r E (As := []) (c_X2_isMissing l G (sh a 35) (x 10) ) cl_X5_212 yo_X2_isMissing dX5_copy_46 rfl (Nat.le_of_ble_eq_true rfl) (Nat.le_of_ble_eq_true rfl) rfl (Nat.le_of_ble_eq_true rfl) ⟨Nat.zero_le _, Nat.zero_le _⟩ ?_
          refine J_if_eq E (tgt := 58) dX5_copy_49 (by decide) (fun c_49 => ?_) (fun c_49 => ?_)
          · skip
            have c_49 := bI_0 c_49
            exact hb.elim c_41 c_49
          · skip
            have c_49 := bI_1 c_49
            refine J_aload_n E dX5_copy_52 rfl 2 rfl ?_
            refine J_iconst E dX5_copy_53 ic_5 ?_
            refine J_cVi0 E (As := [.int 5]) (c_X5_tell l G a x 5 (by omega)) cl_X5_64 yo_X5_tell dX5_copy_54 rfl rfl rfl (Nat.le_of_ble_eq_true rfl) (Nat.le_of_ble_eq_true rfl) rfl (Nat.le_of_ble_eq_true rfl) ⟨Nat.zero_le _, Nat.zero_le _⟩ ?_
            exact ret _ _ _ _ ⟨rfl, _, rfl, by intro g h2 h6; simp [upG, up3, up3R, h2, h6]⟩ rfl dX5_copy_57
      · skip
        have c_11 := bI_0 c_11
        exact absurd (in3 (by decide)) c_11
  · skip
    refine J_iload_n E dX5_copy_0 rfl 1 rfl ?_
    refine J_cSiN E (As := [.int (nI 2)]) (c_X5_isSheet l G (nI 2) ) cl_X5_202 yo_X5_isSheet dX5_copy_1 rfl (Nat.le_of_ble_eq_true rfl) (Nat.le_of_ble_eq_true rfl) rfl (Nat.le_of_ble_eq_true rfl) ⟨Nat.zero_le _, Nat.zero_le _⟩ ?_
    refine J_if_eq E (tgt := 14) dX5_copy_4 (by decide) (fun c_4 => ?_) (fun c_4 => ?_)
    · skip
      have c_4 := bI_0 c_4
      exact absurd (in3 (by decide)) c_4
    · skip
      have c_4 := bI_1 c_4
      refine J_iload_n E dX5_copy_7 rfl 3 rfl ?_
      refine J_cSiN E (As := [.int (nI 3)]) (c_X5_isSheet l G (nI 3) ) cl_X5_202 yo_X5_isSheet dX5_copy_8 rfl (Nat.le_of_ble_eq_true rfl) (Nat.le_of_ble_eq_true rfl) rfl (Nat.le_of_ble_eq_true rfl) ⟨Nat.zero_le _, Nat.zero_le _⟩ ?_
      refine J_if_ne E (tgt := 20) dX5_copy_11 (by decide) (fun c_11 => ?_) (fun c_11 => ?_)
      · skip
        have c_11 := bI_1 c_11
        refine J_aload_n E dX5_copy_20 rfl 0 rfl ?_
        refine gC0_X5_44 E dX5_copy_21 ?_
        refine J_iload_n E dX5_copy_24 rfl 1 rfl ?_
        refine laC_30_2 E dX5_copy_25 ?_
        refine J_astore E (lv' := [(6, .ref (a 35)), (0, .ref (a 0)), (1, .int (nI 2)), (2, .int f), (3, .int (nI 3)), (4, .int o), (5, .int n)]) dX5_copy_26 (by decide) rfl ?_
        refine J_aload_n E dX5_copy_28 rfl 1 rfl ?_
        refine gC0_X5_44 E dX5_copy_29 ?_
        refine J_iload_n E dX5_copy_32 rfl 4 rfl ?_
        refine laC_30_3 E dX5_copy_33 ?_
        refine J_astore E (lv' := [(7, .ref (a 37)), (6, .ref (a 35)), (0, .ref (a 0)), (1, .int (nI 2)), (2, .int f), (3, .int (nI 3)), (4, .int o), (5, .int n)]) dX5_copy_34 (by decide) rfl ?_
        refine J_aload E dX5_copy_36 1 rfl ?_
        refine J_si10r E (As := []) (c_X2_isMissing l G (sh a 35) (x 10) ) cl_X5_212 yo_X2_isMissing dX5_copy_38 rfl (Nat.le_of_ble_eq_true rfl) (Nat.le_of_ble_eq_true rfl) rfl (Nat.le_of_ble_eq_true rfl) ⟨Nat.zero_le _, Nat.zero_le _⟩ ?_
        refine J_if_ne E (tgt := 52) dX5_copy_41 (by decide) (fun c_41 => ?_) (fun c_41 => ?_)
        · skip
          have c_41 := bI_1 c_41
          refine J_aload_n E dX5_copy_52 rfl 2 rfl ?_
          refine J_iconst E dX5_copy_53 ic_5 ?_
          refine J_cVi0 E (As := [.int 5]) (c_X5_tell l G a x 5 (by omega)) cl_X5_64 yo_X5_tell dX5_copy_54 rfl rfl rfl (Nat.le_of_ble_eq_true rfl) (Nat.le_of_ble_eq_true rfl) rfl (Nat.le_of_ble_eq_true rfl) ⟨Nat.zero_le _, Nat.zero_le _⟩ ?_
          exact ret _ _ _ _ ⟨rfl, _, rfl, by intro g h2 h6; simp [upG, up3, up3R, h2, h6]⟩ rfl dX5_copy_57
        · skip
          have c_41 := bI_0 c_41
          refine J_aload E dX5_copy_44 0 rfl ?_
          refine J_si11r E (As := []) (c_X2_isMissing l G (sh a 37) (x 11) ) cl_X5_212 yo_X2_isMissing dX5_copy_46 rfl (Nat.le_of_ble_eq_true rfl) (Nat.le_of_ble_eq_true rfl) rfl (Nat.le_of_ble_eq_true rfl) ⟨Nat.zero_le _, Nat.zero_le _⟩ ?_
          refine J_if_eq E (tgt := 58) dX5_copy_49 (by decide) (fun c_49 => ?_) (fun c_49 => ?_)
          · skip
            have c_49 := bI_0 c_49
            exact hb.elim c_41 c_49
          · skip
            have c_49 := bI_1 c_49
            refine J_aload_n E dX5_copy_52 rfl 2 rfl ?_
            refine J_iconst E dX5_copy_53 ic_5 ?_
            refine J_cVi0 E (As := [.int 5]) (c_X5_tell l G a x 5 (by omega)) cl_X5_64 yo_X5_tell dX5_copy_54 rfl rfl rfl (Nat.le_of_ble_eq_true rfl) (Nat.le_of_ble_eq_true rfl) rfl (Nat.le_of_ble_eq_true rfl) ⟨Nat.zero_le _, Nat.zero_le _⟩ ?_
            exact ret _ _ _ _ ⟨rfl, _, rfl, by intro g h2 h6; simp [upG, up3, up3R, h2, h6]⟩ rfl dX5_copy_57
      · skip
        have c_11 := bI_0 c_11
        exact absurd (in3 (by decide)) c_11
  · skip
    refine J_iload_n E dX5_copy_0 rfl 1 rfl ?_
    refine J_cSiN E (As := [.int (nI 3)]) (c_X5_isSheet l G (nI 3) ) cl_X5_202 yo_X5_isSheet dX5_copy_1 rfl (Nat.le_of_ble_eq_true rfl) (Nat.le_of_ble_eq_true rfl) rfl (Nat.le_of_ble_eq_true rfl) ⟨Nat.zero_le _, Nat.zero_le _⟩ ?_
    refine J_if_eq E (tgt := 14) dX5_copy_4 (by decide) (fun c_4 => ?_) (fun c_4 => ?_)
    · skip
      have c_4 := bI_0 c_4
      exact absurd (in3 (by decide)) c_4
    · skip
      have c_4 := bI_1 c_4
      refine J_iload_n E dX5_copy_7 rfl 3 rfl ?_
      refine J_cSiN E (As := [.int (nI 0)]) (c_X5_isSheet l G (nI 0) ) cl_X5_202 yo_X5_isSheet dX5_copy_8 rfl (Nat.le_of_ble_eq_true rfl) (Nat.le_of_ble_eq_true rfl) rfl (Nat.le_of_ble_eq_true rfl) ⟨Nat.zero_le _, Nat.zero_le _⟩ ?_
      refine J_if_ne E (tgt := 20) dX5_copy_11 (by decide) (fun c_11 => ?_) (fun c_11 => ?_)
      · skip
        have c_11 := bI_1 c_11
        refine J_aload_n E dX5_copy_20 rfl 0 rfl ?_
        refine gC0_X5_44 E dX5_copy_21 ?_
        refine J_iload_n E dX5_copy_24 rfl 1 rfl ?_
        refine laC_30_3 E dX5_copy_25 ?_
        refine J_astore E (lv' := [(6, .ref (a 37)), (0, .ref (a 0)), (1, .int (nI 3)), (2, .int f), (3, .int (nI 0)), (4, .int o), (5, .int n)]) dX5_copy_26 (by decide) rfl ?_
        refine J_aload_n E dX5_copy_28 rfl 1 rfl ?_
        refine gC0_X5_44 E dX5_copy_29 ?_
        refine J_iload_n E dX5_copy_32 rfl 4 rfl ?_
        refine laC_30_0 E dX5_copy_33 ?_
        refine J_astore E (lv' := [(7, .ref (a 31)), (6, .ref (a 37)), (0, .ref (a 0)), (1, .int (nI 3)), (2, .int f), (3, .int (nI 0)), (4, .int o), (5, .int n)]) dX5_copy_34 (by decide) rfl ?_
        refine J_aload E dX5_copy_36 1 rfl ?_
        refine J_si11r E (As := []) (c_X2_isMissing l G (sh a 37) (x 11) ) cl_X5_212 yo_X2_isMissing dX5_copy_38 rfl (Nat.le_of_ble_eq_true rfl) (Nat.le_of_ble_eq_true rfl) rfl (Nat.le_of_ble_eq_true rfl) ⟨Nat.zero_le _, Nat.zero_le _⟩ ?_
        refine J_if_ne E (tgt := 52) dX5_copy_41 (by decide) (fun c_41 => ?_) (fun c_41 => ?_)
        · skip
          have c_41 := bI_1 c_41
          refine J_aload_n E dX5_copy_52 rfl 2 rfl ?_
          refine J_iconst E dX5_copy_53 ic_5 ?_
          refine J_cVi0 E (As := [.int 5]) (c_X5_tell l G a x 5 (by omega)) cl_X5_64 yo_X5_tell dX5_copy_54 rfl rfl rfl (Nat.le_of_ble_eq_true rfl) (Nat.le_of_ble_eq_true rfl) rfl (Nat.le_of_ble_eq_true rfl) ⟨Nat.zero_le _, Nat.zero_le _⟩ ?_
          exact ret _ _ _ _ ⟨rfl, _, rfl, by intro g h2 h6; simp [upG, up3, up3R, h2, h6]⟩ rfl dX5_copy_57
        · skip
          have c_41 := bI_0 c_41
          refine J_aload E dX5_copy_44 0 rfl ?_
          refine J_si8r E (As := []) (c_X2_isMissing l G (sh a 31) (x 8) ) cl_X5_212 yo_X2_isMissing dX5_copy_46 rfl (Nat.le_of_ble_eq_true rfl) (Nat.le_of_ble_eq_true rfl) rfl (Nat.le_of_ble_eq_true rfl) ⟨Nat.zero_le _, Nat.zero_le _⟩ ?_
          refine J_if_eq E (tgt := 58) dX5_copy_49 (by decide) (fun c_49 => ?_) (fun c_49 => ?_)
          · skip
            have c_49 := bI_0 c_49
            exact hb.elim c_41 c_49
          · skip
            have c_49 := bI_1 c_49
            refine J_aload_n E dX5_copy_52 rfl 2 rfl ?_
            refine J_iconst E dX5_copy_53 ic_5 ?_
            refine J_cVi0 E (As := [.int 5]) (c_X5_tell l G a x 5 (by omega)) cl_X5_64 yo_X5_tell dX5_copy_54 rfl rfl rfl (Nat.le_of_ble_eq_true rfl) (Nat.le_of_ble_eq_true rfl) rfl (Nat.le_of_ble_eq_true rfl) ⟨Nat.zero_le _, Nat.zero_le _⟩ ?_
            exact ret _ _ _ _ ⟨rfl, _, rfl, by intro g h2 h6; simp [upG, up3, up3R, h2, h6]⟩ rfl dX5_copy_57
      · skip
        have c_11 := bI_0 c_11
        exact absurd (in3 (by decide)) c_11
  · skip
    refine J_iload_n E dX5_copy_0 rfl 1 rfl ?_
    refine J_cSiN E (As := [.int (nI 3)]) (c_X5_isSheet l G (nI 3) ) cl_X5_202 yo_X5_isSheet dX5_copy_1 rfl (Nat.le_of_ble_eq_true rfl) (Nat.le_of_ble_eq_true rfl) rfl (Nat.le_of_ble_eq_true rfl) ⟨Nat.zero_le _, Nat.zero_le _⟩ ?_
    refine J_if_eq E (tgt := 14) dX5_copy_4 (by decide) (fun c_4 => ?_) (fun c_4 => ?_)
    · skip
      have c_4 := bI_0 c_4
      exact absurd (in3 (by decide)) c_4
    · skip
      have c_4 := bI_1 c_4
      refine J_iload_n E dX5_copy_7 rfl 3 rfl ?_
      refine J_cSiN E (As := [.int (nI 1)]) (c_X5_isSheet l G (nI 1) ) cl_X5_202 yo_X5_isSheet dX5_copy_8 rfl (Nat.le_of_ble_eq_true rfl) (Nat.le_of_ble_eq_true rfl) rfl (Nat.le_of_ble_eq_true rfl) ⟨Nat.zero_le _, Nat.zero_le _⟩ ?_
      refine J_if_ne E (tgt := 20) dX5_copy_11 (by decide) (fun c_11 => ?_) (fun c_11 => ?_)
      · skip
        have c_11 := bI_1 c_11
        refine J_aload_n E dX5_copy_20 rfl 0 rfl ?_
        refine gC0_X5_44 E dX5_copy_21 ?_
        refine J_iload_n E dX5_copy_24 rfl 1 rfl ?_
        refine laC_30_3 E dX5_copy_25 ?_
        refine J_astore E (lv' := [(6, .ref (a 37)), (0, .ref (a 0)), (1, .int (nI 3)), (2, .int f), (3, .int (nI 1)), (4, .int o), (5, .int n)]) dX5_copy_26 (by decide) rfl ?_
        refine J_aload_n E dX5_copy_28 rfl 1 rfl ?_
        refine gC0_X5_44 E dX5_copy_29 ?_
        refine J_iload_n E dX5_copy_32 rfl 4 rfl ?_
        refine laC_30_1 E dX5_copy_33 ?_
        refine J_astore E (lv' := [(7, .ref (a 33)), (6, .ref (a 37)), (0, .ref (a 0)), (1, .int (nI 3)), (2, .int f), (3, .int (nI 1)), (4, .int o), (5, .int n)]) dX5_copy_34 (by decide) rfl ?_
        refine J_aload E dX5_copy_36 1 rfl ?_
        refine J_si11r E (As := []) (c_X2_isMissing l G (sh a 37) (x 11) ) cl_X5_212 yo_X2_isMissing dX5_copy_38 rfl (Nat.le_of_ble_eq_true rfl) (Nat.le_of_ble_eq_true rfl) rfl (Nat.le_of_ble_eq_true rfl) ⟨Nat.zero_le _, Nat.zero_le _⟩ ?_
        refine J_if_ne E (tgt := 52) dX5_copy_41 (by decide) (fun c_41 => ?_) (fun c_41 => ?_)
        · skip
          have c_41 := bI_1 c_41
          refine J_aload_n E dX5_copy_52 rfl 2 rfl ?_
          refine J_iconst E dX5_copy_53 ic_5 ?_
          refine J_cVi0 E (As := [.int 5]) (c_X5_tell l G a x 5 (by omega)) cl_X5_64 yo_X5_tell dX5_copy_54 rfl rfl rfl (Nat.le_of_ble_eq_true rfl) (Nat.le_of_ble_eq_true rfl) rfl (Nat.le_of_ble_eq_true rfl) ⟨Nat.zero_le _, Nat.zero_le _⟩ ?_
          exact ret _ _ _ _ ⟨rfl, _, rfl, by intro g h2 h6; simp [upG, up3, up3R, h2, h6]⟩ rfl dX5_copy_57
        · skip
          have c_41 := bI_0 c_41
          refine J_aload E dX5_copy_44 0 rfl ?_
          refine J_si9r E (As := []) (c_X2_isMissing l G (sh a 33) (x 9) ) cl_X5_212 yo_X2_isMissing dX5_copy_46 rfl (Nat.le_of_ble_eq_true rfl) (Nat.le_of_ble_eq_true rfl) rfl (Nat.le_of_ble_eq_true rfl) ⟨Nat.zero_le _, Nat.zero_le _⟩ ?_
          refine J_if_eq E (tgt := 58) dX5_copy_49 (by decide) (fun c_49 => ?_) (fun c_49 => ?_)
          · skip
            have c_49 := bI_0 c_49
            exact hb.elim c_41 c_49
          · skip
            have c_49 := bI_1 c_49
            refine J_aload_n E dX5_copy_52 rfl 2 rfl ?_
            refine J_iconst E dX5_copy_53 ic_5 ?_
            refine J_cVi0 E (As := [.int 5]) (c_X5_tell l G a x 5 (by omega)) cl_X5_64 yo_X5_tell dX5_copy_54 rfl rfl rfl (Nat.le_of_ble_eq_true rfl) (Nat.le_of_ble_eq_true rfl) rfl (Nat.le_of_ble_eq_true rfl) ⟨Nat.zero_le _, Nat.zero_le _⟩ ?_
            exact ret _ _ _ _ ⟨rfl, _, rfl, by intro g h2 h6; simp [upG, up3, up3R, h2, h6]⟩ rfl dX5_copy_57
      · skip
        have c_11 := bI_0 c_11
        exact absurd (in3 (by decide)) c_11
  · skip
    refine J_iload_n E dX5_copy_0 rfl 1 rfl ?_
    refine J_cSiN E (As := [.int (nI 3)]) (c_X5_isSheet l G (nI 3) ) cl_X5_202 yo_X5_isSheet dX5_copy_1 rfl (Nat.le_of_ble_eq_true rfl) (Nat.le_of_ble_eq_true rfl) rfl (Nat.le_of_ble_eq_true rfl) ⟨Nat.zero_le _, Nat.zero_le _⟩ ?_
    refine J_if_eq E (tgt := 14) dX5_copy_4 (by decide) (fun c_4 => ?_) (fun c_4 => ?_)
    · skip
      have c_4 := bI_0 c_4
      exact absurd (in3 (by decide)) c_4
    · skip
      have c_4 := bI_1 c_4
      refine J_iload_n E dX5_copy_7 rfl 3 rfl ?_
      refine J_cSiN E (As := [.int (nI 2)]) (c_X5_isSheet l G (nI 2) ) cl_X5_202 yo_X5_isSheet dX5_copy_8 rfl (Nat.le_of_ble_eq_true rfl) (Nat.le_of_ble_eq_true rfl) rfl (Nat.le_of_ble_eq_true rfl) ⟨Nat.zero_le _, Nat.zero_le _⟩ ?_
      refine J_if_ne E (tgt := 20) dX5_copy_11 (by decide) (fun c_11 => ?_) (fun c_11 => ?_)
      · skip
        have c_11 := bI_1 c_11
        refine J_aload_n E dX5_copy_20 rfl 0 rfl ?_
        refine gC0_X5_44 E dX5_copy_21 ?_
        refine J_iload_n E dX5_copy_24 rfl 1 rfl ?_
        refine laC_30_3 E dX5_copy_25 ?_
        refine J_astore E (lv' := [(6, .ref (a 37)), (0, .ref (a 0)), (1, .int (nI 3)), (2, .int f), (3, .int (nI 2)), (4, .int o), (5, .int n)]) dX5_copy_26 (by decide) rfl ?_
        refine J_aload_n E dX5_copy_28 rfl 1 rfl ?_
        refine gC0_X5_44 E dX5_copy_29 ?_
        refine J_iload_n E dX5_copy_32 rfl 4 rfl ?_
        refine laC_30_2 E dX5_copy_33 ?_
        refine J_astore E (lv' := [(7, .ref (a 35)), (6, .ref (a 37)), (0, .ref (a 0)), (1, .int (nI 3)), (2, .int f), (3, .int (nI 2)), (4, .int o), (5, .int n)]) dX5_copy_34 (by decide) rfl ?_
        refine J_aload E dX5_copy_36 1 rfl ?_
        refine J_si11r E (As := []) (c_X2_isMissing l G (sh a 37) (x 11) ) cl_X5_212 yo_X2_isMissing dX5_copy_38 rfl (Nat.le_of_ble_eq_true rfl) (Nat.le_of_ble_eq_true rfl) rfl (Nat.le_of_ble_eq_true rfl) ⟨Nat.zero_le _, Nat.zero_le _⟩ ?_
        refine J_if_ne E (tgt := 52) dX5_copy_41 (by decide) (fun c_41 => ?_) (fun c_41 => ?_)
        · skip
          have c_41 := bI_1 c_41
          refine J_aload_n E dX5_copy_52 rfl 2 rfl ?_
          refine J_iconst E dX5_copy_53 ic_5 ?_
          refine J_cVi0 E (As := [.int 5]) (c_X5_tell l G a x 5 (by omega)) cl_X5_64 yo_X5_tell dX5_copy_54 rfl rfl rfl (Nat.le_of_ble_eq_true rfl) (Nat.le_of_ble_eq_true rfl) rfl (Nat.le_of_ble_eq_true rfl) ⟨Nat.zero_le _, Nat.zero_le _⟩ ?_
          exact ret _ _ _ _ ⟨rfl, _, rfl, by intro g h2 h6; simp [upG, up3, up3R, h2, h6]⟩ rfl dX5_copy_57
        · skip
          have c_41 := bI_0 c_41
          refine J_aload E dX5_copy_44 0 rfl ?_
          refine J_si10r E (As := []) (c_X2_isMissing l G (sh a 35) (x 10) ) cl_X5_212 yo_X2_isMissing dX5_copy_46 rfl (Nat.le_of_ble_eq_true rfl) (Nat.le_of_ble_eq_true rfl) rfl (Nat.le_of_ble_eq_true rfl) ⟨Nat.zero_le _, Nat.zero_le _⟩ ?_
          refine J_if_eq E (tgt := 58) dX5_copy_49 (by decide) (fun c_49 => ?_) (fun c_49 => ?_)
          · skip
            have c_49 := bI_0 c_49
            exact hb.elim c_41 c_49
          · skip
            have c_49 := bI_1 c_49
            refine J_aload_n E dX5_copy_52 rfl 2 rfl ?_
            refine J_iconst E dX5_copy_53 ic_5 ?_
            refine J_cVi0 E (As := [.int 5]) (c_X5_tell l G a x 5 (by omega)) cl_X5_64 yo_X5_tell dX5_copy_54 rfl rfl rfl (Nat.le_of_ble_eq_true rfl) (Nat.le_of_ble_eq_true rfl) rfl (Nat.le_of_ble_eq_true rfl) ⟨Nat.zero_le _, Nat.zero_le _⟩ ?_
            exact ret _ _ _ _ ⟨rfl, _, rfl, by intro g h2 h6; simp [upG, up3, up3R, h2, h6]⟩ rfl dX5_copy_57
      · skip
        have c_11 := bI_0 c_11
        exact absurd (in3 (by decide)) c_11
  · skip
    refine J_iload_n E dX5_copy_0 rfl 1 rfl ?_
    refine J_cSiN E (As := [.int (nI 3)]) (c_X5_isSheet l G (nI 3) ) cl_X5_202 yo_X5_isSheet dX5_copy_1 rfl (Nat.le_of_ble_eq_true rfl) (Nat.le_of_ble_eq_true rfl) rfl (Nat.le_of_ble_eq_true rfl) ⟨Nat.zero_le _, Nat.zero_le _⟩ ?_
    refine J_if_eq E (tgt := 14) dX5_copy_4 (by decide) (fun c_4 => ?_) (fun c_4 => ?_)
    · skip
      have c_4 := bI_0 c_4
      exact absurd (in3 (by decide)) c_4
    · skip
      have c_4 := bI_1 c_4
      refine J_iload_n E dX5_copy_7 rfl 3 rfl ?_
      refine J_cSiN E (As := [.int (nI 3)]) (c_X5_isSheet l G (nI 3) ) cl_X5_202 yo_X5_isSheet dX5_copy_8 rfl (Nat.le_of_ble_eq_true rfl) (Nat.le_of_ble_eq_true rfl) rfl (Nat.le_of_ble_eq_true rfl) ⟨Nat.zero_le _, Nat.zero_le _⟩ ?_
      refine J_if_ne E (tgt := 20) dX5_copy_11 (by decide) (fun c_11 => ?_) (fun c_11 => ?_)
      · skip
        have c_11 := bI_1 c_11
        refine J_aload_n E dX5_copy_20 rfl 0 rfl ?_
        refine gC0_X5_44 E dX5_copy_21 ?_
        refine J_iload_n E dX5_copy_24 rfl 1 rfl ?_
        refine laC_30_3 E dX5_copy_25 ?_
        refine J_astore E (lv' := [(6, .ref (a 37)), (0, .ref (a 0)), (1, .int (nI 3)), (2, .int f), (3, .int (nI 3)), (4, .int o), (5, .int n)]) dX5_copy_26 (by decide) rfl ?_
        refine J_aload_n E dX5_copy_28 rfl 1 rfl ?_
        refine gC0_X5_44 E dX5_copy_29 ?_
        refine J_iload_n E dX5_copy_32 rfl 4 rfl ?_
        refine laC_30_3 E dX5_copy_33 ?_
        refine J_astore E (lv' := [(7, .ref (a 37)), (6, .ref (a 37)), (0, .ref (a 0)), (1, .int (nI 3)), (2, .int f), (3, .int (nI 3)), (4, .int o), (5, .int n)]) dX5_copy_34 (by decide) rfl ?_
        refine J_aload E dX5_copy_36 1 rfl ?_
        refine J_si11r E (As := []) (c_X2_isMissing l G (sh a 37) (x 11) ) cl_X5_212 yo_X2_isMissing dX5_copy_38 rfl (Nat.le_of_ble_eq_true rfl) (Nat.le_of_ble_eq_true rfl) rfl (Nat.le_of_ble_eq_true rfl) ⟨Nat.zero_le _, Nat.zero_le _⟩ ?_
        refine J_if_ne E (tgt := 52) dX5_copy_41 (by decide) (fun c_41 => ?_) (fun c_41 => ?_)
        · skip
          have c_41 := bI_1 c_41
          refine J_aload_n E dX5_copy_52 rfl 2 rfl ?_
          refine J_iconst E dX5_copy_53 ic_5 ?_
          refine J_cVi0 E (As := [.int 5]) (c_X5_tell l G a x 5 (by omega)) cl_X5_64 yo_X5_tell dX5_copy_54 rfl rfl rfl (Nat.le_of_ble_eq_true rfl) (Nat.le_of_ble_eq_true rfl) rfl (Nat.le_of_ble_eq_true rfl) ⟨Nat.zero_le _, Nat.zero_le _⟩ ?_
          exact ret _ _ _ _ ⟨rfl, _, rfl, by intro g h2 h6; simp [upG, up3, up3R, h2, h6]⟩ rfl dX5_copy_57
        · skip
          have c_41 := bI_0 c_41
          refine J_aload E dX5_copy_44 0 rfl ?_
          refine J_si11r E (As := []) (c_X2_isMissing l G (sh a 37) (x 11) ) cl_X5_212 yo_X2_isMissing dX5_copy_46 rfl (Nat.le_of_ble_eq_true rfl) (Nat.le_of_ble_eq_true rfl) rfl (Nat.le_of_ble_eq_true rfl) ⟨Nat.zero_le _, Nat.zero_le _⟩ ?_
          refine J_if_eq E (tgt := 58) dX5_copy_49 (by decide) (fun c_49 => ?_) (fun c_49 => ?_)
          · skip
            have c_49 := bI_0 c_49
            exact hb.elim c_41 c_49
          · skip
            have c_49 := bI_1 c_49
            refine J_aload_n E dX5_copy_52 rfl 2 rfl ?_
            refine J_iconst E dX5_copy_53 ic_5 ?_
            refine J_cVi0 E (As := [.int 5]) (c_X5_tell l G a x 5 (by omega)) cl_X5_64 yo_X5_tell dX5_copy_54 rfl rfl rfl (Nat.le_of_ble_eq_true rfl) (Nat.le_of_ble_eq_true rfl) rfl (Nat.le_of_ble_eq_true rfl) ⟨Nat.zero_le _, Nat.zero_le _⟩ ?_
            exact ret _ _ _ _ ⟨rfl, _, rfl, by intro g h2 h6; simp [upG, up3, up3R, h2, h6]⟩ rfl dX5_copy_57
      · skip
        have c_11 := bI_0 c_11
        exact absurd (in3 (by decide)) c_11

set_option maxHeartbeats 4000000 in
set_option maxRecDepth 20000 in
theorem c_X5_copy_kind (l : Launch) (G : GB) (a : Nat → Nat) (x : Q3) (i k : Nat) (f o n : Int32) (hi : i < 4) (hk : k < 4)  (h1 : ¬ x (8 + i) 1 0 = 0) (h2 : ¬ x (8 + k) 1 0 = 0) (h3 : ¬ x (8 + i) 1 0 = x (8 + k) 1 0) : CI l yX5_copy cX5_copy 8 .int 2 41 G [.ref (a 0), .int (nI i), .int f, .int (nI k), .int o, .int n] (wC G a x) (fun vR w' => vR = tellR 2 ∧ PubC G a (tellX x 2) w') := by
  refine CI.mk (own := RX5) (by decide) rfl (Nat.le_of_ble_eq_true rfl) ?_
  intro X E ret
  show J X G 8 0 0 (wC G a x) [(0, .ref (a 0)), (1, .int (nI i)), (2, .int f), (3, .int (nI k)), (4, .int o), (5, .int n)] 0 []
  rcases (show (i = 0 ∧ k = 0) ∨ (i = 0 ∧ k = 1) ∨ (i = 0 ∧ k = 2) ∨ (i = 0 ∧ k = 3) ∨ (i = 1 ∧ k = 0) ∨ (i = 1 ∧ k = 1) ∨ (i = 1 ∧ k = 2) ∨ (i = 1 ∧ k = 3) ∨ (i = 2 ∧ k = 0) ∨ (i = 2 ∧ k = 1) ∨ (i = 2 ∧ k = 2) ∨ (i = 2 ∧ k = 3) ∨ (i = 3 ∧ k = 0) ∨ (i = 3 ∧ k = 1) ∨ (i = 3 ∧ k = 2) ∨ (i = 3 ∧ k = 3) by omega) with ⟨rfl, rfl⟩ | ⟨rfl, rfl⟩ | ⟨rfl, rfl⟩ | ⟨rfl, rfl⟩ | ⟨rfl, rfl⟩ | ⟨rfl, rfl⟩ | ⟨rfl, rfl⟩ | ⟨rfl, rfl⟩ | ⟨rfl, rfl⟩ | ⟨rfl, rfl⟩ | ⟨rfl, rfl⟩ | ⟨rfl, rfl⟩ | ⟨rfl, rfl⟩ | ⟨rfl, rfl⟩ | ⟨rfl, rfl⟩ | ⟨rfl, rfl⟩
  · skip
    refine J_iload_n E dX5_copy_0 rfl 1 rfl ?_
    refine J_cSiN E (As := [.int (nI 0)]) (c_X5_isSheet l G (nI 0) ) cl_X5_202 yo_X5_isSheet dX5_copy_1 rfl (Nat.le_of_ble_eq_true rfl) (Nat.le_of_ble_eq_true rfl) rfl (Nat.le_of_ble_eq_true rfl) ⟨Nat.zero_le _, Nat.zero_le _⟩ ?_
    refine J_if_eq E (tgt := 14) dX5_copy_4 (by decide) (fun c_4 => ?_) (fun c_4 => ?_)
    · skip
      have c_4 := bI_0 c_4
      exact absurd (in3 (by decide)) c_4
    · skip
      have c_4 := bI_1 c_4
      refine J_iload_n E dX5_copy_7 rfl 3 rfl ?_
      refine J_cSiN E (As := [.int (nI 0)]) (c_X5_isSheet l G (nI 0) ) cl_X5_202 yo_X5_isSheet dX5_copy_8 rfl (Nat.le_of_ble_eq_true rfl) (Nat.le_of_ble_eq_true rfl) rfl (Nat.le_of_ble_eq_true rfl) ⟨Nat.zero_le _, Nat.zero_le _⟩ ?_
      refine J_if_ne E (tgt := 20) dX5_copy_11 (by decide) (fun c_11 => ?_) (fun c_11 => ?_)
      · skip
        have c_11 := bI_1 c_11
        refine J_aload_n E dX5_copy_20 rfl 0 rfl ?_
        refine gC0_X5_44 E dX5_copy_21 ?_
        refine J_iload_n E dX5_copy_24 rfl 1 rfl ?_
        refine laC_30_0 E dX5_copy_25 ?_
        refine J_astore E (lv' := [(6, .ref (a 31)), (0, .ref (a 0)), (1, .int (nI 0)), (2, .int f), (3, .int (nI 0)), (4, .int o), (5, .int n)]) dX5_copy_26 (by decide) rfl ?_
        refine J_aload_n E dX5_copy_28 rfl 1 rfl ?_
        refine gC0_X5_44 E dX5_copy_29 ?_
        refine J_iload_n E dX5_copy_32 rfl 4 rfl ?_
        refine laC_30_0 E dX5_copy_33 ?_
        refine J_astore E (lv' := [(7, .ref (a 31)), (6, .ref (a 31)), (0, .ref (a 0)), (1, .int (nI 0)), (2, .int f), (3, .int (nI 0)), (4, .int o), (5, .int n)]) dX5_copy_34 (by decide) rfl ?_
        refine J_aload E dX5_copy_36 1 rfl ?_
        refine J_si8r E (As := []) (c_X2_isMissing l G (sh a 31) (x 8) ) cl_X5_212 yo_X2_isMissing dX5_copy_38 rfl (Nat.le_of_ble_eq_true rfl) (Nat.le_of_ble_eq_true rfl) rfl (Nat.le_of_ble_eq_true rfl) ⟨Nat.zero_le _, Nat.zero_le _⟩ ?_
        refine J_if_ne E (tgt := 52) dX5_copy_41 (by decide) (fun c_41 => ?_) (fun c_41 => ?_)
        · skip
          have c_41 := bI_1 c_41
          exact absurd c_41 h1
        · skip
          have c_41 := bI_0 c_41
          refine J_aload E dX5_copy_44 0 rfl ?_
          refine J_si8r E (As := []) (c_X2_isMissing l G (sh a 31) (x 8) ) cl_X5_212 yo_X2_isMissing dX5_copy_46 rfl (Nat.le_of_ble_eq_true rfl) (Nat.le_of_ble_eq_true rfl) rfl (Nat.le_of_ble_eq_true rfl) ⟨Nat.zero_le _, Nat.zero_le _⟩ ?_
          refine J_if_eq E (tgt := 58) dX5_copy_49 (by decide) (fun c_49 => ?_) (fun c_49 => ?_)
          · skip
            have c_49 := bI_0 c_49
            refine J_aload E dX5_copy_58 1 rfl ?_
            refine gC31_X5_215 E dX5_copy_60 ?_
            refine J_aload E dX5_copy_63 0 rfl ?_
            refine gC31_X5_215 E dX5_copy_65 ?_
            refine J_icmp_eq E (tgt := 77) dX5_copy_68 (by decide) (fun c_68 => ?_) (fun c_68 => ?_)
            · skip
              exact absurd c_68 h3
            · skip
              refine J_aload_n E dX5_copy_71 rfl 2 rfl ?_
              refine J_iconst E dX5_copy_72 ic_2 ?_
              refine J_cVi0 E (As := [.int 2]) (c_X5_tell l G a x 2 (by omega)) cl_X5_64 yo_X5_tell dX5_copy_73 rfl rfl rfl (Nat.le_of_ble_eq_true rfl) (Nat.le_of_ble_eq_true rfl) rfl (Nat.le_of_ble_eq_true rfl) ⟨Nat.zero_le _, Nat.zero_le _⟩ ?_
              exact ret _ _ _ _ ⟨rfl, _, rfl, by intro g h2 h6; simp [upG, up3, up3R, h2, h6]⟩ rfl dX5_copy_76
          · skip
            have c_49 := bI_1 c_49
            exact absurd c_49 h2
      · skip
        have c_11 := bI_0 c_11
        exact absurd (in3 (by decide)) c_11
  · skip
    refine J_iload_n E dX5_copy_0 rfl 1 rfl ?_
    refine J_cSiN E (As := [.int (nI 0)]) (c_X5_isSheet l G (nI 0) ) cl_X5_202 yo_X5_isSheet dX5_copy_1 rfl (Nat.le_of_ble_eq_true rfl) (Nat.le_of_ble_eq_true rfl) rfl (Nat.le_of_ble_eq_true rfl) ⟨Nat.zero_le _, Nat.zero_le _⟩ ?_
    refine J_if_eq E (tgt := 14) dX5_copy_4 (by decide) (fun c_4 => ?_) (fun c_4 => ?_)
    · skip
      have c_4 := bI_0 c_4
      exact absurd (in3 (by decide)) c_4
    · skip
      have c_4 := bI_1 c_4
      refine J_iload_n E dX5_copy_7 rfl 3 rfl ?_
      refine J_cSiN E (As := [.int (nI 1)]) (c_X5_isSheet l G (nI 1) ) cl_X5_202 yo_X5_isSheet dX5_copy_8 rfl (Nat.le_of_ble_eq_true rfl) (Nat.le_of_ble_eq_true rfl) rfl (Nat.le_of_ble_eq_true rfl) ⟨Nat.zero_le _, Nat.zero_le _⟩ ?_
      refine J_if_ne E (tgt := 20) dX5_copy_11 (by decide) (fun c_11 => ?_) (fun c_11 => ?_)
      · skip
        have c_11 := bI_1 c_11
        refine J_aload_n E dX5_copy_20 rfl 0 rfl ?_
        refine gC0_X5_44 E dX5_copy_21 ?_
        refine J_iload_n E dX5_copy_24 rfl 1 rfl ?_
        refine laC_30_0 E dX5_copy_25 ?_
        refine J_astore E (lv' := [(6, .ref (a 31)), (0, .ref (a 0)), (1, .int (nI 0)), (2, .int f), (3, .int (nI 1)), (4, .int o), (5, .int n)]) dX5_copy_26 (by decide) rfl ?_
        refine J_aload_n E dX5_copy_28 rfl 1 rfl ?_
        refine gC0_X5_44 E dX5_copy_29 ?_
        refine J_iload_n E dX5_copy_32 rfl 4 rfl ?_
        refine laC_30_1 E dX5_copy_33 ?_
        refine J_astore E (lv' := [(7, .ref (a 33)), (6, .ref (a 31)), (0, .ref (a 0)), (1, .int (nI 0)), (2, .int f), (3, .int (nI 1)), (4, .int o), (5, .int n)]) dX5_copy_34 (by decide) rfl ?_
        refine J_aload E dX5_copy_36 1 rfl ?_
        refine J_si8r E (As := []) (c_X2_isMissing l G (sh a 31) (x 8) ) cl_X5_212 yo_X2_isMissing dX5_copy_38 rfl (Nat.le_of_ble_eq_true rfl) (Nat.le_of_ble_eq_true rfl) rfl (Nat.le_of_ble_eq_true rfl) ⟨Nat.zero_le _, Nat.zero_le _⟩ ?_
        refine J_if_ne E (tgt := 52) dX5_copy_41 (by decide) (fun c_41 => ?_) (fun c_41 => ?_)
        · skip
          have c_41 := bI_1 c_41
          exact absurd c_41 h1
        · skip
          have c_41 := bI_0 c_41
          refine J_aload E dX5_copy_44 0 rfl ?_
          refine J_si9r E (As := []) (c_X2_isMissing l G (sh a 33) (x 9) ) cl_X5_212 yo_X2_isMissing dX5_copy_46 rfl (Nat.le_of_ble_eq_true rfl) (Nat.le_of_ble_eq_true rfl) rfl (Nat.le_of_ble_eq_true rfl) ⟨Nat.zero_le _, Nat.zero_le _⟩ ?_
          refine J_if_eq E (tgt := 58) dX5_copy_49 (by decide) (fun c_49 => ?_) (fun c_49 => ?_)
          · skip
            have c_49 := bI_0 c_49
            refine J_aload E dX5_copy_58 1 rfl ?_
            refine gC31_X5_215 E dX5_copy_60 ?_
            refine J_aload E dX5_copy_63 0 rfl ?_
            refine gC33_X5_215 E dX5_copy_65 ?_
            refine J_icmp_eq E (tgt := 77) dX5_copy_68 (by decide) (fun c_68 => ?_) (fun c_68 => ?_)
            · skip
              exact absurd c_68 h3
            · skip
              refine J_aload_n E dX5_copy_71 rfl 2 rfl ?_
              refine J_iconst E dX5_copy_72 ic_2 ?_
              refine J_cVi0 E (As := [.int 2]) (c_X5_tell l G a x 2 (by omega)) cl_X5_64 yo_X5_tell dX5_copy_73 rfl rfl rfl (Nat.le_of_ble_eq_true rfl) (Nat.le_of_ble_eq_true rfl) rfl (Nat.le_of_ble_eq_true rfl) ⟨Nat.zero_le _, Nat.zero_le _⟩ ?_
              exact ret _ _ _ _ ⟨rfl, _, rfl, by intro g h2 h6; simp [upG, up3, up3R, h2, h6]⟩ rfl dX5_copy_76
          · skip
            have c_49 := bI_1 c_49
            exact absurd c_49 h2
      · skip
        have c_11 := bI_0 c_11
        exact absurd (in3 (by decide)) c_11
  · skip
    refine J_iload_n E dX5_copy_0 rfl 1 rfl ?_
    refine J_cSiN E (As := [.int (nI 0)]) (c_X5_isSheet l G (nI 0) ) cl_X5_202 yo_X5_isSheet dX5_copy_1 rfl (Nat.le_of_ble_eq_true rfl) (Nat.le_of_ble_eq_true rfl) rfl (Nat.le_of_ble_eq_true rfl) ⟨Nat.zero_le _, Nat.zero_le _⟩ ?_
    refine J_if_eq E (tgt := 14) dX5_copy_4 (by decide) (fun c_4 => ?_) (fun c_4 => ?_)
    · skip
      have c_4 := bI_0 c_4
      exact absurd (in3 (by decide)) c_4
    · skip
      have c_4 := bI_1 c_4
      refine J_iload_n E dX5_copy_7 rfl 3 rfl ?_
      refine J_cSiN E (As := [.int (nI 2)]) (c_X5_isSheet l G (nI 2) ) cl_X5_202 yo_X5_isSheet dX5_copy_8 rfl (Nat.le_of_ble_eq_true rfl) (Nat.le_of_ble_eq_true rfl) rfl (Nat.le_of_ble_eq_true rfl) ⟨Nat.zero_le _, Nat.zero_le _⟩ ?_
      refine J_if_ne E (tgt := 20) dX5_copy_11 (by decide) (fun c_11 => ?_) (fun c_11 => ?_)
      · skip
        have c_11 := bI_1 c_11
        refine J_aload_n E dX5_copy_20 rfl 0 rfl ?_
        refine gC0_X5_44 E dX5_copy_21 ?_
        refine J_iload_n E dX5_copy_24 rfl 1 rfl ?_
        refine laC_30_0 E dX5_copy_25 ?_
        refine J_astore E (lv' := [(6, .ref (a 31)), (0, .ref (a 0)), (1, .int (nI 0)), (2, .int f), (3, .int (nI 2)), (4, .int o), (5, .int n)]) dX5_copy_26 (by decide) rfl ?_
        refine J_aload_n E dX5_copy_28 rfl 1 rfl ?_
        refine gC0_X5_44 E dX5_copy_29 ?_
        refine J_iload_n E dX5_copy_32 rfl 4 rfl ?_
        refine laC_30_2 E dX5_copy_33 ?_
        refine J_astore E (lv' := [(7, .ref (a 35)), (6, .ref (a 31)), (0, .ref (a 0)), (1, .int (nI 0)), (2, .int f), (3, .int (nI 2)), (4, .int o), (5, .int n)]) dX5_copy_34 (by decide) rfl ?_
        refine J_aload E dX5_copy_36 1 rfl ?_
        refine J_si8r E (As := []) (c_X2_isMissing l G (sh a 31) (x 8) ) cl_X5_212 yo_X2_isMissing dX5_copy_38 rfl (Nat.le_of_ble_eq_true rfl) (Nat.le_of_ble_eq_true rfl) rfl (Nat.le_of_ble_eq_true rfl) ⟨Nat.zero_le _, Nat.zero_le _⟩ ?_
        refine J_if_ne E (tgt := 52) dX5_copy_41 (by decide) (fun c_41 => ?_) (fun c_41 => ?_)
        · skip
          have c_41 := bI_1 c_41
          exact absurd c_41 h1
        · skip
          have c_41 := bI_0 c_41
          refine J_aload E dX5_copy_44 0 rfl ?_
          refine J_si10r E (As := []) (c_X2_isMissing l G (sh a 35) (x 10) ) cl_X5_212 yo_X2_isMissing dX5_copy_46 rfl (Nat.le_of_ble_eq_true rfl) (Nat.le_of_ble_eq_true rfl) rfl (Nat.le_of_ble_eq_true rfl) ⟨Nat.zero_le _, Nat.zero_le _⟩ ?_
          refine J_if_eq E (tgt := 58) dX5_copy_49 (by decide) (fun c_49 => ?_) (fun c_49 => ?_)
          · skip
            have c_49 := bI_0 c_49
            refine J_aload E dX5_copy_58 1 rfl ?_
            refine gC31_X5_215 E dX5_copy_60 ?_
            refine J_aload E dX5_copy_63 0 rfl ?_
            refine gC35_X5_215 E dX5_copy_65 ?_
            refine J_icmp_eq E (tgt := 77) dX5_copy_68 (by decide) (fun c_68 => ?_) (fun c_68 => ?_)
            · skip
              exact absurd c_68 h3
            · skip
              refine J_aload_n E dX5_copy_71 rfl 2 rfl ?_
              refine J_iconst E dX5_copy_72 ic_2 ?_
              refine J_cVi0 E (As := [.int 2]) (c_X5_tell l G a x 2 (by omega)) cl_X5_64 yo_X5_tell dX5_copy_73 rfl rfl rfl (Nat.le_of_ble_eq_true rfl) (Nat.le_of_ble_eq_true rfl) rfl (Nat.le_of_ble_eq_true rfl) ⟨Nat.zero_le _, Nat.zero_le _⟩ ?_
              exact ret _ _ _ _ ⟨rfl, _, rfl, by intro g h2 h6; simp [upG, up3, up3R, h2, h6]⟩ rfl dX5_copy_76
          · skip
            have c_49 := bI_1 c_49
            exact absurd c_49 h2
      · skip
        have c_11 := bI_0 c_11
        exact absurd (in3 (by decide)) c_11
  · skip
    refine J_iload_n E dX5_copy_0 rfl 1 rfl ?_
    refine J_cSiN E (As := [.int (nI 0)]) (c_X5_isSheet l G (nI 0) ) cl_X5_202 yo_X5_isSheet dX5_copy_1 rfl (Nat.le_of_ble_eq_true rfl) (Nat.le_of_ble_eq_true rfl) rfl (Nat.le_of_ble_eq_true rfl) ⟨Nat.zero_le _, Nat.zero_le _⟩ ?_
    refine J_if_eq E (tgt := 14) dX5_copy_4 (by decide) (fun c_4 => ?_) (fun c_4 => ?_)
    · skip
      have c_4 := bI_0 c_4
      exact absurd (in3 (by decide)) c_4
    · skip
      have c_4 := bI_1 c_4
      refine J_iload_n E dX5_copy_7 rfl 3 rfl ?_
      refine J_cSiN E (As := [.int (nI 3)]) (c_X5_isSheet l G (nI 3) ) cl_X5_202 yo_X5_isSheet dX5_copy_8 rfl (Nat.le_of_ble_eq_true rfl) (Nat.le_of_ble_eq_true rfl) rfl (Nat.le_of_ble_eq_true rfl) ⟨Nat.zero_le _, Nat.zero_le _⟩ ?_
      refine J_if_ne E (tgt := 20) dX5_copy_11 (by decide) (fun c_11 => ?_) (fun c_11 => ?_)
      · skip
        have c_11 := bI_1 c_11
        refine J_aload_n E dX5_copy_20 rfl 0 rfl ?_
        refine gC0_X5_44 E dX5_copy_21 ?_
        refine J_iload_n E dX5_copy_24 rfl 1 rfl ?_
        refine laC_30_0 E dX5_copy_25 ?_
        refine J_astore E (lv' := [(6, .ref (a 31)), (0, .ref (a 0)), (1, .int (nI 0)), (2, .int f), (3, .int (nI 3)), (4, .int o), (5, .int n)]) dX5_copy_26 (by decide) rfl ?_
        refine J_aload_n E dX5_copy_28 rfl 1 rfl ?_
        refine gC0_X5_44 E dX5_copy_29 ?_
        refine J_iload_n E dX5_copy_32 rfl 4 rfl ?_
        refine laC_30_3 E dX5_copy_33 ?_
        refine J_astore E (lv' := [(7, .ref (a 37)), (6, .ref (a 31)), (0, .ref (a 0)), (1, .int (nI 0)), (2, .int f), (3, .int (nI 3)), (4, .int o), (5, .int n)]) dX5_copy_34 (by decide) rfl ?_
        refine J_aload E dX5_copy_36 1 rfl ?_
        refine J_si8r E (As := []) (c_X2_isMissing l G (sh a 31) (x 8) ) cl_X5_212 yo_X2_isMissing dX5_copy_38 rfl (Nat.le_of_ble_eq_true rfl) (Nat.le_of_ble_eq_true rfl) rfl (Nat.le_of_ble_eq_true rfl) ⟨Nat.zero_le _, Nat.zero_le _⟩ ?_
        refine J_if_ne E (tgt := 52) dX5_copy_41 (by decide) (fun c_41 => ?_) (fun c_41 => ?_)
        · skip
          have c_41 := bI_1 c_41
          exact absurd c_41 h1
        · skip
          have c_41 := bI_0 c_41
          refine J_aload E dX5_copy_44 0 rfl ?_
          refine J_si11r E (As := []) (c_X2_isMissing l G (sh a 37) (x 11) ) cl_X5_212 yo_X2_isMissing dX5_copy_46 rfl (Nat.le_of_ble_eq_true rfl) (Nat.le_of_ble_eq_true rfl) rfl (Nat.le_of_ble_eq_true rfl) ⟨Nat.zero_le _, Nat.zero_le _⟩ ?_
          refine J_if_eq E (tgt := 58) dX5_copy_49 (by decide) (fun c_49 => ?_) (fun c_49 => ?_)
          · skip
            have c_49 := bI_0 c_49
            refine J_aload E dX5_copy_58 1 rfl ?_
            refine gC31_X5_215 E dX5_copy_60 ?_
            refine J_aload E dX5_copy_63 0 rfl ?_
            refine gC37_X5_215 E dX5_copy_65 ?_
            refine J_icmp_eq E (tgt := 77) dX5_copy_68 (by decide) (fun c_68 => ?_) (fun c_68 => ?_)
            · skip
              exact absurd c_68 h3
            · skip
              refine J_aload_n E dX5_copy_71 rfl 2 rfl ?_
              refine J_iconst E dX5_copy_72 ic_2 ?_
              refine J_cVi0 E (As := [.int 2]) (c_X5_tell l G a x 2 (by omega)) cl_X5_64 yo_X5_tell dX5_copy_73 rfl rfl rfl (Nat.le_of_ble_eq_true rfl) (Nat.le_of_ble_eq_true rfl) rfl (Nat.le_of_ble_eq_true rfl) ⟨Nat.zero_le _, Nat.zero_le _⟩ ?_
              exact ret _ _ _ _ ⟨rfl, _, rfl, by intro g h2 h6; simp [upG, up3, up3R, h2, h6]⟩ rfl dX5_copy_76
          · skip
            have c_49 := bI_1 c_49
            exact absurd c_49 h2
      · skip
        have c_11 := bI_0 c_11
        exact absurd (in3 (by decide)) c_11
  · skip
    refine J_iload_n E dX5_copy_0 rfl 1 rfl ?_
    refine J_cSiN E (As := [.int (nI 1)]) (c_X5_isSheet l G (nI 1) ) cl_X5_202 yo_X5_isSheet dX5_copy_1 rfl (Nat.le_of_ble_eq_true rfl) (Nat.le_of_ble_eq_true rfl) rfl (Nat.le_of_ble_eq_true rfl) ⟨Nat.zero_le _, Nat.zero_le _⟩ ?_
    refine J_if_eq E (tgt := 14) dX5_copy_4 (by decide) (fun c_4 => ?_) (fun c_4 => ?_)
    · skip
      have c_4 := bI_0 c_4
      exact absurd (in3 (by decide)) c_4
    · skip
      have c_4 := bI_1 c_4
      refine J_iload_n E dX5_copy_7 rfl 3 rfl ?_
      refine J_cSiN E (As := [.int (nI 0)]) (c_X5_isSheet l G (nI 0) ) cl_X5_202 yo_X5_isSheet dX5_copy_8 rfl (Nat.le_of_ble_eq_true rfl) (Nat.le_of_ble_eq_true rfl) rfl (Nat.le_of_ble_eq_true rfl) ⟨Nat.zero_le _, Nat.zero_le _⟩ ?_
      refine J_if_ne E (tgt := 20) dX5_copy_11 (by decide) (fun c_11 => ?_) (fun c_11 => ?_)
      · skip
        have c_11 := bI_1 c_11
        refine J_aload_n E dX5_copy_20 rfl 0 rfl ?_
        refine gC0_X5_44 E dX5_copy_21 ?_
        refine J_iload_n E dX5_copy_24 rfl 1 rfl ?_
        refine laC_30_1 E dX5_copy_25 ?_
        refine J_astore E (lv' := [(6, .ref (a 33)), (0, .ref (a 0)), (1, .int (nI 1)), (2, .int f), (3, .int (nI 0)), (4, .int o), (5, .int n)]) dX5_copy_26 (by decide) rfl ?_
        refine J_aload_n E dX5_copy_28 rfl 1 rfl ?_
        refine gC0_X5_44 E dX5_copy_29 ?_
        refine J_iload_n E dX5_copy_32 rfl 4 rfl ?_
        refine laC_30_0 E dX5_copy_33 ?_
        refine J_astore E (lv' := [(7, .ref (a 31)), (6, .ref (a 33)), (0, .ref (a 0)), (1, .int (nI 1)), (2, .int f), (3, .int (nI 0)), (4, .int o), (5, .int n)]) dX5_copy_34 (by decide) rfl ?_
        refine J_aload E dX5_copy_36 1 rfl ?_
        refine J_si9r E (As := []) (c_X2_isMissing l G (sh a 33) (x 9) ) cl_X5_212 yo_X2_isMissing dX5_copy_38 rfl (Nat.le_of_ble_eq_true rfl) (Nat.le_of_ble_eq_true rfl) rfl (Nat.le_of_ble_eq_true rfl) ⟨Nat.zero_le _, Nat.zero_le _⟩ ?_
        refine J_if_ne E (tgt := 52) dX5_copy_41 (by decide) (fun c_41 => ?_) (fun c_41 => ?_)
        · skip
          have c_41 := bI_1 c_41
          exact absurd c_41 h1
        · skip
          have c_41 := bI_0 c_41
          refine J_aload E dX5_copy_44 0 rfl ?_
          refine J_si8r E (As := []) (c_X2_isMissing l G (sh a 31) (x 8) ) cl_X5_212 yo_X2_isMissing dX5_copy_46 rfl (Nat.le_of_ble_eq_true rfl) (Nat.le_of_ble_eq_true rfl) rfl (Nat.le_of_ble_eq_true rfl) ⟨Nat.zero_le _, Nat.zero_le _⟩ ?_
          refine J_if_eq E (tgt := 58) dX5_copy_49 (by decide) (fun c_49 => ?_) (fun c_49 => ?_)
          · skip
            have c_49 := bI_0 c_49
            refine J_aload E dX5_copy_58 1 rfl ?_
            refine gC33_X5_215 E dX5_copy_60 ?_
            refine J_aload E dX5_copy_63 0 rfl ?_
            refine gC31_X5_215 E dX5_copy_65 ?_
            refine J_icmp_eq E (tgt := 77) dX5_copy_68 (by decide) (fun c_68 => ?_) (fun c_68 => ?_)
            · skip
              exact absurd c_68 h3
            · skip
              refine J_aload_n E dX5_copy_71 rfl 2 rfl ?_
              refine J_iconst E dX5_copy_72 ic_2 ?_
              refine J_cVi0 E (As := [.int 2]) (c_X5_tell l G a x 2 (by omega)) cl_X5_64 yo_X5_tell dX5_copy_73 rfl rfl rfl (Nat.le_of_ble_eq_true rfl) (Nat.le_of_ble_eq_true rfl) rfl (Nat.le_of_ble_eq_true rfl) ⟨Nat.zero_le _, Nat.zero_le _⟩ ?_
              exact ret _ _ _ _ ⟨rfl, _, rfl, by intro g h2 h6; simp [upG, up3, up3R, h2, h6]⟩ rfl dX5_copy_76
          · skip
            have c_49 := bI_1 c_49
            exact absurd c_49 h2
      · skip
        have c_11 := bI_0 c_11
        exact absurd (in3 (by decide)) c_11
  · skip
    refine J_iload_n E dX5_copy_0 rfl 1 rfl ?_
    refine J_cSiN E (As := [.int (nI 1)]) (c_X5_isSheet l G (nI 1) ) cl_X5_202 yo_X5_isSheet dX5_copy_1 rfl (Nat.le_of_ble_eq_true rfl) (Nat.le_of_ble_eq_true rfl) rfl (Nat.le_of_ble_eq_true rfl) ⟨Nat.zero_le _, Nat.zero_le _⟩ ?_
    refine J_if_eq E (tgt := 14) dX5_copy_4 (by decide) (fun c_4 => ?_) (fun c_4 => ?_)
    · skip
      have c_4 := bI_0 c_4
      exact absurd (in3 (by decide)) c_4
    · skip
      have c_4 := bI_1 c_4
      refine J_iload_n E dX5_copy_7 rfl 3 rfl ?_
      refine J_cSiN E (As := [.int (nI 1)]) (c_X5_isSheet l G (nI 1) ) cl_X5_202 yo_X5_isSheet dX5_copy_8 rfl (Nat.le_of_ble_eq_true rfl) (Nat.le_of_ble_eq_true rfl) rfl (Nat.le_of_ble_eq_true rfl) ⟨Nat.zero_le _, Nat.zero_le _⟩ ?_
      refine J_if_ne E (tgt := 20) dX5_copy_11 (by decide) (fun c_11 => ?_) (fun c_11 => ?_)
      · skip
        have c_11 := bI_1 c_11
        refine J_aload_n E dX5_copy_20 rfl 0 rfl ?_
        refine gC0_X5_44 E dX5_copy_21 ?_
        refine J_iload_n E dX5_copy_24 rfl 1 rfl ?_
        refine laC_30_1 E dX5_copy_25 ?_
        refine J_astore E (lv' := [(6, .ref (a 33)), (0, .ref (a 0)), (1, .int (nI 1)), (2, .int f), (3, .int (nI 1)), (4, .int o), (5, .int n)]) dX5_copy_26 (by decide) rfl ?_
        refine J_aload_n E dX5_copy_28 rfl 1 rfl ?_
        refine gC0_X5_44 E dX5_copy_29 ?_
        refine J_iload_n E dX5_copy_32 rfl 4 rfl ?_
        refine laC_30_1 E dX5_copy_33 ?_
        refine J_astore E (lv' := [(7, .ref (a 33)), (6, .ref (a 33)), (0, .ref (a 0)), (1, .int (nI 1)), (2, .int f), (3, .int (nI 1)), (4, .int o), (5, .int n)]) dX5_copy_34 (by decide) rfl ?_
        refine J_aload E dX5_copy_36 1 rfl ?_
        refine J_si9r E (As := []) (c_X2_isMissing l G (sh a 33) (x 9) ) cl_X5_212 yo_X2_isMissing dX5_copy_38 rfl (Nat.le_of_ble_eq_true rfl) (Nat.le_of_ble_eq_true rfl) rfl (Nat.le_of_ble_eq_true rfl) ⟨Nat.zero_le _, Nat.zero_le _⟩ ?_
        refine J_if_ne E (tgt := 52) dX5_copy_41 (by decide) (fun c_41 => ?_) (fun c_41 => ?_)
        · skip
          have c_41 := bI_1 c_41
          exact absurd c_41 h1
        · skip
          have c_41 := bI_0 c_41
          refine J_aload E dX5_copy_44 0 rfl ?_
          refine J_si9r E (As := []) (c_X2_isMissing l G (sh a 33) (x 9) ) cl_X5_212 yo_X2_isMissing dX5_copy_46 rfl (Nat.le_of_ble_eq_true rfl) (Nat.le_of_ble_eq_true rfl) rfl (Nat.le_of_ble_eq_true rfl) ⟨Nat.zero_le _, Nat.zero_le _⟩ ?_
          refine J_if_eq E (tgt := 58) dX5_copy_49 (by decide) (fun c_49 => ?_) (fun c_49 => ?_)
          · skip
            have c_49 := bI_0 c_49
            refine J_aload E dX5_copy_58 1 rfl ?_
            refine gC33_X5_215 E dX5_copy_60 ?_
            refine J_aload E dX5_copy_63 0 rfl ?_
            refine gC33_X5_215 E dX5_copy_65 ?_
            refine J_icmp_eq E (tgt := 77) dX5_copy_68 (by decide) (fun c_68 => ?_) (fun c_68 => ?_)
            · skip
              exact absurd c_68 h3
            · skip
              refine J_aload_n E dX5_copy_71 rfl 2 rfl ?_
              refine J_iconst E dX5_copy_72 ic_2 ?_
              refine J_cVi0 E (As := [.int 2]) (c_X5_tell l G a x 2 (by omega)) cl_X5_64 yo_X5_tell dX5_copy_73 rfl rfl rfl (Nat.le_of_ble_eq_true rfl) (Nat.le_of_ble_eq_true rfl) rfl (Nat.le_of_ble_eq_true rfl) ⟨Nat.zero_le _, Nat.zero_le _⟩ ?_
              exact ret _ _ _ _ ⟨rfl, _, rfl, by intro g h2 h6; simp [upG, up3, up3R, h2, h6]⟩ rfl dX5_copy_76
          · skip
            have c_49 := bI_1 c_49
            exact absurd c_49 h2
      · skip
        have c_11 := bI_0 c_11
        exact absurd (in3 (by decide)) c_11
  · skip
    refine J_iload_n E dX5_copy_0 rfl 1 rfl ?_
    refine J_cSiN E (As := [.int (nI 1)]) (c_X5_isSheet l G (nI 1) ) cl_X5_202 yo_X5_isSheet dX5_copy_1 rfl (Nat.le_of_ble_eq_true rfl) (Nat.le_of_ble_eq_true rfl) rfl (Nat.le_of_ble_eq_true rfl) ⟨Nat.zero_le _, Nat.zero_le _⟩ ?_
    refine J_if_eq E (tgt := 14) dX5_copy_4 (by decide) (fun c_4 => ?_) (fun c_4 => ?_)
    · skip
      have c_4 := bI_0 c_4
      exact absurd (in3 (by decide)) c_4
    · skip
      have c_4 := bI_1 c_4
      refine J_iload_n E dX5_copy_7 rfl 3 rfl ?_
      refine J_cSiN E (As := [.int (nI 2)]) (c_X5_isSheet l G (nI 2) ) cl_X5_202 yo_X5_isSheet dX5_copy_8 rfl (Nat.le_of_ble_eq_true rfl) (Nat.le_of_ble_eq_true rfl) rfl (Nat.le_of_ble_eq_true rfl) ⟨Nat.zero_le _, Nat.zero_le _⟩ ?_
      refine J_if_ne E (tgt := 20) dX5_copy_11 (by decide) (fun c_11 => ?_) (fun c_11 => ?_)
      · skip
        have c_11 := bI_1 c_11
        refine J_aload_n E dX5_copy_20 rfl 0 rfl ?_
        refine gC0_X5_44 E dX5_copy_21 ?_
        refine J_iload_n E dX5_copy_24 rfl 1 rfl ?_
        refine laC_30_1 E dX5_copy_25 ?_
        refine J_astore E (lv' := [(6, .ref (a 33)), (0, .ref (a 0)), (1, .int (nI 1)), (2, .int f), (3, .int (nI 2)), (4, .int o), (5, .int n)]) dX5_copy_26 (by decide) rfl ?_
        refine J_aload_n E dX5_copy_28 rfl 1 rfl ?_
        refine gC0_X5_44 E dX5_copy_29 ?_
        refine J_iload_n E dX5_copy_32 rfl 4 rfl ?_
        refine laC_30_2 E dX5_copy_33 ?_
        refine J_astore E (lv' := [(7, .ref (a 35)), (6, .ref (a 33)), (0, .ref (a 0)), (1, .int (nI 1)), (2, .int f), (3, .int (nI 2)), (4, .int o), (5, .int n)]) dX5_copy_34 (by decide) rfl ?_
        refine J_aload E dX5_copy_36 1 rfl ?_
        refine J_si9r E (As := []) (c_X2_isMissing l G (sh a 33) (x 9) ) cl_X5_212 yo_X2_isMissing dX5_copy_38 rfl (Nat.le_of_ble_eq_true rfl) (Nat.le_of_ble_eq_true rfl) rfl (Nat.le_of_ble_eq_true rfl) ⟨Nat.zero_le _, Nat.zero_le _⟩ ?_
        refine J_if_ne E (tgt := 52) dX5_copy_41 (by decide) (fun c_41 => ?_) (fun c_41 => ?_)
        · skip
          have c_41 := bI_1 c_41
          exact absurd c_41 h1
        · skip
          have c_41 := bI_0 c_41
          refine J_aload E dX5_copy_44 0 rfl ?_
          refine J_si10r E (As := []) (c_X2_isMissing l G (sh a 35) (x 10) ) cl_X5_212 yo_X2_isMissing dX5_copy_46 rfl (Nat.le_of_ble_eq_true rfl) (Nat.le_of_ble_eq_true rfl) rfl (Nat.le_of_ble_eq_true rfl) ⟨Nat.zero_le _, Nat.zero_le _⟩ ?_
          refine J_if_eq E (tgt := 58) dX5_copy_49 (by decide) (fun c_49 => ?_) (fun c_49 => ?_)
          · skip
            have c_49 := bI_0 c_49
            refine J_aload E dX5_copy_58 1 rfl ?_
            refine gC33_X5_215 E dX5_copy_60 ?_
            refine J_aload E dX5_copy_63 0 rfl ?_
            refine gC35_X5_215 E dX5_copy_65 ?_
            refine J_icmp_eq E (tgt := 77) dX5_copy_68 (by decide) (fun c_68 => ?_) (fun c_68 => ?_)
            · skip
              exact absurd c_68 h3
            · skip
              refine J_aload_n E dX5_copy_71 rfl 2 rfl ?_
              refine J_iconst E dX5_copy_72 ic_2 ?_
              refine J_cVi0 E (As := [.int 2]) (c_X5_tell l G a x 2 (by omega)) cl_X5_64 yo_X5_tell dX5_copy_73 rfl rfl rfl (Nat.le_of_ble_eq_true rfl) (Nat.le_of_ble_eq_true rfl) rfl (Nat.le_of_ble_eq_true rfl) ⟨Nat.zero_le _, Nat.zero_le _⟩ ?_
              exact ret _ _ _ _ ⟨rfl, _, rfl, by intro g h2 h6; simp [upG, up3, up3R, h2, h6]⟩ rfl dX5_copy_76
          · skip
            have c_49 := bI_1 c_49
            exact absurd c_49 h2
      · skip
        have c_11 := bI_0 c_11
        exact absurd (in3 (by decide)) c_11
  · skip
    refine J_iload_n E dX5_copy_0 rfl 1 rfl ?_
    refine J_cSiN E (As := [.int (nI 1)]) (c_X5_isSheet l G (nI 1) ) cl_X5_202 yo_X5_isSheet dX5_copy_1 rfl (Nat.le_of_ble_eq_true rfl) (Nat.le_of_ble_eq_true rfl) rfl (Nat.le_of_ble_eq_true rfl) ⟨Nat.zero_le _, Nat.zero_le _⟩ ?_
    refine J_if_eq E (tgt := 14) dX5_copy_4 (by decide) (fun c_4 => ?_) (fun c_4 => ?_)
    · skip
      have c_4 := bI_0 c_4
      exact absurd (in3 (by decide)) c_4
    · skip
      have c_4 := bI_1 c_4
      refine J_iload_n E dX5_copy_7 rfl 3 rfl ?_
      refine J_cSiN E (As := [.int (nI 3)]) (c_X5_isSheet l G (nI 3) ) cl_X5_202 yo_X5_isSheet dX5_copy_8 rfl (Nat.le_of_ble_eq_true rfl) (Nat.le_of_ble_eq_true rfl) rfl (Nat.le_of_ble_eq_true rfl) ⟨Nat.zero_le _, Nat.zero_le _⟩ ?_
      refine J_if_ne E (tgt := 20) dX5_copy_11 (by decide) (fun c_11 => ?_) (fun c_11 => ?_)
      · skip
        have c_11 := bI_1 c_11
        refine J_aload_n E dX5_copy_20 rfl 0 rfl ?_
        refine gC0_X5_44 E dX5_copy_21 ?_
        refine J_iload_n E dX5_copy_24 rfl 1 rfl ?_
        refine laC_30_1 E dX5_copy_25 ?_
        refine J_astore E (lv' := [(6, .ref (a 33)), (0, .ref (a 0)), (1, .int (nI 1)), (2, .int f), (3, .int (nI 3)), (4, .int o), (5, .int n)]) dX5_copy_26 (by decide) rfl ?_
        refine J_aload_n E dX5_copy_28 rfl 1 rfl ?_
        refine gC0_X5_44 E dX5_copy_29 ?_
        refine J_iload_n E dX5_copy_32 rfl 4 rfl ?_
        refine laC_30_3 E dX5_copy_33 ?_
        refine J_astore E (lv' := [(7, .ref (a 37)), (6, .ref (a 33)), (0, .ref (a 0)), (1, .int (nI 1)), (2, .int f), (3, .int (nI 3)), (4, .int o), (5, .int n)]) dX5_copy_34 (by decide) rfl ?_
        refine J_aload E dX5_copy_36 1 rfl ?_
        refine J_si9r E (As := []) (c_X2_isMissing l G (sh a 33) (x 9) ) cl_X5_212 yo_X2_isMissing dX5_copy_38 rfl (Nat.le_of_ble_eq_true rfl) (Nat.le_of_ble_eq_true rfl) rfl (Nat.le_of_ble_eq_true rfl) ⟨Nat.zero_le _, Nat.zero_le _⟩ ?_
        refine J_if_ne E (tgt := 52) dX5_copy_41 (by decide) (fun c_41 => ?_) (fun c_41 => ?_)
        · skip
          have c_41 := bI_1 c_41
          exact absurd c_41 h1
        · skip
          have c_41 := bI_0 c_41
          refine J_aload E dX5_copy_44 0 rfl ?_
          refine J_si11r E (As := []) (c_X2_isMissing l G (sh a 37) (x 11) ) cl_X5_212 yo_X2_isMissing dX5_copy_46 rfl (Nat.le_of_ble_eq_true rfl) (Nat.le_of_ble_eq_true rfl) rfl (Nat.le_of_ble_eq_true rfl) ⟨Nat.zero_le _, Nat.zero_le _⟩ ?_
          refine J_if_eq E (tgt := 58) dX5_copy_49 (by decide) (fun c_49 => ?_) (fun c_49 => ?_)
          · skip
            have c_49 := bI_0 c_49
            refine J_aload E dX5_copy_58 1 rfl ?_
            refine gC33_X5_215 E dX5_copy_60 ?_
            refine J_aload E dX5_copy_63 0 rfl ?_
            refine gC37_X5_215 E dX5_copy_65 ?_
            refine J_icmp_eq E (tgt := 77) dX5_copy_68 (by decide) (fun c_68 => ?_) (fun c_68 => ?_)
            · skip
              exact absurd c_68 h3
            · skip
              refine J_aload_n E dX5_copy_71 rfl 2 rfl ?_
              refine J_iconst E dX5_copy_72 ic_2 ?_
              refine J_cVi0 E (As := [.int 2]) (c_X5_tell l G a x 2 (by omega)) cl_X5_64 yo_X5_tell dX5_copy_73 rfl rfl rfl (Nat.le_of_ble_eq_true rfl) (Nat.le_of_ble_eq_true rfl) rfl (Nat.le_of_ble_eq_true rfl) ⟨Nat.zero_le _, Nat.zero_le _⟩ ?_
              exact ret _ _ _ _ ⟨rfl, _, rfl, by intro g h2 h6; simp [upG, up3, up3R, h2, h6]⟩ rfl dX5_copy_76
          · skip
            have c_49 := bI_1 c_49
            exact absurd c_49 h2
      · skip
        have c_11 := bI_0 c_11
        exact absurd (in3 (by decide)) c_11
  · skip
    refine J_iload_n E dX5_copy_0 rfl 1 rfl ?_
    refine J_cSiN E (As := [.int (nI 2)]) (c_X5_isSheet l G (nI 2) ) cl_X5_202 yo_X5_isSheet dX5_copy_1 rfl (Nat.le_of_ble_eq_true rfl) (Nat.le_of_ble_eq_true rfl) rfl (Nat.le_of_ble_eq_true rfl) ⟨Nat.zero_le _, Nat.zero_le _⟩ ?_
    refine J_if_eq E (tgt := 14) dX5_copy_4 (by decide) (fun c_4 => ?_) (fun c_4 => ?_)
    · skip
      have c_4 := bI_0 c_4
      exact absurd (in3 (by decide)) c_4
    · skip
      have c_4 := bI_1 c_4
      refine J_iload_n E dX5_copy_7 rfl 3 rfl ?_
      refine J_cSiN E (As := [.int (nI 0)]) (c_X5_isSheet l G (nI 0) ) cl_X5_202 yo_X5_isSheet dX5_copy_8 rfl (Nat.le_of_ble_eq_true rfl) (Nat.le_of_ble_eq_true rfl) rfl (Nat.le_of_ble_eq_true rfl) ⟨Nat.zero_le _, Nat.zero_le _⟩ ?_
      refine J_if_ne E (tgt := 20) dX5_copy_11 (by decide) (fun c_11 => ?_) (fun c_11 => ?_)
      · skip
        have c_11 := bI_1 c_11
        refine J_aload_n E dX5_copy_20 rfl 0 rfl ?_
        refine gC0_X5_44 E dX5_copy_21 ?_
        refine J_iload_n E dX5_copy_24 rfl 1 rfl ?_
        refine laC_30_2 E dX5_copy_25 ?_
        refine J_astore E (lv' := [(6, .ref (a 35)), (0, .ref (a 0)), (1, .int (nI 2)), (2, .int f), (3, .int (nI 0)), (4, .int o), (5, .int n)]) dX5_copy_26 (by decide) rfl ?_
        refine J_aload_n E dX5_copy_28 rfl 1 rfl ?_
        refine gC0_X5_44 E dX5_copy_29 ?_
        refine J_iload_n E dX5_copy_32 rfl 4 rfl ?_
        refine laC_30_0 E dX5_copy_33 ?_
        refine J_astore E (lv' := [(7, .ref (a 31)), (6, .ref (a 35)), (0, .ref (a 0)), (1, .int (nI 2)), (2, .int f), (3, .int (nI 0)), (4, .int o), (5, .int n)]) dX5_copy_34 (by decide) rfl ?_
        refine J_aload E dX5_copy_36 1 rfl ?_
        refine J_si10r E (As := []) (c_X2_isMissing l G (sh a 35) (x 10) ) cl_X5_212 yo_X2_isMissing dX5_copy_38 rfl (Nat.le_of_ble_eq_true rfl) (Nat.le_of_ble_eq_true rfl) rfl (Nat.le_of_ble_eq_true rfl) ⟨Nat.zero_le _, Nat.zero_le _⟩ ?_
        refine J_if_ne E (tgt := 52) dX5_copy_41 (by decide) (fun c_41 => ?_) (fun c_41 => ?_)
        · skip
          have c_41 := bI_1 c_41
          exact absurd c_41 h1
        · skip
          have c_41 := bI_0 c_41
          refine J_aload E dX5_copy_44 0 rfl ?_
          refine J_si8r E (As := []) (c_X2_isMissing l G (sh a 31) (x 8) ) cl_X5_212 yo_X2_isMissing dX5_copy_46 rfl (Nat.le_of_ble_eq_true rfl) (Nat.le_of_ble_eq_true rfl) rfl (Nat.le_of_ble_eq_true rfl) ⟨Nat.zero_le _, Nat.zero_le _⟩ ?_
          refine J_if_eq E (tgt := 58) dX5_copy_49 (by decide) (fun c_49 => ?_) (fun c_49 => ?_)
          · skip
            have c_49 := bI_0 c_49
            refine J_aload E dX5_copy_58 1 rfl ?_
            refine gC35_X5_215 E dX5_copy_60 ?_
            refine J_aload E dX5_copy_63 0 rfl ?_
            refine gC31_X5_215 E dX5_copy_65 ?_
            refine J_icmp_eq E (tgt := 77) dX5_copy_68 (by decide) (fun c_68 => ?_) (fun c_68 => ?_)
            · skip
              exact absurd c_68 h3
            · skip
              refine J_aload_n E dX5_copy_71 rfl 2 rfl ?_
              refine J_iconst E dX5_copy_72 ic_2 ?_
              refine J_cVi0 E (As := [.int 2]) (c_X5_tell l G a x 2 (by omega)) cl_X5_64 yo_X5_tell dX5_copy_73 rfl rfl rfl (Nat.le_of_ble_eq_true rfl) (Nat.le_of_ble_eq_true rfl) rfl (Nat.le_of_ble_eq_true rfl) ⟨Nat.zero_le _, Nat.zero_le _⟩ ?_
              exact ret _ _ _ _ ⟨rfl, _, rfl, by intro g h2 h6; simp [upG, up3, up3R, h2, h6]⟩ rfl dX5_copy_76
          · skip
            have c_49 := bI_1 c_49
            exact absurd c_49 h2
      · skip
        have c_11 := bI_0 c_11
        exact absurd (in3 (by decide)) c_11
  · skip
    refine J_iload_n E dX5_copy_0 rfl 1 rfl ?_
    refine J_cSiN E (As := [.int (nI 2)]) (c_X5_isSheet l G (nI 2) ) cl_X5_202 yo_X5_isSheet dX5_copy_1 rfl (Nat.le_of_ble_eq_true rfl) (Nat.le_of_ble_eq_true rfl) rfl (Nat.le_of_ble_eq_true rfl) ⟨Nat.zero_le _, Nat.zero_le _⟩ ?_
    refine J_if_eq E (tgt := 14) dX5_copy_4 (by decide) (fun c_4 => ?_) (fun c_4 => ?_)
    · skip
      have c_4 := bI_0 c_4
      exact absurd (in3 (by decide)) c_4
    · skip
      have c_4 := bI_1 c_4
      refine J_iload_n E dX5_copy_7 rfl 3 rfl ?_
      refine J_cSiN E (As := [.int (nI 1)]) (c_X5_isSheet l G (nI 1) ) cl_X5_202 yo_X5_isSheet dX5_copy_8 rfl (Nat.le_of_ble_eq_true rfl) (Nat.le_of_ble_eq_true rfl) rfl (Nat.le_of_ble_eq_true rfl) ⟨Nat.zero_le _, Nat.zero_le _⟩ ?_
      refine J_if_ne E (tgt := 20) dX5_copy_11 (by decide) (fun c_11 => ?_) (fun c_11 => ?_)
      · skip
        have c_11 := bI_1 c_11
        refine J_aload_n E dX5_copy_20 rfl 0 rfl ?_
        refine gC0_X5_44 E dX5_copy_21 ?_
        refine J_iload_n E dX5_copy_24 rfl 1 rfl ?_
        refine laC_30_2 E dX5_copy_25 ?_
        refine J_astore E (lv' := [(6, .ref (a 35)), (0, .ref (a 0)), (1, .int (nI 2)), (2, .int f), (3, .int (nI 1)), (4, .int o), (5, .int n)]) dX5_copy_26 (by decide) rfl ?_
        refine J_aload_n E dX5_copy_28 rfl 1 rfl ?_
        refine gC0_X5_44 E dX5_copy_29 ?_
        refine J_iload_n E dX5_copy_32 rfl 4 rfl ?_
        refine laC_30_1 E dX5_copy_33 ?_
        refine J_astore E (lv' := [(7, .ref (a 33)), (6, .ref (a 35)), (0, .ref (a 0)), (1, .int (nI 2)), (2, .int f), (3, .int (nI 1)), (4, .int o), (5, .int n)]) dX5_copy_34 (by decide) rfl ?_
        refine J_aload E dX5_copy_36 1 rfl ?_
        refine J_si10r E (As := []) (c_X2_isMissing l G (sh a 35) (x 10) ) cl_X5_212 yo_X2_isMissing dX5_copy_38 rfl (Nat.le_of_ble_eq_true rfl) (Nat.le_of_ble_eq_true rfl) rfl (Nat.le_of_ble_eq_true rfl) ⟨Nat.zero_le _, Nat.zero_le _⟩ ?_
        refine J_if_ne E (tgt := 52) dX5_copy_41 (by decide) (fun c_41 => ?_) (fun c_41 => ?_)
        · skip
          have c_41 := bI_1 c_41
          exact absurd c_41 h1
        · skip
          have c_41 := bI_0 c_41
          refine J_aload E dX5_copy_44 0 rfl ?_
          refine J_si9r E (As := []) (c_X2_isMissing l G (sh a 33) (x 9) ) cl_X5_212 yo_X2_isMissing dX5_copy_46 rfl (Nat.le_of_ble_eq_true rfl) (Nat.le_of_ble_eq_true rfl) rfl (Nat.le_of_ble_eq_true rfl) ⟨Nat.zero_le _, Nat.zero_le _⟩ ?_
          refine J_if_eq E (tgt := 58) dX5_copy_49 (by decide) (fun c_49 => ?_) (fun c_49 => ?_)
          · skip
            have c_49 := bI_0 c_49
            refine J_aload E dX5_copy_58 1 rfl ?_
            refine gC35_X5_215 E dX5_copy_60 ?_
            refine J_aload E dX5_copy_63 0 rfl ?_
            refine gC33_X5_215 E dX5_copy_65 ?_
            refine J_icmp_eq E (tgt := 77) dX5_copy_68 (by decide) (fun c_68 => ?_) (fun c_68 => ?_)
            · skip
              exact absurd c_68 h3
            · skip
              refine J_aload_n E dX5_copy_71 rfl 2 rfl ?_
              refine J_iconst E dX5_copy_72 ic_2 ?_
              refine J_cVi0 E (As := [.int 2]) (c_X5_tell l G a x 2 (by omega)) cl_X5_64 yo_X5_tell dX5_copy_73 rfl rfl rfl (Nat.le_of_ble_eq_true rfl) (Nat.le_of_ble_eq_true rfl) rfl (Nat.le_of_ble_eq_true rfl) ⟨Nat.zero_le _, Nat.zero_le _⟩ ?_
              exact ret _ _ _ _ ⟨rfl, _, rfl, by intro g h2 h6; simp [upG, up3, up3R, h2, h6]⟩ rfl dX5_copy_76
          · skip
            have c_49 := bI_1 c_49
            exact absurd c_49 h2
      · skip
        have c_11 := bI_0 c_11
        exact absurd (in3 (by decide)) c_11
  · skip
    refine J_iload_n E dX5_copy_0 rfl 1 rfl ?_
    refine J_cSiN E (As := [.int (nI 2)]) (c_X5_isSheet l G (nI 2) ) cl_X5_202 yo_X5_isSheet dX5_copy_1 rfl (Nat.le_of_ble_eq_true rfl) (Nat.le_of_ble_eq_true rfl) rfl (Nat.le_of_ble_eq_true rfl) ⟨Nat.zero_le _, Nat.zero_le _⟩ ?_
    refine J_if_eq E (tgt := 14) dX5_copy_4 (by decide) (fun c_4 => ?_) (fun c_4 => ?_)
    · skip
      have c_4 := bI_0 c_4
      exact absurd (in3 (by decide)) c_4
    · skip
      have c_4 := bI_1 c_4
      refine J_iload_n E dX5_copy_7 rfl 3 rfl ?_
      refine J_cSiN E (As := [.int (nI 2)]) (c_X5_isSheet l G (nI 2) ) cl_X5_202 yo_X5_isSheet dX5_copy_8 rfl (Nat.le_of_ble_eq_true rfl) (Nat.le_of_ble_eq_true rfl) rfl (Nat.le_of_ble_eq_true rfl) ⟨Nat.zero_le _, Nat.zero_le _⟩ ?_
      refine J_if_ne E (tgt := 20) dX5_copy_11 (by decide) (fun c_11 => ?_) (fun c_11 => ?_)
      · skip
        have c_11 := bI_1 c_11
        refine J_aload_n E dX5_copy_20 rfl 0 rfl ?_
        refine gC0_X5_44 E dX5_copy_21 ?_
        refine J_iload_n E dX5_copy_24 rfl 1 rfl ?_
        refine laC_30_2 E dX5_copy_25 ?_
        refine J_astore E (lv' := [(6, .ref (a 35)), (0, .ref (a 0)), (1, .int (nI 2)), (2, .int f), (3, .int (nI 2)), (4, .int o), (5, .int n)]) dX5_copy_26 (by decide) rfl ?_
        refine J_aload_n E dX5_copy_28 rfl 1 rfl ?_
        refine gC0_X5_44 E dX5_copy_29 ?_
        refine J_iload_n E dX5_copy_32 rfl 4 rfl ?_
        refine laC_30_2 E dX5_copy_33 ?_
        refine J_astore E (lv' := [(7, .ref (a 35)), (6, .ref (a 35)), (0, .ref (a 0)), (1, .int (nI 2)), (2, .int f), (3, .int (nI 2)), (4, .int o), (5, .int n)]) dX5_copy_34 (by decide) rfl ?_
        refine J_aload E dX5_copy_36 1 rfl ?_
        refine J_si10r E (As := []) (c_X2_isMissing l G (sh a 35) (x 10) ) cl_X5_212 yo_X2_isMissing dX5_copy_38 rfl (Nat.le_of_ble_eq_true rfl) (Nat.le_of_ble_eq_true rfl) rfl (Nat.le_of_ble_eq_true rfl) ⟨Nat.zero_le _, Nat.zero_le _⟩ ?_
        refine J_if_ne E (tgt := 52) dX5_copy_41 (by decide) (fun c_41 => ?_) (fun c_41 => ?_)
        · skip
          have c_41 := bI_1 c_41
          exact absurd c_41 h1
        · skip
          have c_41 := bI_0 c_41
          refine J_aload E dX5_copy_44 0 rfl ?_
          refine J_si10r E (As := []) (c_X2_isMissing l G (sh a 35) (x 10) ) cl_X5_212 yo_X2_isMissing dX5_copy_46 rfl (Nat.le_of_ble_eq_true rfl) (Nat.le_of_ble_eq_true rfl) rfl (Nat.le_of_ble_eq_true rfl) ⟨Nat.zero_le _, Nat.zero_le _⟩ ?_
          refine J_if_eq E (tgt := 58) dX5_copy_49 (by decide) (fun c_49 => ?_) (fun c_49 => ?_)
          · skip
            have c_49 := bI_0 c_49
            refine J_aload E dX5_copy_58 1 rfl ?_
            refine gC35_X5_215 E dX5_copy_60 ?_
            refine J_aload E dX5_copy_63 0 rfl ?_
            refine gC35_X5_215 E dX5_copy_65 ?_
            refine J_icmp_eq E (tgt := 77) dX5_copy_68 (by decide) (fun c_68 => ?_) (fun c_68 => ?_)
            · skip
              exact absurd c_68 h3
            · skip
              refine J_aload_n E dX5_copy_71 rfl 2 rfl ?_
              refine J_iconst E dX5_copy_72 ic_2 ?_
              refine J_cVi0 E (As := [.int 2]) (c_X5_tell l G a x 2 (by omega)) cl_X5_64 yo_X5_tell dX5_copy_73 rfl rfl rfl (Nat.le_of_ble_eq_true rfl) (Nat.le_of_ble_eq_true rfl) rfl (Nat.le_of_ble_eq_true rfl) ⟨Nat.zero_le _, Nat.zero_le _⟩ ?_
              exact ret _ _ _ _ ⟨rfl, _, rfl, by intro g h2 h6; simp [upG, up3, up3R, h2, h6]⟩ rfl dX5_copy_76
          · skip
            have c_49 := bI_1 c_49
            exact absurd c_49 h2
      · skip
        have c_11 := bI_0 c_11
        exact absurd (in3 (by decide)) c_11
  · skip
    refine J_iload_n E dX5_copy_0 rfl 1 rfl ?_
    refine J_cSiN E (As := [.int (nI 2)]) (c_X5_isSheet l G (nI 2) ) cl_X5_202 yo_X5_isSheet dX5_copy_1 rfl (Nat.le_of_ble_eq_true rfl) (Nat.le_of_ble_eq_true rfl) rfl (Nat.le_of_ble_eq_true rfl) ⟨Nat.zero_le _, Nat.zero_le _⟩ ?_
    refine J_if_eq E (tgt := 14) dX5_copy_4 (by decide) (fun c_4 => ?_) (fun c_4 => ?_)
    · skip
      have c_4 := bI_0 c_4
      exact absurd (in3 (by decide)) c_4
    · skip
      have c_4 := bI_1 c_4
      refine J_iload_n E dX5_copy_7 rfl 3 rfl ?_
      refine J_cSiN E (As := [.int (nI 3)]) (c_X5_isSheet l G (nI 3) ) cl_X5_202 yo_X5_isSheet dX5_copy_8 rfl (Nat.le_of_ble_eq_true rfl) (Nat.le_of_ble_eq_true rfl) rfl (Nat.le_of_ble_eq_true rfl) ⟨Nat.zero_le _, Nat.zero_le _⟩ ?_
      refine J_if_ne E (tgt := 20) dX5_copy_11 (by decide) (fun c_11 => ?_) (fun c_11 => ?_)
      · skip
        have c_11 := bI_1 c_11
        refine J_aload_n E dX5_copy_20 rfl 0 rfl ?_
        refine gC0_X5_44 E dX5_copy_21 ?_
        refine J_iload_n E dX5_copy_24 rfl 1 rfl ?_
        refine laC_30_2 E dX5_copy_25 ?_
        refine J_astore E (lv' := [(6, .ref (a 35)), (0, .ref (a 0)), (1, .int (nI 2)), (2, .int f), (3, .int (nI 3)), (4, .int o), (5, .int n)]) dX5_copy_26 (by decide) rfl ?_
        refine J_aload_n E dX5_copy_28 rfl 1 rfl ?_
        refine gC0_X5_44 E dX5_copy_29 ?_
        refine J_iload_n E dX5_copy_32 rfl 4 rfl ?_
        refine laC_30_3 E dX5_copy_33 ?_
        refine J_astore E (lv' := [(7, .ref (a 37)), (6, .ref (a 35)), (0, .ref (a 0)), (1, .int (nI 2)), (2, .int f), (3, .int (nI 3)), (4, .int o), (5, .int n)]) dX5_copy_34 (by decide) rfl ?_
        refine J_aload E dX5_copy_36 1 rfl ?_
        refine J_si10r E (As := []) (c_X2_isMissing l G (sh a 35) (x 10) ) cl_X5_212 yo_X2_isMissing dX5_copy_38 rfl (Nat.le_of_ble_eq_true rfl) (Nat.le_of_ble_eq_true rfl) rfl (Nat.le_of_ble_eq_true rfl) ⟨Nat.zero_le _, Nat.zero_le _⟩ ?_
        refine J_if_ne E (tgt := 52) dX5_copy_41 (by decide) (fun c_41 => ?_) (fun c_41 => ?_)
        · skip
          have c_41 := bI_1 c_41
          exact absurd c_41 h1
        · skip
          have c_41 := bI_0 c_41
          refine J_aload E dX5_copy_44 0 rfl ?_
          refine J_si11r E (As := []) (c_X2_isMissing l G (sh a 37) (x 11) ) cl_X5_212 yo_X2_isMissing dX5_copy_46 rfl (Nat.le_of_ble_eq_true rfl) (Nat.le_of_ble_eq_true rfl) rfl (Nat.le_of_ble_eq_true rfl) ⟨Nat.zero_le _, Nat.zero_le _⟩ ?_
          refine J_if_eq E (tgt := 58) dX5_copy_49 (by decide) (fun c_49 => ?_) (fun c_49 => ?_)
          · skip
            have c_49 := bI_0 c_49
            refine J_aload E dX5_copy_58 1 rfl ?_
            refine gC35_X5_215 E dX5_copy_60 ?_
            refine J_aload E dX5_copy_63 0 rfl ?_
            refine gC37_X5_215 E dX5_copy_65 ?_
            refine J_icmp_eq E (tgt := 77) dX5_copy_68 (by decide) (fun c_68 => ?_) (fun c_68 => ?_)
            · skip
              exact absurd c_68 h3
            · skip
              refine J_aload_n E dX5_copy_71 rfl 2 rfl ?_
              refine J_iconst E dX5_copy_72 ic_2 ?_
              refine J_cVi0 E (As := [.int 2]) (c_X5_tell l G a x 2 (by omega)) cl_X5_64 yo_X5_tell dX5_copy_73 rfl rfl rfl (Nat.le_of_ble_eq_true rfl) (Nat.le_of_ble_eq_true rfl) rfl (Nat.le_of_ble_eq_true rfl) ⟨Nat.zero_le _, Nat.zero_le _⟩ ?_
              exact ret _ _ _ _ ⟨rfl, _, rfl, by intro g h2 h6; simp [upG, up3, up3R, h2, h6]⟩ rfl dX5_copy_76
          · skip
            have c_49 := bI_1 c_49
            exact absurd c_49 h2
      · skip
        have c_11 := bI_0 c_11
        exact absurd (in3 (by decide)) c_11
  · skip
    refine J_iload_n E dX5_copy_0 rfl 1 rfl ?_
    refine J_cSiN E (As := [.int (nI 3)]) (c_X5_isSheet l G (nI 3) ) cl_X5_202 yo_X5_isSheet dX5_copy_1 rfl (Nat.le_of_ble_eq_true rfl) (Nat.le_of_ble_eq_true rfl) rfl (Nat.le_of_ble_eq_true rfl) ⟨Nat.zero_le _, Nat.zero_le _⟩ ?_
    refine J_if_eq E (tgt := 14) dX5_copy_4 (by decide) (fun c_4 => ?_) (fun c_4 => ?_)
    · skip
      have c_4 := bI_0 c_4
      exact absurd (in3 (by decide)) c_4
    · skip
      have c_4 := bI_1 c_4
      refine J_iload_n E dX5_copy_7 rfl 3 rfl ?_
      refine J_cSiN E (As := [.int (nI 0)]) (c_X5_isSheet l G (nI 0) ) cl_X5_202 yo_X5_isSheet dX5_copy_8 rfl (Nat.le_of_ble_eq_true rfl) (Nat.le_of_ble_eq_true rfl) rfl (Nat.le_of_ble_eq_true rfl) ⟨Nat.zero_le _, Nat.zero_le _⟩ ?_
      refine J_if_ne E (tgt := 20) dX5_copy_11 (by decide) (fun c_11 => ?_) (fun c_11 => ?_)
      · skip
        have c_11 := bI_1 c_11
        refine J_aload_n E dX5_copy_20 rfl 0 rfl ?_
        refine gC0_X5_44 E dX5_copy_21 ?_
        refine J_iload_n E dX5_copy_24 rfl 1 rfl ?_
        refine laC_30_3 E dX5_copy_25 ?_
        refine J_astore E (lv' := [(6, .ref (a 37)), (0, .ref (a 0)), (1, .int (nI 3)), (2, .int f), (3, .int (nI 0)), (4, .int o), (5, .int n)]) dX5_copy_26 (by decide) rfl ?_
        refine J_aload_n E dX5_copy_28 rfl 1 rfl ?_
        refine gC0_X5_44 E dX5_copy_29 ?_
        refine J_iload_n E dX5_copy_32 rfl 4 rfl ?_
        refine laC_30_0 E dX5_copy_33 ?_
        refine J_astore E (lv' := [(7, .ref (a 31)), (6, .ref (a 37)), (0, .ref (a 0)), (1, .int (nI 3)), (2, .int f), (3, .int (nI 0)), (4, .int o), (5, .int n)]) dX5_copy_34 (by decide) rfl ?_
        refine J_aload E dX5_copy_36 1 rfl ?_
        refine J_si11r E (As := []) (c_X2_isMissing l G (sh a 37) (x 11) ) cl_X5_212 yo_X2_isMissing dX5_copy_38 rfl (Nat.le_of_ble_eq_true rfl) (Nat.le_of_ble_eq_true rfl) rfl (Nat.le_of_ble_eq_true rfl) ⟨Nat.zero_le _, Nat.zero_le _⟩ ?_
        refine J_if_ne E (tgt := 52) dX5_copy_41 (by decide) (fun c_41 => ?_) (fun c_41 => ?_)
        · skip
          have c_41 := bI_1 c_41
          exact absurd c_41 h1
        · skip
          have c_41 := bI_0 c_41
          refine J_aload E dX5_copy_44 0 rfl ?_
          refine J_si8r E (As := []) (c_X2_isMissing l G (sh a 31) (x 8) ) cl_X5_212 yo_X2_isMissing dX5_copy_46 rfl (Nat.le_of_ble_eq_true rfl) (Nat.le_of_ble_eq_true rfl) rfl (Nat.le_of_ble_eq_true rfl) ⟨Nat.zero_le _, Nat.zero_le _⟩ ?_
          refine J_if_eq E (tgt := 58) dX5_copy_49 (by decide) (fun c_49 => ?_) (fun c_49 => ?_)
          · skip
            have c_49 := bI_0 c_49
            refine J_aload E dX5_copy_58 1 rfl ?_
            refine gC37_X5_215 E dX5_copy_60 ?_
            refine J_aload E dX5_copy_63 0 rfl ?_
            refine gC31_X5_215 E dX5_copy_65 ?_
            refine J_icmp_eq E (tgt := 77) dX5_copy_68 (by decide) (fun c_68 => ?_) (fun c_68 => ?_)
            · skip
              exact absurd c_68 h3
            · skip
              refine J_aload_n E dX5_copy_71 rfl 2 rfl ?_
              refine J_iconst E dX5_copy_72 ic_2 ?_
              refine J_cVi0 E (As := [.int 2]) (c_X5_tell l G a x 2 (by omega)) cl_X5_64 yo_X5_tell dX5_copy_73 rfl rfl rfl (Nat.le_of_ble_eq_true rfl) (Nat.le_of_ble_eq_true rfl) rfl (Nat.le_of_ble_eq_true rfl) ⟨Nat.zero_le _, Nat.zero_le _⟩ ?_
              exact ret _ _ _ _ ⟨rfl, _, rfl, by intro g h2 h6; simp [upG, up3, up3R, h2, h6]⟩ rfl dX5_copy_76
          · skip
            have c_49 := bI_1 c_49
            exact absurd c_49 h2
      · skip
        have c_11 := bI_0 c_11
        exact absurd (in3 (by decide)) c_11
  · skip
    refine J_iload_n E dX5_copy_0 rfl 1 rfl ?_
    refine J_cSiN E (As := [.int (nI 3)]) (c_X5_isSheet l G (nI 3) ) cl_X5_202 yo_X5_isSheet dX5_copy_1 rfl (Nat.le_of_ble_eq_true rfl) (Nat.le_of_ble_eq_true rfl) rfl (Nat.le_of_ble_eq_true rfl) ⟨Nat.zero_le _, Nat.zero_le _⟩ ?_
    refine J_if_eq E (tgt := 14) dX5_copy_4 (by decide) (fun c_4 => ?_) (fun c_4 => ?_)
    · skip
      have c_4 := bI_0 c_4
      exact absurd (in3 (by decide)) c_4
    · skip
      have c_4 := bI_1 c_4
      refine J_iload_n E dX5_copy_7 rfl 3 rfl ?_
      refine J_cSiN E (As := [.int (nI 1)]) (c_X5_isSheet l G (nI 1) ) cl_X5_202 yo_X5_isSheet dX5_copy_8 rfl (Nat.le_of_ble_eq_true rfl) (Nat.le_of_ble_eq_true rfl) rfl (Nat.le_of_ble_eq_true rfl) ⟨Nat.zero_le _, Nat.zero_le _⟩ ?_
      refine J_if_ne E (tgt := 20) dX5_copy_11 (by decide) (fun c_11 => ?_) (fun c_11 => ?_)
      · skip
        have c_11 := bI_1 c_11
        refine J_aload_n E dX5_copy_20 rfl 0 rfl ?_
        refine gC0_X5_44 E dX5_copy_21 ?_
        refine J_iload_n E dX5_copy_24 rfl 1 rfl ?_
        refine laC_30_3 E dX5_copy_25 ?_
        refine J_astore E (lv' := [(6, .ref (a 37)), (0, .ref (a 0)), (1, .int (nI 3)), (2, .int f), (3, .int (nI 1)), (4, .int o), (5, .int n)]) dX5_copy_26 (by decide) rfl ?_
        refine J_aload_n E dX5_copy_28 rfl 1 rfl ?_
        refine gC0_X5_44 E dX5_copy_29 ?_
        refine J_iload_n E dX5_copy_32 rfl 4 rfl ?_
        refine laC_30_1 E dX5_copy_33 ?_
        refine J_astore E (lv' := [(7, .ref (a 33)), (6, .ref (a 37)), (0, .ref (a 0)), (1, .int (nI 3)), (2, .int f), (3, .int (nI 1)), (4, .int o), (5, .int n)]) dX5_copy_34 (by decide) rfl ?_
        refine J_aload E dX5_copy_36 1 rfl ?_
        refine J_si11r E (As := []) (c_X2_isMissing l G (sh a 37) (x 11) ) cl_X5_212 yo_X2_isMissing dX5_copy_38 rfl (Nat.le_of_ble_eq_true rfl) (Nat.le_of_ble_eq_true rfl) rfl (Nat.le_of_ble_eq_true rfl) ⟨Nat.zero_le _, Nat.zero_le _⟩ ?_
        refine J_if_ne E (tgt := 52) dX5_copy_41 (by decide) (fun c_41 => ?_) (fun c_41 => ?_)
        · skip
          have c_41 := bI_1 c_41
          exact absurd c_41 h1
        · skip
          have c_41 := bI_0 c_41
          refine J_aload E dX5_copy_44 0 rfl ?_
          refine J_si9r E (As := []) (c_X2_isMissing l G (sh a 33) (x 9) ) cl_X5_212 yo_X2_isMissing dX5_copy_46 rfl (Nat.le_of_ble_eq_true rfl) (Nat.le_of_ble_eq_true rfl) rfl (Nat.le_of_ble_eq_true rfl) ⟨Nat.zero_le _, Nat.zero_le _⟩ ?_
          refine J_if_eq E (tgt := 58) dX5_copy_49 (by decide) (fun c_49 => ?_) (fun c_49 => ?_)
          · skip
            have c_49 := bI_0 c_49
            refine J_aload E dX5_copy_58 1 rfl ?_
            refine gC37_X5_215 E dX5_copy_60 ?_
            refine J_aload E dX5_copy_63 0 rfl ?_
            refine gC33_X5_215 E dX5_copy_65 ?_
            refine J_icmp_eq E (tgt := 77) dX5_copy_68 (by decide) (fun c_68 => ?_) (fun c_68 => ?_)
            · skip
              exact absurd c_68 h3
            · skip
              refine J_aload_n E dX5_copy_71 rfl 2 rfl ?_
              refine J_iconst E dX5_copy_72 ic_2 ?_
              refine J_cVi0 E (As := [.int 2]) (c_X5_tell l G a x 2 (by omega)) cl_X5_64 yo_X5_tell dX5_copy_73 rfl rfl rfl (Nat.le_of_ble_eq_true rfl) (Nat.le_of_ble_eq_true rfl) rfl (Nat.le_of_ble_eq_true rfl) ⟨Nat.zero_le _, Nat.zero_le _⟩ ?_
              exact ret _ _ _ _ ⟨rfl, _, rfl, by intro g h2 h6; simp [upG, up3, up3R, h2, h6]⟩ rfl dX5_copy_76
          · skip
            have c_49 := bI_1 c_49
            exact absurd c_49 h2
      · skip
        have c_11 := bI_0 c_11
        exact absurd (in3 (by decide)) c_11
  · skip
    refine J_iload_n E dX5_copy_0 rfl 1 rfl ?_
    refine J_cSiN E (As := [.int (nI 3)]) (c_X5_isSheet l G (nI 3) ) cl_X5_202 yo_X5_isSheet dX5_copy_1 rfl (Nat.le_of_ble_eq_true rfl) (Nat.le_of_ble_eq_true rfl) rfl (Nat.le_of_ble_eq_true rfl) ⟨Nat.zero_le _, Nat.zero_le _⟩ ?_
    refine J_if_eq E (tgt := 14) dX5_copy_4 (by decide) (fun c_4 => ?_) (fun c_4 => ?_)
    · skip
      have c_4 := bI_0 c_4
      exact absurd (in3 (by decide)) c_4
    · skip
      have c_4 := bI_1 c_4
      refine J_iload_n E dX5_copy_7 rfl 3 rfl ?_
      refine J_cSiN E (As := [.int (nI 2)]) (c_X5_isSheet l G (nI 2) ) cl_X5_202 yo_X5_isSheet dX5_copy_8 rfl (Nat.le_of_ble_eq_true rfl) (Nat.le_of_ble_eq_true rfl) rfl (Nat.le_of_ble_eq_true rfl) ⟨Nat.zero_le _, Nat.zero_le _⟩ ?_
      refine J_if_ne E (tgt := 20) dX5_copy_11 (by decide) (fun c_11 => ?_) (fun c_11 => ?_)
      · skip
        have c_11 := bI_1 c_11
        refine J_aload_n E dX5_copy_20 rfl 0 rfl ?_
        refine gC0_X5_44 E dX5_copy_21 ?_
        refine J_iload_n E dX5_copy_24 rfl 1 rfl ?_
        refine laC_30_3 E dX5_copy_25 ?_
        refine J_astore E (lv' := [(6, .ref (a 37)), (0, .ref (a 0)), (1, .int (nI 3)), (2, .int f), (3, .int (nI 2)), (4, .int o), (5, .int n)]) dX5_copy_26 (by decide) rfl ?_
        refine J_aload_n E dX5_copy_28 rfl 1 rfl ?_
        refine gC0_X5_44 E dX5_copy_29 ?_
        refine J_iload_n E dX5_copy_32 rfl 4 rfl ?_
        refine laC_30_2 E dX5_copy_33 ?_
        refine J_astore E (lv' := [(7, .ref (a 35)), (6, .ref (a 37)), (0, .ref (a 0)), (1, .int (nI 3)), (2, .int f), (3, .int (nI 2)), (4, .int o), (5, .int n)]) dX5_copy_34 (by decide) rfl ?_
        refine J_aload E dX5_copy_36 1 rfl ?_
        refine J_si11r E (As := []) (c_X2_isMissing l G (sh a 37) (x 11) ) cl_X5_212 yo_X2_isMissing dX5_copy_38 rfl (Nat.le_of_ble_eq_true rfl) (Nat.le_of_ble_eq_true rfl) rfl (Nat.le_of_ble_eq_true rfl) ⟨Nat.zero_le _, Nat.zero_le _⟩ ?_
        refine J_if_ne E (tgt := 52) dX5_copy_41 (by decide) (fun c_41 => ?_) (fun c_41 => ?_)
        · skip
          have c_41 := bI_1 c_41
          exact absurd c_41 h1
        · skip
          have c_41 := bI_0 c_41
          refine J_aload E dX5_copy_44 0 rfl ?_
          refine J_si10r E (As := []) (c_X2_isMissing l G (sh a 35) (x 10) ) cl_X5_212 yo_X2_isMissing dX5_copy_46 rfl (Nat.le_of_ble_eq_true rfl) (Nat.le_of_ble_eq_true rfl) rfl (Nat.le_of_ble_eq_true rfl) ⟨Nat.zero_le _, Nat.zero_le _⟩ ?_
          refine J_if_eq E (tgt := 58) dX5_copy_49 (by decide) (fun c_49 => ?_) (fun c_49 => ?_)
          · skip
            have c_49 := bI_0 c_49
            refine J_aload E dX5_copy_58 1 rfl ?_
            refine gC37_X5_215 E dX5_copy_60 ?_
            refine J_aload E dX5_copy_63 0 rfl ?_
            refine gC35_X5_215 E dX5_copy_65 ?_
            refine J_icmp_eq E (tgt := 77) dX5_copy_68 (by decide) (fun c_68 => ?_) (fun c_68 => ?_)
            · skip
              exact absurd c_68 h3
            · skip
              refine J_aload_n E dX5_copy_71 rfl 2 rfl ?_
              refine J_iconst E dX5_copy_72 ic_2 ?_
              refine J_cVi0 E (As := [.int 2]) (c_X5_tell l G a x 2 (by omega)) cl_X5_64 yo_X5_tell dX5_copy_73 rfl rfl rfl (Nat.le_of_ble_eq_true rfl) (Nat.le_of_ble_eq_true rfl) rfl (Nat.le_of_ble_eq_true rfl) ⟨Nat.zero_le _, Nat.zero_le _⟩ ?_
              exact ret _ _ _ _ ⟨rfl, _, rfl, by intro g h2 h6; simp [upG, up3, up3R, h2, h6]⟩ rfl dX5_copy_76
          · skip
            have c_49 := bI_1 c_49
            exact absurd c_49 h2
      · skip
        have c_11 := bI_0 c_11
        exact absurd (in3 (by decide)) c_11
  · skip
    refine J_iload_n E dX5_copy_0 rfl 1 rfl ?_
    refine J_cSiN E (As := [.int (nI 3)]) (c_X5_isSheet l G (nI 3) ) cl_X5_202 yo_X5_isSheet dX5_copy_1 rfl (Nat.le_of_ble_eq_true rfl) (Nat.le_of_ble_eq_true rfl) rfl (Nat.le_of_ble_eq_true rfl) ⟨Nat.zero_le _, Nat.zero_le _⟩ ?_
    refine J_if_eq E (tgt := 14) dX5_copy_4 (by decide) (fun c_4 => ?_) (fun c_4 => ?_)
    · skip
      have c_4 := bI_0 c_4
      exact absurd (in3 (by decide)) c_4
    · skip
      have c_4 := bI_1 c_4
      refine J_iload_n E dX5_copy_7 rfl 3 rfl ?_
      refine J_cSiN E (As := [.int (nI 3)]) (c_X5_isSheet l G (nI 3) ) cl_X5_202 yo_X5_isSheet dX5_copy_8 rfl (Nat.le_of_ble_eq_true rfl) (Nat.le_of_ble_eq_true rfl) rfl (Nat.le_of_ble_eq_true rfl) ⟨Nat.zero_le _, Nat.zero_le _⟩ ?_
      refine J_if_ne E (tgt := 20) dX5_copy_11 (by decide) (fun c_11 => ?_) (fun c_11 => ?_)
      · skip
        have c_11 := bI_1 c_11
        refine J_aload_n E dX5_copy_20 rfl 0 rfl ?_
        refine gC0_X5_44 E dX5_copy_21 ?_
        refine J_iload_n E dX5_copy_24 rfl 1 rfl ?_
        refine laC_30_3 E dX5_copy_25 ?_
        refine J_astore E (lv' := [(6, .ref (a 37)), (0, .ref (a 0)), (1, .int (nI 3)), (2, .int f), (3, .int (nI 3)), (4, .int o), (5, .int n)]) dX5_copy_26 (by decide) rfl ?_
        refine J_aload_n E dX5_copy_28 rfl 1 rfl ?_
        refine gC0_X5_44 E dX5_copy_29 ?_
        refine J_iload_n E dX5_copy_32 rfl 4 rfl ?_
        refine laC_30_3 E dX5_copy_33 ?_
        refine J_astore E (lv' := [(7, .ref (a 37)), (6, .ref (a 37)), (0, .ref (a 0)), (1, .int (nI 3)), (2, .int f), (3, .int (nI 3)), (4, .int o), (5, .int n)]) dX5_copy_34 (by decide) rfl ?_
        refine J_aload E dX5_copy_36 1 rfl ?_
        refine J_si11r E (As := []) (c_X2_isMissing l G (sh a 37) (x 11) ) cl_X5_212 yo_X2_isMissing dX5_copy_38 rfl (Nat.le_of_ble_eq_true rfl) (Nat.le_of_ble_eq_true rfl) rfl (Nat.le_of_ble_eq_true rfl) ⟨Nat.zero_le _, Nat.zero_le _⟩ ?_
        refine J_if_ne E (tgt := 52) dX5_copy_41 (by decide) (fun c_41 => ?_) (fun c_41 => ?_)
        · skip
          have c_41 := bI_1 c_41
          exact absurd c_41 h1
        · skip
          have c_41 := bI_0 c_41
          refine J_aload E dX5_copy_44 0 rfl ?_
          refine J_si11r E (As := []) (c_X2_isMissing l G (sh a 37) (x 11) ) cl_X5_212 yo_X2_isMissing dX5_copy_46 rfl (Nat.le_of_ble_eq_true rfl) (Nat.le_of_ble_eq_true rfl) rfl (Nat.le_of_ble_eq_true rfl) ⟨Nat.zero_le _, Nat.zero_le _⟩ ?_
          refine J_if_eq E (tgt := 58) dX5_copy_49 (by decide) (fun c_49 => ?_) (fun c_49 => ?_)
          · skip
            have c_49 := bI_0 c_49
            refine J_aload E dX5_copy_58 1 rfl ?_
            refine gC37_X5_215 E dX5_copy_60 ?_
            refine J_aload E dX5_copy_63 0 rfl ?_
            refine gC37_X5_215 E dX5_copy_65 ?_
            refine J_icmp_eq E (tgt := 77) dX5_copy_68 (by decide) (fun c_68 => ?_) (fun c_68 => ?_)
            · skip
              exact absurd c_68 h3
            · skip
              refine J_aload_n E dX5_copy_71 rfl 2 rfl ?_
              refine J_iconst E dX5_copy_72 ic_2 ?_
              refine J_cVi0 E (As := [.int 2]) (c_X5_tell l G a x 2 (by omega)) cl_X5_64 yo_X5_tell dX5_copy_73 rfl rfl rfl (Nat.le_of_ble_eq_true rfl) (Nat.le_of_ble_eq_true rfl) rfl (Nat.le_of_ble_eq_true rfl) ⟨Nat.zero_le _, Nat.zero_le _⟩ ?_
              exact ret _ _ _ _ ⟨rfl, _, rfl, by intro g h2 h6; simp [upG, up3, up3R, h2, h6]⟩ rfl dX5_copy_76
          · skip
            have c_49 := bI_1 c_49
            exact absurd c_49 h2
      · skip
        have c_11 := bI_0 c_11
        exact absurd (in3 (by decide)) c_11

set_option maxHeartbeats 4000000 in
set_option maxRecDepth 20000 in
theorem c_X5_copy_run (l : Launch) (G : GB) (a : Nat → Nat) (x : Q3) (i k : Nat) (f o n : Int32) (hi : i < 4) (hk : k < 4)  (h1 : ¬ x (8 + i) 1 0 = 0) (h2 : ¬ x (8 + k) 1 0 = 0) (h3 : x (8 + i) 1 0 = x (8 + k) 1 0) (hb : ¬ ((0 ≤ f ∧ 0 ≤ n ∧ f ≤ x (8 + i) 1 1 ∧ n ≤ x (8 + i) 1 1 - f) ∧ (0 ≤ o ∧ 0 ≤ n ∧ o ≤ x (8 + k) 1 1 ∧ n ≤ x (8 + k) 1 1 - o))) : CI l yX5_copy cX5_copy 8 .int 2 41 G [.ref (a 0), .int (nI i), .int f, .int (nI k), .int o, .int n] (wC G a x) (fun vR w' => vR = tellR 0 ∧ PubC G a (tellX x 0) w') := by
  refine CI.mk (own := RX5) (by decide) rfl (Nat.le_of_ble_eq_true rfl) ?_
  intro X E ret
  show J X G 8 0 0 (wC G a x) [(0, .ref (a 0)), (1, .int (nI i)), (2, .int f), (3, .int (nI k)), (4, .int o), (5, .int n)] 0 []
  rcases (show (i = 0 ∧ k = 0) ∨ (i = 0 ∧ k = 1) ∨ (i = 0 ∧ k = 2) ∨ (i = 0 ∧ k = 3) ∨ (i = 1 ∧ k = 0) ∨ (i = 1 ∧ k = 1) ∨ (i = 1 ∧ k = 2) ∨ (i = 1 ∧ k = 3) ∨ (i = 2 ∧ k = 0) ∨ (i = 2 ∧ k = 1) ∨ (i = 2 ∧ k = 2) ∨ (i = 2 ∧ k = 3) ∨ (i = 3 ∧ k = 0) ∨ (i = 3 ∧ k = 1) ∨ (i = 3 ∧ k = 2) ∨ (i = 3 ∧ k = 3) by omega) with ⟨rfl, rfl⟩ | ⟨rfl, rfl⟩ | ⟨rfl, rfl⟩ | ⟨rfl, rfl⟩ | ⟨rfl, rfl⟩ | ⟨rfl, rfl⟩ | ⟨rfl, rfl⟩ | ⟨rfl, rfl⟩ | ⟨rfl, rfl⟩ | ⟨rfl, rfl⟩ | ⟨rfl, rfl⟩ | ⟨rfl, rfl⟩ | ⟨rfl, rfl⟩ | ⟨rfl, rfl⟩ | ⟨rfl, rfl⟩ | ⟨rfl, rfl⟩
  · skip
    refine J_iload_n E dX5_copy_0 rfl 1 rfl ?_
    refine J_cSiN E (As := [.int (nI 0)]) (c_X5_isSheet l G (nI 0) ) cl_X5_202 yo_X5_isSheet dX5_copy_1 rfl (Nat.le_of_ble_eq_true rfl) (Nat.le_of_ble_eq_true rfl) rfl (Nat.le_of_ble_eq_true rfl) ⟨Nat.zero_le _, Nat.zero_le _⟩ ?_
    refine J_if_eq E (tgt := 14) dX5_copy_4 (by decide) (fun c_4 => ?_) (fun c_4 => ?_)
    · skip
      have c_4 := bI_0 c_4
      exact absurd (in3 (by decide)) c_4
    · skip
      have c_4 := bI_1 c_4
      refine J_iload_n E dX5_copy_7 rfl 3 rfl ?_
      refine J_cSiN E (As := [.int (nI 0)]) (c_X5_isSheet l G (nI 0) ) cl_X5_202 yo_X5_isSheet dX5_copy_8 rfl (Nat.le_of_ble_eq_true rfl) (Nat.le_of_ble_eq_true rfl) rfl (Nat.le_of_ble_eq_true rfl) ⟨Nat.zero_le _, Nat.zero_le _⟩ ?_
      refine J_if_ne E (tgt := 20) dX5_copy_11 (by decide) (fun c_11 => ?_) (fun c_11 => ?_)
      · skip
        have c_11 := bI_1 c_11
        refine J_aload_n E dX5_copy_20 rfl 0 rfl ?_
        refine gC0_X5_44 E dX5_copy_21 ?_
        refine J_iload_n E dX5_copy_24 rfl 1 rfl ?_
        refine laC_30_0 E dX5_copy_25 ?_
        refine J_astore E (lv' := [(6, .ref (a 31)), (0, .ref (a 0)), (1, .int (nI 0)), (2, .int f), (3, .int (nI 0)), (4, .int o), (5, .int n)]) dX5_copy_26 (by decide) rfl ?_
        refine J_aload_n E dX5_copy_28 rfl 1 rfl ?_
        refine gC0_X5_44 E dX5_copy_29 ?_
        refine J_iload_n E dX5_copy_32 rfl 4 rfl ?_
        refine laC_30_0 E dX5_copy_33 ?_
        refine J_astore E (lv' := [(7, .ref (a 31)), (6, .ref (a 31)), (0, .ref (a 0)), (1, .int (nI 0)), (2, .int f), (3, .int (nI 0)), (4, .int o), (5, .int n)]) dX5_copy_34 (by decide) rfl ?_
        refine J_aload E dX5_copy_36 1 rfl ?_
        refine J_si8r E (As := []) (c_X2_isMissing l G (sh a 31) (x 8) ) cl_X5_212 yo_X2_isMissing dX5_copy_38 rfl (Nat.le_of_ble_eq_true rfl) (Nat.le_of_ble_eq_true rfl) rfl (Nat.le_of_ble_eq_true rfl) ⟨Nat.zero_le _, Nat.zero_le _⟩ ?_
        refine J_if_ne E (tgt := 52) dX5_copy_41 (by decide) (fun c_41 => ?_) (fun c_41 => ?_)
        · skip
          have c_41 := bI_1 c_41
          exact absurd c_41 h1
        · skip
          have c_41 := bI_0 c_41
          refine J_aload E dX5_copy_44 0 rfl ?_
          refine J_si8r E (As := []) (c_X2_isMissing l G (sh a 31) (x 8) ) cl_X5_212 yo_X2_isMissing dX5_copy_46 rfl (Nat.le_of_ble_eq_true rfl) (Nat.le_of_ble_eq_true rfl) rfl (Nat.le_of_ble_eq_true rfl) ⟨Nat.zero_le _, Nat.zero_le _⟩ ?_
          refine J_if_eq E (tgt := 58) dX5_copy_49 (by decide) (fun c_49 => ?_) (fun c_49 => ?_)
          · skip
            have c_49 := bI_0 c_49
            refine J_aload E dX5_copy_58 1 rfl ?_
            refine gC31_X5_215 E dX5_copy_60 ?_
            refine J_aload E dX5_copy_63 0 rfl ?_
            refine gC31_X5_215 E dX5_copy_65 ?_
            refine J_icmp_eq E (tgt := 77) dX5_copy_68 (by decide) (fun c_68 => ?_) (fun c_68 => ?_)
            · skip
              refine J_aload E dX5_copy_77 1 rfl ?_
              refine J_iload_n E dX5_copy_79 rfl 4 rfl ?_
              refine J_iload E dX5_copy_80 7 rfl ?_
              refine J_si8r E (As := [.int f, .int n]) (c_X2_hasRun l G (sh a 31) (x 8) f n ) cl_X5_218 yo_X2_hasRun dX5_copy_82 rfl (Nat.le_of_ble_eq_true rfl) (Nat.le_of_ble_eq_true rfl) rfl (Nat.le_of_ble_eq_true rfl) ⟨Nat.zero_le _, Nat.zero_le _⟩ ?_
              refine J_if_eq E (tgt := 100) dX5_copy_85 (by decide) (fun c_85 => ?_) (fun c_85 => ?_)
              · skip
                have c_85 := bI_0 c_85
                refine J_aload_n E dX5_copy_100 rfl 2 rfl ?_
                refine J_iconst E dX5_copy_101 ic_0 ?_
                refine J_cVi0 E (As := [.int 0]) (c_X5_tell l G a x 0 (by omega)) cl_X5_64 yo_X5_tell dX5_copy_102 rfl rfl rfl (Nat.le_of_ble_eq_true rfl) (Nat.le_of_ble_eq_true rfl) rfl (Nat.le_of_ble_eq_true rfl) ⟨Nat.zero_le _, Nat.zero_le _⟩ ?_
                exact ret _ _ _ _ ⟨rfl, _, rfl, by intro g h2 h6; simp [upG, up3, up3R, h2, h6]⟩ rfl dX5_copy_105
              · skip
                have c_85 := bI_1 c_85
                refine J_aload E dX5_copy_88 0 rfl ?_
                refine J_iload E dX5_copy_90 6 rfl ?_
                refine J_iload E dX5_copy_92 7 rfl ?_
                refine J_si8r E (As := [.int o, .int n]) (c_X2_hasRun l G (sh a 31) (x 8) o n ) cl_X5_218 yo_X2_hasRun dX5_copy_94 rfl (Nat.le_of_ble_eq_true rfl) (Nat.le_of_ble_eq_true rfl) rfl (Nat.le_of_ble_eq_true rfl) ⟨Nat.zero_le _, Nat.zero_le _⟩ ?_
                refine J_if_ne E (tgt := 106) dX5_copy_97 (by decide) (fun c_97 => ?_) (fun c_97 => ?_)
                · skip
                  have c_97 := bI_1 c_97
                  exact absurd ⟨c_85, c_97⟩ hb
                · skip
                  have c_97 := bI_0 c_97
                  refine J_aload_n E dX5_copy_100 rfl 2 rfl ?_
                  refine J_iconst E dX5_copy_101 ic_0 ?_
                  refine J_cVi0 E (As := [.int 0]) (c_X5_tell l G a x 0 (by omega)) cl_X5_64 yo_X5_tell dX5_copy_102 rfl rfl rfl (Nat.le_of_ble_eq_true rfl) (Nat.le_of_ble_eq_true rfl) rfl (Nat.le_of_ble_eq_true rfl) ⟨Nat.zero_le _, Nat.zero_le _⟩ ?_
                  exact ret _ _ _ _ ⟨rfl, _, rfl, by intro g h2 h6; simp [upG, up3, up3R, h2, h6]⟩ rfl dX5_copy_105
            · skip
              exact absurd h3 c_68
          · skip
            have c_49 := bI_1 c_49
            exact absurd c_49 h2
      · skip
        have c_11 := bI_0 c_11
        exact absurd (in3 (by decide)) c_11
  · skip
    refine J_iload_n E dX5_copy_0 rfl 1 rfl ?_
    refine J_cSiN E (As := [.int (nI 0)]) (c_X5_isSheet l G (nI 0) ) cl_X5_202 yo_X5_isSheet dX5_copy_1 rfl (Nat.le_of_ble_eq_true rfl) (Nat.le_of_ble_eq_true rfl) rfl (Nat.le_of_ble_eq_true rfl) ⟨Nat.zero_le _, Nat.zero_le _⟩ ?_
    refine J_if_eq E (tgt := 14) dX5_copy_4 (by decide) (fun c_4 => ?_) (fun c_4 => ?_)
    · skip
      have c_4 := bI_0 c_4
      exact absurd (in3 (by decide)) c_4
    · skip
      have c_4 := bI_1 c_4
      refine J_iload_n E dX5_copy_7 rfl 3 rfl ?_
      refine J_cSiN E (As := [.int (nI 1)]) (c_X5_isSheet l G (nI 1) ) cl_X5_202 yo_X5_isSheet dX5_copy_8 rfl (Nat.le_of_ble_eq_true rfl) (Nat.le_of_ble_eq_true rfl) rfl (Nat.le_of_ble_eq_true rfl) ⟨Nat.zero_le _, Nat.zero_le _⟩ ?_
      refine J_if_ne E (tgt := 20) dX5_copy_11 (by decide) (fun c_11 => ?_) (fun c_11 => ?_)
      · skip
        have c_11 := bI_1 c_11
        refine J_aload_n E dX5_copy_20 rfl 0 rfl ?_
        refine gC0_X5_44 E dX5_copy_21 ?_
        refine J_iload_n E dX5_copy_24 rfl 1 rfl ?_
        refine laC_30_0 E dX5_copy_25 ?_
        refine J_astore E (lv' := [(6, .ref (a 31)), (0, .ref (a 0)), (1, .int (nI 0)), (2, .int f), (3, .int (nI 1)), (4, .int o), (5, .int n)]) dX5_copy_26 (by decide) rfl ?_
        refine J_aload_n E dX5_copy_28 rfl 1 rfl ?_
        refine gC0_X5_44 E dX5_copy_29 ?_
        refine J_iload_n E dX5_copy_32 rfl 4 rfl ?_
        refine laC_30_1 E dX5_copy_33 ?_
        refine J_astore E (lv' := [(7, .ref (a 33)), (6, .ref (a 31)), (0, .ref (a 0)), (1, .int (nI 0)), (2, .int f), (3, .int (nI 1)), (4, .int o), (5, .int n)]) dX5_copy_34 (by decide) rfl ?_
        refine J_aload E dX5_copy_36 1 rfl ?_
        refine J_si8r E (As := []) (c_X2_isMissing l G (sh a 31) (x 8) ) cl_X5_212 yo_X2_isMissing dX5_copy_38 rfl (Nat.le_of_ble_eq_true rfl) (Nat.le_of_ble_eq_true rfl) rfl (Nat.le_of_ble_eq_true rfl) ⟨Nat.zero_le _, Nat.zero_le _⟩ ?_
        refine J_if_ne E (tgt := 52) dX5_copy_41 (by decide) (fun c_41 => ?_) (fun c_41 => ?_)
        · skip
          have c_41 := bI_1 c_41
          exact absurd c_41 h1
        · skip
          have c_41 := bI_0 c_41
          refine J_aload E dX5_copy_44 0 rfl ?_
          refine J_si9r E (As := []) (c_X2_isMissing l G (sh a 33) (x 9) ) cl_X5_212 yo_X2_isMissing dX5_copy_46 rfl (Nat.le_of_ble_eq_true rfl) (Nat.le_of_ble_eq_true rfl) rfl (Nat.le_of_ble_eq_true rfl) ⟨Nat.zero_le _, Nat.zero_le _⟩ ?_
          refine J_if_eq E (tgt := 58) dX5_copy_49 (by decide) (fun c_49 => ?_) (fun c_49 => ?_)
          · skip
            have c_49 := bI_0 c_49
            refine J_aload E dX5_copy_58 1 rfl ?_
            refine gC31_X5_215 E dX5_copy_60 ?_
            refine J_aload E dX5_copy_63 0 rfl ?_
            refine gC33_X5_215 E dX5_copy_65 ?_
            refine J_icmp_eq E (tgt := 77) dX5_copy_68 (by decide) (fun c_68 => ?_) (fun c_68 => ?_)
            · skip
              refine J_aload E dX5_copy_77 1 rfl ?_
              refine J_iload_n E dX5_copy_79 rfl 4 rfl ?_
              refine J_iload E dX5_copy_80 7 rfl ?_
              refine J_si8r E (As := [.int f, .int n]) (c_X2_hasRun l G (sh a 31) (x 8) f n ) cl_X5_218 yo_X2_hasRun dX5_copy_82 rfl (Nat.le_of_ble_eq_true rfl) (Nat.le_of_ble_eq_true rfl) rfl (Nat.le_of_ble_eq_true rfl) ⟨Nat.zero_le _, Nat.zero_le _⟩ ?_
              refine J_if_eq E (tgt := 100) dX5_copy_85 (by decide) (fun c_85 => ?_) (fun c_85 => ?_)
              · skip
                have c_85 := bI_0 c_85
                refine J_aload_n E dX5_copy_100 rfl 2 rfl ?_
                refine J_iconst E dX5_copy_101 ic_0 ?_
                refine J_cVi0 E (As := [.int 0]) (c_X5_tell l G a x 0 (by omega)) cl_X5_64 yo_X5_tell dX5_copy_102 rfl rfl rfl (Nat.le_of_ble_eq_true rfl) (Nat.le_of_ble_eq_true rfl) rfl (Nat.le_of_ble_eq_true rfl) ⟨Nat.zero_le _, Nat.zero_le _⟩ ?_
                exact ret _ _ _ _ ⟨rfl, _, rfl, by intro g h2 h6; simp [upG, up3, up3R, h2, h6]⟩ rfl dX5_copy_105
              · skip
                have c_85 := bI_1 c_85
                refine J_aload E dX5_copy_88 0 rfl ?_
                refine J_iload E dX5_copy_90 6 rfl ?_
                refine J_iload E dX5_copy_92 7 rfl ?_
                refine J_si9r E (As := [.int o, .int n]) (c_X2_hasRun l G (sh a 33) (x 9) o n ) cl_X5_218 yo_X2_hasRun dX5_copy_94 rfl (Nat.le_of_ble_eq_true rfl) (Nat.le_of_ble_eq_true rfl) rfl (Nat.le_of_ble_eq_true rfl) ⟨Nat.zero_le _, Nat.zero_le _⟩ ?_
                refine J_if_ne E (tgt := 106) dX5_copy_97 (by decide) (fun c_97 => ?_) (fun c_97 => ?_)
                · skip
                  have c_97 := bI_1 c_97
                  exact absurd ⟨c_85, c_97⟩ hb
                · skip
                  have c_97 := bI_0 c_97
                  refine J_aload_n E dX5_copy_100 rfl 2 rfl ?_
                  refine J_iconst E dX5_copy_101 ic_0 ?_
                  refine J_cVi0 E (As := [.int 0]) (c_X5_tell l G a x 0 (by omega)) cl_X5_64 yo_X5_tell dX5_copy_102 rfl rfl rfl (Nat.le_of_ble_eq_true rfl) (Nat.le_of_ble_eq_true rfl) rfl (Nat.le_of_ble_eq_true rfl) ⟨Nat.zero_le _, Nat.zero_le _⟩ ?_
                  exact ret _ _ _ _ ⟨rfl, _, rfl, by intro g h2 h6; simp [upG, up3, up3R, h2, h6]⟩ rfl dX5_copy_105
            · skip
              exact absurd h3 c_68
          · skip
            have c_49 := bI_1 c_49
            exact absurd c_49 h2
      · skip
        have c_11 := bI_0 c_11
        exact absurd (in3 (by decide)) c_11
  · skip
    refine J_iload_n E dX5_copy_0 rfl 1 rfl ?_
    refine J_cSiN E (As := [.int (nI 0)]) (c_X5_isSheet l G (nI 0) ) cl_X5_202 yo_X5_isSheet dX5_copy_1 rfl (Nat.le_of_ble_eq_true rfl) (Nat.le_of_ble_eq_true rfl) rfl (Nat.le_of_ble_eq_true rfl) ⟨Nat.zero_le _, Nat.zero_le _⟩ ?_
    refine J_if_eq E (tgt := 14) dX5_copy_4 (by decide) (fun c_4 => ?_) (fun c_4 => ?_)
    · skip
      have c_4 := bI_0 c_4
      exact absurd (in3 (by decide)) c_4
    · skip
      have c_4 := bI_1 c_4
      refine J_iload_n E dX5_copy_7 rfl 3 rfl ?_
      refine J_cSiN E (As := [.int (nI 2)]) (c_X5_isSheet l G (nI 2) ) cl_X5_202 yo_X5_isSheet dX5_copy_8 rfl (Nat.le_of_ble_eq_true rfl) (Nat.le_of_ble_eq_true rfl) rfl (Nat.le_of_ble_eq_true rfl) ⟨Nat.zero_le _, Nat.zero_le _⟩ ?_
      refine J_if_ne E (tgt := 20) dX5_copy_11 (by decide) (fun c_11 => ?_) (fun c_11 => ?_)
      · skip
        have c_11 := bI_1 c_11
        refine J_aload_n E dX5_copy_20 rfl 0 rfl ?_
        refine gC0_X5_44 E dX5_copy_21 ?_
        refine J_iload_n E dX5_copy_24 rfl 1 rfl ?_
        refine laC_30_0 E dX5_copy_25 ?_
        refine J_astore E (lv' := [(6, .ref (a 31)), (0, .ref (a 0)), (1, .int (nI 0)), (2, .int f), (3, .int (nI 2)), (4, .int o), (5, .int n)]) dX5_copy_26 (by decide) rfl ?_
        refine J_aload_n E dX5_copy_28 rfl 1 rfl ?_
        refine gC0_X5_44 E dX5_copy_29 ?_
        refine J_iload_n E dX5_copy_32 rfl 4 rfl ?_
        refine laC_30_2 E dX5_copy_33 ?_
        refine J_astore E (lv' := [(7, .ref (a 35)), (6, .ref (a 31)), (0, .ref (a 0)), (1, .int (nI 0)), (2, .int f), (3, .int (nI 2)), (4, .int o), (5, .int n)]) dX5_copy_34 (by decide) rfl ?_
        refine J_aload E dX5_copy_36 1 rfl ?_
        refine J_si8r E (As := []) (c_X2_isMissing l G (sh a 31) (x 8) ) cl_X5_212 yo_X2_isMissing dX5_copy_38 rfl (Nat.le_of_ble_eq_true rfl) (Nat.le_of_ble_eq_true rfl) rfl (Nat.le_of_ble_eq_true rfl) ⟨Nat.zero_le _, Nat.zero_le _⟩ ?_
        refine J_if_ne E (tgt := 52) dX5_copy_41 (by decide) (fun c_41 => ?_) (fun c_41 => ?_)
        · skip
          have c_41 := bI_1 c_41
          exact absurd c_41 h1
        · skip
          have c_41 := bI_0 c_41
          refine J_aload E dX5_copy_44 0 rfl ?_
          refine J_si10r E (As := []) (c_X2_isMissing l G (sh a 35) (x 10) ) cl_X5_212 yo_X2_isMissing dX5_copy_46 rfl (Nat.le_of_ble_eq_true rfl) (Nat.le_of_ble_eq_true rfl) rfl (Nat.le_of_ble_eq_true rfl) ⟨Nat.zero_le _, Nat.zero_le _⟩ ?_
          refine J_if_eq E (tgt := 58) dX5_copy_49 (by decide) (fun c_49 => ?_) (fun c_49 => ?_)
          · skip
            have c_49 := bI_0 c_49
            refine J_aload E dX5_copy_58 1 rfl ?_
            refine gC31_X5_215 E dX5_copy_60 ?_
            refine J_aload E dX5_copy_63 0 rfl ?_
            refine gC35_X5_215 E dX5_copy_65 ?_
            refine J_icmp_eq E (tgt := 77) dX5_copy_68 (by decide) (fun c_68 => ?_) (fun c_68 => ?_)
            · skip
              refine J_aload E dX5_copy_77 1 rfl ?_
              refine J_iload_n E dX5_copy_79 rfl 4 rfl ?_
              refine J_iload E dX5_copy_80 7 rfl ?_
              refine J_si8r E (As := [.int f, .int n]) (c_X2_hasRun l G (sh a 31) (x 8) f n ) cl_X5_218 yo_X2_hasRun dX5_copy_82 rfl (Nat.le_of_ble_eq_true rfl) (Nat.le_of_ble_eq_true rfl) rfl (Nat.le_of_ble_eq_true rfl) ⟨Nat.zero_le _, Nat.zero_le _⟩ ?_
              refine J_if_eq E (tgt := 100) dX5_copy_85 (by decide) (fun c_85 => ?_) (fun c_85 => ?_)
              · skip
                have c_85 := bI_0 c_85
                refine J_aload_n E dX5_copy_100 rfl 2 rfl ?_
                refine J_iconst E dX5_copy_101 ic_0 ?_
                refine J_cVi0 E (As := [.int 0]) (c_X5_tell l G a x 0 (by omega)) cl_X5_64 yo_X5_tell dX5_copy_102 rfl rfl rfl (Nat.le_of_ble_eq_true rfl) (Nat.le_of_ble_eq_true rfl) rfl (Nat.le_of_ble_eq_true rfl) ⟨Nat.zero_le _, Nat.zero_le _⟩ ?_
                exact ret _ _ _ _ ⟨rfl, _, rfl, by intro g h2 h6; simp [upG, up3, up3R, h2, h6]⟩ rfl dX5_copy_105
              · skip
                have c_85 := bI_1 c_85
                refine J_aload E dX5_copy_88 0 rfl ?_
                refine J_iload E dX5_copy_90 6 rfl ?_
                refine J_iload E dX5_copy_92 7 rfl ?_
                refine J_si10r E (As := [.int o, .int n]) (c_X2_hasRun l G (sh a 35) (x 10) o n ) cl_X5_218 yo_X2_hasRun dX5_copy_94 rfl (Nat.le_of_ble_eq_true rfl) (Nat.le_of_ble_eq_true rfl) rfl (Nat.le_of_ble_eq_true rfl) ⟨Nat.zero_le _, Nat.zero_le _⟩ ?_
                refine J_if_ne E (tgt := 106) dX5_copy_97 (by decide) (fun c_97 => ?_) (fun c_97 => ?_)
                · skip
                  have c_97 := bI_1 c_97
                  exact absurd ⟨c_85, c_97⟩ hb
                · skip
                  have c_97 := bI_0 c_97
                  refine J_aload_n E dX5_copy_100 rfl 2 rfl ?_
                  refine J_iconst E dX5_copy_101 ic_0 ?_
                  refine J_cVi0 E (As := [.int 0]) (c_X5_tell l G a x 0 (by omega)) cl_X5_64 yo_X5_tell dX5_copy_102 rfl rfl rfl (Nat.le_of_ble_eq_true rfl) (Nat.le_of_ble_eq_true rfl) rfl (Nat.le_of_ble_eq_true rfl) ⟨Nat.zero_le _, Nat.zero_le _⟩ ?_
                  exact ret _ _ _ _ ⟨rfl, _, rfl, by intro g h2 h6; simp [upG, up3, up3R, h2, h6]⟩ rfl dX5_copy_105
            · skip
              exact absurd h3 c_68
          · skip
            have c_49 := bI_1 c_49
            exact absurd c_49 h2
      · skip
        have c_11 := bI_0 c_11
        exact absurd (in3 (by decide)) c_11
  · skip
    refine J_iload_n E dX5_copy_0 rfl 1 rfl ?_
    refine J_cSiN E (As := [.int (nI 0)]) (c_X5_isSheet l G (nI 0) ) cl_X5_202 yo_X5_isSheet dX5_copy_1 rfl (Nat.le_of_ble_eq_true rfl) (Nat.le_of_ble_eq_true rfl) rfl (Nat.le_of_ble_eq_true rfl) ⟨Nat.zero_le _, Nat.zero_le _⟩ ?_
    refine J_if_eq E (tgt := 14) dX5_copy_4 (by decide) (fun c_4 => ?_) (fun c_4 => ?_)
    · skip
      have c_4 := bI_0 c_4
      exact absurd (in3 (by decide)) c_4
    · skip
      have c_4 := bI_1 c_4
      refine J_iload_n E dX5_copy_7 rfl 3 rfl ?_
      refine J_cSiN E (As := [.int (nI 3)]) (c_X5_isSheet l G (nI 3) ) cl_X5_202 yo_X5_isSheet dX5_copy_8 rfl (Nat.le_of_ble_eq_true rfl) (Nat.le_of_ble_eq_true rfl) rfl (Nat.le_of_ble_eq_true rfl) ⟨Nat.zero_le _, Nat.zero_le _⟩ ?_
      refine J_if_ne E (tgt := 20) dX5_copy_11 (by decide) (fun c_11 => ?_) (fun c_11 => ?_)
      · skip
        have c_11 := bI_1 c_11
        refine J_aload_n E dX5_copy_20 rfl 0 rfl ?_
        refine gC0_X5_44 E dX5_copy_21 ?_
        refine J_iload_n E dX5_copy_24 rfl 1 rfl ?_
        refine laC_30_0 E dX5_copy_25 ?_
        refine J_astore E (lv' := [(6, .ref (a 31)), (0, .ref (a 0)), (1, .int (nI 0)), (2, .int f), (3, .int (nI 3)), (4, .int o), (5, .int n)]) dX5_copy_26 (by decide) rfl ?_
        refine J_aload_n E dX5_copy_28 rfl 1 rfl ?_
        refine gC0_X5_44 E dX5_copy_29 ?_
        refine J_iload_n E dX5_copy_32 rfl 4 rfl ?_
        refine laC_30_3 E dX5_copy_33 ?_
        refine J_astore E (lv' := [(7, .ref (a 37)), (6, .ref (a 31)), (0, .ref (a 0)), (1, .int (nI 0)), (2, .int f), (3, .int (nI 3)), (4, .int o), (5, .int n)]) dX5_copy_34 (by decide) rfl ?_
        refine J_aload E dX5_copy_36 1 rfl ?_
        refine J_si8r E (As := []) (c_X2_isMissing l G (sh a 31) (x 8) ) cl_X5_212 yo_X2_isMissing dX5_copy_38 rfl (Nat.le_of_ble_eq_true rfl) (Nat.le_of_ble_eq_true rfl) rfl (Nat.le_of_ble_eq_true rfl) ⟨Nat.zero_le _, Nat.zero_le _⟩ ?_
        refine J_if_ne E (tgt := 52) dX5_copy_41 (by decide) (fun c_41 => ?_) (fun c_41 => ?_)
        · skip
          have c_41 := bI_1 c_41
          exact absurd c_41 h1
        · skip
          have c_41 := bI_0 c_41
          refine J_aload E dX5_copy_44 0 rfl ?_
          refine J_si11r E (As := []) (c_X2_isMissing l G (sh a 37) (x 11) ) cl_X5_212 yo_X2_isMissing dX5_copy_46 rfl (Nat.le_of_ble_eq_true rfl) (Nat.le_of_ble_eq_true rfl) rfl (Nat.le_of_ble_eq_true rfl) ⟨Nat.zero_le _, Nat.zero_le _⟩ ?_
          refine J_if_eq E (tgt := 58) dX5_copy_49 (by decide) (fun c_49 => ?_) (fun c_49 => ?_)
          · skip
            have c_49 := bI_0 c_49
            refine J_aload E dX5_copy_58 1 rfl ?_
            refine gC31_X5_215 E dX5_copy_60 ?_
            refine J_aload E dX5_copy_63 0 rfl ?_
            refine gC37_X5_215 E dX5_copy_65 ?_
            refine J_icmp_eq E (tgt := 77) dX5_copy_68 (by decide) (fun c_68 => ?_) (fun c_68 => ?_)
            · skip
              refine J_aload E dX5_copy_77 1 rfl ?_
              refine J_iload_n E dX5_copy_79 rfl 4 rfl ?_
              refine J_iload E dX5_copy_80 7 rfl ?_
              refine J_si8r E (As := [.int f, .int n]) (c_X2_hasRun l G (sh a 31) (x 8) f n ) cl_X5_218 yo_X2_hasRun dX5_copy_82 rfl (Nat.le_of_ble_eq_true rfl) (Nat.le_of_ble_eq_true rfl) rfl (Nat.le_of_ble_eq_true rfl) ⟨Nat.zero_le _, Nat.zero_le _⟩ ?_
              refine J_if_eq E (tgt := 100) dX5_copy_85 (by decide) (fun c_85 => ?_) (fun c_85 => ?_)
              · skip
                have c_85 := bI_0 c_85
                refine J_aload_n E dX5_copy_100 rfl 2 rfl ?_
                refine J_iconst E dX5_copy_101 ic_0 ?_
                refine J_cVi0 E (As := [.int 0]) (c_X5_tell l G a x 0 (by omega)) cl_X5_64 yo_X5_tell dX5_copy_102 rfl rfl rfl (Nat.le_of_ble_eq_true rfl) (Nat.le_of_ble_eq_true rfl) rfl (Nat.le_of_ble_eq_true rfl) ⟨Nat.zero_le _, Nat.zero_le _⟩ ?_
                exact ret _ _ _ _ ⟨rfl, _, rfl, by intro g h2 h6; simp [upG, up3, up3R, h2, h6]⟩ rfl dX5_copy_105
              · skip
                have c_85 := bI_1 c_85
                refine J_aload E dX5_copy_88 0 rfl ?_
                refine J_iload E dX5_copy_90 6 rfl ?_
                refine J_iload E dX5_copy_92 7 rfl ?_
                refine J_si11r E (As := [.int o, .int n]) (c_X2_hasRun l G (sh a 37) (x 11) o n ) cl_X5_218 yo_X2_hasRun dX5_copy_94 rfl (Nat.le_of_ble_eq_true rfl) (Nat.le_of_ble_eq_true rfl) rfl (Nat.le_of_ble_eq_true rfl) ⟨Nat.zero_le _, Nat.zero_le _⟩ ?_
                refine J_if_ne E (tgt := 106) dX5_copy_97 (by decide) (fun c_97 => ?_) (fun c_97 => ?_)
                · skip
                  have c_97 := bI_1 c_97
                  exact absurd ⟨c_85, c_97⟩ hb
                · skip
                  have c_97 := bI_0 c_97
                  refine J_aload_n E dX5_copy_100 rfl 2 rfl ?_
                  refine J_iconst E dX5_copy_101 ic_0 ?_
                  refine J_cVi0 E (As := [.int 0]) (c_X5_tell l G a x 0 (by omega)) cl_X5_64 yo_X5_tell dX5_copy_102 rfl rfl rfl (Nat.le_of_ble_eq_true rfl) (Nat.le_of_ble_eq_true rfl) rfl (Nat.le_of_ble_eq_true rfl) ⟨Nat.zero_le _, Nat.zero_le _⟩ ?_
                  exact ret _ _ _ _ ⟨rfl, _, rfl, by intro g h2 h6; simp [upG, up3, up3R, h2, h6]⟩ rfl dX5_copy_105
            · skip
              exact absurd h3 c_68
          · skip
            have c_49 := bI_1 c_49
            exact absurd c_49 h2
      · skip
        have c_11 := bI_0 c_11
        exact absurd (in3 (by decide)) c_11
  · skip
    refine J_iload_n E dX5_copy_0 rfl 1 rfl ?_
    refine J_cSiN E (As := [.int (nI 1)]) (c_X5_isSheet l G (nI 1) ) cl_X5_202 yo_X5_isSheet dX5_copy_1 rfl (Nat.le_of_ble_eq_true rfl) (Nat.le_of_ble_eq_true rfl) rfl (Nat.le_of_ble_eq_true rfl) ⟨Nat.zero_le _, Nat.zero_le _⟩ ?_
    refine J_if_eq E (tgt := 14) dX5_copy_4 (by decide) (fun c_4 => ?_) (fun c_4 => ?_)
    · skip
      have c_4 := bI_0 c_4
      exact absurd (in3 (by decide)) c_4
    · skip
      have c_4 := bI_1 c_4
      refine J_iload_n E dX5_copy_7 rfl 3 rfl ?_
      refine J_cSiN E (As := [.int (nI 0)]) (c_X5_isSheet l G (nI 0) ) cl_X5_202 yo_X5_isSheet dX5_copy_8 rfl (Nat.le_of_ble_eq_true rfl) (Nat.le_of_ble_eq_true rfl) rfl (Nat.le_of_ble_eq_true rfl) ⟨Nat.zero_le _, Nat.zero_le _⟩ ?_
      refine J_if_ne E (tgt := 20) dX5_copy_11 (by decide) (fun c_11 => ?_) (fun c_11 => ?_)
      · skip
        have c_11 := bI_1 c_11
        refine J_aload_n E dX5_copy_20 rfl 0 rfl ?_
        refine gC0_X5_44 E dX5_copy_21 ?_
        refine J_iload_n E dX5_copy_24 rfl 1 rfl ?_
        refine laC_30_1 E dX5_copy_25 ?_
        refine J_astore E (lv' := [(6, .ref (a 33)), (0, .ref (a 0)), (1, .int (nI 1)), (2, .int f), (3, .int (nI 0)), (4, .int o), (5, .int n)]) dX5_copy_26 (by decide) rfl ?_
        refine J_aload_n E dX5_copy_28 rfl 1 rfl ?_
        refine gC0_X5_44 E dX5_copy_29 ?_
        refine J_iload_n E dX5_copy_32 rfl 4 rfl ?_
        refine laC_30_0 E dX5_copy_33 ?_
        refine J_astore E (lv' := [(7, .ref (a 31)), (6, .ref (a 33)), (0, .ref (a 0)), (1, .int (nI 1)), (2, .int f), (3, .int (nI 0)), (4, .int o), (5, .int n)]) dX5_copy_34 (by decide) rfl ?_
        refine J_aload E dX5_copy_36 1 rfl ?_
        refine J_si9r E (As := []) (c_X2_isMissing l G (sh a 33) (x 9) ) cl_X5_212 yo_X2_isMissing dX5_copy_38 rfl (Nat.le_of_ble_eq_true rfl) (Nat.le_of_ble_eq_true rfl) rfl (Nat.le_of_ble_eq_true rfl) ⟨Nat.zero_le _, Nat.zero_le _⟩ ?_
        refine J_if_ne E (tgt := 52) dX5_copy_41 (by decide) (fun c_41 => ?_) (fun c_41 => ?_)
        · skip
          have c_41 := bI_1 c_41
          exact absurd c_41 h1
        · skip
          have c_41 := bI_0 c_41
          refine J_aload E dX5_copy_44 0 rfl ?_
          refine J_si8r E (As := []) (c_X2_isMissing l G (sh a 31) (x 8) ) cl_X5_212 yo_X2_isMissing dX5_copy_46 rfl (Nat.le_of_ble_eq_true rfl) (Nat.le_of_ble_eq_true rfl) rfl (Nat.le_of_ble_eq_true rfl) ⟨Nat.zero_le _, Nat.zero_le _⟩ ?_
          refine J_if_eq E (tgt := 58) dX5_copy_49 (by decide) (fun c_49 => ?_) (fun c_49 => ?_)
          · skip
            have c_49 := bI_0 c_49
            refine J_aload E dX5_copy_58 1 rfl ?_
            refine gC33_X5_215 E dX5_copy_60 ?_
            refine J_aload E dX5_copy_63 0 rfl ?_
            refine gC31_X5_215 E dX5_copy_65 ?_
            refine J_icmp_eq E (tgt := 77) dX5_copy_68 (by decide) (fun c_68 => ?_) (fun c_68 => ?_)
            · skip
              refine J_aload E dX5_copy_77 1 rfl ?_
              refine J_iload_n E dX5_copy_79 rfl 4 rfl ?_
              refine J_iload E dX5_copy_80 7 rfl ?_
              refine J_si9r E (As := [.int f, .int n]) (c_X2_hasRun l G (sh a 33) (x 9) f n ) cl_X5_218 yo_X2_hasRun dX5_copy_82 rfl (Nat.le_of_ble_eq_true rfl) (Nat.le_of_ble_eq_true rfl) rfl (Nat.le_of_ble_eq_true rfl) ⟨Nat.zero_le _, Nat.zero_le _⟩ ?_
              refine J_if_eq E (tgt := 100) dX5_copy_85 (by decide) (fun c_85 => ?_) (fun c_85 => ?_)
              · skip
                have c_85 := bI_0 c_85
                refine J_aload_n E dX5_copy_100 rfl 2 rfl ?_
                refine J_iconst E dX5_copy_101 ic_0 ?_
                refine J_cVi0 E (As := [.int 0]) (c_X5_tell l G a x 0 (by omega)) cl_X5_64 yo_X5_tell dX5_copy_102 rfl rfl rfl (Nat.le_of_ble_eq_true rfl) (Nat.le_of_ble_eq_true rfl) rfl (Nat.le_of_ble_eq_true rfl) ⟨Nat.zero_le _, Nat.zero_le _⟩ ?_
                exact ret _ _ _ _ ⟨rfl, _, rfl, by intro g h2 h6; simp [upG, up3, up3R, h2, h6]⟩ rfl dX5_copy_105
              · skip
                have c_85 := bI_1 c_85
                refine J_aload E dX5_copy_88 0 rfl ?_
                refine J_iload E dX5_copy_90 6 rfl ?_
                refine J_iload E dX5_copy_92 7 rfl ?_
                refine J_si8r E (As := [.int o, .int n]) (c_X2_hasRun l G (sh a 31) (x 8) o n ) cl_X5_218 yo_X2_hasRun dX5_copy_94 rfl (Nat.le_of_ble_eq_true rfl) (Nat.le_of_ble_eq_true rfl) rfl (Nat.le_of_ble_eq_true rfl) ⟨Nat.zero_le _, Nat.zero_le _⟩ ?_
                refine J_if_ne E (tgt := 106) dX5_copy_97 (by decide) (fun c_97 => ?_) (fun c_97 => ?_)
                · skip
                  have c_97 := bI_1 c_97
                  exact absurd ⟨c_85, c_97⟩ hb
                · skip
                  have c_97 := bI_0 c_97
                  refine J_aload_n E dX5_copy_100 rfl 2 rfl ?_
                  refine J_iconst E dX5_copy_101 ic_0 ?_
                  refine J_cVi0 E (As := [.int 0]) (c_X5_tell l G a x 0 (by omega)) cl_X5_64 yo_X5_tell dX5_copy_102 rfl rfl rfl (Nat.le_of_ble_eq_true rfl) (Nat.le_of_ble_eq_true rfl) rfl (Nat.le_of_ble_eq_true rfl) ⟨Nat.zero_le _, Nat.zero_le _⟩ ?_
                  exact ret _ _ _ _ ⟨rfl, _, rfl, by intro g h2 h6; simp [upG, up3, up3R, h2, h6]⟩ rfl dX5_copy_105
            · skip
              exact absurd h3 c_68
          · skip
            have c_49 := bI_1 c_49
            exact absurd c_49 h2
      · skip
        have c_11 := bI_0 c_11
        exact absurd (in3 (by decide)) c_11
  · skip
    refine J_iload_n E dX5_copy_0 rfl 1 rfl ?_
    refine J_cSiN E (As := [.int (nI 1)]) (c_X5_isSheet l G (nI 1) ) cl_X5_202 yo_X5_isSheet dX5_copy_1 rfl (Nat.le_of_ble_eq_true rfl) (Nat.le_of_ble_eq_true rfl) rfl (Nat.le_of_ble_eq_true rfl) ⟨Nat.zero_le _, Nat.zero_le _⟩ ?_
    refine J_if_eq E (tgt := 14) dX5_copy_4 (by decide) (fun c_4 => ?_) (fun c_4 => ?_)
    · skip
      have c_4 := bI_0 c_4
      exact absurd (in3 (by decide)) c_4
    · skip
      have c_4 := bI_1 c_4
      refine J_iload_n E dX5_copy_7 rfl 3 rfl ?_
      refine J_cSiN E (As := [.int (nI 1)]) (c_X5_isSheet l G (nI 1) ) cl_X5_202 yo_X5_isSheet dX5_copy_8 rfl (Nat.le_of_ble_eq_true rfl) (Nat.le_of_ble_eq_true rfl) rfl (Nat.le_of_ble_eq_true rfl) ⟨Nat.zero_le _, Nat.zero_le _⟩ ?_
      refine J_if_ne E (tgt := 20) dX5_copy_11 (by decide) (fun c_11 => ?_) (fun c_11 => ?_)
      · skip
        have c_11 := bI_1 c_11
        refine J_aload_n E dX5_copy_20 rfl 0 rfl ?_
        refine gC0_X5_44 E dX5_copy_21 ?_
        refine J_iload_n E dX5_copy_24 rfl 1 rfl ?_
        refine laC_30_1 E dX5_copy_25 ?_
        refine J_astore E (lv' := [(6, .ref (a 33)), (0, .ref (a 0)), (1, .int (nI 1)), (2, .int f), (3, .int (nI 1)), (4, .int o), (5, .int n)]) dX5_copy_26 (by decide) rfl ?_
        refine J_aload_n E dX5_copy_28 rfl 1 rfl ?_
        refine gC0_X5_44 E dX5_copy_29 ?_
        refine J_iload_n E dX5_copy_32 rfl 4 rfl ?_
        refine laC_30_1 E dX5_copy_33 ?_
        refine J_astore E (lv' := [(7, .ref (a 33)), (6, .ref (a 33)), (0, .ref (a 0)), (1, .int (nI 1)), (2, .int f), (3, .int (nI 1)), (4, .int o), (5, .int n)]) dX5_copy_34 (by decide) rfl ?_
        refine J_aload E dX5_copy_36 1 rfl ?_
        refine J_si9r E (As := []) (c_X2_isMissing l G (sh a 33) (x 9) ) cl_X5_212 yo_X2_isMissing dX5_copy_38 rfl (Nat.le_of_ble_eq_true rfl) (Nat.le_of_ble_eq_true rfl) rfl (Nat.le_of_ble_eq_true rfl) ⟨Nat.zero_le _, Nat.zero_le _⟩ ?_
        refine J_if_ne E (tgt := 52) dX5_copy_41 (by decide) (fun c_41 => ?_) (fun c_41 => ?_)
        · skip
          have c_41 := bI_1 c_41
          exact absurd c_41 h1
        · skip
          have c_41 := bI_0 c_41
          refine J_aload E dX5_copy_44 0 rfl ?_
          refine J_si9r E (As := []) (c_X2_isMissing l G (sh a 33) (x 9) ) cl_X5_212 yo_X2_isMissing dX5_copy_46 rfl (Nat.le_of_ble_eq_true rfl) (Nat.le_of_ble_eq_true rfl) rfl (Nat.le_of_ble_eq_true rfl) ⟨Nat.zero_le _, Nat.zero_le _⟩ ?_
          refine J_if_eq E (tgt := 58) dX5_copy_49 (by decide) (fun c_49 => ?_) (fun c_49 => ?_)
          · skip
            have c_49 := bI_0 c_49
            refine J_aload E dX5_copy_58 1 rfl ?_
            refine gC33_X5_215 E dX5_copy_60 ?_
            refine J_aload E dX5_copy_63 0 rfl ?_
            refine gC33_X5_215 E dX5_copy_65 ?_
            refine J_icmp_eq E (tgt := 77) dX5_copy_68 (by decide) (fun c_68 => ?_) (fun c_68 => ?_)
            · skip
              refine J_aload E dX5_copy_77 1 rfl ?_
              refine J_iload_n E dX5_copy_79 rfl 4 rfl ?_
              refine J_iload E dX5_copy_80 7 rfl ?_
              refine J_si9r E (As := [.int f, .int n]) (c_X2_hasRun l G (sh a 33) (x 9) f n ) cl_X5_218 yo_X2_hasRun dX5_copy_82 rfl (Nat.le_of_ble_eq_true rfl) (Nat.le_of_ble_eq_true rfl) rfl (Nat.le_of_ble_eq_true rfl) ⟨Nat.zero_le _, Nat.zero_le _⟩ ?_
              refine J_if_eq E (tgt := 100) dX5_copy_85 (by decide) (fun c_85 => ?_) (fun c_85 => ?_)
              · skip
                have c_85 := bI_0 c_85
                refine J_aload_n E dX5_copy_100 rfl 2 rfl ?_
                refine J_iconst E dX5_copy_101 ic_0 ?_
                refine J_cVi0 E (As := [.int 0]) (c_X5_tell l G a x 0 (by omega)) cl_X5_64 yo_X5_tell dX5_copy_102 rfl rfl rfl (Nat.le_of_ble_eq_true rfl) (Nat.le_of_ble_eq_true rfl) rfl (Nat.le_of_ble_eq_true rfl) ⟨Nat.zero_le _, Nat.zero_le _⟩ ?_
                exact ret _ _ _ _ ⟨rfl, _, rfl, by intro g h2 h6; simp [upG, up3, up3R, h2, h6]⟩ rfl dX5_copy_105
              · skip
                have c_85 := bI_1 c_85
                refine J_aload E dX5_copy_88 0 rfl ?_
                refine J_iload E dX5_copy_90 6 rfl ?_
                refine J_iload E dX5_copy_92 7 rfl ?_
                refine J_si9r E (As := [.int o, .int n]) (c_X2_hasRun l G (sh a 33) (x 9) o n ) cl_X5_218 yo_X2_hasRun dX5_copy_94 rfl (Nat.le_of_ble_eq_true rfl) (Nat.le_of_ble_eq_true rfl) rfl (Nat.le_of_ble_eq_true rfl) ⟨Nat.zero_le _, Nat.zero_le _⟩ ?_
                refine J_if_ne E (tgt := 106) dX5_copy_97 (by decide) (fun c_97 => ?_) (fun c_97 => ?_)
                · skip
                  have c_97 := bI_1 c_97
                  exact absurd ⟨c_85, c_97⟩ hb
                · skip
                  have c_97 := bI_0 c_97
                  refine J_aload_n E dX5_copy_100 rfl 2 rfl ?_
                  refine J_iconst E dX5_copy_101 ic_0 ?_
                  refine J_cVi0 E (As := [.int 0]) (c_X5_tell l G a x 0 (by omega)) cl_X5_64 yo_X5_tell dX5_copy_102 rfl rfl rfl (Nat.le_of_ble_eq_true rfl) (Nat.le_of_ble_eq_true rfl) rfl (Nat.le_of_ble_eq_true rfl) ⟨Nat.zero_le _, Nat.zero_le _⟩ ?_
                  exact ret _ _ _ _ ⟨rfl, _, rfl, by intro g h2 h6; simp [upG, up3, up3R, h2, h6]⟩ rfl dX5_copy_105
            · skip
              exact absurd h3 c_68
          · skip
            have c_49 := bI_1 c_49
            exact absurd c_49 h2
      · skip
        have c_11 := bI_0 c_11
        exact absurd (in3 (by decide)) c_11
  · skip
    refine J_iload_n E dX5_copy_0 rfl 1 rfl ?_
    refine J_cSiN E (As := [.int (nI 1)]) (c_X5_isSheet l G (nI 1) ) cl_X5_202 yo_X5_isSheet dX5_copy_1 rfl (Nat.le_of_ble_eq_true rfl) (Nat.le_of_ble_eq_true rfl) rfl (Nat.le_of_ble_eq_true rfl) ⟨Nat.zero_le _, Nat.zero_le _⟩ ?_
    refine J_if_eq E (tgt := 14) dX5_copy_4 (by decide) (fun c_4 => ?_) (fun c_4 => ?_)
    · skip
      have c_4 := bI_0 c_4
      exact absurd (in3 (by decide)) c_4
    · skip
      have c_4 := bI_1 c_4
      refine J_iload_n E dX5_copy_7 rfl 3 rfl ?_
      refine J_cSiN E (As := [.int (nI 2)]) (c_X5_isSheet l G (nI 2) ) cl_X5_202 yo_X5_isSheet dX5_copy_8 rfl (Nat.le_of_ble_eq_true rfl) (Nat.le_of_ble_eq_true rfl) rfl (Nat.le_of_ble_eq_true rfl) ⟨Nat.zero_le _, Nat.zero_le _⟩ ?_
      refine J_if_ne E (tgt := 20) dX5_copy_11 (by decide) (fun c_11 => ?_) (fun c_11 => ?_)
      · skip
        have c_11 := bI_1 c_11
        refine J_aload_n E dX5_copy_20 rfl 0 rfl ?_
        refine gC0_X5_44 E dX5_copy_21 ?_
        refine J_iload_n E dX5_copy_24 rfl 1 rfl ?_
        refine laC_30_1 E dX5_copy_25 ?_
        refine J_astore E (lv' := [(6, .ref (a 33)), (0, .ref (a 0)), (1, .int (nI 1)), (2, .int f), (3, .int (nI 2)), (4, .int o), (5, .int n)]) dX5_copy_26 (by decide) rfl ?_
        refine J_aload_n E dX5_copy_28 rfl 1 rfl ?_
        refine gC0_X5_44 E dX5_copy_29 ?_
        refine J_iload_n E dX5_copy_32 rfl 4 rfl ?_
        refine laC_30_2 E dX5_copy_33 ?_
        refine J_astore E (lv' := [(7, .ref (a 35)), (6, .ref (a 33)), (0, .ref (a 0)), (1, .int (nI 1)), (2, .int f), (3, .int (nI 2)), (4, .int o), (5, .int n)]) dX5_copy_34 (by decide) rfl ?_
        refine J_aload E dX5_copy_36 1 rfl ?_
        refine J_si9r E (As := []) (c_X2_isMissing l G (sh a 33) (x 9) ) cl_X5_212 yo_X2_isMissing dX5_copy_38 rfl (Nat.le_of_ble_eq_true rfl) (Nat.le_of_ble_eq_true rfl) rfl (Nat.le_of_ble_eq_true rfl) ⟨Nat.zero_le _, Nat.zero_le _⟩ ?_
        refine J_if_ne E (tgt := 52) dX5_copy_41 (by decide) (fun c_41 => ?_) (fun c_41 => ?_)
        · skip
          have c_41 := bI_1 c_41
          exact absurd c_41 h1
        · skip
          have c_41 := bI_0 c_41
          refine J_aload E dX5_copy_44 0 rfl ?_
          refine J_si10r E (As := []) (c_X2_isMissing l G (sh a 35) (x 10) ) cl_X5_212 yo_X2_isMissing dX5_copy_46 rfl (Nat.le_of_ble_eq_true rfl) (Nat.le_of_ble_eq_true rfl) rfl (Nat.le_of_ble_eq_true rfl) ⟨Nat.zero_le _, Nat.zero_le _⟩ ?_
          refine J_if_eq E (tgt := 58) dX5_copy_49 (by decide) (fun c_49 => ?_) (fun c_49 => ?_)
          · skip
            have c_49 := bI_0 c_49
            refine J_aload E dX5_copy_58 1 rfl ?_
            refine gC33_X5_215 E dX5_copy_60 ?_
            refine J_aload E dX5_copy_63 0 rfl ?_
            refine gC35_X5_215 E dX5_copy_65 ?_
            refine J_icmp_eq E (tgt := 77) dX5_copy_68 (by decide) (fun c_68 => ?_) (fun c_68 => ?_)
            · skip
              refine J_aload E dX5_copy_77 1 rfl ?_
              refine J_iload_n E dX5_copy_79 rfl 4 rfl ?_
              refine J_iload E dX5_copy_80 7 rfl ?_
              refine J_si9r E (As := [.int f, .int n]) (c_X2_hasRun l G (sh a 33) (x 9) f n ) cl_X5_218 yo_X2_hasRun dX5_copy_82 rfl (Nat.le_of_ble_eq_true rfl) (Nat.le_of_ble_eq_true rfl) rfl (Nat.le_of_ble_eq_true rfl) ⟨Nat.zero_le _, Nat.zero_le _⟩ ?_
              refine J_if_eq E (tgt := 100) dX5_copy_85 (by decide) (fun c_85 => ?_) (fun c_85 => ?_)
              · skip
                have c_85 := bI_0 c_85
                refine J_aload_n E dX5_copy_100 rfl 2 rfl ?_
                refine J_iconst E dX5_copy_101 ic_0 ?_
                refine J_cVi0 E (As := [.int 0]) (c_X5_tell l G a x 0 (by omega)) cl_X5_64 yo_X5_tell dX5_copy_102 rfl rfl rfl (Nat.le_of_ble_eq_true rfl) (Nat.le_of_ble_eq_true rfl) rfl (Nat.le_of_ble_eq_true rfl) ⟨Nat.zero_le _, Nat.zero_le _⟩ ?_
                exact ret _ _ _ _ ⟨rfl, _, rfl, by intro g h2 h6; simp [upG, up3, up3R, h2, h6]⟩ rfl dX5_copy_105
              · skip
                have c_85 := bI_1 c_85
                refine J_aload E dX5_copy_88 0 rfl ?_
                refine J_iload E dX5_copy_90 6 rfl ?_
                refine J_iload E dX5_copy_92 7 rfl ?_
                refine J_si10r E (As := [.int o, .int n]) (c_X2_hasRun l G (sh a 35) (x 10) o n ) cl_X5_218 yo_X2_hasRun dX5_copy_94 rfl (Nat.le_of_ble_eq_true rfl) (Nat.le_of_ble_eq_true rfl) rfl (Nat.le_of_ble_eq_true rfl) ⟨Nat.zero_le _, Nat.zero_le _⟩ ?_
                refine J_if_ne E (tgt := 106) dX5_copy_97 (by decide) (fun c_97 => ?_) (fun c_97 => ?_)
                · skip
                  have c_97 := bI_1 c_97
                  exact absurd ⟨c_85, c_97⟩ hb
                · skip
                  have c_97 := bI_0 c_97
                  refine J_aload_n E dX5_copy_100 rfl 2 rfl ?_
                  refine J_iconst E dX5_copy_101 ic_0 ?_
                  refine J_cVi0 E (As := [.int 0]) (c_X5_tell l G a x 0 (by omega)) cl_X5_64 yo_X5_tell dX5_copy_102 rfl rfl rfl (Nat.le_of_ble_eq_true rfl) (Nat.le_of_ble_eq_true rfl) rfl (Nat.le_of_ble_eq_true rfl) ⟨Nat.zero_le _, Nat.zero_le _⟩ ?_
                  exact ret _ _ _ _ ⟨rfl, _, rfl, by intro g h2 h6; simp [upG, up3, up3R, h2, h6]⟩ rfl dX5_copy_105
            · skip
              exact absurd h3 c_68
          · skip
            have c_49 := bI_1 c_49
            exact absurd c_49 h2
      · skip
        have c_11 := bI_0 c_11
        exact absurd (in3 (by decide)) c_11
  · skip
    refine J_iload_n E dX5_copy_0 rfl 1 rfl ?_
    refine J_cSiN E (As := [.int (nI 1)]) (c_X5_isSheet l G (nI 1) ) cl_X5_202 yo_X5_isSheet dX5_copy_1 rfl (Nat.le_of_ble_eq_true rfl) (Nat.le_of_ble_eq_true rfl) rfl (Nat.le_of_ble_eq_true rfl) ⟨Nat.zero_le _, Nat.zero_le _⟩ ?_
    refine J_if_eq E (tgt := 14) dX5_copy_4 (by decide) (fun c_4 => ?_) (fun c_4 => ?_)
    · skip
      have c_4 := bI_0 c_4
      exact absurd (in3 (by decide)) c_4
    · skip
      have c_4 := bI_1 c_4
      refine J_iload_n E dX5_copy_7 rfl 3 rfl ?_
      refine J_cSiN E (As := [.int (nI 3)]) (c_X5_isSheet l G (nI 3) ) cl_X5_202 yo_X5_isSheet dX5_copy_8 rfl (Nat.le_of_ble_eq_true rfl) (Nat.le_of_ble_eq_true rfl) rfl (Nat.le_of_ble_eq_true rfl) ⟨Nat.zero_le _, Nat.zero_le _⟩ ?_
      refine J_if_ne E (tgt := 20) dX5_copy_11 (by decide) (fun c_11 => ?_) (fun c_11 => ?_)
      · skip
        have c_11 := bI_1 c_11
        refine J_aload_n E dX5_copy_20 rfl 0 rfl ?_
        refine gC0_X5_44 E dX5_copy_21 ?_
        refine J_iload_n E dX5_copy_24 rfl 1 rfl ?_
        refine laC_30_1 E dX5_copy_25 ?_
        refine J_astore E (lv' := [(6, .ref (a 33)), (0, .ref (a 0)), (1, .int (nI 1)), (2, .int f), (3, .int (nI 3)), (4, .int o), (5, .int n)]) dX5_copy_26 (by decide) rfl ?_
        refine J_aload_n E dX5_copy_28 rfl 1 rfl ?_
        refine gC0_X5_44 E dX5_copy_29 ?_
        refine J_iload_n E dX5_copy_32 rfl 4 rfl ?_
        refine laC_30_3 E dX5_copy_33 ?_
        refine J_astore E (lv' := [(7, .ref (a 37)), (6, .ref (a 33)), (0, .ref (a 0)), (1, .int (nI 1)), (2, .int f), (3, .int (nI 3)), (4, .int o), (5, .int n)]) dX5_copy_34 (by decide) rfl ?_
        refine J_aload E dX5_copy_36 1 rfl ?_
        refine J_si9r E (As := []) (c_X2_isMissing l G (sh a 33) (x 9) ) cl_X5_212 yo_X2_isMissing dX5_copy_38 rfl (Nat.le_of_ble_eq_true rfl) (Nat.le_of_ble_eq_true rfl) rfl (Nat.le_of_ble_eq_true rfl) ⟨Nat.zero_le _, Nat.zero_le _⟩ ?_
        refine J_if_ne E (tgt := 52) dX5_copy_41 (by decide) (fun c_41 => ?_) (fun c_41 => ?_)
        · skip
          have c_41 := bI_1 c_41
          exact absurd c_41 h1
        · skip
          have c_41 := bI_0 c_41
          refine J_aload E dX5_copy_44 0 rfl ?_
          refine J_si11r E (As := []) (c_X2_isMissing l G (sh a 37) (x 11) ) cl_X5_212 yo_X2_isMissing dX5_copy_46 rfl (Nat.le_of_ble_eq_true rfl) (Nat.le_of_ble_eq_true rfl) rfl (Nat.le_of_ble_eq_true rfl) ⟨Nat.zero_le _, Nat.zero_le _⟩ ?_
          refine J_if_eq E (tgt := 58) dX5_copy_49 (by decide) (fun c_49 => ?_) (fun c_49 => ?_)
          · skip
            have c_49 := bI_0 c_49
            refine J_aload E dX5_copy_58 1 rfl ?_
            refine gC33_X5_215 E dX5_copy_60 ?_
            refine J_aload E dX5_copy_63 0 rfl ?_
            refine gC37_X5_215 E dX5_copy_65 ?_
            refine J_icmp_eq E (tgt := 77) dX5_copy_68 (by decide) (fun c_68 => ?_) (fun c_68 => ?_)
            · skip
              refine J_aload E dX5_copy_77 1 rfl ?_
              refine J_iload_n E dX5_copy_79 rfl 4 rfl ?_
              refine J_iload E dX5_copy_80 7 rfl ?_
              refine J_si9r E (As := [.int f, .int n]) (c_X2_hasRun l G (sh a 33) (x 9) f n ) cl_X5_218 yo_X2_hasRun dX5_copy_82 rfl (Nat.le_of_ble_eq_true rfl) (Nat.le_of_ble_eq_true rfl) rfl (Nat.le_of_ble_eq_true rfl) ⟨Nat.zero_le _, Nat.zero_le _⟩ ?_
              refine J_if_eq E (tgt := 100) dX5_copy_85 (by decide) (fun c_85 => ?_) (fun c_85 => ?_)
              · skip
                have c_85 := bI_0 c_85
                refine J_aload_n E dX5_copy_100 rfl 2 rfl ?_
                refine J_iconst E dX5_copy_101 ic_0 ?_
                refine J_cVi0 E (As := [.int 0]) (c_X5_tell l G a x 0 (by omega)) cl_X5_64 yo_X5_tell dX5_copy_102 rfl rfl rfl (Nat.le_of_ble_eq_true rfl) (Nat.le_of_ble_eq_true rfl) rfl (Nat.le_of_ble_eq_true rfl) ⟨Nat.zero_le _, Nat.zero_le _⟩ ?_
                exact ret _ _ _ _ ⟨rfl, _, rfl, by intro g h2 h6; simp [upG, up3, up3R, h2, h6]⟩ rfl dX5_copy_105
              · skip
                have c_85 := bI_1 c_85
                refine J_aload E dX5_copy_88 0 rfl ?_
                refine J_iload E dX5_copy_90 6 rfl ?_
                refine J_iload E dX5_copy_92 7 rfl ?_
                refine J_si11r E (As := [.int o, .int n]) (c_X2_hasRun l G (sh a 37) (x 11) o n ) cl_X5_218 yo_X2_hasRun dX5_copy_94 rfl (Nat.le_of_ble_eq_true rfl) (Nat.le_of_ble_eq_true rfl) rfl (Nat.le_of_ble_eq_true rfl) ⟨Nat.zero_le _, Nat.zero_le _⟩ ?_
                refine J_if_ne E (tgt := 106) dX5_copy_97 (by decide) (fun c_97 => ?_) (fun c_97 => ?_)
                · skip
                  have c_97 := bI_1 c_97
                  exact absurd ⟨c_85, c_97⟩ hb
                · skip
                  have c_97 := bI_0 c_97
                  refine J_aload_n E dX5_copy_100 rfl 2 rfl ?_
                  refine J_iconst E dX5_copy_101 ic_0 ?_
                  refine J_cVi0 E (As := [.int 0]) (c_X5_tell l G a x 0 (by omega)) cl_X5_64 yo_X5_tell dX5_copy_102 rfl rfl rfl (Nat.le_of_ble_eq_true rfl) (Nat.le_of_ble_eq_true rfl) rfl (Nat.le_of_ble_eq_true rfl) ⟨Nat.zero_le _, Nat.zero_le _⟩ ?_
                  exact ret _ _ _ _ ⟨rfl, _, rfl, by intro g h2 h6; simp [upG, up3, up3R, h2, h6]⟩ rfl dX5_copy_105
            · skip
              exact absurd h3 c_68
          · skip
            have c_49 := bI_1 c_49
            exact absurd c_49 h2
      · skip
        have c_11 := bI_0 c_11
        exact absurd (in3 (by decide)) c_11
  · skip
    refine J_iload_n E dX5_copy_0 rfl 1 rfl ?_
    refine J_cSiN E (As := [.int (nI 2)]) (c_X5_isSheet l G (nI 2) ) cl_X5_202 yo_X5_isSheet dX5_copy_1 rfl (Nat.le_of_ble_eq_true rfl) (Nat.le_of_ble_eq_true rfl) rfl (Nat.le_of_ble_eq_true rfl) ⟨Nat.zero_le _, Nat.zero_le _⟩ ?_
    refine J_if_eq E (tgt := 14) dX5_copy_4 (by decide) (fun c_4 => ?_) (fun c_4 => ?_)
    · skip
      have c_4 := bI_0 c_4
      exact absurd (in3 (by decide)) c_4
    · skip
      have c_4 := bI_1 c_4
      refine J_iload_n E dX5_copy_7 rfl 3 rfl ?_
      refine J_cSiN E (As := [.int (nI 0)]) (c_X5_isSheet l G (nI 0) ) cl_X5_202 yo_X5_isSheet dX5_copy_8 rfl (Nat.le_of_ble_eq_true rfl) (Nat.le_of_ble_eq_true rfl) rfl (Nat.le_of_ble_eq_true rfl) ⟨Nat.zero_le _, Nat.zero_le _⟩ ?_
      refine J_if_ne E (tgt := 20) dX5_copy_11 (by decide) (fun c_11 => ?_) (fun c_11 => ?_)
      · skip
        have c_11 := bI_1 c_11
        refine J_aload_n E dX5_copy_20 rfl 0 rfl ?_
        refine gC0_X5_44 E dX5_copy_21 ?_
        refine J_iload_n E dX5_copy_24 rfl 1 rfl ?_
        refine laC_30_2 E dX5_copy_25 ?_
        refine J_astore E (lv' := [(6, .ref (a 35)), (0, .ref (a 0)), (1, .int (nI 2)), (2, .int f), (3, .int (nI 0)), (4, .int o), (5, .int n)]) dX5_copy_26 (by decide) rfl ?_
        refine J_aload_n E dX5_copy_28 rfl 1 rfl ?_
        refine gC0_X5_44 E dX5_copy_29 ?_
        refine J_iload_n E dX5_copy_32 rfl 4 rfl ?_
        refine laC_30_0 E dX5_copy_33 ?_
        refine J_astore E (lv' := [(7, .ref (a 31)), (6, .ref (a 35)), (0, .ref (a 0)), (1, .int (nI 2)), (2, .int f), (3, .int (nI 0)), (4, .int o), (5, .int n)]) dX5_copy_34 (by decide) rfl ?_
        refine J_aload E dX5_copy_36 1 rfl ?_
        refine J_si10r E (As := []) (c_X2_isMissing l G (sh a 35) (x 10) ) cl_X5_212 yo_X2_isMissing dX5_copy_38 rfl (Nat.le_of_ble_eq_true rfl) (Nat.le_of_ble_eq_true rfl) rfl (Nat.le_of_ble_eq_true rfl) ⟨Nat.zero_le _, Nat.zero_le _⟩ ?_
        refine J_if_ne E (tgt := 52) dX5_copy_41 (by decide) (fun c_41 => ?_) (fun c_41 => ?_)
        · skip
          have c_41 := bI_1 c_41
          exact absurd c_41 h1
        · skip
          have c_41 := bI_0 c_41
          refine J_aload E dX5_copy_44 0 rfl ?_
          refine J_si8r E (As := []) (c_X2_isMissing l G (sh a 31) (x 8) ) cl_X5_212 yo_X2_isMissing dX5_copy_46 rfl (Nat.le_of_ble_eq_true rfl) (Nat.le_of_ble_eq_true rfl) rfl (Nat.le_of_ble_eq_true rfl) ⟨Nat.zero_le _, Nat.zero_le _⟩ ?_
          refine J_if_eq E (tgt := 58) dX5_copy_49 (by decide) (fun c_49 => ?_) (fun c_49 => ?_)
          · skip
            have c_49 := bI_0 c_49
            refine J_aload E dX5_copy_58 1 rfl ?_
            refine gC35_X5_215 E dX5_copy_60 ?_
            refine J_aload E dX5_copy_63 0 rfl ?_
            refine gC31_X5_215 E dX5_copy_65 ?_
            refine J_icmp_eq E (tgt := 77) dX5_copy_68 (by decide) (fun c_68 => ?_) (fun c_68 => ?_)
            · skip
              refine J_aload E dX5_copy_77 1 rfl ?_
              refine J_iload_n E dX5_copy_79 rfl 4 rfl ?_
              refine J_iload E dX5_copy_80 7 rfl ?_
              refine J_si10r E (As := [.int f, .int n]) (c_X2_hasRun l G (sh a 35) (x 10) f n ) cl_X5_218 yo_X2_hasRun dX5_copy_82 rfl (Nat.le_of_ble_eq_true rfl) (Nat.le_of_ble_eq_true rfl) rfl (Nat.le_of_ble_eq_true rfl) ⟨Nat.zero_le _, Nat.zero_le _⟩ ?_
              refine J_if_eq E (tgt := 100) dX5_copy_85 (by decide) (fun c_85 => ?_) (fun c_85 => ?_)
              · skip
                have c_85 := bI_0 c_85
                refine J_aload_n E dX5_copy_100 rfl 2 rfl ?_
                refine J_iconst E dX5_copy_101 ic_0 ?_
                refine J_cVi0 E (As := [.int 0]) (c_X5_tell l G a x 0 (by omega)) cl_X5_64 yo_X5_tell dX5_copy_102 rfl rfl rfl (Nat.le_of_ble_eq_true rfl) (Nat.le_of_ble_eq_true rfl) rfl (Nat.le_of_ble_eq_true rfl) ⟨Nat.zero_le _, Nat.zero_le _⟩ ?_
                exact ret _ _ _ _ ⟨rfl, _, rfl, by intro g h2 h6; simp [upG, up3, up3R, h2, h6]⟩ rfl dX5_copy_105
              · skip
                have c_85 := bI_1 c_85
                refine J_aload E dX5_copy_88 0 rfl ?_
                refine J_iload E dX5_copy_90 6 rfl ?_
                refine J_iload E dX5_copy_92 7 rfl ?_
                refine J_si8r E (As := [.int o, .int n]) (c_X2_hasRun l G (sh a 31) (x 8) o n ) cl_X5_218 yo_X2_hasRun dX5_copy_94 rfl (Nat.le_of_ble_eq_true rfl) (Nat.le_of_ble_eq_true rfl) rfl (Nat.le_of_ble_eq_true rfl) ⟨Nat.zero_le _, Nat.zero_le _⟩ ?_
                refine J_if_ne E (tgt := 106) dX5_copy_97 (by decide) (fun c_97 => ?_) (fun c_97 => ?_)
                · skip
                  have c_97 := bI_1 c_97
                  exact absurd ⟨c_85, c_97⟩ hb
                · skip
                  have c_97 := bI_0 c_97
                  refine J_aload_n E dX5_copy_100 rfl 2 rfl ?_
                  refine J_iconst E dX5_copy_101 ic_0 ?_
                  refine J_cVi0 E (As := [.int 0]) (c_X5_tell l G a x 0 (by omega)) cl_X5_64 yo_X5_tell dX5_copy_102 rfl rfl rfl (Nat.le_of_ble_eq_true rfl) (Nat.le_of_ble_eq_true rfl) rfl (Nat.le_of_ble_eq_true rfl) ⟨Nat.zero_le _, Nat.zero_le _⟩ ?_
                  exact ret _ _ _ _ ⟨rfl, _, rfl, by intro g h2 h6; simp [upG, up3, up3R, h2, h6]⟩ rfl dX5_copy_105
            · skip
              exact absurd h3 c_68
          · skip
            have c_49 := bI_1 c_49
            exact absurd c_49 h2
      · skip
        have c_11 := bI_0 c_11
        exact absurd (in3 (by decide)) c_11
  · skip
    refine J_iload_n E dX5_copy_0 rfl 1 rfl ?_
    refine J_cSiN E (As := [.int (nI 2)]) (c_X5_isSheet l G (nI 2) ) cl_X5_202 yo_X5_isSheet dX5_copy_1 rfl (Nat.le_of_ble_eq_true rfl) (Nat.le_of_ble_eq_true rfl) rfl (Nat.le_of_ble_eq_true rfl) ⟨Nat.zero_le _, Nat.zero_le _⟩ ?_
    refine J_if_eq E (tgt := 14) dX5_copy_4 (by decide) (fun c_4 => ?_) (fun c_4 => ?_)
    · skip
      have c_4 := bI_0 c_4
      exact absurd (in3 (by decide)) c_4
    · skip
      have c_4 := bI_1 c_4
      refine J_iload_n E dX5_copy_7 rfl 3 rfl ?_
      refine J_cSiN E (As := [.int (nI 1)]) (c_X5_isSheet l G (nI 1) ) cl_X5_202 yo_X5_isSheet dX5_copy_8 rfl (Nat.le_of_ble_eq_true rfl) (Nat.le_of_ble_eq_true rfl) rfl (Nat.le_of_ble_eq_true rfl) ⟨Nat.zero_le _, Nat.zero_le _⟩ ?_
      refine J_if_ne E (tgt := 20) dX5_copy_11 (by decide) (fun c_11 => ?_) (fun c_11 => ?_)
      · skip
        have c_11 := bI_1 c_11
        refine J_aload_n E dX5_copy_20 rfl 0 rfl ?_
        refine gC0_X5_44 E dX5_copy_21 ?_
        refine J_iload_n E dX5_copy_24 rfl 1 rfl ?_
        refine laC_30_2 E dX5_copy_25 ?_
        refine J_astore E (lv' := [(6, .ref (a 35)), (0, .ref (a 0)), (1, .int (nI 2)), (2, .int f), (3, .int (nI 1)), (4, .int o), (5, .int n)]) dX5_copy_26 (by decide) rfl ?_
        refine J_aload_n E dX5_copy_28 rfl 1 rfl ?_
        refine gC0_X5_44 E dX5_copy_29 ?_
        refine J_iload_n E dX5_copy_32 rfl 4 rfl ?_
        refine laC_30_1 E dX5_copy_33 ?_
        refine J_astore E (lv' := [(7, .ref (a 33)), (6, .ref (a 35)), (0, .ref (a 0)), (1, .int (nI 2)), (2, .int f), (3, .int (nI 1)), (4, .int o), (5, .int n)]) dX5_copy_34 (by decide) rfl ?_
        refine J_aload E dX5_copy_36 1 rfl ?_
        refine J_si10r E (As := []) (c_X2_isMissing l G (sh a 35) (x 10) ) cl_X5_212 yo_X2_isMissing dX5_copy_38 rfl (Nat.le_of_ble_eq_true rfl) (Nat.le_of_ble_eq_true rfl) rfl (Nat.le_of_ble_eq_true rfl) ⟨Nat.zero_le _, Nat.zero_le _⟩ ?_
        refine J_if_ne E (tgt := 52) dX5_copy_41 (by decide) (fun c_41 => ?_) (fun c_41 => ?_)
        · skip
          have c_41 := bI_1 c_41
          exact absurd c_41 h1
        · skip
          have c_41 := bI_0 c_41
          refine J_aload E dX5_copy_44 0 rfl ?_
          refine J_si9r E (As := []) (c_X2_isMissing l G (sh a 33) (x 9) ) cl_X5_212 yo_X2_isMissing dX5_copy_46 rfl (Nat.le_of_ble_eq_true rfl) (Nat.le_of_ble_eq_true rfl) rfl (Nat.le_of_ble_eq_true rfl) ⟨Nat.zero_le _, Nat.zero_le _⟩ ?_
          refine J_if_eq E (tgt := 58) dX5_copy_49 (by decide) (fun c_49 => ?_) (fun c_49 => ?_)
          · skip
            have c_49 := bI_0 c_49
            refine J_aload E dX5_copy_58 1 rfl ?_
            refine gC35_X5_215 E dX5_copy_60 ?_
            refine J_aload E dX5_copy_63 0 rfl ?_
            refine gC33_X5_215 E dX5_copy_65 ?_
            refine J_icmp_eq E (tgt := 77) dX5_copy_68 (by decide) (fun c_68 => ?_) (fun c_68 => ?_)
            · skip
              refine J_aload E dX5_copy_77 1 rfl ?_
              refine J_iload_n E dX5_copy_79 rfl 4 rfl ?_
              refine J_iload E dX5_copy_80 7 rfl ?_
              refine J_si10r E (As := [.int f, .int n]) (c_X2_hasRun l G (sh a 35) (x 10) f n ) cl_X5_218 yo_X2_hasRun dX5_copy_82 rfl (Nat.le_of_ble_eq_true rfl) (Nat.le_of_ble_eq_true rfl) rfl (Nat.le_of_ble_eq_true rfl) ⟨Nat.zero_le _, Nat.zero_le _⟩ ?_
              refine J_if_eq E (tgt := 100) dX5_copy_85 (by decide) (fun c_85 => ?_) (fun c_85 => ?_)
              · skip
                have c_85 := bI_0 c_85
                refine J_aload_n E dX5_copy_100 rfl 2 rfl ?_
                refine J_iconst E dX5_copy_101 ic_0 ?_
                refine J_cVi0 E (As := [.int 0]) (c_X5_tell l G a x 0 (by omega)) cl_X5_64 yo_X5_tell dX5_copy_102 rfl rfl rfl (Nat.le_of_ble_eq_true rfl) (Nat.le_of_ble_eq_true rfl) rfl (Nat.le_of_ble_eq_true rfl) ⟨Nat.zero_le _, Nat.zero_le _⟩ ?_
                exact ret _ _ _ _ ⟨rfl, _, rfl, by intro g h2 h6; simp [upG, up3, up3R, h2, h6]⟩ rfl dX5_copy_105
              · skip
                have c_85 := bI_1 c_85
                refine J_aload E dX5_copy_88 0 rfl ?_
                refine J_iload E dX5_copy_90 6 rfl ?_
                refine J_iload E dX5_copy_92 7 rfl ?_
                refine J_si9r E (As := [.int o, .int n]) (c_X2_hasRun l G (sh a 33) (x 9) o n ) cl_X5_218 yo_X2_hasRun dX5_copy_94 rfl (Nat.le_of_ble_eq_true rfl) (Nat.le_of_ble_eq_true rfl) rfl (Nat.le_of_ble_eq_true rfl) ⟨Nat.zero_le _, Nat.zero_le _⟩ ?_
                refine J_if_ne E (tgt := 106) dX5_copy_97 (by decide) (fun c_97 => ?_) (fun c_97 => ?_)
                · skip
                  have c_97 := bI_1 c_97
                  exact absurd ⟨c_85, c_97⟩ hb
                · skip
                  have c_97 := bI_0 c_97
                  refine J_aload_n E dX5_copy_100 rfl 2 rfl ?_
                  refine J_iconst E dX5_copy_101 ic_0 ?_
                  refine J_cVi0 E (As := [.int 0]) (c_X5_tell l G a x 0 (by omega)) cl_X5_64 yo_X5_tell dX5_copy_102 rfl rfl rfl (Nat.le_of_ble_eq_true rfl) (Nat.le_of_ble_eq_true rfl) rfl (Nat.le_of_ble_eq_true rfl) ⟨Nat.zero_le _, Nat.zero_le _⟩ ?_
                  exact ret _ _ _ _ ⟨rfl, _, rfl, by intro g h2 h6; simp [upG, up3, up3R, h2, h6]⟩ rfl dX5_copy_105
            · skip
              exact absurd h3 c_68
          · skip
            have c_49 := bI_1 c_49
            exact absurd c_49 h2
      · skip
        have c_11 := bI_0 c_11
        exact absurd (in3 (by decide)) c_11
  · skip
    refine J_iload_n E dX5_copy_0 rfl 1 rfl ?_
    refine J_cSiN E (As := [.int (nI 2)]) (c_X5_isSheet l G (nI 2) ) cl_X5_202 yo_X5_isSheet dX5_copy_1 rfl (Nat.le_of_ble_eq_true rfl) (Nat.le_of_ble_eq_true rfl) rfl (Nat.le_of_ble_eq_true rfl) ⟨Nat.zero_le _, Nat.zero_le _⟩ ?_
    refine J_if_eq E (tgt := 14) dX5_copy_4 (by decide) (fun c_4 => ?_) (fun c_4 => ?_)
    · skip
      have c_4 := bI_0 c_4
      exact absurd (in3 (by decide)) c_4
    · skip
      have c_4 := bI_1 c_4
      refine J_iload_n E dX5_copy_7 rfl 3 rfl ?_
      refine J_cSiN E (As := [.int (nI 2)]) (c_X5_isSheet l G (nI 2) ) cl_X5_202 yo_X5_isSheet dX5_copy_8 rfl (Nat.le_of_ble_eq_true rfl) (Nat.le_of_ble_eq_true rfl) rfl (Nat.le_of_ble_eq_true rfl) ⟨Nat.zero_le _, Nat.zero_le _⟩ ?_
      refine J_if_ne E (tgt := 20) dX5_copy_11 (by decide) (fun c_11 => ?_) (fun c_11 => ?_)
      · skip
        have c_11 := bI_1 c_11
        refine J_aload_n E dX5_copy_20 rfl 0 rfl ?_
        refine gC0_X5_44 E dX5_copy_21 ?_
        refine J_iload_n E dX5_copy_24 rfl 1 rfl ?_
        refine laC_30_2 E dX5_copy_25 ?_
        refine J_astore E (lv' := [(6, .ref (a 35)), (0, .ref (a 0)), (1, .int (nI 2)), (2, .int f), (3, .int (nI 2)), (4, .int o), (5, .int n)]) dX5_copy_26 (by decide) rfl ?_
        refine J_aload_n E dX5_copy_28 rfl 1 rfl ?_
        refine gC0_X5_44 E dX5_copy_29 ?_
        refine J_iload_n E dX5_copy_32 rfl 4 rfl ?_
        refine laC_30_2 E dX5_copy_33 ?_
        refine J_astore E (lv' := [(7, .ref (a 35)), (6, .ref (a 35)), (0, .ref (a 0)), (1, .int (nI 2)), (2, .int f), (3, .int (nI 2)), (4, .int o), (5, .int n)]) dX5_copy_34 (by decide) rfl ?_
        refine J_aload E dX5_copy_36 1 rfl ?_
        refine J_si10r E (As := []) (c_X2_isMissing l G (sh a 35) (x 10) ) cl_X5_212 yo_X2_isMissing dX5_copy_38 rfl (Nat.le_of_ble_eq_true rfl) (Nat.le_of_ble_eq_true rfl) rfl (Nat.le_of_ble_eq_true rfl) ⟨Nat.zero_le _, Nat.zero_le _⟩ ?_
        refine J_if_ne E (tgt := 52) dX5_copy_41 (by decide) (fun c_41 => ?_) (fun c_41 => ?_)
        · skip
          have c_41 := bI_1 c_41
          exact absurd c_41 h1
        · skip
          have c_41 := bI_0 c_41
          refine J_aload E dX5_copy_44 0 rfl ?_
          refine J_si10r E (As := []) (c_X2_isMissing l G (sh a 35) (x 10) ) cl_X5_212 yo_X2_isMissing dX5_copy_46 rfl (Nat.le_of_ble_eq_true rfl) (Nat.le_of_ble_eq_true rfl) rfl (Nat.le_of_ble_eq_true rfl) ⟨Nat.zero_le _, Nat.zero_le _⟩ ?_
          refine J_if_eq E (tgt := 58) dX5_copy_49 (by decide) (fun c_49 => ?_) (fun c_49 => ?_)
          · skip
            have c_49 := bI_0 c_49
            refine J_aload E dX5_copy_58 1 rfl ?_
            refine gC35_X5_215 E dX5_copy_60 ?_
            refine J_aload E dX5_copy_63 0 rfl ?_
            refine gC35_X5_215 E dX5_copy_65 ?_
            refine J_icmp_eq E (tgt := 77) dX5_copy_68 (by decide) (fun c_68 => ?_) (fun c_68 => ?_)
            · skip
              refine J_aload E dX5_copy_77 1 rfl ?_
              refine J_iload_n E dX5_copy_79 rfl 4 rfl ?_
              refine J_iload E dX5_copy_80 7 rfl ?_
              refine J_si10r E (As := [.int f, .int n]) (c_X2_hasRun l G (sh a 35) (x 10) f n ) cl_X5_218 yo_X2_hasRun dX5_copy_82 rfl (Nat.le_of_ble_eq_true rfl) (Nat.le_of_ble_eq_true rfl) rfl (Nat.le_of_ble_eq_true rfl) ⟨Nat.zero_le _, Nat.zero_le _⟩ ?_
              refine J_if_eq E (tgt := 100) dX5_copy_85 (by decide) (fun c_85 => ?_) (fun c_85 => ?_)
              · skip
                have c_85 := bI_0 c_85
                refine J_aload_n E dX5_copy_100 rfl 2 rfl ?_
                refine J_iconst E dX5_copy_101 ic_0 ?_
                refine J_cVi0 E (As := [.int 0]) (c_X5_tell l G a x 0 (by omega)) cl_X5_64 yo_X5_tell dX5_copy_102 rfl rfl rfl (Nat.le_of_ble_eq_true rfl) (Nat.le_of_ble_eq_true rfl) rfl (Nat.le_of_ble_eq_true rfl) ⟨Nat.zero_le _, Nat.zero_le _⟩ ?_
                exact ret _ _ _ _ ⟨rfl, _, rfl, by intro g h2 h6; simp [upG, up3, up3R, h2, h6]⟩ rfl dX5_copy_105
              · skip
                have c_85 := bI_1 c_85
                refine J_aload E dX5_copy_88 0 rfl ?_
                refine J_iload E dX5_copy_90 6 rfl ?_
                refine J_iload E dX5_copy_92 7 rfl ?_
                refine J_si10r E (As := [.int o, .int n]) (c_X2_hasRun l G (sh a 35) (x 10) o n ) cl_X5_218 yo_X2_hasRun dX5_copy_94 rfl (Nat.le_of_ble_eq_true rfl) (Nat.le_of_ble_eq_true rfl) rfl (Nat.le_of_ble_eq_true rfl) ⟨Nat.zero_le _, Nat.zero_le _⟩ ?_
                refine J_if_ne E (tgt := 106) dX5_copy_97 (by decide) (fun c_97 => ?_) (fun c_97 => ?_)
                · skip
                  have c_97 := bI_1 c_97
                  exact absurd ⟨c_85, c_97⟩ hb
                · skip
                  have c_97 := bI_0 c_97
                  refine J_aload_n E dX5_copy_100 rfl 2 rfl ?_
                  refine J_iconst E dX5_copy_101 ic_0 ?_
                  refine J_cVi0 E (As := [.int 0]) (c_X5_tell l G a x 0 (by omega)) cl_X5_64 yo_X5_tell dX5_copy_102 rfl rfl rfl (Nat.le_of_ble_eq_true rfl) (Nat.le_of_ble_eq_true rfl) rfl (Nat.le_of_ble_eq_true rfl) ⟨Nat.zero_le _, Nat.zero_le _⟩ ?_
                  exact ret _ _ _ _ ⟨rfl, _, rfl, by intro g h2 h6; simp [upG, up3, up3R, h2, h6]⟩ rfl dX5_copy_105
            · skip
              exact absurd h3 c_68
          · skip
            have c_49 := bI_1 c_49
            exact absurd c_49 h2
      · skip
        have c_11 := bI_0 c_11
        exact absurd (in3 (by decide)) c_11
  · skip
    refine J_iload_n E dX5_copy_0 rfl 1 rfl ?_
    refine J_cSiN E (As := [.int (nI 2)]) (c_X5_isSheet l G (nI 2) ) cl_X5_202 yo_X5_isSheet dX5_copy_1 rfl (Nat.le_of_ble_eq_true rfl) (Nat.le_of_ble_eq_true rfl) rfl (Nat.le_of_ble_eq_true rfl) ⟨Nat.zero_le _, Nat.zero_le _⟩ ?_
    refine J_if_eq E (tgt := 14) dX5_copy_4 (by decide) (fun c_4 => ?_) (fun c_4 => ?_)
    · skip
      have c_4 := bI_0 c_4
      exact absurd (in3 (by decide)) c_4
    · skip
      have c_4 := bI_1 c_4
      refine J_iload_n E dX5_copy_7 rfl 3 rfl ?_
      refine J_cSiN E (As := [.int (nI 3)]) (c_X5_isSheet l G (nI 3) ) cl_X5_202 yo_X5_isSheet dX5_copy_8 rfl (Nat.le_of_ble_eq_true rfl) (Nat.le_of_ble_eq_true rfl) rfl (Nat.le_of_ble_eq_true rfl) ⟨Nat.zero_le _, Nat.zero_le _⟩ ?_
      refine J_if_ne E (tgt := 20) dX5_copy_11 (by decide) (fun c_11 => ?_) (fun c_11 => ?_)
      · skip
        have c_11 := bI_1 c_11
        refine J_aload_n E dX5_copy_20 rfl 0 rfl ?_
        refine gC0_X5_44 E dX5_copy_21 ?_
        refine J_iload_n E dX5_copy_24 rfl 1 rfl ?_
        refine laC_30_2 E dX5_copy_25 ?_
        refine J_astore E (lv' := [(6, .ref (a 35)), (0, .ref (a 0)), (1, .int (nI 2)), (2, .int f), (3, .int (nI 3)), (4, .int o), (5, .int n)]) dX5_copy_26 (by decide) rfl ?_
        refine J_aload_n E dX5_copy_28 rfl 1 rfl ?_
        refine gC0_X5_44 E dX5_copy_29 ?_
        refine J_iload_n E dX5_copy_32 rfl 4 rfl ?_
        refine laC_30_3 E dX5_copy_33 ?_
        refine J_astore E (lv' := [(7, .ref (a 37)), (6, .ref (a 35)), (0, .ref (a 0)), (1, .int (nI 2)), (2, .int f), (3, .int (nI 3)), (4, .int o), (5, .int n)]) dX5_copy_34 (by decide) rfl ?_
        refine J_aload E dX5_copy_36 1 rfl ?_
        refine J_si10r E (As := []) (c_X2_isMissing l G (sh a 35) (x 10) ) cl_X5_212 yo_X2_isMissing dX5_copy_38 rfl (Nat.le_of_ble_eq_true rfl) (Nat.le_of_ble_eq_true rfl) rfl (Nat.le_of_ble_eq_true rfl) ⟨Nat.zero_le _, Nat.zero_le _⟩ ?_
        refine J_if_ne E (tgt := 52) dX5_copy_41 (by decide) (fun c_41 => ?_) (fun c_41 => ?_)
        · skip
          have c_41 := bI_1 c_41
          exact absurd c_41 h1
        · skip
          have c_41 := bI_0 c_41
          refine J_aload E dX5_copy_44 0 rfl ?_
          refine J_si11r E (As := []) (c_X2_isMissing l G (sh a 37) (x 11) ) cl_X5_212 yo_X2_isMissing dX5_copy_46 rfl (Nat.le_of_ble_eq_true rfl) (Nat.le_of_ble_eq_true rfl) rfl (Nat.le_of_ble_eq_true rfl) ⟨Nat.zero_le _, Nat.zero_le _⟩ ?_
          refine J_if_eq E (tgt := 58) dX5_copy_49 (by decide) (fun c_49 => ?_) (fun c_49 => ?_)
          · skip
            have c_49 := bI_0 c_49
            refine J_aload E dX5_copy_58 1 rfl ?_
            refine gC35_X5_215 E dX5_copy_60 ?_
            refine J_aload E dX5_copy_63 0 rfl ?_
            refine gC37_X5_215 E dX5_copy_65 ?_
            refine J_icmp_eq E (tgt := 77) dX5_copy_68 (by decide) (fun c_68 => ?_) (fun c_68 => ?_)
            · skip
              refine J_aload E dX5_copy_77 1 rfl ?_
              refine J_iload_n E dX5_copy_79 rfl 4 rfl ?_
              refine J_iload E dX5_copy_80 7 rfl ?_
              refine J_si10r E (As := [.int f, .int n]) (c_X2_hasRun l G (sh a 35) (x 10) f n ) cl_X5_218 yo_X2_hasRun dX5_copy_82 rfl (Nat.le_of_ble_eq_true rfl) (Nat.le_of_ble_eq_true rfl) rfl (Nat.le_of_ble_eq_true rfl) ⟨Nat.zero_le _, Nat.zero_le _⟩ ?_
              refine J_if_eq E (tgt := 100) dX5_copy_85 (by decide) (fun c_85 => ?_) (fun c_85 => ?_)
              · skip
                have c_85 := bI_0 c_85
                refine J_aload_n E dX5_copy_100 rfl 2 rfl ?_
                refine J_iconst E dX5_copy_101 ic_0 ?_
                refine J_cVi0 E (As := [.int 0]) (c_X5_tell l G a x 0 (by omega)) cl_X5_64 yo_X5_tell dX5_copy_102 rfl rfl rfl (Nat.le_of_ble_eq_true rfl) (Nat.le_of_ble_eq_true rfl) rfl (Nat.le_of_ble_eq_true rfl) ⟨Nat.zero_le _, Nat.zero_le _⟩ ?_
                exact ret _ _ _ _ ⟨rfl, _, rfl, by intro g h2 h6; simp [upG, up3, up3R, h2, h6]⟩ rfl dX5_copy_105
              · skip
                have c_85 := bI_1 c_85
                refine J_aload E dX5_copy_88 0 rfl ?_
                refine J_iload E dX5_copy_90 6 rfl ?_
                refine J_iload E dX5_copy_92 7 rfl ?_
                refine J_si11r E (As := [.int o, .int n]) (c_X2_hasRun l G (sh a 37) (x 11) o n ) cl_X5_218 yo_X2_hasRun dX5_copy_94 rfl (Nat.le_of_ble_eq_true rfl) (Nat.le_of_ble_eq_true rfl) rfl (Nat.le_of_ble_eq_true rfl) ⟨Nat.zero_le _, Nat.zero_le _⟩ ?_
                refine J_if_ne E (tgt := 106) dX5_copy_97 (by decide) (fun c_97 => ?_) (fun c_97 => ?_)
                · skip
                  have c_97 := bI_1 c_97
                  exact absurd ⟨c_85, c_97⟩ hb
                · skip
                  have c_97 := bI_0 c_97
                  refine J_aload_n E dX5_copy_100 rfl 2 rfl ?_
                  refine J_iconst E dX5_copy_101 ic_0 ?_
                  refine J_cVi0 E (As := [.int 0]) (c_X5_tell l G a x 0 (by omega)) cl_X5_64 yo_X5_tell dX5_copy_102 rfl rfl rfl (Nat.le_of_ble_eq_true rfl) (Nat.le_of_ble_eq_true rfl) rfl (Nat.le_of_ble_eq_true rfl) ⟨Nat.zero_le _, Nat.zero_le _⟩ ?_
                  exact ret _ _ _ _ ⟨rfl, _, rfl, by intro g h2 h6; simp [upG, up3, up3R, h2, h6]⟩ rfl dX5_copy_105
            · skip
              exact absurd h3 c_68
          · skip
            have c_49 := bI_1 c_49
            exact absurd c_49 h2
      · skip
        have c_11 := bI_0 c_11
        exact absurd (in3 (by decide)) c_11
  · skip
    refine J_iload_n E dX5_copy_0 rfl 1 rfl ?_
    refine J_cSiN E (As := [.int (nI 3)]) (c_X5_isSheet l G (nI 3) ) cl_X5_202 yo_X5_isSheet dX5_copy_1 rfl (Nat.le_of_ble_eq_true rfl) (Nat.le_of_ble_eq_true rfl) rfl (Nat.le_of_ble_eq_true rfl) ⟨Nat.zero_le _, Nat.zero_le _⟩ ?_
    refine J_if_eq E (tgt := 14) dX5_copy_4 (by decide) (fun c_4 => ?_) (fun c_4 => ?_)
    · skip
      have c_4 := bI_0 c_4
      exact absurd (in3 (by decide)) c_4
    · skip
      have c_4 := bI_1 c_4
      refine J_iload_n E dX5_copy_7 rfl 3 rfl ?_
      refine J_cSiN E (As := [.int (nI 0)]) (c_X5_isSheet l G (nI 0) ) cl_X5_202 yo_X5_isSheet dX5_copy_8 rfl (Nat.le_of_ble_eq_true rfl) (Nat.le_of_ble_eq_true rfl) rfl (Nat.le_of_ble_eq_true rfl) ⟨Nat.zero_le _, Nat.zero_le _⟩ ?_
      refine J_if_ne E (tgt := 20) dX5_copy_11 (by decide) (fun c_11 => ?_) (fun c_11 => ?_)
      · skip
        have c_11 := bI_1 c_11
        refine J_aload_n E dX5_copy_20 rfl 0 rfl ?_
        refine gC0_X5_44 E dX5_copy_21 ?_
        refine J_iload_n E dX5_copy_24 rfl 1 rfl ?_
        refine laC_30_3 E dX5_copy_25 ?_
        refine J_astore E (lv' := [(6, .ref (a 37)), (0, .ref (a 0)), (1, .int (nI 3)), (2, .int f), (3, .int (nI 0)), (4, .int o), (5, .int n)]) dX5_copy_26 (by decide) rfl ?_
        refine J_aload_n E dX5_copy_28 rfl 1 rfl ?_
        refine gC0_X5_44 E dX5_copy_29 ?_
        refine J_iload_n E dX5_copy_32 rfl 4 rfl ?_
        refine laC_30_0 E dX5_copy_33 ?_
        refine J_astore E (lv' := [(7, .ref (a 31)), (6, .ref (a 37)), (0, .ref (a 0)), (1, .int (nI 3)), (2, .int f), (3, .int (nI 0)), (4, .int o), (5, .int n)]) dX5_copy_34 (by decide) rfl ?_
        refine J_aload E dX5_copy_36 1 rfl ?_
        refine J_si11r E (As := []) (c_X2_isMissing l G (sh a 37) (x 11) ) cl_X5_212 yo_X2_isMissing dX5_copy_38 rfl (Nat.le_of_ble_eq_true rfl) (Nat.le_of_ble_eq_true rfl) rfl (Nat.le_of_ble_eq_true rfl) ⟨Nat.zero_le _, Nat.zero_le _⟩ ?_
        refine J_if_ne E (tgt := 52) dX5_copy_41 (by decide) (fun c_41 => ?_) (fun c_41 => ?_)
        · skip
          have c_41 := bI_1 c_41
          exact absurd c_41 h1
        · skip
          have c_41 := bI_0 c_41
          refine J_aload E dX5_copy_44 0 rfl ?_
          refine J_si8r E (As := []) (c_X2_isMissing l G (sh a 31) (x 8) ) cl_X5_212 yo_X2_isMissing dX5_copy_46 rfl (Nat.le_of_ble_eq_true rfl) (Nat.le_of_ble_eq_true rfl) rfl (Nat.le_of_ble_eq_true rfl) ⟨Nat.zero_le _, Nat.zero_le _⟩ ?_
          refine J_if_eq E (tgt := 58) dX5_copy_49 (by decide) (fun c_49 => ?_) (fun c_49 => ?_)
          · skip
            have c_49 := bI_0 c_49
            refine J_aload E dX5_copy_58 1 rfl ?_
            refine gC37_X5_215 E dX5_copy_60 ?_
            refine J_aload E dX5_copy_63 0 rfl ?_
            refine gC31_X5_215 E dX5_copy_65 ?_
            refine J_icmp_eq E (tgt := 77) dX5_copy_68 (by decide) (fun c_68 => ?_) (fun c_68 => ?_)
            · skip
              refine J_aload E dX5_copy_77 1 rfl ?_
              refine J_iload_n E dX5_copy_79 rfl 4 rfl ?_
              refine J_iload E dX5_copy_80 7 rfl ?_
              refine J_si11r E (As := [.int f, .int n]) (c_X2_hasRun l G (sh a 37) (x 11) f n ) cl_X5_218 yo_X2_hasRun dX5_copy_82 rfl (Nat.le_of_ble_eq_true rfl) (Nat.le_of_ble_eq_true rfl) rfl (Nat.le_of_ble_eq_true rfl) ⟨Nat.zero_le _, Nat.zero_le _⟩ ?_
              refine J_if_eq E (tgt := 100) dX5_copy_85 (by decide) (fun c_85 => ?_) (fun c_85 => ?_)
              · skip
                have c_85 := bI_0 c_85
                refine J_aload_n E dX5_copy_100 rfl 2 rfl ?_
                refine J_iconst E dX5_copy_101 ic_0 ?_
                refine J_cVi0 E (As := [.int 0]) (c_X5_tell l G a x 0 (by omega)) cl_X5_64 yo_X5_tell dX5_copy_102 rfl rfl rfl (Nat.le_of_ble_eq_true rfl) (Nat.le_of_ble_eq_true rfl) rfl (Nat.le_of_ble_eq_true rfl) ⟨Nat.zero_le _, Nat.zero_le _⟩ ?_
                exact ret _ _ _ _ ⟨rfl, _, rfl, by intro g h2 h6; simp [upG, up3, up3R, h2, h6]⟩ rfl dX5_copy_105
              · skip
                have c_85 := bI_1 c_85
                refine J_aload E dX5_copy_88 0 rfl ?_
                refine J_iload E dX5_copy_90 6 rfl ?_
                refine J_iload E dX5_copy_92 7 rfl ?_
                refine J_si8r E (As := [.int o, .int n]) (c_X2_hasRun l G (sh a 31) (x 8) o n ) cl_X5_218 yo_X2_hasRun dX5_copy_94 rfl (Nat.le_of_ble_eq_true rfl) (Nat.le_of_ble_eq_true rfl) rfl (Nat.le_of_ble_eq_true rfl) ⟨Nat.zero_le _, Nat.zero_le _⟩ ?_
                refine J_if_ne E (tgt := 106) dX5_copy_97 (by decide) (fun c_97 => ?_) (fun c_97 => ?_)
                · skip
                  have c_97 := bI_1 c_97
                  exact absurd ⟨c_85, c_97⟩ hb
                · skip
                  have c_97 := bI_0 c_97
                  refine J_aload_n E dX5_copy_100 rfl 2 rfl ?_
                  refine J_iconst E dX5_copy_101 ic_0 ?_
                  refine J_cVi0 E (As := [.int 0]) (c_X5_tell l G a x 0 (by omega)) cl_X5_64 yo_X5_tell dX5_copy_102 rfl rfl rfl (Nat.le_of_ble_eq_true rfl) (Nat.le_of_ble_eq_true rfl) rfl (Nat.le_of_ble_eq_true rfl) ⟨Nat.zero_le _, Nat.zero_le _⟩ ?_
                  exact ret _ _ _ _ ⟨rfl, _, rfl, by intro g h2 h6; simp [upG, up3, up3R, h2, h6]⟩ rfl dX5_copy_105
            · skip
              exact absurd h3 c_68
          · skip
            have c_49 := bI_1 c_49
            exact absurd c_49 h2
      · skip
        have c_11 := bI_0 c_11
        exact absurd (in3 (by decide)) c_11
  · skip
    refine J_iload_n E dX5_copy_0 rfl 1 rfl ?_
    refine J_cSiN E (As := [.int (nI 3)]) (c_X5_isSheet l G (nI 3) ) cl_X5_202 yo_X5_isSheet dX5_copy_1 rfl (Nat.le_of_ble_eq_true rfl) (Nat.le_of_ble_eq_true rfl) rfl (Nat.le_of_ble_eq_true rfl) ⟨Nat.zero_le _, Nat.zero_le _⟩ ?_
    refine J_if_eq E (tgt := 14) dX5_copy_4 (by decide) (fun c_4 => ?_) (fun c_4 => ?_)
    · skip
      have c_4 := bI_0 c_4
      exact absurd (in3 (by decide)) c_4
    · skip
      have c_4 := bI_1 c_4
      refine J_iload_n E dX5_copy_7 rfl 3 rfl ?_
      refine J_cSiN E (As := [.int (nI 1)]) (c_X5_isSheet l G (nI 1) ) cl_X5_202 yo_X5_isSheet dX5_copy_8 rfl (Nat.le_of_ble_eq_true rfl) (Nat.le_of_ble_eq_true rfl) rfl (Nat.le_of_ble_eq_true rfl) ⟨Nat.zero_le _, Nat.zero_le _⟩ ?_
      refine J_if_ne E (tgt := 20) dX5_copy_11 (by decide) (fun c_11 => ?_) (fun c_11 => ?_)
      · skip
        have c_11 := bI_1 c_11
        refine J_aload_n E dX5_copy_20 rfl 0 rfl ?_
        refine gC0_X5_44 E dX5_copy_21 ?_
        refine J_iload_n E dX5_copy_24 rfl 1 rfl ?_
        refine laC_30_3 E dX5_copy_25 ?_
        refine J_astore E (lv' := [(6, .ref (a 37)), (0, .ref (a 0)), (1, .int (nI 3)), (2, .int f), (3, .int (nI 1)), (4, .int o), (5, .int n)]) dX5_copy_26 (by decide) rfl ?_
        refine J_aload_n E dX5_copy_28 rfl 1 rfl ?_
        refine gC0_X5_44 E dX5_copy_29 ?_
        refine J_iload_n E dX5_copy_32 rfl 4 rfl ?_
        refine laC_30_1 E dX5_copy_33 ?_
        refine J_astore E (lv' := [(7, .ref (a 33)), (6, .ref (a 37)), (0, .ref (a 0)), (1, .int (nI 3)), (2, .int f), (3, .int (nI 1)), (4, .int o), (5, .int n)]) dX5_copy_34 (by decide) rfl ?_
        refine J_aload E dX5_copy_36 1 rfl ?_
        refine J_si11r E (As := []) (c_X2_isMissing l G (sh a 37) (x 11) ) cl_X5_212 yo_X2_isMissing dX5_copy_38 rfl (Nat.le_of_ble_eq_true rfl) (Nat.le_of_ble_eq_true rfl) rfl (Nat.le_of_ble_eq_true rfl) ⟨Nat.zero_le _, Nat.zero_le _⟩ ?_
        refine J_if_ne E (tgt := 52) dX5_copy_41 (by decide) (fun c_41 => ?_) (fun c_41 => ?_)
        · skip
          have c_41 := bI_1 c_41
          exact absurd c_41 h1
        · skip
          have c_41 := bI_0 c_41
          refine J_aload E dX5_copy_44 0 rfl ?_
          refine J_si9r E (As := []) (c_X2_isMissing l G (sh a 33) (x 9) ) cl_X5_212 yo_X2_isMissing dX5_copy_46 rfl (Nat.le_of_ble_eq_true rfl) (Nat.le_of_ble_eq_true rfl) rfl (Nat.le_of_ble_eq_true rfl) ⟨Nat.zero_le _, Nat.zero_le _⟩ ?_
          refine J_if_eq E (tgt := 58) dX5_copy_49 (by decide) (fun c_49 => ?_) (fun c_49 => ?_)
          · skip
            have c_49 := bI_0 c_49
            refine J_aload E dX5_copy_58 1 rfl ?_
            refine gC37_X5_215 E dX5_copy_60 ?_
            refine J_aload E dX5_copy_63 0 rfl ?_
            refine gC33_X5_215 E dX5_copy_65 ?_
            refine J_icmp_eq E (tgt := 77) dX5_copy_68 (by decide) (fun c_68 => ?_) (fun c_68 => ?_)
            · skip
              refine J_aload E dX5_copy_77 1 rfl ?_
              refine J_iload_n E dX5_copy_79 rfl 4 rfl ?_
              refine J_iload E dX5_copy_80 7 rfl ?_
              refine J_si11r E (As := [.int f, .int n]) (c_X2_hasRun l G (sh a 37) (x 11) f n ) cl_X5_218 yo_X2_hasRun dX5_copy_82 rfl (Nat.le_of_ble_eq_true rfl) (Nat.le_of_ble_eq_true rfl) rfl (Nat.le_of_ble_eq_true rfl) ⟨Nat.zero_le _, Nat.zero_le _⟩ ?_
              refine J_if_eq E (tgt := 100) dX5_copy_85 (by decide) (fun c_85 => ?_) (fun c_85 => ?_)
              · skip
                have c_85 := bI_0 c_85
                refine J_aload_n E dX5_copy_100 rfl 2 rfl ?_
                refine J_iconst E dX5_copy_101 ic_0 ?_
                refine J_cVi0 E (As := [.int 0]) (c_X5_tell l G a x 0 (by omega)) cl_X5_64 yo_X5_tell dX5_copy_102 rfl rfl rfl (Nat.le_of_ble_eq_true rfl) (Nat.le_of_ble_eq_true rfl) rfl (Nat.le_of_ble_eq_true rfl) ⟨Nat.zero_le _, Nat.zero_le _⟩ ?_
                exact ret _ _ _ _ ⟨rfl, _, rfl, by intro g h2 h6; simp [upG, up3, up3R, h2, h6]⟩ rfl dX5_copy_105
              · skip
                have c_85 := bI_1 c_85
                refine J_aload E dX5_copy_88 0 rfl ?_
                refine J_iload E dX5_copy_90 6 rfl ?_
                refine J_iload E dX5_copy_92 7 rfl ?_
                refine J_si9r E (As := [.int o, .int n]) (c_X2_hasRun l G (sh a 33) (x 9) o n ) cl_X5_218 yo_X2_hasRun dX5_copy_94 rfl (Nat.le_of_ble_eq_true rfl) (Nat.le_of_ble_eq_true rfl) rfl (Nat.le_of_ble_eq_true rfl) ⟨Nat.zero_le _, Nat.zero_le _⟩ ?_
                refine J_if_ne E (tgt := 106) dX5_copy_97 (by decide) (fun c_97 => ?_) (fun c_97 => ?_)
                · skip
                  have c_97 := bI_1 c_97
                  exact absurd ⟨c_85, c_97⟩ hb
                · skip
                  have c_97 := bI_0 c_97
                  refine J_aload_n E dX5_copy_100 rfl 2 rfl ?_
                  refine J_iconst E dX5_copy_101 ic_0 ?_
                  refine J_cVi0 E (As := [.int 0]) (c_X5_tell l G a x 0 (by omega)) cl_X5_64 yo_X5_tell dX5_copy_102 rfl rfl rfl (Nat.le_of_ble_eq_true rfl) (Nat.le_of_ble_eq_true rfl) rfl (Nat.le_of_ble_eq_true rfl) ⟨Nat.zero_le _, Nat.zero_le _⟩ ?_
                  exact ret _ _ _ _ ⟨rfl, _, rfl, by intro g h2 h6; simp [upG, up3, up3R, h2, h6]⟩ rfl dX5_copy_105
            · skip
              exact absurd h3 c_68
          · skip
            have c_49 := bI_1 c_49
            exact absurd c_49 h2
      · skip
        have c_11 := bI_0 c_11
        exact absurd (in3 (by decide)) c_11
  · skip
    refine J_iload_n E dX5_copy_0 rfl 1 rfl ?_
    refine J_cSiN E (As := [.int (nI 3)]) (c_X5_isSheet l G (nI 3) ) cl_X5_202 yo_X5_isSheet dX5_copy_1 rfl (Nat.le_of_ble_eq_true rfl) (Nat.le_of_ble_eq_true rfl) rfl (Nat.le_of_ble_eq_true rfl) ⟨Nat.zero_le _, Nat.zero_le _⟩ ?_
    refine J_if_eq E (tgt := 14) dX5_copy_4 (by decide) (fun c_4 => ?_) (fun c_4 => ?_)
    · skip
      have c_4 := bI_0 c_4
      exact absurd (in3 (by decide)) c_4
    · skip
      have c_4 := bI_1 c_4
      refine J_iload_n E dX5_copy_7 rfl 3 rfl ?_
      refine J_cSiN E (As := [.int (nI 2)]) (c_X5_isSheet l G (nI 2) ) cl_X5_202 yo_X5_isSheet dX5_copy_8 rfl (Nat.le_of_ble_eq_true rfl) (Nat.le_of_ble_eq_true rfl) rfl (Nat.le_of_ble_eq_true rfl) ⟨Nat.zero_le _, Nat.zero_le _⟩ ?_
      refine J_if_ne E (tgt := 20) dX5_copy_11 (by decide) (fun c_11 => ?_) (fun c_11 => ?_)
      · skip
        have c_11 := bI_1 c_11
        refine J_aload_n E dX5_copy_20 rfl 0 rfl ?_
        refine gC0_X5_44 E dX5_copy_21 ?_
        refine J_iload_n E dX5_copy_24 rfl 1 rfl ?_
        refine laC_30_3 E dX5_copy_25 ?_
        refine J_astore E (lv' := [(6, .ref (a 37)), (0, .ref (a 0)), (1, .int (nI 3)), (2, .int f), (3, .int (nI 2)), (4, .int o), (5, .int n)]) dX5_copy_26 (by decide) rfl ?_
        refine J_aload_n E dX5_copy_28 rfl 1 rfl ?_
        refine gC0_X5_44 E dX5_copy_29 ?_
        refine J_iload_n E dX5_copy_32 rfl 4 rfl ?_
        refine laC_30_2 E dX5_copy_33 ?_
        refine J_astore E (lv' := [(7, .ref (a 35)), (6, .ref (a 37)), (0, .ref (a 0)), (1, .int (nI 3)), (2, .int f), (3, .int (nI 2)), (4, .int o), (5, .int n)]) dX5_copy_34 (by decide) rfl ?_
        refine J_aload E dX5_copy_36 1 rfl ?_
        refine J_si11r E (As := []) (c_X2_isMissing l G (sh a 37) (x 11) ) cl_X5_212 yo_X2_isMissing dX5_copy_38 rfl (Nat.le_of_ble_eq_true rfl) (Nat.le_of_ble_eq_true rfl) rfl (Nat.le_of_ble_eq_true rfl) ⟨Nat.zero_le _, Nat.zero_le _⟩ ?_
        refine J_if_ne E (tgt := 52) dX5_copy_41 (by decide) (fun c_41 => ?_) (fun c_41 => ?_)
        · skip
          have c_41 := bI_1 c_41
          exact absurd c_41 h1
        · skip
          have c_41 := bI_0 c_41
          refine J_aload E dX5_copy_44 0 rfl ?_
          refine J_si10r E (As := []) (c_X2_isMissing l G (sh a 35) (x 10) ) cl_X5_212 yo_X2_isMissing dX5_copy_46 rfl (Nat.le_of_ble_eq_true rfl) (Nat.le_of_ble_eq_true rfl) rfl (Nat.le_of_ble_eq_true rfl) ⟨Nat.zero_le _, Nat.zero_le _⟩ ?_
          refine J_if_eq E (tgt := 58) dX5_copy_49 (by decide) (fun c_49 => ?_) (fun c_49 => ?_)
          · skip
            have c_49 := bI_0 c_49
            refine J_aload E dX5_copy_58 1 rfl ?_
            refine gC37_X5_215 E dX5_copy_60 ?_
            refine J_aload E dX5_copy_63 0 rfl ?_
            refine gC35_X5_215 E dX5_copy_65 ?_
            refine J_icmp_eq E (tgt := 77) dX5_copy_68 (by decide) (fun c_68 => ?_) (fun c_68 => ?_)
            · skip
              refine J_aload E dX5_copy_77 1 rfl ?_
              refine J_iload_n E dX5_copy_79 rfl 4 rfl ?_
              refine J_iload E dX5_copy_80 7 rfl ?_
              refine J_si11r E (As := [.int f, .int n]) (c_X2_hasRun l G (sh a 37) (x 11) f n ) cl_X5_218 yo_X2_hasRun dX5_copy_82 rfl (Nat.le_of_ble_eq_true rfl) (Nat.le_of_ble_eq_true rfl) rfl (Nat.le_of_ble_eq_true rfl) ⟨Nat.zero_le _, Nat.zero_le _⟩ ?_
              refine J_if_eq E (tgt := 100) dX5_copy_85 (by decide) (fun c_85 => ?_) (fun c_85 => ?_)
              · skip
                have c_85 := bI_0 c_85
                refine J_aload_n E dX5_copy_100 rfl 2 rfl ?_
                refine J_iconst E dX5_copy_101 ic_0 ?_
                refine J_cVi0 E (As := [.int 0]) (c_X5_tell l G a x 0 (by omega)) cl_X5_64 yo_X5_tell dX5_copy_102 rfl rfl rfl (Nat.le_of_ble_eq_true rfl) (Nat.le_of_ble_eq_true rfl) rfl (Nat.le_of_ble_eq_true rfl) ⟨Nat.zero_le _, Nat.zero_le _⟩ ?_
                exact ret _ _ _ _ ⟨rfl, _, rfl, by intro g h2 h6; simp [upG, up3, up3R, h2, h6]⟩ rfl dX5_copy_105
              · skip
                have c_85 := bI_1 c_85
                refine J_aload E dX5_copy_88 0 rfl ?_
                refine J_iload E dX5_copy_90 6 rfl ?_
                refine J_iload E dX5_copy_92 7 rfl ?_
                refine J_si10r E (As := [.int o, .int n]) (c_X2_hasRun l G (sh a 35) (x 10) o n ) cl_X5_218 yo_X2_hasRun dX5_copy_94 rfl (Nat.le_of_ble_eq_true rfl) (Nat.le_of_ble_eq_true rfl) rfl (Nat.le_of_ble_eq_true rfl) ⟨Nat.zero_le _, Nat.zero_le _⟩ ?_
                refine J_if_ne E (tgt := 106) dX5_copy_97 (by decide) (fun c_97 => ?_) (fun c_97 => ?_)
                · skip
                  have c_97 := bI_1 c_97
                  exact absurd ⟨c_85, c_97⟩ hb
                · skip
                  have c_97 := bI_0 c_97
                  refine J_aload_n E dX5_copy_100 rfl 2 rfl ?_
                  refine J_iconst E dX5_copy_101 ic_0 ?_
                  refine J_cVi0 E (As := [.int 0]) (c_X5_tell l G a x 0 (by omega)) cl_X5_64 yo_X5_tell dX5_copy_102 rfl rfl rfl (Nat.le_of_ble_eq_true rfl) (Nat.le_of_ble_eq_true rfl) rfl (Nat.le_of_ble_eq_true rfl) ⟨Nat.zero_le _, Nat.zero_le _⟩ ?_
                  exact ret _ _ _ _ ⟨rfl, _, rfl, by intro g h2 h6; simp [upG, up3, up3R, h2, h6]⟩ rfl dX5_copy_105
            · skip
              exact absurd h3 c_68
          · skip
            have c_49 := bI_1 c_49
            exact absurd c_49 h2
      · skip
        have c_11 := bI_0 c_11
        exact absurd (in3 (by decide)) c_11
  · skip
    refine J_iload_n E dX5_copy_0 rfl 1 rfl ?_
    refine J_cSiN E (As := [.int (nI 3)]) (c_X5_isSheet l G (nI 3) ) cl_X5_202 yo_X5_isSheet dX5_copy_1 rfl (Nat.le_of_ble_eq_true rfl) (Nat.le_of_ble_eq_true rfl) rfl (Nat.le_of_ble_eq_true rfl) ⟨Nat.zero_le _, Nat.zero_le _⟩ ?_
    refine J_if_eq E (tgt := 14) dX5_copy_4 (by decide) (fun c_4 => ?_) (fun c_4 => ?_)
    · skip
      have c_4 := bI_0 c_4
      exact absurd (in3 (by decide)) c_4
    · skip
      have c_4 := bI_1 c_4
      refine J_iload_n E dX5_copy_7 rfl 3 rfl ?_
      refine J_cSiN E (As := [.int (nI 3)]) (c_X5_isSheet l G (nI 3) ) cl_X5_202 yo_X5_isSheet dX5_copy_8 rfl (Nat.le_of_ble_eq_true rfl) (Nat.le_of_ble_eq_true rfl) rfl (Nat.le_of_ble_eq_true rfl) ⟨Nat.zero_le _, Nat.zero_le _⟩ ?_
      refine J_if_ne E (tgt := 20) dX5_copy_11 (by decide) (fun c_11 => ?_) (fun c_11 => ?_)
      · skip
        have c_11 := bI_1 c_11
        refine J_aload_n E dX5_copy_20 rfl 0 rfl ?_
        refine gC0_X5_44 E dX5_copy_21 ?_
        refine J_iload_n E dX5_copy_24 rfl 1 rfl ?_
        refine laC_30_3 E dX5_copy_25 ?_
        refine J_astore E (lv' := [(6, .ref (a 37)), (0, .ref (a 0)), (1, .int (nI 3)), (2, .int f), (3, .int (nI 3)), (4, .int o), (5, .int n)]) dX5_copy_26 (by decide) rfl ?_
        refine J_aload_n E dX5_copy_28 rfl 1 rfl ?_
        refine gC0_X5_44 E dX5_copy_29 ?_
        refine J_iload_n E dX5_copy_32 rfl 4 rfl ?_
        refine laC_30_3 E dX5_copy_33 ?_
        refine J_astore E (lv' := [(7, .ref (a 37)), (6, .ref (a 37)), (0, .ref (a 0)), (1, .int (nI 3)), (2, .int f), (3, .int (nI 3)), (4, .int o), (5, .int n)]) dX5_copy_34 (by decide) rfl ?_
        refine J_aload E dX5_copy_36 1 rfl ?_
        refine J_si11r E (As := []) (c_X2_isMissing l G (sh a 37) (x 11) ) cl_X5_212 yo_X2_isMissing dX5_copy_38 rfl (Nat.le_of_ble_eq_true rfl) (Nat.le_of_ble_eq_true rfl) rfl (Nat.le_of_ble_eq_true rfl) ⟨Nat.zero_le _, Nat.zero_le _⟩ ?_
        refine J_if_ne E (tgt := 52) dX5_copy_41 (by decide) (fun c_41 => ?_) (fun c_41 => ?_)
        · skip
          have c_41 := bI_1 c_41
          exact absurd c_41 h1
        · skip
          have c_41 := bI_0 c_41
          refine J_aload E dX5_copy_44 0 rfl ?_
          refine J_si11r E (As := []) (c_X2_isMissing l G (sh a 37) (x 11) ) cl_X5_212 yo_X2_isMissing dX5_copy_46 rfl (Nat.le_of_ble_eq_true rfl) (Nat.le_of_ble_eq_true rfl) rfl (Nat.le_of_ble_eq_true rfl) ⟨Nat.zero_le _, Nat.zero_le _⟩ ?_
          refine J_if_eq E (tgt := 58) dX5_copy_49 (by decide) (fun c_49 => ?_) (fun c_49 => ?_)
          · skip
            have c_49 := bI_0 c_49
            refine J_aload E dX5_copy_58 1 rfl ?_
            refine gC37_X5_215 E dX5_copy_60 ?_
            refine J_aload E dX5_copy_63 0 rfl ?_
            refine gC37_X5_215 E dX5_copy_65 ?_
            refine J_icmp_eq E (tgt := 77) dX5_copy_68 (by decide) (fun c_68 => ?_) (fun c_68 => ?_)
            · skip
              refine J_aload E dX5_copy_77 1 rfl ?_
              refine J_iload_n E dX5_copy_79 rfl 4 rfl ?_
              refine J_iload E dX5_copy_80 7 rfl ?_
              refine J_si11r E (As := [.int f, .int n]) (c_X2_hasRun l G (sh a 37) (x 11) f n ) cl_X5_218 yo_X2_hasRun dX5_copy_82 rfl (Nat.le_of_ble_eq_true rfl) (Nat.le_of_ble_eq_true rfl) rfl (Nat.le_of_ble_eq_true rfl) ⟨Nat.zero_le _, Nat.zero_le _⟩ ?_
              refine J_if_eq E (tgt := 100) dX5_copy_85 (by decide) (fun c_85 => ?_) (fun c_85 => ?_)
              · skip
                have c_85 := bI_0 c_85
                refine J_aload_n E dX5_copy_100 rfl 2 rfl ?_
                refine J_iconst E dX5_copy_101 ic_0 ?_
                refine J_cVi0 E (As := [.int 0]) (c_X5_tell l G a x 0 (by omega)) cl_X5_64 yo_X5_tell dX5_copy_102 rfl rfl rfl (Nat.le_of_ble_eq_true rfl) (Nat.le_of_ble_eq_true rfl) rfl (Nat.le_of_ble_eq_true rfl) ⟨Nat.zero_le _, Nat.zero_le _⟩ ?_
                exact ret _ _ _ _ ⟨rfl, _, rfl, by intro g h2 h6; simp [upG, up3, up3R, h2, h6]⟩ rfl dX5_copy_105
              · skip
                have c_85 := bI_1 c_85
                refine J_aload E dX5_copy_88 0 rfl ?_
                refine J_iload E dX5_copy_90 6 rfl ?_
                refine J_iload E dX5_copy_92 7 rfl ?_
                refine J_si11r E (As := [.int o, .int n]) (c_X2_hasRun l G (sh a 37) (x 11) o n ) cl_X5_218 yo_X2_hasRun dX5_copy_94 rfl (Nat.le_of_ble_eq_true rfl) (Nat.le_of_ble_eq_true rfl) rfl (Nat.le_of_ble_eq_true rfl) ⟨Nat.zero_le _, Nat.zero_le _⟩ ?_
                refine J_if_ne E (tgt := 106) dX5_copy_97 (by decide) (fun c_97 => ?_) (fun c_97 => ?_)
                · skip
                  have c_97 := bI_1 c_97
                  exact absurd ⟨c_85, c_97⟩ hb
                · skip
                  have c_97 := bI_0 c_97
                  refine J_aload_n E dX5_copy_100 rfl 2 rfl ?_
                  refine J_iconst E dX5_copy_101 ic_0 ?_
                  refine J_cVi0 E (As := [.int 0]) (c_X5_tell l G a x 0 (by omega)) cl_X5_64 yo_X5_tell dX5_copy_102 rfl rfl rfl (Nat.le_of_ble_eq_true rfl) (Nat.le_of_ble_eq_true rfl) rfl (Nat.le_of_ble_eq_true rfl) ⟨Nat.zero_le _, Nat.zero_le _⟩ ?_
                  exact ret _ _ _ _ ⟨rfl, _, rfl, by intro g h2 h6; simp [upG, up3, up3R, h2, h6]⟩ rfl dX5_copy_105
            · skip
              exact absurd h3 c_68
          · skip
            have c_49 := bI_1 c_49
            exact absurd c_49 h2
      · skip
        have c_11 := bI_0 c_11
        exact absurd (in3 (by decide)) c_11

theorem runOK {sz : Int32} {f m n : Nat} (h : sz = nI n) (h2 : f + m ≤ n) (hn : n ≤ 40) : 0 ≤ nI f ∧ 0 ≤ nI m ∧ nI f ≤ sz ∧ nI m ≤ sz - nI f := by
  rw [h, pk_sub (by omega)]
  exact ⟨nI_pos' (by omega), nI_pos' (by omega), nI_le (by omega) (by omega), nI_le (by omega) (by omega)⟩

set_option maxHeartbeats 4000000 in
set_option maxRecDepth 20000 in
theorem c_X5_copy_ok (l : Launch) (G : GB) (a : Nat → Nat) (x : Q3) (i k f o m n1 n2 : Nat) (hi : i < 4) (hk : k < 4) (h1 : ¬ x (8 + i) 1 0 = 0) (h2 : ¬ x (8 + k) 1 0 = 0) (h3 : x (8 + i) 1 0 = x (8 + k) 1 0) (h5 : x (8 + i) 1 1 = nI n1) (h7 : x (8 + k) 1 1 = nI n2) (h4 : f + m ≤ n1) (h6 : o + m ≤ n2) (hn1 : n1 ≤ 40) (hn2 : n2 ≤ 40) : CI l yX5_copy cX5_copy 8 .int 2 41 G [.ref (a 0), .int (nI i), .int (nI f), .int (nI k), .int (nI o), .int (nI m)] (wC G a x) (fun vR w' => vR = nI m ∧ PubC G a (cpyQ x i f k o m) w') := by
  refine CI.mk (own := RX5) (by decide) rfl (Nat.le_of_ble_eq_true rfl) ?_
  intro X E ret
  show J X G 8 0 0 (wC G a x) [(0, .ref (a 0)), (1, .int (nI i)), (2, .int (nI f)), (3, .int (nI k)), (4, .int (nI o)), (5, .int (nI m))] 0 []
  rcases (show (i = 0 ∧ k = 0) ∨ (i = 0 ∧ k = 1) ∨ (i = 0 ∧ k = 2) ∨ (i = 0 ∧ k = 3) ∨ (i = 1 ∧ k = 0) ∨ (i = 1 ∧ k = 1) ∨ (i = 1 ∧ k = 2) ∨ (i = 1 ∧ k = 3) ∨ (i = 2 ∧ k = 0) ∨ (i = 2 ∧ k = 1) ∨ (i = 2 ∧ k = 2) ∨ (i = 2 ∧ k = 3) ∨ (i = 3 ∧ k = 0) ∨ (i = 3 ∧ k = 1) ∨ (i = 3 ∧ k = 2) ∨ (i = 3 ∧ k = 3) by omega) with ⟨rfl, rfl⟩ | ⟨rfl, rfl⟩ | ⟨rfl, rfl⟩ | ⟨rfl, rfl⟩ | ⟨rfl, rfl⟩ | ⟨rfl, rfl⟩ | ⟨rfl, rfl⟩ | ⟨rfl, rfl⟩ | ⟨rfl, rfl⟩ | ⟨rfl, rfl⟩ | ⟨rfl, rfl⟩ | ⟨rfl, rfl⟩ | ⟨rfl, rfl⟩ | ⟨rfl, rfl⟩ | ⟨rfl, rfl⟩ | ⟨rfl, rfl⟩
  · skip
    refine J_iload_n E dX5_copy_0 rfl 1 rfl ?_
    refine J_cSiN E (As := [.int (nI 0)]) (c_X5_isSheet l G (nI 0) ) cl_X5_202 yo_X5_isSheet dX5_copy_1 rfl (Nat.le_of_ble_eq_true rfl) (Nat.le_of_ble_eq_true rfl) rfl (Nat.le_of_ble_eq_true rfl) ⟨Nat.zero_le _, Nat.zero_le _⟩ ?_
    refine J_if_eq E (tgt := 14) dX5_copy_4 (by decide) (fun c_4 => ?_) (fun c_4 => ?_)
    · skip
      have c_4 := bI_0 c_4
      exact absurd (in3 (by decide)) c_4
    · skip
      have c_4 := bI_1 c_4
      refine J_iload_n E dX5_copy_7 rfl 3 rfl ?_
      refine J_cSiN E (As := [.int (nI 0)]) (c_X5_isSheet l G (nI 0) ) cl_X5_202 yo_X5_isSheet dX5_copy_8 rfl (Nat.le_of_ble_eq_true rfl) (Nat.le_of_ble_eq_true rfl) rfl (Nat.le_of_ble_eq_true rfl) ⟨Nat.zero_le _, Nat.zero_le _⟩ ?_
      refine J_if_ne E (tgt := 20) dX5_copy_11 (by decide) (fun c_11 => ?_) (fun c_11 => ?_)
      · skip
        have c_11 := bI_1 c_11
        refine J_aload_n E dX5_copy_20 rfl 0 rfl ?_
        refine gC0_X5_44 E dX5_copy_21 ?_
        refine J_iload_n E dX5_copy_24 rfl 1 rfl ?_
        refine laC_30_0 E dX5_copy_25 ?_
        refine J_astore E (lv' := [(6, .ref (a 31)), (0, .ref (a 0)), (1, .int (nI 0)), (2, .int (nI f)), (3, .int (nI 0)), (4, .int (nI o)), (5, .int (nI m))]) dX5_copy_26 (by decide) rfl ?_
        refine J_aload_n E dX5_copy_28 rfl 1 rfl ?_
        refine gC0_X5_44 E dX5_copy_29 ?_
        refine J_iload_n E dX5_copy_32 rfl 4 rfl ?_
        refine laC_30_0 E dX5_copy_33 ?_
        refine J_astore E (lv' := [(7, .ref (a 31)), (6, .ref (a 31)), (0, .ref (a 0)), (1, .int (nI 0)), (2, .int (nI f)), (3, .int (nI 0)), (4, .int (nI o)), (5, .int (nI m))]) dX5_copy_34 (by decide) rfl ?_
        refine J_aload E dX5_copy_36 1 rfl ?_
        refine J_si8r E (As := []) (c_X2_isMissing l G (sh a 31) (x 8) ) cl_X5_212 yo_X2_isMissing dX5_copy_38 rfl (Nat.le_of_ble_eq_true rfl) (Nat.le_of_ble_eq_true rfl) rfl (Nat.le_of_ble_eq_true rfl) ⟨Nat.zero_le _, Nat.zero_le _⟩ ?_
        refine J_if_ne E (tgt := 52) dX5_copy_41 (by decide) (fun c_41 => ?_) (fun c_41 => ?_)
        · skip
          have c_41 := bI_1 c_41
          exact absurd c_41 h1
        · skip
          have c_41 := bI_0 c_41
          refine J_aload E dX5_copy_44 0 rfl ?_
          refine J_si8r E (As := []) (c_X2_isMissing l G (sh a 31) (x 8) ) cl_X5_212 yo_X2_isMissing dX5_copy_46 rfl (Nat.le_of_ble_eq_true rfl) (Nat.le_of_ble_eq_true rfl) rfl (Nat.le_of_ble_eq_true rfl) ⟨Nat.zero_le _, Nat.zero_le _⟩ ?_
          refine J_if_eq E (tgt := 58) dX5_copy_49 (by decide) (fun c_49 => ?_) (fun c_49 => ?_)
          · skip
            have c_49 := bI_0 c_49
            refine J_aload E dX5_copy_58 1 rfl ?_
            refine gC31_X5_215 E dX5_copy_60 ?_
            refine J_aload E dX5_copy_63 0 rfl ?_
            refine gC31_X5_215 E dX5_copy_65 ?_
            refine J_icmp_eq E (tgt := 77) dX5_copy_68 (by decide) (fun c_68 => ?_) (fun c_68 => ?_)
            · skip
              refine J_aload E dX5_copy_77 1 rfl ?_
              refine J_iload_n E dX5_copy_79 rfl 4 rfl ?_
              refine J_iload E dX5_copy_80 7 rfl ?_
              refine J_si8r E (As := [.int (nI f), .int (nI m)]) (c_X2_hasRun l G (sh a 31) (x 8) (nI f) (nI m) ) cl_X5_218 yo_X2_hasRun dX5_copy_82 rfl (Nat.le_of_ble_eq_true rfl) (Nat.le_of_ble_eq_true rfl) rfl (Nat.le_of_ble_eq_true rfl) ⟨Nat.zero_le _, Nat.zero_le _⟩ ?_
              refine J_if_eq E (tgt := 100) dX5_copy_85 (by decide) (fun c_85 => ?_) (fun c_85 => ?_)
              · skip
                have c_85 := bI_0 c_85
                exact absurd (runOK h5 h4 (by omega)) c_85
              · skip
                have c_85 := bI_1 c_85
                refine J_aload E dX5_copy_88 0 rfl ?_
                refine J_iload E dX5_copy_90 6 rfl ?_
                refine J_iload E dX5_copy_92 7 rfl ?_
                refine J_si8r E (As := [.int (nI o), .int (nI m)]) (c_X2_hasRun l G (sh a 31) (x 8) (nI o) (nI m) ) cl_X5_218 yo_X2_hasRun dX5_copy_94 rfl (Nat.le_of_ble_eq_true rfl) (Nat.le_of_ble_eq_true rfl) rfl (Nat.le_of_ble_eq_true rfl) ⟨Nat.zero_le _, Nat.zero_le _⟩ ?_
                refine J_if_ne E (tgt := 106) dX5_copy_97 (by decide) (fun c_97 => ?_) (fun c_97 => ?_)
                · skip
                  have c_97 := bI_1 c_97
                  refine J_aload E dX5_copy_106 1 rfl ?_
                  refine gC31_X5_221 E dX5_copy_108 ?_
                  refine J_iload_n E dX5_copy_111 rfl 4 rfl ?_
                  refine J_aload E dX5_copy_112 0 rfl ?_
                  refine gC31_X5_221 E dX5_copy_114 ?_
                  refine J_iload E dX5_copy_117 6 rfl ?_
                  refine J_iload E dX5_copy_119 7 rfl ?_
                  refine J_copyi E 32 32 ml_X5_133 na_acopy st_acopy ini_J10 dX5_copy_121 rfl rfl (nI_pos (by omega)) (nI_pos (by omega)) (nI_pos (by omega)) (by rw [nI_clamp (by omega), nI_clamp (by omega)]; omega) (by rw [nI_clamp (by omega), nI_clamp (by omega)]; omega) (by decide) (Nat.le_of_ble_eq_true rfl) ?_
                  refine J_w (ws' := wC G a (up3R x 8 0 (va_cpy (x 8 0) (x 8 0) f o m))) (by rw [nI_clamp (n := f) (by omega), nI_clamp (n := o) (by omega), nI_clamp (n := m) (by omega)]; rfl) ?_
                  refine J_iload E dX5_copy_124 7 rfl ?_
                  exact ret _ _ _ _ ⟨rfl, _, rfl, exact ShC.rfl'⟩ rfl dX5_copy_126
                · skip
                  have c_97 := bI_0 c_97
                  exact absurd (runOK h7 h6 (by omega)) c_97
            · skip
              exact absurd h3 c_68
          · skip
            have c_49 := bI_1 c_49
            exact absurd c_49 h2
      · skip
        have c_11 := bI_0 c_11
        exact absurd (in3 (by decide)) c_11
  · skip
    refine J_iload_n E dX5_copy_0 rfl 1 rfl ?_
    refine J_cSiN E (As := [.int (nI 0)]) (c_X5_isSheet l G (nI 0) ) cl_X5_202 yo_X5_isSheet dX5_copy_1 rfl (Nat.le_of_ble_eq_true rfl) (Nat.le_of_ble_eq_true rfl) rfl (Nat.le_of_ble_eq_true rfl) ⟨Nat.zero_le _, Nat.zero_le _⟩ ?_
    refine J_if_eq E (tgt := 14) dX5_copy_4 (by decide) (fun c_4 => ?_) (fun c_4 => ?_)
    · skip
      have c_4 := bI_0 c_4
      exact absurd (in3 (by decide)) c_4
    · skip
      have c_4 := bI_1 c_4
      refine J_iload_n E dX5_copy_7 rfl 3 rfl ?_
      refine J_cSiN E (As := [.int (nI 1)]) (c_X5_isSheet l G (nI 1) ) cl_X5_202 yo_X5_isSheet dX5_copy_8 rfl (Nat.le_of_ble_eq_true rfl) (Nat.le_of_ble_eq_true rfl) rfl (Nat.le_of_ble_eq_true rfl) ⟨Nat.zero_le _, Nat.zero_le _⟩ ?_
      refine J_if_ne E (tgt := 20) dX5_copy_11 (by decide) (fun c_11 => ?_) (fun c_11 => ?_)
      · skip
        have c_11 := bI_1 c_11
        refine J_aload_n E dX5_copy_20 rfl 0 rfl ?_
        refine gC0_X5_44 E dX5_copy_21 ?_
        refine J_iload_n E dX5_copy_24 rfl 1 rfl ?_
        refine laC_30_0 E dX5_copy_25 ?_
        refine J_astore E (lv' := [(6, .ref (a 31)), (0, .ref (a 0)), (1, .int (nI 0)), (2, .int (nI f)), (3, .int (nI 1)), (4, .int (nI o)), (5, .int (nI m))]) dX5_copy_26 (by decide) rfl ?_
        refine J_aload_n E dX5_copy_28 rfl 1 rfl ?_
        refine gC0_X5_44 E dX5_copy_29 ?_
        refine J_iload_n E dX5_copy_32 rfl 4 rfl ?_
        refine laC_30_1 E dX5_copy_33 ?_
        refine J_astore E (lv' := [(7, .ref (a 33)), (6, .ref (a 31)), (0, .ref (a 0)), (1, .int (nI 0)), (2, .int (nI f)), (3, .int (nI 1)), (4, .int (nI o)), (5, .int (nI m))]) dX5_copy_34 (by decide) rfl ?_
        refine J_aload E dX5_copy_36 1 rfl ?_
        refine J_si8r E (As := []) (c_X2_isMissing l G (sh a 31) (x 8) ) cl_X5_212 yo_X2_isMissing dX5_copy_38 rfl (Nat.le_of_ble_eq_true rfl) (Nat.le_of_ble_eq_true rfl) rfl (Nat.le_of_ble_eq_true rfl) ⟨Nat.zero_le _, Nat.zero_le _⟩ ?_
        refine J_if_ne E (tgt := 52) dX5_copy_41 (by decide) (fun c_41 => ?_) (fun c_41 => ?_)
        · skip
          have c_41 := bI_1 c_41
          exact absurd c_41 h1
        · skip
          have c_41 := bI_0 c_41
          refine J_aload E dX5_copy_44 0 rfl ?_
          refine J_si9r E (As := []) (c_X2_isMissing l G (sh a 33) (x 9) ) cl_X5_212 yo_X2_isMissing dX5_copy_46 rfl (Nat.le_of_ble_eq_true rfl) (Nat.le_of_ble_eq_true rfl) rfl (Nat.le_of_ble_eq_true rfl) ⟨Nat.zero_le _, Nat.zero_le _⟩ ?_
          refine J_if_eq E (tgt := 58) dX5_copy_49 (by decide) (fun c_49 => ?_) (fun c_49 => ?_)
          · skip
            have c_49 := bI_0 c_49
            refine J_aload E dX5_copy_58 1 rfl ?_
            refine gC31_X5_215 E dX5_copy_60 ?_
            refine J_aload E dX5_copy_63 0 rfl ?_
            refine gC33_X5_215 E dX5_copy_65 ?_
            refine J_icmp_eq E (tgt := 77) dX5_copy_68 (by decide) (fun c_68 => ?_) (fun c_68 => ?_)
            · skip
              refine J_aload E dX5_copy_77 1 rfl ?_
              refine J_iload_n E dX5_copy_79 rfl 4 rfl ?_
              refine J_iload E dX5_copy_80 7 rfl ?_
              refine J_si8r E (As := [.int (nI f), .int (nI m)]) (c_X2_hasRun l G (sh a 31) (x 8) (nI f) (nI m) ) cl_X5_218 yo_X2_hasRun dX5_copy_82 rfl (Nat.le_of_ble_eq_true rfl) (Nat.le_of_ble_eq_true rfl) rfl (Nat.le_of_ble_eq_true rfl) ⟨Nat.zero_le _, Nat.zero_le _⟩ ?_
              refine J_if_eq E (tgt := 100) dX5_copy_85 (by decide) (fun c_85 => ?_) (fun c_85 => ?_)
              · skip
                have c_85 := bI_0 c_85
                exact absurd (runOK h5 h4 (by omega)) c_85
              · skip
                have c_85 := bI_1 c_85
                refine J_aload E dX5_copy_88 0 rfl ?_
                refine J_iload E dX5_copy_90 6 rfl ?_
                refine J_iload E dX5_copy_92 7 rfl ?_
                refine J_si9r E (As := [.int (nI o), .int (nI m)]) (c_X2_hasRun l G (sh a 33) (x 9) (nI o) (nI m) ) cl_X5_218 yo_X2_hasRun dX5_copy_94 rfl (Nat.le_of_ble_eq_true rfl) (Nat.le_of_ble_eq_true rfl) rfl (Nat.le_of_ble_eq_true rfl) ⟨Nat.zero_le _, Nat.zero_le _⟩ ?_
                refine J_if_ne E (tgt := 106) dX5_copy_97 (by decide) (fun c_97 => ?_) (fun c_97 => ?_)
                · skip
                  have c_97 := bI_1 c_97
                  refine J_aload E dX5_copy_106 1 rfl ?_
                  refine gC31_X5_221 E dX5_copy_108 ?_
                  refine J_iload_n E dX5_copy_111 rfl 4 rfl ?_
                  refine J_aload E dX5_copy_112 0 rfl ?_
                  refine gC33_X5_221 E dX5_copy_114 ?_
                  refine J_iload E dX5_copy_117 6 rfl ?_
                  refine J_iload E dX5_copy_119 7 rfl ?_
                  refine J_copyi E 32 34 ml_X5_133 na_acopy st_acopy ini_J10 dX5_copy_121 rfl rfl (nI_pos (by omega)) (nI_pos (by omega)) (nI_pos (by omega)) (by rw [nI_clamp (by omega), nI_clamp (by omega)]; omega) (by rw [nI_clamp (by omega), nI_clamp (by omega)]; omega) (by decide) (Nat.le_of_ble_eq_true rfl) ?_
                  refine J_w (ws' := wC G a (up3R x 9 0 (va_cpy (x 8 0) (x 9 0) f o m))) (by rw [nI_clamp (n := f) (by omega), nI_clamp (n := o) (by omega), nI_clamp (n := m) (by omega)]; rfl) ?_
                  refine J_iload E dX5_copy_124 7 rfl ?_
                  exact ret _ _ _ _ ⟨rfl, _, rfl, exact ShC.rfl'⟩ rfl dX5_copy_126
                · skip
                  have c_97 := bI_0 c_97
                  exact absurd (runOK h7 h6 (by omega)) c_97
            · skip
              exact absurd h3 c_68
          · skip
            have c_49 := bI_1 c_49
            exact absurd c_49 h2
      · skip
        have c_11 := bI_0 c_11
        exact absurd (in3 (by decide)) c_11
  · skip
    refine J_iload_n E dX5_copy_0 rfl 1 rfl ?_
    refine J_cSiN E (As := [.int (nI 0)]) (c_X5_isSheet l G (nI 0) ) cl_X5_202 yo_X5_isSheet dX5_copy_1 rfl (Nat.le_of_ble_eq_true rfl) (Nat.le_of_ble_eq_true rfl) rfl (Nat.le_of_ble_eq_true rfl) ⟨Nat.zero_le _, Nat.zero_le _⟩ ?_
    refine J_if_eq E (tgt := 14) dX5_copy_4 (by decide) (fun c_4 => ?_) (fun c_4 => ?_)
    · skip
      have c_4 := bI_0 c_4
      exact absurd (in3 (by decide)) c_4
    · skip
      have c_4 := bI_1 c_4
      refine J_iload_n E dX5_copy_7 rfl 3 rfl ?_
      refine J_cSiN E (As := [.int (nI 2)]) (c_X5_isSheet l G (nI 2) ) cl_X5_202 yo_X5_isSheet dX5_copy_8 rfl (Nat.le_of_ble_eq_true rfl) (Nat.le_of_ble_eq_true rfl) rfl (Nat.le_of_ble_eq_true rfl) ⟨Nat.zero_le _, Nat.zero_le _⟩ ?_
      refine J_if_ne E (tgt := 20) dX5_copy_11 (by decide) (fun c_11 => ?_) (fun c_11 => ?_)
      · skip
        have c_11 := bI_1 c_11
        refine J_aload_n E dX5_copy_20 rfl 0 rfl ?_
        refine gC0_X5_44 E dX5_copy_21 ?_
        refine J_iload_n E dX5_copy_24 rfl 1 rfl ?_
        refine laC_30_0 E dX5_copy_25 ?_
        refine J_astore E (lv' := [(6, .ref (a 31)), (0, .ref (a 0)), (1, .int (nI 0)), (2, .int (nI f)), (3, .int (nI 2)), (4, .int (nI o)), (5, .int (nI m))]) dX5_copy_26 (by decide) rfl ?_
        refine J_aload_n E dX5_copy_28 rfl 1 rfl ?_
        refine gC0_X5_44 E dX5_copy_29 ?_
        refine J_iload_n E dX5_copy_32 rfl 4 rfl ?_
        refine laC_30_2 E dX5_copy_33 ?_
        refine J_astore E (lv' := [(7, .ref (a 35)), (6, .ref (a 31)), (0, .ref (a 0)), (1, .int (nI 0)), (2, .int (nI f)), (3, .int (nI 2)), (4, .int (nI o)), (5, .int (nI m))]) dX5_copy_34 (by decide) rfl ?_
        refine J_aload E dX5_copy_36 1 rfl ?_
        refine J_si8r E (As := []) (c_X2_isMissing l G (sh a 31) (x 8) ) cl_X5_212 yo_X2_isMissing dX5_copy_38 rfl (Nat.le_of_ble_eq_true rfl) (Nat.le_of_ble_eq_true rfl) rfl (Nat.le_of_ble_eq_true rfl) ⟨Nat.zero_le _, Nat.zero_le _⟩ ?_
        refine J_if_ne E (tgt := 52) dX5_copy_41 (by decide) (fun c_41 => ?_) (fun c_41 => ?_)
        · skip
          have c_41 := bI_1 c_41
          exact absurd c_41 h1
        · skip
          have c_41 := bI_0 c_41
          refine J_aload E dX5_copy_44 0 rfl ?_
          refine J_si10r E (As := []) (c_X2_isMissing l G (sh a 35) (x 10) ) cl_X5_212 yo_X2_isMissing dX5_copy_46 rfl (Nat.le_of_ble_eq_true rfl) (Nat.le_of_ble_eq_true rfl) rfl (Nat.le_of_ble_eq_true rfl) ⟨Nat.zero_le _, Nat.zero_le _⟩ ?_
          refine J_if_eq E (tgt := 58) dX5_copy_49 (by decide) (fun c_49 => ?_) (fun c_49 => ?_)
          · skip
            have c_49 := bI_0 c_49
            refine J_aload E dX5_copy_58 1 rfl ?_
            refine gC31_X5_215 E dX5_copy_60 ?_
            refine J_aload E dX5_copy_63 0 rfl ?_
            refine gC35_X5_215 E dX5_copy_65 ?_
            refine J_icmp_eq E (tgt := 77) dX5_copy_68 (by decide) (fun c_68 => ?_) (fun c_68 => ?_)
            · skip
              refine J_aload E dX5_copy_77 1 rfl ?_
              refine J_iload_n E dX5_copy_79 rfl 4 rfl ?_
              refine J_iload E dX5_copy_80 7 rfl ?_
              refine J_si8r E (As := [.int (nI f), .int (nI m)]) (c_X2_hasRun l G (sh a 31) (x 8) (nI f) (nI m) ) cl_X5_218 yo_X2_hasRun dX5_copy_82 rfl (Nat.le_of_ble_eq_true rfl) (Nat.le_of_ble_eq_true rfl) rfl (Nat.le_of_ble_eq_true rfl) ⟨Nat.zero_le _, Nat.zero_le _⟩ ?_
              refine J_if_eq E (tgt := 100) dX5_copy_85 (by decide) (fun c_85 => ?_) (fun c_85 => ?_)
              · skip
                have c_85 := bI_0 c_85
                exact absurd (runOK h5 h4 (by omega)) c_85
              · skip
                have c_85 := bI_1 c_85
                refine J_aload E dX5_copy_88 0 rfl ?_
                refine J_iload E dX5_copy_90 6 rfl ?_
                refine J_iload E dX5_copy_92 7 rfl ?_
                refine J_si10r E (As := [.int (nI o), .int (nI m)]) (c_X2_hasRun l G (sh a 35) (x 10) (nI o) (nI m) ) cl_X5_218 yo_X2_hasRun dX5_copy_94 rfl (Nat.le_of_ble_eq_true rfl) (Nat.le_of_ble_eq_true rfl) rfl (Nat.le_of_ble_eq_true rfl) ⟨Nat.zero_le _, Nat.zero_le _⟩ ?_
                refine J_if_ne E (tgt := 106) dX5_copy_97 (by decide) (fun c_97 => ?_) (fun c_97 => ?_)
                · skip
                  have c_97 := bI_1 c_97
                  refine J_aload E dX5_copy_106 1 rfl ?_
                  refine gC31_X5_221 E dX5_copy_108 ?_
                  refine J_iload_n E dX5_copy_111 rfl 4 rfl ?_
                  refine J_aload E dX5_copy_112 0 rfl ?_
                  refine gC35_X5_221 E dX5_copy_114 ?_
                  refine J_iload E dX5_copy_117 6 rfl ?_
                  refine J_iload E dX5_copy_119 7 rfl ?_
                  refine J_copyi E 32 36 ml_X5_133 na_acopy st_acopy ini_J10 dX5_copy_121 rfl rfl (nI_pos (by omega)) (nI_pos (by omega)) (nI_pos (by omega)) (by rw [nI_clamp (by omega), nI_clamp (by omega)]; omega) (by rw [nI_clamp (by omega), nI_clamp (by omega)]; omega) (by decide) (Nat.le_of_ble_eq_true rfl) ?_
                  refine J_w (ws' := wC G a (up3R x 10 0 (va_cpy (x 8 0) (x 10 0) f o m))) (by rw [nI_clamp (n := f) (by omega), nI_clamp (n := o) (by omega), nI_clamp (n := m) (by omega)]; rfl) ?_
                  refine J_iload E dX5_copy_124 7 rfl ?_
                  exact ret _ _ _ _ ⟨rfl, _, rfl, exact ShC.rfl'⟩ rfl dX5_copy_126
                · skip
                  have c_97 := bI_0 c_97
                  exact absurd (runOK h7 h6 (by omega)) c_97
            · skip
              exact absurd h3 c_68
          · skip
            have c_49 := bI_1 c_49
            exact absurd c_49 h2
      · skip
        have c_11 := bI_0 c_11
        exact absurd (in3 (by decide)) c_11
  · skip
    refine J_iload_n E dX5_copy_0 rfl 1 rfl ?_
    refine J_cSiN E (As := [.int (nI 0)]) (c_X5_isSheet l G (nI 0) ) cl_X5_202 yo_X5_isSheet dX5_copy_1 rfl (Nat.le_of_ble_eq_true rfl) (Nat.le_of_ble_eq_true rfl) rfl (Nat.le_of_ble_eq_true rfl) ⟨Nat.zero_le _, Nat.zero_le _⟩ ?_
    refine J_if_eq E (tgt := 14) dX5_copy_4 (by decide) (fun c_4 => ?_) (fun c_4 => ?_)
    · skip
      have c_4 := bI_0 c_4
      exact absurd (in3 (by decide)) c_4
    · skip
      have c_4 := bI_1 c_4
      refine J_iload_n E dX5_copy_7 rfl 3 rfl ?_
      refine J_cSiN E (As := [.int (nI 3)]) (c_X5_isSheet l G (nI 3) ) cl_X5_202 yo_X5_isSheet dX5_copy_8 rfl (Nat.le_of_ble_eq_true rfl) (Nat.le_of_ble_eq_true rfl) rfl (Nat.le_of_ble_eq_true rfl) ⟨Nat.zero_le _, Nat.zero_le _⟩ ?_
      refine J_if_ne E (tgt := 20) dX5_copy_11 (by decide) (fun c_11 => ?_) (fun c_11 => ?_)
      · skip
        have c_11 := bI_1 c_11
        refine J_aload_n E dX5_copy_20 rfl 0 rfl ?_
        refine gC0_X5_44 E dX5_copy_21 ?_
        refine J_iload_n E dX5_copy_24 rfl 1 rfl ?_
        refine laC_30_0 E dX5_copy_25 ?_
        refine J_astore E (lv' := [(6, .ref (a 31)), (0, .ref (a 0)), (1, .int (nI 0)), (2, .int (nI f)), (3, .int (nI 3)), (4, .int (nI o)), (5, .int (nI m))]) dX5_copy_26 (by decide) rfl ?_
        refine J_aload_n E dX5_copy_28 rfl 1 rfl ?_
        refine gC0_X5_44 E dX5_copy_29 ?_
        refine J_iload_n E dX5_copy_32 rfl 4 rfl ?_
        refine laC_30_3 E dX5_copy_33 ?_
        refine J_astore E (lv' := [(7, .ref (a 37)), (6, .ref (a 31)), (0, .ref (a 0)), (1, .int (nI 0)), (2, .int (nI f)), (3, .int (nI 3)), (4, .int (nI o)), (5, .int (nI m))]) dX5_copy_34 (by decide) rfl ?_
        refine J_aload E dX5_copy_36 1 rfl ?_
        refine J_si8r E (As := []) (c_X2_isMissing l G (sh a 31) (x 8) ) cl_X5_212 yo_X2_isMissing dX5_copy_38 rfl (Nat.le_of_ble_eq_true rfl) (Nat.le_of_ble_eq_true rfl) rfl (Nat.le_of_ble_eq_true rfl) ⟨Nat.zero_le _, Nat.zero_le _⟩ ?_
        refine J_if_ne E (tgt := 52) dX5_copy_41 (by decide) (fun c_41 => ?_) (fun c_41 => ?_)
        · skip
          have c_41 := bI_1 c_41
          exact absurd c_41 h1
        · skip
          have c_41 := bI_0 c_41
          refine J_aload E dX5_copy_44 0 rfl ?_
          refine J_si11r E (As := []) (c_X2_isMissing l G (sh a 37) (x 11) ) cl_X5_212 yo_X2_isMissing dX5_copy_46 rfl (Nat.le_of_ble_eq_true rfl) (Nat.le_of_ble_eq_true rfl) rfl (Nat.le_of_ble_eq_true rfl) ⟨Nat.zero_le _, Nat.zero_le _⟩ ?_
          refine J_if_eq E (tgt := 58) dX5_copy_49 (by decide) (fun c_49 => ?_) (fun c_49 => ?_)
          · skip
            have c_49 := bI_0 c_49
            refine J_aload E dX5_copy_58 1 rfl ?_
            refine gC31_X5_215 E dX5_copy_60 ?_
            refine J_aload E dX5_copy_63 0 rfl ?_
            refine gC37_X5_215 E dX5_copy_65 ?_
            refine J_icmp_eq E (tgt := 77) dX5_copy_68 (by decide) (fun c_68 => ?_) (fun c_68 => ?_)
            · skip
              refine J_aload E dX5_copy_77 1 rfl ?_
              refine J_iload_n E dX5_copy_79 rfl 4 rfl ?_
              refine J_iload E dX5_copy_80 7 rfl ?_
              refine J_si8r E (As := [.int (nI f), .int (nI m)]) (c_X2_hasRun l G (sh a 31) (x 8) (nI f) (nI m) ) cl_X5_218 yo_X2_hasRun dX5_copy_82 rfl (Nat.le_of_ble_eq_true rfl) (Nat.le_of_ble_eq_true rfl) rfl (Nat.le_of_ble_eq_true rfl) ⟨Nat.zero_le _, Nat.zero_le _⟩ ?_
              refine J_if_eq E (tgt := 100) dX5_copy_85 (by decide) (fun c_85 => ?_) (fun c_85 => ?_)
              · skip
                have c_85 := bI_0 c_85
                exact absurd (runOK h5 h4 (by omega)) c_85
              · skip
                have c_85 := bI_1 c_85
                refine J_aload E dX5_copy_88 0 rfl ?_
                refine J_iload E dX5_copy_90 6 rfl ?_
                refine J_iload E dX5_copy_92 7 rfl ?_
                refine J_si11r E (As := [.int (nI o), .int (nI m)]) (c_X2_hasRun l G (sh a 37) (x 11) (nI o) (nI m) ) cl_X5_218 yo_X2_hasRun dX5_copy_94 rfl (Nat.le_of_ble_eq_true rfl) (Nat.le_of_ble_eq_true rfl) rfl (Nat.le_of_ble_eq_true rfl) ⟨Nat.zero_le _, Nat.zero_le _⟩ ?_
                refine J_if_ne E (tgt := 106) dX5_copy_97 (by decide) (fun c_97 => ?_) (fun c_97 => ?_)
                · skip
                  have c_97 := bI_1 c_97
                  refine J_aload E dX5_copy_106 1 rfl ?_
                  refine gC31_X5_221 E dX5_copy_108 ?_
                  refine J_iload_n E dX5_copy_111 rfl 4 rfl ?_
                  refine J_aload E dX5_copy_112 0 rfl ?_
                  refine gC37_X5_221 E dX5_copy_114 ?_
                  refine J_iload E dX5_copy_117 6 rfl ?_
                  refine J_iload E dX5_copy_119 7 rfl ?_
                  refine J_copyi E 32 38 ml_X5_133 na_acopy st_acopy ini_J10 dX5_copy_121 rfl rfl (nI_pos (by omega)) (nI_pos (by omega)) (nI_pos (by omega)) (by rw [nI_clamp (by omega), nI_clamp (by omega)]; omega) (by rw [nI_clamp (by omega), nI_clamp (by omega)]; omega) (by decide) (Nat.le_of_ble_eq_true rfl) ?_
                  refine J_w (ws' := wC G a (up3R x 11 0 (va_cpy (x 8 0) (x 11 0) f o m))) (by rw [nI_clamp (n := f) (by omega), nI_clamp (n := o) (by omega), nI_clamp (n := m) (by omega)]; rfl) ?_
                  refine J_iload E dX5_copy_124 7 rfl ?_
                  exact ret _ _ _ _ ⟨rfl, _, rfl, exact ShC.rfl'⟩ rfl dX5_copy_126
                · skip
                  have c_97 := bI_0 c_97
                  exact absurd (runOK h7 h6 (by omega)) c_97
            · skip
              exact absurd h3 c_68
          · skip
            have c_49 := bI_1 c_49
            exact absurd c_49 h2
      · skip
        have c_11 := bI_0 c_11
        exact absurd (in3 (by decide)) c_11
  · skip
    refine J_iload_n E dX5_copy_0 rfl 1 rfl ?_
    refine J_cSiN E (As := [.int (nI 1)]) (c_X5_isSheet l G (nI 1) ) cl_X5_202 yo_X5_isSheet dX5_copy_1 rfl (Nat.le_of_ble_eq_true rfl) (Nat.le_of_ble_eq_true rfl) rfl (Nat.le_of_ble_eq_true rfl) ⟨Nat.zero_le _, Nat.zero_le _⟩ ?_
    refine J_if_eq E (tgt := 14) dX5_copy_4 (by decide) (fun c_4 => ?_) (fun c_4 => ?_)
    · skip
      have c_4 := bI_0 c_4
      exact absurd (in3 (by decide)) c_4
    · skip
      have c_4 := bI_1 c_4
      refine J_iload_n E dX5_copy_7 rfl 3 rfl ?_
      refine J_cSiN E (As := [.int (nI 0)]) (c_X5_isSheet l G (nI 0) ) cl_X5_202 yo_X5_isSheet dX5_copy_8 rfl (Nat.le_of_ble_eq_true rfl) (Nat.le_of_ble_eq_true rfl) rfl (Nat.le_of_ble_eq_true rfl) ⟨Nat.zero_le _, Nat.zero_le _⟩ ?_
      refine J_if_ne E (tgt := 20) dX5_copy_11 (by decide) (fun c_11 => ?_) (fun c_11 => ?_)
      · skip
        have c_11 := bI_1 c_11
        refine J_aload_n E dX5_copy_20 rfl 0 rfl ?_
        refine gC0_X5_44 E dX5_copy_21 ?_
        refine J_iload_n E dX5_copy_24 rfl 1 rfl ?_
        refine laC_30_1 E dX5_copy_25 ?_
        refine J_astore E (lv' := [(6, .ref (a 33)), (0, .ref (a 0)), (1, .int (nI 1)), (2, .int (nI f)), (3, .int (nI 0)), (4, .int (nI o)), (5, .int (nI m))]) dX5_copy_26 (by decide) rfl ?_
        refine J_aload_n E dX5_copy_28 rfl 1 rfl ?_
        refine gC0_X5_44 E dX5_copy_29 ?_
        refine J_iload_n E dX5_copy_32 rfl 4 rfl ?_
        refine laC_30_0 E dX5_copy_33 ?_
        refine J_astore E (lv' := [(7, .ref (a 31)), (6, .ref (a 33)), (0, .ref (a 0)), (1, .int (nI 1)), (2, .int (nI f)), (3, .int (nI 0)), (4, .int (nI o)), (5, .int (nI m))]) dX5_copy_34 (by decide) rfl ?_
        refine J_aload E dX5_copy_36 1 rfl ?_
        refine J_si9r E (As := []) (c_X2_isMissing l G (sh a 33) (x 9) ) cl_X5_212 yo_X2_isMissing dX5_copy_38 rfl (Nat.le_of_ble_eq_true rfl) (Nat.le_of_ble_eq_true rfl) rfl (Nat.le_of_ble_eq_true rfl) ⟨Nat.zero_le _, Nat.zero_le _⟩ ?_
        refine J_if_ne E (tgt := 52) dX5_copy_41 (by decide) (fun c_41 => ?_) (fun c_41 => ?_)
        · skip
          have c_41 := bI_1 c_41
          exact absurd c_41 h1
        · skip
          have c_41 := bI_0 c_41
          refine J_aload E dX5_copy_44 0 rfl ?_
          refine J_si8r E (As := []) (c_X2_isMissing l G (sh a 31) (x 8) ) cl_X5_212 yo_X2_isMissing dX5_copy_46 rfl (Nat.le_of_ble_eq_true rfl) (Nat.le_of_ble_eq_true rfl) rfl (Nat.le_of_ble_eq_true rfl) ⟨Nat.zero_le _, Nat.zero_le _⟩ ?_
          refine J_if_eq E (tgt := 58) dX5_copy_49 (by decide) (fun c_49 => ?_) (fun c_49 => ?_)
          · skip
            have c_49 := bI_0 c_49
            refine J_aload E dX5_copy_58 1 rfl ?_
            refine gC33_X5_215 E dX5_copy_60 ?_
            refine J_aload E dX5_copy_63 0 rfl ?_
            refine gC31_X5_215 E dX5_copy_65 ?_
            refine J_icmp_eq E (tgt := 77) dX5_copy_68 (by decide) (fun c_68 => ?_) (fun c_68 => ?_)
            · skip
              refine J_aload E dX5_copy_77 1 rfl ?_
              refine J_iload_n E dX5_copy_79 rfl 4 rfl ?_
              refine J_iload E dX5_copy_80 7 rfl ?_
              refine J_si9r E (As := [.int (nI f), .int (nI m)]) (c_X2_hasRun l G (sh a 33) (x 9) (nI f) (nI m) ) cl_X5_218 yo_X2_hasRun dX5_copy_82 rfl (Nat.le_of_ble_eq_true rfl) (Nat.le_of_ble_eq_true rfl) rfl (Nat.le_of_ble_eq_true rfl) ⟨Nat.zero_le _, Nat.zero_le _⟩ ?_
              refine J_if_eq E (tgt := 100) dX5_copy_85 (by decide) (fun c_85 => ?_) (fun c_85 => ?_)
              · skip
                have c_85 := bI_0 c_85
                exact absurd (runOK h5 h4 (by omega)) c_85
              · skip
                have c_85 := bI_1 c_85
                refine J_aload E dX5_copy_88 0 rfl ?_
                refine J_iload E dX5_copy_90 6 rfl ?_
                refine J_iload E dX5_copy_92 7 rfl ?_
                refine J_si8r E (As := [.int (nI o), .int (nI m)]) (c_X2_hasRun l G (sh a 31) (x 8) (nI o) (nI m) ) cl_X5_218 yo_X2_hasRun dX5_copy_94 rfl (Nat.le_of_ble_eq_true rfl) (Nat.le_of_ble_eq_true rfl) rfl (Nat.le_of_ble_eq_true rfl) ⟨Nat.zero_le _, Nat.zero_le _⟩ ?_
                refine J_if_ne E (tgt := 106) dX5_copy_97 (by decide) (fun c_97 => ?_) (fun c_97 => ?_)
                · skip
                  have c_97 := bI_1 c_97
                  refine J_aload E dX5_copy_106 1 rfl ?_
                  refine gC33_X5_221 E dX5_copy_108 ?_
                  refine J_iload_n E dX5_copy_111 rfl 4 rfl ?_
                  refine J_aload E dX5_copy_112 0 rfl ?_
                  refine gC31_X5_221 E dX5_copy_114 ?_
                  refine J_iload E dX5_copy_117 6 rfl ?_
                  refine J_iload E dX5_copy_119 7 rfl ?_
                  refine J_copyi E 34 32 ml_X5_133 na_acopy st_acopy ini_J10 dX5_copy_121 rfl rfl (nI_pos (by omega)) (nI_pos (by omega)) (nI_pos (by omega)) (by rw [nI_clamp (by omega), nI_clamp (by omega)]; omega) (by rw [nI_clamp (by omega), nI_clamp (by omega)]; omega) (by decide) (Nat.le_of_ble_eq_true rfl) ?_
                  refine J_w (ws' := wC G a (up3R x 8 0 (va_cpy (x 9 0) (x 8 0) f o m))) (by rw [nI_clamp (n := f) (by omega), nI_clamp (n := o) (by omega), nI_clamp (n := m) (by omega)]; rfl) ?_
                  refine J_iload E dX5_copy_124 7 rfl ?_
                  exact ret _ _ _ _ ⟨rfl, _, rfl, exact ShC.rfl'⟩ rfl dX5_copy_126
                · skip
                  have c_97 := bI_0 c_97
                  exact absurd (runOK h7 h6 (by omega)) c_97
            · skip
              exact absurd h3 c_68
          · skip
            have c_49 := bI_1 c_49
            exact absurd c_49 h2
      · skip
        have c_11 := bI_0 c_11
        exact absurd (in3 (by decide)) c_11
  · skip
    refine J_iload_n E dX5_copy_0 rfl 1 rfl ?_
    refine J_cSiN E (As := [.int (nI 1)]) (c_X5_isSheet l G (nI 1) ) cl_X5_202 yo_X5_isSheet dX5_copy_1 rfl (Nat.le_of_ble_eq_true rfl) (Nat.le_of_ble_eq_true rfl) rfl (Nat.le_of_ble_eq_true rfl) ⟨Nat.zero_le _, Nat.zero_le _⟩ ?_
    refine J_if_eq E (tgt := 14) dX5_copy_4 (by decide) (fun c_4 => ?_) (fun c_4 => ?_)
    · skip
      have c_4 := bI_0 c_4
      exact absurd (in3 (by decide)) c_4
    · skip
      have c_4 := bI_1 c_4
      refine J_iload_n E dX5_copy_7 rfl 3 rfl ?_
      refine J_cSiN E (As := [.int (nI 1)]) (c_X5_isSheet l G (nI 1) ) cl_X5_202 yo_X5_isSheet dX5_copy_8 rfl (Nat.le_of_ble_eq_true rfl) (Nat.le_of_ble_eq_true rfl) rfl (Nat.le_of_ble_eq_true rfl) ⟨Nat.zero_le _, Nat.zero_le _⟩ ?_
      refine J_if_ne E (tgt := 20) dX5_copy_11 (by decide) (fun c_11 => ?_) (fun c_11 => ?_)
      · skip
        have c_11 := bI_1 c_11
        refine J_aload_n E dX5_copy_20 rfl 0 rfl ?_
        refine gC0_X5_44 E dX5_copy_21 ?_
        refine J_iload_n E dX5_copy_24 rfl 1 rfl ?_
        refine laC_30_1 E dX5_copy_25 ?_
        refine J_astore E (lv' := [(6, .ref (a 33)), (0, .ref (a 0)), (1, .int (nI 1)), (2, .int (nI f)), (3, .int (nI 1)), (4, .int (nI o)), (5, .int (nI m))]) dX5_copy_26 (by decide) rfl ?_
        refine J_aload_n E dX5_copy_28 rfl 1 rfl ?_
        refine gC0_X5_44 E dX5_copy_29 ?_
        refine J_iload_n E dX5_copy_32 rfl 4 rfl ?_
        refine laC_30_1 E dX5_copy_33 ?_
        refine J_astore E (lv' := [(7, .ref (a 33)), (6, .ref (a 33)), (0, .ref (a 0)), (1, .int (nI 1)), (2, .int (nI f)), (3, .int (nI 1)), (4, .int (nI o)), (5, .int (nI m))]) dX5_copy_34 (by decide) rfl ?_
        refine J_aload E dX5_copy_36 1 rfl ?_
        refine J_si9r E (As := []) (c_X2_isMissing l G (sh a 33) (x 9) ) cl_X5_212 yo_X2_isMissing dX5_copy_38 rfl (Nat.le_of_ble_eq_true rfl) (Nat.le_of_ble_eq_true rfl) rfl (Nat.le_of_ble_eq_true rfl) ⟨Nat.zero_le _, Nat.zero_le _⟩ ?_
        refine J_if_ne E (tgt := 52) dX5_copy_41 (by decide) (fun c_41 => ?_) (fun c_41 => ?_)
        · skip
          have c_41 := bI_1 c_41
          exact absurd c_41 h1
        · skip
          have c_41 := bI_0 c_41
          refine J_aload E dX5_copy_44 0 rfl ?_
          refine J_si9r E (As := []) (c_X2_isMissing l G (sh a 33) (x 9) ) cl_X5_212 yo_X2_isMissing dX5_copy_46 rfl (Nat.le_of_ble_eq_true rfl) (Nat.le_of_ble_eq_true rfl) rfl (Nat.le_of_ble_eq_true rfl) ⟨Nat.zero_le _, Nat.zero_le _⟩ ?_
          refine J_if_eq E (tgt := 58) dX5_copy_49 (by decide) (fun c_49 => ?_) (fun c_49 => ?_)
          · skip
            have c_49 := bI_0 c_49
            refine J_aload E dX5_copy_58 1 rfl ?_
            refine gC33_X5_215 E dX5_copy_60 ?_
            refine J_aload E dX5_copy_63 0 rfl ?_
            refine gC33_X5_215 E dX5_copy_65 ?_
            refine J_icmp_eq E (tgt := 77) dX5_copy_68 (by decide) (fun c_68 => ?_) (fun c_68 => ?_)
            · skip
              refine J_aload E dX5_copy_77 1 rfl ?_
              refine J_iload_n E dX5_copy_79 rfl 4 rfl ?_
              refine J_iload E dX5_copy_80 7 rfl ?_
              refine J_si9r E (As := [.int (nI f), .int (nI m)]) (c_X2_hasRun l G (sh a 33) (x 9) (nI f) (nI m) ) cl_X5_218 yo_X2_hasRun dX5_copy_82 rfl (Nat.le_of_ble_eq_true rfl) (Nat.le_of_ble_eq_true rfl) rfl (Nat.le_of_ble_eq_true rfl) ⟨Nat.zero_le _, Nat.zero_le _⟩ ?_
              refine J_if_eq E (tgt := 100) dX5_copy_85 (by decide) (fun c_85 => ?_) (fun c_85 => ?_)
              · skip
                have c_85 := bI_0 c_85
                exact absurd (runOK h5 h4 (by omega)) c_85
              · skip
                have c_85 := bI_1 c_85
                refine J_aload E dX5_copy_88 0 rfl ?_
                refine J_iload E dX5_copy_90 6 rfl ?_
                refine J_iload E dX5_copy_92 7 rfl ?_
                refine J_si9r E (As := [.int (nI o), .int (nI m)]) (c_X2_hasRun l G (sh a 33) (x 9) (nI o) (nI m) ) cl_X5_218 yo_X2_hasRun dX5_copy_94 rfl (Nat.le_of_ble_eq_true rfl) (Nat.le_of_ble_eq_true rfl) rfl (Nat.le_of_ble_eq_true rfl) ⟨Nat.zero_le _, Nat.zero_le _⟩ ?_
                refine J_if_ne E (tgt := 106) dX5_copy_97 (by decide) (fun c_97 => ?_) (fun c_97 => ?_)
                · skip
                  have c_97 := bI_1 c_97
                  refine J_aload E dX5_copy_106 1 rfl ?_
                  refine gC33_X5_221 E dX5_copy_108 ?_
                  refine J_iload_n E dX5_copy_111 rfl 4 rfl ?_
                  refine J_aload E dX5_copy_112 0 rfl ?_
                  refine gC33_X5_221 E dX5_copy_114 ?_
                  refine J_iload E dX5_copy_117 6 rfl ?_
                  refine J_iload E dX5_copy_119 7 rfl ?_
                  refine J_copyi E 34 34 ml_X5_133 na_acopy st_acopy ini_J10 dX5_copy_121 rfl rfl (nI_pos (by omega)) (nI_pos (by omega)) (nI_pos (by omega)) (by rw [nI_clamp (by omega), nI_clamp (by omega)]; omega) (by rw [nI_clamp (by omega), nI_clamp (by omega)]; omega) (by decide) (Nat.le_of_ble_eq_true rfl) ?_
                  refine J_w (ws' := wC G a (up3R x 9 0 (va_cpy (x 9 0) (x 9 0) f o m))) (by rw [nI_clamp (n := f) (by omega), nI_clamp (n := o) (by omega), nI_clamp (n := m) (by omega)]; rfl) ?_
                  refine J_iload E dX5_copy_124 7 rfl ?_
                  exact ret _ _ _ _ ⟨rfl, _, rfl, exact ShC.rfl'⟩ rfl dX5_copy_126
                · skip
                  have c_97 := bI_0 c_97
                  exact absurd (runOK h7 h6 (by omega)) c_97
            · skip
              exact absurd h3 c_68
          · skip
            have c_49 := bI_1 c_49
            exact absurd c_49 h2
      · skip
        have c_11 := bI_0 c_11
        exact absurd (in3 (by decide)) c_11
  · skip
    refine J_iload_n E dX5_copy_0 rfl 1 rfl ?_
    refine J_cSiN E (As := [.int (nI 1)]) (c_X5_isSheet l G (nI 1) ) cl_X5_202 yo_X5_isSheet dX5_copy_1 rfl (Nat.le_of_ble_eq_true rfl) (Nat.le_of_ble_eq_true rfl) rfl (Nat.le_of_ble_eq_true rfl) ⟨Nat.zero_le _, Nat.zero_le _⟩ ?_
    refine J_if_eq E (tgt := 14) dX5_copy_4 (by decide) (fun c_4 => ?_) (fun c_4 => ?_)
    · skip
      have c_4 := bI_0 c_4
      exact absurd (in3 (by decide)) c_4
    · skip
      have c_4 := bI_1 c_4
      refine J_iload_n E dX5_copy_7 rfl 3 rfl ?_
      refine J_cSiN E (As := [.int (nI 2)]) (c_X5_isSheet l G (nI 2) ) cl_X5_202 yo_X5_isSheet dX5_copy_8 rfl (Nat.le_of_ble_eq_true rfl) (Nat.le_of_ble_eq_true rfl) rfl (Nat.le_of_ble_eq_true rfl) ⟨Nat.zero_le _, Nat.zero_le _⟩ ?_
      refine J_if_ne E (tgt := 20) dX5_copy_11 (by decide) (fun c_11 => ?_) (fun c_11 => ?_)
      · skip
        have c_11 := bI_1 c_11
        refine J_aload_n E dX5_copy_20 rfl 0 rfl ?_
        refine gC0_X5_44 E dX5_copy_21 ?_
        refine J_iload_n E dX5_copy_24 rfl 1 rfl ?_
        refine laC_30_1 E dX5_copy_25 ?_
        refine J_astore E (lv' := [(6, .ref (a 33)), (0, .ref (a 0)), (1, .int (nI 1)), (2, .int (nI f)), (3, .int (nI 2)), (4, .int (nI o)), (5, .int (nI m))]) dX5_copy_26 (by decide) rfl ?_
        refine J_aload_n E dX5_copy_28 rfl 1 rfl ?_
        refine gC0_X5_44 E dX5_copy_29 ?_
        refine J_iload_n E dX5_copy_32 rfl 4 rfl ?_
        refine laC_30_2 E dX5_copy_33 ?_
        refine J_astore E (lv' := [(7, .ref (a 35)), (6, .ref (a 33)), (0, .ref (a 0)), (1, .int (nI 1)), (2, .int (nI f)), (3, .int (nI 2)), (4, .int (nI o)), (5, .int (nI m))]) dX5_copy_34 (by decide) rfl ?_
        refine J_aload E dX5_copy_36 1 rfl ?_
        refine J_si9r E (As := []) (c_X2_isMissing l G (sh a 33) (x 9) ) cl_X5_212 yo_X2_isMissing dX5_copy_38 rfl (Nat.le_of_ble_eq_true rfl) (Nat.le_of_ble_eq_true rfl) rfl (Nat.le_of_ble_eq_true rfl) ⟨Nat.zero_le _, Nat.zero_le _⟩ ?_
        refine J_if_ne E (tgt := 52) dX5_copy_41 (by decide) (fun c_41 => ?_) (fun c_41 => ?_)
        · skip
          have c_41 := bI_1 c_41
          exact absurd c_41 h1
        · skip
          have c_41 := bI_0 c_41
          refine J_aload E dX5_copy_44 0 rfl ?_
          refine J_si10r E (As := []) (c_X2_isMissing l G (sh a 35) (x 10) ) cl_X5_212 yo_X2_isMissing dX5_copy_46 rfl (Nat.le_of_ble_eq_true rfl) (Nat.le_of_ble_eq_true rfl) rfl (Nat.le_of_ble_eq_true rfl) ⟨Nat.zero_le _, Nat.zero_le _⟩ ?_
          refine J_if_eq E (tgt := 58) dX5_copy_49 (by decide) (fun c_49 => ?_) (fun c_49 => ?_)
          · skip
            have c_49 := bI_0 c_49
            refine J_aload E dX5_copy_58 1 rfl ?_
            refine gC33_X5_215 E dX5_copy_60 ?_
            refine J_aload E dX5_copy_63 0 rfl ?_
            refine gC35_X5_215 E dX5_copy_65 ?_
            refine J_icmp_eq E (tgt := 77) dX5_copy_68 (by decide) (fun c_68 => ?_) (fun c_68 => ?_)
            · skip
              refine J_aload E dX5_copy_77 1 rfl ?_
              refine J_iload_n E dX5_copy_79 rfl 4 rfl ?_
              refine J_iload E dX5_copy_80 7 rfl ?_
              refine J_si9r E (As := [.int (nI f), .int (nI m)]) (c_X2_hasRun l G (sh a 33) (x 9) (nI f) (nI m) ) cl_X5_218 yo_X2_hasRun dX5_copy_82 rfl (Nat.le_of_ble_eq_true rfl) (Nat.le_of_ble_eq_true rfl) rfl (Nat.le_of_ble_eq_true rfl) ⟨Nat.zero_le _, Nat.zero_le _⟩ ?_
              refine J_if_eq E (tgt := 100) dX5_copy_85 (by decide) (fun c_85 => ?_) (fun c_85 => ?_)
              · skip
                have c_85 := bI_0 c_85
                exact absurd (runOK h5 h4 (by omega)) c_85
              · skip
                have c_85 := bI_1 c_85
                refine J_aload E dX5_copy_88 0 rfl ?_
                refine J_iload E dX5_copy_90 6 rfl ?_
                refine J_iload E dX5_copy_92 7 rfl ?_
                refine J_si10r E (As := [.int (nI o), .int (nI m)]) (c_X2_hasRun l G (sh a 35) (x 10) (nI o) (nI m) ) cl_X5_218 yo_X2_hasRun dX5_copy_94 rfl (Nat.le_of_ble_eq_true rfl) (Nat.le_of_ble_eq_true rfl) rfl (Nat.le_of_ble_eq_true rfl) ⟨Nat.zero_le _, Nat.zero_le _⟩ ?_
                refine J_if_ne E (tgt := 106) dX5_copy_97 (by decide) (fun c_97 => ?_) (fun c_97 => ?_)
                · skip
                  have c_97 := bI_1 c_97
                  refine J_aload E dX5_copy_106 1 rfl ?_
                  refine gC33_X5_221 E dX5_copy_108 ?_
                  refine J_iload_n E dX5_copy_111 rfl 4 rfl ?_
                  refine J_aload E dX5_copy_112 0 rfl ?_
                  refine gC35_X5_221 E dX5_copy_114 ?_
                  refine J_iload E dX5_copy_117 6 rfl ?_
                  refine J_iload E dX5_copy_119 7 rfl ?_
                  refine J_copyi E 34 36 ml_X5_133 na_acopy st_acopy ini_J10 dX5_copy_121 rfl rfl (nI_pos (by omega)) (nI_pos (by omega)) (nI_pos (by omega)) (by rw [nI_clamp (by omega), nI_clamp (by omega)]; omega) (by rw [nI_clamp (by omega), nI_clamp (by omega)]; omega) (by decide) (Nat.le_of_ble_eq_true rfl) ?_
                  refine J_w (ws' := wC G a (up3R x 10 0 (va_cpy (x 9 0) (x 10 0) f o m))) (by rw [nI_clamp (n := f) (by omega), nI_clamp (n := o) (by omega), nI_clamp (n := m) (by omega)]; rfl) ?_
                  refine J_iload E dX5_copy_124 7 rfl ?_
                  exact ret _ _ _ _ ⟨rfl, _, rfl, exact ShC.rfl'⟩ rfl dX5_copy_126
                · skip
                  have c_97 := bI_0 c_97
                  exact absurd (runOK h7 h6 (by omega)) c_97
            · skip
              exact absurd h3 c_68
          · skip
            have c_49 := bI_1 c_49
            exact absurd c_49 h2
      · skip
        have c_11 := bI_0 c_11
        exact absurd (in3 (by decide)) c_11
  · skip
    refine J_iload_n E dX5_copy_0 rfl 1 rfl ?_
    refine J_cSiN E (As := [.int (nI 1)]) (c_X5_isSheet l G (nI 1) ) cl_X5_202 yo_X5_isSheet dX5_copy_1 rfl (Nat.le_of_ble_eq_true rfl) (Nat.le_of_ble_eq_true rfl) rfl (Nat.le_of_ble_eq_true rfl) ⟨Nat.zero_le _, Nat.zero_le _⟩ ?_
    refine J_if_eq E (tgt := 14) dX5_copy_4 (by decide) (fun c_4 => ?_) (fun c_4 => ?_)
    · skip
      have c_4 := bI_0 c_4
      exact absurd (in3 (by decide)) c_4
    · skip
      have c_4 := bI_1 c_4
      refine J_iload_n E dX5_copy_7 rfl 3 rfl ?_
      refine J_cSiN E (As := [.int (nI 3)]) (c_X5_isSheet l G (nI 3) ) cl_X5_202 yo_X5_isSheet dX5_copy_8 rfl (Nat.le_of_ble_eq_true rfl) (Nat.le_of_ble_eq_true rfl) rfl (Nat.le_of_ble_eq_true rfl) ⟨Nat.zero_le _, Nat.zero_le _⟩ ?_
      refine J_if_ne E (tgt := 20) dX5_copy_11 (by decide) (fun c_11 => ?_) (fun c_11 => ?_)
      · skip
        have c_11 := bI_1 c_11
        refine J_aload_n E dX5_copy_20 rfl 0 rfl ?_
        refine gC0_X5_44 E dX5_copy_21 ?_
        refine J_iload_n E dX5_copy_24 rfl 1 rfl ?_
        refine laC_30_1 E dX5_copy_25 ?_
        refine J_astore E (lv' := [(6, .ref (a 33)), (0, .ref (a 0)), (1, .int (nI 1)), (2, .int (nI f)), (3, .int (nI 3)), (4, .int (nI o)), (5, .int (nI m))]) dX5_copy_26 (by decide) rfl ?_
        refine J_aload_n E dX5_copy_28 rfl 1 rfl ?_
        refine gC0_X5_44 E dX5_copy_29 ?_
        refine J_iload_n E dX5_copy_32 rfl 4 rfl ?_
        refine laC_30_3 E dX5_copy_33 ?_
        refine J_astore E (lv' := [(7, .ref (a 37)), (6, .ref (a 33)), (0, .ref (a 0)), (1, .int (nI 1)), (2, .int (nI f)), (3, .int (nI 3)), (4, .int (nI o)), (5, .int (nI m))]) dX5_copy_34 (by decide) rfl ?_
        refine J_aload E dX5_copy_36 1 rfl ?_
        refine J_si9r E (As := []) (c_X2_isMissing l G (sh a 33) (x 9) ) cl_X5_212 yo_X2_isMissing dX5_copy_38 rfl (Nat.le_of_ble_eq_true rfl) (Nat.le_of_ble_eq_true rfl) rfl (Nat.le_of_ble_eq_true rfl) ⟨Nat.zero_le _, Nat.zero_le _⟩ ?_
        refine J_if_ne E (tgt := 52) dX5_copy_41 (by decide) (fun c_41 => ?_) (fun c_41 => ?_)
        · skip
          have c_41 := bI_1 c_41
          exact absurd c_41 h1
        · skip
          have c_41 := bI_0 c_41
          refine J_aload E dX5_copy_44 0 rfl ?_
          refine J_si11r E (As := []) (c_X2_isMissing l G (sh a 37) (x 11) ) cl_X5_212 yo_X2_isMissing dX5_copy_46 rfl (Nat.le_of_ble_eq_true rfl) (Nat.le_of_ble_eq_true rfl) rfl (Nat.le_of_ble_eq_true rfl) ⟨Nat.zero_le _, Nat.zero_le _⟩ ?_
          refine J_if_eq E (tgt := 58) dX5_copy_49 (by decide) (fun c_49 => ?_) (fun c_49 => ?_)
          · skip
            have c_49 := bI_0 c_49
            refine J_aload E dX5_copy_58 1 rfl ?_
            refine gC33_X5_215 E dX5_copy_60 ?_
            refine J_aload E dX5_copy_63 0 rfl ?_
            refine gC37_X5_215 E dX5_copy_65 ?_
            refine J_icmp_eq E (tgt := 77) dX5_copy_68 (by decide) (fun c_68 => ?_) (fun c_68 => ?_)
            · skip
              refine J_aload E dX5_copy_77 1 rfl ?_
              refine J_iload_n E dX5_copy_79 rfl 4 rfl ?_
              refine J_iload E dX5_copy_80 7 rfl ?_
              refine J_si9r E (As := [.int (nI f), .int (nI m)]) (c_X2_hasRun l G (sh a 33) (x 9) (nI f) (nI m) ) cl_X5_218 yo_X2_hasRun dX5_copy_82 rfl (Nat.le_of_ble_eq_true rfl) (Nat.le_of_ble_eq_true rfl) rfl (Nat.le_of_ble_eq_true rfl) ⟨Nat.zero_le _, Nat.zero_le _⟩ ?_
              refine J_if_eq E (tgt := 100) dX5_copy_85 (by decide) (fun c_85 => ?_) (fun c_85 => ?_)
              · skip
                have c_85 := bI_0 c_85
                exact absurd (runOK h5 h4 (by omega)) c_85
              · skip
                have c_85 := bI_1 c_85
                refine J_aload E dX5_copy_88 0 rfl ?_
                refine J_iload E dX5_copy_90 6 rfl ?_
                refine J_iload E dX5_copy_92 7 rfl ?_
                refine J_si11r E (As := [.int (nI o), .int (nI m)]) (c_X2_hasRun l G (sh a 37) (x 11) (nI o) (nI m) ) cl_X5_218 yo_X2_hasRun dX5_copy_94 rfl (Nat.le_of_ble_eq_true rfl) (Nat.le_of_ble_eq_true rfl) rfl (Nat.le_of_ble_eq_true rfl) ⟨Nat.zero_le _, Nat.zero_le _⟩ ?_
                refine J_if_ne E (tgt := 106) dX5_copy_97 (by decide) (fun c_97 => ?_) (fun c_97 => ?_)
                · skip
                  have c_97 := bI_1 c_97
                  refine J_aload E dX5_copy_106 1 rfl ?_
                  refine gC33_X5_221 E dX5_copy_108 ?_
                  refine J_iload_n E dX5_copy_111 rfl 4 rfl ?_
                  refine J_aload E dX5_copy_112 0 rfl ?_
                  refine gC37_X5_221 E dX5_copy_114 ?_
                  refine J_iload E dX5_copy_117 6 rfl ?_
                  refine J_iload E dX5_copy_119 7 rfl ?_
                  refine J_copyi E 34 38 ml_X5_133 na_acopy st_acopy ini_J10 dX5_copy_121 rfl rfl (nI_pos (by omega)) (nI_pos (by omega)) (nI_pos (by omega)) (by rw [nI_clamp (by omega), nI_clamp (by omega)]; omega) (by rw [nI_clamp (by omega), nI_clamp (by omega)]; omega) (by decide) (Nat.le_of_ble_eq_true rfl) ?_
                  refine J_w (ws' := wC G a (up3R x 11 0 (va_cpy (x 9 0) (x 11 0) f o m))) (by rw [nI_clamp (n := f) (by omega), nI_clamp (n := o) (by omega), nI_clamp (n := m) (by omega)]; rfl) ?_
                  refine J_iload E dX5_copy_124 7 rfl ?_
                  exact ret _ _ _ _ ⟨rfl, _, rfl, exact ShC.rfl'⟩ rfl dX5_copy_126
                · skip
                  have c_97 := bI_0 c_97
                  exact absurd (runOK h7 h6 (by omega)) c_97
            · skip
              exact absurd h3 c_68
          · skip
            have c_49 := bI_1 c_49
            exact absurd c_49 h2
      · skip
        have c_11 := bI_0 c_11
        exact absurd (in3 (by decide)) c_11
  · skip
    refine J_iload_n E dX5_copy_0 rfl 1 rfl ?_
    refine J_cSiN E (As := [.int (nI 2)]) (c_X5_isSheet l G (nI 2) ) cl_X5_202 yo_X5_isSheet dX5_copy_1 rfl (Nat.le_of_ble_eq_true rfl) (Nat.le_of_ble_eq_true rfl) rfl (Nat.le_of_ble_eq_true rfl) ⟨Nat.zero_le _, Nat.zero_le _⟩ ?_
    refine J_if_eq E (tgt := 14) dX5_copy_4 (by decide) (fun c_4 => ?_) (fun c_4 => ?_)
    · skip
      have c_4 := bI_0 c_4
      exact absurd (in3 (by decide)) c_4
    · skip
      have c_4 := bI_1 c_4
      refine J_iload_n E dX5_copy_7 rfl 3 rfl ?_
      refine J_cSiN E (As := [.int (nI 0)]) (c_X5_isSheet l G (nI 0) ) cl_X5_202 yo_X5_isSheet dX5_copy_8 rfl (Nat.le_of_ble_eq_true rfl) (Nat.le_of_ble_eq_true rfl) rfl (Nat.le_of_ble_eq_true rfl) ⟨Nat.zero_le _, Nat.zero_le _⟩ ?_
      refine J_if_ne E (tgt := 20) dX5_copy_11 (by decide) (fun c_11 => ?_) (fun c_11 => ?_)
      · skip
        have c_11 := bI_1 c_11
        refine J_aload_n E dX5_copy_20 rfl 0 rfl ?_
        refine gC0_X5_44 E dX5_copy_21 ?_
        refine J_iload_n E dX5_copy_24 rfl 1 rfl ?_
        refine laC_30_2 E dX5_copy_25 ?_
        refine J_astore E (lv' := [(6, .ref (a 35)), (0, .ref (a 0)), (1, .int (nI 2)), (2, .int (nI f)), (3, .int (nI 0)), (4, .int (nI o)), (5, .int (nI m))]) dX5_copy_26 (by decide) rfl ?_
        refine J_aload_n E dX5_copy_28 rfl 1 rfl ?_
        refine gC0_X5_44 E dX5_copy_29 ?_
        refine J_iload_n E dX5_copy_32 rfl 4 rfl ?_
        refine laC_30_0 E dX5_copy_33 ?_
        refine J_astore E (lv' := [(7, .ref (a 31)), (6, .ref (a 35)), (0, .ref (a 0)), (1, .int (nI 2)), (2, .int (nI f)), (3, .int (nI 0)), (4, .int (nI o)), (5, .int (nI m))]) dX5_copy_34 (by decide) rfl ?_
        refine J_aload E dX5_copy_36 1 rfl ?_
        refine J_si10r E (As := []) (c_X2_isMissing l G (sh a 35) (x 10) ) cl_X5_212 yo_X2_isMissing dX5_copy_38 rfl (Nat.le_of_ble_eq_true rfl) (Nat.le_of_ble_eq_true rfl) rfl (Nat.le_of_ble_eq_true rfl) ⟨Nat.zero_le _, Nat.zero_le _⟩ ?_
        refine J_if_ne E (tgt := 52) dX5_copy_41 (by decide) (fun c_41 => ?_) (fun c_41 => ?_)
        · skip
          have c_41 := bI_1 c_41
          exact absurd c_41 h1
        · skip
          have c_41 := bI_0 c_41
          refine J_aload E dX5_copy_44 0 rfl ?_
          refine J_si8r E (As := []) (c_X2_isMissing l G (sh a 31) (x 8) ) cl_X5_212 yo_X2_isMissing dX5_copy_46 rfl (Nat.le_of_ble_eq_true rfl) (Nat.le_of_ble_eq_true rfl) rfl (Nat.le_of_ble_eq_true rfl) ⟨Nat.zero_le _, Nat.zero_le _⟩ ?_
          refine J_if_eq E (tgt := 58) dX5_copy_49 (by decide) (fun c_49 => ?_) (fun c_49 => ?_)
          · skip
            have c_49 := bI_0 c_49
            refine J_aload E dX5_copy_58 1 rfl ?_
            refine gC35_X5_215 E dX5_copy_60 ?_
            refine J_aload E dX5_copy_63 0 rfl ?_
            refine gC31_X5_215 E dX5_copy_65 ?_
            refine J_icmp_eq E (tgt := 77) dX5_copy_68 (by decide) (fun c_68 => ?_) (fun c_68 => ?_)
            · skip
              refine J_aload E dX5_copy_77 1 rfl ?_
              refine J_iload_n E dX5_copy_79 rfl 4 rfl ?_
              refine J_iload E dX5_copy_80 7 rfl ?_
              refine J_si10r E (As := [.int (nI f), .int (nI m)]) (c_X2_hasRun l G (sh a 35) (x 10) (nI f) (nI m) ) cl_X5_218 yo_X2_hasRun dX5_copy_82 rfl (Nat.le_of_ble_eq_true rfl) (Nat.le_of_ble_eq_true rfl) rfl (Nat.le_of_ble_eq_true rfl) ⟨Nat.zero_le _, Nat.zero_le _⟩ ?_
              refine J_if_eq E (tgt := 100) dX5_copy_85 (by decide) (fun c_85 => ?_) (fun c_85 => ?_)
              · skip
                have c_85 := bI_0 c_85
                exact absurd (runOK h5 h4 (by omega)) c_85
              · skip
                have c_85 := bI_1 c_85
                refine J_aload E dX5_copy_88 0 rfl ?_
                refine J_iload E dX5_copy_90 6 rfl ?_
                refine J_iload E dX5_copy_92 7 rfl ?_
                refine J_si8r E (As := [.int (nI o), .int (nI m)]) (c_X2_hasRun l G (sh a 31) (x 8) (nI o) (nI m) ) cl_X5_218 yo_X2_hasRun dX5_copy_94 rfl (Nat.le_of_ble_eq_true rfl) (Nat.le_of_ble_eq_true rfl) rfl (Nat.le_of_ble_eq_true rfl) ⟨Nat.zero_le _, Nat.zero_le _⟩ ?_
                refine J_if_ne E (tgt := 106) dX5_copy_97 (by decide) (fun c_97 => ?_) (fun c_97 => ?_)
                · skip
                  have c_97 := bI_1 c_97
                  refine J_aload E dX5_copy_106 1 rfl ?_
                  refine gC35_X5_221 E dX5_copy_108 ?_
                  refine J_iload_n E dX5_copy_111 rfl 4 rfl ?_
                  refine J_aload E dX5_copy_112 0 rfl ?_
                  refine gC31_X5_221 E dX5_copy_114 ?_
                  refine J_iload E dX5_copy_117 6 rfl ?_
                  refine J_iload E dX5_copy_119 7 rfl ?_
                  refine J_copyi E 36 32 ml_X5_133 na_acopy st_acopy ini_J10 dX5_copy_121 rfl rfl (nI_pos (by omega)) (nI_pos (by omega)) (nI_pos (by omega)) (by rw [nI_clamp (by omega), nI_clamp (by omega)]; omega) (by rw [nI_clamp (by omega), nI_clamp (by omega)]; omega) (by decide) (Nat.le_of_ble_eq_true rfl) ?_
                  refine J_w (ws' := wC G a (up3R x 8 0 (va_cpy (x 10 0) (x 8 0) f o m))) (by rw [nI_clamp (n := f) (by omega), nI_clamp (n := o) (by omega), nI_clamp (n := m) (by omega)]; rfl) ?_
                  refine J_iload E dX5_copy_124 7 rfl ?_
                  exact ret _ _ _ _ ⟨rfl, _, rfl, exact ShC.rfl'⟩ rfl dX5_copy_126
                · skip
                  have c_97 := bI_0 c_97
                  exact absurd (runOK h7 h6 (by omega)) c_97
            · skip
              exact absurd h3 c_68
          · skip
            have c_49 := bI_1 c_49
            exact absurd c_49 h2
      · skip
        have c_11 := bI_0 c_11
        exact absurd (in3 (by decide)) c_11
  · skip
    refine J_iload_n E dX5_copy_0 rfl 1 rfl ?_
    refine J_cSiN E (As := [.int (nI 2)]) (c_X5_isSheet l G (nI 2) ) cl_X5_202 yo_X5_isSheet dX5_copy_1 rfl (Nat.le_of_ble_eq_true rfl) (Nat.le_of_ble_eq_true rfl) rfl (Nat.le_of_ble_eq_true rfl) ⟨Nat.zero_le _, Nat.zero_le _⟩ ?_
    refine J_if_eq E (tgt := 14) dX5_copy_4 (by decide) (fun c_4 => ?_) (fun c_4 => ?_)
    · skip
      have c_4 := bI_0 c_4
      exact absurd (in3 (by decide)) c_4
    · skip
      have c_4 := bI_1 c_4
      refine J_iload_n E dX5_copy_7 rfl 3 rfl ?_
      refine J_cSiN E (As := [.int (nI 1)]) (c_X5_isSheet l G (nI 1) ) cl_X5_202 yo_X5_isSheet dX5_copy_8 rfl (Nat.le_of_ble_eq_true rfl) (Nat.le_of_ble_eq_true rfl) rfl (Nat.le_of_ble_eq_true rfl) ⟨Nat.zero_le _, Nat.zero_le _⟩ ?_
      refine J_if_ne E (tgt := 20) dX5_copy_11 (by decide) (fun c_11 => ?_) (fun c_11 => ?_)
      · skip
        have c_11 := bI_1 c_11
        refine J_aload_n E dX5_copy_20 rfl 0 rfl ?_
        refine gC0_X5_44 E dX5_copy_21 ?_
        refine J_iload_n E dX5_copy_24 rfl 1 rfl ?_
        refine laC_30_2 E dX5_copy_25 ?_
        refine J_astore E (lv' := [(6, .ref (a 35)), (0, .ref (a 0)), (1, .int (nI 2)), (2, .int (nI f)), (3, .int (nI 1)), (4, .int (nI o)), (5, .int (nI m))]) dX5_copy_26 (by decide) rfl ?_
        refine J_aload_n E dX5_copy_28 rfl 1 rfl ?_
        refine gC0_X5_44 E dX5_copy_29 ?_
        refine J_iload_n E dX5_copy_32 rfl 4 rfl ?_
        refine laC_30_1 E dX5_copy_33 ?_
        refine J_astore E (lv' := [(7, .ref (a 33)), (6, .ref (a 35)), (0, .ref (a 0)), (1, .int (nI 2)), (2, .int (nI f)), (3, .int (nI 1)), (4, .int (nI o)), (5, .int (nI m))]) dX5_copy_34 (by decide) rfl ?_
        refine J_aload E dX5_copy_36 1 rfl ?_
        refine J_si10r E (As := []) (c_X2_isMissing l G (sh a 35) (x 10) ) cl_X5_212 yo_X2_isMissing dX5_copy_38 rfl (Nat.le_of_ble_eq_true rfl) (Nat.le_of_ble_eq_true rfl) rfl (Nat.le_of_ble_eq_true rfl) ⟨Nat.zero_le _, Nat.zero_le _⟩ ?_
        refine J_if_ne E (tgt := 52) dX5_copy_41 (by decide) (fun c_41 => ?_) (fun c_41 => ?_)
        · skip
          have c_41 := bI_1 c_41
          exact absurd c_41 h1
        · skip
          have c_41 := bI_0 c_41
          refine J_aload E dX5_copy_44 0 rfl ?_
          refine J_si9r E (As := []) (c_X2_isMissing l G (sh a 33) (x 9) ) cl_X5_212 yo_X2_isMissing dX5_copy_46 rfl (Nat.le_of_ble_eq_true rfl) (Nat.le_of_ble_eq_true rfl) rfl (Nat.le_of_ble_eq_true rfl) ⟨Nat.zero_le _, Nat.zero_le _⟩ ?_
          refine J_if_eq E (tgt := 58) dX5_copy_49 (by decide) (fun c_49 => ?_) (fun c_49 => ?_)
          · skip
            have c_49 := bI_0 c_49
            refine J_aload E dX5_copy_58 1 rfl ?_
            refine gC35_X5_215 E dX5_copy_60 ?_
            refine J_aload E dX5_copy_63 0 rfl ?_
            refine gC33_X5_215 E dX5_copy_65 ?_
            refine J_icmp_eq E (tgt := 77) dX5_copy_68 (by decide) (fun c_68 => ?_) (fun c_68 => ?_)
            · skip
              refine J_aload E dX5_copy_77 1 rfl ?_
              refine J_iload_n E dX5_copy_79 rfl 4 rfl ?_
              refine J_iload E dX5_copy_80 7 rfl ?_
              refine J_si10r E (As := [.int (nI f), .int (nI m)]) (c_X2_hasRun l G (sh a 35) (x 10) (nI f) (nI m) ) cl_X5_218 yo_X2_hasRun dX5_copy_82 rfl (Nat.le_of_ble_eq_true rfl) (Nat.le_of_ble_eq_true rfl) rfl (Nat.le_of_ble_eq_true rfl) ⟨Nat.zero_le _, Nat.zero_le _⟩ ?_
              refine J_if_eq E (tgt := 100) dX5_copy_85 (by decide) (fun c_85 => ?_) (fun c_85 => ?_)
              · skip
                have c_85 := bI_0 c_85
                exact absurd (runOK h5 h4 (by omega)) c_85
              · skip
                have c_85 := bI_1 c_85
                refine J_aload E dX5_copy_88 0 rfl ?_
                refine J_iload E dX5_copy_90 6 rfl ?_
                refine J_iload E dX5_copy_92 7 rfl ?_
                refine J_si9r E (As := [.int (nI o), .int (nI m)]) (c_X2_hasRun l G (sh a 33) (x 9) (nI o) (nI m) ) cl_X5_218 yo_X2_hasRun dX5_copy_94 rfl (Nat.le_of_ble_eq_true rfl) (Nat.le_of_ble_eq_true rfl) rfl (Nat.le_of_ble_eq_true rfl) ⟨Nat.zero_le _, Nat.zero_le _⟩ ?_
                refine J_if_ne E (tgt := 106) dX5_copy_97 (by decide) (fun c_97 => ?_) (fun c_97 => ?_)
                · skip
                  have c_97 := bI_1 c_97
                  refine J_aload E dX5_copy_106 1 rfl ?_
                  refine gC35_X5_221 E dX5_copy_108 ?_
                  refine J_iload_n E dX5_copy_111 rfl 4 rfl ?_
                  refine J_aload E dX5_copy_112 0 rfl ?_
                  refine gC33_X5_221 E dX5_copy_114 ?_
                  refine J_iload E dX5_copy_117 6 rfl ?_
                  refine J_iload E dX5_copy_119 7 rfl ?_
                  refine J_copyi E 36 34 ml_X5_133 na_acopy st_acopy ini_J10 dX5_copy_121 rfl rfl (nI_pos (by omega)) (nI_pos (by omega)) (nI_pos (by omega)) (by rw [nI_clamp (by omega), nI_clamp (by omega)]; omega) (by rw [nI_clamp (by omega), nI_clamp (by omega)]; omega) (by decide) (Nat.le_of_ble_eq_true rfl) ?_
                  refine J_w (ws' := wC G a (up3R x 9 0 (va_cpy (x 10 0) (x 9 0) f o m))) (by rw [nI_clamp (n := f) (by omega), nI_clamp (n := o) (by omega), nI_clamp (n := m) (by omega)]; rfl) ?_
                  refine J_iload E dX5_copy_124 7 rfl ?_
                  exact ret _ _ _ _ ⟨rfl, _, rfl, exact ShC.rfl'⟩ rfl dX5_copy_126
                · skip
                  have c_97 := bI_0 c_97
                  exact absurd (runOK h7 h6 (by omega)) c_97
            · skip
              exact absurd h3 c_68
          · skip
            have c_49 := bI_1 c_49
            exact absurd c_49 h2
      · skip
        have c_11 := bI_0 c_11
        exact absurd (in3 (by decide)) c_11
  · skip
    refine J_iload_n E dX5_copy_0 rfl 1 rfl ?_
    refine J_cSiN E (As := [.int (nI 2)]) (c_X5_isSheet l G (nI 2) ) cl_X5_202 yo_X5_isSheet dX5_copy_1 rfl (Nat.le_of_ble_eq_true rfl) (Nat.le_of_ble_eq_true rfl) rfl (Nat.le_of_ble_eq_true rfl) ⟨Nat.zero_le _, Nat.zero_le _⟩ ?_
    refine J_if_eq E (tgt := 14) dX5_copy_4 (by decide) (fun c_4 => ?_) (fun c_4 => ?_)
    · skip
      have c_4 := bI_0 c_4
      exact absurd (in3 (by decide)) c_4
    · skip
      have c_4 := bI_1 c_4
      refine J_iload_n E dX5_copy_7 rfl 3 rfl ?_
      refine J_cSiN E (As := [.int (nI 2)]) (c_X5_isSheet l G (nI 2) ) cl_X5_202 yo_X5_isSheet dX5_copy_8 rfl (Nat.le_of_ble_eq_true rfl) (Nat.le_of_ble_eq_true rfl) rfl (Nat.le_of_ble_eq_true rfl) ⟨Nat.zero_le _, Nat.zero_le _⟩ ?_
      refine J_if_ne E (tgt := 20) dX5_copy_11 (by decide) (fun c_11 => ?_) (fun c_11 => ?_)
      · skip
        have c_11 := bI_1 c_11
        refine J_aload_n E dX5_copy_20 rfl 0 rfl ?_
        refine gC0_X5_44 E dX5_copy_21 ?_
        refine J_iload_n E dX5_copy_24 rfl 1 rfl ?_
        refine laC_30_2 E dX5_copy_25 ?_
        refine J_astore E (lv' := [(6, .ref (a 35)), (0, .ref (a 0)), (1, .int (nI 2)), (2, .int (nI f)), (3, .int (nI 2)), (4, .int (nI o)), (5, .int (nI m))]) dX5_copy_26 (by decide) rfl ?_
        refine J_aload_n E dX5_copy_28 rfl 1 rfl ?_
        refine gC0_X5_44 E dX5_copy_29 ?_
        refine J_iload_n E dX5_copy_32 rfl 4 rfl ?_
        refine laC_30_2 E dX5_copy_33 ?_
        refine J_astore E (lv' := [(7, .ref (a 35)), (6, .ref (a 35)), (0, .ref (a 0)), (1, .int (nI 2)), (2, .int (nI f)), (3, .int (nI 2)), (4, .int (nI o)), (5, .int (nI m))]) dX5_copy_34 (by decide) rfl ?_
        refine J_aload E dX5_copy_36 1 rfl ?_
        refine J_si10r E (As := []) (c_X2_isMissing l G (sh a 35) (x 10) ) cl_X5_212 yo_X2_isMissing dX5_copy_38 rfl (Nat.le_of_ble_eq_true rfl) (Nat.le_of_ble_eq_true rfl) rfl (Nat.le_of_ble_eq_true rfl) ⟨Nat.zero_le _, Nat.zero_le _⟩ ?_
        refine J_if_ne E (tgt := 52) dX5_copy_41 (by decide) (fun c_41 => ?_) (fun c_41 => ?_)
        · skip
          have c_41 := bI_1 c_41
          exact absurd c_41 h1
        · skip
          have c_41 := bI_0 c_41
          refine J_aload E dX5_copy_44 0 rfl ?_
          refine J_si10r E (As := []) (c_X2_isMissing l G (sh a 35) (x 10) ) cl_X5_212 yo_X2_isMissing dX5_copy_46 rfl (Nat.le_of_ble_eq_true rfl) (Nat.le_of_ble_eq_true rfl) rfl (Nat.le_of_ble_eq_true rfl) ⟨Nat.zero_le _, Nat.zero_le _⟩ ?_
          refine J_if_eq E (tgt := 58) dX5_copy_49 (by decide) (fun c_49 => ?_) (fun c_49 => ?_)
          · skip
            have c_49 := bI_0 c_49
            refine J_aload E dX5_copy_58 1 rfl ?_
            refine gC35_X5_215 E dX5_copy_60 ?_
            refine J_aload E dX5_copy_63 0 rfl ?_
            refine gC35_X5_215 E dX5_copy_65 ?_
            refine J_icmp_eq E (tgt := 77) dX5_copy_68 (by decide) (fun c_68 => ?_) (fun c_68 => ?_)
            · skip
              refine J_aload E dX5_copy_77 1 rfl ?_
              refine J_iload_n E dX5_copy_79 rfl 4 rfl ?_
              refine J_iload E dX5_copy_80 7 rfl ?_
              refine J_si10r E (As := [.int (nI f), .int (nI m)]) (c_X2_hasRun l G (sh a 35) (x 10) (nI f) (nI m) ) cl_X5_218 yo_X2_hasRun dX5_copy_82 rfl (Nat.le_of_ble_eq_true rfl) (Nat.le_of_ble_eq_true rfl) rfl (Nat.le_of_ble_eq_true rfl) ⟨Nat.zero_le _, Nat.zero_le _⟩ ?_
              refine J_if_eq E (tgt := 100) dX5_copy_85 (by decide) (fun c_85 => ?_) (fun c_85 => ?_)
              · skip
                have c_85 := bI_0 c_85
                exact absurd (runOK h5 h4 (by omega)) c_85
              · skip
                have c_85 := bI_1 c_85
                refine J_aload E dX5_copy_88 0 rfl ?_
                refine J_iload E dX5_copy_90 6 rfl ?_
                refine J_iload E dX5_copy_92 7 rfl ?_
                refine J_si10r E (As := [.int (nI o), .int (nI m)]) (c_X2_hasRun l G (sh a 35) (x 10) (nI o) (nI m) ) cl_X5_218 yo_X2_hasRun dX5_copy_94 rfl (Nat.le_of_ble_eq_true rfl) (Nat.le_of_ble_eq_true rfl) rfl (Nat.le_of_ble_eq_true rfl) ⟨Nat.zero_le _, Nat.zero_le _⟩ ?_
                refine J_if_ne E (tgt := 106) dX5_copy_97 (by decide) (fun c_97 => ?_) (fun c_97 => ?_)
                · skip
                  have c_97 := bI_1 c_97
                  refine J_aload E dX5_copy_106 1 rfl ?_
                  refine gC35_X5_221 E dX5_copy_108 ?_
                  refine J_iload_n E dX5_copy_111 rfl 4 rfl ?_
                  refine J_aload E dX5_copy_112 0 rfl ?_
                  refine gC35_X5_221 E dX5_copy_114 ?_
                  refine J_iload E dX5_copy_117 6 rfl ?_
                  refine J_iload E dX5_copy_119 7 rfl ?_
                  refine J_copyi E 36 36 ml_X5_133 na_acopy st_acopy ini_J10 dX5_copy_121 rfl rfl (nI_pos (by omega)) (nI_pos (by omega)) (nI_pos (by omega)) (by rw [nI_clamp (by omega), nI_clamp (by omega)]; omega) (by rw [nI_clamp (by omega), nI_clamp (by omega)]; omega) (by decide) (Nat.le_of_ble_eq_true rfl) ?_
                  refine J_w (ws' := wC G a (up3R x 10 0 (va_cpy (x 10 0) (x 10 0) f o m))) (by rw [nI_clamp (n := f) (by omega), nI_clamp (n := o) (by omega), nI_clamp (n := m) (by omega)]; rfl) ?_
                  refine J_iload E dX5_copy_124 7 rfl ?_
                  exact ret _ _ _ _ ⟨rfl, _, rfl, exact ShC.rfl'⟩ rfl dX5_copy_126
                · skip
                  have c_97 := bI_0 c_97
                  exact absurd (runOK h7 h6 (by omega)) c_97
            · skip
              exact absurd h3 c_68
          · skip
            have c_49 := bI_1 c_49
            exact absurd c_49 h2
      · skip
        have c_11 := bI_0 c_11
        exact absurd (in3 (by decide)) c_11
  · skip
    refine J_iload_n E dX5_copy_0 rfl 1 rfl ?_
    refine J_cSiN E (As := [.int (nI 2)]) (c_X5_isSheet l G (nI 2) ) cl_X5_202 yo_X5_isSheet dX5_copy_1 rfl (Nat.le_of_ble_eq_true rfl) (Nat.le_of_ble_eq_true rfl) rfl (Nat.le_of_ble_eq_true rfl) ⟨Nat.zero_le _, Nat.zero_le _⟩ ?_
    refine J_if_eq E (tgt := 14) dX5_copy_4 (by decide) (fun c_4 => ?_) (fun c_4 => ?_)
    · skip
      have c_4 := bI_0 c_4
      exact absurd (in3 (by decide)) c_4
    · skip
      have c_4 := bI_1 c_4
      refine J_iload_n E dX5_copy_7 rfl 3 rfl ?_
      refine J_cSiN E (As := [.int (nI 3)]) (c_X5_isSheet l G (nI 3) ) cl_X5_202 yo_X5_isSheet dX5_copy_8 rfl (Nat.le_of_ble_eq_true rfl) (Nat.le_of_ble_eq_true rfl) rfl (Nat.le_of_ble_eq_true rfl) ⟨Nat.zero_le _, Nat.zero_le _⟩ ?_
      refine J_if_ne E (tgt := 20) dX5_copy_11 (by decide) (fun c_11 => ?_) (fun c_11 => ?_)
      · skip
        have c_11 := bI_1 c_11
        refine J_aload_n E dX5_copy_20 rfl 0 rfl ?_
        refine gC0_X5_44 E dX5_copy_21 ?_
        refine J_iload_n E dX5_copy_24 rfl 1 rfl ?_
        refine laC_30_2 E dX5_copy_25 ?_
        refine J_astore E (lv' := [(6, .ref (a 35)), (0, .ref (a 0)), (1, .int (nI 2)), (2, .int (nI f)), (3, .int (nI 3)), (4, .int (nI o)), (5, .int (nI m))]) dX5_copy_26 (by decide) rfl ?_
        refine J_aload_n E dX5_copy_28 rfl 1 rfl ?_
        refine gC0_X5_44 E dX5_copy_29 ?_
        refine J_iload_n E dX5_copy_32 rfl 4 rfl ?_
        refine laC_30_3 E dX5_copy_33 ?_
        refine J_astore E (lv' := [(7, .ref (a 37)), (6, .ref (a 35)), (0, .ref (a 0)), (1, .int (nI 2)), (2, .int (nI f)), (3, .int (nI 3)), (4, .int (nI o)), (5, .int (nI m))]) dX5_copy_34 (by decide) rfl ?_
        refine J_aload E dX5_copy_36 1 rfl ?_
        refine J_si10r E (As := []) (c_X2_isMissing l G (sh a 35) (x 10) ) cl_X5_212 yo_X2_isMissing dX5_copy_38 rfl (Nat.le_of_ble_eq_true rfl) (Nat.le_of_ble_eq_true rfl) rfl (Nat.le_of_ble_eq_true rfl) ⟨Nat.zero_le _, Nat.zero_le _⟩ ?_
        refine J_if_ne E (tgt := 52) dX5_copy_41 (by decide) (fun c_41 => ?_) (fun c_41 => ?_)
        · skip
          have c_41 := bI_1 c_41
          exact absurd c_41 h1
        · skip
          have c_41 := bI_0 c_41
          refine J_aload E dX5_copy_44 0 rfl ?_
          refine J_si11r E (As := []) (c_X2_isMissing l G (sh a 37) (x 11) ) cl_X5_212 yo_X2_isMissing dX5_copy_46 rfl (Nat.le_of_ble_eq_true rfl) (Nat.le_of_ble_eq_true rfl) rfl (Nat.le_of_ble_eq_true rfl) ⟨Nat.zero_le _, Nat.zero_le _⟩ ?_
          refine J_if_eq E (tgt := 58) dX5_copy_49 (by decide) (fun c_49 => ?_) (fun c_49 => ?_)
          · skip
            have c_49 := bI_0 c_49
            refine J_aload E dX5_copy_58 1 rfl ?_
            refine gC35_X5_215 E dX5_copy_60 ?_
            refine J_aload E dX5_copy_63 0 rfl ?_
            refine gC37_X5_215 E dX5_copy_65 ?_
            refine J_icmp_eq E (tgt := 77) dX5_copy_68 (by decide) (fun c_68 => ?_) (fun c_68 => ?_)
            · skip
              refine J_aload E dX5_copy_77 1 rfl ?_
              refine J_iload_n E dX5_copy_79 rfl 4 rfl ?_
              refine J_iload E dX5_copy_80 7 rfl ?_
              refine J_si10r E (As := [.int (nI f), .int (nI m)]) (c_X2_hasRun l G (sh a 35) (x 10) (nI f) (nI m) ) cl_X5_218 yo_X2_hasRun dX5_copy_82 rfl (Nat.le_of_ble_eq_true rfl) (Nat.le_of_ble_eq_true rfl) rfl (Nat.le_of_ble_eq_true rfl) ⟨Nat.zero_le _, Nat.zero_le _⟩ ?_
              refine J_if_eq E (tgt := 100) dX5_copy_85 (by decide) (fun c_85 => ?_) (fun c_85 => ?_)
              · skip
                have c_85 := bI_0 c_85
                exact absurd (runOK h5 h4 (by omega)) c_85
              · skip
                have c_85 := bI_1 c_85
                refine J_aload E dX5_copy_88 0 rfl ?_
                refine J_iload E dX5_copy_90 6 rfl ?_
                refine J_iload E dX5_copy_92 7 rfl ?_
                refine J_si11r E (As := [.int (nI o), .int (nI m)]) (c_X2_hasRun l G (sh a 37) (x 11) (nI o) (nI m) ) cl_X5_218 yo_X2_hasRun dX5_copy_94 rfl (Nat.le_of_ble_eq_true rfl) (Nat.le_of_ble_eq_true rfl) rfl (Nat.le_of_ble_eq_true rfl) ⟨Nat.zero_le _, Nat.zero_le _⟩ ?_
                refine J_if_ne E (tgt := 106) dX5_copy_97 (by decide) (fun c_97 => ?_) (fun c_97 => ?_)
                · skip
                  have c_97 := bI_1 c_97
                  refine J_aload E dX5_copy_106 1 rfl ?_
                  refine gC35_X5_221 E dX5_copy_108 ?_
                  refine J_iload_n E dX5_copy_111 rfl 4 rfl ?_
                  refine J_aload E dX5_copy_112 0 rfl ?_
                  refine gC37_X5_221 E dX5_copy_114 ?_
                  refine J_iload E dX5_copy_117 6 rfl ?_
                  refine J_iload E dX5_copy_119 7 rfl ?_
                  refine J_copyi E 36 38 ml_X5_133 na_acopy st_acopy ini_J10 dX5_copy_121 rfl rfl (nI_pos (by omega)) (nI_pos (by omega)) (nI_pos (by omega)) (by rw [nI_clamp (by omega), nI_clamp (by omega)]; omega) (by rw [nI_clamp (by omega), nI_clamp (by omega)]; omega) (by decide) (Nat.le_of_ble_eq_true rfl) ?_
                  refine J_w (ws' := wC G a (up3R x 11 0 (va_cpy (x 10 0) (x 11 0) f o m))) (by rw [nI_clamp (n := f) (by omega), nI_clamp (n := o) (by omega), nI_clamp (n := m) (by omega)]; rfl) ?_
                  refine J_iload E dX5_copy_124 7 rfl ?_
                  exact ret _ _ _ _ ⟨rfl, _, rfl, exact ShC.rfl'⟩ rfl dX5_copy_126
                · skip
                  have c_97 := bI_0 c_97
                  exact absurd (runOK h7 h6 (by omega)) c_97
            · skip
              exact absurd h3 c_68
          · skip
            have c_49 := bI_1 c_49
            exact absurd c_49 h2
      · skip
        have c_11 := bI_0 c_11
        exact absurd (in3 (by decide)) c_11
  · skip
    refine J_iload_n E dX5_copy_0 rfl 1 rfl ?_
    refine J_cSiN E (As := [.int (nI 3)]) (c_X5_isSheet l G (nI 3) ) cl_X5_202 yo_X5_isSheet dX5_copy_1 rfl (Nat.le_of_ble_eq_true rfl) (Nat.le_of_ble_eq_true rfl) rfl (Nat.le_of_ble_eq_true rfl) ⟨Nat.zero_le _, Nat.zero_le _⟩ ?_
    refine J_if_eq E (tgt := 14) dX5_copy_4 (by decide) (fun c_4 => ?_) (fun c_4 => ?_)
    · skip
      have c_4 := bI_0 c_4
      exact absurd (in3 (by decide)) c_4
    · skip
      have c_4 := bI_1 c_4
      refine J_iload_n E dX5_copy_7 rfl 3 rfl ?_
      refine J_cSiN E (As := [.int (nI 0)]) (c_X5_isSheet l G (nI 0) ) cl_X5_202 yo_X5_isSheet dX5_copy_8 rfl (Nat.le_of_ble_eq_true rfl) (Nat.le_of_ble_eq_true rfl) rfl (Nat.le_of_ble_eq_true rfl) ⟨Nat.zero_le _, Nat.zero_le _⟩ ?_
      refine J_if_ne E (tgt := 20) dX5_copy_11 (by decide) (fun c_11 => ?_) (fun c_11 => ?_)
      · skip
        have c_11 := bI_1 c_11
        refine J_aload_n E dX5_copy_20 rfl 0 rfl ?_
        refine gC0_X5_44 E dX5_copy_21 ?_
        refine J_iload_n E dX5_copy_24 rfl 1 rfl ?_
        refine laC_30_3 E dX5_copy_25 ?_
        refine J_astore E (lv' := [(6, .ref (a 37)), (0, .ref (a 0)), (1, .int (nI 3)), (2, .int (nI f)), (3, .int (nI 0)), (4, .int (nI o)), (5, .int (nI m))]) dX5_copy_26 (by decide) rfl ?_
        refine J_aload_n E dX5_copy_28 rfl 1 rfl ?_
        refine gC0_X5_44 E dX5_copy_29 ?_
        refine J_iload_n E dX5_copy_32 rfl 4 rfl ?_
        refine laC_30_0 E dX5_copy_33 ?_
        refine J_astore E (lv' := [(7, .ref (a 31)), (6, .ref (a 37)), (0, .ref (a 0)), (1, .int (nI 3)), (2, .int (nI f)), (3, .int (nI 0)), (4, .int (nI o)), (5, .int (nI m))]) dX5_copy_34 (by decide) rfl ?_
        refine J_aload E dX5_copy_36 1 rfl ?_
        refine J_si11r E (As := []) (c_X2_isMissing l G (sh a 37) (x 11) ) cl_X5_212 yo_X2_isMissing dX5_copy_38 rfl (Nat.le_of_ble_eq_true rfl) (Nat.le_of_ble_eq_true rfl) rfl (Nat.le_of_ble_eq_true rfl) ⟨Nat.zero_le _, Nat.zero_le _⟩ ?_
        refine J_if_ne E (tgt := 52) dX5_copy_41 (by decide) (fun c_41 => ?_) (fun c_41 => ?_)
        · skip
          have c_41 := bI_1 c_41
          exact absurd c_41 h1
        · skip
          have c_41 := bI_0 c_41
          refine J_aload E dX5_copy_44 0 rfl ?_
          refine J_si8r E (As := []) (c_X2_isMissing l G (sh a 31) (x 8) ) cl_X5_212 yo_X2_isMissing dX5_copy_46 rfl (Nat.le_of_ble_eq_true rfl) (Nat.le_of_ble_eq_true rfl) rfl (Nat.le_of_ble_eq_true rfl) ⟨Nat.zero_le _, Nat.zero_le _⟩ ?_
          refine J_if_eq E (tgt := 58) dX5_copy_49 (by decide) (fun c_49 => ?_) (fun c_49 => ?_)
          · skip
            have c_49 := bI_0 c_49
            refine J_aload E dX5_copy_58 1 rfl ?_
            refine gC37_X5_215 E dX5_copy_60 ?_
            refine J_aload E dX5_copy_63 0 rfl ?_
            refine gC31_X5_215 E dX5_copy_65 ?_
            refine J_icmp_eq E (tgt := 77) dX5_copy_68 (by decide) (fun c_68 => ?_) (fun c_68 => ?_)
            · skip
              refine J_aload E dX5_copy_77 1 rfl ?_
              refine J_iload_n E dX5_copy_79 rfl 4 rfl ?_
              refine J_iload E dX5_copy_80 7 rfl ?_
              refine J_si11r E (As := [.int (nI f), .int (nI m)]) (c_X2_hasRun l G (sh a 37) (x 11) (nI f) (nI m) ) cl_X5_218 yo_X2_hasRun dX5_copy_82 rfl (Nat.le_of_ble_eq_true rfl) (Nat.le_of_ble_eq_true rfl) rfl (Nat.le_of_ble_eq_true rfl) ⟨Nat.zero_le _, Nat.zero_le _⟩ ?_
              refine J_if_eq E (tgt := 100) dX5_copy_85 (by decide) (fun c_85 => ?_) (fun c_85 => ?_)
              · skip
                have c_85 := bI_0 c_85
                exact absurd (runOK h5 h4 (by omega)) c_85
              · skip
                have c_85 := bI_1 c_85
                refine J_aload E dX5_copy_88 0 rfl ?_
                refine J_iload E dX5_copy_90 6 rfl ?_
                refine J_iload E dX5_copy_92 7 rfl ?_
                refine J_si8r E (As := [.int (nI o), .int (nI m)]) (c_X2_hasRun l G (sh a 31) (x 8) (nI o) (nI m) ) cl_X5_218 yo_X2_hasRun dX5_copy_94 rfl (Nat.le_of_ble_eq_true rfl) (Nat.le_of_ble_eq_true rfl) rfl (Nat.le_of_ble_eq_true rfl) ⟨Nat.zero_le _, Nat.zero_le _⟩ ?_
                refine J_if_ne E (tgt := 106) dX5_copy_97 (by decide) (fun c_97 => ?_) (fun c_97 => ?_)
                · skip
                  have c_97 := bI_1 c_97
                  refine J_aload E dX5_copy_106 1 rfl ?_
                  refine gC37_X5_221 E dX5_copy_108 ?_
                  refine J_iload_n E dX5_copy_111 rfl 4 rfl ?_
                  refine J_aload E dX5_copy_112 0 rfl ?_
                  refine gC31_X5_221 E dX5_copy_114 ?_
                  refine J_iload E dX5_copy_117 6 rfl ?_
                  refine J_iload E dX5_copy_119 7 rfl ?_
                  refine J_copyi E 38 32 ml_X5_133 na_acopy st_acopy ini_J10 dX5_copy_121 rfl rfl (nI_pos (by omega)) (nI_pos (by omega)) (nI_pos (by omega)) (by rw [nI_clamp (by omega), nI_clamp (by omega)]; omega) (by rw [nI_clamp (by omega), nI_clamp (by omega)]; omega) (by decide) (Nat.le_of_ble_eq_true rfl) ?_
                  refine J_w (ws' := wC G a (up3R x 8 0 (va_cpy (x 11 0) (x 8 0) f o m))) (by rw [nI_clamp (n := f) (by omega), nI_clamp (n := o) (by omega), nI_clamp (n := m) (by omega)]; rfl) ?_
                  refine J_iload E dX5_copy_124 7 rfl ?_
                  exact ret _ _ _ _ ⟨rfl, _, rfl, exact ShC.rfl'⟩ rfl dX5_copy_126
                · skip
                  have c_97 := bI_0 c_97
                  exact absurd (runOK h7 h6 (by omega)) c_97
            · skip
              exact absurd h3 c_68
          · skip
            have c_49 := bI_1 c_49
            exact absurd c_49 h2
      · skip
        have c_11 := bI_0 c_11
        exact absurd (in3 (by decide)) c_11
  · skip
    refine J_iload_n E dX5_copy_0 rfl 1 rfl ?_
    refine J_cSiN E (As := [.int (nI 3)]) (c_X5_isSheet l G (nI 3) ) cl_X5_202 yo_X5_isSheet dX5_copy_1 rfl (Nat.le_of_ble_eq_true rfl) (Nat.le_of_ble_eq_true rfl) rfl (Nat.le_of_ble_eq_true rfl) ⟨Nat.zero_le _, Nat.zero_le _⟩ ?_
    refine J_if_eq E (tgt := 14) dX5_copy_4 (by decide) (fun c_4 => ?_) (fun c_4 => ?_)
    · skip
      have c_4 := bI_0 c_4
      exact absurd (in3 (by decide)) c_4
    · skip
      have c_4 := bI_1 c_4
      refine J_iload_n E dX5_copy_7 rfl 3 rfl ?_
      refine J_cSiN E (As := [.int (nI 1)]) (c_X5_isSheet l G (nI 1) ) cl_X5_202 yo_X5_isSheet dX5_copy_8 rfl (Nat.le_of_ble_eq_true rfl) (Nat.le_of_ble_eq_true rfl) rfl (Nat.le_of_ble_eq_true rfl) ⟨Nat.zero_le _, Nat.zero_le _⟩ ?_
      refine J_if_ne E (tgt := 20) dX5_copy_11 (by decide) (fun c_11 => ?_) (fun c_11 => ?_)
      · skip
        have c_11 := bI_1 c_11
        refine J_aload_n E dX5_copy_20 rfl 0 rfl ?_
        refine gC0_X5_44 E dX5_copy_21 ?_
        refine J_iload_n E dX5_copy_24 rfl 1 rfl ?_
        refine laC_30_3 E dX5_copy_25 ?_
        refine J_astore E (lv' := [(6, .ref (a 37)), (0, .ref (a 0)), (1, .int (nI 3)), (2, .int (nI f)), (3, .int (nI 1)), (4, .int (nI o)), (5, .int (nI m))]) dX5_copy_26 (by decide) rfl ?_
        refine J_aload_n E dX5_copy_28 rfl 1 rfl ?_
        refine gC0_X5_44 E dX5_copy_29 ?_
        refine J_iload_n E dX5_copy_32 rfl 4 rfl ?_
        refine laC_30_1 E dX5_copy_33 ?_
        refine J_astore E (lv' := [(7, .ref (a 33)), (6, .ref (a 37)), (0, .ref (a 0)), (1, .int (nI 3)), (2, .int (nI f)), (3, .int (nI 1)), (4, .int (nI o)), (5, .int (nI m))]) dX5_copy_34 (by decide) rfl ?_
        refine J_aload E dX5_copy_36 1 rfl ?_
        refine J_si11r E (As := []) (c_X2_isMissing l G (sh a 37) (x 11) ) cl_X5_212 yo_X2_isMissing dX5_copy_38 rfl (Nat.le_of_ble_eq_true rfl) (Nat.le_of_ble_eq_true rfl) rfl (Nat.le_of_ble_eq_true rfl) ⟨Nat.zero_le _, Nat.zero_le _⟩ ?_
        refine J_if_ne E (tgt := 52) dX5_copy_41 (by decide) (fun c_41 => ?_) (fun c_41 => ?_)
        · skip
          have c_41 := bI_1 c_41
          exact absurd c_41 h1
        · skip
          have c_41 := bI_0 c_41
          refine J_aload E dX5_copy_44 0 rfl ?_
          refine J_si9r E (As := []) (c_X2_isMissing l G (sh a 33) (x 9) ) cl_X5_212 yo_X2_isMissing dX5_copy_46 rfl (Nat.le_of_ble_eq_true rfl) (Nat.le_of_ble_eq_true rfl) rfl (Nat.le_of_ble_eq_true rfl) ⟨Nat.zero_le _, Nat.zero_le _⟩ ?_
          refine J_if_eq E (tgt := 58) dX5_copy_49 (by decide) (fun c_49 => ?_) (fun c_49 => ?_)
          · skip
            have c_49 := bI_0 c_49
            refine J_aload E dX5_copy_58 1 rfl ?_
            refine gC37_X5_215 E dX5_copy_60 ?_
            refine J_aload E dX5_copy_63 0 rfl ?_
            refine gC33_X5_215 E dX5_copy_65 ?_
            refine J_icmp_eq E (tgt := 77) dX5_copy_68 (by decide) (fun c_68 => ?_) (fun c_68 => ?_)
            · skip
              refine J_aload E dX5_copy_77 1 rfl ?_
              refine J_iload_n E dX5_copy_79 rfl 4 rfl ?_
              refine J_iload E dX5_copy_80 7 rfl ?_
              refine J_si11r E (As := [.int (nI f), .int (nI m)]) (c_X2_hasRun l G (sh a 37) (x 11) (nI f) (nI m) ) cl_X5_218 yo_X2_hasRun dX5_copy_82 rfl (Nat.le_of_ble_eq_true rfl) (Nat.le_of_ble_eq_true rfl) rfl (Nat.le_of_ble_eq_true rfl) ⟨Nat.zero_le _, Nat.zero_le _⟩ ?_
              refine J_if_eq E (tgt := 100) dX5_copy_85 (by decide) (fun c_85 => ?_) (fun c_85 => ?_)
              · skip
                have c_85 := bI_0 c_85
                exact absurd (runOK h5 h4 (by omega)) c_85
              · skip
                have c_85 := bI_1 c_85
                refine J_aload E dX5_copy_88 0 rfl ?_
                refine J_iload E dX5_copy_90 6 rfl ?_
                refine J_iload E dX5_copy_92 7 rfl ?_
                refine J_si9r E (As := [.int (nI o), .int (nI m)]) (c_X2_hasRun l G (sh a 33) (x 9) (nI o) (nI m) ) cl_X5_218 yo_X2_hasRun dX5_copy_94 rfl (Nat.le_of_ble_eq_true rfl) (Nat.le_of_ble_eq_true rfl) rfl (Nat.le_of_ble_eq_true rfl) ⟨Nat.zero_le _, Nat.zero_le _⟩ ?_
                refine J_if_ne E (tgt := 106) dX5_copy_97 (by decide) (fun c_97 => ?_) (fun c_97 => ?_)
                · skip
                  have c_97 := bI_1 c_97
                  refine J_aload E dX5_copy_106 1 rfl ?_
                  refine gC37_X5_221 E dX5_copy_108 ?_
                  refine J_iload_n E dX5_copy_111 rfl 4 rfl ?_
                  refine J_aload E dX5_copy_112 0 rfl ?_
                  refine gC33_X5_221 E dX5_copy_114 ?_
                  refine J_iload E dX5_copy_117 6 rfl ?_
                  refine J_iload E dX5_copy_119 7 rfl ?_
                  refine J_copyi E 38 34 ml_X5_133 na_acopy st_acopy ini_J10 dX5_copy_121 rfl rfl (nI_pos (by omega)) (nI_pos (by omega)) (nI_pos (by omega)) (by rw [nI_clamp (by omega), nI_clamp (by omega)]; omega) (by rw [nI_clamp (by omega), nI_clamp (by omega)]; omega) (by decide) (Nat.le_of_ble_eq_true rfl) ?_
                  refine J_w (ws' := wC G a (up3R x 9 0 (va_cpy (x 11 0) (x 9 0) f o m))) (by rw [nI_clamp (n := f) (by omega), nI_clamp (n := o) (by omega), nI_clamp (n := m) (by omega)]; rfl) ?_
                  refine J_iload E dX5_copy_124 7 rfl ?_
                  exact ret _ _ _ _ ⟨rfl, _, rfl, exact ShC.rfl'⟩ rfl dX5_copy_126
                · skip
                  have c_97 := bI_0 c_97
                  exact absurd (runOK h7 h6 (by omega)) c_97
            · skip
              exact absurd h3 c_68
          · skip
            have c_49 := bI_1 c_49
            exact absurd c_49 h2
      · skip
        have c_11 := bI_0 c_11
        exact absurd (in3 (by decide)) c_11
  · skip
    refine J_iload_n E dX5_copy_0 rfl 1 rfl ?_
    refine J_cSiN E (As := [.int (nI 3)]) (c_X5_isSheet l G (nI 3) ) cl_X5_202 yo_X5_isSheet dX5_copy_1 rfl (Nat.le_of_ble_eq_true rfl) (Nat.le_of_ble_eq_true rfl) rfl (Nat.le_of_ble_eq_true rfl) ⟨Nat.zero_le _, Nat.zero_le _⟩ ?_
    refine J_if_eq E (tgt := 14) dX5_copy_4 (by decide) (fun c_4 => ?_) (fun c_4 => ?_)
    · skip
      have c_4 := bI_0 c_4
      exact absurd (in3 (by decide)) c_4
    · skip
      have c_4 := bI_1 c_4
      refine J_iload_n E dX5_copy_7 rfl 3 rfl ?_
      refine J_cSiN E (As := [.int (nI 2)]) (c_X5_isSheet l G (nI 2) ) cl_X5_202 yo_X5_isSheet dX5_copy_8 rfl (Nat.le_of_ble_eq_true rfl) (Nat.le_of_ble_eq_true rfl) rfl (Nat.le_of_ble_eq_true rfl) ⟨Nat.zero_le _, Nat.zero_le _⟩ ?_
      refine J_if_ne E (tgt := 20) dX5_copy_11 (by decide) (fun c_11 => ?_) (fun c_11 => ?_)
      · skip
        have c_11 := bI_1 c_11
        refine J_aload_n E dX5_copy_20 rfl 0 rfl ?_
        refine gC0_X5_44 E dX5_copy_21 ?_
        refine J_iload_n E dX5_copy_24 rfl 1 rfl ?_
        refine laC_30_3 E dX5_copy_25 ?_
        refine J_astore E (lv' := [(6, .ref (a 37)), (0, .ref (a 0)), (1, .int (nI 3)), (2, .int (nI f)), (3, .int (nI 2)), (4, .int (nI o)), (5, .int (nI m))]) dX5_copy_26 (by decide) rfl ?_
        refine J_aload_n E dX5_copy_28 rfl 1 rfl ?_
        refine gC0_X5_44 E dX5_copy_29 ?_
        refine J_iload_n E dX5_copy_32 rfl 4 rfl ?_
        refine laC_30_2 E dX5_copy_33 ?_
        refine J_astore E (lv' := [(7, .ref (a 35)), (6, .ref (a 37)), (0, .ref (a 0)), (1, .int (nI 3)), (2, .int (nI f)), (3, .int (nI 2)), (4, .int (nI o)), (5, .int (nI m))]) dX5_copy_34 (by decide) rfl ?_
        refine J_aload E dX5_copy_36 1 rfl ?_
        refine J_si11r E (As := []) (c_X2_isMissing l G (sh a 37) (x 11) ) cl_X5_212 yo_X2_isMissing dX5_copy_38 rfl (Nat.le_of_ble_eq_true rfl) (Nat.le_of_ble_eq_true rfl) rfl (Nat.le_of_ble_eq_true rfl) ⟨Nat.zero_le _, Nat.zero_le _⟩ ?_
        refine J_if_ne E (tgt := 52) dX5_copy_41 (by decide) (fun c_41 => ?_) (fun c_41 => ?_)
        · skip
          have c_41 := bI_1 c_41
          exact absurd c_41 h1
        · skip
          have c_41 := bI_0 c_41
          refine J_aload E dX5_copy_44 0 rfl ?_
          refine J_si10r E (As := []) (c_X2_isMissing l G (sh a 35) (x 10) ) cl_X5_212 yo_X2_isMissing dX5_copy_46 rfl (Nat.le_of_ble_eq_true rfl) (Nat.le_of_ble_eq_true rfl) rfl (Nat.le_of_ble_eq_true rfl) ⟨Nat.zero_le _, Nat.zero_le _⟩ ?_
          refine J_if_eq E (tgt := 58) dX5_copy_49 (by decide) (fun c_49 => ?_) (fun c_49 => ?_)
          · skip
            have c_49 := bI_0 c_49
            refine J_aload E dX5_copy_58 1 rfl ?_
            refine gC37_X5_215 E dX5_copy_60 ?_
            refine J_aload E dX5_copy_63 0 rfl ?_
            refine gC35_X5_215 E dX5_copy_65 ?_
            refine J_icmp_eq E (tgt := 77) dX5_copy_68 (by decide) (fun c_68 => ?_) (fun c_68 => ?_)
            · skip
              refine J_aload E dX5_copy_77 1 rfl ?_
              refine J_iload_n E dX5_copy_79 rfl 4 rfl ?_
              refine J_iload E dX5_copy_80 7 rfl ?_
              refine J_si11r E (As := [.int (nI f), .int (nI m)]) (c_X2_hasRun l G (sh a 37) (x 11) (nI f) (nI m) ) cl_X5_218 yo_X2_hasRun dX5_copy_82 rfl (Nat.le_of_ble_eq_true rfl) (Nat.le_of_ble_eq_true rfl) rfl (Nat.le_of_ble_eq_true rfl) ⟨Nat.zero_le _, Nat.zero_le _⟩ ?_
              refine J_if_eq E (tgt := 100) dX5_copy_85 (by decide) (fun c_85 => ?_) (fun c_85 => ?_)
              · skip
                have c_85 := bI_0 c_85
                exact absurd (runOK h5 h4 (by omega)) c_85
              · skip
                have c_85 := bI_1 c_85
                refine J_aload E dX5_copy_88 0 rfl ?_
                refine J_iload E dX5_copy_90 6 rfl ?_
                refine J_iload E dX5_copy_92 7 rfl ?_
                refine J_si10r E (As := [.int (nI o), .int (nI m)]) (c_X2_hasRun l G (sh a 35) (x 10) (nI o) (nI m) ) cl_X5_218 yo_X2_hasRun dX5_copy_94 rfl (Nat.le_of_ble_eq_true rfl) (Nat.le_of_ble_eq_true rfl) rfl (Nat.le_of_ble_eq_true rfl) ⟨Nat.zero_le _, Nat.zero_le _⟩ ?_
                refine J_if_ne E (tgt := 106) dX5_copy_97 (by decide) (fun c_97 => ?_) (fun c_97 => ?_)
                · skip
                  have c_97 := bI_1 c_97
                  refine J_aload E dX5_copy_106 1 rfl ?_
                  refine gC37_X5_221 E dX5_copy_108 ?_
                  refine J_iload_n E dX5_copy_111 rfl 4 rfl ?_
                  refine J_aload E dX5_copy_112 0 rfl ?_
                  refine gC35_X5_221 E dX5_copy_114 ?_
                  refine J_iload E dX5_copy_117 6 rfl ?_
                  refine J_iload E dX5_copy_119 7 rfl ?_
                  refine J_copyi E 38 36 ml_X5_133 na_acopy st_acopy ini_J10 dX5_copy_121 rfl rfl (nI_pos (by omega)) (nI_pos (by omega)) (nI_pos (by omega)) (by rw [nI_clamp (by omega), nI_clamp (by omega)]; omega) (by rw [nI_clamp (by omega), nI_clamp (by omega)]; omega) (by decide) (Nat.le_of_ble_eq_true rfl) ?_
                  refine J_w (ws' := wC G a (up3R x 10 0 (va_cpy (x 11 0) (x 10 0) f o m))) (by rw [nI_clamp (n := f) (by omega), nI_clamp (n := o) (by omega), nI_clamp (n := m) (by omega)]; rfl) ?_
                  refine J_iload E dX5_copy_124 7 rfl ?_
                  exact ret _ _ _ _ ⟨rfl, _, rfl, exact ShC.rfl'⟩ rfl dX5_copy_126
                · skip
                  have c_97 := bI_0 c_97
                  exact absurd (runOK h7 h6 (by omega)) c_97
            · skip
              exact absurd h3 c_68
          · skip
            have c_49 := bI_1 c_49
            exact absurd c_49 h2
      · skip
        have c_11 := bI_0 c_11
        exact absurd (in3 (by decide)) c_11
  · skip
    refine J_iload_n E dX5_copy_0 rfl 1 rfl ?_
    refine J_cSiN E (As := [.int (nI 3)]) (c_X5_isSheet l G (nI 3) ) cl_X5_202 yo_X5_isSheet dX5_copy_1 rfl (Nat.le_of_ble_eq_true rfl) (Nat.le_of_ble_eq_true rfl) rfl (Nat.le_of_ble_eq_true rfl) ⟨Nat.zero_le _, Nat.zero_le _⟩ ?_
    refine J_if_eq E (tgt := 14) dX5_copy_4 (by decide) (fun c_4 => ?_) (fun c_4 => ?_)
    · skip
      have c_4 := bI_0 c_4
      exact absurd (in3 (by decide)) c_4
    · skip
      have c_4 := bI_1 c_4
      refine J_iload_n E dX5_copy_7 rfl 3 rfl ?_
      refine J_cSiN E (As := [.int (nI 3)]) (c_X5_isSheet l G (nI 3) ) cl_X5_202 yo_X5_isSheet dX5_copy_8 rfl (Nat.le_of_ble_eq_true rfl) (Nat.le_of_ble_eq_true rfl) rfl (Nat.le_of_ble_eq_true rfl) ⟨Nat.zero_le _, Nat.zero_le _⟩ ?_
      refine J_if_ne E (tgt := 20) dX5_copy_11 (by decide) (fun c_11 => ?_) (fun c_11 => ?_)
      · skip
        have c_11 := bI_1 c_11
        refine J_aload_n E dX5_copy_20 rfl 0 rfl ?_
        refine gC0_X5_44 E dX5_copy_21 ?_
        refine J_iload_n E dX5_copy_24 rfl 1 rfl ?_
        refine laC_30_3 E dX5_copy_25 ?_
        refine J_astore E (lv' := [(6, .ref (a 37)), (0, .ref (a 0)), (1, .int (nI 3)), (2, .int (nI f)), (3, .int (nI 3)), (4, .int (nI o)), (5, .int (nI m))]) dX5_copy_26 (by decide) rfl ?_
        refine J_aload_n E dX5_copy_28 rfl 1 rfl ?_
        refine gC0_X5_44 E dX5_copy_29 ?_
        refine J_iload_n E dX5_copy_32 rfl 4 rfl ?_
        refine laC_30_3 E dX5_copy_33 ?_
        refine J_astore E (lv' := [(7, .ref (a 37)), (6, .ref (a 37)), (0, .ref (a 0)), (1, .int (nI 3)), (2, .int (nI f)), (3, .int (nI 3)), (4, .int (nI o)), (5, .int (nI m))]) dX5_copy_34 (by decide) rfl ?_
        refine J_aload E dX5_copy_36 1 rfl ?_
        refine J_si11r E (As := []) (c_X2_isMissing l G (sh a 37) (x 11) ) cl_X5_212 yo_X2_isMissing dX5_copy_38 rfl (Nat.le_of_ble_eq_true rfl) (Nat.le_of_ble_eq_true rfl) rfl (Nat.le_of_ble_eq_true rfl) ⟨Nat.zero_le _, Nat.zero_le _⟩ ?_
        refine J_if_ne E (tgt := 52) dX5_copy_41 (by decide) (fun c_41 => ?_) (fun c_41 => ?_)
        · skip
          have c_41 := bI_1 c_41
          exact absurd c_41 h1
        · skip
          have c_41 := bI_0 c_41
          refine J_aload E dX5_copy_44 0 rfl ?_
          refine J_si11r E (As := []) (c_X2_isMissing l G (sh a 37) (x 11) ) cl_X5_212 yo_X2_isMissing dX5_copy_46 rfl (Nat.le_of_ble_eq_true rfl) (Nat.le_of_ble_eq_true rfl) rfl (Nat.le_of_ble_eq_true rfl) ⟨Nat.zero_le _, Nat.zero_le _⟩ ?_
          refine J_if_eq E (tgt := 58) dX5_copy_49 (by decide) (fun c_49 => ?_) (fun c_49 => ?_)
          · skip
            have c_49 := bI_0 c_49
            refine J_aload E dX5_copy_58 1 rfl ?_
            refine gC37_X5_215 E dX5_copy_60 ?_
            refine J_aload E dX5_copy_63 0 rfl ?_
            refine gC37_X5_215 E dX5_copy_65 ?_
            refine J_icmp_eq E (tgt := 77) dX5_copy_68 (by decide) (fun c_68 => ?_) (fun c_68 => ?_)
            · skip
              refine J_aload E dX5_copy_77 1 rfl ?_
              refine J_iload_n E dX5_copy_79 rfl 4 rfl ?_
              refine J_iload E dX5_copy_80 7 rfl ?_
              refine J_si11r E (As := [.int (nI f), .int (nI m)]) (c_X2_hasRun l G (sh a 37) (x 11) (nI f) (nI m) ) cl_X5_218 yo_X2_hasRun dX5_copy_82 rfl (Nat.le_of_ble_eq_true rfl) (Nat.le_of_ble_eq_true rfl) rfl (Nat.le_of_ble_eq_true rfl) ⟨Nat.zero_le _, Nat.zero_le _⟩ ?_
              refine J_if_eq E (tgt := 100) dX5_copy_85 (by decide) (fun c_85 => ?_) (fun c_85 => ?_)
              · skip
                have c_85 := bI_0 c_85
                exact absurd (runOK h5 h4 (by omega)) c_85
              · skip
                have c_85 := bI_1 c_85
                refine J_aload E dX5_copy_88 0 rfl ?_
                refine J_iload E dX5_copy_90 6 rfl ?_
                refine J_iload E dX5_copy_92 7 rfl ?_
                refine J_si11r E (As := [.int (nI o), .int (nI m)]) (c_X2_hasRun l G (sh a 37) (x 11) (nI o) (nI m) ) cl_X5_218 yo_X2_hasRun dX5_copy_94 rfl (Nat.le_of_ble_eq_true rfl) (Nat.le_of_ble_eq_true rfl) rfl (Nat.le_of_ble_eq_true rfl) ⟨Nat.zero_le _, Nat.zero_le _⟩ ?_
                refine J_if_ne E (tgt := 106) dX5_copy_97 (by decide) (fun c_97 => ?_) (fun c_97 => ?_)
                · skip
                  have c_97 := bI_1 c_97
                  refine J_aload E dX5_copy_106 1 rfl ?_
                  refine gC37_X5_221 E dX5_copy_108 ?_
                  refine J_iload_n E dX5_copy_111 rfl 4 rfl ?_
                  refine J_aload E dX5_copy_112 0 rfl ?_
                  refine gC37_X5_221 E dX5_copy_114 ?_
                  refine J_iload E dX5_copy_117 6 rfl ?_
                  refine J_iload E dX5_copy_119 7 rfl ?_
                  refine J_copyi E 38 38 ml_X5_133 na_acopy st_acopy ini_J10 dX5_copy_121 rfl rfl (nI_pos (by omega)) (nI_pos (by omega)) (nI_pos (by omega)) (by rw [nI_clamp (by omega), nI_clamp (by omega)]; omega) (by rw [nI_clamp (by omega), nI_clamp (by omega)]; omega) (by decide) (Nat.le_of_ble_eq_true rfl) ?_
                  refine J_w (ws' := wC G a (up3R x 11 0 (va_cpy (x 11 0) (x 11 0) f o m))) (by rw [nI_clamp (n := f) (by omega), nI_clamp (n := o) (by omega), nI_clamp (n := m) (by omega)]; rfl) ?_
                  refine J_iload E dX5_copy_124 7 rfl ?_
                  exact ret _ _ _ _ ⟨rfl, _, rfl, exact ShC.rfl'⟩ rfl dX5_copy_126
                · skip
                  have c_97 := bI_0 c_97
                  exact absurd (runOK h7 h6 (by omega)) c_97
            · skip
              exact absurd h3 c_68
          · skip
            have c_49 := bI_1 c_49
            exact absurd c_49 h2
      · skip
        have c_11 := bI_0 c_11
        exact absurd (in3 (by decide)) c_11
