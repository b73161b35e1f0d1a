theorem withQ_sp {q : Q2} (h : spOk q) {k : Nat} (hk : ¬ k = 4) (v : Int32) (j : Nat) : spOk (withQ q k v j) := by
  intro y hy
  unfold withQ
  split
  · rw [up2_row (by decide)]; exact h y hy
  · rw [up2_row (fun e => hk e.symm)]; exact h y hy
theorem bsF_end (p : Nat → Bool) (f lo hi : Nat) (h : ¬ lo < hi) : bsF p f lo hi = lo := by
  cases f with
  | zero => rfl
  | succ f => rw [bsF, if_neg h]
theorem bsF_0 (p : Nat → Bool) (lo hi : Nat) : bsF p 0 lo hi = lo := rfl
def leastRes (q : Q2) (k most j m : Nat) : Int32 := if wetW q k j m most = 0 then tellR 3 else leastR q k most j m
def leastX (x : Q3) (k most j m : Nat) : Q3 := if wetW (x 0) k j m most = 0 then tellX x 3 else x

set_option maxHeartbeats 4000000 in
set_option maxRecDepth 20000 in
theorem c_X5_leastFor (l : Launch) (G : GB) (a : Nat → Nat) (x : Q3) (k most j m : Nat) (hk : k ≤ 6) (hk4 : ¬ k = 4) (hmo : most ≤ 1000) (hj : j < 11) (hm : m ≤ 1000) (hsp : spOk (x 0)) : CI l yX5_leastFor cX5_leastFor 9 .int 6 140 G [.ref (a 0), .int (nI k), .int (nI most), .int (nI j), .int (nI m)] (wC G a x) (fun vR w' => vR = leastRes (x 0) k most j m ∧ PubC G a (leastX x k most j m) w') := by
  refine CI.mk (own := RX5) (by decide) rfl (Nat.le_of_ble_eq_true rfl) ?_
  intro X E ret
  show J X G 9 0 0 (wC G a x) [(0, .ref (a 0)), (1, .int (nI k)), (2, .int (nI most)), (3, .int (nI j)), (4, .int (nI m))] 0 []
  refine J_aload_n E dX5_leastFor_0 rfl 0 rfl ?_
  refine J_iload_n E dX5_leastFor_1 rfl 1 rfl ?_
  refine J_iload_n E dX5_leastFor_2 rfl 2 rfl ?_
  refine J_iload_n E dX5_leastFor_3 rfl 3 rfl ?_
  refine J_iload E dX5_leastFor_4 4 rfl ?_
  refine J_cVi0 E (As := [.int (nI k), .int (nI most), .int (nI j), .int (nI m)]) (c_X5_staysWetWith l G a x k (nI most) j m (by omega) (by omega) (by omega) (withQ_sp hsp hk4 _ _)) cl_X5_147 yo_X5_staysWetWith dX5_leastFor_6 rfl rfl rfl (Nat.le_of_ble_eq_true rfl) (Nat.le_of_ble_eq_true rfl) rfl (Nat.le_of_ble_eq_true rfl) ⟨Nat.zero_le _, Nat.zero_le _⟩ ?_
  refine J_if_ne E (tgt := 18) dX5_leastFor_9 (by decide) (fun c_9 => ?_) (fun c_9 => ?_)
  · skip
    have c_9 : ¬ wetW (x 0) k j m most = 0 := c_9
    refine J_iconst E dX5_leastFor_18 ic_0 ?_
    refine J_istore E (lv' := [(5, .int 0), (0, .ref (a 0)), (1, .int (nI k)), (2, .int (nI most)), (3, .int (nI j)), (4, .int (nI m))]) dX5_leastFor_19 (by decide) rfl ?_
    refine J_iload_n E dX5_leastFor_21 rfl 3 rfl ?_
    refine J_istore E (lv' := [(6, .int (nI most)), (5, .int 0), (0, .ref (a 0)), (1, .int (nI k)), (2, .int (nI most)), (3, .int (nI j)), (4, .int (nI m))]) dX5_leastFor_22 (by decide) rfl ?_
    refine J_iconst E dX5_leastFor_24 ic_0 ?_
    refine J_istore E (lv' := [(7, .int 0), (6, .int (nI most)), (5, .int 0), (0, .ref (a 0)), (1, .int (nI k)), (2, .int (nI most)), (3, .int (nI j)), (4, .int (nI m))]) dX5_leastFor_25 (by decide) rfl ?_
    have lp27 : ∀ (fu : Nat) (lw : Nat) (hg : Nat) (st : Nat) (r : Q2), (hg ≤ most) → (lw ≤ most) → (st ≤ 10) → (bsF (fun v => decide (¬ wetW (x 0) k j m v = 0)) 10 0 most = bsF (fun v => decide (¬ wetW (x 0) k j m v = 0)) (10 - st) lw hg) → 10 - st < fu → J X G 9 0 0 (wC G a (upG x 2 r)) [(0, .ref (a 0)), (1, .int (nI k)), (2, .int (nI most)), (3, .int (nI j)), (4, .int (nI m)), (5, .int (nI lw)), (6, .int (nI hg)), (7, .int (nI st))] 27 [] := by
      intro fu
      induction fu with
      | zero => intro lw hg st r h0 h4 h3 h1 hm; exact absurd hm (Nat.not_lt_zero _)
      | succ fu ih27 =>
        intro lw hg st r h0 h4 h3 h1 hm
        refine J_iload E dX5_leastFor_27 7 rfl ?_
        refine J_bipush E dX5_leastFor_29 bp_10 ?_
        refine J_icmp_ge E (tgt := 82) dX5_leastFor_31 (by decide) (fun c_31 => ?_) (fun c_31 => ?_)
        · skip
          have n_31 : 10 ≤ st := cmp_le (a := 10) (b := st) (by omega) (by omega) c_31
          refine J_iload E dX5_leastFor_82 5 rfl ?_
          exact ret _ _ _ _ ⟨by rw [leastRes, if_neg c_9, leastR, h1]; first | rw [show 10 - st = 0 by omega, bsF_0] | rw [bsF_end _ _ _ _ (by omega)], _, rfl, by rw [leastX, if_neg c_9]; intro g h2 h6; simp [upG, h2]⟩ rfl dX5_leastFor_84
        · skip
          have n_31 : ¬ 10 ≤ st := cmp_nle (a := 10) (b := st) (by omega) (by omega) c_31
          refine J_iload E dX5_leastFor_34 5 rfl ?_
          refine J_iload E dX5_leastFor_36 6 rfl ?_
          refine J_icmp_ge E (tgt := 82) dX5_leastFor_38 (by decide) (fun c_38 => ?_) (fun c_38 => ?_)
          · skip
            have n_38 : hg ≤ lw := cmp_le (a := hg) (b := lw) (by omega) (by omega) c_38
            refine J_iload E dX5_leastFor_82 5 rfl ?_
            exact ret _ _ _ _ ⟨by rw [leastRes, if_neg c_9, leastR, h1]; first | rw [show 10 - st = 0 by omega, bsF_0] | rw [bsF_end _ _ _ _ (by omega)], _, rfl, by rw [leastX, if_neg c_9]; intro g h2 h6; simp [upG, h2]⟩ rfl dX5_leastFor_84
          · skip
            have n_38 : ¬ hg ≤ lw := cmp_nle (a := hg) (b := lw) (by omega) (by omega) c_38
            refine J_iload E dX5_leastFor_41 5 rfl ?_
            refine J_iload E dX5_leastFor_43 6 rfl ?_
            refine J_iadd E dX5_leastFor_45 ?_
            refine J_iconst E dX5_leastFor_46 ic_2 ?_
            refine J_idiv E dX5_leastFor_47 (by decide) ?_
            refine J_top (x' := nI ((lw + hg) / 2)) (half (by omega)) ?_
            refine J_istore E (lv' := [(8, .int (nI ((lw + hg) / 2))), (0, .ref (a 0)), (1, .int (nI k)), (2, .int (nI most)), (3, .int (nI j)), (4, .int (nI m)), (5, .int (nI lw)), (6, .int (nI hg)), (7, .int (nI st))]) dX5_leastFor_48 (by decide) rfl ?_
            refine J_aload_n E dX5_leastFor_50 rfl 1 rfl ?_
            refine J_iload_n E dX5_leastFor_51 rfl 2 rfl ?_
            refine J_iload E dX5_leastFor_52 0 rfl ?_
            refine J_iload_n E dX5_leastFor_54 rfl 4 rfl ?_
            refine J_iload E dX5_leastFor_55 5 rfl ?_
            refine J_cVi0 E (As := [.int (nI k), .int (nI ((lw + hg) / 2)), .int (nI j), .int (nI m)]) (c_X5_staysWetWith l G a (upG x 2 r) k (nI ((lw + hg) / 2)) j m (by omega) (by omega) (by omega) (withQ_sp hsp hk4 _ _)) cl_X5_147 yo_X5_staysWetWith dX5_leastFor_57 rfl rfl rfl (Nat.le_of_ble_eq_true rfl) (Nat.le_of_ble_eq_true rfl) rfl (Nat.le_of_ble_eq_true rfl) ⟨Nat.zero_le _, Nat.zero_le _⟩ ?_
            refine J_if_eq E (tgt := 70) dX5_leastFor_60 (by decide) (fun c_60 => ?_) (fun c_60 => ?_)
            · skip
              have c_60 : wetW (x 0) k j m ((lw + hg) / 2) = 0 := c_60
              refine J_iload E dX5_leastFor_70 0 rfl ?_
              refine J_iconst E dX5_leastFor_72 ic_1 ?_
              refine J_iadd E dX5_leastFor_73 ?_
              refine J_top (x' := nI ((lw + hg) / 2 + 1)) (nI_1 _) ?_
              refine J_istore E (lv' := [(5, .int (nI ((lw + hg) / 2 + 1))), (8, .int (nI ((lw + hg) / 2))), (0, .ref (a 0)), (1, .int (nI k)), (2, .int (nI most)), (3, .int (nI j)), (4, .int (nI m)), (6, .int (nI hg)), (7, .int (nI st))]) dX5_leastFor_74 (by decide) rfl ?_
              refine J_iinc E (lv' := [(7, .int (nI (st + 1))), (5, .int (nI ((lw + hg) / 2 + 1))), (8, .int (nI ((lw + hg) / 2))), (0, .ref (a 0)), (1, .int (nI k)), (2, .int (nI most)), (3, .int (nI j)), (4, .int (nI m)), (6, .int (nI hg))]) dX5_leastFor_76 8 rfl (nI_inc _) (by decide) rfl ?_
              refine J_goto E (tgt := 27) dX5_leastFor_79 (by decide) ?_
              refine J_lv [3, 4, 5, 6, 7, 1, 8, 0] rfl ?_
              exact ih27 ((lw + hg) / 2 + 1) hg (st + 1) (wetS (bitI j) j m (withQ (x 0) k (nI ((lw + hg) / 2)) j)) (by omega) (by omega) (by omega) (by rw [h1, show 10 - st = (10 - (st + 1)) + 1 by omega, bsF, if_pos (by omega)]; first | rw [if_pos (decide_eq_true c_60)] | rw [if_neg (c := (decide (¬ wetW (x 0) k j m ((lw + hg) / 2) = 0)) = true) (fun z => absurd c_60 (of_decide_eq_true z))]) (by omega)
            · skip
              have c_60 : ¬ wetW (x 0) k j m ((lw + hg) / 2) = 0 := c_60
              refine J_iload E dX5_leastFor_63 0 rfl ?_
              refine J_istore E (lv' := [(6, .int (nI ((lw + hg) / 2))), (8, .int (nI ((lw + hg) / 2))), (0, .ref (a 0)), (1, .int (nI k)), (2, .int (nI most)), (3, .int (nI j)), (4, .int (nI m)), (5, .int (nI lw)), (7, .int (nI st))]) dX5_leastFor_65 (by decide) rfl ?_
              refine J_goto E (tgt := 76) dX5_leastFor_67 (by decide) ?_
              refine J_iinc E (lv' := [(7, .int (nI (st + 1))), (6, .int (nI ((lw + hg) / 2))), (8, .int (nI ((lw + hg) / 2))), (0, .ref (a 0)), (1, .int (nI k)), (2, .int (nI most)), (3, .int (nI j)), (4, .int (nI m)), (5, .int (nI lw))]) dX5_leastFor_76 8 rfl (nI_inc _) (by decide) rfl ?_
              refine J_goto E (tgt := 27) dX5_leastFor_79 (by decide) ?_
              refine J_lv [3, 4, 5, 6, 7, 8, 1, 0] rfl ?_
              exact ih27 lw ((lw + hg) / 2) (st + 1) (wetS (bitI j) j m (withQ (x 0) k (nI ((lw + hg) / 2)) j)) (by omega) (by omega) (by omega) (by rw [h1, show 10 - st = (10 - (st + 1)) + 1 by omega, bsF, if_pos (by omega)]; first | rw [if_pos (decide_eq_true c_60)] | rw [if_neg (c := (decide (¬ wetW (x 0) k j m ((lw + hg) / 2) = 0)) = true) (fun z => absurd c_60 (of_decide_eq_true z))]) (by omega)
    refine J_lv [3, 4, 5, 6, 7, 2, 1, 0] rfl ?_
    exact lp27 _ 0 most 0 (wetS (bitI j) j m (withQ (x 0) k (nI most) j)) (Nat.le_refl _) (Nat.zero_le _) (by omega) rfl (Nat.lt_succ_self _)
  · skip
    have c_9 : wetW (x 0) k j m most = 0 := c_9
    refine J_aload_n E dX5_leastFor_12 rfl 0 rfl ?_
    refine J_iconst E dX5_leastFor_13 ic_3 ?_
    refine J_cVi0 E (As := [.int 3]) (c_X5_tell l G a (upG x 2 (wetS (bitI j) j m (withQ (x 0) k (nI most) j))) 3 (by omega)) cl_X5_64 yo_X5_tell dX5_leastFor_14 rfl rfl rfl (Nat.le_of_ble_eq_true rfl) (Nat.le_of_ble_eq_true rfl) rfl (Nat.le_of_ble_eq_true rfl) ⟨Nat.zero_le _, Nat.zero_le _⟩ ?_
    exact ret _ _ _ _ ⟨by rw [leastRes, if_pos c_9], _, rfl, by rw [leastX, if_pos c_9]; intro g h2 h6; simp [tellX, upG, up3, h2, h6]; try (intro e; subst e; rfl)⟩ rfl dX5_leastFor_17
