theorem nIle {n : Nat} (h : n < 2 ^ 31) : (nI n).toNatClampNeg = n := nI_clamp h
/-- a sheet's numbers are kept in so many bits -/
def narS (b v : Int32) : Int32 := if b = 8 then v.toInt8.toInt32 else if b = 16 then v.toInt16.toInt32 else v
def addT (t : Q2) (v : Int32) : Q2 := up2 (up2 t 0 (t 1 0).toNatClampNeg v) 1 0 (t 1 0 + 1)
def fillF (f : Nat → Int32) (v : Int32) : Nat → Nat → Int32
  | 0 => f
  | n + 1 => upd (fillF f v n) n v
theorem fillF_lt (f : Nat → Int32) (v : Int32) : ∀ (n j : Nat), j < n → fillF f v n j = v
  | 0, _, h => absurd h (Nat.not_lt_zero _)
  | n + 1, j, h => by
    unfold fillF
    by_cases e : j = n
    · simp [upd, e]
    · simp [upd, e, fillF_lt f v n j (by omega)]

set_option maxHeartbeats 4000000 in
set_option maxRecDepth 20000 in
theorem c_X1_passHours (l : Launch) (G : GB) (h : Nat → Nat) (q : Q2) (m last : Nat) (hm : m ≤ 1000) (hla : last < 11) (hsp : spOk q) : CI l yX1_passHours cX1_passHours 5 .int 4 92 G [.ref (h 0), .int (nI m), .int (nI last)] (wQ G h q) (fun v w' => v = drysM q last m ∧ w' = wQ G h (hoursM q last m)) := by
  refine CI.mk (own := RX1) (by decide) rfl (Nat.le_of_ble_eq_true rfl) ?_
  intro X E ret
  show J X G 5 0 0 (wQ G h q) [(0, .ref (h 0)), (1, .int (nI m)), (2, .int (nI last))] 0 []
  refine J_iconst E dX1_passHours_0 ic_0 ?_
  refine J_istore_n E (lv' := [(3, .int 0), (0, .ref (h 0)), (1, .int (nI m)), (2, .int (nI last))]) dX1_passHours_1 rfl (by decide) rfl ?_
  refine J_iconst E dX1_passHours_2 ic_0 ?_
  refine J_istore E (lv' := [(4, .int 0), (3, .int 0), (0, .ref (h 0)), (1, .int (nI m)), (2, .int (nI last))]) dX1_passHours_3 (by decide) rfl ?_
  have lp5 : ∀ (n : Nat) (i : Nat) (d : Int32) (S : Q2), i ≤ m → S = hoursM q last i → d = drysM q last i → m - i < n → J X G 5 0 0 (wQ G h S) [(0, .ref (h 0)), (1, .int (nI m)), (2, .int (nI last)), (3, .int d), (4, .int (nI i))] 5 [] := by
    intro n
    induction n with
    | zero => intro i d S hi hS hd hm; exact absurd hm (Nat.not_lt_zero _)
    | succ n ih5 =>
      intro i d S hi hS hd hm
      refine J_iload E dX1_passHours_5 4 rfl ?_
      refine J_iload_n E dX1_passHours_7 rfl 1 rfl ?_
      refine J_icmp_ge E (tgt := 25) dX1_passHours_8 (by decide) (fun c_8 => ?_) (fun c_8 => ?_)
      · skip
        have n_8 : m ≤ i := cmp_le (a := m) (b := i) (by omega) (by omega) c_8
        refine J_iload_n E dX1_passHours_25 rfl 3 rfl ?_
        exact ret _ _ _ _ ⟨by rw [hd, show i = m by omega], (congrArg (wQ G h) (by rw [hS, show i = m by omega]))⟩ rfl dX1_passHours_26
      · skip
        have n_8 : ¬ m ≤ i := cmp_nle (a := m) (b := i) (by omega) (by omega) c_8
        refine J_iload_n E dX1_passHours_11 rfl 3 rfl ?_
        refine J_aload_n E dX1_passHours_12 rfl 0 rfl ?_
        refine J_iload_n E dX1_passHours_13 rfl 2 rfl ?_
        refine J_cVi0 E (As := [.int (nI last)]) (c_X1_passHour l G h S last hla (by rw [hS]; exact hoursM_sp hsp last i)) cl_X1_100 yo_X1_passHour dX1_passHours_14 rfl rfl rfl (Nat.le_of_ble_eq_true rfl) (Nat.le_of_ble_eq_true rfl) rfl (Nat.le_of_ble_eq_true rfl) ⟨Nat.zero_le _, Nat.zero_le _⟩ ?_
        refine J_ior E dX1_passHours_17 ?_
        refine J_istore_n E (lv' := [(3, .int (d ||| (dryM S last))), (0, .ref (h 0)), (1, .int (nI m)), (2, .int (nI last)), (4, .int (nI i))]) dX1_passHours_18 rfl (by decide) rfl ?_
        refine J_iinc E (lv' := [(4, .int (nI (i + 1))), (3, .int (d ||| (dryM S last))), (0, .ref (h 0)), (1, .int (nI m)), (2, .int (nI last))]) dX1_passHours_19 4 rfl (nI_inc _) (by decide) rfl ?_
        refine J_goto E (tgt := 5) dX1_passHours_22 (by decide) ?_
        refine J_lv [2, 3, 4, 1, 0] rfl ?_
        exact ih5 (i + 1) (d ||| (dryM S last)) (hourM S last) (by omega) (by rw [hS]; rfl) (by rw [hd, hS]; rfl) (by omega)
  refine J_lv [2, 3, 4, 1, 0] rfl ?_
  exact lp5 _ 0 0 q (by omega) rfl rfl (Nat.lt_succ_self _)

set_option maxHeartbeats 4000000 in
set_option maxRecDepth 20000 in
theorem c_X1_staysWet (l : Launch) (G : GB) (h : Nat → Nat) (q : Q2) (hs : Int32) (last m : Nat) (hm : m ≤ 1000) (hla : last < 11) (hsp : spOk q) : CI l yX1_staysWet cX1_staysWet 5 .boolean 4 92 G [.ref (h 0), .int hs, .int (nI last), .int (nI m)] (wQ G h q) (fun v w' => v = wetR hs last m q ∧ w' = wQ G h (wetS hs last m q)) := by
  refine CI.mk (own := RX1) (by decide) rfl (Nat.le_of_ble_eq_true rfl) ?_
  intro X E ret
  show J X G 5 0 0 (wQ G h q) [(0, .ref (h 0)), (1, .int hs), (2, .int (nI last)), (3, .int (nI m))] 0 []
  refine J_iconst E dX1_staysWet_0 ic_0 ?_
  refine J_istore E (lv' := [(4, .int 0), (0, .ref (h 0)), (1, .int hs), (2, .int (nI last)), (3, .int (nI m))]) dX1_staysWet_1 (by decide) rfl ?_
  have lp3 : ∀ (n : Nat) (i : Nat) (S : Q2), i ≤ m → spOk S → wetR hs last (m - i) S = wetR hs last m q → wetS hs last (m - i) S = wetS hs last m q → m - i < n → J X G 5 0 0 (wQ G h S) [(0, .ref (h 0)), (1, .int hs), (2, .int (nI last)), (3, .int (nI m)), (4, .int (nI i))] 3 [] := by
    intro n
    induction n with
    | zero => intro i S hi hS h1 h2 hm; exact absurd hm (Nat.not_lt_zero _)
    | succ n ih3 =>
      intro i S hi hS h1 h2 hm
      refine J_iload E dX1_staysWet_3 4 rfl ?_
      refine J_iload_n E dX1_staysWet_5 rfl 3 rfl ?_
      refine J_icmp_ge E (tgt := 27) dX1_staysWet_6 (by decide) (fun c_6 => ?_) (fun c_6 => ?_)
      · skip
        have n_6 : m ≤ i := cmp_le (a := m) (b := i) (by omega) (by omega) c_6
        refine J_iconst E dX1_staysWet_27 ic_1 ?_
        exact ret _ _ _ _ ⟨by rw [← h1, show m - i = 0 by omega]; rfl, (congrArg (wQ G h) (by rw [← h2, show m - i = 0 by omega]; rfl))⟩ rfl dX1_staysWet_28
      · skip
        have n_6 : ¬ m ≤ i := cmp_nle (a := m) (b := i) (by omega) (by omega) c_6
        refine J_aload_n E dX1_staysWet_9 rfl 0 rfl ?_
        refine J_iload_n E dX1_staysWet_10 rfl 2 rfl ?_
        refine J_cVi0 E (As := [.int (nI last)]) (c_X1_passHour l G h S last hla hS) cl_X1_100 yo_X1_passHour dX1_staysWet_11 rfl rfl rfl (Nat.le_of_ble_eq_true rfl) (Nat.le_of_ble_eq_true rfl) rfl (Nat.le_of_ble_eq_true rfl) ⟨Nat.zero_le _, Nat.zero_le _⟩ ?_
        refine J_iload_n E dX1_staysWet_14 rfl 1 rfl ?_
        refine J_iand E dX1_staysWet_15 ?_
        refine J_if_eq E (tgt := 21) dX1_staysWet_16 (by decide) (fun c_16 => ?_) (fun c_16 => ?_)
        · skip
          refine J_iinc E (lv' := [(4, .int (nI (i + 1))), (0, .ref (h 0)), (1, .int hs), (2, .int (nI last)), (3, .int (nI m))]) dX1_staysWet_21 4 rfl (nI_inc _) (by decide) rfl ?_
          refine J_goto E (tgt := 3) dX1_staysWet_24 (by decide) ?_
          refine J_lv [1, 2, 3, 4, 0] rfl ?_
          exact ih3 (i + 1) (hourM S last) (by omega) (hourM_sp hS last) (by rw [← h1, show m - i = (m - (i + 1)) + 1 by omega, wetR, if_pos c_16]) (by rw [← h2, show m - i = (m - (i + 1)) + 1 by omega, wetS, if_pos c_16]) (by omega)
        · skip
          refine J_iconst E dX1_staysWet_19 ic_0 ?_
          exact ret _ _ _ _ ⟨by rw [← h1, show m - i = (m - (i + 1)) + 1 by omega, wetR, if_neg c_16], (congrArg (wQ G h) (by rw [← h2, show m - i = (m - (i + 1)) + 1 by omega, wetS, if_neg c_16]))⟩ rfl dX1_staysWet_20
  refine J_lv [1, 2, 3, 4, 0] rfl ?_
  exact lp3 _ 0 q (by omega) hsp rfl rfl (Nat.lt_succ_self _)

set_option maxHeartbeats 4000000 in
set_option maxRecDepth 20000 in
theorem c_X3_add (l : Launch) (G : GB) (h : Nat → Nat) (t : Q2) (k : Nat) (v : Int32) (ht : t 1 0 = nI k) (hk : k < 120) : CV l yX3_add cX3_add 2 0 0 0 0 G [.ref (h 0), .int v] (wT G h t) (fun w' => w' = wT G h (addT t v)) := by
  refine CV.mk (own := RX3) (by decide) rfl (Nat.le_of_ble_eq_true rfl) ?_
  intro X E _ _ _ ret
  show J X G 2 0 0 (wT G h t) [(0, .ref (h 0)), (1, .int v)] 0 []
  refine J_aload_n E dX3_add_0 rfl 0 rfl ?_
  refine gT0_X3_13 E dX3_add_1 ?_
  refine J_bipush E dX3_add_4 bp_120 ?_
  refine J_icmp_ge E (tgt := 29) dX3_add_6 (by decide) (fun c_6 => ?_) (fun c_6 => ?_)
  · skip
    exact absurd c_6 (by rw [ht]; exact nI_ge hk (by decide))
  · skip
    refine J_aload_n E dX3_add_9 rfl 0 rfl ?_
    refine gT0_X3_9 E dX3_add_10 ?_
    refine J_aload_n E dX3_add_13 rfl 0 rfl ?_
    refine gT0_X3_13 E dX3_add_14 ?_
    refine J_iload_n E dX3_add_17 rfl 1 rfl ?_
    refine siT_1 E dX3_add_18 (by rw [ht]; exact vp_in_nI hk (by decide)) ?_
    refine J_aload_n E dX3_add_19 rfl 0 rfl ?_
    refine J_dup E dX3_add_20 rfl ?_
    refine gT0_X3_13 E dX3_add_21 ?_
    refine J_top (x' := t 1 0) (up2_row (by decide)) ?_
    refine J_iconst E dX3_add_24 ic_1 ?_
    refine J_iadd E dX3_add_25 ?_
    refine pT0_X3_13 E dX3_add_26 ?_
    exact ret _ _ _ (congrArg (wT G h) (rfl)) dX3_add_29

set_option maxHeartbeats 4000000 in
set_option maxRecDepth 20000 in
theorem c_X3_isBetween (l : Launch) (G : GB) (h : Nat → Nat) (t : Q2) (k j : Nat) (lo hi : Int32) (ht : t 1 0 = nI k) (hk : k ≤ 120) (hj : j ≤ 120) : CI l yX3_isBetween cX3_isBetween 4 .boolean 0 0 G [.ref (h 0), .int (nI j), .int lo, .int hi] (wT G h t) (fun v w' => v = bI (j < k ∧ lo ≤ t 0 j ∧ t 0 j ≤ hi) ∧ w' = wT G h t) := by
  refine CI.mk (own := RX3) (by decide) rfl (Nat.le_of_ble_eq_true rfl) ?_
  intro X E ret
  show J X G 4 0 0 (wT G h t) [(0, .ref (h 0)), (1, .int (nI j)), (2, .int lo), (3, .int hi)] 0 []
  refine J_iload_n E dX3_isBetween_0 rfl 1 rfl ?_
  refine J_aload_n E dX3_isBetween_1 rfl 0 rfl ?_
  refine gT0_X3_13 E dX3_isBetween_2 ?_
  refine J_top (x' := nI k) (ht) ?_
  refine J_icmp_ge E (tgt := 32) dX3_isBetween_5 (by decide) (fun c_5 => ?_) (fun c_5 => ?_)
  · skip
    have n_5 : k ≤ j := cmp_le (a := k) (b := j) (by omega) (by omega) c_5
    refine J_iconst E dX3_isBetween_32 ic_0 ?_
    exact ret _ _ _ _ ⟨by first | (rw [bI_t]; exact ⟨by omega, Int32.not_lt.mp c_15, Int32.not_lt.mp c_25⟩) | (rw [bI_f]; intro z; first | omega | exact absurd z.2.1 (Int32.not_le.mpr c_15) | exact absurd z.2.2 (Int32.not_le.mpr c_25)), (congrArg (wT G h) (rfl))⟩ rfl dX3_isBetween_33
  · skip
    have n_5 : ¬ k ≤ j := cmp_nle (a := k) (b := j) (by omega) (by omega) c_5
    refine J_aload_n E dX3_isBetween_8 rfl 0 rfl ?_
    refine gT0_X3_9 E dX3_isBetween_9 ?_
    refine J_iload_n E dX3_isBetween_12 rfl 1 rfl ?_
    refine lT_1 E (j := j) dX3_isBetween_13 (by omega) ?_
    refine J_iload_n E dX3_isBetween_14 rfl 2 rfl ?_
    refine J_icmp_lt E (tgt := 32) dX3_isBetween_15 (by decide) (fun c_15 => ?_) (fun c_15 => ?_)
    · skip
      refine J_iconst E dX3_isBetween_32 ic_0 ?_
      exact ret _ _ _ _ ⟨by first | (rw [bI_t]; exact ⟨by omega, Int32.not_lt.mp c_15, Int32.not_lt.mp c_25⟩) | (rw [bI_f]; intro z; first | omega | exact absurd z.2.1 (Int32.not_le.mpr c_15) | exact absurd z.2.2 (Int32.not_le.mpr c_25)), (congrArg (wT G h) (rfl))⟩ rfl dX3_isBetween_33
    · skip
      refine J_aload_n E dX3_isBetween_18 rfl 0 rfl ?_
      refine gT0_X3_9 E dX3_isBetween_19 ?_
      refine J_iload_n E dX3_isBetween_22 rfl 1 rfl ?_
      refine lT_1 E (j := j) dX3_isBetween_23 (by omega) ?_
      refine J_iload_n E dX3_isBetween_24 rfl 3 rfl ?_
      refine J_icmp_gt E (tgt := 32) dX3_isBetween_25 (by decide) (fun c_25 => ?_) (fun c_25 => ?_)
      · skip
        refine J_iconst E dX3_isBetween_32 ic_0 ?_
        exact ret _ _ _ _ ⟨by first | (rw [bI_t]; exact ⟨by omega, Int32.not_lt.mp c_15, Int32.not_lt.mp c_25⟩) | (rw [bI_f]; intro z; first | omega | exact absurd z.2.1 (Int32.not_le.mpr c_15) | exact absurd z.2.2 (Int32.not_le.mpr c_25)), (congrArg (wT G h) (rfl))⟩ rfl dX3_isBetween_33
      · skip
        refine J_iconst E dX3_isBetween_28 ic_1 ?_
        refine J_goto E (tgt := 33) dX3_isBetween_29 (by decide) ?_
        exact ret _ _ _ _ ⟨by first | (rw [bI_t]; exact ⟨by omega, Int32.not_lt.mp c_15, Int32.not_lt.mp c_25⟩) | (rw [bI_f]; intro z; first | omega | exact absurd z.2.1 (Int32.not_le.mpr c_15) | exact absurd z.2.2 (Int32.not_le.mpr c_25)), (congrArg (wT G h) (rfl))⟩ rfl dX3_isBetween_33

set_option maxHeartbeats 4000000 in
set_option maxRecDepth 20000 in
theorem c_X2_isMissing (l : Launch) (G : GB) (h : Nat → Nat) (s : Q2)  : CI l yX2_isMissing cX2_isMissing 1 .boolean 0 0 G [.ref (h 0)] (wS G h s) (fun v w' => v = bI (s 1 0 = 0) ∧ w' = wS G h s) := by
  refine CI.mk (own := RX2) (by decide) rfl (Nat.le_of_ble_eq_true rfl) ?_
  intro X E ret
  show J X G 1 0 0 (wS G h s) [(0, .ref (h 0))] 0 []
  refine J_aload_n E dX2_isMissing_0 rfl 0 rfl ?_
  refine gS0_X2_13 E dX2_isMissing_1 ?_
  refine J_if_ne E (tgt := 11) dX2_isMissing_4 (by decide) (fun c_4 => ?_) (fun c_4 => ?_)
  · skip
    refine J_iconst E dX2_isMissing_11 ic_0 ?_
    exact ret _ _ _ _ ⟨by simp [bI, c_4], (congrArg (wS G h) (rfl))⟩ rfl dX2_isMissing_12
  · skip
    refine J_iconst E dX2_isMissing_7 ic_1 ?_
    refine J_goto E (tgt := 12) dX2_isMissing_8 (by decide) ?_
    exact ret _ _ _ _ ⟨by simp [bI, c_4], (congrArg (wS G h) (rfl))⟩ rfl dX2_isMissing_12

set_option maxHeartbeats 4000000 in
set_option maxRecDepth 20000 in
theorem c_X2_put (l : Launch) (G : GB) (h : Nat → Nat) (s : Q2) (j : Nat) (v : Int32) (hj : j < 40) : CV l yX2_put cX2_put 3 0 0 0 0 G [.ref (h 0), .int (nI j), .int v] (wS G h s) (fun w' => w' = wS G h (up2 s 0 j (narS (s 1 0) v))) := by
  refine CV.mk (own := RX2) (by decide) rfl (Nat.le_of_ble_eq_true rfl) ?_
  intro X E _ _ _ ret
  show J X G 3 0 0 (wS G h s) [(0, .ref (h 0)), (1, .int (nI j)), (2, .int v)] 0 []
  refine J_aload_n E dX2_put_0 rfl 0 rfl ?_
  refine gS0_X2_9 E dX2_put_1 ?_
  refine J_iload_n E dX2_put_4 rfl 1 rfl ?_
  refine J_aload_n E dX2_put_5 rfl 0 rfl ?_
  refine gS0_X2_13 E dX2_put_6 ?_
  refine J_bipush E dX2_put_9 bp_8 ?_
  refine J_icmp_ne E (tgt := 19) dX2_put_11 (by decide) (fun c_11 => ?_) (fun c_11 => ?_)
  · skip
    refine J_aload_n E dX2_put_19 rfl 0 rfl ?_
    refine gS0_X2_13 E dX2_put_20 ?_
    refine J_bipush E dX2_put_23 bp_16 ?_
    refine J_icmp_ne E (tgt := 33) dX2_put_25 (by decide) (fun c_25 => ?_) (fun c_25 => ?_)
    · skip
      refine J_iload_n E dX2_put_33 rfl 2 rfl ?_
      refine sS_1 E (j := j) dX2_put_34 (by omega) ?_
      exact ret _ _ _ (congrArg (wS G h) (by simp [narS, c_11, c_25])) dX2_put_35
    · skip
      refine J_iload_n E dX2_put_28 rfl 2 rfl ?_
      refine J_i2s E dX2_put_29 rfl ?_
      refine J_goto E (tgt := 34) dX2_put_30 (by decide) ?_
      refine sS_1 E (j := j) dX2_put_34 (by omega) ?_
      exact ret _ _ _ (congrArg (wS G h) (by simp [narS, c_11, c_25])) dX2_put_35
  · skip
    refine J_iload_n E dX2_put_14 rfl 2 rfl ?_
    refine J_i2b E dX2_put_15 rfl ?_
    refine J_goto E (tgt := 34) dX2_put_16 (by decide) ?_
    refine sS_1 E (j := j) dX2_put_34 (by omega) ?_
    exact ret _ _ _ (congrArg (wS G h) (by simp [narS, c_11])) dX2_put_35

set_option maxHeartbeats 4000000 in
set_option maxRecDepth 20000 in
theorem c_X2_hasRun (l : Launch) (G : GB) (h : Nat → Nat) (s : Q2) (f n : Int32) : CI l yX2_hasRun cX2_hasRun 3 .boolean 0 0 G [.ref (h 0), .int f, .int n] (wS G h s) (fun v w' => v = bI (0 ≤ f ∧ 0 ≤ n ∧ f ≤ s 1 1 ∧ n ≤ s 1 1 - f) ∧ w' = wS G h s) := by
  refine CI.mk (own := RX2) (by decide) rfl (Nat.le_of_ble_eq_true rfl) ?_
  intro X E ret
  show J X G 3 0 0 (wS G h s) [(0, .ref (h 0)), (1, .int f), (2, .int n)] 0 []
  refine J_iload_n E dX2_hasRun_0 rfl 1 rfl ?_
  refine J_if_lt E (tgt := 30) dX2_hasRun_1 (by decide) (fun c_1 => ?_) (fun c_1 => ?_)
  · skip
    refine J_iconst E dX2_hasRun_30 ic_0 ?_
    exact ret _ _ _ _ ⟨by first | (rw [bI_t]; exact ⟨Int32.not_lt.mp c_1, Int32.not_lt.mp c_5, Int32.not_lt.mp c_13, Int32.not_lt.mp c_23⟩) | (rw [bI_f]; intro z; first | exact absurd z.1 (Int32.not_le.mpr c_1) | exact absurd z.2.1 (Int32.not_le.mpr c_5) | exact absurd z.2.2.1 (Int32.not_le.mpr c_13) | exact absurd z.2.2.2 (Int32.not_le.mpr c_23)), (congrArg (wS G h) (rfl))⟩ rfl dX2_hasRun_31
  · skip
    refine J_iload_n E dX2_hasRun_4 rfl 2 rfl ?_
    refine J_if_lt E (tgt := 30) dX2_hasRun_5 (by decide) (fun c_5 => ?_) (fun c_5 => ?_)
    · skip
      refine J_iconst E dX2_hasRun_30 ic_0 ?_
      exact ret _ _ _ _ ⟨by first | (rw [bI_t]; exact ⟨Int32.not_lt.mp c_1, Int32.not_lt.mp c_5, Int32.not_lt.mp c_13, Int32.not_lt.mp c_23⟩) | (rw [bI_f]; intro z; first | exact absurd z.1 (Int32.not_le.mpr c_1) | exact absurd z.2.1 (Int32.not_le.mpr c_5) | exact absurd z.2.2.1 (Int32.not_le.mpr c_13) | exact absurd z.2.2.2 (Int32.not_le.mpr c_23)), (congrArg (wS G h) (rfl))⟩ rfl dX2_hasRun_31
    · skip
      refine J_iload_n E dX2_hasRun_8 rfl 1 rfl ?_
      refine J_aload_n E dX2_hasRun_9 rfl 0 rfl ?_
      refine gS0_X2_17 E dX2_hasRun_10 ?_
      refine J_icmp_gt E (tgt := 30) dX2_hasRun_13 (by decide) (fun c_13 => ?_) (fun c_13 => ?_)
      · skip
        refine J_iconst E dX2_hasRun_30 ic_0 ?_
        exact ret _ _ _ _ ⟨by first | (rw [bI_t]; exact ⟨Int32.not_lt.mp c_1, Int32.not_lt.mp c_5, Int32.not_lt.mp c_13, Int32.not_lt.mp c_23⟩) | (rw [bI_f]; intro z; first | exact absurd z.1 (Int32.not_le.mpr c_1) | exact absurd z.2.1 (Int32.not_le.mpr c_5) | exact absurd z.2.2.1 (Int32.not_le.mpr c_13) | exact absurd z.2.2.2 (Int32.not_le.mpr c_23)), (congrArg (wS G h) (rfl))⟩ rfl dX2_hasRun_31
      · skip
        refine J_iload_n E dX2_hasRun_16 rfl 2 rfl ?_
        refine J_aload_n E dX2_hasRun_17 rfl 0 rfl ?_
        refine gS0_X2_17 E dX2_hasRun_18 ?_
        refine J_iload_n E dX2_hasRun_21 rfl 1 rfl ?_
        refine J_isub E dX2_hasRun_22 ?_
        refine J_icmp_gt E (tgt := 30) dX2_hasRun_23 (by decide) (fun c_23 => ?_) (fun c_23 => ?_)
        · skip
          refine J_iconst E dX2_hasRun_30 ic_0 ?_
          exact ret _ _ _ _ ⟨by first | (rw [bI_t]; exact ⟨Int32.not_lt.mp c_1, Int32.not_lt.mp c_5, Int32.not_lt.mp c_13, Int32.not_lt.mp c_23⟩) | (rw [bI_f]; intro z; first | exact absurd z.1 (Int32.not_le.mpr c_1) | exact absurd z.2.1 (Int32.not_le.mpr c_5) | exact absurd z.2.2.1 (Int32.not_le.mpr c_13) | exact absurd z.2.2.2 (Int32.not_le.mpr c_23)), (congrArg (wS G h) (rfl))⟩ rfl dX2_hasRun_31
        · skip
          refine J_iconst E dX2_hasRun_26 ic_1 ?_
          refine J_goto E (tgt := 31) dX2_hasRun_27 (by decide) ?_
          exact ret _ _ _ _ ⟨by first | (rw [bI_t]; exact ⟨Int32.not_lt.mp c_1, Int32.not_lt.mp c_5, Int32.not_lt.mp c_13, Int32.not_lt.mp c_23⟩) | (rw [bI_f]; intro z; first | exact absurd z.1 (Int32.not_le.mpr c_1) | exact absurd z.2.1 (Int32.not_le.mpr c_5) | exact absurd z.2.2.1 (Int32.not_le.mpr c_13) | exact absurd z.2.2.2 (Int32.not_le.mpr c_23)), (congrArg (wS G h) (rfl))⟩ rfl dX2_hasRun_31
