theorem inB1 {n b : Nat} (h1 : 1 ≤ n) (h2 : n ≤ b) (hb : b < 2 ^ 31) : 1 ≤ nI n ∧ nI n ≤ nI b := ⟨nI_le (a := 1) (b := n) h1 (by omega), nI_le h2 hb⟩
theorem or_0 (s : Int32) : s ||| 0 = s := by rw [Int32.or_zero]
def wetB (q : Q2) (j m : Nat) : Bool := decide (drysR q m >>> (nI j &&& 31) &&& 1 = 0)
def stillB (q : Q2) : Bool := allF (fun h => decide (hourR0 q 1 h = q 1 h)) 11
def turn1 (q : Q2) (h : Nat) : Q2 := up2 q 4 h (1 - q 4 h)
def turnRS (q : Q2) (s : Int32) : Nat → Q2
  | 0 => q
  | n + 1 => if s >>> (nI n &&& 31) &&& 1 = 1 then turn1 (turnRS q s n) n else turnRS q s n
def turnRQ (q : Q2) (s : Int32) : Q2 := turnRS q s 11
theorem okQ_w {q : Q2} (h : okQ q) {w : Nat} (j : Nat) (v : Int32) (h0 : ¬ w = 0) (h4 : ¬ w = 4) : okQ (up2 q w j v) := okQ_c h (up2_n q j v (fun e => h0 e.symm)) (up2_n q j v (fun e => h4 e.symm))
theorem okQ_k {q : Q2} (h : okQ q) (j : Nat) {k : Nat} (hk : k < 7) : okQ (up2 q 0 j (nI k)) := by
  refine ⟨spOk_c h.1 (up2_n q j _ (by decide)), fun i hi => ?_⟩
  by_cases e : i = j
  · subst e; exact ⟨k, hk, up2_s⟩
  · rw [up2_d e]; exact h.2 i hi
theorem okQ_1 {q : Q2} (h : okQ q) (j : Nat) (hj : j < 11) : okQ (turn1 q j) := by
  refine ⟨fun i hi => ?_, fun i hi => by rw [turn1, up2_n q j _ (by decide)]; exact h.2 i hi⟩
  unfold turn1
  by_cases e : i = j
  · subst e
    rw [up2_s]
    rcases h.1 i hi with a | a <;> rw [a] <;> decide
  · rw [up2_d e]; exact h.1 i hi
theorem okQ_t {q : Q2} (h : okQ q) (s : Int32) : ∀ n, n ≤ 11 → okQ (turnRS q s n)
  | 0, _ => h
  | n + 1, hn => by
    rw [turnRS]
    split
    · exact okQ_1 (okQ_t h s n (by omega)) n (by omega)
    · exact okQ_t h s n (by omega)
theorem okQ_com {q : Q2} (h : okQ q) (j : Nat) (v : Int32) : okQ (comesR q j v) := okQ_c h (comesR_0 _ _ _) (comesR_4 _ _ _)
/-- the best set, of so many tried -/
def tbF (q : Q2) (v : Int32) (m : Nat) : Nat → Int32
  | 0 => -1
  | n + 1 => if (tbF q v m n < 0 ∨ onesF (nI n) 11 < onesF (tbF q v m n) 11) ∧ drysR (turnRQ q (nI n)) m &&& v = 0 then nI n else tbF q v m n
theorem bool_b {s : Int32} {b : Bool} (h : s = bI (b = true)) (h0 : s = 0) : ¬ b = true := bI_0 (h ▸ h0)
theorem bool_t {s : Int32} {b : Bool} (h : s = bI (b = true)) (h0 : ¬ s = 0) : b = true := bI_1 (h ▸ h0)

set_option maxHeartbeats 4000000 in
set_option maxRecDepth 20000 in
theorem c_X6_hours (l : Launch) (G : GB) (b : Nat → Nat) (y : Q3) (m : Nat) (hm : m ≤ 1000) (hok : okQ (y 0))  : CV l yX6_hours cX6_hours 3 4 91 0 0 G [.ref (b 0), .int (nI m)] (wM G b y) (fun w' => ∃ d : Q2, w' = wM G b (upG (upG y 5 d) 0 (hoursR (y 0) m))) := by
  refine CV.mk (own := RX6) (by decide) rfl (Nat.le_of_ble_eq_true rfl) ?_
  intro X E _ _ _ ret
  show J X G 3 0 0 (wM G b y) [(0, .ref (b 0)), (1, .int (nI m))] 0 []
  refine J_iconst E dX6_hours_0 ic_0 ?_
  refine J_istore_n E (lv' := [(2, .int 0), (0, .ref (b 0)), (1, .int (nI m))]) dX6_hours_1 rfl (by decide) rfl ?_
  refine J_w (ws' := wM G b (upG y 5 (y 5))) (congrArg (wM G b) upG_id.symm) ?_
  have lp2 : ∀ (fu : Nat) (i : Nat) (d : Q2) (r : Q2), (i ≤ m) → (r = hoursR (y 0) i) → m - i < fu → J X G 3 0 0 (wM G b (upG (upG y 5 d) 0 r)) [(0, .ref (b 0)), (1, .int (nI m)), (2, .int (nI i))] 2 [] := by
    intro fu
    induction fu with
    | zero => intro i d r hi hr hm; exact absurd hm (Nat.not_lt_zero _)
    | succ fu ih2 =>
      intro i d r hi hr hm
      refine J_iload_n E dX6_hours_2 rfl 2 rfl ?_
      refine J_iload_n E dX6_hours_3 rfl 1 rfl ?_
      refine J_icmp_ge E (tgt := 17) dX6_hours_4 (by decide) (fun c_4 => ?_) (fun c_4 => ?_)
      · skip
        have n_4 : m ≤ i := cmp_le (a := m) (b := i) (by omega) (by omega) c_4
        exact ret _ _ _ ⟨d, by subst hr; rw [show m = i by omega]⟩ dX6_hours_17
      · skip
        have n_4 : ¬ m ≤ i := cmp_nle (a := m) (b := i) (by omega) (by omega) c_4
        refine J_aload_n E dX6_hours_7 rfl 0 rfl ?_
        refine J_cVv0 E (As := []) (c_X6_anHour l G b (upG (upG y 5 d) 0 r) (by rw [hr]; exact okQ_hs hok i)) cl_X6_138 yo_X6_anHour dX6_hours_8 rfl rfl rfl (Nat.le_of_ble_eq_true rfl) (Nat.le_of_ble_eq_true rfl) rfl (Nat.le_of_ble_eq_true rfl) ⟨Nat.zero_le _, Nat.zero_le _⟩ ?_
        refine J_iinc E (lv' := [(2, .int (nI (i + 1))), (0, .ref (b 0)), (1, .int (nI m))]) dX6_hours_11 2 rfl (nI_inc _) (by decide) rfl ?_
        refine J_goto E (tgt := 2) dX6_hours_14 (by decide) ?_
        refine J_lv [1, 2, 0] rfl ?_
        exact ih2 (i + 1) (hd5 r d) (hourR0 r) (by omega) (by rw [hr]; rfl) (by omega)
  refine J_lv [1, 2, 0] rfl ?_
  exact lp2 _ 0 (y 5) (y 0) (by omega) rfl (Nat.lt_succ_self _)

set_option maxHeartbeats 4000000 in
set_option maxRecDepth 20000 in
theorem c_X6_dryIn (l : Launch) (G : GB) (b : Nat → Nat) (y : Q3) (m : Nat) (hm : m ≤ 1000) (hok : okQ (y 0))  : CI l yX6_dryIn cX6_dryIn 4 .int 4 91 G [.ref (b 0), .int (nI m)] (wM G b y) (fun vR w' => vR = drysR (y 0) m ∧ ∃ d : Q2, w' = wM G b (upG (upG y 5 d) 0 (hoursR (y 0) m))) := by
  refine CI.mk (own := RX6) (by decide) rfl (Nat.le_of_ble_eq_true rfl) ?_
  intro X E ret
  show J X G 4 0 0 (wM G b y) [(0, .ref (b 0)), (1, .int (nI m))] 0 []
  refine J_iconst E dX6_dryIn_0 ic_0 ?_
  refine J_istore_n E (lv' := [(2, .int 0), (0, .ref (b 0)), (1, .int (nI m))]) dX6_dryIn_1 rfl (by decide) rfl ?_
  refine J_iconst E dX6_dryIn_2 ic_0 ?_
  refine J_istore_n E (lv' := [(3, .int 0), (2, .int 0), (0, .ref (b 0)), (1, .int (nI m))]) dX6_dryIn_3 rfl (by decide) rfl ?_
  refine J_w (ws' := wM G b (upG y 5 (y 5))) (congrArg (wM G b) upG_id.symm) ?_
  have lp4 : ∀ (fu : Nat) (i : Nat) (s : Int32) (d : Q2) (r : Q2), (i ≤ m) → (r = hoursR (y 0) i) → (s = drysR (y 0) i) → m - i < fu → J X G 4 0 0 (wM G b (upG (upG y 5 d) 0 r)) [(0, .ref (b 0)), (1, .int (nI m)), (2, .int s), (3, .int (nI i))] 4 [] := by
    intro fu
    induction fu with
    | zero => intro i s d r hi hr hs hm; exact absurd hm (Nat.not_lt_zero _)
    | succ fu ih4 =>
      intro i s d r hi hr hs hm
      refine J_iload_n E dX6_dryIn_4 rfl 3 rfl ?_
      refine J_iload_n E dX6_dryIn_5 rfl 1 rfl ?_
      refine J_icmp_ge E (tgt := 26) dX6_dryIn_6 (by decide) (fun c_6 => ?_) (fun c_6 => ?_)
      · skip
        have n_6 : m ≤ i := cmp_le (a := m) (b := i) (by omega) (by omega) c_6
        refine J_iload_n E dX6_dryIn_26 rfl 2 rfl ?_
        exact ret _ _ _ _ ⟨by rw [hs, show m = i by omega], d, by subst hr; rw [show m = i by omega]⟩ rfl dX6_dryIn_27
      · skip
        have n_6 : ¬ m ≤ i := cmp_nle (a := m) (b := i) (by omega) (by omega) c_6
        refine J_aload_n E dX6_dryIn_9 rfl 0 rfl ?_
        refine J_cVv0 E (As := []) (c_X6_anHour l G b (upG (upG y 5 d) 0 r) (by rw [hr]; exact okQ_hs hok i)) cl_X6_138 yo_X6_anHour dX6_dryIn_10 rfl rfl rfl (Nat.le_of_ble_eq_true rfl) (Nat.le_of_ble_eq_true rfl) rfl (Nat.le_of_ble_eq_true rfl) ⟨Nat.zero_le _, Nat.zero_le _⟩ ?_
        refine J_iload_n E dX6_dryIn_13 rfl 2 rfl ?_
        refine J_aload_n E dX6_dryIn_14 rfl 0 rfl ?_
        refine gM0_X6_131 E dX6_dryIn_15 ?_
        refine J_top (x' := (hd5 r d) 2 0) (Eq.trans (upG_n (by decide)) upG_s) ?_
        refine J_top (x' := dryR r) (rfl) ?_
        refine J_ior E dX6_dryIn_18 ?_
        refine J_istore_n E (lv' := [(2, .int (s ||| (dryR r))), (0, .ref (b 0)), (1, .int (nI m)), (3, .int (nI i))]) dX6_dryIn_19 rfl (by decide) rfl ?_
        refine J_iinc E (lv' := [(3, .int (nI (i + 1))), (2, .int (s ||| (dryR r))), (0, .ref (b 0)), (1, .int (nI m))]) dX6_dryIn_20 3 rfl (nI_inc _) (by decide) rfl ?_
        refine J_goto E (tgt := 4) dX6_dryIn_23 (by decide) ?_
        refine J_lv [2, 3, 1, 0] rfl ?_
        exact ih4 (i + 1) (s ||| (dryR r)) (hd5 r d) (hourR0 r) (by omega) (by rw [hr]; rfl) (by rw [hs, hr]; rfl) (by omega)
  refine J_lv [2, 3, 1, 0] rfl ?_
  exact lp4 _ 0 0 (y 5) (y 0) (by omega) rfl rfl (Nat.lt_succ_self _)

set_option maxHeartbeats 4000000 in
set_option maxRecDepth 20000 in
theorem c_X6_waters (l : Launch) (G : GB) (b : Nat → Nat) (y : Q3)  : CI l yX6_waters cX6_waters 3 .int 1 22 G [.ref (b 0)] (wM G b y) (fun vR w' => vR = sumF (y 0 1) 11 ∧ w' = wM G b y) := by
  refine CI.mk (own := RX6) (by decide) rfl (Nat.le_of_ble_eq_true rfl) ?_
  intro X E ret
  show J X G 3 0 0 (wM G b y) [(0, .ref (b 0))] 0 []
  refine J_iconst E dX6_waters_0 ic_0 ?_
  refine J_istore_n E (lv' := [(1, .int 0), (0, .ref (b 0))]) dX6_waters_1 rfl (by decide) rfl ?_
  refine J_iconst E dX6_waters_2 ic_0 ?_
  refine J_istore_n E (lv' := [(2, .int 0), (1, .int 0), (0, .ref (b 0))]) dX6_waters_3 rfl (by decide) rfl ?_
  have lp4 : ∀ (fu : Nat) (i : Nat) (c : Int32), (i ≤ 11) → (c = sumF (y 0 1) i) → 11 - i < fu → J X G 3 0 0 (wM G b y) [(0, .ref (b 0)), (1, .int c), (2, .int (nI i))] 4 [] := by
    intro fu
    induction fu with
    | zero => intro i c hi h1 hm; exact absurd hm (Nat.not_lt_zero _)
    | succ fu ih4 =>
      intro i c hi h1 hm
      refine J_iload_n E dX6_waters_4 rfl 2 rfl ?_
      refine J_bipush E dX6_waters_5 bp_11 ?_
      refine J_icmp_ge E (tgt := 25) dX6_waters_7 (by decide) (fun c_7 => ?_) (fun c_7 => ?_)
      · skip
        have n_7 : 11 ≤ i := cmp_le (a := 11) (b := i) (by omega) (by omega) c_7
        refine J_iload_n E dX6_waters_25 rfl 1 rfl ?_
        exact ret _ _ _ _ ⟨by rw [h1, show i = 11 by omega], (congrArg (wM G b) (rfl))⟩ rfl dX6_waters_26
      · skip
        have n_7 : ¬ 11 ≤ i := cmp_nle (a := 11) (b := i) (by omega) (by omega) c_7
        refine J_iload_n E dX6_waters_10 rfl 1 rfl ?_
        refine J_aload_n E dX6_waters_11 rfl 0 rfl ?_
        refine J_iload_n E dX6_waters_12 rfl 2 rfl ?_
        refine J_iconst E dX6_waters_13 ic_1 ?_
        refine J_cVi0 E (As := [.int (nI i), .int 1]) (c_X6_its l G b y i 1 (by omega) (by omega)) cl_X6_64 yo_X6_its dX6_waters_14 rfl rfl rfl (Nat.le_of_ble_eq_true rfl) (Nat.le_of_ble_eq_true rfl) rfl (Nat.le_of_ble_eq_true rfl) ⟨Nat.zero_le _, Nat.zero_le _⟩ ?_
        refine J_iadd E dX6_waters_17 ?_
        refine J_istore_n E (lv' := [(1, .int (c + (y 0 1 i))), (0, .ref (b 0)), (2, .int (nI i))]) dX6_waters_18 rfl (by decide) rfl ?_
        refine J_iinc E (lv' := [(2, .int (nI (i + 1))), (1, .int (c + (y 0 1 i))), (0, .ref (b 0))]) dX6_waters_19 2 rfl (nI_inc _) (by decide) rfl ?_
        refine J_goto E (tgt := 4) dX6_waters_22 (by decide) ?_
        refine J_lv [2, 1, 0] rfl ?_
        exact ih4 (i + 1) (c + (y 0 1 i)) (by omega) (by rw [h1]; rfl) (by omega)
  refine J_lv [2, 1, 0] rfl ?_
  exact lp4 _ 0 0 (by omega) rfl (Nat.lt_succ_self _)

set_option maxHeartbeats 4000000 in
set_option maxRecDepth 20000 in
theorem c_X6_dryEver (l : Launch) (G : GB) (b : Nat → Nat) (y : Q3)  : CI l yX6_dryEver cX6_dryEver 3 .int 1 22 G [.ref (b 0)] (wM G b y) (fun vR w' => vR = setF (fun j => decide (0 < y 0 5 j)) 11 ∧ w' = wM G b y) := by
  refine CI.mk (own := RX6) (by decide) rfl (Nat.le_of_ble_eq_true rfl) ?_
  intro X E ret
  show J X G 3 0 0 (wM G b y) [(0, .ref (b 0))] 0 []
  refine J_iconst E dX6_dryEver_0 ic_0 ?_
  refine J_istore_n E (lv' := [(1, .int 0), (0, .ref (b 0))]) dX6_dryEver_1 rfl (by decide) rfl ?_
  refine J_iconst E dX6_dryEver_2 ic_0 ?_
  refine J_istore_n E (lv' := [(2, .int 0), (1, .int 0), (0, .ref (b 0))]) dX6_dryEver_3 rfl (by decide) rfl ?_
  have lp4 : ∀ (fu : Nat) (i : Nat) (c : Int32), (i ≤ 11) → (c = setF (fun j => decide (0 < y 0 5 j)) i) → 11 - i < fu → J X G 3 0 0 (wM G b y) [(0, .ref (b 0)), (1, .int c), (2, .int (nI i))] 4 [] := by
    intro fu
    induction fu with
    | zero => intro i c hi h1 hm; exact absurd hm (Nat.not_lt_zero _)
    | succ fu ih4 =>
      intro i c hi h1 hm
      refine J_iload_n E dX6_dryEver_4 rfl 2 rfl ?_
      refine J_bipush E dX6_dryEver_5 bp_11 ?_
      refine J_icmp_ge E (tgt := 35) dX6_dryEver_7 (by decide) (fun c_7 => ?_) (fun c_7 => ?_)
      · skip
        have n_7 : 11 ≤ i := cmp_le (a := 11) (b := i) (by omega) (by omega) c_7
        refine J_iload_n E dX6_dryEver_35 rfl 1 rfl ?_
        exact ret _ _ _ _ ⟨by rw [h1, show i = 11 by omega], (congrArg (wM G b) (rfl))⟩ rfl dX6_dryEver_36
      · skip
        have n_7 : ¬ 11 ≤ i := cmp_nle (a := 11) (b := i) (by omega) (by omega) c_7
        refine J_iload_n E dX6_dryEver_10 rfl 1 rfl ?_
        refine J_aload_n E dX6_dryEver_11 rfl 0 rfl ?_
        refine J_iload_n E dX6_dryEver_12 rfl 2 rfl ?_
        refine J_iconst E dX6_dryEver_13 ic_5 ?_
        refine J_cVi0 E (As := [.int (nI i), .int 5]) (c_X6_its l G b y i 5 (by omega) (by omega)) cl_X6_64 yo_X6_its dX6_dryEver_14 rfl rfl rfl (Nat.le_of_ble_eq_true rfl) (Nat.le_of_ble_eq_true rfl) rfl (Nat.le_of_ble_eq_true rfl) ⟨Nat.zero_le _, Nat.zero_le _⟩ ?_
        refine J_if_le E (tgt := 26) dX6_dryEver_17 (by decide) (fun c_17 => ?_) (fun c_17 => ?_)
        · skip
          refine J_iconst E dX6_dryEver_26 ic_0 ?_
          refine J_ior E dX6_dryEver_27 ?_
          refine J_istore_n E (lv' := [(1, .int (c ||| 0)), (0, .ref (b 0)), (2, .int (nI i))]) dX6_dryEver_28 rfl (by decide) rfl ?_
          refine J_iinc E (lv' := [(2, .int (nI (i + 1))), (1, .int (c ||| 0)), (0, .ref (b 0))]) dX6_dryEver_29 2 rfl (nI_inc _) (by decide) rfl ?_
          refine J_goto E (tgt := 4) dX6_dryEver_32 (by decide) ?_
          refine J_lv [2, 1, 0] rfl ?_
          exact ih4 (i + 1) (c ||| 0) (by omega) (by rw [h1, setF]; first | (rw [if_pos (decide_eq_true c_17)]; rfl) | (rw [if_neg (c := decide (0 < y 0 5 i) = true) (fun z => absurd (of_decide_eq_true z) (Int32.not_lt.mpr c_17)), or_0])) (by omega)
        · skip
          refine J_iconst E dX6_dryEver_20 ic_1 ?_
          refine J_iload_n E dX6_dryEver_21 rfl 2 rfl ?_
          refine J_ishl E dX6_dryEver_22 ?_
          refine J_goto E (tgt := 27) dX6_dryEver_23 (by decide) ?_
          refine J_ior E dX6_dryEver_27 ?_
          refine J_istore_n E (lv' := [(1, .int (c ||| (1 <<< ((nI i) &&& 31)))), (0, .ref (b 0)), (2, .int (nI i))]) dX6_dryEver_28 rfl (by decide) rfl ?_
          refine J_iinc E (lv' := [(2, .int (nI (i + 1))), (1, .int (c ||| (1 <<< ((nI i) &&& 31)))), (0, .ref (b 0))]) dX6_dryEver_29 2 rfl (nI_inc _) (by decide) rfl ?_
          refine J_goto E (tgt := 4) dX6_dryEver_32 (by decide) ?_
          refine J_lv [2, 1, 0] rfl ?_
          exact ih4 (i + 1) (c ||| (1 <<< ((nI i) &&& 31))) (by omega) (by rw [h1, setF]; first | (rw [if_pos (decide_eq_true c_17)]; rfl) | (rw [if_neg (c := decide (0 < y 0 5 i) = true) (fun z => absurd (of_decide_eq_true z) (Int32.not_lt.mpr c_17)), or_0])) (by omega)
  refine J_lv [2, 1, 0] rfl ?_
  exact lp4 _ 0 0 (by omega) rfl (Nat.lt_succ_self _)

set_option maxHeartbeats 4000000 in
set_option maxRecDepth 20000 in
theorem c_X6_spoutSet (l : Launch) (G : GB) (b : Nat → Nat) (y : Q3)  : CI l yX6_spoutSet cX6_spoutSet 3 .int 1 22 G [.ref (b 0)] (wM G b y) (fun vR w' => vR = spoF (y 0) 11 ∧ w' = wM G b y) := by
  refine CI.mk (own := RX6) (by decide) rfl (Nat.le_of_ble_eq_true rfl) ?_
  intro X E ret
  show J X G 3 0 0 (wM G b y) [(0, .ref (b 0))] 0 []
  refine J_iconst E dX6_spoutSet_0 ic_0 ?_
  refine J_istore_n E (lv' := [(1, .int 0), (0, .ref (b 0))]) dX6_spoutSet_1 rfl (by decide) rfl ?_
  refine J_iconst E dX6_spoutSet_2 ic_0 ?_
  refine J_istore_n E (lv' := [(2, .int 0), (1, .int 0), (0, .ref (b 0))]) dX6_spoutSet_3 rfl (by decide) rfl ?_
  have lp4 : ∀ (fu : Nat) (i : Nat) (c : Int32), (i ≤ 11) → (c = spoF (y 0) i) → 11 - i < fu → J X G 3 0 0 (wM G b y) [(0, .ref (b 0)), (1, .int c), (2, .int (nI i))] 4 [] := by
    intro fu
    induction fu with
    | zero => intro i c hi h1 hm; exact absurd hm (Nat.not_lt_zero _)
    | succ fu ih4 =>
      intro i c hi h1 hm
      refine J_iload_n E dX6_spoutSet_4 rfl 2 rfl ?_
      refine J_bipush E dX6_spoutSet_5 bp_11 ?_
      refine J_icmp_ge E (tgt := 27) dX6_spoutSet_7 (by decide) (fun c_7 => ?_) (fun c_7 => ?_)
      · skip
        have n_7 : 11 ≤ i := cmp_le (a := 11) (b := i) (by omega) (by omega) c_7
        refine J_iload_n E dX6_spoutSet_27 rfl 1 rfl ?_
        exact ret _ _ _ _ ⟨by rw [h1, show i = 11 by omega], (congrArg (wM G b) (rfl))⟩ rfl dX6_spoutSet_28
      · skip
        have n_7 : ¬ 11 ≤ i := cmp_nle (a := 11) (b := i) (by omega) (by omega) c_7
        refine J_iload_n E dX6_spoutSet_10 rfl 1 rfl ?_
        refine J_aload_n E dX6_spoutSet_11 rfl 0 rfl ?_
        refine J_iload_n E dX6_spoutSet_12 rfl 2 rfl ?_
        refine J_iconst E dX6_spoutSet_13 ic_4 ?_
        refine J_cVi0 E (As := [.int (nI i), .int 4]) (c_X6_its l G b y i 4 (by omega) (by omega)) cl_X6_64 yo_X6_its dX6_spoutSet_14 rfl rfl rfl (Nat.le_of_ble_eq_true rfl) (Nat.le_of_ble_eq_true rfl) rfl (Nat.le_of_ble_eq_true rfl) ⟨Nat.zero_le _, Nat.zero_le _⟩ ?_
        refine J_iload_n E dX6_spoutSet_17 rfl 2 rfl ?_
        refine J_ishl E dX6_spoutSet_18 ?_
        refine J_ior E dX6_spoutSet_19 ?_
        refine J_istore_n E (lv' := [(1, .int (c ||| ((y 0 4 i) <<< ((nI i) &&& 31)))), (0, .ref (b 0)), (2, .int (nI i))]) dX6_spoutSet_20 rfl (by decide) rfl ?_
        refine J_iinc E (lv' := [(2, .int (nI (i + 1))), (1, .int (c ||| ((y 0 4 i) <<< ((nI i) &&& 31)))), (0, .ref (b 0))]) dX6_spoutSet_21 2 rfl (nI_inc _) (by decide) rfl ?_
        refine J_goto E (tgt := 4) dX6_spoutSet_24 (by decide) ?_
        refine J_lv [2, 1, 0] rfl ?_
        exact ih4 (i + 1) (c ||| ((y 0 4 i) <<< ((nI i) &&& 31))) (by omega) (by rw [h1]; rfl) (by omega)
  refine J_lv [2, 1, 0] rfl ?_
  exact lp4 _ 0 0 (by omega) rfl (Nat.lt_succ_self _)

set_option maxHeartbeats 4000000 in
set_option maxRecDepth 20000 in
theorem c_X6_go_bad (l : Launch) (G : GB) (b : Nat → Nat) (y : Q3) (n : Int32) (hb : ¬ (1 ≤ n ∧ n ≤ 60)) : CI l yX6_go cX6_go 2 .int 1 25 G [.ref (b 0), .int n] (wM G b y) (fun vR w' => vR = tellR 0 ∧ PubM G b (tellX y 0) w') := by
  refine CI.mk (own := RX6) (by decide) rfl (Nat.le_of_ble_eq_true rfl) ?_
  intro X E ret
  show J X G 2 0 0 (wM G b y) [(0, .ref (b 0)), (1, .int n)] 0 []
  refine J_iload_n E dX6_go_0 rfl 1 rfl ?_
  refine J_i2l E dX6_go_1 rfl ?_
  refine J_lconst E dX6_go_2 lc_1 ?_
  refine J_ldc2 E kl_X6_141 dX6_go_3 ?_
  refine J_cSiN E (As := [.long (Int32.toInt64 n), .long 1, .long 60]) (c_X6_in l G n 1 60 1 60 (by decide) (by decide) ) cl_X6_54 yo_X6_in dX6_go_6 rfl (Nat.le_of_ble_eq_true rfl) (Nat.le_of_ble_eq_true rfl) rfl (Nat.le_of_ble_eq_true rfl) ⟨Nat.zero_le _, Nat.zero_le _⟩ ?_
  refine J_if_ne E (tgt := 18) dX6_go_9 (by decide) (fun c_9 => ?_) (fun c_9 => ?_)
  · skip
    have c_9 := bI_1 c_9
    exact absurd c_9 hb
  · skip
    have c_9 := bI_0 c_9
    refine J_aload_n E dX6_go_12 rfl 0 rfl ?_
    refine J_iconst E dX6_go_13 ic_0 ?_
    refine J_cVi0 E (As := [.int 0]) (c_X6_finds l G b y 0 (by omega)) cl_X6_96 yo_X6_finds dX6_go_14 rfl rfl rfl (Nat.le_of_ble_eq_true rfl) (Nat.le_of_ble_eq_true rfl) rfl (Nat.le_of_ble_eq_true rfl) ⟨Nat.zero_le _, Nat.zero_le _⟩ ?_
    exact ret _ _ _ _ ⟨rfl, _, rfl, by intro g h2 h5 h6; by_cases h0 : g = 0 <;> simp [tellX, upG, up3, up3R, up2, h0, h2, h5, h6]⟩ rfl dX6_go_17

set_option maxHeartbeats 4000000 in
set_option maxRecDepth 20000 in
theorem c_X6_go_state (l : Launch) (G : GB) (b : Nat → Nat) (y : Q3) (n : Nat) (h1 : 1 ≤ n) (h2 : n ≤ 60) (hh : ¬ y 0 7 0 + nI n ≤ 99999) : CI l yX6_go cX6_go 2 .int 1 25 G [.ref (b 0), .int (nI n)] (wM G b y) (fun vR w' => vR = tellR 4 ∧ PubM G b (tellX y 4) w') := by
  refine CI.mk (own := RX6) (by decide) rfl (Nat.le_of_ble_eq_true rfl) ?_
  intro X E ret
  show J X G 2 0 0 (wM G b y) [(0, .ref (b 0)), (1, .int (nI n))] 0 []
  refine J_iload_n E dX6_go_0 rfl 1 rfl ?_
  refine J_i2l E dX6_go_1 rfl ?_
  refine J_lconst E dX6_go_2 lc_1 ?_
  refine J_ldc2 E kl_X6_141 dX6_go_3 ?_
  refine J_cSiN E (As := [.long (Int32.toInt64 (nI n)), .long 1, .long 60]) (c_X6_in l G (nI n) 1 60 1 60 (by decide) (by decide) ) cl_X6_54 yo_X6_in dX6_go_6 rfl (Nat.le_of_ble_eq_true rfl) (Nat.le_of_ble_eq_true rfl) rfl (Nat.le_of_ble_eq_true rfl) ⟨Nat.zero_le _, Nat.zero_le _⟩ ?_
  refine J_if_ne E (tgt := 18) dX6_go_9 (by decide) (fun c_9 => ?_) (fun c_9 => ?_)
  · skip
    have c_9 := bI_1 c_9
    refine J_aload_n E dX6_go_18 rfl 0 rfl ?_
    refine gM0_X6_9 E dX6_go_19 ?_
    refine J_iconst E dX6_go_22 ic_0 ?_
    refine lMs E (j := 0) (r := 7) (i := 0) (at_7 (by decide)) dX6_go_23 ?_
    refine J_iload_n E dX6_go_24 rfl 1 rfl ?_
    refine J_iadd E dX6_go_25 ?_
    refine J_ldc E kn_X6_143 dX6_go_26 ?_
    refine J_icmp_le E (tgt := 37) dX6_go_28 (by decide) (fun c_28 => ?_) (fun c_28 => ?_)
    · skip
      exact absurd c_28 hh
    · skip
      refine J_aload_n E dX6_go_31 rfl 0 rfl ?_
      refine J_iconst E dX6_go_32 ic_4 ?_
      refine J_cVi0 E (As := [.int 4]) (c_X6_finds l G b y 4 (by omega)) cl_X6_96 yo_X6_finds dX6_go_33 rfl rfl rfl (Nat.le_of_ble_eq_true rfl) (Nat.le_of_ble_eq_true rfl) rfl (Nat.le_of_ble_eq_true rfl) ⟨Nat.zero_le _, Nat.zero_le _⟩ ?_
      exact ret _ _ _ _ ⟨rfl, _, rfl, by intro g h2 h5 h6; by_cases h0 : g = 0 <;> simp [tellX, upG, up3, up3R, up2, h0, h2, h5, h6]⟩ rfl dX6_go_36
  · skip
    have c_9 := bI_0 c_9
    exact absurd (inB1 (b := 60) h1 h2 (by decide)) c_9

set_option maxHeartbeats 4000000 in
set_option maxRecDepth 20000 in
theorem c_X6_go_ok (l : Launch) (G : GB) (b : Nat → Nat) (y : Q3) (n : Nat) (h1 : 1 ≤ n) (h2 : n ≤ 60) (hh : y 0 7 0 + nI n ≤ 99999) (hok : okQ (y 0))  : CI l yX6_go cX6_go 2 .int 5 113 G [.ref (b 0), .int (nI n)] (wM G b y) (fun vR w' => vR = hoursR (y 0) n 7 3 ∧ PubM G b (upG y 0 (hoursR (y 0) n)) w') := by
  refine CI.mk (own := RX6) (by decide) rfl (Nat.le_of_ble_eq_true rfl) ?_
  intro X E ret
  show J X G 2 0 0 (wM G b y) [(0, .ref (b 0)), (1, .int (nI n))] 0 []
  refine J_iload_n E dX6_go_0 rfl 1 rfl ?_
  refine J_i2l E dX6_go_1 rfl ?_
  refine J_lconst E dX6_go_2 lc_1 ?_
  refine J_ldc2 E kl_X6_141 dX6_go_3 ?_
  refine J_cSiN E (As := [.long (Int32.toInt64 (nI n)), .long 1, .long 60]) (c_X6_in l G (nI n) 1 60 1 60 (by decide) (by decide) ) cl_X6_54 yo_X6_in dX6_go_6 rfl (Nat.le_of_ble_eq_true rfl) (Nat.le_of_ble_eq_true rfl) rfl (Nat.le_of_ble_eq_true rfl) ⟨Nat.zero_le _, Nat.zero_le _⟩ ?_
  refine J_if_ne E (tgt := 18) dX6_go_9 (by decide) (fun c_9 => ?_) (fun c_9 => ?_)
  · skip
    have c_9 := bI_1 c_9
    refine J_aload_n E dX6_go_18 rfl 0 rfl ?_
    refine gM0_X6_9 E dX6_go_19 ?_
    refine J_iconst E dX6_go_22 ic_0 ?_
    refine lMs E (j := 0) (r := 7) (i := 0) (at_7 (by decide)) dX6_go_23 ?_
    refine J_iload_n E dX6_go_24 rfl 1 rfl ?_
    refine J_iadd E dX6_go_25 ?_
    refine J_ldc E kn_X6_143 dX6_go_26 ?_
    refine J_icmp_le E (tgt := 37) dX6_go_28 (by decide) (fun c_28 => ?_) (fun c_28 => ?_)
    · skip
      refine J_aload_n E dX6_go_37 rfl 0 rfl ?_
      refine J_iload_n E dX6_go_38 rfl 1 rfl ?_
      refine J_callVv E (As := [.int (nI n)]) (q0 := 0) (ci := 5) [] [] (c_X6_hours l G b y n (by omega) hok) cl_X6_144 yo_X6_hours dX6_go_39 rfl rfl rfl (Nat.le_of_ble_eq_true rfl) (Nat.le_of_ble_eq_true rfl) rfl (Nat.le_of_ble_eq_true rfl) (by simp) ⟨Nat.zero_le _, Nat.zero_le _⟩ (fun w' hp => ?_)
      obtain ⟨d39_1, rfl⟩ := hp
      refine J_w (ws' := wM G b (upG (upG y 5 d39_1) 0 (hoursR (y 0) n))) (List.append_nil _) ?_
      refine J_aload_n E dX6_go_42 rfl 0 rfl ?_
      refine gM0_X6_9 E dX6_go_43 ?_
      refine J_iconst E dX6_go_46 ic_3 ?_
      refine lMs E (j := 3) (r := 7) (i := 3) (at_7 (by decide)) dX6_go_47 ?_
      refine J_top (x' := (hoursR (y 0) n) 7 3) upG_s ?_
      exact ret _ _ _ _ ⟨rfl, _, rfl, by intro g h2 h5 h6; by_cases h0 : g = 0 <;> simp [tellX, upG, up3, up3R, up2, h0, h2, h5, h6]⟩ rfl dX6_go_48
    · skip
      exact absurd hh c_28
  · skip
    have c_9 := bI_0 c_9
    exact absurd (inB1 (b := 60) h1 h2 (by decide)) c_9

set_option maxHeartbeats 4000000 in
set_option maxRecDepth 20000 in
theorem c_X6_mayBe (l : Launch) (G : GB) (k : Nat) (v : Int32) (hk : k < 6) : CI l yX6_mayBe cX6_mayBe 2 .boolean 2 45 G [.int (nI k), .int v] ([]) (fun vR w' => vR = bI (0 ≤ v ∧ v ≤ mostF (nI k)) ∧ w' = []) := by
  refine CI.mk (own := RX6) (by decide) rfl (Nat.le_of_ble_eq_true rfl) ?_
  intro X E ret
  show J X G 2 0 0 ([]) [(0, .int (nI k)), (1, .int v)] 0 []
  rcases (show k = 0 ∨ k = 1 ∨ k = 2 ∨ k = 3 ∨ k = 4 ∨ k = 5 by omega) with rfl | rfl | rfl | rfl | rfl | rfl
  · skip
    refine J_iload_n E dX6_mayBe_0 rfl 0 rfl ?_
    refine J_tabIn E (tgt := 40) (off := 39) dX6_mayBe_1 (by decide) (by decide) rfl (by decide) ?_
    refine J_iload_n E dX6_mayBe_40 rfl 1 rfl ?_
    refine J_cSiN E (As := [.int v]) (c_X6_isKind l G v ) cl_X6_77 yo_X6_isKind dX6_mayBe_41 rfl (Nat.le_of_ble_eq_true rfl) (Nat.le_of_ble_eq_true rfl) rfl (Nat.le_of_ble_eq_true rfl) ⟨Nat.zero_le _, Nat.zero_le _⟩ ?_
    exact ret _ _ _ _ ⟨rfl, rfl⟩ bI_nar dX6_mayBe_44
  · skip
    refine J_iload_n E dX6_mayBe_0 rfl 0 rfl ?_
    refine J_tabIn E (tgt := 45) (off := 44) dX6_mayBe_1 (by decide) (by decide) rfl (by decide) ?_
    refine J_iload_n E dX6_mayBe_45 rfl 1 rfl ?_
    refine J_i2l E dX6_mayBe_46 rfl ?_
    refine J_lconst E dX6_mayBe_47 lc_0 ?_
    refine J_ldc2 E kl_X6_81 dX6_mayBe_48 ?_
    refine J_cSiN E (As := [.long (Int32.toInt64 v), .long 0, .long 9999]) (c_X6_in l G v 0 9999 0 9999 (by decide) (by decide) ) cl_X6_54 yo_X6_in dX6_mayBe_51 rfl (Nat.le_of_ble_eq_true rfl) (Nat.le_of_ble_eq_true rfl) rfl (Nat.le_of_ble_eq_true rfl) ⟨Nat.zero_le _, Nat.zero_le _⟩ ?_
    exact ret _ _ _ _ ⟨rfl, rfl⟩ bI_nar dX6_mayBe_54
  · skip
    refine J_iload_n E dX6_mayBe_0 rfl 0 rfl ?_
    refine J_tabIn E (tgt := 55) (off := 54) dX6_mayBe_1 (by decide) (by decide) rfl (by decide) ?_
    refine J_iload_n E dX6_mayBe_55 rfl 1 rfl ?_
    refine J_i2l E dX6_mayBe_56 rfl ?_
    refine J_lconst E dX6_mayBe_57 lc_0 ?_
    refine J_ldc2 E kl_X6_83 dX6_mayBe_58 ?_
    refine J_cSiN E (As := [.long (Int32.toInt64 v), .long 0, .long 99]) (c_X6_in l G v 0 99 0 99 (by decide) (by decide) ) cl_X6_54 yo_X6_in dX6_mayBe_61 rfl (Nat.le_of_ble_eq_true rfl) (Nat.le_of_ble_eq_true rfl) rfl (Nat.le_of_ble_eq_true rfl) ⟨Nat.zero_le _, Nat.zero_le _⟩ ?_
    exact ret _ _ _ _ ⟨rfl, rfl⟩ bI_nar dX6_mayBe_64
  · skip
    refine J_iload_n E dX6_mayBe_0 rfl 0 rfl ?_
    refine J_tabIn E (tgt := 65) (off := 64) dX6_mayBe_1 (by decide) (by decide) rfl (by decide) ?_
    refine J_iload_n E dX6_mayBe_65 rfl 1 rfl ?_
    refine J_i2l E dX6_mayBe_66 rfl ?_
    refine J_lconst E dX6_mayBe_67 lc_0 ?_
    refine J_ldc2 E kl_X6_85 dX6_mayBe_68 ?_
    refine J_cSiN E (As := [.long (Int32.toInt64 v), .long 0, .long 999]) (c_X6_in l G v 0 999 0 999 (by decide) (by decide) ) cl_X6_54 yo_X6_in dX6_mayBe_71 rfl (Nat.le_of_ble_eq_true rfl) (Nat.le_of_ble_eq_true rfl) rfl (Nat.le_of_ble_eq_true rfl) ⟨Nat.zero_le _, Nat.zero_le _⟩ ?_
    exact ret _ _ _ _ ⟨rfl, rfl⟩ bI_nar dX6_mayBe_74
  · skip
    refine J_iload_n E dX6_mayBe_0 rfl 0 rfl ?_
    refine J_tabIn E (tgt := 75) (off := 74) dX6_mayBe_1 (by decide) (by decide) rfl (by decide) ?_
    refine J_iload_n E dX6_mayBe_75 rfl 0 rfl ?_
    refine J_iconst E dX6_mayBe_76 ic_4 ?_
    refine J_icmp_ne E (tgt := 94) dX6_mayBe_77 (by decide) (fun c_77 => ?_) (fun c_77 => ?_)
    · skip
      have n_77 : ¬ 4 = 4 := cmp_ne (a := 4) (b := 4) (by omega) (by omega) c_77
      exact absurd n_77 (by decide)
    · skip
      have n_77 : 4 = 4 := cmp_eq (a := 4) (b := 4) (by omega) (by omega) c_77
      refine J_iload_n E dX6_mayBe_80 rfl 1 rfl ?_
      refine J_i2l E dX6_mayBe_81 rfl ?_
      refine J_lconst E dX6_mayBe_82 lc_0 ?_
      refine J_lconst E dX6_mayBe_83 lc_1 ?_
      refine J_cSiN E (As := [.long (Int32.toInt64 v), .long 0, .long 1]) (c_X6_in l G v 0 1 0 1 (by decide) (by decide) ) cl_X6_54 yo_X6_in dX6_mayBe_84 rfl (Nat.le_of_ble_eq_true rfl) (Nat.le_of_ble_eq_true rfl) rfl (Nat.le_of_ble_eq_true rfl) ⟨Nat.zero_le _, Nat.zero_le _⟩ ?_
      refine J_if_eq E (tgt := 94) dX6_mayBe_87 (by decide) (fun c_87 => ?_) (fun c_87 => ?_)
      · skip
        have c_87 := bI_0 c_87
        refine J_iconst E dX6_mayBe_94 ic_0 ?_
        exact ret _ _ _ _ ⟨by first | (rw [bI_t]; exact c_87) | (rw [bI_f]; exact c_87), rfl⟩ rfl dX6_mayBe_95
      · skip
        have c_87 := bI_1 c_87
        refine J_iconst E dX6_mayBe_90 ic_1 ?_
        refine J_goto E (tgt := 95) dX6_mayBe_91 (by decide) ?_
        exact ret _ _ _ _ ⟨by first | (rw [bI_t]; exact c_87) | (rw [bI_f]; exact c_87), rfl⟩ rfl dX6_mayBe_95
  · skip
    refine J_iload_n E dX6_mayBe_0 rfl 0 rfl ?_
    refine J_tabIn E (tgt := 45) (off := 44) dX6_mayBe_1 (by decide) (by decide) rfl (by decide) ?_
    refine J_iload_n E dX6_mayBe_45 rfl 1 rfl ?_
    refine J_i2l E dX6_mayBe_46 rfl ?_
    refine J_lconst E dX6_mayBe_47 lc_0 ?_
    refine J_ldc2 E kl_X6_81 dX6_mayBe_48 ?_
    refine J_cSiN E (As := [.long (Int32.toInt64 v), .long 0, .long 9999]) (c_X6_in l G v 0 9999 0 9999 (by decide) (by decide) ) cl_X6_54 yo_X6_in dX6_mayBe_51 rfl (Nat.le_of_ble_eq_true rfl) (Nat.le_of_ble_eq_true rfl) rfl (Nat.le_of_ble_eq_true rfl) ⟨Nat.zero_le _, Nat.zero_le _⟩ ?_
    exact ret _ _ _ _ ⟨rfl, rfl⟩ bI_nar dX6_mayBe_54

set_option maxHeartbeats 4000000 in
set_option maxRecDepth 20000 in
theorem c_X6_mayBe_out (l : Launch) (G : GB) (k v : Int32) (hk : ¬ (0 ≤ k ∧ k ≤ 5)) : CI l yX6_mayBe cX6_mayBe 2 .boolean 1 25 G [.int k, .int v] ([]) (fun vR w' => vR = 0 ∧ w' = []) := by
  refine CI.mk (own := RX6) (by decide) rfl (Nat.le_of_ble_eq_true rfl) ?_
  intro X E ret
  show J X G 2 0 0 ([]) [(0, .int k), (1, .int v)] 0 []
  refine J_iload_n E dX6_mayBe_0 rfl 0 rfl ?_
  by_cases c_1 : (k).toInt < 0 ∨ 5 < (k).toInt
  · refine J_tabOut E (tgt := 75) dX6_mayBe_1 c_1 (by decide) ?_
    have n_1_0 : ¬ k = 0 := ne_out c_1 (by decide)
    have n_1_1 : ¬ k = 1 := ne_out c_1 (by decide)
    have n_1_2 : ¬ k = 2 := ne_out c_1 (by decide)
    have n_1_3 : ¬ k = 3 := ne_out c_1 (by decide)
    have n_1_4 : ¬ k = 4 := ne_out c_1 (by decide)
    have n_1_5 : ¬ k = 5 := ne_out c_1 (by decide)
    refine J_iload_n E dX6_mayBe_75 rfl 0 rfl ?_
    refine J_iconst E dX6_mayBe_76 ic_4 ?_
    refine J_icmp_ne E (tgt := 94) dX6_mayBe_77 (by decide) (fun c_77 => ?_) (fun c_77 => ?_)
    · skip
      refine J_iconst E dX6_mayBe_94 ic_0 ?_
      exact ret _ _ _ _ ⟨rfl, rfl⟩ rfl dX6_mayBe_95
    · skip
      exact absurd (by rw [c_77]; decide) hk
      refine J_iload_n E dX6_mayBe_80 rfl 1 rfl ?_
      refine J_i2l E dX6_mayBe_81 rfl ?_
      refine J_lconst E dX6_mayBe_82 lc_0 ?_
      refine J_lconst E dX6_mayBe_83 lc_1 ?_
      refine J_cSiN E (As := [.long (Int32.toInt64 v), .long 0, .long 1]) (c_X6_in l G v 0 1 0 1 (by decide) (by decide) ) cl_X6_54 yo_X6_in dX6_mayBe_84 rfl (Nat.le_of_ble_eq_true rfl) (Nat.le_of_ble_eq_true rfl) rfl (Nat.le_of_ble_eq_true rfl) ⟨Nat.zero_le _, Nat.zero_le _⟩ ?_
      refine J_if_eq E (tgt := 94) dX6_mayBe_87 (by decide) (fun c_87 => ?_) (fun c_87 => ?_)
      · skip
        have c_87 := bI_0 c_87
        refine J_iconst E dX6_mayBe_94 ic_0 ?_
        exact ret _ _ _ _ ⟨rfl, rfl⟩ rfl dX6_mayBe_95
      · skip
        have c_87 := bI_1 c_87
        refine J_iconst E dX6_mayBe_90 ic_1 ?_
        refine J_goto E (tgt := 95) dX6_mayBe_91 (by decide) ?_
        exact ret _ _ _ _ ⟨rfl, rfl⟩ rfl dX6_mayBe_95
  · rcases sw_0_5 c_1 with i_1 | i_1 | i_1 | i_1 | i_1 | i_1
    · refine J_top i_1 ?_
      refine J_tabIn E (tgt := 40) (off := 39) dX6_mayBe_1 (by decide) (by decide) rfl (by decide) ?_
      exact absurd (by rw [i_1]; decide) hk
    · refine J_top i_1 ?_
      refine J_tabIn E (tgt := 45) (off := 44) dX6_mayBe_1 (by decide) (by decide) rfl (by decide) ?_
      exact absurd (by rw [i_1]; decide) hk
    · refine J_top i_1 ?_
      refine J_tabIn E (tgt := 55) (off := 54) dX6_mayBe_1 (by decide) (by decide) rfl (by decide) ?_
      exact absurd (by rw [i_1]; decide) hk
    · refine J_top i_1 ?_
      refine J_tabIn E (tgt := 65) (off := 64) dX6_mayBe_1 (by decide) (by decide) rfl (by decide) ?_
      exact absurd (by rw [i_1]; decide) hk
    · refine J_top i_1 ?_
      refine J_tabIn E (tgt := 75) (off := 74) dX6_mayBe_1 (by decide) (by decide) rfl (by decide) ?_
      refine J_iload_n E dX6_mayBe_75 rfl 0 rfl ?_
      refine J_iconst E dX6_mayBe_76 ic_4 ?_
      refine J_icmp_ne E (tgt := 94) dX6_mayBe_77 (by decide) (fun c_77 => ?_) (fun c_77 => ?_)
      · skip
        refine J_iconst E dX6_mayBe_94 ic_0 ?_
        exact ret _ _ _ _ ⟨rfl, rfl⟩ rfl dX6_mayBe_95
      · skip
        exact absurd (by rw [c_77]; decide) hk
        refine J_iload_n E dX6_mayBe_80 rfl 1 rfl ?_
        refine J_i2l E dX6_mayBe_81 rfl ?_
        refine J_lconst E dX6_mayBe_82 lc_0 ?_
        refine J_lconst E dX6_mayBe_83 lc_1 ?_
        refine J_cSiN E (As := [.long (Int32.toInt64 v), .long 0, .long 1]) (c_X6_in l G v 0 1 0 1 (by decide) (by decide) ) cl_X6_54 yo_X6_in dX6_mayBe_84 rfl (Nat.le_of_ble_eq_true rfl) (Nat.le_of_ble_eq_true rfl) rfl (Nat.le_of_ble_eq_true rfl) ⟨Nat.zero_le _, Nat.zero_le _⟩ ?_
        refine J_if_eq E (tgt := 94) dX6_mayBe_87 (by decide) (fun c_87 => ?_) (fun c_87 => ?_)
        · skip
          have c_87 := bI_0 c_87
          refine J_iconst E dX6_mayBe_94 ic_0 ?_
          exact ret _ _ _ _ ⟨rfl, rfl⟩ rfl dX6_mayBe_95
        · skip
          have c_87 := bI_1 c_87
          refine J_iconst E dX6_mayBe_90 ic_1 ?_
          refine J_goto E (tgt := 95) dX6_mayBe_91 (by decide) ?_
          exact ret _ _ _ _ ⟨rfl, rfl⟩ rfl dX6_mayBe_95
    · refine J_top i_1 ?_
      refine J_tabIn E (tgt := 45) (off := 44) dX6_mayBe_1 (by decide) (by decide) rfl (by decide) ?_
      exact absurd (by rw [i_1]; decide) hk

set_option maxHeartbeats 4000000 in
set_option maxRecDepth 20000 in
theorem c_X6_change_bad (l : Launch) (G : GB) (b : Nat → Nat) (y : Q3) (h v : Int32) (k : Nat) (hk : k < 6) (hb : ¬ (okH h ∧ 0 ≤ v ∧ v ≤ mostF (nI k))) : CI l yX6_change cX6_change 4 .int 3 66 G [.ref (b 0), .int h, .int (nI k), .int v] (wM G b y) (fun vR w' => vR = tellR 0 ∧ PubM G b (tellX y 0) w') := by
  refine CI.mk (own := RX6) (by decide) rfl (Nat.le_of_ble_eq_true rfl) ?_
  intro X E ret
  show J X G 4 0 0 (wM G b y) [(0, .ref (b 0)), (1, .int h), (2, .int (nI k)), (3, .int v)] 0 []
  refine J_iload_n E dX6_change_0 rfl 1 rfl ?_
  refine J_cSiN E (As := [.int h]) (c_X6_isHouse l G h ) cl_X6_87 yo_X6_isHouse dX6_change_1 rfl (Nat.le_of_ble_eq_true rfl) (Nat.le_of_ble_eq_true rfl) rfl (Nat.le_of_ble_eq_true rfl) ⟨Nat.zero_le _, Nat.zero_le _⟩ ?_
  refine J_if_eq E (tgt := 31) dX6_change_4 (by decide) (fun c_4 => ?_) (fun c_4 => ?_)
  · skip
    have c_4 := bI_0 c_4
    refine J_aload_n E dX6_change_31 rfl 0 rfl ?_
    refine J_iconst E dX6_change_32 ic_0 ?_
    refine J_cVi0 E (As := [.int 0]) (c_X6_finds l G b y 0 (by omega)) cl_X6_96 yo_X6_finds dX6_change_33 rfl rfl rfl (Nat.le_of_ble_eq_true rfl) (Nat.le_of_ble_eq_true rfl) rfl (Nat.le_of_ble_eq_true rfl) ⟨Nat.zero_le _, Nat.zero_le _⟩ ?_
    exact ret _ _ _ _ ⟨rfl, _, rfl, by intro g h2 h5 h6; by_cases h0 : g = 0 <;> simp [tellX, upG, up3, up3R, up2, h0, h2, h5, h6]⟩ rfl dX6_change_36
  · skip
    have c_4 := bI_1 c_4
    refine J_iload_n E dX6_change_7 rfl 2 rfl ?_
    refine J_iload_n E dX6_change_8 rfl 3 rfl ?_
    refine J_cSiN E (As := [.int (nI k), .int v]) (c_X6_mayBe l G k v (by omega)) cl_X6_90 yo_X6_mayBe dX6_change_9 rfl (Nat.le_of_ble_eq_true rfl) (Nat.le_of_ble_eq_true rfl) rfl (Nat.le_of_ble_eq_true rfl) ⟨Nat.zero_le _, Nat.zero_le _⟩ ?_
    refine J_if_eq E (tgt := 31) dX6_change_12 (by decide) (fun c_12 => ?_) (fun c_12 => ?_)
    · skip
      have c_12 := bI_0 c_12
      refine J_aload_n E dX6_change_31 rfl 0 rfl ?_
      refine J_iconst E dX6_change_32 ic_0 ?_
      refine J_cVi0 E (As := [.int 0]) (c_X6_finds l G b y 0 (by omega)) cl_X6_96 yo_X6_finds dX6_change_33 rfl rfl rfl (Nat.le_of_ble_eq_true rfl) (Nat.le_of_ble_eq_true rfl) rfl (Nat.le_of_ble_eq_true rfl) ⟨Nat.zero_le _, Nat.zero_le _⟩ ?_
      exact ret _ _ _ _ ⟨rfl, _, rfl, by intro g h2 h5 h6; by_cases h0 : g = 0 <;> simp [tellX, upG, up3, up3R, up2, h0, h2, h5, h6]⟩ rfl dX6_change_36
    · skip
      have c_12 := bI_1 c_12
      exact absurd ⟨c_4, c_12⟩ hb

set_option maxHeartbeats 4000000 in
set_option maxRecDepth 20000 in
theorem c_X6_change_out (l : Launch) (G : GB) (b : Nat → Nat) (y : Q3) (h w v : Int32) (hk : ¬ (0 ≤ w ∧ w ≤ 5)) : CI l yX6_change cX6_change 4 .int 3 66 G [.ref (b 0), .int h, .int w, .int v] (wM G b y) (fun vR w' => vR = tellR 0 ∧ PubM G b (tellX y 0) w') := by
  refine CI.mk (own := RX6) (by decide) rfl (Nat.le_of_ble_eq_true rfl) ?_
  intro X E ret
  show J X G 4 0 0 (wM G b y) [(0, .ref (b 0)), (1, .int h), (2, .int w), (3, .int v)] 0 []
  refine J_iload_n E dX6_change_0 rfl 1 rfl ?_
  refine J_cSiN E (As := [.int h]) (c_X6_isHouse l G h ) cl_X6_87 yo_X6_isHouse dX6_change_1 rfl (Nat.le_of_ble_eq_true rfl) (Nat.le_of_ble_eq_true rfl) rfl (Nat.le_of_ble_eq_true rfl) ⟨Nat.zero_le _, Nat.zero_le _⟩ ?_
  refine J_if_eq E (tgt := 31) dX6_change_4 (by decide) (fun c_4 => ?_) (fun c_4 => ?_)
  · skip
    have c_4 := bI_0 c_4
    refine J_aload_n E dX6_change_31 rfl 0 rfl ?_
    refine J_iconst E dX6_change_32 ic_0 ?_
    refine J_cVi0 E (As := [.int 0]) (c_X6_finds l G b y 0 (by omega)) cl_X6_96 yo_X6_finds dX6_change_33 rfl rfl rfl (Nat.le_of_ble_eq_true rfl) (Nat.le_of_ble_eq_true rfl) rfl (Nat.le_of_ble_eq_true rfl) ⟨Nat.zero_le _, Nat.zero_le _⟩ ?_
    exact ret _ _ _ _ ⟨rfl, _, rfl, by intro g h2 h5 h6; by_cases h0 : g = 0 <;> simp [tellX, upG, up3, up3R, up2, h0, h2, h5, h6]⟩ rfl dX6_change_36
  · skip
    have c_4 := bI_1 c_4
    refine J_iload_n E dX6_change_7 rfl 2 rfl ?_
    refine J_iload_n E dX6_change_8 rfl 3 rfl ?_
    refine J_cSiN E (As := [.int w, .int v]) (c_X6_mayBe_out l G w v hk) cl_X6_90 yo_X6_mayBe dX6_change_9 rfl (Nat.le_of_ble_eq_true rfl) (Nat.le_of_ble_eq_true rfl) rfl (Nat.le_of_ble_eq_true rfl) ⟨Nat.zero_le _, Nat.zero_le _⟩ ?_
    refine J_if_eq E (tgt := 31) dX6_change_12 (by decide) (fun c_12 => ?_) (fun c_12 => ?_)
    · skip
      have n_12 : 0 = 0 := cmp_eq (a := 0) (b := 0) (by omega) (by omega) c_12
      refine J_aload_n E dX6_change_31 rfl 0 rfl ?_
      refine J_iconst E dX6_change_32 ic_0 ?_
      refine J_cVi0 E (As := [.int 0]) (c_X6_finds l G b y 0 (by omega)) cl_X6_96 yo_X6_finds dX6_change_33 rfl rfl rfl (Nat.le_of_ble_eq_true rfl) (Nat.le_of_ble_eq_true rfl) rfl (Nat.le_of_ble_eq_true rfl) ⟨Nat.zero_le _, Nat.zero_le _⟩ ?_
      exact ret _ _ _ _ ⟨rfl, _, rfl, by intro g h2 h5 h6; by_cases h0 : g = 0 <;> simp [tellX, upG, up3, up3R, up2, h0, h2, h5, h6]⟩ rfl dX6_change_36
    · skip
      have n_12 : ¬ 0 = 0 := cmp_ne (a := 0) (b := 0) (by omega) (by omega) c_12
      exact absurd n_12 (by decide)

set_option maxHeartbeats 4000000 in
set_option maxRecDepth 20000 in
theorem c_X6_change_ok (l : Launch) (G : GB) (b : Nat → Nat) (y : Q3) (j k : Nat) (v : Int32) (hj : j < 11) (hk : k < 6) (hv : 0 ≤ v ∧ v ≤ mostF (nI k)) : CI l yX6_change cX6_change 4 .int 3 66 G [.ref (b 0), .int (nI j), .int (nI k), .int v] (wM G b y) (fun vR w' => vR = y 0 k j ∧ PubM G b (up3 y 0 k j v) w') := by
  refine CI.mk (own := RX6) (by decide) rfl (Nat.le_of_ble_eq_true rfl) ?_
  intro X E ret
  show J X G 4 0 0 (wM G b y) [(0, .ref (b 0)), (1, .int (nI j)), (2, .int (nI k)), (3, .int v)] 0 []
  refine J_iload_n E dX6_change_0 rfl 1 rfl ?_
  refine J_cSiN E (As := [.int (nI j)]) (c_X6_isHouse l G (nI j) ) cl_X6_87 yo_X6_isHouse dX6_change_1 rfl (Nat.le_of_ble_eq_true rfl) (Nat.le_of_ble_eq_true rfl) rfl (Nat.le_of_ble_eq_true rfl) ⟨Nat.zero_le _, Nat.zero_le _⟩ ?_
  refine J_if_eq E (tgt := 31) dX6_change_4 (by decide) (fun c_4 => ?_) (fun c_4 => ?_)
  · skip
    have c_4 := bI_0 c_4
    exact absurd (inB (a := j) (b := 10) (by omega) (by decide)) c_4
  · skip
    have c_4 := bI_1 c_4
    refine J_iload_n E dX6_change_7 rfl 2 rfl ?_
    refine J_iload_n E dX6_change_8 rfl 3 rfl ?_
    refine J_cSiN E (As := [.int (nI k), .int v]) (c_X6_mayBe l G k v (by omega)) cl_X6_90 yo_X6_mayBe dX6_change_9 rfl (Nat.le_of_ble_eq_true rfl) (Nat.le_of_ble_eq_true rfl) rfl (Nat.le_of_ble_eq_true rfl) ⟨Nat.zero_le _, Nat.zero_le _⟩ ?_
    refine J_if_eq E (tgt := 31) dX6_change_12 (by decide) (fun c_12 => ?_) (fun c_12 => ?_)
    · skip
      have c_12 := bI_0 c_12
      exact absurd hv c_12
    · skip
      have c_12 := bI_1 c_12
      refine J_aload_n E dX6_change_15 rfl 0 rfl ?_
      refine J_iconst E dX6_change_16 ic_5 ?_
      refine J_bipush E dX6_change_17 bp_6 ?_
      refine J_iload_n E dX6_change_19 rfl 1 rfl ?_
      refine J_imul E dX6_change_20 ?_
      refine J_top (x' := nI (6 * j)) (pk_mul 6 j) ?_
      refine J_iadd E dX6_change_21 ?_
      refine J_top (x' := nI (5 + 6 * j)) (nI_add 5 _) ?_
      refine J_iload_n E dX6_change_22 rfl 2 rfl ?_
      refine J_iadd E dX6_change_23 ?_
      refine J_top (x' := nI (5 + 6 * j + k)) (nI_add _ _) ?_
      refine J_iload_n E dX6_change_24 rfl 3 rfl ?_
      refine J_cVi0 E (As := [.int (nI (5 + 6 * j + k)), .int v]) (c_X6_becomes l G b y (5 + 6 * j + k) k j v (at_h hk hj rfl)) cl_X6_93 yo_X6_becomes dX6_change_25 rfl rfl rfl (Nat.le_of_ble_eq_true rfl) (Nat.le_of_ble_eq_true rfl) rfl (Nat.le_of_ble_eq_true rfl) ⟨Nat.zero_le _, Nat.zero_le _⟩ ?_
      refine J_goto E (tgt := 36) dX6_change_28 (by decide) ?_
      exact ret _ _ _ _ ⟨rfl, _, rfl, by intro g h2 h5 h6; by_cases h0 : g = 0 <;> simp [tellX, upG, up3, up3R, up2, h0, h2, h5, h6]⟩ rfl dX6_change_36

set_option maxHeartbeats 4000000 in
set_option maxRecDepth 20000 in
theorem c_X6_of_bad (l : Launch) (G : GB) (b : Nat → Nat) (y : Q3) (h w : Int32) (hb : ¬ (okH h ∧ 0 ≤ w ∧ w ≤ 9)) : CI l yX6_of cX6_of 3 .int 2 45 G [.ref (b 0), .int h, .int w] (wM G b y) (fun vR w' => vR = tellR 0 ∧ PubM G b (tellX y 0) w') := by
  refine CI.mk (own := RX6) (by decide) rfl (Nat.le_of_ble_eq_true rfl) ?_
  intro X E ret
  show J X G 3 0 0 (wM G b y) [(0, .ref (b 0)), (1, .int h), (2, .int w)] 0 []
  refine J_iload_n E dX6_of_0 rfl 1 rfl ?_
  refine J_cSiN E (As := [.int h]) (c_X6_isHouse l G h ) cl_X6_87 yo_X6_isHouse dX6_of_1 rfl (Nat.le_of_ble_eq_true rfl) (Nat.le_of_ble_eq_true rfl) rfl (Nat.le_of_ble_eq_true rfl) ⟨Nat.zero_le _, Nat.zero_le _⟩ ?_
  refine J_if_eq E (tgt := 19) dX6_of_4 (by decide) (fun c_4 => ?_) (fun c_4 => ?_)
  · skip
    have c_4 := bI_0 c_4
    refine J_aload_n E dX6_of_19 rfl 0 rfl ?_
    refine J_iconst E dX6_of_20 ic_0 ?_
    refine J_cVi0 E (As := [.int 0]) (c_X6_finds l G b y 0 (by omega)) cl_X6_96 yo_X6_finds dX6_of_21 rfl rfl rfl (Nat.le_of_ble_eq_true rfl) (Nat.le_of_ble_eq_true rfl) rfl (Nat.le_of_ble_eq_true rfl) ⟨Nat.zero_le _, Nat.zero_le _⟩ ?_
    exact ret _ _ _ _ ⟨rfl, _, rfl, by intro g h2 h5 h6; by_cases h0 : g = 0 <;> simp [tellX, upG, up3, up3R, up2, h0, h2, h5, h6]⟩ rfl dX6_of_24
  · skip
    have c_4 := bI_1 c_4
    refine J_iload_n E dX6_of_7 rfl 2 rfl ?_
    refine J_i2l E dX6_of_8 rfl ?_
    refine J_lconst E dX6_of_9 lc_0 ?_
    refine J_ldc2 E kl_X6_99 dX6_of_10 ?_
    refine J_cSiN E (As := [.long (Int32.toInt64 w), .long 0, .long 9]) (c_X6_in l G w 0 9 0 9 (by decide) (by decide) ) cl_X6_54 yo_X6_in dX6_of_13 rfl (Nat.le_of_ble_eq_true rfl) (Nat.le_of_ble_eq_true rfl) rfl (Nat.le_of_ble_eq_true rfl) ⟨Nat.zero_le _, Nat.zero_le _⟩ ?_
    refine J_if_ne E (tgt := 25) dX6_of_16 (by decide) (fun c_16 => ?_) (fun c_16 => ?_)
    · skip
      have c_16 := bI_1 c_16
      exact absurd ⟨c_4, c_16⟩ hb
    · skip
      have c_16 := bI_0 c_16
      refine J_aload_n E dX6_of_19 rfl 0 rfl ?_
      refine J_iconst E dX6_of_20 ic_0 ?_
      refine J_cVi0 E (As := [.int 0]) (c_X6_finds l G b y 0 (by omega)) cl_X6_96 yo_X6_finds dX6_of_21 rfl rfl rfl (Nat.le_of_ble_eq_true rfl) (Nat.le_of_ble_eq_true rfl) rfl (Nat.le_of_ble_eq_true rfl) ⟨Nat.zero_le _, Nat.zero_le _⟩ ?_
      exact ret _ _ _ _ ⟨rfl, _, rfl, by intro g h2 h5 h6; by_cases h0 : g = 0 <;> simp [tellX, upG, up3, up3R, up2, h0, h2, h5, h6]⟩ rfl dX6_of_24

set_option maxHeartbeats 4000000 in
set_option maxRecDepth 20000 in
theorem c_X6_of_ok (l : Launch) (G : GB) (b : Nat → Nat) (y : Q3) (j k : Nat) (hj : j < 11) (hk : k < 10) (kd : Nat) (hkd1 : kd < 7) (hkd2 : y 0 0 j = nI kd) : CI l yX6_of cX6_of 3 .int 3 64 G [.ref (b 0), .int (nI j), .int (nI k)] (wM G b y) (fun vR w' => vR = ofF (y 0) j k ∧ PubM G b y w') := by
  refine CI.mk (own := RX6) (by decide) rfl (Nat.le_of_ble_eq_true rfl) ?_
  intro X E ret
  show J X G 3 0 0 (wM G b y) [(0, .ref (b 0)), (1, .int (nI j)), (2, .int (nI k))] 0 []
  rcases (show k = 0 ∨ k = 1 ∨ k = 2 ∨ k = 3 ∨ k = 4 ∨ k = 5 ∨ k = 6 ∨ k = 7 ∨ k = 8 ∨ k = 9 by omega) with rfl | rfl | rfl | rfl | rfl | rfl | rfl | rfl | rfl | rfl
  · skip
    refine J_iload_n E dX6_of_0 rfl 1 rfl ?_
    refine J_cSiN E (As := [.int (nI j)]) (c_X6_isHouse l G (nI j) ) cl_X6_87 yo_X6_isHouse dX6_of_1 rfl (Nat.le_of_ble_eq_true rfl) (Nat.le_of_ble_eq_true rfl) rfl (Nat.le_of_ble_eq_true rfl) ⟨Nat.zero_le _, Nat.zero_le _⟩ ?_
    refine J_if_eq E (tgt := 19) dX6_of_4 (by decide) (fun c_4 => ?_) (fun c_4 => ?_)
    · skip
      have c_4 := bI_0 c_4
      exact absurd (inB (a := j) (b := 10) (by omega) (by decide)) c_4
    · skip
      have c_4 := bI_1 c_4
      refine J_iload_n E dX6_of_7 rfl 2 rfl ?_
      refine J_i2l E dX6_of_8 rfl ?_
      refine J_lconst E dX6_of_9 lc_0 ?_
      refine J_ldc2 E kl_X6_99 dX6_of_10 ?_
      refine J_cSiN E (As := [.long (Int32.toInt64 (nI 0)), .long 0, .long 9]) (c_X6_in l G (nI 0) 0 9 0 9 (by decide) (by decide) ) cl_X6_54 yo_X6_in dX6_of_13 rfl (Nat.le_of_ble_eq_true rfl) (Nat.le_of_ble_eq_true rfl) rfl (Nat.le_of_ble_eq_true rfl) ⟨Nat.zero_le _, Nat.zero_le _⟩ ?_
      refine J_if_ne E (tgt := 25) dX6_of_16 (by decide) (fun c_16 => ?_) (fun c_16 => ?_)
      · skip
        have c_16 := bI_1 c_16
        refine J_iload_n E dX6_of_25 rfl 2 rfl ?_
        refine J_tabOut E (tgt := 80) dX6_of_26 (by decide) (by decide) ?_
        refine J_aload_n E dX6_of_80 rfl 0 rfl ?_
        refine J_iload_n E dX6_of_81 rfl 1 rfl ?_
        refine J_iload_n E dX6_of_82 rfl 2 rfl ?_
        refine J_cVi0 E (As := [.int (nI j), .int (nI 0)]) (c_X6_its l G b y j 0 (by omega) (by omega)) cl_X6_64 yo_X6_its dX6_of_83 rfl rfl rfl (Nat.le_of_ble_eq_true rfl) (Nat.le_of_ble_eq_true rfl) rfl (Nat.le_of_ble_eq_true rfl) ⟨Nat.zero_le _, Nat.zero_le _⟩ ?_
        exact ret _ _ _ _ ⟨by simp [ofF], _, rfl, by intro g h2 h5 h6; by_cases h0 : g = 0 <;> simp [tellX, upG, up3, up3R, up2, h0, h2, h5, h6]⟩ rfl dX6_of_86
      · skip
        have c_16 := bI_0 c_16
        exact absurd (inB (a := 0) (b := 9) (by omega) (by decide)) c_16
  · skip
    refine J_iload_n E dX6_of_0 rfl 1 rfl ?_
    refine J_cSiN E (As := [.int (nI j)]) (c_X6_isHouse l G (nI j) ) cl_X6_87 yo_X6_isHouse dX6_of_1 rfl (Nat.le_of_ble_eq_true rfl) (Nat.le_of_ble_eq_true rfl) rfl (Nat.le_of_ble_eq_true rfl) ⟨Nat.zero_le _, Nat.zero_le _⟩ ?_
    refine J_if_eq E (tgt := 19) dX6_of_4 (by decide) (fun c_4 => ?_) (fun c_4 => ?_)
    · skip
      have c_4 := bI_0 c_4
      exact absurd (inB (a := j) (b := 10) (by omega) (by decide)) c_4
    · skip
      have c_4 := bI_1 c_4
      refine J_iload_n E dX6_of_7 rfl 2 rfl ?_
      refine J_i2l E dX6_of_8 rfl ?_
      refine J_lconst E dX6_of_9 lc_0 ?_
      refine J_ldc2 E kl_X6_99 dX6_of_10 ?_
      refine J_cSiN E (As := [.long (Int32.toInt64 (nI 1)), .long 0, .long 9]) (c_X6_in l G (nI 1) 0 9 0 9 (by decide) (by decide) ) cl_X6_54 yo_X6_in dX6_of_13 rfl (Nat.le_of_ble_eq_true rfl) (Nat.le_of_ble_eq_true rfl) rfl (Nat.le_of_ble_eq_true rfl) ⟨Nat.zero_le _, Nat.zero_le _⟩ ?_
      refine J_if_ne E (tgt := 25) dX6_of_16 (by decide) (fun c_16 => ?_) (fun c_16 => ?_)
      · skip
        have c_16 := bI_1 c_16
        refine J_iload_n E dX6_of_25 rfl 2 rfl ?_
        refine J_tabOut E (tgt := 80) dX6_of_26 (by decide) (by decide) ?_
        refine J_aload_n E dX6_of_80 rfl 0 rfl ?_
        refine J_iload_n E dX6_of_81 rfl 1 rfl ?_
        refine J_iload_n E dX6_of_82 rfl 2 rfl ?_
        refine J_cVi0 E (As := [.int (nI j), .int (nI 1)]) (c_X6_its l G b y j 1 (by omega) (by omega)) cl_X6_64 yo_X6_its dX6_of_83 rfl rfl rfl (Nat.le_of_ble_eq_true rfl) (Nat.le_of_ble_eq_true rfl) rfl (Nat.le_of_ble_eq_true rfl) ⟨Nat.zero_le _, Nat.zero_le _⟩ ?_
        exact ret _ _ _ _ ⟨by simp [ofF], _, rfl, by intro g h2 h5 h6; by_cases h0 : g = 0 <;> simp [tellX, upG, up3, up3R, up2, h0, h2, h5, h6]⟩ rfl dX6_of_86
      · skip
        have c_16 := bI_0 c_16
        exact absurd (inB (a := 1) (b := 9) (by omega) (by decide)) c_16
  · skip
    refine J_iload_n E dX6_of_0 rfl 1 rfl ?_
    refine J_cSiN E (As := [.int (nI j)]) (c_X6_isHouse l G (nI j) ) cl_X6_87 yo_X6_isHouse dX6_of_1 rfl (Nat.le_of_ble_eq_true rfl) (Nat.le_of_ble_eq_true rfl) rfl (Nat.le_of_ble_eq_true rfl) ⟨Nat.zero_le _, Nat.zero_le _⟩ ?_
    refine J_if_eq E (tgt := 19) dX6_of_4 (by decide) (fun c_4 => ?_) (fun c_4 => ?_)
    · skip
      have c_4 := bI_0 c_4
      exact absurd (inB (a := j) (b := 10) (by omega) (by decide)) c_4
    · skip
      have c_4 := bI_1 c_4
      refine J_iload_n E dX6_of_7 rfl 2 rfl ?_
      refine J_i2l E dX6_of_8 rfl ?_
      refine J_lconst E dX6_of_9 lc_0 ?_
      refine J_ldc2 E kl_X6_99 dX6_of_10 ?_
      refine J_cSiN E (As := [.long (Int32.toInt64 (nI 2)), .long 0, .long 9]) (c_X6_in l G (nI 2) 0 9 0 9 (by decide) (by decide) ) cl_X6_54 yo_X6_in dX6_of_13 rfl (Nat.le_of_ble_eq_true rfl) (Nat.le_of_ble_eq_true rfl) rfl (Nat.le_of_ble_eq_true rfl) ⟨Nat.zero_le _, Nat.zero_le _⟩ ?_
      refine J_if_ne E (tgt := 25) dX6_of_16 (by decide) (fun c_16 => ?_) (fun c_16 => ?_)
      · skip
        have c_16 := bI_1 c_16
        refine J_iload_n E dX6_of_25 rfl 2 rfl ?_
        refine J_tabOut E (tgt := 80) dX6_of_26 (by decide) (by decide) ?_
        refine J_aload_n E dX6_of_80 rfl 0 rfl ?_
        refine J_iload_n E dX6_of_81 rfl 1 rfl ?_
        refine J_iload_n E dX6_of_82 rfl 2 rfl ?_
        refine J_cVi0 E (As := [.int (nI j), .int (nI 2)]) (c_X6_its l G b y j 2 (by omega) (by omega)) cl_X6_64 yo_X6_its dX6_of_83 rfl rfl rfl (Nat.le_of_ble_eq_true rfl) (Nat.le_of_ble_eq_true rfl) rfl (Nat.le_of_ble_eq_true rfl) ⟨Nat.zero_le _, Nat.zero_le _⟩ ?_
        exact ret _ _ _ _ ⟨by simp [ofF], _, rfl, by intro g h2 h5 h6; by_cases h0 : g = 0 <;> simp [tellX, upG, up3, up3R, up2, h0, h2, h5, h6]⟩ rfl dX6_of_86
      · skip
        have c_16 := bI_0 c_16
        exact absurd (inB (a := 2) (b := 9) (by omega) (by decide)) c_16
  · skip
    refine J_iload_n E dX6_of_0 rfl 1 rfl ?_
    refine J_cSiN E (As := [.int (nI j)]) (c_X6_isHouse l G (nI j) ) cl_X6_87 yo_X6_isHouse dX6_of_1 rfl (Nat.le_of_ble_eq_true rfl) (Nat.le_of_ble_eq_true rfl) rfl (Nat.le_of_ble_eq_true rfl) ⟨Nat.zero_le _, Nat.zero_le _⟩ ?_
    refine J_if_eq E (tgt := 19) dX6_of_4 (by decide) (fun c_4 => ?_) (fun c_4 => ?_)
    · skip
      have c_4 := bI_0 c_4
      exact absurd (inB (a := j) (b := 10) (by omega) (by decide)) c_4
    · skip
      have c_4 := bI_1 c_4
      refine J_iload_n E dX6_of_7 rfl 2 rfl ?_
      refine J_i2l E dX6_of_8 rfl ?_
      refine J_lconst E dX6_of_9 lc_0 ?_
      refine J_ldc2 E kl_X6_99 dX6_of_10 ?_
      refine J_cSiN E (As := [.long (Int32.toInt64 (nI 3)), .long 0, .long 9]) (c_X6_in l G (nI 3) 0 9 0 9 (by decide) (by decide) ) cl_X6_54 yo_X6_in dX6_of_13 rfl (Nat.le_of_ble_eq_true rfl) (Nat.le_of_ble_eq_true rfl) rfl (Nat.le_of_ble_eq_true rfl) ⟨Nat.zero_le _, Nat.zero_le _⟩ ?_
      refine J_if_ne E (tgt := 25) dX6_of_16 (by decide) (fun c_16 => ?_) (fun c_16 => ?_)
      · skip
        have c_16 := bI_1 c_16
        refine J_iload_n E dX6_of_25 rfl 2 rfl ?_
        refine J_tabOut E (tgt := 80) dX6_of_26 (by decide) (by decide) ?_
        refine J_aload_n E dX6_of_80 rfl 0 rfl ?_
        refine J_iload_n E dX6_of_81 rfl 1 rfl ?_
        refine J_iload_n E dX6_of_82 rfl 2 rfl ?_
        refine J_cVi0 E (As := [.int (nI j), .int (nI 3)]) (c_X6_its l G b y j 3 (by omega) (by omega)) cl_X6_64 yo_X6_its dX6_of_83 rfl rfl rfl (Nat.le_of_ble_eq_true rfl) (Nat.le_of_ble_eq_true rfl) rfl (Nat.le_of_ble_eq_true rfl) ⟨Nat.zero_le _, Nat.zero_le _⟩ ?_
        exact ret _ _ _ _ ⟨by simp [ofF], _, rfl, by intro g h2 h5 h6; by_cases h0 : g = 0 <;> simp [tellX, upG, up3, up3R, up2, h0, h2, h5, h6]⟩ rfl dX6_of_86
      · skip
        have c_16 := bI_0 c_16
        exact absurd (inB (a := 3) (b := 9) (by omega) (by decide)) c_16
  · skip
    refine J_iload_n E dX6_of_0 rfl 1 rfl ?_
    refine J_cSiN E (As := [.int (nI j)]) (c_X6_isHouse l G (nI j) ) cl_X6_87 yo_X6_isHouse dX6_of_1 rfl (Nat.le_of_ble_eq_true rfl) (Nat.le_of_ble_eq_true rfl) rfl (Nat.le_of_ble_eq_true rfl) ⟨Nat.zero_le _, Nat.zero_le _⟩ ?_
    refine J_if_eq E (tgt := 19) dX6_of_4 (by decide) (fun c_4 => ?_) (fun c_4 => ?_)
    · skip
      have c_4 := bI_0 c_4
      exact absurd (inB (a := j) (b := 10) (by omega) (by decide)) c_4
    · skip
      have c_4 := bI_1 c_4
      refine J_iload_n E dX6_of_7 rfl 2 rfl ?_
      refine J_i2l E dX6_of_8 rfl ?_
      refine J_lconst E dX6_of_9 lc_0 ?_
      refine J_ldc2 E kl_X6_99 dX6_of_10 ?_
      refine J_cSiN E (As := [.long (Int32.toInt64 (nI 4)), .long 0, .long 9]) (c_X6_in l G (nI 4) 0 9 0 9 (by decide) (by decide) ) cl_X6_54 yo_X6_in dX6_of_13 rfl (Nat.le_of_ble_eq_true rfl) (Nat.le_of_ble_eq_true rfl) rfl (Nat.le_of_ble_eq_true rfl) ⟨Nat.zero_le _, Nat.zero_le _⟩ ?_
      refine J_if_ne E (tgt := 25) dX6_of_16 (by decide) (fun c_16 => ?_) (fun c_16 => ?_)
      · skip
        have c_16 := bI_1 c_16
        refine J_iload_n E dX6_of_25 rfl 2 rfl ?_
        refine J_tabOut E (tgt := 80) dX6_of_26 (by decide) (by decide) ?_
        refine J_aload_n E dX6_of_80 rfl 0 rfl ?_
        refine J_iload_n E dX6_of_81 rfl 1 rfl ?_
        refine J_iload_n E dX6_of_82 rfl 2 rfl ?_
        refine J_cVi0 E (As := [.int (nI j), .int (nI 4)]) (c_X6_its l G b y j 4 (by omega) (by omega)) cl_X6_64 yo_X6_its dX6_of_83 rfl rfl rfl (Nat.le_of_ble_eq_true rfl) (Nat.le_of_ble_eq_true rfl) rfl (Nat.le_of_ble_eq_true rfl) ⟨Nat.zero_le _, Nat.zero_le _⟩ ?_
        exact ret _ _ _ _ ⟨by simp [ofF], _, rfl, by intro g h2 h5 h6; by_cases h0 : g = 0 <;> simp [tellX, upG, up3, up3R, up2, h0, h2, h5, h6]⟩ rfl dX6_of_86
      · skip
        have c_16 := bI_0 c_16
        exact absurd (inB (a := 4) (b := 9) (by omega) (by decide)) c_16
  · skip
    refine J_iload_n E dX6_of_0 rfl 1 rfl ?_
    refine J_cSiN E (As := [.int (nI j)]) (c_X6_isHouse l G (nI j) ) cl_X6_87 yo_X6_isHouse dX6_of_1 rfl (Nat.le_of_ble_eq_true rfl) (Nat.le_of_ble_eq_true rfl) rfl (Nat.le_of_ble_eq_true rfl) ⟨Nat.zero_le _, Nat.zero_le _⟩ ?_
    refine J_if_eq E (tgt := 19) dX6_of_4 (by decide) (fun c_4 => ?_) (fun c_4 => ?_)
    · skip
      have c_4 := bI_0 c_4
      exact absurd (inB (a := j) (b := 10) (by omega) (by decide)) c_4
    · skip
      have c_4 := bI_1 c_4
      refine J_iload_n E dX6_of_7 rfl 2 rfl ?_
      refine J_i2l E dX6_of_8 rfl ?_
      refine J_lconst E dX6_of_9 lc_0 ?_
      refine J_ldc2 E kl_X6_99 dX6_of_10 ?_
      refine J_cSiN E (As := [.long (Int32.toInt64 (nI 5)), .long 0, .long 9]) (c_X6_in l G (nI 5) 0 9 0 9 (by decide) (by decide) ) cl_X6_54 yo_X6_in dX6_of_13 rfl (Nat.le_of_ble_eq_true rfl) (Nat.le_of_ble_eq_true rfl) rfl (Nat.le_of_ble_eq_true rfl) ⟨Nat.zero_le _, Nat.zero_le _⟩ ?_
      refine J_if_ne E (tgt := 25) dX6_of_16 (by decide) (fun c_16 => ?_) (fun c_16 => ?_)
      · skip
        have c_16 := bI_1 c_16
        refine J_iload_n E dX6_of_25 rfl 2 rfl ?_
        refine J_tabOut E (tgt := 80) dX6_of_26 (by decide) (by decide) ?_
        refine J_aload_n E dX6_of_80 rfl 0 rfl ?_
        refine J_iload_n E dX6_of_81 rfl 1 rfl ?_
        refine J_iload_n E dX6_of_82 rfl 2 rfl ?_
        refine J_cVi0 E (As := [.int (nI j), .int (nI 5)]) (c_X6_its l G b y j 5 (by omega) (by omega)) cl_X6_64 yo_X6_its dX6_of_83 rfl rfl rfl (Nat.le_of_ble_eq_true rfl) (Nat.le_of_ble_eq_true rfl) rfl (Nat.le_of_ble_eq_true rfl) ⟨Nat.zero_le _, Nat.zero_le _⟩ ?_
        exact ret _ _ _ _ ⟨by simp [ofF], _, rfl, by intro g h2 h5 h6; by_cases h0 : g = 0 <;> simp [tellX, upG, up3, up3R, up2, h0, h2, h5, h6]⟩ rfl dX6_of_86
      · skip
        have c_16 := bI_0 c_16
        exact absurd (inB (a := 5) (b := 9) (by omega) (by decide)) c_16
  · skip
    refine J_iload_n E dX6_of_0 rfl 1 rfl ?_
    refine J_cSiN E (As := [.int (nI j)]) (c_X6_isHouse l G (nI j) ) cl_X6_87 yo_X6_isHouse dX6_of_1 rfl (Nat.le_of_ble_eq_true rfl) (Nat.le_of_ble_eq_true rfl) rfl (Nat.le_of_ble_eq_true rfl) ⟨Nat.zero_le _, Nat.zero_le _⟩ ?_
    refine J_if_eq E (tgt := 19) dX6_of_4 (by decide) (fun c_4 => ?_) (fun c_4 => ?_)
    · skip
      have c_4 := bI_0 c_4
      exact absurd (inB (a := j) (b := 10) (by omega) (by decide)) c_4
    · skip
      have c_4 := bI_1 c_4
      refine J_iload_n E dX6_of_7 rfl 2 rfl ?_
      refine J_i2l E dX6_of_8 rfl ?_
      refine J_lconst E dX6_of_9 lc_0 ?_
      refine J_ldc2 E kl_X6_99 dX6_of_10 ?_
      refine J_cSiN E (As := [.long (Int32.toInt64 (nI 6)), .long 0, .long 9]) (c_X6_in l G (nI 6) 0 9 0 9 (by decide) (by decide) ) cl_X6_54 yo_X6_in dX6_of_13 rfl (Nat.le_of_ble_eq_true rfl) (Nat.le_of_ble_eq_true rfl) rfl (Nat.le_of_ble_eq_true rfl) ⟨Nat.zero_le _, Nat.zero_le _⟩ ?_
      refine J_if_ne E (tgt := 25) dX6_of_16 (by decide) (fun c_16 => ?_) (fun c_16 => ?_)
      · skip
        have c_16 := bI_1 c_16
        refine J_iload_n E dX6_of_25 rfl 2 rfl ?_
        refine J_tabIn E (tgt := 56) (off := 30) dX6_of_26 (by decide) (by decide) rfl (by decide) ?_
        refine J_aload_n E dX6_of_56 rfl 0 rfl ?_
        refine J_iload_n E dX6_of_57 rfl 1 rfl ?_
        refine J_cVi0 E (As := [.int (nI j)]) (c_X6_uses l G b y j (by omega)) cl_X6_101 yo_X6_uses dX6_of_58 rfl rfl rfl (Nat.le_of_ble_eq_true rfl) (Nat.le_of_ble_eq_true rfl) rfl (Nat.le_of_ble_eq_true rfl) ⟨Nat.zero_le _, Nat.zero_le _⟩ ?_
        exact ret _ _ _ _ ⟨by simp [ofF], _, rfl, by intro g h2 h5 h6; by_cases h0 : g = 0 <;> simp [tellX, upG, up3, up3R, up2, h0, h2, h5, h6]⟩ rfl dX6_of_61
      · skip
        have c_16 := bI_0 c_16
        exact absurd (inB (a := 6) (b := 9) (by omega) (by decide)) c_16
  · skip
    refine J_iload_n E dX6_of_0 rfl 1 rfl ?_
    refine J_cSiN E (As := [.int (nI j)]) (c_X6_isHouse l G (nI j) ) cl_X6_87 yo_X6_isHouse dX6_of_1 rfl (Nat.le_of_ble_eq_true rfl) (Nat.le_of_ble_eq_true rfl) rfl (Nat.le_of_ble_eq_true rfl) ⟨Nat.zero_le _, Nat.zero_le _⟩ ?_
    refine J_if_eq E (tgt := 19) dX6_of_4 (by decide) (fun c_4 => ?_) (fun c_4 => ?_)
    · skip
      have c_4 := bI_0 c_4
      exact absurd (inB (a := j) (b := 10) (by omega) (by decide)) c_4
    · skip
      have c_4 := bI_1 c_4
      refine J_iload_n E dX6_of_7 rfl 2 rfl ?_
      refine J_i2l E dX6_of_8 rfl ?_
      refine J_lconst E dX6_of_9 lc_0 ?_
      refine J_ldc2 E kl_X6_99 dX6_of_10 ?_
      refine J_cSiN E (As := [.long (Int32.toInt64 (nI 7)), .long 0, .long 9]) (c_X6_in l G (nI 7) 0 9 0 9 (by decide) (by decide) ) cl_X6_54 yo_X6_in dX6_of_13 rfl (Nat.le_of_ble_eq_true rfl) (Nat.le_of_ble_eq_true rfl) rfl (Nat.le_of_ble_eq_true rfl) ⟨Nat.zero_le _, Nat.zero_le _⟩ ?_
      refine J_if_ne E (tgt := 25) dX6_of_16 (by decide) (fun c_16 => ?_) (fun c_16 => ?_)
      · skip
        have c_16 := bI_1 c_16
        refine J_iload_n E dX6_of_25 rfl 2 rfl ?_
        refine J_tabIn E (tgt := 62) (off := 36) dX6_of_26 (by decide) (by decide) rfl (by decide) ?_
        refine J_aload_n E dX6_of_62 rfl 0 rfl ?_
        refine J_iload_n E dX6_of_63 rfl 1 rfl ?_
        refine J_cVi0 E (As := [.int (nI j)]) (c_X6_keeps l G b y j (by omega)) cl_X6_104 yo_X6_keeps dX6_of_64 rfl rfl rfl (Nat.le_of_ble_eq_true rfl) (Nat.le_of_ble_eq_true rfl) rfl (Nat.le_of_ble_eq_true rfl) ⟨Nat.zero_le _, Nat.zero_le _⟩ ?_
        exact ret _ _ _ _ ⟨by simp [ofF], _, rfl, by intro g h2 h5 h6; by_cases h0 : g = 0 <;> simp [tellX, upG, up3, up3R, up2, h0, h2, h5, h6]⟩ rfl dX6_of_67
      · skip
        have c_16 := bI_0 c_16
        exact absurd (inB (a := 7) (b := 9) (by omega) (by decide)) c_16
  · skip
    refine J_iload_n E dX6_of_0 rfl 1 rfl ?_
    refine J_cSiN E (As := [.int (nI j)]) (c_X6_isHouse l G (nI j) ) cl_X6_87 yo_X6_isHouse dX6_of_1 rfl (Nat.le_of_ble_eq_true rfl) (Nat.le_of_ble_eq_true rfl) rfl (Nat.le_of_ble_eq_true rfl) ⟨Nat.zero_le _, Nat.zero_le _⟩ ?_
    refine J_if_eq E (tgt := 19) dX6_of_4 (by decide) (fun c_4 => ?_) (fun c_4 => ?_)
    · skip
      have c_4 := bI_0 c_4
      exact absurd (inB (a := j) (b := 10) (by omega) (by decide)) c_4
    · skip
      have c_4 := bI_1 c_4
      refine J_iload_n E dX6_of_7 rfl 2 rfl ?_
      refine J_i2l E dX6_of_8 rfl ?_
      refine J_lconst E dX6_of_9 lc_0 ?_
      refine J_ldc2 E kl_X6_99 dX6_of_10 ?_
      refine J_cSiN E (As := [.long (Int32.toInt64 (nI 8)), .long 0, .long 9]) (c_X6_in l G (nI 8) 0 9 0 9 (by decide) (by decide) ) cl_X6_54 yo_X6_in dX6_of_13 rfl (Nat.le_of_ble_eq_true rfl) (Nat.le_of_ble_eq_true rfl) rfl (Nat.le_of_ble_eq_true rfl) ⟨Nat.zero_le _, Nat.zero_le _⟩ ?_
      refine J_if_ne E (tgt := 25) dX6_of_16 (by decide) (fun c_16 => ?_) (fun c_16 => ?_)
      · skip
        have c_16 := bI_1 c_16
        refine J_iload_n E dX6_of_25 rfl 2 rfl ?_
        refine J_tabIn E (tgt := 68) (off := 42) dX6_of_26 (by decide) (by decide) rfl (by decide) ?_
        refine J_aload_n E dX6_of_68 rfl 0 rfl ?_
        refine J_iload_n E dX6_of_69 rfl 1 rfl ?_
        refine J_cVi0 E (As := [.int (nI j)]) (c_X6_loses l G b y j (by omega) _ hkd1 hkd2) cl_X6_107 yo_X6_loses dX6_of_70 rfl rfl rfl (Nat.le_of_ble_eq_true rfl) (Nat.le_of_ble_eq_true rfl) rfl (Nat.le_of_ble_eq_true rfl) ⟨Nat.zero_le _, Nat.zero_le _⟩ ?_
        exact ret _ _ _ _ ⟨by simp [ofF], _, rfl, by intro g h2 h5 h6; by_cases h0 : g = 0 <;> simp [tellX, upG, up3, up3R, up2, h0, h2, h5, h6]⟩ rfl dX6_of_73
      · skip
        have c_16 := bI_0 c_16
        exact absurd (inB (a := 8) (b := 9) (by omega) (by decide)) c_16
  · skip
    refine J_iload_n E dX6_of_0 rfl 1 rfl ?_
    refine J_cSiN E (As := [.int (nI j)]) (c_X6_isHouse l G (nI j) ) cl_X6_87 yo_X6_isHouse dX6_of_1 rfl (Nat.le_of_ble_eq_true rfl) (Nat.le_of_ble_eq_true rfl) rfl (Nat.le_of_ble_eq_true rfl) ⟨Nat.zero_le _, Nat.zero_le _⟩ ?_
    refine J_if_eq E (tgt := 19) dX6_of_4 (by decide) (fun c_4 => ?_) (fun c_4 => ?_)
    · skip
      have c_4 := bI_0 c_4
      exact absurd (inB (a := j) (b := 10) (by omega) (by decide)) c_4
    · skip
      have c_4 := bI_1 c_4
      refine J_iload_n E dX6_of_7 rfl 2 rfl ?_
      refine J_i2l E dX6_of_8 rfl ?_
      refine J_lconst E dX6_of_9 lc_0 ?_
      refine J_ldc2 E kl_X6_99 dX6_of_10 ?_
      refine J_cSiN E (As := [.long (Int32.toInt64 (nI 9)), .long 0, .long 9]) (c_X6_in l G (nI 9) 0 9 0 9 (by decide) (by decide) ) cl_X6_54 yo_X6_in dX6_of_13 rfl (Nat.le_of_ble_eq_true rfl) (Nat.le_of_ble_eq_true rfl) rfl (Nat.le_of_ble_eq_true rfl) ⟨Nat.zero_le _, Nat.zero_le _⟩ ?_
      refine J_if_ne E (tgt := 25) dX6_of_16 (by decide) (fun c_16 => ?_) (fun c_16 => ?_)
      · skip
        have c_16 := bI_1 c_16
        refine J_iload_n E dX6_of_25 rfl 2 rfl ?_
        refine J_tabIn E (tgt := 74) (off := 48) dX6_of_26 (by decide) (by decide) rfl (by decide) ?_
        refine J_aload_n E dX6_of_74 rfl 0 rfl ?_
        refine J_iload_n E dX6_of_75 rfl 1 rfl ?_
        refine J_cVi0 E (As := [.int (nI j)]) (c_X6_leads l G b y j (by omega)) cl_X6_110 yo_X6_leads dX6_of_76 rfl rfl rfl (Nat.le_of_ble_eq_true rfl) (Nat.le_of_ble_eq_true rfl) rfl (Nat.le_of_ble_eq_true rfl) ⟨Nat.zero_le _, Nat.zero_le _⟩ ?_
        exact ret _ _ _ _ ⟨by simp [ofF], _, rfl, by intro g h2 h5 h6; by_cases h0 : g = 0 <;> simp [tellX, upG, up3, up3R, up2, h0, h2, h5, h6]⟩ rfl dX6_of_79
      · skip
        have c_16 := bI_0 c_16
        exact absurd (inB (a := 9) (b := 9) (by omega) (by decide)) c_16

set_option maxHeartbeats 4000000 in
set_option maxRecDepth 20000 in
theorem c_X6_rain_bad (l : Launch) (G : GB) (b : Nat → Nat) (y : Q3) (v : Int32) (hb : ¬ (0 ≤ v ∧ v ≤ 999)) : CI l yX6_rain cX6_rain 2 .int 1 25 G [.ref (b 0), .int v] (wM G b y) (fun vR w' => vR = tellR 0 ∧ PubM G b (tellX y 0) w') := by
  refine CI.mk (own := RX6) (by decide) rfl (Nat.le_of_ble_eq_true rfl) ?_
  intro X E ret
  show J X G 2 0 0 (wM G b y) [(0, .ref (b 0)), (1, .int v)] 0 []
  refine J_iload_n E dX6_rain_0 rfl 1 rfl ?_
  refine J_i2l E dX6_rain_1 rfl ?_
  refine J_lconst E dX6_rain_2 lc_0 ?_
  refine J_ldc2 E kl_X6_85 dX6_rain_3 ?_
  refine J_cSiN E (As := [.long (Int32.toInt64 v), .long 0, .long 999]) (c_X6_in l G v 0 999 0 999 (by decide) (by decide) ) cl_X6_54 yo_X6_in dX6_rain_6 rfl (Nat.le_of_ble_eq_true rfl) (Nat.le_of_ble_eq_true rfl) rfl (Nat.le_of_ble_eq_true rfl) ⟨Nat.zero_le _, Nat.zero_le _⟩ ?_
  refine J_if_eq E (tgt := 21) dX6_rain_9 (by decide) (fun c_9 => ?_) (fun c_9 => ?_)
  · skip
    have c_9 := bI_0 c_9
    refine J_aload_n E dX6_rain_21 rfl 0 rfl ?_
    refine J_iconst E dX6_rain_22 ic_0 ?_
    refine J_cVi0 E (As := [.int 0]) (c_X6_finds l G b y 0 (by omega)) cl_X6_96 yo_X6_finds dX6_rain_23 rfl rfl rfl (Nat.le_of_ble_eq_true rfl) (Nat.le_of_ble_eq_true rfl) rfl (Nat.le_of_ble_eq_true rfl) ⟨Nat.zero_le _, Nat.zero_le _⟩ ?_
    exact ret _ _ _ _ ⟨rfl, _, rfl, by intro g h2 h5 h6; by_cases h0 : g = 0 <;> simp [tellX, upG, up3, up3R, up2, h0, h2, h5, h6]⟩ rfl dX6_rain_26
  · skip
    have c_9 := bI_1 c_9
    exact absurd c_9 hb

set_option maxHeartbeats 4000000 in
set_option maxRecDepth 20000 in
theorem c_X6_rain_ok (l : Launch) (G : GB) (b : Nat → Nat) (y : Q3) (v : Int32) (hv : 0 ≤ v ∧ v ≤ 999) : CI l yX6_rain cX6_rain 2 .int 1 25 G [.ref (b 0), .int v] (wM G b y) (fun vR w' => vR = y 0 7 2 ∧ PubM G b (up3 y 0 7 2 v) w') := by
  refine CI.mk (own := RX6) (by decide) rfl (Nat.le_of_ble_eq_true rfl) ?_
  intro X E ret
  show J X G 2 0 0 (wM G b y) [(0, .ref (b 0)), (1, .int v)] 0 []
  refine J_iload_n E dX6_rain_0 rfl 1 rfl ?_
  refine J_i2l E dX6_rain_1 rfl ?_
  refine J_lconst E dX6_rain_2 lc_0 ?_
  refine J_ldc2 E kl_X6_85 dX6_rain_3 ?_
  refine J_cSiN E (As := [.long (Int32.toInt64 v), .long 0, .long 999]) (c_X6_in l G v 0 999 0 999 (by decide) (by decide) ) cl_X6_54 yo_X6_in dX6_rain_6 rfl (Nat.le_of_ble_eq_true rfl) (Nat.le_of_ble_eq_true rfl) rfl (Nat.le_of_ble_eq_true rfl) ⟨Nat.zero_le _, Nat.zero_le _⟩ ?_
  refine J_if_eq E (tgt := 21) dX6_rain_9 (by decide) (fun c_9 => ?_) (fun c_9 => ?_)
  · skip
    have c_9 := bI_0 c_9
    exact absurd (by assumption) c_9
  · skip
    have c_9 := bI_1 c_9
    refine J_aload_n E dX6_rain_12 rfl 0 rfl ?_
    refine J_iconst E dX6_rain_13 ic_2 ?_
    refine J_iload_n E dX6_rain_14 rfl 1 rfl ?_
    refine J_cVi0 E (As := [.int 2, .int v]) (c_X6_becomes l G b y 2 7 2 v (at_7 (by decide))) cl_X6_93 yo_X6_becomes dX6_rain_15 rfl rfl rfl (Nat.le_of_ble_eq_true rfl) (Nat.le_of_ble_eq_true rfl) rfl (Nat.le_of_ble_eq_true rfl) ⟨Nat.zero_le _, Nat.zero_le _⟩ ?_
    refine J_goto E (tgt := 26) dX6_rain_18 (by decide) ?_
    exact ret _ _ _ _ ⟨rfl, _, rfl, by intro g h2 h5 h6; by_cases h0 : g = 0 <;> simp [tellX, upG, up3, up3R, up2, h0, h2, h5, h6]⟩ rfl dX6_rain_26

set_option maxHeartbeats 4000000 in
set_option maxRecDepth 20000 in
theorem c_X6_spouts_bad (l : Launch) (G : GB) (b : Nat → Nat) (y : Q3) (v : Int32) (hb : ¬ (0 ≤ v ∧ v ≤ 2047)) : CI l yX6_spouts cX6_spouts 4 .int 1 25 G [.ref (b 0), .int v] (wM G b y) (fun vR w' => vR = tellR 0 ∧ PubM G b (tellX y 0) w') := by
  refine CI.mk (own := RX6) (by decide) rfl (Nat.le_of_ble_eq_true rfl) ?_
  intro X E ret
  show J X G 4 0 0 (wM G b y) [(0, .ref (b 0)), (1, .int v)] 0 []
  refine J_iload_n E dX6_spouts_0 rfl 1 rfl ?_
  refine J_i2l E dX6_spouts_1 rfl ?_
  refine J_lconst E dX6_spouts_2 lc_0 ?_
  refine J_ldc2 E kl_X6_113 dX6_spouts_3 ?_
  refine J_cSiN E (As := [.long (Int32.toInt64 v), .long 0, .long 2047]) (c_X6_in l G v 0 2047 0 2047 (by decide) (by decide) ) cl_X6_54 yo_X6_in dX6_spouts_6 rfl (Nat.le_of_ble_eq_true rfl) (Nat.le_of_ble_eq_true rfl) rfl (Nat.le_of_ble_eq_true rfl) ⟨Nat.zero_le _, Nat.zero_le _⟩ ?_
  refine J_if_ne E (tgt := 18) dX6_spouts_9 (by decide) (fun c_9 => ?_) (fun c_9 => ?_)
  · skip
    have c_9 := bI_1 c_9
    exact absurd c_9 hb
  · skip
    have c_9 := bI_0 c_9
    refine J_aload_n E dX6_spouts_12 rfl 0 rfl ?_
    refine J_iconst E dX6_spouts_13 ic_0 ?_
    refine J_cVi0 E (As := [.int 0]) (c_X6_finds l G b y 0 (by omega)) cl_X6_96 yo_X6_finds dX6_spouts_14 rfl rfl rfl (Nat.le_of_ble_eq_true rfl) (Nat.le_of_ble_eq_true rfl) rfl (Nat.le_of_ble_eq_true rfl) ⟨Nat.zero_le _, Nat.zero_le _⟩ ?_
    exact ret _ _ _ _ ⟨rfl, _, rfl, by intro g h2 h5 h6; by_cases h0 : g = 0 <;> simp [tellX, upG, up3, up3R, up2, h0, h2, h5, h6]⟩ rfl dX6_spouts_17

set_option maxHeartbeats 4000000 in
set_option maxRecDepth 20000 in
theorem c_X6_spouts_ok (l : Launch) (G : GB) (b : Nat → Nat) (y : Q3) (v : Int32) (hv : 0 ≤ v ∧ v ≤ 2047) : CI l yX6_spouts cX6_spouts 4 .int 2 44 G [.ref (b 0), .int v] (wM G b y) (fun vR w' => vR = spoF (y 0) 11 ∧ PubM G b (upG y 0 (sputS (y 0) v 11)) w') := by
  refine CI.mk (own := RX6) (by decide) rfl (Nat.le_of_ble_eq_true rfl) ?_
  intro X E ret
  show J X G 4 0 0 (wM G b y) [(0, .ref (b 0)), (1, .int v)] 0 []
  refine J_iload_n E dX6_spouts_0 rfl 1 rfl ?_
  refine J_i2l E dX6_spouts_1 rfl ?_
  refine J_lconst E dX6_spouts_2 lc_0 ?_
  refine J_ldc2 E kl_X6_113 dX6_spouts_3 ?_
  refine J_cSiN E (As := [.long (Int32.toInt64 v), .long 0, .long 2047]) (c_X6_in l G v 0 2047 0 2047 (by decide) (by decide) ) cl_X6_54 yo_X6_in dX6_spouts_6 rfl (Nat.le_of_ble_eq_true rfl) (Nat.le_of_ble_eq_true rfl) rfl (Nat.le_of_ble_eq_true rfl) ⟨Nat.zero_le _, Nat.zero_le _⟩ ?_
  refine J_if_ne E (tgt := 18) dX6_spouts_9 (by decide) (fun c_9 => ?_) (fun c_9 => ?_)
  · skip
    have c_9 := bI_1 c_9
    refine J_aload_n E dX6_spouts_18 rfl 0 rfl ?_
    refine J_cVi0 E (As := []) (c_X6_spoutSet l G b y ) cl_X6_115 yo_X6_spoutSet dX6_spouts_19 rfl rfl rfl (Nat.le_of_ble_eq_true rfl) (Nat.le_of_ble_eq_true rfl) rfl (Nat.le_of_ble_eq_true rfl) ⟨Nat.zero_le _, Nat.zero_le _⟩ ?_
    refine J_istore_n E (lv' := [(2, .int (spoF ((y 0)) 11)), (0, .ref (b 0)), (1, .int v)]) dX6_spouts_22 rfl (by decide) rfl ?_
    refine J_iconst E dX6_spouts_23 ic_0 ?_
    refine J_istore_n E (lv' := [(3, .int 0), (2, .int (spoF ((y 0)) 11)), (0, .ref (b 0)), (1, .int v)]) dX6_spouts_24 rfl (by decide) rfl ?_
    refine J_w (ws' := wM G b (upG y 0 (y 0))) (congrArg (wM G b) upG_id.symm) ?_
    have lp25 : ∀ (fu : Nat) (i : Nat) (r : Q2), (i ≤ 11) → (r = sputS (y 0) v i) → 11 - i < fu → J X G 4 0 0 (wM G b (upG y 0 r)) [(0, .ref (b 0)), (1, .int v), (2, .int (spoF ((y 0)) 11)), (3, .int (nI i))] 25 [] := by
      intro fu
      induction fu with
      | zero => intro i r hi hr hm; exact absurd hm (Nat.not_lt_zero _)
      | succ fu ih25 =>
        intro i r hi hr hm
        refine J_iload_n E dX6_spouts_25 rfl 3 rfl ?_
        refine J_bipush E dX6_spouts_26 bp_11 ?_
        refine J_icmp_ge E (tgt := 48) dX6_spouts_28 (by decide) (fun c_28 => ?_) (fun c_28 => ?_)
        · skip
          have n_28 : 11 ≤ i := cmp_le (a := 11) (b := i) (by omega) (by omega) c_28
          refine J_iload_n E dX6_spouts_48 rfl 2 rfl ?_
          exact ret _ _ _ _ ⟨rfl, _, rfl, by rw [hr, show i = 11 by omega]; exact ShM.rfl'⟩ rfl dX6_spouts_49
        · skip
          have n_28 : ¬ 11 ≤ i := cmp_nle (a := 11) (b := i) (by omega) (by omega) c_28
          refine J_aload_n E dX6_spouts_31 rfl 0 rfl ?_
          refine J_iload_n E dX6_spouts_32 rfl 3 rfl ?_
          refine J_iconst E dX6_spouts_33 ic_4 ?_
          refine J_iload_n E dX6_spouts_34 rfl 1 rfl ?_
          refine J_iload_n E dX6_spouts_35 rfl 3 rfl ?_
          refine J_ishr E dX6_spouts_36 ?_
          refine J_iconst E dX6_spouts_37 ic_1 ?_
          refine J_iand E dX6_spouts_38 ?_
          refine J_cVv0 E (As := [.int (nI i), .int 4, .int ((v >>> ((nI i) &&& 31)) &&& 1)]) (c_X6_sets l G b (upG y 0 r) i 4 ((v >>> ((nI i) &&& 31)) &&& 1) (by omega) (by omega)) cl_X6_43 yo_X6_sets dX6_spouts_39 rfl rfl rfl (Nat.le_of_ble_eq_true rfl) (Nat.le_of_ble_eq_true rfl) rfl (Nat.le_of_ble_eq_true rfl) ⟨Nat.zero_le _, Nat.zero_le _⟩ ?_
          refine J_iinc E (lv' := [(3, .int (nI (i + 1))), (0, .ref (b 0)), (1, .int v), (2, .int (spoF ((y 0)) 11))]) dX6_spouts_42 3 rfl (nI_inc _) (by decide) rfl ?_
          refine J_goto E (tgt := 25) dX6_spouts_45 (by decide) ?_
          refine J_lv [1, 2, 3, 0] rfl ?_
          exact ih25 (i + 1) (up2 r 4 i ((v >>> ((nI i) &&& 31)) &&& 1)) (by omega) (by rw [hr]; rfl) (by omega)
    refine J_lv [2, 3, 1, 0] rfl ?_
    exact lp25 _ 0 (y 0) (by omega) rfl (Nat.lt_succ_self _)
  · skip
    have c_9 := bI_0 c_9
    exact absurd (by assumption) c_9

set_option maxHeartbeats 4000000 in
set_option maxRecDepth 20000 in
theorem c_X6_pour_bad (l : Launch) (G : GB) (b : Nat → Nat) (y : Q3) (h v : Int32) (hb : ¬ (okH h ∧ 0 ≤ v ∧ v ≤ 9999)) : CI l yX6_pour cX6_pour 3 .int 2 45 G [.ref (b 0), .int h, .int v] (wM G b y) (fun vR w' => vR = tellR 0 ∧ PubM G b (tellX y 0) w') := by
  refine CI.mk (own := RX6) (by decide) rfl (Nat.le_of_ble_eq_true rfl) ?_
  intro X E ret
  show J X G 3 0 0 (wM G b y) [(0, .ref (b 0)), (1, .int h), (2, .int v)] 0 []
  refine J_iload_n E dX6_pour_0 rfl 1 rfl ?_
  refine J_cSiN E (As := [.int h]) (c_X6_isHouse l G h ) cl_X6_87 yo_X6_isHouse dX6_pour_1 rfl (Nat.le_of_ble_eq_true rfl) (Nat.le_of_ble_eq_true rfl) rfl (Nat.le_of_ble_eq_true rfl) ⟨Nat.zero_le _, Nat.zero_le _⟩ ?_
  refine J_if_eq E (tgt := 19) dX6_pour_4 (by decide) (fun c_4 => ?_) (fun c_4 => ?_)
  · skip
    have c_4 := bI_0 c_4
    refine J_aload_n E dX6_pour_19 rfl 0 rfl ?_
    refine J_iconst E dX6_pour_20 ic_0 ?_
    refine J_cVi0 E (As := [.int 0]) (c_X6_finds l G b y 0 (by omega)) cl_X6_96 yo_X6_finds dX6_pour_21 rfl rfl rfl (Nat.le_of_ble_eq_true rfl) (Nat.le_of_ble_eq_true rfl) rfl (Nat.le_of_ble_eq_true rfl) ⟨Nat.zero_le _, Nat.zero_le _⟩ ?_
    exact ret _ _ _ _ ⟨rfl, _, rfl, by intro g h2 h5 h6; by_cases h0 : g = 0 <;> simp [tellX, upG, up3, up3R, up2, h0, h2, h5, h6]⟩ rfl dX6_pour_24
  · skip
    have c_4 := bI_1 c_4
    refine J_iload_n E dX6_pour_7 rfl 2 rfl ?_
    refine J_i2l E dX6_pour_8 rfl ?_
    refine J_lconst E dX6_pour_9 lc_0 ?_
    refine J_ldc2 E kl_X6_81 dX6_pour_10 ?_
    refine J_cSiN E (As := [.long (Int32.toInt64 v), .long 0, .long 9999]) (c_X6_in l G v 0 9999 0 9999 (by decide) (by decide) ) cl_X6_54 yo_X6_in dX6_pour_13 rfl (Nat.le_of_ble_eq_true rfl) (Nat.le_of_ble_eq_true rfl) rfl (Nat.le_of_ble_eq_true rfl) ⟨Nat.zero_le _, Nat.zero_le _⟩ ?_
    refine J_if_ne E (tgt := 25) dX6_pour_16 (by decide) (fun c_16 => ?_) (fun c_16 => ?_)
    · skip
      have c_16 := bI_1 c_16
      exact absurd ⟨c_4, c_16⟩ hb
    · skip
      have c_16 := bI_0 c_16
      refine J_aload_n E dX6_pour_19 rfl 0 rfl ?_
      refine J_iconst E dX6_pour_20 ic_0 ?_
      refine J_cVi0 E (As := [.int 0]) (c_X6_finds l G b y 0 (by omega)) cl_X6_96 yo_X6_finds dX6_pour_21 rfl rfl rfl (Nat.le_of_ble_eq_true rfl) (Nat.le_of_ble_eq_true rfl) rfl (Nat.le_of_ble_eq_true rfl) ⟨Nat.zero_le _, Nat.zero_le _⟩ ?_
      exact ret _ _ _ _ ⟨rfl, _, rfl, by intro g h2 h5 h6; by_cases h0 : g = 0 <;> simp [tellX, upG, up3, up3R, up2, h0, h2, h5, h6]⟩ rfl dX6_pour_24

set_option maxHeartbeats 4000000 in
set_option maxRecDepth 20000 in
theorem c_X6_pour_ok (l : Launch) (G : GB) (b : Nat → Nat) (y : Q3) (j : Nat) (v : Int32) (hj : j < 11) (hv : 0 ≤ v ∧ v ≤ 9999) : CI l yX6_pour cX6_pour 3 .int 3 65 G [.ref (b 0), .int (nI j), .int v] (wM G b y) (fun vR w' => vR = comesR (y 0) j v 1 j ∧ PubM G b (upG y 0 (comesR (y 0) j v)) w') := by
  refine CI.mk (own := RX6) (by decide) rfl (Nat.le_of_ble_eq_true rfl) ?_
  intro X E ret
  show J X G 3 0 0 (wM G b y) [(0, .ref (b 0)), (1, .int (nI j)), (2, .int v)] 0 []
  refine J_iload_n E dX6_pour_0 rfl 1 rfl ?_
  refine J_cSiN E (As := [.int (nI j)]) (c_X6_isHouse l G (nI j) ) cl_X6_87 yo_X6_isHouse dX6_pour_1 rfl (Nat.le_of_ble_eq_true rfl) (Nat.le_of_ble_eq_true rfl) rfl (Nat.le_of_ble_eq_true rfl) ⟨Nat.zero_le _, Nat.zero_le _⟩ ?_
  refine J_if_eq E (tgt := 19) dX6_pour_4 (by decide) (fun c_4 => ?_) (fun c_4 => ?_)
  · skip
    have c_4 := bI_0 c_4
    exact absurd (inB (a := j) (b := 10) (by omega) (by decide)) c_4
  · skip
    have c_4 := bI_1 c_4
    refine J_iload_n E dX6_pour_7 rfl 2 rfl ?_
    refine J_i2l E dX6_pour_8 rfl ?_
    refine J_lconst E dX6_pour_9 lc_0 ?_
    refine J_ldc2 E kl_X6_81 dX6_pour_10 ?_
    refine J_cSiN E (As := [.long (Int32.toInt64 v), .long 0, .long 9999]) (c_X6_in l G v 0 9999 0 9999 (by decide) (by decide) ) cl_X6_54 yo_X6_in dX6_pour_13 rfl (Nat.le_of_ble_eq_true rfl) (Nat.le_of_ble_eq_true rfl) rfl (Nat.le_of_ble_eq_true rfl) ⟨Nat.zero_le _, Nat.zero_le _⟩ ?_
    refine J_if_ne E (tgt := 25) dX6_pour_16 (by decide) (fun c_16 => ?_) (fun c_16 => ?_)
    · skip
      have c_16 := bI_1 c_16
      refine J_aload_n E dX6_pour_25 rfl 0 rfl ?_
      refine J_iload_n E dX6_pour_26 rfl 1 rfl ?_
      refine J_iload_n E dX6_pour_27 rfl 2 rfl ?_
      refine J_cVv0 E (As := [.int (nI j), .int v]) (c_X6_comes l G b y j (by omega) v ) cl_X6_127 yo_X6_comes dX6_pour_28 rfl rfl rfl (Nat.le_of_ble_eq_true rfl) (Nat.le_of_ble_eq_true rfl) rfl (Nat.le_of_ble_eq_true rfl) ⟨Nat.zero_le _, Nat.zero_le _⟩ ?_
      refine J_aload_n E dX6_pour_31 rfl 0 rfl ?_
      refine J_iload_n E dX6_pour_32 rfl 1 rfl ?_
      refine J_iconst E dX6_pour_33 ic_1 ?_
      refine J_cVi0 E (As := [.int (nI j), .int 1]) (c_X6_its l G b (upG y 0 (comesR (y 0) j v)) j 1 (by omega) (by omega)) cl_X6_64 yo_X6_its dX6_pour_34 rfl rfl rfl (Nat.le_of_ble_eq_true rfl) (Nat.le_of_ble_eq_true rfl) rfl (Nat.le_of_ble_eq_true rfl) ⟨Nat.zero_le _, Nat.zero_le _⟩ ?_
      refine J_top (x' := (comesR (y 0) j v) 1 j) (upG_s) ?_
      exact ret _ _ _ _ ⟨rfl, _, rfl, by intro g h2 h5 h6; by_cases h0 : g = 0 <;> simp [tellX, upG, up3, up3R, up2, h0, h2, h5, h6]⟩ rfl dX6_pour_37
    · skip
      have c_16 := bI_0 c_16
      exact absurd (by assumption) c_16

set_option maxHeartbeats 4000000 in
set_option maxRecDepth 20000 in
theorem c_X6_now_bad (l : Launch) (G : GB) (b : Nat → Nat) (y : Q3) (k : Int32) (hb : ¬ (0 ≤ k ∧ k ≤ 6)) : CI l yX6_now cX6_now 2 .int 1 21 G [.ref (b 0), .int k] (wM G b y) (fun vR w' => vR = tellR 0 ∧ PubM G b (tellX y 0) w') := by
  refine CI.mk (own := RX6) (by decide) rfl (Nat.le_of_ble_eq_true rfl) ?_
  intro X E ret
  show J X G 2 0 0 (wM G b y) [(0, .ref (b 0)), (1, .int k)] 0 []
  refine J_iload_n E dX6_now_0 rfl 1 rfl ?_
  by_cases c_1 : (k).toInt < 0 ∨ 6 < (k).toInt
  · refine J_tabOut E (tgt := 87) dX6_now_1 c_1 (by decide) ?_
    have n_1_0 : ¬ k = 0 := ne_out c_1 (by decide)
    have n_1_1 : ¬ k = 1 := ne_out c_1 (by decide)
    have n_1_2 : ¬ k = 2 := ne_out c_1 (by decide)
    have n_1_3 : ¬ k = 3 := ne_out c_1 (by decide)
    have n_1_4 : ¬ k = 4 := ne_out c_1 (by decide)
    have n_1_5 : ¬ k = 5 := ne_out c_1 (by decide)
    have n_1_6 : ¬ k = 6 := ne_out c_1 (by decide)
    refine J_aload_n E dX6_now_87 rfl 0 rfl ?_
    refine J_iconst E dX6_now_88 ic_0 ?_
    refine J_cVi0 E (As := [.int 0]) (c_X6_finds l G b y 0 (by omega)) cl_X6_96 yo_X6_finds dX6_now_89 rfl rfl rfl (Nat.le_of_ble_eq_true rfl) (Nat.le_of_ble_eq_true rfl) rfl (Nat.le_of_ble_eq_true rfl) ⟨Nat.zero_le _, Nat.zero_le _⟩ ?_
    exact ret _ _ _ _ ⟨rfl, _, rfl, by intro g h2 h5 h6; by_cases h0 : g = 0 <;> simp [tellX, upG, up3, up3R, up2, h0, h2, h5, h6]⟩ rfl dX6_now_92
  · rcases sw_0_6 c_1 with i_1 | i_1 | i_1 | i_1 | i_1 | i_1 | i_1
    · refine J_top i_1 ?_
      refine J_tabIn E (tgt := 44) (off := 43) dX6_now_1 (by decide) (by decide) rfl (by decide) ?_
      exact absurd (by rw [i_1]; decide) hb
    · refine J_top i_1 ?_
      refine J_tabIn E (tgt := 51) (off := 50) dX6_now_1 (by decide) (by decide) rfl (by decide) ?_
      exact absurd (by rw [i_1]; decide) hb
    · refine J_top i_1 ?_
      refine J_tabIn E (tgt := 56) (off := 55) dX6_now_1 (by decide) (by decide) rfl (by decide) ?_
      exact absurd (by rw [i_1]; decide) hb
    · refine J_top i_1 ?_
      refine J_tabIn E (tgt := 63) (off := 62) dX6_now_1 (by decide) (by decide) rfl (by decide) ?_
      exact absurd (by rw [i_1]; decide) hb
    · refine J_top i_1 ?_
      refine J_tabIn E (tgt := 70) (off := 69) dX6_now_1 (by decide) (by decide) rfl (by decide) ?_
      exact absurd (by rw [i_1]; decide) hb
    · refine J_top i_1 ?_
      refine J_tabIn E (tgt := 75) (off := 74) dX6_now_1 (by decide) (by decide) rfl (by decide) ?_
      exact absurd (by rw [i_1]; decide) hb
    · refine J_top i_1 ?_
      refine J_tabIn E (tgt := 80) (off := 79) dX6_now_1 (by decide) (by decide) rfl (by decide) ?_
      exact absurd (by rw [i_1]; decide) hb

set_option maxHeartbeats 4000000 in
set_option maxRecDepth 20000 in
theorem c_X6_now_ok (l : Launch) (G : GB) (b : Nat → Nat) (y : Q3) (k : Nat) (hk : k < 7) : CI l yX6_now cX6_now 2 .int 2 44 G [.ref (b 0), .int (nI k)] (wM G b y) (fun vR w' => vR = nowF (y 0) k ∧ PubM G b y w') := by
  refine CI.mk (own := RX6) (by decide) rfl (Nat.le_of_ble_eq_true rfl) ?_
  intro X E ret
  show J X G 2 0 0 (wM G b y) [(0, .ref (b 0)), (1, .int (nI k))] 0 []
  rcases (show k = 0 ∨ k = 1 ∨ k = 2 ∨ k = 3 ∨ k = 4 ∨ k = 5 ∨ k = 6 by omega) with rfl | rfl | rfl | rfl | rfl | rfl | rfl
  · skip
    refine J_iload_n E dX6_now_0 rfl 1 rfl ?_
    refine J_tabIn E (tgt := 44) (off := 43) dX6_now_1 (by decide) (by decide) rfl (by decide) ?_
    refine J_aload_n E dX6_now_44 rfl 0 rfl ?_
    refine gM0_X6_9 E dX6_now_45 ?_
    refine J_iconst E dX6_now_48 ic_0 ?_
    refine lMs E (j := 0) (r := 7) (i := 0) (at_7 (by decide)) dX6_now_49 ?_
    exact ret _ _ _ _ ⟨by simp [nowF], _, rfl, by intro g h2 h5 h6; by_cases h0 : g = 0 <;> simp [tellX, upG, up3, up3R, up2, h0, h2, h5, h6]⟩ rfl dX6_now_50
  · skip
    refine J_iload_n E dX6_now_0 rfl 1 rfl ?_
    refine J_tabIn E (tgt := 51) (off := 50) dX6_now_1 (by decide) (by decide) rfl (by decide) ?_
    refine J_aload_n E dX6_now_51 rfl 0 rfl ?_
    refine J_cVi0 E (As := []) (c_X6_waters l G b y ) cl_X6_147 yo_X6_waters dX6_now_52 rfl rfl rfl (Nat.le_of_ble_eq_true rfl) (Nat.le_of_ble_eq_true rfl) rfl (Nat.le_of_ble_eq_true rfl) ⟨Nat.zero_le _, Nat.zero_le _⟩ ?_
    exact ret _ _ _ _ ⟨by simp [nowF], _, rfl, by intro g h2 h5 h6; by_cases h0 : g = 0 <;> simp [tellX, upG, up3, up3R, up2, h0, h2, h5, h6]⟩ rfl dX6_now_55
  · skip
    refine J_iload_n E dX6_now_0 rfl 1 rfl ?_
    refine J_tabIn E (tgt := 56) (off := 55) dX6_now_1 (by decide) (by decide) rfl (by decide) ?_
    refine J_aload_n E dX6_now_56 rfl 0 rfl ?_
    refine gM0_X6_9 E dX6_now_57 ?_
    refine J_iconst E dX6_now_60 ic_3 ?_
    refine lMs E (j := 3) (r := 7) (i := 3) (at_7 (by decide)) dX6_now_61 ?_
    exact ret _ _ _ _ ⟨by simp [nowF], _, rfl, by intro g h2 h5 h6; by_cases h0 : g = 0 <;> simp [tellX, upG, up3, up3R, up2, h0, h2, h5, h6]⟩ rfl dX6_now_62
  · skip
    refine J_iload_n E dX6_now_0 rfl 1 rfl ?_
    refine J_tabIn E (tgt := 63) (off := 62) dX6_now_1 (by decide) (by decide) rfl (by decide) ?_
    refine J_aload_n E dX6_now_63 rfl 0 rfl ?_
    refine gM0_X6_9 E dX6_now_64 ?_
    refine J_iconst E dX6_now_67 ic_4 ?_
    refine lMs E (j := 4) (r := 7) (i := 4) (at_7 (by decide)) dX6_now_68 ?_
    exact ret _ _ _ _ ⟨by simp [nowF], _, rfl, by intro g h2 h5 h6; by_cases h0 : g = 0 <;> simp [tellX, upG, up3, up3R, up2, h0, h2, h5, h6]⟩ rfl dX6_now_69
  · skip
    refine J_iload_n E dX6_now_0 rfl 1 rfl ?_
    refine J_tabIn E (tgt := 70) (off := 69) dX6_now_1 (by decide) (by decide) rfl (by decide) ?_
    refine J_aload_n E dX6_now_70 rfl 0 rfl ?_
    refine J_cVi0 E (As := []) (c_X6_dryEver l G b y ) cl_X6_150 yo_X6_dryEver dX6_now_71 rfl rfl rfl (Nat.le_of_ble_eq_true rfl) (Nat.le_of_ble_eq_true rfl) rfl (Nat.le_of_ble_eq_true rfl) ⟨Nat.zero_le _, Nat.zero_le _⟩ ?_
    exact ret _ _ _ _ ⟨by simp [nowF], _, rfl, by intro g h2 h5 h6; by_cases h0 : g = 0 <;> simp [tellX, upG, up3, up3R, up2, h0, h2, h5, h6]⟩ rfl dX6_now_74
  · skip
    refine J_iload_n E dX6_now_0 rfl 1 rfl ?_
    refine J_tabIn E (tgt := 75) (off := 74) dX6_now_1 (by decide) (by decide) rfl (by decide) ?_
    refine J_aload_n E dX6_now_75 rfl 0 rfl ?_
    refine J_cVi0 E (As := []) (c_X6_spoutSet l G b y ) cl_X6_115 yo_X6_spoutSet dX6_now_76 rfl rfl rfl (Nat.le_of_ble_eq_true rfl) (Nat.le_of_ble_eq_true rfl) rfl (Nat.le_of_ble_eq_true rfl) ⟨Nat.zero_le _, Nat.zero_le _⟩ ?_
    exact ret _ _ _ _ ⟨by simp [nowF], _, rfl, by intro g h2 h5 h6; by_cases h0 : g = 0 <;> simp [tellX, upG, up3, up3R, up2, h0, h2, h5, h6]⟩ rfl dX6_now_79
  · skip
    refine J_iload_n E dX6_now_0 rfl 1 rfl ?_
    refine J_tabIn E (tgt := 80) (off := 79) dX6_now_1 (by decide) (by decide) rfl (by decide) ?_
    refine J_aload_n E dX6_now_80 rfl 0 rfl ?_
    refine gM0_X6_9 E dX6_now_81 ?_
    refine J_iconst E dX6_now_84 ic_2 ?_
    refine lMs E (j := 2) (r := 7) (i := 2) (at_7 (by decide)) dX6_now_85 ?_
    exact ret _ _ _ _ ⟨by simp [nowF], _, rfl, by intro g h2 h5 h6; by_cases h0 : g = 0 <;> simp [tellX, upG, up3, up3R, up2, h0, h2, h5, h6]⟩ rfl dX6_now_86

set_option maxHeartbeats 4000000 in
set_option maxRecDepth 20000 in
theorem c_X6_ahead_bad (l : Launch) (G : GB) (b : Nat → Nat) (y : Q3) (h w n : Int32) (hb : ¬ (okH h ∧ (w = 1 ∨ w = 5) ∧ 0 ≤ n ∧ n ≤ 100)) : CI l yX6_ahead cX6_ahead 5 .int 2 45 G [.ref (b 0), .int h, .int w, .int n] (wM G b y) (fun vR w' => vR = tellR 0 ∧ PubM G b (tellX y 0) w') := by
  refine CI.mk (own := RX6) (by decide) rfl (Nat.le_of_ble_eq_true rfl) ?_
  intro X E ret
  show J X G 5 0 0 (wM G b y) [(0, .ref (b 0)), (1, .int h), (2, .int w), (3, .int n)] 0 []
  refine J_iload_n E dX6_ahead_0 rfl 1 rfl ?_
  refine J_cSiN E (As := [.int h]) (c_X6_isHouse l G h ) cl_X6_87 yo_X6_isHouse dX6_ahead_1 rfl (Nat.le_of_ble_eq_true rfl) (Nat.le_of_ble_eq_true rfl) rfl (Nat.le_of_ble_eq_true rfl) ⟨Nat.zero_le _, Nat.zero_le _⟩ ?_
  refine J_if_eq E (tgt := 24) dX6_ahead_4 (by decide) (fun c_4 => ?_) (fun c_4 => ?_)
  · skip
    have c_4 := bI_0 c_4
    refine J_aload_n E dX6_ahead_24 rfl 0 rfl ?_
    refine J_iconst E dX6_ahead_25 ic_0 ?_
    refine J_cVi0 E (As := [.int 0]) (c_X6_finds l G b y 0 (by omega)) cl_X6_96 yo_X6_finds dX6_ahead_26 rfl rfl rfl (Nat.le_of_ble_eq_true rfl) (Nat.le_of_ble_eq_true rfl) rfl (Nat.le_of_ble_eq_true rfl) ⟨Nat.zero_le _, Nat.zero_le _⟩ ?_
    exact ret _ _ _ _ ⟨rfl, _, rfl, by intro g h2 h5 h6; by_cases h0 : g = 0 <;> simp [tellX, upG, up3, up3R, up2, h0, h2, h5, h6]⟩ rfl dX6_ahead_29
  · skip
    have c_4 := bI_1 c_4
    refine J_iload_n E dX6_ahead_7 rfl 2 rfl ?_
    refine J_iconst E dX6_ahead_8 ic_1 ?_
    refine J_icmp_eq E (tgt := 17) dX6_ahead_9 (by decide) (fun c_9 => ?_) (fun c_9 => ?_)
    · skip
      have hw : w = 1 ∨ w = 5 := Or.inl c_9
      refine J_iload_n E dX6_ahead_17 rfl 3 rfl ?_
      refine J_cSiN E (As := [.int n]) (c_X6_isAhead l G n ) cl_X6_157 yo_X6_isAhead dX6_ahead_18 rfl (Nat.le_of_ble_eq_true rfl) (Nat.le_of_ble_eq_true rfl) rfl (Nat.le_of_ble_eq_true rfl) ⟨Nat.zero_le _, Nat.zero_le _⟩ ?_
      refine J_if_ne E (tgt := 30) dX6_ahead_21 (by decide) (fun c_21 => ?_) (fun c_21 => ?_)
      · skip
        have c_21 := bI_1 c_21
        exact absurd ⟨c_4, hw, c_21⟩ hb
      · skip
        have c_21 := bI_0 c_21
        refine J_aload_n E dX6_ahead_24 rfl 0 rfl ?_
        refine J_iconst E dX6_ahead_25 ic_0 ?_
        refine J_cVi0 E (As := [.int 0]) (c_X6_finds l G b y 0 (by omega)) cl_X6_96 yo_X6_finds dX6_ahead_26 rfl rfl rfl (Nat.le_of_ble_eq_true rfl) (Nat.le_of_ble_eq_true rfl) rfl (Nat.le_of_ble_eq_true rfl) ⟨Nat.zero_le _, Nat.zero_le _⟩ ?_
        exact ret _ _ _ _ ⟨rfl, _, rfl, by intro g h2 h5 h6; by_cases h0 : g = 0 <;> simp [tellX, upG, up3, up3R, up2, h0, h2, h5, h6]⟩ rfl dX6_ahead_29
    · skip
      refine J_iload_n E dX6_ahead_12 rfl 2 rfl ?_
      refine J_iconst E dX6_ahead_13 ic_5 ?_
      refine J_icmp_ne E (tgt := 24) dX6_ahead_14 (by decide) (fun c_14 => ?_) (fun c_14 => ?_)
      · skip
        refine J_aload_n E dX6_ahead_24 rfl 0 rfl ?_
        refine J_iconst E dX6_ahead_25 ic_0 ?_
        refine J_cVi0 E (As := [.int 0]) (c_X6_finds l G b y 0 (by omega)) cl_X6_96 yo_X6_finds dX6_ahead_26 rfl rfl rfl (Nat.le_of_ble_eq_true rfl) (Nat.le_of_ble_eq_true rfl) rfl (Nat.le_of_ble_eq_true rfl) ⟨Nat.zero_le _, Nat.zero_le _⟩ ?_
        exact ret _ _ _ _ ⟨rfl, _, rfl, by intro g h2 h5 h6; by_cases h0 : g = 0 <;> simp [tellX, upG, up3, up3R, up2, h0, h2, h5, h6]⟩ rfl dX6_ahead_29
      · skip
        have hw : w = 1 ∨ w = 5 := Or.inr c_14
        refine J_iload_n E dX6_ahead_17 rfl 3 rfl ?_
        refine J_cSiN E (As := [.int n]) (c_X6_isAhead l G n ) cl_X6_157 yo_X6_isAhead dX6_ahead_18 rfl (Nat.le_of_ble_eq_true rfl) (Nat.le_of_ble_eq_true rfl) rfl (Nat.le_of_ble_eq_true rfl) ⟨Nat.zero_le _, Nat.zero_le _⟩ ?_
        refine J_if_ne E (tgt := 30) dX6_ahead_21 (by decide) (fun c_21 => ?_) (fun c_21 => ?_)
        · skip
          have c_21 := bI_1 c_21
          exact absurd ⟨c_4, hw, c_21⟩ hb
        · skip
          have c_21 := bI_0 c_21
          refine J_aload_n E dX6_ahead_24 rfl 0 rfl ?_
          refine J_iconst E dX6_ahead_25 ic_0 ?_
          refine J_cVi0 E (As := [.int 0]) (c_X6_finds l G b y 0 (by omega)) cl_X6_96 yo_X6_finds dX6_ahead_26 rfl rfl rfl (Nat.le_of_ble_eq_true rfl) (Nat.le_of_ble_eq_true rfl) rfl (Nat.le_of_ble_eq_true rfl) ⟨Nat.zero_le _, Nat.zero_le _⟩ ?_
          exact ret _ _ _ _ ⟨rfl, _, rfl, by intro g h2 h5 h6; by_cases h0 : g = 0 <;> simp [tellX, upG, up3, up3R, up2, h0, h2, h5, h6]⟩ rfl dX6_ahead_29

set_option maxHeartbeats 4000000 in
set_option maxRecDepth 20000 in
theorem c_X6_ahead_ok (l : Launch) (G : GB) (b : Nat → Nat) (y : Q3) (j k n : Nat) (hj : j < 11) (hk : k = 1 ∨ k = 5) (hn : n ≤ 100) (hok : okQ (y 0))  : CI l yX6_ahead cX6_ahead 5 .int 5 113 G [.ref (b 0), .int (nI j), .int (nI k), .int (nI n)] (wM G b y) (fun vR w' => vR = hoursR (y 0) n k j ∧ PubM G b y w') := by
  refine CI.mk (own := RX6) (by decide) rfl (Nat.le_of_ble_eq_true rfl) ?_
  intro X E ret
  show J X G 5 0 0 (wM G b y) [(0, .ref (b 0)), (1, .int (nI j)), (2, .int (nI k)), (3, .int (nI n))] 0 []
  rcases hk with rfl | rfl
  · skip
    refine J_iload_n E dX6_ahead_0 rfl 1 rfl ?_
    refine J_cSiN E (As := [.int (nI j)]) (c_X6_isHouse l G (nI j) ) cl_X6_87 yo_X6_isHouse dX6_ahead_1 rfl (Nat.le_of_ble_eq_true rfl) (Nat.le_of_ble_eq_true rfl) rfl (Nat.le_of_ble_eq_true rfl) ⟨Nat.zero_le _, Nat.zero_le _⟩ ?_
    refine J_if_eq E (tgt := 24) dX6_ahead_4 (by decide) (fun c_4 => ?_) (fun c_4 => ?_)
    · skip
      have c_4 := bI_0 c_4
      exact absurd (inB (a := j) (b := 10) (by omega) (by decide)) c_4
    · skip
      have c_4 := bI_1 c_4
      refine J_iload_n E dX6_ahead_7 rfl 2 rfl ?_
      refine J_iconst E dX6_ahead_8 ic_1 ?_
      refine J_icmp_eq E (tgt := 17) dX6_ahead_9 (by decide) (fun c_9 => ?_) (fun c_9 => ?_)
      · skip
        have n_9 : 1 = 1 := cmp_eq (a := 1) (b := 1) (by omega) (by omega) c_9
        refine J_iload_n E dX6_ahead_17 rfl 3 rfl ?_
        refine J_cSiN E (As := [.int (nI n)]) (c_X6_isAhead l G (nI n) ) cl_X6_157 yo_X6_isAhead dX6_ahead_18 rfl (Nat.le_of_ble_eq_true rfl) (Nat.le_of_ble_eq_true rfl) rfl (Nat.le_of_ble_eq_true rfl) ⟨Nat.zero_le _, Nat.zero_le _⟩ ?_
        refine J_if_ne E (tgt := 30) dX6_ahead_21 (by decide) (fun c_21 => ?_) (fun c_21 => ?_)
        · skip
          have c_21 := bI_1 c_21
          refine J_aload_n E dX6_ahead_30 rfl 0 rfl ?_
          refine J_cVv0 E (As := []) (c_X6_lends l G b y ) cl_X6_160 yo_X6_lends dX6_ahead_31 rfl rfl rfl (Nat.le_of_ble_eq_true rfl) (Nat.le_of_ble_eq_true rfl) rfl (Nat.le_of_ble_eq_true rfl) ⟨Nat.zero_le _, Nat.zero_le _⟩ ?_
          refine J_aload_n E dX6_ahead_34 rfl 0 rfl ?_
          refine J_iload_n E dX6_ahead_35 rfl 3 rfl ?_
          refine J_callVv E (As := [.int (nI n)]) (q0 := 0) (ci := 5) [] [] (c_X6_hours l G b (upG y 2 (y 0)) n (by omega) hok) cl_X6_144 yo_X6_hours dX6_ahead_36 rfl rfl rfl (Nat.le_of_ble_eq_true rfl) (Nat.le_of_ble_eq_true rfl) rfl (Nat.le_of_ble_eq_true rfl) (by simp) ⟨Nat.zero_le _, Nat.zero_le _⟩ (fun w' hp => ?_)
          obtain ⟨d36_1, rfl⟩ := hp
          refine J_w (ws' := wM G b (upG (upG (upG y 2 (y 0)) 5 d36_1) 0 (hoursR (y 0) n))) (List.append_nil _) ?_
          refine J_aload_n E dX6_ahead_39 rfl 0 rfl ?_
          refine J_iload_n E dX6_ahead_40 rfl 1 rfl ?_
          refine J_iload_n E dX6_ahead_41 rfl 2 rfl ?_
          refine J_cVi0 E (As := [.int (nI j), .int (nI 1)]) (c_X6_its l G b (upG (upG (upG y 2 (y 0)) 5 d36_1) 0 (hoursR (y 0) n)) j 1 (by omega) (by omega)) cl_X6_64 yo_X6_its dX6_ahead_42 rfl rfl rfl (Nat.le_of_ble_eq_true rfl) (Nat.le_of_ble_eq_true rfl) rfl (Nat.le_of_ble_eq_true rfl) ⟨Nat.zero_le _, Nat.zero_le _⟩ ?_
          refine J_top (x' := (hoursR (y 0) n) 1 j) (upG_s) ?_
          refine J_istore E (lv' := [(4, .int ((hoursR (y 0) n) 1 j)), (0, .ref (b 0)), (1, .int (nI j)), (2, .int (nI 1)), (3, .int (nI n))]) dX6_ahead_45 (by decide) rfl ?_
          refine J_aload_n E dX6_ahead_47 rfl 1 rfl ?_
          refine J_cVv0 E (As := []) (c_X6_laysBack l G b (upG (upG (upG y 2 (y 0)) 5 d36_1) 0 (hoursR (y 0) n)) ) cl_X6_163 yo_X6_laysBack dX6_ahead_48 rfl rfl rfl (Nat.le_of_ble_eq_true rfl) (Nat.le_of_ble_eq_true rfl) rfl (Nat.le_of_ble_eq_true rfl) ⟨Nat.zero_le _, Nat.zero_le _⟩ ?_
          refine J_iload E dX6_ahead_51 0 rfl ?_
          exact ret _ _ _ _ ⟨rfl, _, rfl, by intro g h2 h5 h6; by_cases h0 : g = 0 <;> simp [tellX, upG, up3, up3R, up2, h0, h2, h5, h6]⟩ rfl dX6_ahead_53
        · skip
          have c_21 := bI_0 c_21
          exact absurd (inB (a := n) (b := 100) (by omega) (by decide)) c_21
      · skip
        have n_9 : ¬ 1 = 1 := cmp_ne (a := 1) (b := 1) (by omega) (by omega) c_9
        exact absurd n_9 (by decide)
  · skip
    refine J_iload_n E dX6_ahead_0 rfl 1 rfl ?_
    refine J_cSiN E (As := [.int (nI j)]) (c_X6_isHouse l G (nI j) ) cl_X6_87 yo_X6_isHouse dX6_ahead_1 rfl (Nat.le_of_ble_eq_true rfl) (Nat.le_of_ble_eq_true rfl) rfl (Nat.le_of_ble_eq_true rfl) ⟨Nat.zero_le _, Nat.zero_le _⟩ ?_
    refine J_if_eq E (tgt := 24) dX6_ahead_4 (by decide) (fun c_4 => ?_) (fun c_4 => ?_)
    · skip
      have c_4 := bI_0 c_4
      exact absurd (inB (a := j) (b := 10) (by omega) (by decide)) c_4
    · skip
      have c_4 := bI_1 c_4
      refine J_iload_n E dX6_ahead_7 rfl 2 rfl ?_
      refine J_iconst E dX6_ahead_8 ic_1 ?_
      refine J_icmp_eq E (tgt := 17) dX6_ahead_9 (by decide) (fun c_9 => ?_) (fun c_9 => ?_)
      · skip
        have n_9 : 5 = 1 := cmp_eq (a := 5) (b := 1) (by omega) (by omega) c_9
        exact absurd n_9 (by decide)
      · skip
        have n_9 : ¬ 5 = 1 := cmp_ne (a := 5) (b := 1) (by omega) (by omega) c_9
        refine J_iload_n E dX6_ahead_12 rfl 2 rfl ?_
        refine J_iconst E dX6_ahead_13 ic_5 ?_
        refine J_icmp_ne E (tgt := 24) dX6_ahead_14 (by decide) (fun c_14 => ?_) (fun c_14 => ?_)
        · skip
          have n_14 : ¬ 5 = 5 := cmp_ne (a := 5) (b := 5) (by omega) (by omega) c_14
          exact absurd n_14 (by decide)
        · skip
          have n_14 : 5 = 5 := cmp_eq (a := 5) (b := 5) (by omega) (by omega) c_14
          refine J_iload_n E dX6_ahead_17 rfl 3 rfl ?_
          refine J_cSiN E (As := [.int (nI n)]) (c_X6_isAhead l G (nI n) ) cl_X6_157 yo_X6_isAhead dX6_ahead_18 rfl (Nat.le_of_ble_eq_true rfl) (Nat.le_of_ble_eq_true rfl) rfl (Nat.le_of_ble_eq_true rfl) ⟨Nat.zero_le _, Nat.zero_le _⟩ ?_
          refine J_if_ne E (tgt := 30) dX6_ahead_21 (by decide) (fun c_21 => ?_) (fun c_21 => ?_)
          · skip
            have c_21 := bI_1 c_21
            refine J_aload_n E dX6_ahead_30 rfl 0 rfl ?_
            refine J_cVv0 E (As := []) (c_X6_lends l G b y ) cl_X6_160 yo_X6_lends dX6_ahead_31 rfl rfl rfl (Nat.le_of_ble_eq_true rfl) (Nat.le_of_ble_eq_true rfl) rfl (Nat.le_of_ble_eq_true rfl) ⟨Nat.zero_le _, Nat.zero_le _⟩ ?_
            refine J_aload_n E dX6_ahead_34 rfl 0 rfl ?_
            refine J_iload_n E dX6_ahead_35 rfl 3 rfl ?_
            refine J_callVv E (As := [.int (nI n)]) (q0 := 0) (ci := 5) [] [] (c_X6_hours l G b (upG y 2 (y 0)) n (by omega) hok) cl_X6_144 yo_X6_hours dX6_ahead_36 rfl rfl rfl (Nat.le_of_ble_eq_true rfl) (Nat.le_of_ble_eq_true rfl) rfl (Nat.le_of_ble_eq_true rfl) (by simp) ⟨Nat.zero_le _, Nat.zero_le _⟩ (fun w' hp => ?_)
            obtain ⟨d36_2, rfl⟩ := hp
            refine J_w (ws' := wM G b (upG (upG (upG y 2 (y 0)) 5 d36_2) 0 (hoursR (y 0) n))) (List.append_nil _) ?_
            refine J_aload_n E dX6_ahead_39 rfl 0 rfl ?_
            refine J_iload_n E dX6_ahead_40 rfl 1 rfl ?_
            refine J_iload_n E dX6_ahead_41 rfl 2 rfl ?_
            refine J_cVi0 E (As := [.int (nI j), .int (nI 5)]) (c_X6_its l G b (upG (upG (upG y 2 (y 0)) 5 d36_2) 0 (hoursR (y 0) n)) j 5 (by omega) (by omega)) cl_X6_64 yo_X6_its dX6_ahead_42 rfl rfl rfl (Nat.le_of_ble_eq_true rfl) (Nat.le_of_ble_eq_true rfl) rfl (Nat.le_of_ble_eq_true rfl) ⟨Nat.zero_le _, Nat.zero_le _⟩ ?_
            refine J_top (x' := (hoursR (y 0) n) 5 j) (upG_s) ?_
            refine J_istore E (lv' := [(4, .int ((hoursR (y 0) n) 5 j)), (0, .ref (b 0)), (1, .int (nI j)), (2, .int (nI 5)), (3, .int (nI n))]) dX6_ahead_45 (by decide) rfl ?_
            refine J_aload_n E dX6_ahead_47 rfl 1 rfl ?_
            refine J_cVv0 E (As := []) (c_X6_laysBack l G b (upG (upG (upG y 2 (y 0)) 5 d36_2) 0 (hoursR (y 0) n)) ) cl_X6_163 yo_X6_laysBack dX6_ahead_48 rfl rfl rfl (Nat.le_of_ble_eq_true rfl) (Nat.le_of_ble_eq_true rfl) rfl (Nat.le_of_ble_eq_true rfl) ⟨Nat.zero_le _, Nat.zero_le _⟩ ?_
            refine J_iload E dX6_ahead_51 0 rfl ?_
            exact ret _ _ _ _ ⟨rfl, _, rfl, by intro g h2 h5 h6; by_cases h0 : g = 0 <;> simp [tellX, upG, up3, up3R, up2, h0, h2, h5, h6]⟩ rfl dX6_ahead_53
          · skip
            have c_21 := bI_0 c_21
            exact absurd (inB (a := n) (b := 100) (by omega) (by decide)) c_21

set_option maxHeartbeats 4000000 in
set_option maxRecDepth 20000 in
theorem c_X6_alleyIn (l : Launch) (G : GB) (b : Nat → Nat) (y : Q3) (m : Nat) (hm : m ≤ 1000) (hok : okQ (y 0))  : CI l yX6_alleyIn cX6_alleyIn 3 .int 5 113 G [.ref (b 0), .int (nI m)] (wM G b y) (fun vR w' => vR = hoursR (y 0) m 7 3 ∧ ∃ d : Q2, w' = wM G b (upG (upG y 5 d) 0 (y 2))) := by
  refine CI.mk (own := RX6) (by decide) rfl (Nat.le_of_ble_eq_true rfl) ?_
  intro X E ret
  show J X G 3 0 0 (wM G b y) [(0, .ref (b 0)), (1, .int (nI m))] 0 []
  refine J_aload_n E dX6_alleyIn_0 rfl 0 rfl ?_
  refine J_iload_n E dX6_alleyIn_1 rfl 1 rfl ?_
  refine J_callVv E (As := [.int (nI m)]) (q0 := 0) (ci := 5) [] [] (c_X6_hours l G b y m (by omega) hok) cl_X6_144 yo_X6_hours dX6_alleyIn_2 rfl rfl rfl (Nat.le_of_ble_eq_true rfl) (Nat.le_of_ble_eq_true rfl) rfl (Nat.le_of_ble_eq_true rfl) (by simp) ⟨Nat.zero_le _, Nat.zero_le _⟩ (fun w' hp => ?_)
  obtain ⟨d2_1, rfl⟩ := hp
  refine J_w (ws' := wM G b (upG (upG y 5 d2_1) 0 (hoursR (y 0) m))) (List.append_nil _) ?_
  refine J_aload_n E dX6_alleyIn_5 rfl 0 rfl ?_
  refine gM0_X6_9 E dX6_alleyIn_6 ?_
  refine J_iconst E dX6_alleyIn_9 ic_3 ?_
  refine lMs E (j := 3) (r := 7) (i := 3) (at_7 (by decide)) dX6_alleyIn_10 ?_
  refine J_top (x' := (hoursR (y 0) m) 7 3) upG_s ?_
  refine J_istore_n E (lv' := [(2, .int ((hoursR (y 0) m) 7 3)), (0, .ref (b 0)), (1, .int (nI m))]) dX6_alleyIn_11 rfl (by decide) rfl ?_
  refine J_aload_n E dX6_alleyIn_12 rfl 1 rfl ?_
  refine J_cVv0 E (As := []) (c_X6_laysBack l G b (upG (upG y 5 d2_1) 0 (hoursR (y 0) m)) ) cl_X6_163 yo_X6_laysBack dX6_alleyIn_13 rfl rfl rfl (Nat.le_of_ble_eq_true rfl) (Nat.le_of_ble_eq_true rfl) rfl (Nat.le_of_ble_eq_true rfl) ⟨Nat.zero_le _, Nat.zero_le _⟩ ?_
  refine J_iload_n E dX6_alleyIn_16 rfl 0 rfl ?_
  exact ret _ _ _ _ ⟨rfl, d2_1, rfl⟩ rfl dX6_alleyIn_17

set_option maxHeartbeats 4000000 in
set_option maxRecDepth 20000 in
theorem c_X6_alley_bad (l : Launch) (G : GB) (b : Nat → Nat) (y : Q3) (n : Int32) (hb : ¬ (0 ≤ n ∧ n ≤ 100)) : CI l yX6_alley cX6_alley 2 .int 2 45 G [.ref (b 0), .int n] (wM G b y) (fun vR w' => vR = tellR 0 ∧ PubM G b (tellX y 0) w') := by
  refine CI.mk (own := RX6) (by decide) rfl (Nat.le_of_ble_eq_true rfl) ?_
  intro X E ret
  show J X G 2 0 0 (wM G b y) [(0, .ref (b 0)), (1, .int n)] 0 []
  refine J_iload_n E dX6_alley_0 rfl 1 rfl ?_
  refine J_cSiN E (As := [.int n]) (c_X6_isAhead l G n ) cl_X6_157 yo_X6_isAhead dX6_alley_1 rfl (Nat.le_of_ble_eq_true rfl) (Nat.le_of_ble_eq_true rfl) rfl (Nat.le_of_ble_eq_true rfl) ⟨Nat.zero_le _, Nat.zero_le _⟩ ?_
  refine J_if_ne E (tgt := 13) dX6_alley_4 (by decide) (fun c_4 => ?_) (fun c_4 => ?_)
  · skip
    have c_4 := bI_1 c_4
    exact absurd c_4 hb
  · skip
    have c_4 := bI_0 c_4
    refine J_aload_n E dX6_alley_7 rfl 0 rfl ?_
    refine J_iconst E dX6_alley_8 ic_0 ?_
    refine J_cVi0 E (As := [.int 0]) (c_X6_finds l G b y 0 (by omega)) cl_X6_96 yo_X6_finds dX6_alley_9 rfl rfl rfl (Nat.le_of_ble_eq_true rfl) (Nat.le_of_ble_eq_true rfl) rfl (Nat.le_of_ble_eq_true rfl) ⟨Nat.zero_le _, Nat.zero_le _⟩ ?_
    exact ret _ _ _ _ ⟨rfl, _, rfl, by intro g h2 h5 h6; by_cases h0 : g = 0 <;> simp [tellX, upG, up3, up3R, up2, h0, h2, h5, h6]⟩ rfl dX6_alley_12

set_option maxHeartbeats 4000000 in
set_option maxRecDepth 20000 in
theorem c_X6_alley_ok (l : Launch) (G : GB) (b : Nat → Nat) (y : Q3) (n : Nat) (hn : n ≤ 100) (hok : okQ (y 0))  : CI l yX6_alley cX6_alley 2 .int 6 135 G [.ref (b 0), .int (nI n)] (wM G b y) (fun vR w' => vR = hoursR (y 0) n 7 3 ∧ PubM G b y w') := by
  refine CI.mk (own := RX6) (by decide) rfl (Nat.le_of_ble_eq_true rfl) ?_
  intro X E ret
  show J X G 2 0 0 (wM G b y) [(0, .ref (b 0)), (1, .int (nI n))] 0 []
  refine J_iload_n E dX6_alley_0 rfl 1 rfl ?_
  refine J_cSiN E (As := [.int (nI n)]) (c_X6_isAhead l G (nI n) ) cl_X6_157 yo_X6_isAhead dX6_alley_1 rfl (Nat.le_of_ble_eq_true rfl) (Nat.le_of_ble_eq_true rfl) rfl (Nat.le_of_ble_eq_true rfl) ⟨Nat.zero_le _, Nat.zero_le _⟩ ?_
  refine J_if_ne E (tgt := 13) dX6_alley_4 (by decide) (fun c_4 => ?_) (fun c_4 => ?_)
  · skip
    have c_4 := bI_1 c_4
    refine J_aload_n E dX6_alley_13 rfl 0 rfl ?_
    refine J_cVv0 E (As := []) (c_X6_lends l G b y ) cl_X6_160 yo_X6_lends dX6_alley_14 rfl rfl rfl (Nat.le_of_ble_eq_true rfl) (Nat.le_of_ble_eq_true rfl) rfl (Nat.le_of_ble_eq_true rfl) ⟨Nat.zero_le _, Nat.zero_le _⟩ ?_
    refine J_aload_n E dX6_alley_17 rfl 0 rfl ?_
    refine J_iload_n E dX6_alley_18 rfl 1 rfl ?_
    refine J_callVi E (As := [.int (nI n)]) (q0 := 0) (ci := 5) [] [] (c_X6_alleyIn l G b (upG y 2 (y 0)) n (by omega) hok) cl_X6_166 yo_X6_alleyIn dX6_alley_19 rfl rfl rfl (Nat.le_of_ble_eq_true rfl) (Nat.le_of_ble_eq_true rfl) rfl (Nat.le_of_ble_eq_true rfl) (by simp) ⟨Nat.zero_le _, Nat.zero_le _⟩ (fun vR w' hp => ?_)
    obtain ⟨rfl, d19_1, rfl⟩ := hp
    refine J_w (ws' := wM G b (upG (upG (upG y 2 (y 0)) 5 d19_1) 0 (y 0))) (List.append_nil _) ?_
    refine J_top (x' := hoursR (y 0) n 7 3) rfl ?_
    exact ret _ _ _ _ ⟨rfl, _, rfl, by intro g h2 h5 h6; by_cases h0 : g = 0 <;> simp [tellX, upG, up3, up3R, up2, h0, h2, h5, h6]⟩ rfl dX6_alley_22
  · skip
    have c_4 := bI_0 c_4
    exact absurd (inB (a := n) (b := 100) (by omega) (by decide)) c_4

set_option maxHeartbeats 4000000 in
set_option maxRecDepth 20000 in
theorem c_X6_dry_bad (l : Launch) (G : GB) (b : Nat → Nat) (y : Q3) (n : Int32) (hb : ¬ (0 ≤ n ∧ n ≤ 100)) : CI l yX6_dry cX6_dry 3 .int 2 45 G [.ref (b 0), .int n] (wM G b y) (fun vR w' => vR = tellR 0 ∧ PubM G b (tellX y 0) w') := by
  refine CI.mk (own := RX6) (by decide) rfl (Nat.le_of_ble_eq_true rfl) ?_
  intro X E ret
  show J X G 3 0 0 (wM G b y) [(0, .ref (b 0)), (1, .int n)] 0 []
  refine J_iload_n E dX6_dry_0 rfl 1 rfl ?_
  refine J_cSiN E (As := [.int n]) (c_X6_isAhead l G n ) cl_X6_157 yo_X6_isAhead dX6_dry_1 rfl (Nat.le_of_ble_eq_true rfl) (Nat.le_of_ble_eq_true rfl) rfl (Nat.le_of_ble_eq_true rfl) ⟨Nat.zero_le _, Nat.zero_le _⟩ ?_
  refine J_if_ne E (tgt := 13) dX6_dry_4 (by decide) (fun c_4 => ?_) (fun c_4 => ?_)
  · skip
    have c_4 := bI_1 c_4
    exact absurd c_4 hb
  · skip
    have c_4 := bI_0 c_4
    refine J_aload_n E dX6_dry_7 rfl 0 rfl ?_
    refine J_iconst E dX6_dry_8 ic_0 ?_
    refine J_cVi0 E (As := [.int 0]) (c_X6_finds l G b y 0 (by omega)) cl_X6_96 yo_X6_finds dX6_dry_9 rfl rfl rfl (Nat.le_of_ble_eq_true rfl) (Nat.le_of_ble_eq_true rfl) rfl (Nat.le_of_ble_eq_true rfl) ⟨Nat.zero_le _, Nat.zero_le _⟩ ?_
    exact ret _ _ _ _ ⟨rfl, _, rfl, by intro g h2 h5 h6; by_cases h0 : g = 0 <;> simp [tellX, upG, up3, up3R, up2, h0, h2, h5, h6]⟩ rfl dX6_dry_12

set_option maxHeartbeats 4000000 in
set_option maxRecDepth 20000 in
theorem c_X6_dry_ok (l : Launch) (G : GB) (b : Nat → Nat) (y : Q3) (n : Nat) (hn : n ≤ 100) (hok : okQ (y 0))  : CI l yX6_dry cX6_dry 3 .int 5 114 G [.ref (b 0), .int (nI n)] (wM G b y) (fun vR w' => vR = drysR (y 0) n ∧ PubM G b y w') := by
  refine CI.mk (own := RX6) (by decide) rfl (Nat.le_of_ble_eq_true rfl) ?_
  intro X E ret
  show J X G 3 0 0 (wM G b y) [(0, .ref (b 0)), (1, .int (nI n))] 0 []
  refine J_iload_n E dX6_dry_0 rfl 1 rfl ?_
  refine J_cSiN E (As := [.int (nI n)]) (c_X6_isAhead l G (nI n) ) cl_X6_157 yo_X6_isAhead dX6_dry_1 rfl (Nat.le_of_ble_eq_true rfl) (Nat.le_of_ble_eq_true rfl) rfl (Nat.le_of_ble_eq_true rfl) ⟨Nat.zero_le _, Nat.zero_le _⟩ ?_
  refine J_if_ne E (tgt := 13) dX6_dry_4 (by decide) (fun c_4 => ?_) (fun c_4 => ?_)
  · skip
    have c_4 := bI_1 c_4
    refine J_aload_n E dX6_dry_13 rfl 0 rfl ?_
    refine J_cVv0 E (As := []) (c_X6_lends l G b y ) cl_X6_160 yo_X6_lends dX6_dry_14 rfl rfl rfl (Nat.le_of_ble_eq_true rfl) (Nat.le_of_ble_eq_true rfl) rfl (Nat.le_of_ble_eq_true rfl) ⟨Nat.zero_le _, Nat.zero_le _⟩ ?_
    refine J_aload_n E dX6_dry_17 rfl 0 rfl ?_
    refine J_iload_n E dX6_dry_18 rfl 1 rfl ?_
    refine J_callVi E (As := [.int (nI n)]) (q0 := 0) (ci := 5) [] [] (c_X6_dryIn l G b (upG y 2 (y 0)) n (by omega) hok) cl_X6_169 yo_X6_dryIn dX6_dry_19 rfl rfl rfl (Nat.le_of_ble_eq_true rfl) (Nat.le_of_ble_eq_true rfl) rfl (Nat.le_of_ble_eq_true rfl) (by simp) ⟨Nat.zero_le _, Nat.zero_le _⟩ (fun vR w' hp => ?_)
    obtain ⟨rfl, d19_1, rfl⟩ := hp
    refine J_w (ws' := wM G b (upG (upG (upG y 2 (y 0)) 5 d19_1) 0 (hoursR (y 0) n))) (List.append_nil _) ?_
    refine J_top (x' := drysR (y 0) n) rfl ?_
    refine J_istore_n E (lv' := [(2, .int (drysR (y 0) n)), (0, .ref (b 0)), (1, .int (nI n))]) dX6_dry_22 rfl (by decide) rfl ?_
    refine J_aload_n E dX6_dry_23 rfl 1 rfl ?_
    refine J_cVv0 E (As := []) (c_X6_laysBack l G b (upG (upG (upG y 2 (y 0)) 5 d19_1) 0 (hoursR (y 0) n)) ) cl_X6_163 yo_X6_laysBack dX6_dry_24 rfl rfl rfl (Nat.le_of_ble_eq_true rfl) (Nat.le_of_ble_eq_true rfl) rfl (Nat.le_of_ble_eq_true rfl) ⟨Nat.zero_le _, Nat.zero_le _⟩ ?_
    refine J_iload_n E dX6_dry_27 rfl 0 rfl ?_
    exact ret _ _ _ _ ⟨rfl, _, rfl, by intro g h2 h5 h6; by_cases h0 : g = 0 <;> simp [tellX, upG, up3, up3R, up2, h0, h2, h5, h6]⟩ rfl dX6_dry_28
  · skip
    have c_4 := bI_0 c_4
    exact absurd (inB (a := n) (b := 100) (by omega) (by decide)) c_4

set_option maxHeartbeats 4000000 in
set_option maxRecDepth 20000 in
theorem c_X6_when_bad (l : Launch) (G : GB) (b : Nat → Nat) (y : Q3) (h v : Int32) (hb : ¬ (okH h ∧ 0 ≤ v ∧ v ≤ 9999)) : CI l yX6_when cX6_when 4 .int 2 45 G [.ref (b 0), .int h, .int v] (wM G b y) (fun vR w' => vR = tellR 0 ∧ PubM G b (tellX y 0) w') := by
  refine CI.mk (own := RX6) (by decide) rfl (Nat.le_of_ble_eq_true rfl) ?_
  intro X E ret
  show J X G 4 0 0 (wM G b y) [(0, .ref (b 0)), (1, .int h), (2, .int v)] 0 []
  refine J_iload_n E dX6_when_0 rfl 1 rfl ?_
  refine J_cSiN E (As := [.int h]) (c_X6_isHouse l G h ) cl_X6_87 yo_X6_isHouse dX6_when_1 rfl (Nat.le_of_ble_eq_true rfl) (Nat.le_of_ble_eq_true rfl) rfl (Nat.le_of_ble_eq_true rfl) ⟨Nat.zero_le _, Nat.zero_le _⟩ ?_
  refine J_if_eq E (tgt := 19) dX6_when_4 (by decide) (fun c_4 => ?_) (fun c_4 => ?_)
  · skip
    have c_4 := bI_0 c_4
    refine J_aload_n E dX6_when_19 rfl 0 rfl ?_
    refine J_iconst E dX6_when_20 ic_0 ?_
    refine J_cVi0 E (As := [.int 0]) (c_X6_finds l G b y 0 (by omega)) cl_X6_96 yo_X6_finds dX6_when_21 rfl rfl rfl (Nat.le_of_ble_eq_true rfl) (Nat.le_of_ble_eq_true rfl) rfl (Nat.le_of_ble_eq_true rfl) ⟨Nat.zero_le _, Nat.zero_le _⟩ ?_
    exact ret _ _ _ _ ⟨rfl, _, rfl, by intro g h2 h5 h6; by_cases h0 : g = 0 <;> simp [tellX, upG, up3, up3R, up2, h0, h2, h5, h6]⟩ rfl dX6_when_24
  · skip
    have c_4 := bI_1 c_4
    refine J_iload_n E dX6_when_7 rfl 2 rfl ?_
    refine J_i2l E dX6_when_8 rfl ?_
    refine J_lconst E dX6_when_9 lc_0 ?_
    refine J_ldc2 E kl_X6_81 dX6_when_10 ?_
    refine J_cSiN E (As := [.long (Int32.toInt64 v), .long 0, .long 9999]) (c_X6_in l G v 0 9999 0 9999 (by decide) (by decide) ) cl_X6_54 yo_X6_in dX6_when_13 rfl (Nat.le_of_ble_eq_true rfl) (Nat.le_of_ble_eq_true rfl) rfl (Nat.le_of_ble_eq_true rfl) ⟨Nat.zero_le _, Nat.zero_le _⟩ ?_
    refine J_if_ne E (tgt := 25) dX6_when_16 (by decide) (fun c_16 => ?_) (fun c_16 => ?_)
    · skip
      have c_16 := bI_1 c_16
      exact absurd ⟨c_4, c_16⟩ hb
    · skip
      have c_16 := bI_0 c_16
      refine J_aload_n E dX6_when_19 rfl 0 rfl ?_
      refine J_iconst E dX6_when_20 ic_0 ?_
      refine J_cVi0 E (As := [.int 0]) (c_X6_finds l G b y 0 (by omega)) cl_X6_96 yo_X6_finds dX6_when_21 rfl rfl rfl (Nat.le_of_ble_eq_true rfl) (Nat.le_of_ble_eq_true rfl) rfl (Nat.le_of_ble_eq_true rfl) ⟨Nat.zero_le _, Nat.zero_le _⟩ ?_
      exact ret _ _ _ _ ⟨rfl, _, rfl, by intro g h2 h5 h6; by_cases h0 : g = 0 <;> simp [tellX, upG, up3, up3R, up2, h0, h2, h5, h6]⟩ rfl dX6_when_24

set_option maxHeartbeats 4000000 in
set_option maxRecDepth 20000 in
theorem c_X6_when_ok (l : Launch) (G : GB) (b : Nat → Nat) (y : Q3) (j : Nat) (v : Int32) (hj : j < 11) (hv : 0 ≤ v ∧ v ≤ 9999) (hok : okQ (y 0))  : CI l yX6_when cX6_when 4 .int 4 91 G [.ref (b 0), .int (nI j), .int v] (wM G b y) (fun vR w' => vR = optR (upF (fun i => decide (v ≤ hoursR (y 0) i 1 j)) 101 0) ∧ PubM G b (optX y (upF (fun i => decide (v ≤ hoursR (y 0) i 1 j)) 101 0)) w') := by
  refine CI.mk (own := RX6) (by decide) rfl (Nat.le_of_ble_eq_true rfl) ?_
  intro X E ret
  show J X G 4 0 0 (wM G b y) [(0, .ref (b 0)), (1, .int (nI j)), (2, .int v)] 0 []
  refine J_iload_n E dX6_when_0 rfl 1 rfl ?_
  refine J_cSiN E (As := [.int (nI j)]) (c_X6_isHouse l G (nI j) ) cl_X6_87 yo_X6_isHouse dX6_when_1 rfl (Nat.le_of_ble_eq_true rfl) (Nat.le_of_ble_eq_true rfl) rfl (Nat.le_of_ble_eq_true rfl) ⟨Nat.zero_le _, Nat.zero_le _⟩ ?_
  refine J_if_eq E (tgt := 19) dX6_when_4 (by decide) (fun c_4 => ?_) (fun c_4 => ?_)
  · skip
    have c_4 := bI_0 c_4
    exact absurd (inB (a := j) (b := 10) (by omega) (by decide)) c_4
  · skip
    have c_4 := bI_1 c_4
    refine J_iload_n E dX6_when_7 rfl 2 rfl ?_
    refine J_i2l E dX6_when_8 rfl ?_
    refine J_lconst E dX6_when_9 lc_0 ?_
    refine J_ldc2 E kl_X6_81 dX6_when_10 ?_
    refine J_cSiN E (As := [.long (Int32.toInt64 v), .long 0, .long 9999]) (c_X6_in l G v 0 9999 0 9999 (by decide) (by decide) ) cl_X6_54 yo_X6_in dX6_when_13 rfl (Nat.le_of_ble_eq_true rfl) (Nat.le_of_ble_eq_true rfl) rfl (Nat.le_of_ble_eq_true rfl) ⟨Nat.zero_le _, Nat.zero_le _⟩ ?_
    refine J_if_ne E (tgt := 25) dX6_when_16 (by decide) (fun c_16 => ?_) (fun c_16 => ?_)
    · skip
      have c_16 := bI_1 c_16
      refine J_aload_n E dX6_when_25 rfl 0 rfl ?_
      refine J_cVv0 E (As := []) (c_X6_lends l G b y ) cl_X6_160 yo_X6_lends dX6_when_26 rfl rfl rfl (Nat.le_of_ble_eq_true rfl) (Nat.le_of_ble_eq_true rfl) rfl (Nat.le_of_ble_eq_true rfl) ⟨Nat.zero_le _, Nat.zero_le _⟩ ?_
      refine J_iconst E dX6_when_29 ic_0 ?_
      refine J_istore_n E (lv' := [(3, .int 0), (0, .ref (b 0)), (1, .int (nI j)), (2, .int v)]) dX6_when_30 rfl (by decide) rfl ?_
      have lp31 : ∀ (fu : Nat) (i : Nat) (d : Q2) (z : Q2) (r : Q2), (z = y 0) → (i ≤ 101) → (r = hoursR (y 0) i) → (upF (fun i => decide (v ≤ hoursR (y 0) i 1 j)) 101 0 = upF (fun i => decide (v ≤ hoursR (y 0) i 1 j)) (101 - i) i) → 101 - i < fu → J X G 4 0 0 (wM G b (upG (upG (upG y 5 d) 2 z) 0 r)) [(0, .ref (b 0)), (1, .int (nI j)), (2, .int v), (3, .int (nI i))] 31 [] := by
        intro fu
        induction fu with
        | zero => intro i d z r hz hi hr h1 hm; exact absurd hm (Nat.not_lt_zero _)
        | succ fu ih31 =>
          intro i d z r hz hi hr h1 hm
          refine J_iload_n E dX6_when_31 rfl 3 rfl ?_
          refine J_bipush E dX6_when_32 bp_100 ?_
          refine J_icmp_gt E (tgt := 57) dX6_when_34 (by decide) (fun c_34 => ?_) (fun c_34 => ?_)
          · skip
            have n_34 : 100 < i := cmp_lt (a := 100) (b := i) (by omega) (by omega) c_34
            have h2 : upF (fun i => decide (v ≤ hoursR (y 0) i 1 j)) 101 0 = none := by rw [h1, show 101 - i = 0 by omega]; rfl
            refine J_aload_n E dX6_when_57 rfl 0 rfl ?_
            refine J_cVv0 E (As := []) (c_X6_laysBack l G b (upG (upG (upG y 5 d) 2 z) 0 r) ) cl_X6_163 yo_X6_laysBack dX6_when_58 rfl rfl rfl (Nat.le_of_ble_eq_true rfl) (Nat.le_of_ble_eq_true rfl) rfl (Nat.le_of_ble_eq_true rfl) ⟨Nat.zero_le _, Nat.zero_le _⟩ ?_
            refine J_iload_n E dX6_when_61 rfl 3 rfl ?_
            refine J_bipush E dX6_when_62 bp_100 ?_
            refine J_icmp_gt E (tgt := 71) dX6_when_64 (by decide) (fun c_64 => ?_) (fun c_64 => ?_)
            · skip
              have n_64 : 100 < i := cmp_lt (a := 100) (b := i) (by omega) (by omega) c_64
              refine J_aload_n E dX6_when_71 rfl 0 rfl ?_
              refine J_iconst E dX6_when_72 ic_3 ?_
              refine J_cVi0 E (As := [.int 3]) (c_X6_finds l G b (upG (upG (upG (upG y 5 d) 2 z) 0 r) 0 z) 3 (by omega)) cl_X6_96 yo_X6_finds dX6_when_73 rfl rfl rfl (Nat.le_of_ble_eq_true rfl) (Nat.le_of_ble_eq_true rfl) rfl (Nat.le_of_ble_eq_true rfl) ⟨Nat.zero_le _, Nat.zero_le _⟩ ?_
              refine J_top (x' := tellR 3) rfl ?_
              exact ret _ _ _ _ ⟨by first | (rw [h2]; rfl) | (exfalso; omega), _, rfl, by first | (rw [h2]; intro g h2 h5 h6; by_cases h0 : g = 0 <;> simp [optX, tellX, upG, up3, h0, h2, h5, h6, hz]) | (exfalso; omega)⟩ rfl dX6_when_76
            · skip
              have n_64 : ¬ 100 < i := cmp_nlt (a := 100) (b := i) (by omega) (by omega) c_64
              refine J_iload_n E dX6_when_67 rfl 3 rfl ?_
              refine J_goto E (tgt := 76) dX6_when_68 (by decide) ?_
              exact ret _ _ _ _ ⟨by first | (rw [h2]; rfl) | (exfalso; omega), _, rfl, by first | (rw [h2]; intro g h2 h5 h6; by_cases h0 : g = 0 <;> simp [optX, tellX, upG, up3, h0, h2, h5, h6, hz]) | (exfalso; omega)⟩ rfl dX6_when_76
          · skip
            have n_34 : ¬ 100 < i := cmp_nlt (a := 100) (b := i) (by omega) (by omega) c_34
            refine J_aload_n E dX6_when_37 rfl 0 rfl ?_
            refine J_iload_n E dX6_when_38 rfl 1 rfl ?_
            refine J_iconst E dX6_when_39 ic_1 ?_
            refine J_cVi0 E (As := [.int (nI j), .int 1]) (c_X6_its l G b (upG (upG (upG y 5 d) 2 z) 0 r) j 1 (by omega) (by omega)) cl_X6_64 yo_X6_its dX6_when_40 rfl rfl rfl (Nat.le_of_ble_eq_true rfl) (Nat.le_of_ble_eq_true rfl) rfl (Nat.le_of_ble_eq_true rfl) ⟨Nat.zero_le _, Nat.zero_le _⟩ ?_
            refine J_top (x' := r 1 j) (upG_s) ?_
            refine J_iload_n E dX6_when_43 rfl 2 rfl ?_
            refine J_icmp_ge E (tgt := 57) dX6_when_44 (by decide) (fun c_44 => ?_) (fun c_44 => ?_)
            · skip
              have h2 : upF (fun i => decide (v ≤ hoursR (y 0) i 1 j)) 101 0 = some i := by rw [h1, show 101 - i = (100 - i) + 1 by omega]; exact upF_t (by rw [hr] at c_44; exact decide_eq_true c_44)
              refine J_aload_n E dX6_when_57 rfl 0 rfl ?_
              refine J_cVv0 E (As := []) (c_X6_laysBack l G b (upG (upG (upG y 5 d) 2 z) 0 r) ) cl_X6_163 yo_X6_laysBack dX6_when_58 rfl rfl rfl (Nat.le_of_ble_eq_true rfl) (Nat.le_of_ble_eq_true rfl) rfl (Nat.le_of_ble_eq_true rfl) ⟨Nat.zero_le _, Nat.zero_le _⟩ ?_
              refine J_iload_n E dX6_when_61 rfl 3 rfl ?_
              refine J_bipush E dX6_when_62 bp_100 ?_
              refine J_icmp_gt E (tgt := 71) dX6_when_64 (by decide) (fun c_64 => ?_) (fun c_64 => ?_)
              · skip
                have n_64 : 100 < i := cmp_lt (a := 100) (b := i) (by omega) (by omega) c_64
                refine J_aload_n E dX6_when_71 rfl 0 rfl ?_
                refine J_iconst E dX6_when_72 ic_3 ?_
                refine J_cVi0 E (As := [.int 3]) (c_X6_finds l G b (upG (upG (upG (upG y 5 d) 2 z) 0 r) 0 z) 3 (by omega)) cl_X6_96 yo_X6_finds dX6_when_73 rfl rfl rfl (Nat.le_of_ble_eq_true rfl) (Nat.le_of_ble_eq_true rfl) rfl (Nat.le_of_ble_eq_true rfl) ⟨Nat.zero_le _, Nat.zero_le _⟩ ?_
                refine J_top (x' := tellR 3) rfl ?_
                exact ret _ _ _ _ ⟨by first | (rw [h2]; rfl) | (exfalso; omega), _, rfl, by first | (rw [h2]; intro g h2 h5 h6; by_cases h0 : g = 0 <;> simp [optX, tellX, upG, up3, h0, h2, h5, h6, hz]) | (exfalso; omega)⟩ rfl dX6_when_76
              · skip
                have n_64 : ¬ 100 < i := cmp_nlt (a := 100) (b := i) (by omega) (by omega) c_64
                refine J_iload_n E dX6_when_67 rfl 3 rfl ?_
                refine J_goto E (tgt := 76) dX6_when_68 (by decide) ?_
                exact ret _ _ _ _ ⟨by first | (rw [h2]; rfl) | (exfalso; omega), _, rfl, by first | (rw [h2]; intro g h2 h5 h6; by_cases h0 : g = 0 <;> simp [optX, tellX, upG, up3, h0, h2, h5, h6, hz]) | (exfalso; omega)⟩ rfl dX6_when_76
            · skip
              refine J_aload_n E dX6_when_47 rfl 0 rfl ?_
              refine J_cVv0 E (As := []) (c_X6_anHour l G b (upG (upG (upG y 5 d) 2 z) 0 r) (by rw [hr]; exact okQ_hs hok i)) cl_X6_138 yo_X6_anHour dX6_when_48 rfl rfl rfl (Nat.le_of_ble_eq_true rfl) (Nat.le_of_ble_eq_true rfl) rfl (Nat.le_of_ble_eq_true rfl) ⟨Nat.zero_le _, Nat.zero_le _⟩ ?_
              refine J_iinc E (lv' := [(3, .int (nI (i + 1))), (0, .ref (b 0)), (1, .int (nI j)), (2, .int v)]) dX6_when_51 3 rfl (nI_inc _) (by decide) rfl ?_
              refine J_goto E (tgt := 31) dX6_when_54 (by decide) ?_
              refine J_lv [1, 2, 3, 0] rfl ?_
              exact ih31 (i + 1) (hd5 r d) z (hourR0 r) hz (by omega) (by rw [hr]; rfl) (by rw [h1, show 101 - i = (101 - (i + 1)) + 1 by omega, upF_f (by rw [hr] at c_44; exact fun z => absurd (of_decide_eq_true z) c_44)]) (by omega)
      refine J_lv [1, 2, 3, 0] rfl ?_
      exact lp31 _ 0 (y 5) (y 0) (y 0) rfl (by omega) rfl rfl (Nat.lt_succ_self _)
    · skip
      have c_16 := bI_0 c_16
      exact absurd (by assumption) c_16

set_option maxHeartbeats 4000000 in
set_option maxRecDepth 20000 in
theorem c_X6_leavesAll (l : Launch) (G : GB) (b : Nat → Nat) (y : Q3) (hok : okQ (y 0))  : CI l yX6_leavesAll cX6_leavesAll 3 .boolean 4 91 G [.ref (b 0)] (wM G b y) (fun vR w' => vR = bI (stillB (y 0) = true) ∧ ∃ d : Q2, w' = wM G b (upG (upG y 5 d) 0 (hourR0 (y 0)))) := by
  refine CI.mk (own := RX6) (by decide) rfl (Nat.le_of_ble_eq_true rfl) ?_
  intro X E ret
  show J X G 3 0 0 (wM G b y) [(0, .ref (b 0))] 0 []
  refine J_iconst E dX6_leavesAll_0 ic_0 ?_
  refine J_istore_n E (lv' := [(1, .int 0), (0, .ref (b 0))]) dX6_leavesAll_1 rfl (by decide) rfl ?_
  refine J_w (ws' := wM G b (upG y 5 (y 5))) (congrArg (wM G b) upG_id.symm) ?_
  have lp2 : ∀ (fu : Nat) (i : Nat) (d : Q2), (i ≤ 11) → (∀ j, j < i → d 1 j = y 0 1 j) → 11 - i < fu → J X G 3 0 0 (wM G b (upG y 5 d)) [(0, .ref (b 0)), (1, .int (nI i))] 2 [] := by
    intro fu
    induction fu with
    | zero => intro i d hi hd hm; exact absurd hm (Nat.not_lt_zero _)
    | succ fu ih2 =>
      intro i d hi hd hm
      refine J_iload_n E dX6_leavesAll_2 rfl 1 rfl ?_
      refine J_bipush E dX6_leavesAll_3 bp_11 ?_
      refine J_icmp_ge E (tgt := 26) dX6_leavesAll_5 (by decide) (fun c_5 => ?_) (fun c_5 => ?_)
      · skip
        have n_5 : 11 ≤ i := cmp_le (a := 11) (b := i) (by omega) (by omega) c_5
        refine J_aload_n E dX6_leavesAll_26 rfl 0 rfl ?_
        refine J_cVv0 E (As := []) (c_X6_anHour l G b (upG y 5 d) hok) cl_X6_138 yo_X6_anHour dX6_leavesAll_27 rfl rfl rfl (Nat.le_of_ble_eq_true rfl) (Nat.le_of_ble_eq_true rfl) rfl (Nat.le_of_ble_eq_true rfl) ⟨Nat.zero_le _, Nat.zero_le _⟩ ?_
        refine J_iconst E dX6_leavesAll_30 ic_1 ?_
        refine J_istore_n E (lv' := [(1, .int 1), (0, .ref (b 0))]) dX6_leavesAll_31 rfl (by decide) rfl ?_
        refine J_iconst E dX6_leavesAll_32 ic_0 ?_
        refine J_istore_n E (lv' := [(2, .int 0), (1, .int 1), (0, .ref (b 0))]) dX6_leavesAll_33 rfl (by decide) rfl ?_
        have lp34 : ∀ (fu : Nat) (i2 : Nat) (s : Int32), (i2 ≤ 11) → (s = bI (allF (fun h => decide (hourR0 (y 0) 1 h = y 0 1 h)) i2 = true)) → 11 - i2 < fu → J X G 3 0 0 (wM G b (upG (upG (upG y 5 d) 5 (hd5 (y 0) d)) 0 (hourR0 (y 0)))) [(0, .ref (b 0)), (1, .int s), (2, .int (nI i2))] 34 [] := by
          intro fu
          induction fu with
          | zero => intro i2 s hi2 hs hm; exact absurd hm (Nat.not_lt_zero _)
          | succ fu ih34 =>
            intro i2 s hi2 hs hm
            refine J_iload_n E dX6_leavesAll_34 rfl 2 rfl ?_
            refine J_bipush E dX6_leavesAll_35 bp_11 ?_
            refine J_icmp_ge E (tgt := 71) dX6_leavesAll_37 (by decide) (fun c_37 => ?_) (fun c_37 => ?_)
            · skip
              have n_37 : 11 ≤ i2 := cmp_le (a := 11) (b := i2) (by omega) (by omega) c_37
              refine J_iload_n E dX6_leavesAll_71 rfl 1 rfl ?_
              exact ret _ _ _ _ ⟨by rw [hs, show i2 = 11 by omega]; rfl, hd5 (y 0) d, rfl⟩ (by rw [hs]; exact bI_nar) dX6_leavesAll_72
            · skip
              have n_37 : ¬ 11 ≤ i2 := cmp_nle (a := 11) (b := i2) (by omega) (by omega) c_37
              refine J_iload_n E dX6_leavesAll_40 rfl 1 rfl ?_
              refine J_if_eq E (tgt := 63) dX6_leavesAll_41 (by decide) (fun c_41 => ?_) (fun c_41 => ?_)
              · skip
                refine J_iconst E dX6_leavesAll_63 ic_0 ?_
                refine J_istore_n E (lv' := [(1, .int 0), (0, .ref (b 0)), (2, .int (nI i2))]) dX6_leavesAll_64 rfl (by decide) rfl ?_
                refine J_iinc E (lv' := [(2, .int (nI (i2 + 1))), (1, .int 0), (0, .ref (b 0))]) dX6_leavesAll_65 2 rfl (nI_inc _) (by decide) rfl ?_
                refine J_goto E (tgt := 34) dX6_leavesAll_68 (by decide) ?_
                refine J_lv [2, 1, 0] rfl ?_
                exact ih34 (i2 + 1) 0 (by omega) (by first | (rw [bI_t]; rw [allF, bool_t hs c_41]; simp [c_56]) | (rw [bI_f]; rw [allF]; intro z; have z := Bool.and_eq_true_iff.mp z; first | exact bool_b hs c_41 z.1 | exact absurd (of_decide_eq_true z.2).symm c_56)) (by omega)
              · skip
                refine J_aload_n E dX6_leavesAll_44 rfl 0 rfl ?_
                refine gM0_X6_25 E dX6_leavesAll_45 ?_
                refine J_iload_n E dX6_leavesAll_48 rfl 2 rfl ?_
                refine lM_6 E (j := i2) dX6_leavesAll_49 (by omega) ?_
                refine J_top (x' := (hd5 (y 0) d) 1 i2) (Eq.trans (upG_n (by decide)) upG_s) ?_
                refine J_top (x' := y 0 1 i2) (hd i2 (by omega)) ?_
                refine J_aload_n E dX6_leavesAll_50 rfl 0 rfl ?_
                refine J_iload_n E dX6_leavesAll_51 rfl 2 rfl ?_
                refine J_iconst E dX6_leavesAll_52 ic_1 ?_
                refine J_cVi0 E (As := [.int (nI i2), .int 1]) (c_X6_its l G b (upG (upG (upG y 5 d) 5 (hd5 (y 0) d)) 0 (hourR0 (y 0))) i2 1 (by omega) (by omega)) cl_X6_64 yo_X6_its dX6_leavesAll_53 rfl rfl rfl (Nat.le_of_ble_eq_true rfl) (Nat.le_of_ble_eq_true rfl) rfl (Nat.le_of_ble_eq_true rfl) ⟨Nat.zero_le _, Nat.zero_le _⟩ ?_
                refine J_top (x' := (hourR0 (y 0)) 1 i2) (upG_s) ?_
                refine J_icmp_ne E (tgt := 63) dX6_leavesAll_56 (by decide) (fun c_56 => ?_) (fun c_56 => ?_)
                · skip
                  refine J_iconst E dX6_leavesAll_63 ic_0 ?_
                  refine J_istore_n E (lv' := [(1, .int 0), (0, .ref (b 0)), (2, .int (nI i2))]) dX6_leavesAll_64 rfl (by decide) rfl ?_
                  refine J_iinc E (lv' := [(2, .int (nI (i2 + 1))), (1, .int 0), (0, .ref (b 0))]) dX6_leavesAll_65 2 rfl (nI_inc _) (by decide) rfl ?_
                  refine J_goto E (tgt := 34) dX6_leavesAll_68 (by decide) ?_
                  refine J_lv [2, 1, 0] rfl ?_
                  exact ih34 (i2 + 1) 0 (by omega) (by first | (rw [bI_t]; rw [allF, bool_t hs c_41]; simp [c_56]) | (rw [bI_f]; rw [allF]; intro z; have z := Bool.and_eq_true_iff.mp z; first | exact bool_b hs c_41 z.1 | exact absurd (of_decide_eq_true z.2).symm c_56)) (by omega)
                · skip
                  refine J_iconst E dX6_leavesAll_59 ic_1 ?_
                  refine J_goto E (tgt := 64) dX6_leavesAll_60 (by decide) ?_
                  refine J_istore_n E (lv' := [(1, .int 1), (0, .ref (b 0)), (2, .int (nI i2))]) dX6_leavesAll_64 rfl (by decide) rfl ?_
                  refine J_iinc E (lv' := [(2, .int (nI (i2 + 1))), (1, .int 1), (0, .ref (b 0))]) dX6_leavesAll_65 2 rfl (nI_inc _) (by decide) rfl ?_
                  refine J_goto E (tgt := 34) dX6_leavesAll_68 (by decide) ?_
                  refine J_lv [2, 1, 0] rfl ?_
                  exact ih34 (i2 + 1) 1 (by omega) (by first | (rw [bI_t]; rw [allF, bool_t hs c_41]; simp [c_56]) | (rw [bI_f]; rw [allF]; intro z; have z := Bool.and_eq_true_iff.mp z; first | exact bool_b hs c_41 z.1 | exact absurd (of_decide_eq_true z.2).symm c_56)) (by omega)
        refine J_lv [2, 1, 0] rfl ?_
        exact lp34 _ 0 1 (by omega) rfl (Nat.lt_succ_self _)
      · skip
        have n_5 : ¬ 11 ≤ i := cmp_nle (a := 11) (b := i) (by omega) (by omega) c_5
        refine J_aload_n E dX6_leavesAll_8 rfl 0 rfl ?_
        refine gM0_X6_25 E dX6_leavesAll_9 ?_
        refine J_iload_n E dX6_leavesAll_12 rfl 1 rfl ?_
        refine J_aload_n E dX6_leavesAll_13 rfl 0 rfl ?_
        refine J_iload_n E dX6_leavesAll_14 rfl 1 rfl ?_
        refine J_iconst E dX6_leavesAll_15 ic_1 ?_
        refine J_cVi0 E (As := [.int (nI i), .int 1]) (c_X6_its l G b (upG y 5 d) i 1 (by omega) (by omega)) cl_X6_64 yo_X6_its dX6_leavesAll_16 rfl rfl rfl (Nat.le_of_ble_eq_true rfl) (Nat.le_of_ble_eq_true rfl) rfl (Nat.le_of_ble_eq_true rfl) ⟨Nat.zero_le _, Nat.zero_le _⟩ ?_
        refine J_top (x' := y 0 1 i) ((upG_n (by decide))) ?_
        refine sM_6 E (j := i) dX6_leavesAll_19 (by omega) ?_
        refine J_iinc E (lv' := [(1, .int (nI (i + 1))), (0, .ref (b 0))]) dX6_leavesAll_20 1 rfl (nI_inc _) (by decide) rfl ?_
        refine J_goto E (tgt := 2) dX6_leavesAll_23 (by decide) ?_
        refine J_lv [1, 0] rfl ?_
        exact ih2 (i + 1) ((up3 (upG y 5 d) 5 1 i (y 0 1 i)) 5) (by omega) (fun j hj => by show upd (d 1) i (y 0 1 i) j = y 0 1 j; by_cases e : j = i; rw [e]; exact pk_us; rw [pk_un e]; exact hd j (by omega)) (by omega)
  refine J_lv [1, 0] rfl ?_
  exact lp2 _ 0 (y 5) (by omega) (fun j hj => absurd hj (Nat.not_lt_zero j)) (Nat.lt_succ_self _)

set_option maxHeartbeats 4000000 in
set_option maxRecDepth 20000 in
theorem c_X6_settles (l : Launch) (G : GB) (b : Nat → Nat) (y : Q3) (hok : okQ (y 0))  : CI l yX6_settles cX6_settles 2 .int 5 113 G [.ref (b 0)] (wM G b y) (fun vR w' => vR = optR (upF (fun i => stillB (hoursR (y 0) i)) 101 0) ∧ PubM G b (optX y (upF (fun i => stillB (hoursR (y 0) i)) 101 0)) w') := by
  refine CI.mk (own := RX6) (by decide) rfl (Nat.le_of_ble_eq_true rfl) ?_
  intro X E ret
  show J X G 2 0 0 (wM G b y) [(0, .ref (b 0))] 0 []
  refine J_aload_n E dX6_settles_0 rfl 0 rfl ?_
  refine J_cVv0 E (As := []) (c_X6_lends l G b y ) cl_X6_160 yo_X6_lends dX6_settles_1 rfl rfl rfl (Nat.le_of_ble_eq_true rfl) (Nat.le_of_ble_eq_true rfl) rfl (Nat.le_of_ble_eq_true rfl) ⟨Nat.zero_le _, Nat.zero_le _⟩ ?_
  refine J_iconst E dX6_settles_4 ic_0 ?_
  refine J_istore_n E (lv' := [(1, .int 0), (0, .ref (b 0))]) dX6_settles_5 rfl (by decide) rfl ?_
  have lp6 : ∀ (fu : Nat) (i : Nat) (d : Q2) (z : Q2) (r : Q2), (z = y 0) → (i ≤ 101) → (r = hoursR (y 0) i) → (upF (fun i => stillB (hoursR (y 0) i)) 101 0 = upF (fun i => stillB (hoursR (y 0) i)) (101 - i) i) → 101 - i < fu → J X G 2 0 0 (wM G b (upG (upG (upG y 5 d) 2 z) 0 r)) [(0, .ref (b 0)), (1, .int (nI i))] 6 [] := by
    intro fu
    induction fu with
    | zero => intro i d z r hz hi hr h1 hm; exact absurd hm (Nat.not_lt_zero _)
    | succ fu ih6 =>
      intro i d z r hz hi hr h1 hm
      refine J_iload_n E dX6_settles_6 rfl 1 rfl ?_
      refine J_bipush E dX6_settles_7 bp_100 ?_
      refine J_icmp_gt E (tgt := 25) dX6_settles_9 (by decide) (fun c_9 => ?_) (fun c_9 => ?_)
      · skip
        have n_9 : 100 < i := cmp_lt (a := 100) (b := i) (by omega) (by omega) c_9
        have h2 : upF (fun i => stillB (hoursR (y 0) i)) 101 0 = none := by rw [h1, show 101 - i = 0 by omega]; rfl
        refine J_aload_n E dX6_settles_25 rfl 0 rfl ?_
        refine J_cVv0 E (As := []) (c_X6_laysBack l G b (upG (upG (upG y 5 d) 2 z) 0 r) ) cl_X6_163 yo_X6_laysBack dX6_settles_26 rfl rfl rfl (Nat.le_of_ble_eq_true rfl) (Nat.le_of_ble_eq_true rfl) rfl (Nat.le_of_ble_eq_true rfl) ⟨Nat.zero_le _, Nat.zero_le _⟩ ?_
        refine J_iload_n E dX6_settles_29 rfl 1 rfl ?_
        refine J_bipush E dX6_settles_30 bp_100 ?_
        refine J_icmp_gt E (tgt := 39) dX6_settles_32 (by decide) (fun c_32 => ?_) (fun c_32 => ?_)
        · skip
          have n_32 : 100 < i := cmp_lt (a := 100) (b := i) (by omega) (by omega) c_32
          refine J_aload_n E dX6_settles_39 rfl 0 rfl ?_
          refine J_iconst E dX6_settles_40 ic_3 ?_
          refine J_cVi0 E (As := [.int 3]) (c_X6_finds l G b (upG (upG (upG (upG y 5 d) 2 z) 0 r) 0 z) 3 (by omega)) cl_X6_96 yo_X6_finds dX6_settles_41 rfl rfl rfl (Nat.le_of_ble_eq_true rfl) (Nat.le_of_ble_eq_true rfl) rfl (Nat.le_of_ble_eq_true rfl) ⟨Nat.zero_le _, Nat.zero_le _⟩ ?_
          refine J_top (x' := tellR 3) rfl ?_
          exact ret _ _ _ _ ⟨by first | (rw [h2]; rfl) | (exfalso; omega), _, rfl, by first | (rw [h2]; intro g h2 h5 h6; by_cases h0 : g = 0 <;> simp [optX, tellX, upG, up3, h0, h2, h5, h6, hz]) | (exfalso; omega)⟩ rfl dX6_settles_44
        · skip
          have n_32 : ¬ 100 < i := cmp_nlt (a := 100) (b := i) (by omega) (by omega) c_32
          refine J_iload_n E dX6_settles_35 rfl 1 rfl ?_
          refine J_goto E (tgt := 44) dX6_settles_36 (by decide) ?_
          exact ret _ _ _ _ ⟨by first | (rw [h2]; rfl) | (exfalso; omega), _, rfl, by first | (rw [h2]; intro g h2 h5 h6; by_cases h0 : g = 0 <;> simp [optX, tellX, upG, up3, h0, h2, h5, h6, hz]) | (exfalso; omega)⟩ rfl dX6_settles_44
      · skip
        have n_9 : ¬ 100 < i := cmp_nlt (a := 100) (b := i) (by omega) (by omega) c_9
        refine J_aload_n E dX6_settles_12 rfl 0 rfl ?_
        refine J_callVi E (As := []) (q0 := 0) (ci := 5) [] [] (c_X6_leavesAll l G b (upG (upG (upG y 5 d) 2 z) 0 r) (by rw [hr]; exact okQ_hs hok i)) cl_X6_172 yo_X6_leavesAll dX6_settles_13 rfl rfl rfl (Nat.le_of_ble_eq_true rfl) (Nat.le_of_ble_eq_true rfl) rfl (Nat.le_of_ble_eq_true rfl) (by simp) ⟨Nat.zero_le _, Nat.zero_le _⟩ (fun vR w' hp => ?_)
        obtain ⟨rfl, d13_1, rfl⟩ := hp
        refine J_w (ws' := wM G b (upG (upG (upG (upG (upG y 5 d) 2 z) 0 r) 5 d13_1) 0 (hourR0 r))) (List.append_nil _) ?_
        refine J_top (x' := bI (stillB r = true)) rfl ?_
        refine J_if_ne E (tgt := 25) dX6_settles_16 (by decide) (fun c_16 => ?_) (fun c_16 => ?_)
        · skip
          have c_16 := bI_1 c_16
          have h2 : upF (fun i => stillB (hoursR (y 0) i)) 101 0 = some i := by rw [h1, show 101 - i = (100 - i) + 1 by omega]; exact upF_t (by rw [hr] at c_16; exact c_16)
          refine J_aload_n E dX6_settles_25 rfl 0 rfl ?_
          refine J_cVv0 E (As := []) (c_X6_laysBack l G b (upG (upG (upG (upG (upG y 5 d) 2 z) 0 r) 5 d13_1) 0 (hourR0 r)) ) cl_X6_163 yo_X6_laysBack dX6_settles_26 rfl rfl rfl (Nat.le_of_ble_eq_true rfl) (Nat.le_of_ble_eq_true rfl) rfl (Nat.le_of_ble_eq_true rfl) ⟨Nat.zero_le _, Nat.zero_le _⟩ ?_
          refine J_iload_n E dX6_settles_29 rfl 1 rfl ?_
          refine J_bipush E dX6_settles_30 bp_100 ?_
          refine J_icmp_gt E (tgt := 39) dX6_settles_32 (by decide) (fun c_32 => ?_) (fun c_32 => ?_)
          · skip
            have n_32 : 100 < i := cmp_lt (a := 100) (b := i) (by omega) (by omega) c_32
            refine J_aload_n E dX6_settles_39 rfl 0 rfl ?_
            refine J_iconst E dX6_settles_40 ic_3 ?_
            refine J_cVi0 E (As := [.int 3]) (c_X6_finds l G b (upG (upG (upG (upG (upG (upG y 5 d) 2 z) 0 r) 5 d13_1) 0 (hourR0 r)) 0 z) 3 (by omega)) cl_X6_96 yo_X6_finds dX6_settles_41 rfl rfl rfl (Nat.le_of_ble_eq_true rfl) (Nat.le_of_ble_eq_true rfl) rfl (Nat.le_of_ble_eq_true rfl) ⟨Nat.zero_le _, Nat.zero_le _⟩ ?_
            refine J_top (x' := tellR 3) rfl ?_
            exact ret _ _ _ _ ⟨by first | (rw [h2]; rfl) | (exfalso; omega), _, rfl, by first | (rw [h2]; intro g h2 h5 h6; by_cases h0 : g = 0 <;> simp [optX, tellX, upG, up3, h0, h2, h5, h6, hz]) | (exfalso; omega)⟩ rfl dX6_settles_44
          · skip
            have n_32 : ¬ 100 < i := cmp_nlt (a := 100) (b := i) (by omega) (by omega) c_32
            refine J_iload_n E dX6_settles_35 rfl 1 rfl ?_
            refine J_goto E (tgt := 44) dX6_settles_36 (by decide) ?_
            exact ret _ _ _ _ ⟨by first | (rw [h2]; rfl) | (exfalso; omega), _, rfl, by first | (rw [h2]; intro g h2 h5 h6; by_cases h0 : g = 0 <;> simp [optX, tellX, upG, up3, h0, h2, h5, h6, hz]) | (exfalso; omega)⟩ rfl dX6_settles_44
        · skip
          have c_16 := bI_0 c_16
          refine J_iinc E (lv' := [(1, .int (nI (i + 1))), (0, .ref (b 0))]) dX6_settles_19 1 rfl (nI_inc _) (by decide) rfl ?_
          refine J_goto E (tgt := 6) dX6_settles_22 (by decide) ?_
          refine J_lv [1, 0] rfl ?_
          exact ih6 (i + 1) d13_1 z (hourR0 r) hz (by omega) (by rw [hr]; rfl) (by rw [h1, show 101 - i = (101 - (i + 1)) + 1 by omega, upF_f (by rw [hr] at c_16; exact c_16)]) (by omega)
  refine J_lv [1, 0] rfl ?_
  exact lp6 _ 0 (y 5) (y 0) (y 0) rfl (by omega) rfl rfl (Nat.lt_succ_self _)

theorem lead_up {q : Q2} (h : spOk q) {w i : Nat} (hw : w < 11) (hi : i ≤ w) : leadF q w = -1 ∨ ∃ u : Nat, u < 11 ∧ i + 1 ≤ u ∧ leadF q w = nI u := by
  unfold leadF
  rcases h w hw with e | e
  · rw [e, show nI w + 1 + 0 = nI (w + 1) by rw [nI_1, Int32.add_zero]]
    split
    · rename_i c
      exact Or.inr ⟨w + 1, by have := cmp_le (a := w + 1) (b := 10) (by omega) (by decide) c; omega, by omega, rfl⟩
    · exact Or.inl rfl
  · rw [e, show nI w + 1 + 1 = nI (w + 2) by rw [nI_1, nI_1]]
    split
    · rename_i c
      exact Or.inr ⟨w + 2, by have := cmp_le (a := w + 2) (b := 10) (by omega) (by decide) c; omega, by omega, rfl⟩
    · exact Or.inl rfl

set_option maxHeartbeats 4000000 in
set_option maxRecDepth 20000 in
theorem c_X6_below_bad (l : Launch) (G : GB) (b : Nat → Nat) (y : Q3) (h : Int32) (hb : ¬ okH h) : CI l yX6_below cX6_below 4 .int 2 45 G [.ref (b 0), .int h] (wM G b y) (fun vR w' => vR = tellR 0 ∧ PubM G b (tellX y 0) w') := by
  refine CI.mk (own := RX6) (by decide) rfl (Nat.le_of_ble_eq_true rfl) ?_
  intro X E ret
  show J X G 4 0 0 (wM G b y) [(0, .ref (b 0)), (1, .int h)] 0 []
  refine J_iload_n E dX6_below_0 rfl 1 rfl ?_
  refine J_cSiN E (As := [.int h]) (c_X6_isHouse l G h ) cl_X6_87 yo_X6_isHouse dX6_below_1 rfl (Nat.le_of_ble_eq_true rfl) (Nat.le_of_ble_eq_true rfl) rfl (Nat.le_of_ble_eq_true rfl) ⟨Nat.zero_le _, Nat.zero_le _⟩ ?_
  refine J_if_ne E (tgt := 13) dX6_below_4 (by decide) (fun c_4 => ?_) (fun c_4 => ?_)
  · skip
    have c_4 := bI_1 c_4
    exact absurd c_4 hb
  · skip
    have c_4 := bI_0 c_4
    refine J_aload_n E dX6_below_7 rfl 0 rfl ?_
    refine J_iconst E dX6_below_8 ic_0 ?_
    refine J_cVi0 E (As := [.int 0]) (c_X6_finds l G b y 0 (by omega)) cl_X6_96 yo_X6_finds dX6_below_9 rfl rfl rfl (Nat.le_of_ble_eq_true rfl) (Nat.le_of_ble_eq_true rfl) rfl (Nat.le_of_ble_eq_true rfl) ⟨Nat.zero_le _, Nat.zero_le _⟩ ?_
    exact ret _ _ _ _ ⟨rfl, _, rfl, by intro g h2 h5 h6; by_cases h0 : g = 0 <;> simp [tellX, upG, up3, up3R, up2, h0, h2, h5, h6]⟩ rfl dX6_below_12

set_option maxHeartbeats 4000000 in
set_option maxRecDepth 20000 in
theorem c_X6_below_ok (l : Launch) (G : GB) (b : Nat → Nat) (y : Q3) (j : Nat) (hj : j < 11) (hok : okQ (y 0))  : CI l yX6_below cX6_below 4 .int 2 45 G [.ref (b 0), .int (nI j)] (wM G b y) (fun vR w' => vR = belowF (y 0) 11 (nI j) 0 ∧ PubM G b y w') := by
  refine CI.mk (own := RX6) (by decide) rfl (Nat.le_of_ble_eq_true rfl) ?_
  intro X E ret
  show J X G 4 0 0 (wM G b y) [(0, .ref (b 0)), (1, .int (nI j))] 0 []
  refine J_iload_n E dX6_below_0 rfl 1 rfl ?_
  refine J_cSiN E (As := [.int (nI j)]) (c_X6_isHouse l G (nI j) ) cl_X6_87 yo_X6_isHouse dX6_below_1 rfl (Nat.le_of_ble_eq_true rfl) (Nat.le_of_ble_eq_true rfl) rfl (Nat.le_of_ble_eq_true rfl) ⟨Nat.zero_le _, Nat.zero_le _⟩ ?_
  refine J_if_ne E (tgt := 13) dX6_below_4 (by decide) (fun c_4 => ?_) (fun c_4 => ?_)
  · skip
    have c_4 := bI_1 c_4
    refine J_iconst E dX6_below_13 ic_0 ?_
    refine J_istore_n E (lv' := [(2, .int 0), (0, .ref (b 0)), (1, .int (nI j))]) dX6_below_14 rfl (by decide) rfl ?_
    refine J_iload_n E dX6_below_15 rfl 2 rfl ?_
    refine J_istore_n E (lv' := [(3, .int (nI j)), (2, .int 0), (0, .ref (b 0)), (1, .int (nI j))]) dX6_below_16 rfl (by decide) rfl ?_
    have lp17 : ∀ (fu : Nat) (i : Nat) (v : Int32) (s : Int32), (i ≤ 11) → (v = -1 ∨ ∃ w : Nat, w < 11 ∧ i ≤ w ∧ v = nI w) → (belowF (y 0) 11 (nI j) 0 = belowF (y 0) (11 - i) v s) → 11 - i < fu → J X G 4 0 0 (wM G b y) [(0, .ref (b 0)), (1, .int (nI j)), (2, .int s), (3, .int v)] 17 [] := by
      intro fu
      induction fu with
      | zero => intro i v s hi hv h1 hm; exact absurd hm (Nat.not_lt_zero _)
      | succ fu ih17 =>
        intro i v s hi hv h1 hm
        refine J_iload_n E dX6_below_17 rfl 3 rfl ?_
        refine J_if_lt E (tgt := 36) dX6_below_18 (by decide) (fun c_18 => ?_) (fun c_18 => ?_)
        · skip
          have hv2 : v = -1 := hv.resolve_right (fun ⟨w, hw, _, e⟩ => absurd c_18 (by rw [e]; exact nI_pos (by omega)))
          refine J_iload_n E dX6_below_36 rfl 2 rfl ?_
          exact ret _ _ _ _ ⟨by rw [h1, belowF_t hv2], _, rfl, by intro g h2 h5 h6; by_cases h0 : g = 0 <;> simp [tellX, upG, up3, up3R, up2, h0, h2, h5, h6]⟩ rfl dX6_below_37
        · skip
          obtain ⟨w, hw2, hw3, rfl⟩ := hv.resolve_left (fun e => c_18 (by rw [e]; decide))
          refine J_iload_n E dX6_below_21 rfl 2 rfl ?_
          refine J_iconst E dX6_below_22 ic_1 ?_
          refine J_iload_n E dX6_below_23 rfl 3 rfl ?_
          refine J_ishl E dX6_below_24 ?_
          refine J_ior E dX6_below_25 ?_
          refine J_istore_n E (lv' := [(2, .int (s ||| (1 <<< ((nI w) &&& 31)))), (0, .ref (b 0)), (1, .int (nI j)), (3, .int (nI w))]) dX6_below_26 rfl (by decide) rfl ?_
          refine J_aload_n E dX6_below_27 rfl 1 rfl ?_
          refine J_iload_n E dX6_below_28 rfl 3 rfl ?_
          refine J_cVi0 E (As := [.int (nI w)]) (c_X6_leads l G b y w (by omega)) cl_X6_110 yo_X6_leads dX6_below_29 rfl rfl rfl (Nat.le_of_ble_eq_true rfl) (Nat.le_of_ble_eq_true rfl) rfl (Nat.le_of_ble_eq_true rfl) ⟨Nat.zero_le _, Nat.zero_le _⟩ ?_
          refine J_istore_n E (lv' := [(3, .int (leadF (y 0) w)), (2, .int (s ||| (1 <<< ((nI w) &&& 31)))), (0, .ref (b 0)), (1, .int (nI j))]) dX6_below_32 rfl (by decide) rfl ?_
          refine J_goto E (tgt := 17) dX6_below_33 (by decide) ?_
          refine J_lv [2, 3, 1, 0] rfl ?_
          exact ih17 (i + 1) (leadF (y 0) w) (s ||| (1 <<< ((nI w) &&& 31))) (by omega) (lead_up hok.1 (by omega) hw3) (by rw [h1, show 11 - i = (11 - (i + 1)) + 1 by omega, belowF_f (m1_ne hw2), nI_clamp (by omega)]) (by omega)
    refine J_lv [2, 3, 1, 0] rfl ?_
    exact lp17 _ 0 (nI j) 0 (by omega) (Or.inr ⟨j, hj, Nat.zero_le _, rfl⟩) rfl (Nat.lt_succ_self _)
  · skip
    have c_4 := bI_0 c_4
    exact absurd (inB (a := j) (b := 10) (by omega) (by decide)) c_4

set_option maxHeartbeats 4000000 in
set_option maxRecDepth 20000 in
theorem c_X6_isWet (l : Launch) (G : GB) (b : Nat → Nat) (y : Q3) (j m : Nat) (hj : j < 11) (hm : m ≤ 1000) (hok : okQ (y 0))  : CI l yX6_isWet cX6_isWet 4 .boolean 5 114 G [.ref (b 0), .int (nI j), .int (nI m)] (wM G b y) (fun vR w' => vR = bI (wetB (y 0) j m = true) ∧ ∃ d : Q2, w' = wM G b (upG (upG y 5 d) 0 (y 2))) := by
  refine CI.mk (own := RX6) (by decide) rfl (Nat.le_of_ble_eq_true rfl) ?_
  intro X E ret
  show J X G 4 0 0 (wM G b y) [(0, .ref (b 0)), (1, .int (nI j)), (2, .int (nI m))] 0 []
  refine J_aload_n E dX6_isWet_0 rfl 0 rfl ?_
  refine J_iload_n E dX6_isWet_1 rfl 2 rfl ?_
  refine J_callVi E (As := [.int (nI m)]) (q0 := 0) (ci := 5) [] [] (c_X6_dryIn l G b y m (by omega) hok) cl_X6_169 yo_X6_dryIn dX6_isWet_2 rfl rfl rfl (Nat.le_of_ble_eq_true rfl) (Nat.le_of_ble_eq_true rfl) rfl (Nat.le_of_ble_eq_true rfl) (by simp) ⟨Nat.zero_le _, Nat.zero_le _⟩ (fun vR w' hp => ?_)
  obtain ⟨rfl, d2_1, rfl⟩ := hp
  refine J_w (ws' := wM G b (upG (upG y 5 d2_1) 0 (hoursR (y 0) m))) (List.append_nil _) ?_
  refine J_iload_n E dX6_isWet_5 rfl 1 rfl ?_
  refine J_ishr E dX6_isWet_6 ?_
  refine J_iconst E dX6_isWet_7 ic_1 ?_
  refine J_iand E dX6_isWet_8 ?_
  refine J_if_ne E (tgt := 16) dX6_isWet_9 (by decide) (fun c_9 => ?_) (fun c_9 => ?_)
  · skip
    refine J_iconst E dX6_isWet_16 ic_0 ?_
    refine J_istore_n E (lv' := [(3, .int 0), (0, .ref (b 0)), (1, .int (nI j)), (2, .int (nI m))]) dX6_isWet_17 rfl (by decide) rfl ?_
    refine J_aload_n E dX6_isWet_18 rfl 1 rfl ?_
    refine J_cVv0 E (As := []) (c_X6_laysBack l G b (upG (upG y 5 d2_1) 0 (hoursR (y 0) m)) ) cl_X6_163 yo_X6_laysBack dX6_isWet_19 rfl rfl rfl (Nat.le_of_ble_eq_true rfl) (Nat.le_of_ble_eq_true rfl) rfl (Nat.le_of_ble_eq_true rfl) ⟨Nat.zero_le _, Nat.zero_le _⟩ ?_
    refine J_iload_n E dX6_isWet_22 rfl 0 rfl ?_
    exact ret _ _ _ _ ⟨by first | (rw [bI_t]; exact decide_eq_true c_9) | (rw [bI_f]; exact fun z => c_9 (of_decide_eq_true z)), d2_1, rfl⟩ rfl dX6_isWet_23
  · skip
    refine J_iconst E dX6_isWet_12 ic_1 ?_
    refine J_goto E (tgt := 17) dX6_isWet_13 (by decide) ?_
    refine J_istore_n E (lv' := [(3, .int 1), (0, .ref (b 0)), (1, .int (nI j)), (2, .int (nI m))]) dX6_isWet_17 rfl (by decide) rfl ?_
    refine J_aload_n E dX6_isWet_18 rfl 1 rfl ?_
    refine J_cVv0 E (As := []) (c_X6_laysBack l G b (upG (upG y 5 d2_1) 0 (hoursR (y 0) m)) ) cl_X6_163 yo_X6_laysBack dX6_isWet_19 rfl rfl rfl (Nat.le_of_ble_eq_true rfl) (Nat.le_of_ble_eq_true rfl) rfl (Nat.le_of_ble_eq_true rfl) ⟨Nat.zero_le _, Nat.zero_le _⟩ ?_
    refine J_iload_n E dX6_isWet_22 rfl 0 rfl ?_
    exact ret _ _ _ _ ⟨by first | (rw [bI_t]; exact decide_eq_true c_9) | (rw [bI_f]; exact fun z => c_9 (of_decide_eq_true z)), d2_1, rfl⟩ rfl dX6_isWet_23

set_option maxHeartbeats 4000000 in
set_option maxRecDepth 20000 in
theorem c_X6_isWetBy (l : Launch) (G : GB) (b : Nat → Nat) (y : Q3) (j m k : Nat) (v : Int32) (hj : j < 11) (hm : m ≤ 1000) (hk : k < 6) (hok : okQ (up2 (y 0) k j v)) : CI l yX6_isWetBy cX6_isWetBy 5 .boolean 6 137 G [.ref (b 0), .int (nI j), .int (nI m), .int (nI k), .int v] (wM G b y) (fun vR w' => vR = bI (wetB (up2 (y 0) k j v) j m = true) ∧ ∃ d : Q2, w' = wM G b (upG (upG (upG y 2 (y 0)) 5 d) 0 (y 0))) := by
  refine CI.mk (own := RX6) (by decide) rfl (Nat.le_of_ble_eq_true rfl) ?_
  intro X E ret
  show J X G 5 0 0 (wM G b y) [(0, .ref (b 0)), (1, .int (nI j)), (2, .int (nI m)), (3, .int (nI k)), (4, .int v)] 0 []
  refine J_aload_n E dX6_isWetBy_0 rfl 0 rfl ?_
  refine J_cVv0 E (As := []) (c_X6_lends l G b y ) cl_X6_160 yo_X6_lends dX6_isWetBy_1 rfl rfl rfl (Nat.le_of_ble_eq_true rfl) (Nat.le_of_ble_eq_true rfl) rfl (Nat.le_of_ble_eq_true rfl) ⟨Nat.zero_le _, Nat.zero_le _⟩ ?_
  refine J_aload_n E dX6_isWetBy_4 rfl 0 rfl ?_
  refine J_iload_n E dX6_isWetBy_5 rfl 1 rfl ?_
  refine J_iload_n E dX6_isWetBy_6 rfl 3 rfl ?_
  refine J_iload E dX6_isWetBy_7 4 rfl ?_
  refine J_cVv0 E (As := [.int (nI j), .int (nI k), .int v]) (c_X6_sets l G b (upG y 2 (y 0)) j k v (by omega) (by omega)) cl_X6_43 yo_X6_sets dX6_isWetBy_9 rfl rfl rfl (Nat.le_of_ble_eq_true rfl) (Nat.le_of_ble_eq_true rfl) rfl (Nat.le_of_ble_eq_true rfl) ⟨Nat.zero_le _, Nat.zero_le _⟩ ?_
  refine J_aload_n E dX6_isWetBy_12 rfl 0 rfl ?_
  refine J_iload_n E dX6_isWetBy_13 rfl 1 rfl ?_
  refine J_iload_n E dX6_isWetBy_14 rfl 2 rfl ?_
  refine J_callVi E (As := [.int (nI j), .int (nI m)]) (q0 := 0) (ci := 5) [] [] (c_X6_isWet l G b (upG (upG y 2 (y 0)) 0 (up2 (y 0) k j v)) j m (by omega) (by omega) hok) cl_X6_179 yo_X6_isWet dX6_isWetBy_15 rfl rfl rfl (Nat.le_of_ble_eq_true rfl) (Nat.le_of_ble_eq_true rfl) rfl (Nat.le_of_ble_eq_true rfl) (by simp) ⟨Nat.zero_le _, Nat.zero_le _⟩ (fun vR w' hp => ?_)
  obtain ⟨rfl, d15_1, rfl⟩ := hp
  refine J_w (ws' := wM G b (upG (upG (upG (upG y 2 (y 0)) 0 (up2 (y 0) k j v)) 5 d15_1) 0 (y 0))) (List.append_nil _) ?_
  refine J_top (x' := bI (wetB (up2 (y 0) k j v) j m = true)) rfl ?_
  exact ret _ _ _ _ ⟨rfl, d15_1, rfl⟩ bI_nar dX6_isWetBy_18
theorem argF_mx {f : Nat → Int32} {n : Nat} {a : Int32} (h : a = (argF f n).1) : mx a (f n) = (argF f (n + 1)).1 := by
  rw [argF, mx, h]
  split <;> rfl
theorem minF_mn {f : Nat → Int32} {n : Nat} {a : Int32} (h : a = (minF f n).1) : mn a (f n) = (minF f (n + 1)).1 := by
  rw [minF, mn, h]
  split <;> rfl
theorem argF_b {f : Nat → Int32} {n : Nat} {a : Int32} (h : a = (argF f n).1) (c : ¬ f n ≤ a) : nI n = nI (argF f (n + 1)).2 := by
  rw [argF, if_pos (by rw [← h]; exact Int32.not_le.mp c)]
theorem argF_k {f : Nat → Int32} {n : Nat} {a : Int32} (h : a = (argF f n).1) (c : f n ≤ a) : nI (argF f n).2 = nI (argF f (n + 1)).2 := by
  rw [argF, if_neg (by rw [← h]; exact Int32.not_lt.mpr c)]
theorem minF_b {f : Nat → Int32} {n : Nat} {a : Int32} (h : a = (minF f n).1) (c : ¬ a ≤ f n) : nI n = nI (minF f (n + 1)).2 := by
  rw [minF, if_pos (by rw [← h]; exact Int32.not_le.mp c)]
theorem minF_k {f : Nat → Int32} {n : Nat} {a : Int32} (h : a = (minF f n).1) (c : a ≤ f n) : nI (minF f n).2 = nI (minF f (n + 1)).2 := by
  rw [minF, if_neg (by rw [← h]; exact Int32.not_lt.mpr c)]

set_option maxHeartbeats 4000000 in
set_option maxRecDepth 20000 in
theorem c_X6_rainFor_bad (l : Launch) (G : GB) (b : Nat → Nat) (y : Q3) (h n : Int32) (hb : ¬ (okH h ∧ 0 ≤ n ∧ n ≤ 40)) : CI l yX6_rainFor cX6_rainFor 4 .int 2 45 G [.ref (b 0), .int h, .int n] (wM G b y) (fun vR w' => vR = tellR 0 ∧ PubM G b (tellX y 0) w') := by
  refine CI.mk (own := RX6) (by decide) rfl (Nat.le_of_ble_eq_true rfl) ?_
  intro X E ret
  show J X G 4 0 0 (wM G b y) [(0, .ref (b 0)), (1, .int h), (2, .int n)] 0 []
  refine J_iload_n E dX6_rainFor_0 rfl 1 rfl ?_
  refine J_cSiN E (As := [.int h]) (c_X6_isHouse l G h ) cl_X6_87 yo_X6_isHouse dX6_rainFor_1 rfl (Nat.le_of_ble_eq_true rfl) (Nat.le_of_ble_eq_true rfl) rfl (Nat.le_of_ble_eq_true rfl) ⟨Nat.zero_le _, Nat.zero_le _⟩ ?_
  refine J_if_eq E (tgt := 14) dX6_rainFor_4 (by decide) (fun c_4 => ?_) (fun c_4 => ?_)
  · skip
    have c_4 := bI_0 c_4
    refine J_aload_n E dX6_rainFor_14 rfl 0 rfl ?_
    refine J_iconst E dX6_rainFor_15 ic_0 ?_
    refine J_cVi0 E (As := [.int 0]) (c_X6_finds l G b y 0 (by omega)) cl_X6_96 yo_X6_finds dX6_rainFor_16 rfl rfl rfl (Nat.le_of_ble_eq_true rfl) (Nat.le_of_ble_eq_true rfl) rfl (Nat.le_of_ble_eq_true rfl) ⟨Nat.zero_le _, Nat.zero_le _⟩ ?_
    exact ret _ _ _ _ ⟨rfl, _, rfl, by intro g h2 h5 h6; by_cases h0 : g = 0 <;> simp [tellX, upG, up3, up3R, up2, h0, h2, h5, h6]⟩ rfl dX6_rainFor_19
  · skip
    have c_4 := bI_1 c_4
    refine J_iload_n E dX6_rainFor_7 rfl 2 rfl ?_
    refine J_cSiN E (As := [.int n]) (c_X6_isSoon l G n ) cl_X6_176 yo_X6_isSoon dX6_rainFor_8 rfl (Nat.le_of_ble_eq_true rfl) (Nat.le_of_ble_eq_true rfl) rfl (Nat.le_of_ble_eq_true rfl) ⟨Nat.zero_le _, Nat.zero_le _⟩ ?_
    refine J_if_ne E (tgt := 20) dX6_rainFor_11 (by decide) (fun c_11 => ?_) (fun c_11 => ?_)
    · skip
      have c_11 := bI_1 c_11
      exact absurd ⟨c_4, c_11⟩ hb
    · skip
      have c_11 := bI_0 c_11
      refine J_aload_n E dX6_rainFor_14 rfl 0 rfl ?_
      refine J_iconst E dX6_rainFor_15 ic_0 ?_
      refine J_cVi0 E (As := [.int 0]) (c_X6_finds l G b y 0 (by omega)) cl_X6_96 yo_X6_finds dX6_rainFor_16 rfl rfl rfl (Nat.le_of_ble_eq_true rfl) (Nat.le_of_ble_eq_true rfl) rfl (Nat.le_of_ble_eq_true rfl) ⟨Nat.zero_le _, Nat.zero_le _⟩ ?_
      exact ret _ _ _ _ ⟨rfl, _, rfl, by intro g h2 h5 h6; by_cases h0 : g = 0 <;> simp [tellX, upG, up3, up3R, up2, h0, h2, h5, h6]⟩ rfl dX6_rainFor_19

set_option maxHeartbeats 4000000 in
set_option maxRecDepth 20000 in
theorem c_X6_rainFor_ok (l : Launch) (G : GB) (b : Nat → Nat) (y : Q3) (j m : Nat) (hj : j < 11) (hm : m ≤ 40) (hok : okQ (y 0))  : CI l yX6_rainFor cX6_rainFor 4 .int 6 137 G [.ref (b 0), .int (nI j), .int (nI m)] (wM G b y) (fun vR w' => vR = optR (upF (fun v => wetB (up2 (y 0) 7 2 (nI v)) j m) 1000 0) ∧ PubM G b (optX y (upF (fun v => wetB (up2 (y 0) 7 2 (nI v)) j m) 1000 0)) w') := by
  refine CI.mk (own := RX6) (by decide) rfl (Nat.le_of_ble_eq_true rfl) ?_
  intro X E ret
  show J X G 4 0 0 (wM G b y) [(0, .ref (b 0)), (1, .int (nI j)), (2, .int (nI m))] 0 []
  refine J_iload_n E dX6_rainFor_0 rfl 1 rfl ?_
  refine J_cSiN E (As := [.int (nI j)]) (c_X6_isHouse l G (nI j) ) cl_X6_87 yo_X6_isHouse dX6_rainFor_1 rfl (Nat.le_of_ble_eq_true rfl) (Nat.le_of_ble_eq_true rfl) rfl (Nat.le_of_ble_eq_true rfl) ⟨Nat.zero_le _, Nat.zero_le _⟩ ?_
  refine J_if_eq E (tgt := 14) dX6_rainFor_4 (by decide) (fun c_4 => ?_) (fun c_4 => ?_)
  · skip
    have c_4 := bI_0 c_4
    exact absurd (inB (a := j) (b := 10) (by omega) (by decide)) c_4
  · skip
    have c_4 := bI_1 c_4
    refine J_iload_n E dX6_rainFor_7 rfl 2 rfl ?_
    refine J_cSiN E (As := [.int (nI m)]) (c_X6_isSoon l G (nI m) ) cl_X6_176 yo_X6_isSoon dX6_rainFor_8 rfl (Nat.le_of_ble_eq_true rfl) (Nat.le_of_ble_eq_true rfl) rfl (Nat.le_of_ble_eq_true rfl) ⟨Nat.zero_le _, Nat.zero_le _⟩ ?_
    refine J_if_ne E (tgt := 20) dX6_rainFor_11 (by decide) (fun c_11 => ?_) (fun c_11 => ?_)
    · skip
      have c_11 := bI_1 c_11
      refine J_iconst E dX6_rainFor_20 ic_0 ?_
      refine J_istore_n E (lv' := [(3, .int 0), (0, .ref (b 0)), (1, .int (nI j)), (2, .int (nI m))]) dX6_rainFor_21 rfl (by decide) rfl ?_
      refine J_w (ws' := wM G b (upG y 5 (y 5))) (congrArg (wM G b) upG_id.symm) ?_
      have lp22 : ∀ (fu : Nat) (i : Nat) (d : Q2) (z : Q2), (i ≤ 1000) → (upF (fun v => wetB (up2 (y 0) 7 2 (nI v)) j m) 1000 0 = upF (fun v => wetB (up2 (y 0) 7 2 (nI v)) j m) (1000 - i) i) → 1000 - i < fu → J X G 4 0 0 (wM G b (upG (upG y 5 d) 2 z)) [(0, .ref (b 0)), (1, .int (nI j)), (2, .int (nI m)), (3, .int (nI i))] 22 [] := by
        intro fu
        induction fu with
        | zero => intro i d z hi h1 hm; exact absurd hm (Nat.not_lt_zero _)
        | succ fu ih22 =>
          intro i d z hi h1 hm
          refine J_iload_n E dX6_rainFor_22 rfl 3 rfl ?_
          refine J_sipush E dX6_rainFor_23 sp_999 ?_
          refine J_icmp_gt E (tgt := 57) dX6_rainFor_26 (by decide) (fun c_26 => ?_) (fun c_26 => ?_)
          · skip
            have n_26 : 999 < i := cmp_lt (a := 999) (b := i) (by omega) (by omega) c_26
            have h2 : upF (fun v => wetB (up2 (y 0) 7 2 (nI v)) j m) 1000 0 = none := by rw [h1, show 1000 - i = 0 by omega]; rfl
            refine J_aload_n E dX6_rainFor_57 rfl 0 rfl ?_
            refine J_iconst E dX6_rainFor_58 ic_3 ?_
            refine J_cVi0 E (As := [.int 3]) (c_X6_finds l G b (upG (upG y 5 d) 2 z) 3 (by omega)) cl_X6_96 yo_X6_finds dX6_rainFor_59 rfl rfl rfl (Nat.le_of_ble_eq_true rfl) (Nat.le_of_ble_eq_true rfl) rfl (Nat.le_of_ble_eq_true rfl) ⟨Nat.zero_le _, Nat.zero_le _⟩ ?_
            refine J_top (x' := tellR 3) rfl ?_
            exact ret _ _ _ _ ⟨by rw [h2]; rfl, _, rfl, by rw [h2]; intro g h2 h5 h6; by_cases h0 : g = 0 <;> simp [optX, tellX, upG, up3, h0, h2, h5, h6]⟩ rfl dX6_rainFor_62
          · skip
            have n_26 : ¬ 999 < i := cmp_nlt (a := 999) (b := i) (by omega) (by omega) c_26
            refine J_aload_n E dX6_rainFor_29 rfl 0 rfl ?_
            refine J_cVv0 E (As := []) (c_X6_lends l G b (upG (upG y 5 d) 2 z) ) cl_X6_160 yo_X6_lends dX6_rainFor_30 rfl rfl rfl (Nat.le_of_ble_eq_true rfl) (Nat.le_of_ble_eq_true rfl) rfl (Nat.le_of_ble_eq_true rfl) ⟨Nat.zero_le _, Nat.zero_le _⟩ ?_
            refine J_aload_n E dX6_rainFor_33 rfl 0 rfl ?_
            refine gM0_X6_9 E dX6_rainFor_34 ?_
            refine J_iconst E dX6_rainFor_37 ic_2 ?_
            refine J_iload_n E dX6_rainFor_38 rfl 3 rfl ?_
            refine sMs E (j := 2) (r := 7) (i := 2) (at_7 (by decide)) dX6_rainFor_39 ?_
            refine J_w (ws' := wM G b (upG (upG (upG (upG y 5 d) 2 z) 2 (y 0)) 0 (up2 (y 0) 7 2 (nI i)))) rfl ?_
            refine J_aload_n E dX6_rainFor_40 rfl 0 rfl ?_
            refine J_iload_n E dX6_rainFor_41 rfl 1 rfl ?_
            refine J_iload_n E dX6_rainFor_42 rfl 2 rfl ?_
            refine J_callVi E (As := [.int (nI j), .int (nI m)]) (q0 := 0) (ci := 5) [] [] (c_X6_isWet l G b (upG (upG (upG (upG y 5 d) 2 z) 2 (y 0)) 0 (up2 (y 0) 7 2 (nI i))) j m (by omega) (by omega) (show okQ (up2 (y 0) 7 2 (nI i)) from okQ_w hok _ _ (by decide) (by decide))) cl_X6_179 yo_X6_isWet dX6_rainFor_43 rfl rfl rfl (Nat.le_of_ble_eq_true rfl) (Nat.le_of_ble_eq_true rfl) rfl (Nat.le_of_ble_eq_true rfl) (by simp) ⟨Nat.zero_le _, Nat.zero_le _⟩ (fun vR w' hp => ?_)
            obtain ⟨rfl, d43_1, rfl⟩ := hp
            refine J_w (ws' := wM G b (upG (upG (upG (upG (upG (upG y 5 d) 2 z) 2 (y 0)) 0 (up2 (y 0) 7 2 (nI i))) 5 d43_1) 0 (y 0))) (List.append_nil _) ?_
            refine J_top (x' := bI (wetB (up2 (y 0) 7 2 (nI i)) j m = true)) rfl ?_
            refine J_if_eq E (tgt := 51) dX6_rainFor_46 (by decide) (fun c_46 => ?_) (fun c_46 => ?_)
            · skip
              have c_46 := bI_0 c_46
              exact absurd (by assumption) c_46
            · skip
              have c_46 := bI_1 c_46
              have h2 : upF (fun v => wetB (up2 (y 0) 7 2 (nI v)) j m) 1000 0 = some i := by rw [h1, show 1000 - i = (999 - i) + 1 by omega]; exact upF_t c_46
              refine J_iload_n E dX6_rainFor_49 rfl 3 rfl ?_
              exact ret _ _ _ _ ⟨by rw [h2]; rfl, _, rfl, by rw [h2]; intro g h2 h5 h6; by_cases h0 : g = 0 <;> simp [optX, tellX, upG, up3, h0, h2, h5, h6]⟩ rfl dX6_rainFor_50
      refine J_lv [1, 2, 3, 0] rfl ?_
      exact lp22 _ 0 (y 5) (y 2) (by omega) rfl (Nat.lt_succ_self _)
    · skip
      have c_11 := bI_0 c_11
      exact absurd (inB (a := m) (b := 40) (by omega) (by decide)) c_11

set_option maxHeartbeats 4000000 in
set_option maxRecDepth 20000 in
theorem c_X6_holdsFor_bad (l : Launch) (G : GB) (b : Nat → Nat) (y : Q3) (h n : Int32) (hb : ¬ (okH h ∧ 0 ≤ n ∧ n ≤ 40)) : CI l yX6_holdsFor cX6_holdsFor 4 .int 2 45 G [.ref (b 0), .int h, .int n] (wM G b y) (fun vR w' => vR = tellR 0 ∧ PubM G b (tellX y 0) w') := by
  refine CI.mk (own := RX6) (by decide) rfl (Nat.le_of_ble_eq_true rfl) ?_
  intro X E ret
  show J X G 4 0 0 (wM G b y) [(0, .ref (b 0)), (1, .int h), (2, .int n)] 0 []
  refine J_iload_n E dX6_holdsFor_0 rfl 1 rfl ?_
  refine J_cSiN E (As := [.int h]) (c_X6_isHouse l G h ) cl_X6_87 yo_X6_isHouse dX6_holdsFor_1 rfl (Nat.le_of_ble_eq_true rfl) (Nat.le_of_ble_eq_true rfl) rfl (Nat.le_of_ble_eq_true rfl) ⟨Nat.zero_le _, Nat.zero_le _⟩ ?_
  refine J_if_eq E (tgt := 14) dX6_holdsFor_4 (by decide) (fun c_4 => ?_) (fun c_4 => ?_)
  · skip
    have c_4 := bI_0 c_4
    refine J_aload_n E dX6_holdsFor_14 rfl 0 rfl ?_
    refine J_iconst E dX6_holdsFor_15 ic_0 ?_
    refine J_cVi0 E (As := [.int 0]) (c_X6_finds l G b y 0 (by omega)) cl_X6_96 yo_X6_finds dX6_holdsFor_16 rfl rfl rfl (Nat.le_of_ble_eq_true rfl) (Nat.le_of_ble_eq_true rfl) rfl (Nat.le_of_ble_eq_true rfl) ⟨Nat.zero_le _, Nat.zero_le _⟩ ?_
    exact ret _ _ _ _ ⟨rfl, _, rfl, by intro g h2 h5 h6; by_cases h0 : g = 0 <;> simp [tellX, upG, up3, up3R, up2, h0, h2, h5, h6]⟩ rfl dX6_holdsFor_19
  · skip
    have c_4 := bI_1 c_4
    refine J_iload_n E dX6_holdsFor_7 rfl 2 rfl ?_
    refine J_cSiN E (As := [.int n]) (c_X6_isSoon l G n ) cl_X6_176 yo_X6_isSoon dX6_holdsFor_8 rfl (Nat.le_of_ble_eq_true rfl) (Nat.le_of_ble_eq_true rfl) rfl (Nat.le_of_ble_eq_true rfl) ⟨Nat.zero_le _, Nat.zero_le _⟩ ?_
    refine J_if_ne E (tgt := 20) dX6_holdsFor_11 (by decide) (fun c_11 => ?_) (fun c_11 => ?_)
    · skip
      have c_11 := bI_1 c_11
      exact absurd ⟨c_4, c_11⟩ hb
    · skip
      have c_11 := bI_0 c_11
      refine J_aload_n E dX6_holdsFor_14 rfl 0 rfl ?_
      refine J_iconst E dX6_holdsFor_15 ic_0 ?_
      refine J_cVi0 E (As := [.int 0]) (c_X6_finds l G b y 0 (by omega)) cl_X6_96 yo_X6_finds dX6_holdsFor_16 rfl rfl rfl (Nat.le_of_ble_eq_true rfl) (Nat.le_of_ble_eq_true rfl) rfl (Nat.le_of_ble_eq_true rfl) ⟨Nat.zero_le _, Nat.zero_le _⟩ ?_
      exact ret _ _ _ _ ⟨rfl, _, rfl, by intro g h2 h5 h6; by_cases h0 : g = 0 <;> simp [tellX, upG, up3, up3R, up2, h0, h2, h5, h6]⟩ rfl dX6_holdsFor_19

set_option maxHeartbeats 4000000 in
set_option maxRecDepth 20000 in
theorem c_X6_holdsFor_ok (l : Launch) (G : GB) (b : Nat → Nat) (y : Q3) (j m : Nat) (hj : j < 11) (hm : m ≤ 40) (hok : okQ (y 0))  : CI l yX6_holdsFor cX6_holdsFor 4 .int 7 161 G [.ref (b 0), .int (nI j), .int (nI m)] (wM G b y) (fun vR w' => vR = optR (upF (fun v => wetB (up2 (y 0) 3 j (nI v)) j m) 201 0) ∧ PubM G b (optX y (upF (fun v => wetB (up2 (y 0) 3 j (nI v)) j m) 201 0)) w') := by
  refine CI.mk (own := RX6) (by decide) rfl (Nat.le_of_ble_eq_true rfl) ?_
  intro X E ret
  show J X G 4 0 0 (wM G b y) [(0, .ref (b 0)), (1, .int (nI j)), (2, .int (nI m))] 0 []
  refine J_iload_n E dX6_holdsFor_0 rfl 1 rfl ?_
  refine J_cSiN E (As := [.int (nI j)]) (c_X6_isHouse l G (nI j) ) cl_X6_87 yo_X6_isHouse dX6_holdsFor_1 rfl (Nat.le_of_ble_eq_true rfl) (Nat.le_of_ble_eq_true rfl) rfl (Nat.le_of_ble_eq_true rfl) ⟨Nat.zero_le _, Nat.zero_le _⟩ ?_
  refine J_if_eq E (tgt := 14) dX6_holdsFor_4 (by decide) (fun c_4 => ?_) (fun c_4 => ?_)
  · skip
    have c_4 := bI_0 c_4
    exact absurd (inB (a := j) (b := 10) (by omega) (by decide)) c_4
  · skip
    have c_4 := bI_1 c_4
    refine J_iload_n E dX6_holdsFor_7 rfl 2 rfl ?_
    refine J_cSiN E (As := [.int (nI m)]) (c_X6_isSoon l G (nI m) ) cl_X6_176 yo_X6_isSoon dX6_holdsFor_8 rfl (Nat.le_of_ble_eq_true rfl) (Nat.le_of_ble_eq_true rfl) rfl (Nat.le_of_ble_eq_true rfl) ⟨Nat.zero_le _, Nat.zero_le _⟩ ?_
    refine J_if_ne E (tgt := 20) dX6_holdsFor_11 (by decide) (fun c_11 => ?_) (fun c_11 => ?_)
    · skip
      have c_11 := bI_1 c_11
      refine J_iconst E dX6_holdsFor_20 ic_0 ?_
      refine J_istore_n E (lv' := [(3, .int 0), (0, .ref (b 0)), (1, .int (nI j)), (2, .int (nI m))]) dX6_holdsFor_21 rfl (by decide) rfl ?_
      refine J_w (ws' := wM G b (upG y 5 (y 5))) (congrArg (wM G b) upG_id.symm) ?_
      have lp22 : ∀ (fu : Nat) (i : Nat) (d : Q2) (z : Q2), (i ≤ 201) → (upF (fun v => wetB (up2 (y 0) 3 j (nI v)) j m) 201 0 = upF (fun v => wetB (up2 (y 0) 3 j (nI v)) j m) (201 - i) i) → 201 - i < fu → J X G 4 0 0 (wM G b (upG (upG y 5 d) 2 z)) [(0, .ref (b 0)), (1, .int (nI j)), (2, .int (nI m)), (3, .int (nI i))] 22 [] := by
        intro fu
        induction fu with
        | zero => intro i d z hi h1 hm; exact absurd hm (Nat.not_lt_zero _)
        | succ fu ih22 =>
          intro i d z hi h1 hm
          refine J_iload_n E dX6_holdsFor_22 rfl 3 rfl ?_
          refine J_sipush E dX6_holdsFor_23 sp_200 ?_
          refine J_icmp_gt E (tgt := 46) dX6_holdsFor_26 (by decide) (fun c_26 => ?_) (fun c_26 => ?_)
          · skip
            have n_26 : 200 < i := cmp_lt (a := 200) (b := i) (by omega) (by omega) c_26
            have h2 : upF (fun v => wetB (up2 (y 0) 3 j (nI v)) j m) 201 0 = none := by rw [h1, show 201 - i = 0 by omega]; rfl
            refine J_iload_n E dX6_holdsFor_46 rfl 3 rfl ?_
            refine J_sipush E dX6_holdsFor_47 sp_200 ?_
            refine J_icmp_gt E (tgt := 57) dX6_holdsFor_50 (by decide) (fun c_50 => ?_) (fun c_50 => ?_)
            · skip
              have n_50 : 200 < i := cmp_lt (a := 200) (b := i) (by omega) (by omega) c_50
              refine J_aload_n E dX6_holdsFor_57 rfl 0 rfl ?_
              refine J_iconst E dX6_holdsFor_58 ic_3 ?_
              refine J_cVi0 E (As := [.int 3]) (c_X6_finds l G b (upG (upG y 5 d) 2 z) 3 (by omega)) cl_X6_96 yo_X6_finds dX6_holdsFor_59 rfl rfl rfl (Nat.le_of_ble_eq_true rfl) (Nat.le_of_ble_eq_true rfl) rfl (Nat.le_of_ble_eq_true rfl) ⟨Nat.zero_le _, Nat.zero_le _⟩ ?_
              refine J_top (x' := tellR 3) rfl ?_
              exact ret _ _ _ _ ⟨by first | (rw [h2]; rfl) | (exfalso; omega), _, rfl, by first | (rw [h2]; intro g h2 h5 h6; by_cases h0 : g = 0 <;> simp [optX, tellX, upG, up3, h0, h2, h5, h6]) | (exfalso; omega)⟩ rfl dX6_holdsFor_62
            · skip
              have n_50 : ¬ 200 < i := cmp_nlt (a := 200) (b := i) (by omega) (by omega) c_50
              refine J_iload_n E dX6_holdsFor_53 rfl 3 rfl ?_
              refine J_goto E (tgt := 62) dX6_holdsFor_54 (by decide) ?_
              exact ret _ _ _ _ ⟨by first | (rw [h2]; rfl) | (exfalso; omega), _, rfl, by first | (rw [h2]; intro g h2 h5 h6; by_cases h0 : g = 0 <;> simp [optX, tellX, upG, up3, h0, h2, h5, h6]) | (exfalso; omega)⟩ rfl dX6_holdsFor_62
          · skip
            have n_26 : ¬ 200 < i := cmp_nlt (a := 200) (b := i) (by omega) (by omega) c_26
            refine J_aload_n E dX6_holdsFor_29 rfl 0 rfl ?_
            refine J_iload_n E dX6_holdsFor_30 rfl 1 rfl ?_
            refine J_iload_n E dX6_holdsFor_31 rfl 2 rfl ?_
            refine J_iconst E dX6_holdsFor_32 ic_3 ?_
            refine J_iload_n E dX6_holdsFor_33 rfl 3 rfl ?_
            refine J_callVi E (As := [.int (nI j), .int (nI m), .int 3, .int (nI i)]) (q0 := 0) (ci := 5) [] [] (c_X6_isWetBy l G b (upG (upG y 5 d) 2 z) j m 3 (nI i) (by omega) (by omega) (by decide) (okQ_w hok _ _ (by decide) (by decide))) cl_X6_182 yo_X6_isWetBy dX6_holdsFor_34 rfl rfl rfl (Nat.le_of_ble_eq_true rfl) (Nat.le_of_ble_eq_true rfl) rfl (Nat.le_of_ble_eq_true rfl) (by simp) ⟨Nat.zero_le _, Nat.zero_le _⟩ (fun vR w' hp => ?_)
            obtain ⟨rfl, d34_1, rfl⟩ := hp
            refine J_w (ws' := wM G b (upG (upG (upG (upG (upG y 5 d) 2 z) 2 (y 0)) 5 d34_1) 0 (y 0))) (List.append_nil _) ?_
            refine J_top (x' := bI (wetB (up2 (y 0) 3 j (nI i)) j m = true)) rfl ?_
            refine J_if_ne E (tgt := 46) dX6_holdsFor_37 (by decide) (fun c_37 => ?_) (fun c_37 => ?_)
            · skip
              have c_37 := bI_1 c_37
              have h2 : upF (fun v => wetB (up2 (y 0) 3 j (nI v)) j m) 201 0 = some i := by rw [h1, show 201 - i = (200 - i) + 1 by omega]; exact upF_t c_37
              refine J_iload_n E dX6_holdsFor_46 rfl 3 rfl ?_
              refine J_sipush E dX6_holdsFor_47 sp_200 ?_
              refine J_icmp_gt E (tgt := 57) dX6_holdsFor_50 (by decide) (fun c_50 => ?_) (fun c_50 => ?_)
              · skip
                have n_50 : 200 < i := cmp_lt (a := 200) (b := i) (by omega) (by omega) c_50
                refine J_aload_n E dX6_holdsFor_57 rfl 0 rfl ?_
                refine J_iconst E dX6_holdsFor_58 ic_3 ?_
                refine J_cVi0 E (As := [.int 3]) (c_X6_finds l G b (upG (upG (upG (upG (upG y 5 d) 2 z) 2 (y 0)) 5 d34_1) 0 (y 0)) 3 (by omega)) cl_X6_96 yo_X6_finds dX6_holdsFor_59 rfl rfl rfl (Nat.le_of_ble_eq_true rfl) (Nat.le_of_ble_eq_true rfl) rfl (Nat.le_of_ble_eq_true rfl) ⟨Nat.zero_le _, Nat.zero_le _⟩ ?_
                refine J_top (x' := tellR 3) rfl ?_
                exact ret _ _ _ _ ⟨by first | (rw [h2]; rfl) | (exfalso; omega), _, rfl, by first | (rw [h2]; intro g h2 h5 h6; by_cases h0 : g = 0 <;> simp [optX, tellX, upG, up3, h0, h2, h5, h6]) | (exfalso; omega)⟩ rfl dX6_holdsFor_62
              · skip
                have n_50 : ¬ 200 < i := cmp_nlt (a := 200) (b := i) (by omega) (by omega) c_50
                refine J_iload_n E dX6_holdsFor_53 rfl 3 rfl ?_
                refine J_goto E (tgt := 62) dX6_holdsFor_54 (by decide) ?_
                exact ret _ _ _ _ ⟨by first | (rw [h2]; rfl) | (exfalso; omega), _, rfl, by first | (rw [h2]; intro g h2 h5 h6; by_cases h0 : g = 0 <;> simp [optX, tellX, upG, up3, h0, h2, h5, h6]) | (exfalso; omega)⟩ rfl dX6_holdsFor_62
            · skip
              have c_37 := bI_0 c_37
              refine J_iinc E (lv' := [(3, .int (nI (i + 1))), (0, .ref (b 0)), (1, .int (nI j)), (2, .int (nI m))]) dX6_holdsFor_40 3 rfl (nI_inc _) (by decide) rfl ?_
              refine J_goto E (tgt := 22) dX6_holdsFor_43 (by decide) ?_
              refine J_lv [1, 2, 3, 0] rfl ?_
              exact ih22 (i + 1) d34_1 (y 0) (by omega) (by rw [h1, show 201 - i = (201 - (i + 1)) + 1 by omega]; exact upF_f c_37) (by omega)
      refine J_lv [1, 2, 3, 0] rfl ?_
      exact lp22 _ 0 (y 5) (y 2) (by omega) rfl (Nat.lt_succ_self _)
    · skip
      have c_11 := bI_0 c_11
      exact absurd (inB (a := m) (b := 40) (by omega) (by decide)) c_11

set_option maxHeartbeats 4000000 in
set_option maxRecDepth 20000 in
theorem c_X6_needFor_bad (l : Launch) (G : GB) (b : Nat → Nat) (y : Q3) (h n : Int32) (hb : ¬ (okH h ∧ 0 ≤ n ∧ n ≤ 40)) : CI l yX6_needFor cX6_needFor 4 .int 2 45 G [.ref (b 0), .int h, .int n] (wM G b y) (fun vR w' => vR = tellR 0 ∧ PubM G b (tellX y 0) w') := by
  refine CI.mk (own := RX6) (by decide) rfl (Nat.le_of_ble_eq_true rfl) ?_
  intro X E ret
  show J X G 4 0 0 (wM G b y) [(0, .ref (b 0)), (1, .int h), (2, .int n)] 0 []
  refine J_iload_n E dX6_needFor_0 rfl 1 rfl ?_
  refine J_cSiN E (As := [.int h]) (c_X6_isHouse l G h ) cl_X6_87 yo_X6_isHouse dX6_needFor_1 rfl (Nat.le_of_ble_eq_true rfl) (Nat.le_of_ble_eq_true rfl) rfl (Nat.le_of_ble_eq_true rfl) ⟨Nat.zero_le _, Nat.zero_le _⟩ ?_
  refine J_if_eq E (tgt := 14) dX6_needFor_4 (by decide) (fun c_4 => ?_) (fun c_4 => ?_)
  · skip
    have c_4 := bI_0 c_4
    refine J_aload_n E dX6_needFor_14 rfl 0 rfl ?_
    refine J_iconst E dX6_needFor_15 ic_0 ?_
    refine J_cVi0 E (As := [.int 0]) (c_X6_finds l G b y 0 (by omega)) cl_X6_96 yo_X6_finds dX6_needFor_16 rfl rfl rfl (Nat.le_of_ble_eq_true rfl) (Nat.le_of_ble_eq_true rfl) rfl (Nat.le_of_ble_eq_true rfl) ⟨Nat.zero_le _, Nat.zero_le _⟩ ?_
    exact ret _ _ _ _ ⟨rfl, _, rfl, by intro g h2 h5 h6; by_cases h0 : g = 0 <;> simp [tellX, upG, up3, up3R, up2, h0, h2, h5, h6]⟩ rfl dX6_needFor_19
  · skip
    have c_4 := bI_1 c_4
    refine J_iload_n E dX6_needFor_7 rfl 2 rfl ?_
    refine J_cSiN E (As := [.int n]) (c_X6_isSoon l G n ) cl_X6_176 yo_X6_isSoon dX6_needFor_8 rfl (Nat.le_of_ble_eq_true rfl) (Nat.le_of_ble_eq_true rfl) rfl (Nat.le_of_ble_eq_true rfl) ⟨Nat.zero_le _, Nat.zero_le _⟩ ?_
    refine J_if_ne E (tgt := 20) dX6_needFor_11 (by decide) (fun c_11 => ?_) (fun c_11 => ?_)
    · skip
      have c_11 := bI_1 c_11
      exact absurd ⟨c_4, c_11⟩ hb
    · skip
      have c_11 := bI_0 c_11
      refine J_aload_n E dX6_needFor_14 rfl 0 rfl ?_
      refine J_iconst E dX6_needFor_15 ic_0 ?_
      refine J_cVi0 E (As := [.int 0]) (c_X6_finds l G b y 0 (by omega)) cl_X6_96 yo_X6_finds dX6_needFor_16 rfl rfl rfl (Nat.le_of_ble_eq_true rfl) (Nat.le_of_ble_eq_true rfl) rfl (Nat.le_of_ble_eq_true rfl) ⟨Nat.zero_le _, Nat.zero_le _⟩ ?_
      exact ret _ _ _ _ ⟨rfl, _, rfl, by intro g h2 h5 h6; by_cases h0 : g = 0 <;> simp [tellX, upG, up3, up3R, up2, h0, h2, h5, h6]⟩ rfl dX6_needFor_19

set_option maxHeartbeats 4000000 in
set_option maxRecDepth 20000 in
theorem c_X6_needFor_ok (l : Launch) (G : GB) (b : Nat → Nat) (y : Q3) (j m : Nat) (hj : j < 11) (hm : m ≤ 40) (hok : okQ (y 0))  : CI l yX6_needFor cX6_needFor 4 .int 7 161 G [.ref (b 0), .int (nI j), .int (nI m)] (wM G b y) (fun vR w' => vR = optR (topF (fun v => wetB (up2 (y 0) 2 j (nI v)) j m) 100) ∧ PubM G b (optX y (topF (fun v => wetB (up2 (y 0) 2 j (nI v)) j m) 100)) w') := by
  refine CI.mk (own := RX6) (by decide) rfl (Nat.le_of_ble_eq_true rfl) ?_
  intro X E ret
  show J X G 4 0 0 (wM G b y) [(0, .ref (b 0)), (1, .int (nI j)), (2, .int (nI m))] 0 []
  refine J_iload_n E dX6_needFor_0 rfl 1 rfl ?_
  refine J_cSiN E (As := [.int (nI j)]) (c_X6_isHouse l G (nI j) ) cl_X6_87 yo_X6_isHouse dX6_needFor_1 rfl (Nat.le_of_ble_eq_true rfl) (Nat.le_of_ble_eq_true rfl) rfl (Nat.le_of_ble_eq_true rfl) ⟨Nat.zero_le _, Nat.zero_le _⟩ ?_
  refine J_if_eq E (tgt := 14) dX6_needFor_4 (by decide) (fun c_4 => ?_) (fun c_4 => ?_)
  · skip
    have c_4 := bI_0 c_4
    exact absurd (inB (a := j) (b := 10) (by omega) (by decide)) c_4
  · skip
    have c_4 := bI_1 c_4
    refine J_iload_n E dX6_needFor_7 rfl 2 rfl ?_
    refine J_cSiN E (As := [.int (nI m)]) (c_X6_isSoon l G (nI m) ) cl_X6_176 yo_X6_isSoon dX6_needFor_8 rfl (Nat.le_of_ble_eq_true rfl) (Nat.le_of_ble_eq_true rfl) rfl (Nat.le_of_ble_eq_true rfl) ⟨Nat.zero_le _, Nat.zero_le _⟩ ?_
    refine J_if_ne E (tgt := 20) dX6_needFor_11 (by decide) (fun c_11 => ?_) (fun c_11 => ?_)
    · skip
      have c_11 := bI_1 c_11
      refine J_bipush E dX6_needFor_20 bp_99 ?_
      refine J_istore_n E (lv' := [(3, .int 99), (0, .ref (b 0)), (1, .int (nI j)), (2, .int (nI m))]) dX6_needFor_22 rfl (by decide) rfl ?_
      refine J_w (ws' := wM G b (upG y 5 (y 5))) (congrArg (wM G b) upG_id.symm) ?_
      have lp23 : ∀ (fu : Nat) (i : Nat) (xh : Int32) (d : Q2) (z : Q2), (xh = nI i + (-1)) → (i ≤ 100) → (topF (fun v => wetB (up2 (y 0) 2 j (nI v)) j m) 100 = topF (fun v => wetB (up2 (y 0) 2 j (nI v)) j m) i) → i < fu → J X G 4 0 0 (wM G b (upG (upG y 5 d) 2 z)) [(0, .ref (b 0)), (1, .int (nI j)), (2, .int (nI m)), (3, .int xh)] 23 [] := by
        intro fu
        induction fu with
        | zero => intro i xh d z hxh hi h1 hm; exact absurd hm (Nat.not_lt_zero _)
        | succ fu ih23 =>
          intro i xh d z hxh hi h1 hm
          refine J_iload_n E dX6_needFor_23 rfl 3 rfl ?_
          refine J_if_lt E (tgt := 44) dX6_needFor_24 (by decide) (fun c_24 => ?_) (fun c_24 => ?_)
          · skip
            have hi0 := dec_neg hxh (by omega) c_24
            have h2 : topF (fun v => wetB (up2 (y 0) 2 j (nI v)) j m) 100 = none := by rw [h1, hi0]; rfl
            refine J_iload_n E dX6_needFor_44 rfl 3 rfl ?_
            refine J_if_lt E (tgt := 52) dX6_needFor_45 (by decide) (fun c_45 => ?_) (fun c_45 => ?_)
            · skip
              refine J_aload_n E dX6_needFor_52 rfl 0 rfl ?_
              refine J_iconst E dX6_needFor_53 ic_3 ?_
              refine J_cVi0 E (As := [.int 3]) (c_X6_finds l G b (upG (upG y 5 d) 2 z) 3 (by omega)) cl_X6_96 yo_X6_finds dX6_needFor_54 rfl rfl rfl (Nat.le_of_ble_eq_true rfl) (Nat.le_of_ble_eq_true rfl) rfl (Nat.le_of_ble_eq_true rfl) ⟨Nat.zero_le _, Nat.zero_le _⟩ ?_
              refine J_top (x' := tellR 3) rfl ?_
              exact ret _ _ _ _ ⟨by first | (rw [h2]; rfl) | exact absurd c_45 (nI_pos (by omega)) | exact absurd c_24 c_45, _, rfl, by first | (rw [h2]; intro g h2 h5 h6; by_cases h0 : g = 0 <;> simp [optX, tellX, upG, up3, h0, h2, h5, h6]) | exact absurd c_45 (nI_pos (by omega)) | exact absurd c_24 c_45⟩ rfl dX6_needFor_57
            · skip
              refine J_iload_n E dX6_needFor_48 rfl 3 rfl ?_
              refine J_goto E (tgt := 57) dX6_needFor_49 (by decide) ?_
              exact ret _ _ _ _ ⟨by first | (rw [h2]; rfl) | exact absurd c_45 (nI_pos (by omega)) | exact absurd c_24 c_45, _, rfl, by first | (rw [h2]; intro g h2 h5 h6; by_cases h0 : g = 0 <;> simp [optX, tellX, upG, up3, h0, h2, h5, h6]) | exact absurd c_45 (nI_pos (by omega)) | exact absurd c_24 c_45⟩ rfl dX6_needFor_57
          · skip
            obtain ⟨u, rfl, rfl⟩ := dec_pos hxh (by omega) c_24
            refine J_aload_n E dX6_needFor_27 rfl 0 rfl ?_
            refine J_iload_n E dX6_needFor_28 rfl 1 rfl ?_
            refine J_iload_n E dX6_needFor_29 rfl 2 rfl ?_
            refine J_iconst E dX6_needFor_30 ic_2 ?_
            refine J_iload_n E dX6_needFor_31 rfl 3 rfl ?_
            refine J_callVi E (As := [.int (nI j), .int (nI m), .int 2, .int (nI u)]) (q0 := 0) (ci := 5) [] [] (c_X6_isWetBy l G b (upG (upG y 5 d) 2 z) j m 2 (nI u) (by omega) (by omega) (by decide) (okQ_w hok _ _ (by decide) (by decide))) cl_X6_182 yo_X6_isWetBy dX6_needFor_32 rfl rfl rfl (Nat.le_of_ble_eq_true rfl) (Nat.le_of_ble_eq_true rfl) rfl (Nat.le_of_ble_eq_true rfl) (by simp) ⟨Nat.zero_le _, Nat.zero_le _⟩ (fun vR w' hp => ?_)
            obtain ⟨rfl, d32_1, rfl⟩ := hp
            refine J_w (ws' := wM G b (upG (upG (upG (upG (upG y 5 d) 2 z) 2 (y 0)) 5 d32_1) 0 (y 0))) (List.append_nil _) ?_
            refine J_top (x' := bI (wetB (up2 (y 0) 2 j (nI u)) j m = true)) rfl ?_
            refine J_if_ne E (tgt := 44) dX6_needFor_35 (by decide) (fun c_35 => ?_) (fun c_35 => ?_)
            · skip
              have c_35 := bI_1 c_35
              have h2 : topF (fun v => wetB (up2 (y 0) 2 j (nI v)) j m) 100 = some u := by rw [h1]; exact topF_t c_35
              refine J_iload_n E dX6_needFor_44 rfl 3 rfl ?_
              refine J_if_lt E (tgt := 52) dX6_needFor_45 (by decide) (fun c_45 => ?_) (fun c_45 => ?_)
              · skip
                have n_45 : u < 0 := cmp_lt (a := u) (b := 0) (by omega) (by omega) c_45
                refine J_aload_n E dX6_needFor_52 rfl 0 rfl ?_
                refine J_iconst E dX6_needFor_53 ic_3 ?_
                refine J_cVi0 E (As := [.int 3]) (c_X6_finds l G b (upG (upG (upG (upG (upG y 5 d) 2 z) 2 (y 0)) 5 d32_1) 0 (y 0)) 3 (by omega)) cl_X6_96 yo_X6_finds dX6_needFor_54 rfl rfl rfl (Nat.le_of_ble_eq_true rfl) (Nat.le_of_ble_eq_true rfl) rfl (Nat.le_of_ble_eq_true rfl) ⟨Nat.zero_le _, Nat.zero_le _⟩ ?_
                refine J_top (x' := tellR 3) rfl ?_
                exact ret _ _ _ _ ⟨by first | (rw [h2]; rfl) | exact absurd c_45 (nI_pos (by omega)) | exact absurd c_24 c_45, _, rfl, by first | (rw [h2]; intro g h2 h5 h6; by_cases h0 : g = 0 <;> simp [optX, tellX, upG, up3, h0, h2, h5, h6]) | exact absurd c_45 (nI_pos (by omega)) | exact absurd c_24 c_45⟩ rfl dX6_needFor_57
              · skip
                have n_45 : ¬ u < 0 := cmp_nlt (a := u) (b := 0) (by omega) (by omega) c_45
                refine J_iload_n E dX6_needFor_48 rfl 3 rfl ?_
                refine J_goto E (tgt := 57) dX6_needFor_49 (by decide) ?_
                exact ret _ _ _ _ ⟨by first | (rw [h2]; rfl) | exact absurd c_45 (nI_pos (by omega)) | exact absurd c_24 c_45, _, rfl, by first | (rw [h2]; intro g h2 h5 h6; by_cases h0 : g = 0 <;> simp [optX, tellX, upG, up3, h0, h2, h5, h6]) | exact absurd c_45 (nI_pos (by omega)) | exact absurd c_24 c_45⟩ rfl dX6_needFor_57
            · skip
              have c_35 := bI_0 c_35
              refine J_iinc E (lv' := [(3, .int ((nI u) + (-1))), (0, .ref (b 0)), (1, .int (nI j)), (2, .int (nI m))]) dX6_needFor_38 3 rfl (i_dec _) (by decide) rfl ?_
              refine J_goto E (tgt := 23) dX6_needFor_41 (by decide) ?_
              refine J_lv [1, 2, 3, 0] rfl ?_
              exact ih23 u ((nI u) + (-1)) d32_1 (y 0) rfl (by omega) (by rw [h1]; exact topF_f c_35) (by omega)
      refine J_lv [1, 2, 3, 0] rfl ?_
      exact lp23 _ 100 99 (y 5) (y 2) (by decide) (by decide) rfl (Nat.lt_succ_self _)
    · skip
      have c_11 := bI_0 c_11
      exact absurd (inB (a := m) (b := 40) (by omega) (by decide)) c_11

set_option maxHeartbeats 4000000 in
set_option maxRecDepth 20000 in
theorem c_X6_kindsFor_bad (l : Launch) (G : GB) (b : Nat → Nat) (y : Q3) (h n : Int32) (hb : ¬ (okH h ∧ 0 ≤ n ∧ n ≤ 40)) : CI l yX6_kindsFor cX6_kindsFor 5 .int 2 45 G [.ref (b 0), .int h, .int n] (wM G b y) (fun vR w' => vR = tellR 0 ∧ PubM G b (tellX y 0) w') := by
  refine CI.mk (own := RX6) (by decide) rfl (Nat.le_of_ble_eq_true rfl) ?_
  intro X E ret
  show J X G 5 0 0 (wM G b y) [(0, .ref (b 0)), (1, .int h), (2, .int n)] 0 []
  refine J_iload_n E dX6_kindsFor_0 rfl 1 rfl ?_
  refine J_cSiN E (As := [.int h]) (c_X6_isHouse l G h ) cl_X6_87 yo_X6_isHouse dX6_kindsFor_1 rfl (Nat.le_of_ble_eq_true rfl) (Nat.le_of_ble_eq_true rfl) rfl (Nat.le_of_ble_eq_true rfl) ⟨Nat.zero_le _, Nat.zero_le _⟩ ?_
  refine J_if_eq E (tgt := 14) dX6_kindsFor_4 (by decide) (fun c_4 => ?_) (fun c_4 => ?_)
  · skip
    have c_4 := bI_0 c_4
    refine J_aload_n E dX6_kindsFor_14 rfl 0 rfl ?_
    refine J_iconst E dX6_kindsFor_15 ic_0 ?_
    refine J_cVi0 E (As := [.int 0]) (c_X6_finds l G b y 0 (by omega)) cl_X6_96 yo_X6_finds dX6_kindsFor_16 rfl rfl rfl (Nat.le_of_ble_eq_true rfl) (Nat.le_of_ble_eq_true rfl) rfl (Nat.le_of_ble_eq_true rfl) ⟨Nat.zero_le _, Nat.zero_le _⟩ ?_
    exact ret _ _ _ _ ⟨rfl, _, rfl, by intro g h2 h5 h6; by_cases h0 : g = 0 <;> simp [tellX, upG, up3, up3R, up2, h0, h2, h5, h6]⟩ rfl dX6_kindsFor_19
  · skip
    have c_4 := bI_1 c_4
    refine J_iload_n E dX6_kindsFor_7 rfl 2 rfl ?_
    refine J_cSiN E (As := [.int n]) (c_X6_isSoon l G n ) cl_X6_176 yo_X6_isSoon dX6_kindsFor_8 rfl (Nat.le_of_ble_eq_true rfl) (Nat.le_of_ble_eq_true rfl) rfl (Nat.le_of_ble_eq_true rfl) ⟨Nat.zero_le _, Nat.zero_le _⟩ ?_
    refine J_if_ne E (tgt := 20) dX6_kindsFor_11 (by decide) (fun c_11 => ?_) (fun c_11 => ?_)
    · skip
      have c_11 := bI_1 c_11
      exact absurd ⟨c_4, c_11⟩ hb
    · skip
      have c_11 := bI_0 c_11
      refine J_aload_n E dX6_kindsFor_14 rfl 0 rfl ?_
      refine J_iconst E dX6_kindsFor_15 ic_0 ?_
      refine J_cVi0 E (As := [.int 0]) (c_X6_finds l G b y 0 (by omega)) cl_X6_96 yo_X6_finds dX6_kindsFor_16 rfl rfl rfl (Nat.le_of_ble_eq_true rfl) (Nat.le_of_ble_eq_true rfl) rfl (Nat.le_of_ble_eq_true rfl) ⟨Nat.zero_le _, Nat.zero_le _⟩ ?_
      exact ret _ _ _ _ ⟨rfl, _, rfl, by intro g h2 h5 h6; by_cases h0 : g = 0 <;> simp [tellX, upG, up3, up3R, up2, h0, h2, h5, h6]⟩ rfl dX6_kindsFor_19

set_option maxHeartbeats 4000000 in
set_option maxRecDepth 20000 in
theorem c_X6_kindsFor_ok (l : Launch) (G : GB) (b : Nat → Nat) (y : Q3) (j m : Nat) (hj : j < 11) (hm : m ≤ 40) (hok : okQ (y 0))  : CI l yX6_kindsFor cX6_kindsFor 5 .int 7 161 G [.ref (b 0), .int (nI j), .int (nI m)] (wM G b y) (fun vR w' => vR = setF (fun k => wetB (up2 (y 0) 0 j (nI k)) j m) 7 ∧ PubM G b y w') := by
  refine CI.mk (own := RX6) (by decide) rfl (Nat.le_of_ble_eq_true rfl) ?_
  intro X E ret
  show J X G 5 0 0 (wM G b y) [(0, .ref (b 0)), (1, .int (nI j)), (2, .int (nI m))] 0 []
  refine J_iload_n E dX6_kindsFor_0 rfl 1 rfl ?_
  refine J_cSiN E (As := [.int (nI j)]) (c_X6_isHouse l G (nI j) ) cl_X6_87 yo_X6_isHouse dX6_kindsFor_1 rfl (Nat.le_of_ble_eq_true rfl) (Nat.le_of_ble_eq_true rfl) rfl (Nat.le_of_ble_eq_true rfl) ⟨Nat.zero_le _, Nat.zero_le _⟩ ?_
  refine J_if_eq E (tgt := 14) dX6_kindsFor_4 (by decide) (fun c_4 => ?_) (fun c_4 => ?_)
  · skip
    have c_4 := bI_0 c_4
    exact absurd (inB (a := j) (b := 10) (by omega) (by decide)) c_4
  · skip
    have c_4 := bI_1 c_4
    refine J_iload_n E dX6_kindsFor_7 rfl 2 rfl ?_
    refine J_cSiN E (As := [.int (nI m)]) (c_X6_isSoon l G (nI m) ) cl_X6_176 yo_X6_isSoon dX6_kindsFor_8 rfl (Nat.le_of_ble_eq_true rfl) (Nat.le_of_ble_eq_true rfl) rfl (Nat.le_of_ble_eq_true rfl) ⟨Nat.zero_le _, Nat.zero_le _⟩ ?_
    refine J_if_ne E (tgt := 20) dX6_kindsFor_11 (by decide) (fun c_11 => ?_) (fun c_11 => ?_)
    · skip
      have c_11 := bI_1 c_11
      refine J_iconst E dX6_kindsFor_20 ic_0 ?_
      refine J_istore_n E (lv' := [(3, .int 0), (0, .ref (b 0)), (1, .int (nI j)), (2, .int (nI m))]) dX6_kindsFor_21 rfl (by decide) rfl ?_
      refine J_iconst E dX6_kindsFor_22 ic_0 ?_
      refine J_istore E (lv' := [(4, .int 0), (3, .int 0), (0, .ref (b 0)), (1, .int (nI j)), (2, .int (nI m))]) dX6_kindsFor_23 (by decide) rfl ?_
      refine J_w (ws' := wM G b (upG y 5 (y 5))) (congrArg (wM G b) upG_id.symm) ?_
      have lp25 : ∀ (fu : Nat) (i : Nat) (s : Int32) (d : Q2) (z : Q2), (i ≤ 7) → (s = setF (fun k => wetB (up2 (y 0) 0 j (nI k)) j m) i) → 7 - i < fu → J X G 5 0 0 (wM G b (upG (upG y 5 d) 2 z)) [(0, .ref (b 0)), (1, .int (nI j)), (2, .int (nI m)), (3, .int s), (4, .int (nI i))] 25 [] := by
        intro fu
        induction fu with
        | zero => intro i s d z hi h1 hm; exact absurd hm (Nat.not_lt_zero _)
        | succ fu ih25 =>
          intro i s d z hi h1 hm
          refine J_iload E dX6_kindsFor_25 4 rfl ?_
          refine J_bipush E dX6_kindsFor_27 bp_6 ?_
          refine J_icmp_gt E (tgt := 61) dX6_kindsFor_29 (by decide) (fun c_29 => ?_) (fun c_29 => ?_)
          · skip
            have n_29 : 6 < i := cmp_lt (a := 6) (b := i) (by omega) (by omega) c_29
            refine J_iload_n E dX6_kindsFor_61 rfl 3 rfl ?_
            exact ret _ _ _ _ ⟨by rw [h1, show i = 7 by omega], _, rfl, by intro g h2 h5 h6; by_cases h0 : g = 0 <;> simp [tellX, upG, up3, up3R, up2, h0, h2, h5, h6]⟩ rfl dX6_kindsFor_62
          · skip
            have n_29 : ¬ 6 < i := cmp_nlt (a := 6) (b := i) (by omega) (by omega) c_29
            refine J_iload_n E dX6_kindsFor_32 rfl 3 rfl ?_
            refine J_aload_n E dX6_kindsFor_33 rfl 0 rfl ?_
            refine J_iload_n E dX6_kindsFor_34 rfl 1 rfl ?_
            refine J_iload_n E dX6_kindsFor_35 rfl 2 rfl ?_
            refine J_iconst E dX6_kindsFor_36 ic_0 ?_
            refine J_iload E dX6_kindsFor_37 4 rfl ?_
            refine J_callVi E (As := [.int (nI j), .int (nI m), .int 0, .int (nI i)]) (q0 := 0) (ci := 5) [] [] (c_X6_isWetBy l G b (upG (upG y 5 d) 2 z) j m 0 (nI i) (by omega) (by omega) (by decide) (okQ_k hok _ (by omega))) cl_X6_182 yo_X6_isWetBy dX6_kindsFor_39 rfl rfl rfl (Nat.le_of_ble_eq_true rfl) (Nat.le_of_ble_eq_true rfl) rfl (Nat.le_of_ble_eq_true rfl) (by simp) ⟨Nat.zero_le _, Nat.zero_le _⟩ (fun vR w' hp => ?_)
            obtain ⟨rfl, d39_1, rfl⟩ := hp
            refine J_w (ws' := wM G b (upG (upG (upG (upG (upG y 5 d) 2 z) 2 (y 0)) 5 d39_1) 0 (y 0))) (List.append_nil _) ?_
            refine J_top (x' := bI (wetB (up2 (y 0) 0 j (nI i)) j m = true)) rfl ?_
            refine J_if_eq E (tgt := 52) dX6_kindsFor_42 (by decide) (fun c_42 => ?_) (fun c_42 => ?_)
            · skip
              have c_42 := bI_0 c_42
              refine J_iconst E dX6_kindsFor_52 ic_0 ?_
              refine J_ior E dX6_kindsFor_53 ?_
              refine J_istore_n E (lv' := [(3, .int (s ||| 0)), (0, .ref (b 0)), (1, .int (nI j)), (2, .int (nI m)), (4, .int (nI i))]) dX6_kindsFor_54 rfl (by decide) rfl ?_
              refine J_iinc E (lv' := [(4, .int (nI (i + 1))), (3, .int (s ||| 0)), (0, .ref (b 0)), (1, .int (nI j)), (2, .int (nI m))]) dX6_kindsFor_55 4 rfl (nI_inc _) (by decide) rfl ?_
              refine J_goto E (tgt := 25) dX6_kindsFor_58 (by decide) ?_
              refine J_lv [2, 3, 4, 1, 0] rfl ?_
              exact ih25 (i + 1) (s ||| 0) d39_1 (y 0) (by omega) (by rw [h1, setF]; first | (rw [if_pos c_42]; rfl) | (rw [if_neg c_42, or_0])) (by omega)
            · skip
              have c_42 := bI_1 c_42
              refine J_iconst E dX6_kindsFor_45 ic_1 ?_
              refine J_iload E dX6_kindsFor_46 4 rfl ?_
              refine J_ishl E dX6_kindsFor_48 ?_
              refine J_goto E (tgt := 53) dX6_kindsFor_49 (by decide) ?_
              refine J_ior E dX6_kindsFor_53 ?_
              refine J_istore_n E (lv' := [(3, .int (s ||| (1 <<< ((nI i) &&& 31)))), (0, .ref (b 0)), (1, .int (nI j)), (2, .int (nI m)), (4, .int (nI i))]) dX6_kindsFor_54 rfl (by decide) rfl ?_
              refine J_iinc E (lv' := [(4, .int (nI (i + 1))), (3, .int (s ||| (1 <<< ((nI i) &&& 31)))), (0, .ref (b 0)), (1, .int (nI j)), (2, .int (nI m))]) dX6_kindsFor_55 4 rfl (nI_inc _) (by decide) rfl ?_
              refine J_goto E (tgt := 25) dX6_kindsFor_58 (by decide) ?_
              refine J_lv [2, 3, 4, 1, 0] rfl ?_
              exact ih25 (i + 1) (s ||| (1 <<< ((nI i) &&& 31))) d39_1 (y 0) (by omega) (by rw [h1, setF]; first | (rw [if_pos c_42]; rfl) | (rw [if_neg c_42, or_0])) (by omega)
      refine J_lv [2, 3, 4, 1, 0] rfl ?_
      exact lp25 _ 0 0 (y 5) (y 2) (by omega) rfl (Nat.lt_succ_self _)
    · skip
      have c_11 := bI_0 c_11
      exact absurd (inB (a := m) (b := 40) (by omega) (by decide)) c_11

set_option maxHeartbeats 4000000 in
set_option maxRecDepth 20000 in
theorem c_X6_kindFor_bad (l : Launch) (G : GB) (b : Nat → Nat) (y : Q3) (h n : Int32) (hb : ¬ (okH h ∧ 0 ≤ n ∧ n ≤ 40)) : CI l yX6_kindFor cX6_kindFor 7 .int 2 45 G [.ref (b 0), .int h, .int n] (wM G b y) (fun vR w' => vR = tellR 0 ∧ PubM G b (tellX y 0) w') := by
  refine CI.mk (own := RX6) (by decide) rfl (Nat.le_of_ble_eq_true rfl) ?_
  intro X E ret
  show J X G 7 0 0 (wM G b y) [(0, .ref (b 0)), (1, .int h), (2, .int n)] 0 []
  refine J_iload_n E dX6_kindFor_0 rfl 1 rfl ?_
  refine J_cSiN E (As := [.int h]) (c_X6_isHouse l G h ) cl_X6_87 yo_X6_isHouse dX6_kindFor_1 rfl (Nat.le_of_ble_eq_true rfl) (Nat.le_of_ble_eq_true rfl) rfl (Nat.le_of_ble_eq_true rfl) ⟨Nat.zero_le _, Nat.zero_le _⟩ ?_
  refine J_if_eq E (tgt := 14) dX6_kindFor_4 (by decide) (fun c_4 => ?_) (fun c_4 => ?_)
  · skip
    have c_4 := bI_0 c_4
    refine J_aload_n E dX6_kindFor_14 rfl 0 rfl ?_
    refine J_iconst E dX6_kindFor_15 ic_0 ?_
    refine J_cVi0 E (As := [.int 0]) (c_X6_finds l G b y 0 (by omega)) cl_X6_96 yo_X6_finds dX6_kindFor_16 rfl rfl rfl (Nat.le_of_ble_eq_true rfl) (Nat.le_of_ble_eq_true rfl) rfl (Nat.le_of_ble_eq_true rfl) ⟨Nat.zero_le _, Nat.zero_le _⟩ ?_
    exact ret _ _ _ _ ⟨rfl, _, rfl, by intro g h2 h5 h6; by_cases h0 : g = 0 <;> simp [tellX, upG, up3, up3R, up2, h0, h2, h5, h6]⟩ rfl dX6_kindFor_19
  · skip
    have c_4 := bI_1 c_4
    refine J_iload_n E dX6_kindFor_7 rfl 2 rfl ?_
    refine J_cSiN E (As := [.int n]) (c_X6_isSoon l G n ) cl_X6_176 yo_X6_isSoon dX6_kindFor_8 rfl (Nat.le_of_ble_eq_true rfl) (Nat.le_of_ble_eq_true rfl) rfl (Nat.le_of_ble_eq_true rfl) ⟨Nat.zero_le _, Nat.zero_le _⟩ ?_
    refine J_if_ne E (tgt := 20) dX6_kindFor_11 (by decide) (fun c_11 => ?_) (fun c_11 => ?_)
    · skip
      have c_11 := bI_1 c_11
      exact absurd ⟨c_4, c_11⟩ hb
    · skip
      have c_11 := bI_0 c_11
      refine J_aload_n E dX6_kindFor_14 rfl 0 rfl ?_
      refine J_iconst E dX6_kindFor_15 ic_0 ?_
      refine J_cVi0 E (As := [.int 0]) (c_X6_finds l G b y 0 (by omega)) cl_X6_96 yo_X6_finds dX6_kindFor_16 rfl rfl rfl (Nat.le_of_ble_eq_true rfl) (Nat.le_of_ble_eq_true rfl) rfl (Nat.le_of_ble_eq_true rfl) ⟨Nat.zero_le _, Nat.zero_le _⟩ ?_
      exact ret _ _ _ _ ⟨rfl, _, rfl, by intro g h2 h5 h6; by_cases h0 : g = 0 <;> simp [tellX, upG, up3, up3R, up2, h0, h2, h5, h6]⟩ rfl dX6_kindFor_19

set_option maxHeartbeats 4000000 in
set_option maxRecDepth 20000 in
theorem c_X6_kindFor_ok (l : Launch) (G : GB) (b : Nat → Nat) (y : Q3) (j m : Nat) (hj : j < 11) (hm : m ≤ 40) (hok : okQ (y 0))  : CI l yX6_kindFor cX6_kindFor 7 .int 6 135 G [.ref (b 0), .int (nI j), .int (nI m)] (wM G b y) (fun vR w' => vR = nI (argF (fun k => hoursR (up2 (y 0) 0 j (nI k)) m 7 3) 7).2 ∧ PubM G b y w') := by
  refine CI.mk (own := RX6) (by decide) rfl (Nat.le_of_ble_eq_true rfl) ?_
  intro X E ret
  show J X G 7 0 0 (wM G b y) [(0, .ref (b 0)), (1, .int (nI j)), (2, .int (nI m))] 0 []
  refine J_iload_n E dX6_kindFor_0 rfl 1 rfl ?_
  refine J_cSiN E (As := [.int (nI j)]) (c_X6_isHouse l G (nI j) ) cl_X6_87 yo_X6_isHouse dX6_kindFor_1 rfl (Nat.le_of_ble_eq_true rfl) (Nat.le_of_ble_eq_true rfl) rfl (Nat.le_of_ble_eq_true rfl) ⟨Nat.zero_le _, Nat.zero_le _⟩ ?_
  refine J_if_eq E (tgt := 14) dX6_kindFor_4 (by decide) (fun c_4 => ?_) (fun c_4 => ?_)
  · skip
    have c_4 := bI_0 c_4
    exact absurd (inB (a := j) (b := 10) (by omega) (by decide)) c_4
  · skip
    have c_4 := bI_1 c_4
    refine J_iload_n E dX6_kindFor_7 rfl 2 rfl ?_
    refine J_cSiN E (As := [.int (nI m)]) (c_X6_isSoon l G (nI m) ) cl_X6_176 yo_X6_isSoon dX6_kindFor_8 rfl (Nat.le_of_ble_eq_true rfl) (Nat.le_of_ble_eq_true rfl) rfl (Nat.le_of_ble_eq_true rfl) ⟨Nat.zero_le _, Nat.zero_le _⟩ ?_
    refine J_if_ne E (tgt := 20) dX6_kindFor_11 (by decide) (fun c_11 => ?_) (fun c_11 => ?_)
    · skip
      have c_11 := bI_1 c_11
      refine J_iconst E dX6_kindFor_20 ic_0 ?_
      refine J_istore_n E (lv' := [(3, .int 0), (0, .ref (b 0)), (1, .int (nI j)), (2, .int (nI m))]) dX6_kindFor_21 rfl (by decide) rfl ?_
      refine J_iconst E dX6_kindFor_22 ic_m1 ?_
      refine J_istore E (lv' := [(4, .int (-1)), (3, .int 0), (0, .ref (b 0)), (1, .int (nI j)), (2, .int (nI m))]) dX6_kindFor_23 (by decide) rfl ?_
      refine J_iconst E dX6_kindFor_25 ic_0 ?_
      refine J_istore E (lv' := [(5, .int 0), (4, .int (-1)), (3, .int 0), (0, .ref (b 0)), (1, .int (nI j)), (2, .int (nI m))]) dX6_kindFor_26 (by decide) rfl ?_
      refine J_w (ws' := wM G b (upG y 5 (y 5))) (congrArg (wM G b) upG_id.symm) ?_
      have lp28 : ∀ (fu : Nat) (i : Nat) (bs : Int32) (mo : Int32) (d : Q2) (z : Q2), (i ≤ 7) → (bs = nI (argF (fun k => hoursR (up2 (y 0) 0 j (nI k)) m 7 3) i).2) → (mo = (argF (fun k => hoursR (up2 (y 0) 0 j (nI k)) m 7 3) i).1) → 7 - i < fu → J X G 7 0 0 (wM G b (upG (upG y 5 d) 2 z)) [(0, .ref (b 0)), (1, .int (nI j)), (2, .int (nI m)), (3, .int bs), (4, .int mo), (5, .int (nI i))] 28 [] := by
        intro fu
        induction fu with
        | zero => intro i bs mo d z hi hb hm2 hm; exact absurd hm (Nat.not_lt_zero _)
        | succ fu ih28 =>
          intro i bs mo d z hi hb hm2 hm
          refine J_iload E dX6_kindFor_28 5 rfl ?_
          refine J_bipush E dX6_kindFor_30 bp_6 ?_
          refine J_icmp_gt E (tgt := 83) dX6_kindFor_32 (by decide) (fun c_32 => ?_) (fun c_32 => ?_)
          · skip
            have n_32 : 6 < i := cmp_lt (a := 6) (b := i) (by omega) (by omega) c_32
            refine J_iload_n E dX6_kindFor_83 rfl 3 rfl ?_
            exact ret _ _ _ _ ⟨by rw [hb, show i = 7 by omega], _, rfl, by intro g h2 h5 h6; by_cases h0 : g = 0 <;> simp [tellX, upG, up3, up3R, up2, h0, h2, h5, h6]⟩ rfl dX6_kindFor_84
          · skip
            have n_32 : ¬ 6 < i := cmp_nlt (a := 6) (b := i) (by omega) (by omega) c_32
            refine J_aload_n E dX6_kindFor_35 rfl 0 rfl ?_
            refine J_cVv0 E (As := []) (c_X6_lends l G b (upG (upG y 5 d) 2 z) ) cl_X6_160 yo_X6_lends dX6_kindFor_36 rfl rfl rfl (Nat.le_of_ble_eq_true rfl) (Nat.le_of_ble_eq_true rfl) rfl (Nat.le_of_ble_eq_true rfl) ⟨Nat.zero_le _, Nat.zero_le _⟩ ?_
            refine J_aload_n E dX6_kindFor_39 rfl 0 rfl ?_
            refine J_iload_n E dX6_kindFor_40 rfl 1 rfl ?_
            refine J_iconst E dX6_kindFor_41 ic_0 ?_
            refine J_iload E dX6_kindFor_42 5 rfl ?_
            refine J_cVv0 E (As := [.int (nI j), .int 0, .int (nI i)]) (c_X6_sets l G b (upG (upG (upG y 5 d) 2 z) 2 (y 0)) j 0 (nI i) (by omega) (by omega)) cl_X6_43 yo_X6_sets dX6_kindFor_44 rfl rfl rfl (Nat.le_of_ble_eq_true rfl) (Nat.le_of_ble_eq_true rfl) rfl (Nat.le_of_ble_eq_true rfl) ⟨Nat.zero_le _, Nat.zero_le _⟩ ?_
            refine J_aload_n E dX6_kindFor_47 rfl 0 rfl ?_
            refine J_iload_n E dX6_kindFor_48 rfl 2 rfl ?_
            refine J_callVi E (As := [.int (nI m)]) (q0 := 0) (ci := 5) [] [] (c_X6_alleyIn l G b (upG (upG (upG (upG y 5 d) 2 z) 2 (y 0)) 0 (up2 (y 0) 0 j (nI i))) m (by omega) (okQ_k hok _ (by omega))) cl_X6_166 yo_X6_alleyIn dX6_kindFor_49 rfl rfl rfl (Nat.le_of_ble_eq_true rfl) (Nat.le_of_ble_eq_true rfl) rfl (Nat.le_of_ble_eq_true rfl) (by simp) ⟨Nat.zero_le _, Nat.zero_le _⟩ (fun vR w' hp => ?_)
            obtain ⟨rfl, d49_1, rfl⟩ := hp
            refine J_w (ws' := wM G b (upG (upG (upG (upG (upG (upG y 5 d) 2 z) 2 (y 0)) 0 (up2 (y 0) 0 j (nI i))) 5 d49_1) 0 (y 0))) (List.append_nil _) ?_
            refine J_top (x' := hoursR (up2 (y 0) 0 j (nI i)) m 7 3) rfl ?_
            refine J_istore E (lv' := [(6, .int (hoursR (up2 (y 0) 0 j (nI i)) m 7 3)), (0, .ref (b 0)), (1, .int (nI j)), (2, .int (nI m)), (3, .int bs), (4, .int mo), (5, .int (nI i))]) dX6_kindFor_52 (by decide) rfl ?_
            refine J_iload E dX6_kindFor_54 0 rfl ?_
            refine J_iload E dX6_kindFor_56 5 rfl ?_
            refine J_icmp_le E (tgt := 66) dX6_kindFor_58 (by decide) (fun c_58 => ?_) (fun c_58 => ?_)
            · skip
              refine J_iload_n E dX6_kindFor_66 rfl 4 rfl ?_
              refine J_istore_n E (lv' := [(3, .int bs), (6, .int (hoursR (up2 (y 0) 0 j (nI i)) m 7 3)), (0, .ref (b 0)), (1, .int (nI j)), (2, .int (nI m)), (4, .int mo), (5, .int (nI i))]) dX6_kindFor_67 rfl (by decide) rfl ?_
              refine J_iload E dX6_kindFor_68 5 rfl ?_
              refine J_iload E dX6_kindFor_70 1 rfl ?_
              refine J_mmax E ml_X6_68 st_mmax ini_J9 co_mmax dX6_kindFor_72 (by decide) (Nat.le_of_ble_eq_true rfl) ⟨Nat.zero_le _, Nat.zero_le _⟩ ?_
              refine J_istore E (lv' := [(4, .int (mx mo (hoursR (up2 (y 0) 0 j (nI i)) m 7 3))), (3, .int bs), (6, .int (hoursR (up2 (y 0) 0 j (nI i)) m 7 3)), (0, .ref (b 0)), (1, .int (nI j)), (2, .int (nI m)), (5, .int (nI i))]) dX6_kindFor_75 (by decide) rfl ?_
              refine J_iinc E (lv' := [(5, .int (nI (i + 1))), (4, .int (mx mo (hoursR (up2 (y 0) 0 j (nI i)) m 7 3))), (3, .int bs), (6, .int (hoursR (up2 (y 0) 0 j (nI i)) m 7 3)), (0, .ref (b 0)), (1, .int (nI j)), (2, .int (nI m))]) dX6_kindFor_77 6 rfl (nI_inc _) (by decide) rfl ?_
              refine J_goto E (tgt := 28) dX6_kindFor_80 (by decide) ?_
              refine J_lv [4, 5, 6, 2, 1, 0] rfl ?_
              exact ih28 (i + 1) bs (mx mo (hoursR (up2 (y 0) 0 j (nI i)) m 7 3)) d49_1 (y 0) (by omega) (by first | exact argF_b hm2 c_58 | (rw [hb]; exact argF_k hm2 c_58)) (argF_mx hm2) (by omega)
            · skip
              refine J_iload E dX6_kindFor_61 6 rfl ?_
              refine J_goto E (tgt := 67) dX6_kindFor_63 (by decide) ?_
              refine J_istore_n E (lv' := [(3, .int (nI i)), (6, .int (hoursR (up2 (y 0) 0 j (nI i)) m 7 3)), (0, .ref (b 0)), (1, .int (nI j)), (2, .int (nI m)), (4, .int mo), (5, .int (nI i))]) dX6_kindFor_67 rfl (by decide) rfl ?_
              refine J_iload E dX6_kindFor_68 5 rfl ?_
              refine J_iload E dX6_kindFor_70 1 rfl ?_
              refine J_mmax E ml_X6_68 st_mmax ini_J9 co_mmax dX6_kindFor_72 (by decide) (Nat.le_of_ble_eq_true rfl) ⟨Nat.zero_le _, Nat.zero_le _⟩ ?_
              refine J_istore E (lv' := [(4, .int (mx mo (hoursR (up2 (y 0) 0 j (nI i)) m 7 3))), (3, .int (nI i)), (6, .int (hoursR (up2 (y 0) 0 j (nI i)) m 7 3)), (0, .ref (b 0)), (1, .int (nI j)), (2, .int (nI m)), (5, .int (nI i))]) dX6_kindFor_75 (by decide) rfl ?_
              refine J_iinc E (lv' := [(5, .int (nI (i + 1))), (4, .int (mx mo (hoursR (up2 (y 0) 0 j (nI i)) m 7 3))), (3, .int (nI i)), (6, .int (hoursR (up2 (y 0) 0 j (nI i)) m 7 3)), (0, .ref (b 0)), (1, .int (nI j)), (2, .int (nI m))]) dX6_kindFor_77 6 rfl (nI_inc _) (by decide) rfl ?_
              refine J_goto E (tgt := 28) dX6_kindFor_80 (by decide) ?_
              refine J_lv [4, 5, 6, 2, 1, 0] rfl ?_
              exact ih28 (i + 1) (nI i) (mx mo (hoursR (up2 (y 0) 0 j (nI i)) m 7 3)) d49_1 (y 0) (by omega) (by first | exact argF_b hm2 c_58 | (rw [hb]; exact argF_k hm2 c_58)) (argF_mx hm2) (by omega)
      refine J_lv [3, 4, 5, 2, 1, 0] rfl ?_
      exact lp28 _ 0 0 (-1) (y 5) (y 2) (by omega) rfl rfl (Nat.lt_succ_self _)
    · skip
      have c_11 := bI_0 c_11
      exact absurd (inB (a := m) (b := 40) (by omega) (by decide)) c_11

set_option maxHeartbeats 4000000 in
set_option maxRecDepth 20000 in
theorem c_X6_turns (l : Launch) (G : GB) (b : Nat → Nat) (y : Q3) (h : Nat) (hh : h < 11) : CV l yX6_turns cX6_turns 2 1 23 0 0 G [.ref (b 0), .int (nI h)] (wM G b y) (fun w' => w' = wM G b (upG y 0 (turn1 (y 0) h))) := by
  refine CV.mk (own := RX6) (by decide) rfl (Nat.le_of_ble_eq_true rfl) ?_
  intro X E _ _ _ ret
  show J X G 2 0 0 (wM G b y) [(0, .ref (b 0)), (1, .int (nI h))] 0 []
  refine J_aload_n E dX6_turns_0 rfl 0 rfl ?_
  refine J_iload_n E dX6_turns_1 rfl 1 rfl ?_
  refine J_iconst E dX6_turns_2 ic_4 ?_
  refine J_iconst E dX6_turns_3 ic_1 ?_
  refine J_aload_n E dX6_turns_4 rfl 0 rfl ?_
  refine J_iload_n E dX6_turns_5 rfl 1 rfl ?_
  refine J_iconst E dX6_turns_6 ic_4 ?_
  refine J_cVi0 E (As := [.int (nI h), .int 4]) (c_X6_its l G b y h 4 (by omega) (by omega)) cl_X6_64 yo_X6_its dX6_turns_7 rfl rfl rfl (Nat.le_of_ble_eq_true rfl) (Nat.le_of_ble_eq_true rfl) rfl (Nat.le_of_ble_eq_true rfl) ⟨Nat.zero_le _, Nat.zero_le _⟩ ?_
  refine J_isub E dX6_turns_10 ?_
  refine J_cVv0 E (As := [.int (nI h), .int 4, .int (1 - (y 0 4 h))]) (c_X6_sets l G b y h 4 (1 - (y 0 4 h)) (by omega) (by omega)) cl_X6_43 yo_X6_sets dX6_turns_11 rfl rfl rfl (Nat.le_of_ble_eq_true rfl) (Nat.le_of_ble_eq_true rfl) rfl (Nat.le_of_ble_eq_true rfl) ⟨Nat.zero_le _, Nat.zero_le _⟩ ?_
  exact ret _ _ _ (congrArg (wM G b) (rfl)) dX6_turns_14

set_option maxHeartbeats 4000000 in
set_option maxRecDepth 20000 in
theorem c_X6_dryBy (l : Launch) (G : GB) (b : Nat → Nat) (y : Q3) (s : Int32) (m : Nat) (hm : m ≤ 1000) (hok : okQ (y 0))  : CI l yX6_dryBy cX6_dryBy 4 .int 5 114 G [.ref (b 0), .int s, .int (nI m)] (wM G b y) (fun vR w' => vR = drysR (turnRQ (y 0) s) m ∧ ∃ d : Q2, w' = wM G b (upG (upG (upG y 2 (y 0)) 5 d) 0 (y 0))) := by
  refine CI.mk (own := RX6) (by decide) rfl (Nat.le_of_ble_eq_true rfl) ?_
  intro X E ret
  show J X G 4 0 0 (wM G b y) [(0, .ref (b 0)), (1, .int s), (2, .int (nI m))] 0 []
  refine J_aload_n E dX6_dryBy_0 rfl 0 rfl ?_
  refine J_cVv0 E (As := []) (c_X6_lends l G b y ) cl_X6_160 yo_X6_lends dX6_dryBy_1 rfl rfl rfl (Nat.le_of_ble_eq_true rfl) (Nat.le_of_ble_eq_true rfl) rfl (Nat.le_of_ble_eq_true rfl) ⟨Nat.zero_le _, Nat.zero_le _⟩ ?_
  refine J_iconst E dX6_dryBy_4 ic_0 ?_
  refine J_istore_n E (lv' := [(3, .int 0), (0, .ref (b 0)), (1, .int s), (2, .int (nI m))]) dX6_dryBy_5 rfl (by decide) rfl ?_
  have lp6 : ∀ (fu : Nat) (i : Nat) (z : Q2) (r : Q2), (z = y 0) → (i ≤ 11) → (r = turnRS (y 0) s i) → 11 - i < fu → J X G 4 0 0 (wM G b (upG (upG y 2 z) 0 r)) [(0, .ref (b 0)), (1, .int s), (2, .int (nI m)), (3, .int (nI i))] 6 [] := by
    intro fu
    induction fu with
    | zero => intro i z r hz hi hr hm; exact absurd hm (Nat.not_lt_zero _)
    | succ fu ih6 =>
      intro i z r hz hi hr hm
      refine J_iload_n E dX6_dryBy_6 rfl 3 rfl ?_
      refine J_bipush E dX6_dryBy_7 bp_11 ?_
      refine J_icmp_ge E (tgt := 32) dX6_dryBy_9 (by decide) (fun c_9 => ?_) (fun c_9 => ?_)
      · skip
        have n_9 : 11 ≤ i := cmp_le (a := 11) (b := i) (by omega) (by omega) c_9
        refine J_aload_n E dX6_dryBy_32 rfl 0 rfl ?_
        refine J_iload_n E dX6_dryBy_33 rfl 2 rfl ?_
        refine J_callVi E (As := [.int (nI m)]) (q0 := 0) (ci := 5) [] [] (c_X6_dryIn l G b (upG (upG y 2 z) 0 r) m (by omega) (by rw [hr]; exact okQ_t hok s i hi)) cl_X6_169 yo_X6_dryIn dX6_dryBy_34 rfl rfl rfl (Nat.le_of_ble_eq_true rfl) (Nat.le_of_ble_eq_true rfl) rfl (Nat.le_of_ble_eq_true rfl) (by simp) ⟨Nat.zero_le _, Nat.zero_le _⟩ (fun vR w' hp => ?_)
        obtain ⟨rfl, d34_1, rfl⟩ := hp
        refine J_w (ws' := wM G b (upG (upG (upG (upG y 2 z) 0 r) 5 d34_1) 0 (hoursR r m))) (List.append_nil _) ?_
        refine J_top (x' := drysR r m) rfl ?_
        refine J_istore_n E (lv' := [(3, .int (drysR r m)), (0, .ref (b 0)), (1, .int s), (2, .int (nI m))]) dX6_dryBy_37 rfl (by decide) rfl ?_
        refine J_aload_n E dX6_dryBy_38 rfl 1 rfl ?_
        refine J_cVv0 E (As := []) (c_X6_laysBack l G b (upG (upG (upG (upG y 2 z) 0 r) 5 d34_1) 0 (hoursR r m)) ) cl_X6_163 yo_X6_laysBack dX6_dryBy_39 rfl rfl rfl (Nat.le_of_ble_eq_true rfl) (Nat.le_of_ble_eq_true rfl) rfl (Nat.le_of_ble_eq_true rfl) ⟨Nat.zero_le _, Nat.zero_le _⟩ ?_
        refine J_iload_n E dX6_dryBy_42 rfl 0 rfl ?_
        exact ret _ _ _ _ ⟨by rw [hr, show i = 11 by omega]; rfl, d34_1, by rw [hz]; rfl⟩ rfl dX6_dryBy_43
      · skip
        have n_9 : ¬ 11 ≤ i := cmp_nle (a := 11) (b := i) (by omega) (by omega) c_9
        refine J_iload_n E dX6_dryBy_12 rfl 1 rfl ?_
        refine J_iload_n E dX6_dryBy_13 rfl 3 rfl ?_
        refine J_ishr E dX6_dryBy_14 ?_
        refine J_iconst E dX6_dryBy_15 ic_1 ?_
        refine J_iand E dX6_dryBy_16 ?_
        refine J_iconst E dX6_dryBy_17 ic_1 ?_
        refine J_icmp_ne E (tgt := 26) dX6_dryBy_18 (by decide) (fun c_18 => ?_) (fun c_18 => ?_)
        · skip
          refine J_iinc E (lv' := [(3, .int (nI (i + 1))), (0, .ref (b 0)), (1, .int s), (2, .int (nI m))]) dX6_dryBy_26 3 rfl (nI_inc _) (by decide) rfl ?_
          refine J_goto E (tgt := 6) dX6_dryBy_29 (by decide) ?_
          refine J_lv [1, 2, 3, 0] rfl ?_
          exact ih6 (i + 1) z r hz (by omega) (by rw [hr, turnRS]; first | rw [if_pos c_18] | rw [if_neg c_18]) (by omega)
        · skip
          refine J_aload_n E dX6_dryBy_21 rfl 0 rfl ?_
          refine J_iload_n E dX6_dryBy_22 rfl 3 rfl ?_
          refine J_cVv0 E (As := [.int (nI i)]) (c_X6_turns l G b (upG (upG y 2 z) 0 r) i (by omega)) cl_X6_186 yo_X6_turns dX6_dryBy_23 rfl rfl rfl (Nat.le_of_ble_eq_true rfl) (Nat.le_of_ble_eq_true rfl) rfl (Nat.le_of_ble_eq_true rfl) ⟨Nat.zero_le _, Nat.zero_le _⟩ ?_
          refine J_iinc E (lv' := [(3, .int (nI (i + 1))), (0, .ref (b 0)), (1, .int s), (2, .int (nI m))]) dX6_dryBy_26 3 rfl (nI_inc _) (by decide) rfl ?_
          refine J_goto E (tgt := 6) dX6_dryBy_29 (by decide) ?_
          refine J_lv [1, 2, 3, 0] rfl ?_
          exact ih6 (i + 1) z (turn1 r i) hz (by omega) (by rw [hr, turnRS]; first | rw [if_pos c_18] | rw [if_neg c_18]) (by omega)
  refine J_lv [1, 2, 3, 0] rfl ?_
  exact lp6 _ 0 (y 0) (y 0) rfl (by omega) rfl (Nat.lt_succ_self _)

set_option maxHeartbeats 4000000 in
set_option maxRecDepth 20000 in
theorem c_X6_turn_bad (l : Launch) (G : GB) (b : Nat → Nat) (y : Q3) (v n : Int32) (hb : ¬ ((0 ≤ v ∧ v ≤ 2047) ∧ 0 ≤ n ∧ n ≤ 12)) : CI l yX6_turn cX6_turn 6 .int 1 25 G [.ref (b 0), .int v, .int n] (wM G b y) (fun vR w' => vR = tellR 0 ∧ PubM G b (tellX y 0) w') := by
  refine CI.mk (own := RX6) (by decide) rfl (Nat.le_of_ble_eq_true rfl) ?_
  intro X E ret
  show J X G 6 0 0 (wM G b y) [(0, .ref (b 0)), (1, .int v), (2, .int n)] 0 []
  refine J_iload_n E dX6_turn_0 rfl 1 rfl ?_
  refine J_i2l E dX6_turn_1 rfl ?_
  refine J_lconst E dX6_turn_2 lc_0 ?_
  refine J_ldc2 E kl_X6_113 dX6_turn_3 ?_
  refine J_cSiN E (As := [.long (Int32.toInt64 v), .long 0, .long 2047]) (c_X6_in l G v 0 2047 0 2047 (by decide) (by decide) ) cl_X6_54 yo_X6_in dX6_turn_6 rfl (Nat.le_of_ble_eq_true rfl) (Nat.le_of_ble_eq_true rfl) rfl (Nat.le_of_ble_eq_true rfl) ⟨Nat.zero_le _, Nat.zero_le _⟩ ?_
  refine J_if_eq E (tgt := 24) dX6_turn_9 (by decide) (fun c_9 => ?_) (fun c_9 => ?_)
  · skip
    have c_9 := bI_0 c_9
    refine J_aload_n E dX6_turn_24 rfl 0 rfl ?_
    refine J_iconst E dX6_turn_25 ic_0 ?_
    refine J_cVi0 E (As := [.int 0]) (c_X6_finds l G b y 0 (by omega)) cl_X6_96 yo_X6_finds dX6_turn_26 rfl rfl rfl (Nat.le_of_ble_eq_true rfl) (Nat.le_of_ble_eq_true rfl) rfl (Nat.le_of_ble_eq_true rfl) ⟨Nat.zero_le _, Nat.zero_le _⟩ ?_
    exact ret _ _ _ _ ⟨rfl, _, rfl, by intro g h2 h5 h6; by_cases h0 : g = 0 <;> simp [tellX, upG, up3, up3R, up2, h0, h2, h5, h6]⟩ rfl dX6_turn_29
  · skip
    have c_9 := bI_1 c_9
    refine J_iload_n E dX6_turn_12 rfl 2 rfl ?_
    refine J_i2l E dX6_turn_13 rfl ?_
    refine J_lconst E dX6_turn_14 lc_0 ?_
    refine J_ldc2 E kl_X6_189 dX6_turn_15 ?_
    refine J_cSiN E (As := [.long (Int32.toInt64 n), .long 0, .long 12]) (c_X6_in l G n 0 12 0 12 (by decide) (by decide) ) cl_X6_54 yo_X6_in dX6_turn_18 rfl (Nat.le_of_ble_eq_true rfl) (Nat.le_of_ble_eq_true rfl) rfl (Nat.le_of_ble_eq_true rfl) ⟨Nat.zero_le _, Nat.zero_le _⟩ ?_
    refine J_if_ne E (tgt := 30) dX6_turn_21 (by decide) (fun c_21 => ?_) (fun c_21 => ?_)
    · skip
      have c_21 := bI_1 c_21
      exact absurd ⟨c_9, c_21⟩ hb
    · skip
      have c_21 := bI_0 c_21
      refine J_aload_n E dX6_turn_24 rfl 0 rfl ?_
      refine J_iconst E dX6_turn_25 ic_0 ?_
      refine J_cVi0 E (As := [.int 0]) (c_X6_finds l G b y 0 (by omega)) cl_X6_96 yo_X6_finds dX6_turn_26 rfl rfl rfl (Nat.le_of_ble_eq_true rfl) (Nat.le_of_ble_eq_true rfl) rfl (Nat.le_of_ble_eq_true rfl) ⟨Nat.zero_le _, Nat.zero_le _⟩ ?_
      exact ret _ _ _ _ ⟨rfl, _, rfl, by intro g h2 h5 h6; by_cases h0 : g = 0 <;> simp [tellX, upG, up3, up3R, up2, h0, h2, h5, h6]⟩ rfl dX6_turn_29

set_option maxHeartbeats 4000000 in
set_option maxRecDepth 20000 in
theorem c_X6_turn_ok (l : Launch) (G : GB) (b : Nat → Nat) (y : Q3) (v : Int32) (m : Nat) (hv : 0 ≤ v ∧ v ≤ 2047) (hm : m ≤ 12) (hok : okQ (y 0))  : CI l yX6_turn cX6_turn 6 .int 6 137 G [.ref (b 0), .int v, .int (nI m)] (wM G b y) (fun vR w' => vR = (if tbF (y 0) v m 2048 < 0 then tellR 3 else tbF (y 0) v m 2048) ∧ PubM G b (if tbF (y 0) v m 2048 < 0 then tellX y 3 else y) w') := by
  refine CI.mk (own := RX6) (by decide) rfl (Nat.le_of_ble_eq_true rfl) ?_
  intro X E ret
  show J X G 6 0 0 (wM G b y) [(0, .ref (b 0)), (1, .int v), (2, .int (nI m))] 0 []
  refine J_iload_n E dX6_turn_0 rfl 1 rfl ?_
  refine J_i2l E dX6_turn_1 rfl ?_
  refine J_lconst E dX6_turn_2 lc_0 ?_
  refine J_ldc2 E kl_X6_113 dX6_turn_3 ?_
  refine J_cSiN E (As := [.long (Int32.toInt64 v), .long 0, .long 2047]) (c_X6_in l G v 0 2047 0 2047 (by decide) (by decide) ) cl_X6_54 yo_X6_in dX6_turn_6 rfl (Nat.le_of_ble_eq_true rfl) (Nat.le_of_ble_eq_true rfl) rfl (Nat.le_of_ble_eq_true rfl) ⟨Nat.zero_le _, Nat.zero_le _⟩ ?_
  refine J_if_eq E (tgt := 24) dX6_turn_9 (by decide) (fun c_9 => ?_) (fun c_9 => ?_)
  · skip
    have c_9 := bI_0 c_9
    exact absurd (by assumption) c_9
  · skip
    have c_9 := bI_1 c_9
    refine J_iload_n E dX6_turn_12 rfl 2 rfl ?_
    refine J_i2l E dX6_turn_13 rfl ?_
    refine J_lconst E dX6_turn_14 lc_0 ?_
    refine J_ldc2 E kl_X6_189 dX6_turn_15 ?_
    refine J_cSiN E (As := [.long (Int32.toInt64 (nI m)), .long 0, .long 12]) (c_X6_in l G (nI m) 0 12 0 12 (by decide) (by decide) ) cl_X6_54 yo_X6_in dX6_turn_18 rfl (Nat.le_of_ble_eq_true rfl) (Nat.le_of_ble_eq_true rfl) rfl (Nat.le_of_ble_eq_true rfl) ⟨Nat.zero_le _, Nat.zero_le _⟩ ?_
    refine J_if_ne E (tgt := 30) dX6_turn_21 (by decide) (fun c_21 => ?_) (fun c_21 => ?_)
    · skip
      have c_21 := bI_1 c_21
      refine J_iconst E dX6_turn_30 ic_m1 ?_
      refine J_istore_n E (lv' := [(3, .int (-1)), (0, .ref (b 0)), (1, .int v), (2, .int (nI m))]) dX6_turn_31 rfl (by decide) rfl ?_
      refine J_iconst E dX6_turn_32 ic_0 ?_
      refine J_istore E (lv' := [(4, .int 0), (3, .int (-1)), (0, .ref (b 0)), (1, .int v), (2, .int (nI m))]) dX6_turn_33 (by decide) rfl ?_
      refine J_w (ws' := wM G b (upG y 5 (y 5))) (congrArg (wM G b) upG_id.symm) ?_
      have lp35 : ∀ (fu : Nat) (i : Nat) (t : Int32) (d : Q2) (z : Q2), (i ≤ 2048) → (t = tbF (y 0) v m i) → 2048 - i < fu → J X G 6 0 0 (wM G b (upG (upG y 5 d) 2 z)) [(0, .ref (b 0)), (1, .int v), (2, .int (nI m)), (3, .int t), (4, .int (nI i))] 35 [] := by
        intro fu
        induction fu with
        | zero => intro i t d z hi h1 hm; exact absurd hm (Nat.not_lt_zero _)
        | succ fu ih35 =>
          intro i t d z hi h1 hm
          refine J_iload E dX6_turn_35 4 rfl ?_
          refine J_sipush E dX6_turn_37 sp_2047 ?_
          refine J_icmp_gt E (tgt := 96) dX6_turn_40 (by decide) (fun c_40 => ?_) (fun c_40 => ?_)
          · skip
            have n_40 : 2047 < i := cmp_lt (a := 2047) (b := i) (by omega) (by omega) c_40
            refine J_iload_n E dX6_turn_96 rfl 3 rfl ?_
            refine J_if_ge E (tgt := 108) dX6_turn_97 (by decide) (fun c_97 => ?_) (fun c_97 => ?_)
            · skip
              refine J_iload_n E dX6_turn_108 rfl 3 rfl ?_
              exact ret _ _ _ _ ⟨by first | (rw [h1, show i = 2048 by omega] at c_97; rw [if_neg (Int32.not_lt.mpr c_97), h1, show i = 2048 by omega]) | (rw [h1, show i = 2048 by omega] at c_97; rw [if_pos (Int32.not_le.mp c_97)]), _, rfl, by first | (rw [h1, show i = 2048 by omega] at c_97; rw [if_neg (Int32.not_lt.mpr c_97)]; intro g h2 h5 h6; by_cases h0 : g = 0 <;> simp [optX, tellX, upG, up3, h0, h2, h5, h6]; done) | (rw [h1, show i = 2048 by omega] at c_97; rw [if_pos (Int32.not_le.mp c_97)]; intro g h2 h5 h6; by_cases h0 : g = 0 <;> simp [optX, tellX, upG, up3, h0, h2, h5, h6]; done)⟩ rfl dX6_turn_109
            · skip
              refine J_aload_n E dX6_turn_100 rfl 0 rfl ?_
              refine J_iconst E dX6_turn_101 ic_3 ?_
              refine J_cVi0 E (As := [.int 3]) (c_X6_finds l G b (upG (upG y 5 d) 2 z) 3 (by omega)) cl_X6_96 yo_X6_finds dX6_turn_102 rfl rfl rfl (Nat.le_of_ble_eq_true rfl) (Nat.le_of_ble_eq_true rfl) rfl (Nat.le_of_ble_eq_true rfl) ⟨Nat.zero_le _, Nat.zero_le _⟩ ?_
              refine J_top (x' := tellR 3) rfl ?_
              refine J_goto E (tgt := 109) dX6_turn_105 (by decide) ?_
              exact ret _ _ _ _ ⟨by first | (rw [h1, show i = 2048 by omega] at c_97; rw [if_neg (Int32.not_lt.mpr c_97), h1, show i = 2048 by omega]) | (rw [h1, show i = 2048 by omega] at c_97; rw [if_pos (Int32.not_le.mp c_97)]), _, rfl, by first | (rw [h1, show i = 2048 by omega] at c_97; rw [if_neg (Int32.not_lt.mpr c_97)]; intro g h2 h5 h6; by_cases h0 : g = 0 <;> simp [optX, tellX, upG, up3, h0, h2, h5, h6]; done) | (rw [h1, show i = 2048 by omega] at c_97; rw [if_pos (Int32.not_le.mp c_97)]; intro g h2 h5 h6; by_cases h0 : g = 0 <;> simp [optX, tellX, upG, up3, h0, h2, h5, h6]; done)⟩ rfl dX6_turn_109
          · skip
            have n_40 : ¬ 2047 < i := cmp_nlt (a := 2047) (b := i) (by omega) (by omega) c_40
            refine J_iload_n E dX6_turn_43 rfl 3 rfl ?_
            refine J_if_lt E (tgt := 59) dX6_turn_44 (by decide) (fun c_44 => ?_) (fun c_44 => ?_)
            · skip
              refine J_iconst E dX6_turn_59 ic_1 ?_
              refine J_goto E (tgt := 64) dX6_turn_60 (by decide) ?_
              refine J_istore E (lv' := [(5, .int 1), (0, .ref (b 0)), (1, .int v), (2, .int (nI m)), (3, .int t), (4, .int (nI i))]) dX6_turn_64 (by decide) rfl ?_
              refine J_iload E dX6_turn_66 0 rfl ?_
              refine J_if_eq E (tgt := 88) dX6_turn_68 (by decide) (fun c_68 => ?_) (fun c_68 => ?_)
              · skip
                have n_68 : 1 = 0 := cmp_eq (a := 1) (b := 0) (by omega) (by omega) c_68
                exact absurd n_68 (by decide)
              · skip
                have n_68 : ¬ 1 = 0 := cmp_ne (a := 1) (b := 0) (by omega) (by omega) c_68
                refine J_aload_n E dX6_turn_71 rfl 1 rfl ?_
                refine J_iload E dX6_turn_72 5 rfl ?_
                refine J_iload_n E dX6_turn_74 rfl 3 rfl ?_
                refine J_callVi E (As := [.int (nI i), .int (nI m)]) (q0 := 0) (ci := 5) [] [] (c_X6_dryBy l G b (upG (upG y 5 d) 2 z) (nI i) m (by omega) hok) cl_X6_194 yo_X6_dryBy dX6_turn_75 rfl rfl rfl (Nat.le_of_ble_eq_true rfl) (Nat.le_of_ble_eq_true rfl) rfl (Nat.le_of_ble_eq_true rfl) (by simp) ⟨Nat.zero_le _, Nat.zero_le _⟩ (fun vR w' hp => ?_)
                obtain ⟨rfl, d75_1, rfl⟩ := hp
                refine J_w (ws' := wM G b (upG (upG (upG (upG (upG y 5 d) 2 z) 2 (y 0)) 5 d75_1) 0 (y 0))) (List.append_nil _) ?_
                refine J_top (x' := drysR (turnRQ (y 0) (nI i)) m) rfl ?_
                refine J_iload_n E dX6_turn_78 rfl 2 rfl ?_
                refine J_iand E dX6_turn_79 ?_
                refine J_if_ne E (tgt := 88) dX6_turn_80 (by decide) (fun c_80 => ?_) (fun c_80 => ?_)
                · skip
                  refine J_iload_n E dX6_turn_88 rfl 4 rfl ?_
                  refine J_istore_n E (lv' := [(3, .int t), (5, .int 1), (0, .ref (b 0)), (1, .int v), (2, .int (nI m)), (4, .int (nI i))]) dX6_turn_89 rfl (by decide) rfl ?_
                  refine J_iinc E (lv' := [(4, .int (nI (i + 1))), (3, .int t), (5, .int 1), (0, .ref (b 0)), (1, .int v), (2, .int (nI m))]) dX6_turn_90 5 rfl (nI_inc _) (by decide) rfl ?_
                  refine J_goto E (tgt := 35) dX6_turn_93 (by decide) ?_
                  refine J_lv [3, 4, 5, 1, 0] rfl ?_
                  exact ih35 (i + 1) t d75_1 (y 0) (by omega) (by rw [h1] at *; rw [tbF]; first | rw [if_pos ⟨Or.inl c_44, c_80⟩] | rw [if_pos ⟨Or.inr c_56, c_80⟩] | rw [if_neg (fun z => c_80 z.2)] | rw [if_neg (fun z => z.1.elim c_44 c_56)]) (by omega)
                · skip
                  refine J_iload E dX6_turn_83 5 rfl ?_
                  refine J_goto E (tgt := 89) dX6_turn_85 (by decide) ?_
                  refine J_istore_n E (lv' := [(3, .int (nI i)), (5, .int 1), (0, .ref (b 0)), (1, .int v), (2, .int (nI m)), (4, .int (nI i))]) dX6_turn_89 rfl (by decide) rfl ?_
                  refine J_iinc E (lv' := [(4, .int (nI (i + 1))), (3, .int (nI i)), (5, .int 1), (0, .ref (b 0)), (1, .int v), (2, .int (nI m))]) dX6_turn_90 5 rfl (nI_inc _) (by decide) rfl ?_
                  refine J_goto E (tgt := 35) dX6_turn_93 (by decide) ?_
                  refine J_lv [3, 4, 5, 1, 0] rfl ?_
                  exact ih35 (i + 1) (nI i) d75_1 (y 0) (by omega) (by rw [h1] at *; rw [tbF]; first | rw [if_pos ⟨Or.inl c_44, c_80⟩] | rw [if_pos ⟨Or.inr c_56, c_80⟩] | rw [if_neg (fun z => c_80 z.2)] | rw [if_neg (fun z => z.1.elim c_44 c_56)]) (by omega)
            · skip
              refine J_iload E dX6_turn_47 4 rfl ?_
              refine J_cSiN E (As := [.int (nI i)]) (c_X6_ones l G (nI i) ) cl_X6_191 yo_X6_ones dX6_turn_49 rfl (Nat.le_of_ble_eq_true rfl) (Nat.le_of_ble_eq_true rfl) rfl (Nat.le_of_ble_eq_true rfl) ⟨Nat.zero_le _, Nat.zero_le _⟩ ?_
              refine J_iload_n E dX6_turn_52 rfl 3 rfl ?_
              refine J_cSiN E (As := [.int t]) (c_X6_ones l G t ) cl_X6_191 yo_X6_ones dX6_turn_53 rfl (Nat.le_of_ble_eq_true rfl) (Nat.le_of_ble_eq_true rfl) rfl (Nat.le_of_ble_eq_true rfl) ⟨Nat.zero_le _, Nat.zero_le _⟩ ?_
              refine J_icmp_ge E (tgt := 63) dX6_turn_56 (by decide) (fun c_56 => ?_) (fun c_56 => ?_)
              · skip
                refine J_iconst E dX6_turn_63 ic_0 ?_
                refine J_istore E (lv' := [(5, .int 0), (0, .ref (b 0)), (1, .int v), (2, .int (nI m)), (3, .int t), (4, .int (nI i))]) dX6_turn_64 (by decide) rfl ?_
                refine J_iload E dX6_turn_66 0 rfl ?_
                refine J_if_eq E (tgt := 88) dX6_turn_68 (by decide) (fun c_68 => ?_) (fun c_68 => ?_)
                · skip
                  have n_68 : 0 = 0 := cmp_eq (a := 0) (b := 0) (by omega) (by omega) c_68
                  refine J_iload_n E dX6_turn_88 rfl 4 rfl ?_
                  refine J_istore_n E (lv' := [(3, .int t), (5, .int 0), (0, .ref (b 0)), (1, .int v), (2, .int (nI m)), (4, .int (nI i))]) dX6_turn_89 rfl (by decide) rfl ?_
                  refine J_iinc E (lv' := [(4, .int (nI (i + 1))), (3, .int t), (5, .int 0), (0, .ref (b 0)), (1, .int v), (2, .int (nI m))]) dX6_turn_90 5 rfl (nI_inc _) (by decide) rfl ?_
                  refine J_goto E (tgt := 35) dX6_turn_93 (by decide) ?_
                  refine J_lv [3, 4, 5, 1, 0] rfl ?_
                  exact ih35 (i + 1) t d z (by omega) (by rw [h1] at *; rw [tbF]; first | rw [if_pos ⟨Or.inl c_44, c_80⟩] | rw [if_pos ⟨Or.inr c_56, c_80⟩] | rw [if_neg (fun z => c_80 z.2)] | rw [if_neg (fun z => z.1.elim c_44 c_56)]) (by omega)
                · skip
                  have n_68 : ¬ 0 = 0 := cmp_ne (a := 0) (b := 0) (by omega) (by omega) c_68
                  exact absurd n_68 (by decide)
              · skip
                refine J_iconst E dX6_turn_59 ic_1 ?_
                refine J_goto E (tgt := 64) dX6_turn_60 (by decide) ?_
                refine J_istore E (lv' := [(5, .int 1), (0, .ref (b 0)), (1, .int v), (2, .int (nI m)), (3, .int t), (4, .int (nI i))]) dX6_turn_64 (by decide) rfl ?_
                refine J_iload E dX6_turn_66 0 rfl ?_
                refine J_if_eq E (tgt := 88) dX6_turn_68 (by decide) (fun c_68 => ?_) (fun c_68 => ?_)
                · skip
                  have n_68 : 1 = 0 := cmp_eq (a := 1) (b := 0) (by omega) (by omega) c_68
                  exact absurd n_68 (by decide)
                · skip
                  have n_68 : ¬ 1 = 0 := cmp_ne (a := 1) (b := 0) (by omega) (by omega) c_68
                  refine J_aload_n E dX6_turn_71 rfl 1 rfl ?_
                  refine J_iload E dX6_turn_72 5 rfl ?_
                  refine J_iload_n E dX6_turn_74 rfl 3 rfl ?_
                  refine J_callVi E (As := [.int (nI i), .int (nI m)]) (q0 := 0) (ci := 5) [] [] (c_X6_dryBy l G b (upG (upG y 5 d) 2 z) (nI i) m (by omega) hok) cl_X6_194 yo_X6_dryBy dX6_turn_75 rfl rfl rfl (Nat.le_of_ble_eq_true rfl) (Nat.le_of_ble_eq_true rfl) rfl (Nat.le_of_ble_eq_true rfl) (by simp) ⟨Nat.zero_le _, Nat.zero_le _⟩ (fun vR w' hp => ?_)
                  obtain ⟨rfl, d75_2, rfl⟩ := hp
                  refine J_w (ws' := wM G b (upG (upG (upG (upG (upG y 5 d) 2 z) 2 (y 0)) 5 d75_2) 0 (y 0))) (List.append_nil _) ?_
                  refine J_top (x' := drysR (turnRQ (y 0) (nI i)) m) rfl ?_
                  refine J_iload_n E dX6_turn_78 rfl 2 rfl ?_
                  refine J_iand E dX6_turn_79 ?_
                  refine J_if_ne E (tgt := 88) dX6_turn_80 (by decide) (fun c_80 => ?_) (fun c_80 => ?_)
                  · skip
                    refine J_iload_n E dX6_turn_88 rfl 4 rfl ?_
                    refine J_istore_n E (lv' := [(3, .int t), (5, .int 1), (0, .ref (b 0)), (1, .int v), (2, .int (nI m)), (4, .int (nI i))]) dX6_turn_89 rfl (by decide) rfl ?_
                    refine J_iinc E (lv' := [(4, .int (nI (i + 1))), (3, .int t), (5, .int 1), (0, .ref (b 0)), (1, .int v), (2, .int (nI m))]) dX6_turn_90 5 rfl (nI_inc _) (by decide) rfl ?_
                    refine J_goto E (tgt := 35) dX6_turn_93 (by decide) ?_
                    refine J_lv [3, 4, 5, 1, 0] rfl ?_
                    exact ih35 (i + 1) t d75_2 (y 0) (by omega) (by rw [h1] at *; rw [tbF]; first | rw [if_pos ⟨Or.inl c_44, c_80⟩] | rw [if_pos ⟨Or.inr c_56, c_80⟩] | rw [if_neg (fun z => c_80 z.2)] | rw [if_neg (fun z => z.1.elim c_44 c_56)]) (by omega)
                  · skip
                    refine J_iload E dX6_turn_83 5 rfl ?_
                    refine J_goto E (tgt := 89) dX6_turn_85 (by decide) ?_
                    refine J_istore_n E (lv' := [(3, .int (nI i)), (5, .int 1), (0, .ref (b 0)), (1, .int v), (2, .int (nI m)), (4, .int (nI i))]) dX6_turn_89 rfl (by decide) rfl ?_
                    refine J_iinc E (lv' := [(4, .int (nI (i + 1))), (3, .int (nI i)), (5, .int 1), (0, .ref (b 0)), (1, .int v), (2, .int (nI m))]) dX6_turn_90 5 rfl (nI_inc _) (by decide) rfl ?_
                    refine J_goto E (tgt := 35) dX6_turn_93 (by decide) ?_
                    refine J_lv [3, 4, 5, 1, 0] rfl ?_
                    exact ih35 (i + 1) (nI i) d75_2 (y 0) (by omega) (by rw [h1] at *; rw [tbF]; first | rw [if_pos ⟨Or.inl c_44, c_80⟩] | rw [if_pos ⟨Or.inr c_56, c_80⟩] | rw [if_neg (fun z => c_80 z.2)] | rw [if_neg (fun z => z.1.elim c_44 c_56)]) (by omega)
      refine J_lv [2, 3, 4, 1, 0] rfl ?_
      exact lp35 _ 0 (-1) (y 5) (y 2) (by omega) rfl (Nat.lt_succ_self _)
    · skip
      have c_21 := bI_0 c_21
      exact absurd (inB (a := m) (b := 12) (by omega) (by decide)) c_21

set_option maxHeartbeats 4000000 in
set_option maxRecDepth 20000 in
theorem c_X6_best_bad (l : Launch) (G : GB) (b : Nat → Nat) (y : Q3) (n : Int32) (hb : ¬ (0 ≤ n ∧ n ≤ 40)) : CI l yX6_best cX6_best 6 .int 2 45 G [.ref (b 0), .int n] (wM G b y) (fun vR w' => vR = tellR 0 ∧ PubM G b (tellX y 0) w') := by
  refine CI.mk (own := RX6) (by decide) rfl (Nat.le_of_ble_eq_true rfl) ?_
  intro X E ret
  show J X G 6 0 0 (wM G b y) [(0, .ref (b 0)), (1, .int n)] 0 []
  refine J_iload_n E dX6_best_0 rfl 1 rfl ?_
  refine J_cSiN E (As := [.int n]) (c_X6_isSoon l G n ) cl_X6_176 yo_X6_isSoon dX6_best_1 rfl (Nat.le_of_ble_eq_true rfl) (Nat.le_of_ble_eq_true rfl) rfl (Nat.le_of_ble_eq_true rfl) ⟨Nat.zero_le _, Nat.zero_le _⟩ ?_
  refine J_if_ne E (tgt := 13) dX6_best_4 (by decide) (fun c_4 => ?_) (fun c_4 => ?_)
  · skip
    have c_4 := bI_1 c_4
    exact absurd c_4 hb
  · skip
    have c_4 := bI_0 c_4
    refine J_aload_n E dX6_best_7 rfl 0 rfl ?_
    refine J_iconst E dX6_best_8 ic_0 ?_
    refine J_cVi0 E (As := [.int 0]) (c_X6_finds l G b y 0 (by omega)) cl_X6_96 yo_X6_finds dX6_best_9 rfl rfl rfl (Nat.le_of_ble_eq_true rfl) (Nat.le_of_ble_eq_true rfl) rfl (Nat.le_of_ble_eq_true rfl) ⟨Nat.zero_le _, Nat.zero_le _⟩ ?_
    exact ret _ _ _ _ ⟨rfl, _, rfl, by intro g h2 h5 h6; by_cases h0 : g = 0 <;> simp [tellX, upG, up3, up3R, up2, h0, h2, h5, h6]⟩ rfl dX6_best_12

set_option maxHeartbeats 4000000 in
set_option maxRecDepth 20000 in
theorem c_X6_best_ok (l : Launch) (G : GB) (b : Nat → Nat) (y : Q3) (m : Nat) (hm : m ≤ 40) (hok : okQ (y 0))  : CI l yX6_best cX6_best 6 .int 6 137 G [.ref (b 0), .int (nI m)] (wM G b y) (fun vR w' => vR = nI (minF (fun o => onesF (drysR (turnRQ (y 0) (bitI o)) m) 11) 11).2 ∧ PubM G b y w') := by
  refine CI.mk (own := RX6) (by decide) rfl (Nat.le_of_ble_eq_true rfl) ?_
  intro X E ret
  show J X G 6 0 0 (wM G b y) [(0, .ref (b 0)), (1, .int (nI m))] 0 []
  refine J_iload_n E dX6_best_0 rfl 1 rfl ?_
  refine J_cSiN E (As := [.int (nI m)]) (c_X6_isSoon l G (nI m) ) cl_X6_176 yo_X6_isSoon dX6_best_1 rfl (Nat.le_of_ble_eq_true rfl) (Nat.le_of_ble_eq_true rfl) rfl (Nat.le_of_ble_eq_true rfl) ⟨Nat.zero_le _, Nat.zero_le _⟩ ?_
  refine J_if_ne E (tgt := 13) dX6_best_4 (by decide) (fun c_4 => ?_) (fun c_4 => ?_)
  · skip
    have c_4 := bI_1 c_4
    refine J_iconst E dX6_best_13 ic_0 ?_
    refine J_istore_n E (lv' := [(2, .int 0), (0, .ref (b 0)), (1, .int (nI m))]) dX6_best_14 rfl (by decide) rfl ?_
    refine J_bipush E dX6_best_15 bp_12 ?_
    refine J_istore_n E (lv' := [(3, .int 12), (2, .int 0), (0, .ref (b 0)), (1, .int (nI m))]) dX6_best_17 rfl (by decide) rfl ?_
    refine J_iconst E dX6_best_18 ic_0 ?_
    refine J_istore E (lv' := [(4, .int 0), (3, .int 12), (2, .int 0), (0, .ref (b 0)), (1, .int (nI m))]) dX6_best_19 (by decide) rfl ?_
    refine J_w (ws' := wM G b (upG y 5 (y 5))) (congrArg (wM G b) upG_id.symm) ?_
    have lp21 : ∀ (fu : Nat) (i : Nat) (bs : Int32) (mo : Int32) (d : Q2) (z : Q2), (i ≤ 11) → (bs = nI (minF (fun o => onesF (drysR (turnRQ (y 0) (bitI o)) m) 11) i).2) → (mo = (minF (fun o => onesF (drysR (turnRQ (y 0) (bitI o)) m) 11) i).1) → 11 - i < fu → J X G 6 0 0 (wM G b (upG (upG y 5 d) 2 z)) [(0, .ref (b 0)), (1, .int (nI m)), (2, .int bs), (3, .int mo), (4, .int (nI i))] 21 [] := by
      intro fu
      induction fu with
      | zero => intro i bs mo d z hi hb hm2 hm; exact absurd hm (Nat.not_lt_zero _)
      | succ fu ih21 =>
        intro i bs mo d z hi hb hm2 hm
        refine J_iload E dX6_best_21 4 rfl ?_
        refine J_bipush E dX6_best_23 bp_11 ?_
        refine J_icmp_ge E (tgt := 68) dX6_best_25 (by decide) (fun c_25 => ?_) (fun c_25 => ?_)
        · skip
          have n_25 : 11 ≤ i := cmp_le (a := 11) (b := i) (by omega) (by omega) c_25
          refine J_iload_n E dX6_best_68 rfl 2 rfl ?_
          exact ret _ _ _ _ ⟨by rw [hb, show i = 11 by omega], _, rfl, by intro g h2 h5 h6; by_cases h0 : g = 0 <;> simp [tellX, upG, up3, up3R, up2, h0, h2, h5, h6]⟩ rfl dX6_best_69
        · skip
          have n_25 : ¬ 11 ≤ i := cmp_nle (a := 11) (b := i) (by omega) (by omega) c_25
          refine J_aload_n E dX6_best_28 rfl 0 rfl ?_
          refine J_iconst E dX6_best_29 ic_1 ?_
          refine J_iload E dX6_best_30 4 rfl ?_
          refine J_ishl E dX6_best_32 ?_
          refine J_iload_n E dX6_best_33 rfl 1 rfl ?_
          refine J_callVi E (As := [.int (1 <<< ((nI i) &&& 31)), .int (nI m)]) (q0 := 0) (ci := 5) [] [] (c_X6_dryBy l G b (upG (upG y 5 d) 2 z) (1 <<< ((nI i) &&& 31)) m (by omega) hok) cl_X6_194 yo_X6_dryBy dX6_best_34 rfl rfl rfl (Nat.le_of_ble_eq_true rfl) (Nat.le_of_ble_eq_true rfl) rfl (Nat.le_of_ble_eq_true rfl) (by simp) ⟨Nat.zero_le _, Nat.zero_le _⟩ (fun vR w' hp => ?_)
          obtain ⟨rfl, d34_1, rfl⟩ := hp
          refine J_w (ws' := wM G b (upG (upG (upG (upG (upG y 5 d) 2 z) 2 (y 0)) 5 d34_1) 0 (y 0))) (List.append_nil _) ?_
          refine J_top (x' := drysR (turnRQ (y 0) (1 <<< ((nI i) &&& 31))) m) rfl ?_
          refine J_cSiN E (As := [.int (drysR (turnRQ (y 0) (1 <<< ((nI i) &&& 31))) m)]) (c_X6_ones l G (drysR (turnRQ (y 0) (1 <<< ((nI i) &&& 31))) m) ) cl_X6_191 yo_X6_ones dX6_best_37 rfl (Nat.le_of_ble_eq_true rfl) (Nat.le_of_ble_eq_true rfl) rfl (Nat.le_of_ble_eq_true rfl) ⟨Nat.zero_le _, Nat.zero_le _⟩ ?_
          refine J_istore E (lv' := [(5, .int (onesF (drysR (turnRQ (y 0) (1 <<< ((nI i) &&& 31))) m) 11)), (0, .ref (b 0)), (1, .int (nI m)), (2, .int bs), (3, .int mo), (4, .int (nI i))]) dX6_best_40 (by decide) rfl ?_
          refine J_iload E dX6_best_42 0 rfl ?_
          refine J_iload_n E dX6_best_44 rfl 4 rfl ?_
          refine J_icmp_ge E (tgt := 53) dX6_best_45 (by decide) (fun c_45 => ?_) (fun c_45 => ?_)
          · skip
            refine J_iload_n E dX6_best_53 rfl 3 rfl ?_
            refine J_istore_n E (lv' := [(2, .int bs), (5, .int (onesF (drysR (turnRQ (y 0) (1 <<< ((nI i) &&& 31))) m) 11)), (0, .ref (b 0)), (1, .int (nI m)), (3, .int mo), (4, .int (nI i))]) dX6_best_54 rfl (by decide) rfl ?_
            refine J_iload_n E dX6_best_55 rfl 4 rfl ?_
            refine J_iload E dX6_best_56 1 rfl ?_
            refine J_mmin E ml_X6_120 st_mmin ini_J9 co_mmin dX6_best_58 (by decide) (Nat.le_of_ble_eq_true rfl) ⟨Nat.zero_le _, Nat.zero_le _⟩ ?_
            refine J_istore_n E (lv' := [(3, .int (mn mo (onesF (drysR (turnRQ (y 0) (1 <<< ((nI i) &&& 31))) m) 11))), (2, .int bs), (5, .int (onesF (drysR (turnRQ (y 0) (1 <<< ((nI i) &&& 31))) m) 11)), (0, .ref (b 0)), (1, .int (nI m)), (4, .int (nI i))]) dX6_best_61 rfl (by decide) rfl ?_
            refine J_iinc E (lv' := [(4, .int (nI (i + 1))), (3, .int (mn mo (onesF (drysR (turnRQ (y 0) (1 <<< ((nI i) &&& 31))) m) 11))), (2, .int bs), (5, .int (onesF (drysR (turnRQ (y 0) (1 <<< ((nI i) &&& 31))) m) 11)), (0, .ref (b 0)), (1, .int (nI m))]) dX6_best_62 5 rfl (nI_inc _) (by decide) rfl ?_
            refine J_goto E (tgt := 21) dX6_best_65 (by decide) ?_
            refine J_lv [4, 5, 2, 1, 0] rfl ?_
            exact ih21 (i + 1) bs (mn mo (onesF (drysR (turnRQ (y 0) (1 <<< ((nI i) &&& 31))) m) 11)) d34_1 (y 0) (by omega) (by first | exact minF_b hm2 c_45 | (rw [hb]; exact minF_k hm2 c_45)) (minF_mn hm2) (by omega)
          · skip
            refine J_iload E dX6_best_48 5 rfl ?_
            refine J_goto E (tgt := 54) dX6_best_50 (by decide) ?_
            refine J_istore_n E (lv' := [(2, .int (nI i)), (5, .int (onesF (drysR (turnRQ (y 0) (1 <<< ((nI i) &&& 31))) m) 11)), (0, .ref (b 0)), (1, .int (nI m)), (3, .int mo), (4, .int (nI i))]) dX6_best_54 rfl (by decide) rfl ?_
            refine J_iload_n E dX6_best_55 rfl 4 rfl ?_
            refine J_iload E dX6_best_56 1 rfl ?_
            refine J_mmin E ml_X6_120 st_mmin ini_J9 co_mmin dX6_best_58 (by decide) (Nat.le_of_ble_eq_true rfl) ⟨Nat.zero_le _, Nat.zero_le _⟩ ?_
            refine J_istore_n E (lv' := [(3, .int (mn mo (onesF (drysR (turnRQ (y 0) (1 <<< ((nI i) &&& 31))) m) 11))), (2, .int (nI i)), (5, .int (onesF (drysR (turnRQ (y 0) (1 <<< ((nI i) &&& 31))) m) 11)), (0, .ref (b 0)), (1, .int (nI m)), (4, .int (nI i))]) dX6_best_61 rfl (by decide) rfl ?_
            refine J_iinc E (lv' := [(4, .int (nI (i + 1))), (3, .int (mn mo (onesF (drysR (turnRQ (y 0) (1 <<< ((nI i) &&& 31))) m) 11))), (2, .int (nI i)), (5, .int (onesF (drysR (turnRQ (y 0) (1 <<< ((nI i) &&& 31))) m) 11)), (0, .ref (b 0)), (1, .int (nI m))]) dX6_best_62 5 rfl (nI_inc _) (by decide) rfl ?_
            refine J_goto E (tgt := 21) dX6_best_65 (by decide) ?_
            refine J_lv [4, 5, 2, 1, 0] rfl ?_
            exact ih21 (i + 1) (nI i) (mn mo (onesF (drysR (turnRQ (y 0) (1 <<< ((nI i) &&& 31))) m) 11)) d34_1 (y 0) (by omega) (by first | exact minF_b hm2 c_45 | (rw [hb]; exact minF_k hm2 c_45)) (minF_mn hm2) (by omega)
    refine J_lv [3, 4, 2, 1, 0] rfl ?_
    exact lp21 _ 0 0 12 (y 5) (y 2) (by omega) rfl rfl (Nat.lt_succ_self _)
  · skip
    have c_4 := bI_0 c_4
    exact absurd (inB (a := m) (b := 40) (by omega) (by decide)) c_4

set_option maxHeartbeats 4000000 in
set_option maxRecDepth 20000 in
theorem c_X6_love_bad (l : Launch) (G : GB) (b : Nat → Nat) (y : Q3) (h n : Int32) (hb : ¬ (okH h ∧ 0 ≤ n ∧ n ≤ 40)) : CI l yX6_love cX6_love 7 .int 2 45 G [.ref (b 0), .int h, .int n] (wM G b y) (fun vR w' => vR = tellR 0 ∧ PubM G b (tellX y 0) w') := by
  refine CI.mk (own := RX6) (by decide) rfl (Nat.le_of_ble_eq_true rfl) ?_
  intro X E ret
  show J X G 7 0 0 (wM G b y) [(0, .ref (b 0)), (1, .int h), (2, .int n)] 0 []
  refine J_iload_n E dX6_love_0 rfl 1 rfl ?_
  refine J_cSiN E (As := [.int h]) (c_X6_isHouse l G h ) cl_X6_87 yo_X6_isHouse dX6_love_1 rfl (Nat.le_of_ble_eq_true rfl) (Nat.le_of_ble_eq_true rfl) rfl (Nat.le_of_ble_eq_true rfl) ⟨Nat.zero_le _, Nat.zero_le _⟩ ?_
  refine J_if_eq E (tgt := 14) dX6_love_4 (by decide) (fun c_4 => ?_) (fun c_4 => ?_)
  · skip
    have c_4 := bI_0 c_4
    refine J_aload_n E dX6_love_14 rfl 0 rfl ?_
    refine J_iconst E dX6_love_15 ic_0 ?_
    refine J_cVi0 E (As := [.int 0]) (c_X6_finds l G b y 0 (by omega)) cl_X6_96 yo_X6_finds dX6_love_16 rfl rfl rfl (Nat.le_of_ble_eq_true rfl) (Nat.le_of_ble_eq_true rfl) rfl (Nat.le_of_ble_eq_true rfl) ⟨Nat.zero_le _, Nat.zero_le _⟩ ?_
    exact ret _ _ _ _ ⟨rfl, _, rfl, by intro g h2 h5 h6; by_cases h0 : g = 0 <;> simp [tellX, upG, up3, up3R, up2, h0, h2, h5, h6]⟩ rfl dX6_love_19
  · skip
    have c_4 := bI_1 c_4
    refine J_iload_n E dX6_love_7 rfl 2 rfl ?_
    refine J_cSiN E (As := [.int n]) (c_X6_isSoon l G n ) cl_X6_176 yo_X6_isSoon dX6_love_8 rfl (Nat.le_of_ble_eq_true rfl) (Nat.le_of_ble_eq_true rfl) rfl (Nat.le_of_ble_eq_true rfl) ⟨Nat.zero_le _, Nat.zero_le _⟩ ?_
    refine J_if_ne E (tgt := 20) dX6_love_11 (by decide) (fun c_11 => ?_) (fun c_11 => ?_)
    · skip
      have c_11 := bI_1 c_11
      exact absurd ⟨c_4, c_11⟩ hb
    · skip
      have c_11 := bI_0 c_11
      refine J_aload_n E dX6_love_14 rfl 0 rfl ?_
      refine J_iconst E dX6_love_15 ic_0 ?_
      refine J_cVi0 E (As := [.int 0]) (c_X6_finds l G b y 0 (by omega)) cl_X6_96 yo_X6_finds dX6_love_16 rfl rfl rfl (Nat.le_of_ble_eq_true rfl) (Nat.le_of_ble_eq_true rfl) rfl (Nat.le_of_ble_eq_true rfl) ⟨Nat.zero_le _, Nat.zero_le _⟩ ?_
      exact ret _ _ _ _ ⟨rfl, _, rfl, by intro g h2 h5 h6; by_cases h0 : g = 0 <;> simp [tellX, upG, up3, up3R, up2, h0, h2, h5, h6]⟩ rfl dX6_love_19

set_option maxHeartbeats 4000000 in
set_option maxRecDepth 20000 in
theorem c_X6_love_ok (l : Launch) (G : GB) (b : Nat → Nat) (y : Q3) (j m : Nat) (hj : j < 11) (hm : m ≤ 40) (hok : okQ (y 0))  : CI l yX6_love cX6_love 7 .int 5 113 G [.ref (b 0), .int (nI j), .int (nI m)] (wM G b y) (fun vR w' => vR = nI (argF (fun o => hoursR (turn1 (y 0) o) m 1 j) 11).2 ∧ PubM G b y w') := by
  refine CI.mk (own := RX6) (by decide) rfl (Nat.le_of_ble_eq_true rfl) ?_
  intro X E ret
  show J X G 7 0 0 (wM G b y) [(0, .ref (b 0)), (1, .int (nI j)), (2, .int (nI m))] 0 []
  refine J_iload_n E dX6_love_0 rfl 1 rfl ?_
  refine J_cSiN E (As := [.int (nI j)]) (c_X6_isHouse l G (nI j) ) cl_X6_87 yo_X6_isHouse dX6_love_1 rfl (Nat.le_of_ble_eq_true rfl) (Nat.le_of_ble_eq_true rfl) rfl (Nat.le_of_ble_eq_true rfl) ⟨Nat.zero_le _, Nat.zero_le _⟩ ?_
  refine J_if_eq E (tgt := 14) dX6_love_4 (by decide) (fun c_4 => ?_) (fun c_4 => ?_)
  · skip
    have c_4 := bI_0 c_4
    exact absurd (inB (a := j) (b := 10) (by omega) (by decide)) c_4
  · skip
    have c_4 := bI_1 c_4
    refine J_iload_n E dX6_love_7 rfl 2 rfl ?_
    refine J_cSiN E (As := [.int (nI m)]) (c_X6_isSoon l G (nI m) ) cl_X6_176 yo_X6_isSoon dX6_love_8 rfl (Nat.le_of_ble_eq_true rfl) (Nat.le_of_ble_eq_true rfl) rfl (Nat.le_of_ble_eq_true rfl) ⟨Nat.zero_le _, Nat.zero_le _⟩ ?_
    refine J_if_ne E (tgt := 20) dX6_love_11 (by decide) (fun c_11 => ?_) (fun c_11 => ?_)
    · skip
      have c_11 := bI_1 c_11
      refine J_iconst E dX6_love_20 ic_0 ?_
      refine J_istore_n E (lv' := [(3, .int 0), (0, .ref (b 0)), (1, .int (nI j)), (2, .int (nI m))]) dX6_love_21 rfl (by decide) rfl ?_
      refine J_iconst E dX6_love_22 ic_m1 ?_
      refine J_istore E (lv' := [(4, .int (-1)), (3, .int 0), (0, .ref (b 0)), (1, .int (nI j)), (2, .int (nI m))]) dX6_love_23 (by decide) rfl ?_
      refine J_iconst E dX6_love_25 ic_0 ?_
      refine J_istore E (lv' := [(5, .int 0), (4, .int (-1)), (3, .int 0), (0, .ref (b 0)), (1, .int (nI j)), (2, .int (nI m))]) dX6_love_26 (by decide) rfl ?_
      refine J_w (ws' := wM G b (upG y 5 (y 5))) (congrArg (wM G b) upG_id.symm) ?_
      have lp28 : ∀ (fu : Nat) (i : Nat) (bs : Int32) (mo : Int32) (d : Q2) (z : Q2), (i ≤ 11) → (bs = nI (argF (fun o => hoursR (turn1 (y 0) o) m 1 j) i).2) → (mo = (argF (fun o => hoursR (turn1 (y 0) o) m 1 j) i).1) → 11 - i < fu → J X G 7 0 0 (wM G b (upG (upG y 5 d) 2 z)) [(0, .ref (b 0)), (1, .int (nI j)), (2, .int (nI m)), (3, .int bs), (4, .int mo), (5, .int (nI i))] 28 [] := by
        intro fu
        induction fu with
        | zero => intro i bs mo d z hi hb hm2 hm; exact absurd hm (Nat.not_lt_zero _)
        | succ fu ih28 =>
          intro i bs mo d z hi hb hm2 hm
          refine J_iload E dX6_love_28 5 rfl ?_
          refine J_bipush E dX6_love_30 bp_11 ?_
          refine J_icmp_ge E (tgt := 91) dX6_love_32 (by decide) (fun c_32 => ?_) (fun c_32 => ?_)
          · skip
            have n_32 : 11 ≤ i := cmp_le (a := 11) (b := i) (by omega) (by omega) c_32
            refine J_iload_n E dX6_love_91 rfl 3 rfl ?_
            exact ret _ _ _ _ ⟨by rw [hb, show i = 11 by omega], _, rfl, by intro g h2 h5 h6; by_cases h0 : g = 0 <;> simp [tellX, upG, up3, up3R, up2, h0, h2, h5, h6]⟩ rfl dX6_love_92
          · skip
            have n_32 : ¬ 11 ≤ i := cmp_nle (a := 11) (b := i) (by omega) (by omega) c_32
            refine J_aload_n E dX6_love_35 rfl 0 rfl ?_
            refine J_cVv0 E (As := []) (c_X6_lends l G b (upG (upG y 5 d) 2 z) ) cl_X6_160 yo_X6_lends dX6_love_36 rfl rfl rfl (Nat.le_of_ble_eq_true rfl) (Nat.le_of_ble_eq_true rfl) rfl (Nat.le_of_ble_eq_true rfl) ⟨Nat.zero_le _, Nat.zero_le _⟩ ?_
            refine J_aload_n E dX6_love_39 rfl 0 rfl ?_
            refine J_iload E dX6_love_40 5 rfl ?_
            refine J_cVv0 E (As := [.int (nI i)]) (c_X6_turns l G b (upG (upG (upG y 5 d) 2 z) 2 (y 0)) i (by omega)) cl_X6_186 yo_X6_turns dX6_love_42 rfl rfl rfl (Nat.le_of_ble_eq_true rfl) (Nat.le_of_ble_eq_true rfl) rfl (Nat.le_of_ble_eq_true rfl) ⟨Nat.zero_le _, Nat.zero_le _⟩ ?_
            refine J_aload_n E dX6_love_45 rfl 0 rfl ?_
            refine J_iload_n E dX6_love_46 rfl 2 rfl ?_
            refine J_callVv E (As := [.int (nI m)]) (q0 := 0) (ci := 5) [] [] (c_X6_hours l G b (upG (upG (upG (upG y 5 d) 2 z) 2 (y 0)) 0 (turn1 (y 0) i)) m (by omega) (okQ_1 hok _ (by omega))) cl_X6_144 yo_X6_hours dX6_love_47 rfl rfl rfl (Nat.le_of_ble_eq_true rfl) (Nat.le_of_ble_eq_true rfl) rfl (Nat.le_of_ble_eq_true rfl) (by simp) ⟨Nat.zero_le _, Nat.zero_le _⟩ (fun w' hp => ?_)
            obtain ⟨d47_1, rfl⟩ := hp
            refine J_w (ws' := wM G b (upG (upG (upG (upG (upG (upG y 5 d) 2 z) 2 (y 0)) 0 (turn1 (y 0) i)) 5 d47_1) 0 (hoursR (turn1 (y 0) i) m))) (List.append_nil _) ?_
            refine J_aload_n E dX6_love_50 rfl 0 rfl ?_
            refine J_iload_n E dX6_love_51 rfl 1 rfl ?_
            refine J_iconst E dX6_love_52 ic_1 ?_
            refine J_cVi0 E (As := [.int (nI j), .int 1]) (c_X6_its l G b (upG (upG (upG (upG (upG (upG y 5 d) 2 z) 2 (y 0)) 0 (turn1 (y 0) i)) 5 d47_1) 0 (hoursR (turn1 (y 0) i) m)) j 1 (by omega) (by omega)) cl_X6_64 yo_X6_its dX6_love_53 rfl rfl rfl (Nat.le_of_ble_eq_true rfl) (Nat.le_of_ble_eq_true rfl) rfl (Nat.le_of_ble_eq_true rfl) ⟨Nat.zero_le _, Nat.zero_le _⟩ ?_
            refine J_top (x' := (hoursR (turn1 (y 0) i) m) 1 j) (upG_s) ?_
            refine J_istore E (lv' := [(6, .int ((hoursR (turn1 (y 0) i) m) 1 j)), (0, .ref (b 0)), (1, .int (nI j)), (2, .int (nI m)), (3, .int bs), (4, .int mo), (5, .int (nI i))]) dX6_love_56 (by decide) rfl ?_
            refine J_aload_n E dX6_love_58 rfl 1 rfl ?_
            refine J_cVv0 E (As := []) (c_X6_laysBack l G b (upG (upG (upG (upG (upG (upG y 5 d) 2 z) 2 (y 0)) 0 (turn1 (y 0) i)) 5 d47_1) 0 (hoursR (turn1 (y 0) i) m)) ) cl_X6_163 yo_X6_laysBack dX6_love_59 rfl rfl rfl (Nat.le_of_ble_eq_true rfl) (Nat.le_of_ble_eq_true rfl) rfl (Nat.le_of_ble_eq_true rfl) ⟨Nat.zero_le _, Nat.zero_le _⟩ ?_
            refine J_iload E dX6_love_62 0 rfl ?_
            refine J_iload E dX6_love_64 5 rfl ?_
            refine J_icmp_le E (tgt := 74) dX6_love_66 (by decide) (fun c_66 => ?_) (fun c_66 => ?_)
            · skip
              refine J_iload_n E dX6_love_74 rfl 4 rfl ?_
              refine J_istore_n E (lv' := [(3, .int bs), (6, .int ((hoursR (turn1 (y 0) i) m) 1 j)), (0, .ref (b 0)), (1, .int (nI j)), (2, .int (nI m)), (4, .int mo), (5, .int (nI i))]) dX6_love_75 rfl (by decide) rfl ?_
              refine J_iload E dX6_love_76 5 rfl ?_
              refine J_iload E dX6_love_78 1 rfl ?_
              refine J_mmax E ml_X6_68 st_mmax ini_J9 co_mmax dX6_love_80 (by decide) (Nat.le_of_ble_eq_true rfl) ⟨Nat.zero_le _, Nat.zero_le _⟩ ?_
              refine J_istore E (lv' := [(4, .int (mx mo ((hoursR (turn1 (y 0) i) m) 1 j))), (3, .int bs), (6, .int ((hoursR (turn1 (y 0) i) m) 1 j)), (0, .ref (b 0)), (1, .int (nI j)), (2, .int (nI m)), (5, .int (nI i))]) dX6_love_83 (by decide) rfl ?_
              refine J_iinc E (lv' := [(5, .int (nI (i + 1))), (4, .int (mx mo ((hoursR (turn1 (y 0) i) m) 1 j))), (3, .int bs), (6, .int ((hoursR (turn1 (y 0) i) m) 1 j)), (0, .ref (b 0)), (1, .int (nI j)), (2, .int (nI m))]) dX6_love_85 6 rfl (nI_inc _) (by decide) rfl ?_
              refine J_goto E (tgt := 28) dX6_love_88 (by decide) ?_
              refine J_lv [4, 5, 6, 2, 1, 0] rfl ?_
              exact ih28 (i + 1) bs (mx mo ((hoursR (turn1 (y 0) i) m) 1 j)) d47_1 (y 0) (by omega) (by first | exact argF_b hm2 c_66 | (rw [hb]; exact argF_k hm2 c_66)) (argF_mx hm2) (by omega)
            · skip
              refine J_iload E dX6_love_69 6 rfl ?_
              refine J_goto E (tgt := 75) dX6_love_71 (by decide) ?_
              refine J_istore_n E (lv' := [(3, .int (nI i)), (6, .int ((hoursR (turn1 (y 0) i) m) 1 j)), (0, .ref (b 0)), (1, .int (nI j)), (2, .int (nI m)), (4, .int mo), (5, .int (nI i))]) dX6_love_75 rfl (by decide) rfl ?_
              refine J_iload E dX6_love_76 5 rfl ?_
              refine J_iload E dX6_love_78 1 rfl ?_
              refine J_mmax E ml_X6_68 st_mmax ini_J9 co_mmax dX6_love_80 (by decide) (Nat.le_of_ble_eq_true rfl) ⟨Nat.zero_le _, Nat.zero_le _⟩ ?_
              refine J_istore E (lv' := [(4, .int (mx mo ((hoursR (turn1 (y 0) i) m) 1 j))), (3, .int (nI i)), (6, .int ((hoursR (turn1 (y 0) i) m) 1 j)), (0, .ref (b 0)), (1, .int (nI j)), (2, .int (nI m)), (5, .int (nI i))]) dX6_love_83 (by decide) rfl ?_
              refine J_iinc E (lv' := [(5, .int (nI (i + 1))), (4, .int (mx mo ((hoursR (turn1 (y 0) i) m) 1 j))), (3, .int (nI i)), (6, .int ((hoursR (turn1 (y 0) i) m) 1 j)), (0, .ref (b 0)), (1, .int (nI j)), (2, .int (nI m))]) dX6_love_85 6 rfl (nI_inc _) (by decide) rfl ?_
              refine J_goto E (tgt := 28) dX6_love_88 (by decide) ?_
              refine J_lv [4, 5, 6, 2, 1, 0] rfl ?_
              exact ih28 (i + 1) (nI i) (mx mo ((hoursR (turn1 (y 0) i) m) 1 j)) d47_1 (y 0) (by omega) (by first | exact argF_b hm2 c_66 | (rw [hb]; exact argF_k hm2 c_66)) (argF_mx hm2) (by omega)
      refine J_lv [3, 4, 5, 2, 1, 0] rfl ?_
      exact lp28 _ 0 0 (-1) (y 5) (y 2) (by omega) rfl rfl (Nat.lt_succ_self _)
    · skip
      have c_11 := bI_0 c_11
      exact absurd (inB (a := m) (b := 40) (by omega) (by decide)) c_11

set_option maxHeartbeats 4000000 in
set_option maxRecDepth 20000 in
theorem c_X6_burst_bad (l : Launch) (G : GB) (b : Nat → Nat) (y : Q3) (h v n : Int32) (hb : ¬ (okH h ∧ (0 ≤ v ∧ v ≤ 9999) ∧ 0 ≤ n ∧ n ≤ 40)) : CI l yX6_burst cX6_burst 5 .int 2 45 G [.ref (b 0), .int h, .int v, .int n] (wM G b y) (fun vR w' => vR = tellR 0 ∧ PubM G b (tellX y 0) w') := by
  refine CI.mk (own := RX6) (by decide) rfl (Nat.le_of_ble_eq_true rfl) ?_
  intro X E ret
  show J X G 5 0 0 (wM G b y) [(0, .ref (b 0)), (1, .int h), (2, .int v), (3, .int n)] 0 []
  refine J_iload_n E dX6_burst_0 rfl 1 rfl ?_
  refine J_cSiN E (As := [.int h]) (c_X6_isHouse l G h ) cl_X6_87 yo_X6_isHouse dX6_burst_1 rfl (Nat.le_of_ble_eq_true rfl) (Nat.le_of_ble_eq_true rfl) rfl (Nat.le_of_ble_eq_true rfl) ⟨Nat.zero_le _, Nat.zero_le _⟩ ?_
  refine J_if_eq E (tgt := 26) dX6_burst_4 (by decide) (fun c_4 => ?_) (fun c_4 => ?_)
  · skip
    have c_4 := bI_0 c_4
    refine J_aload_n E dX6_burst_26 rfl 0 rfl ?_
    refine J_iconst E dX6_burst_27 ic_0 ?_
    refine J_cVi0 E (As := [.int 0]) (c_X6_finds l G b y 0 (by omega)) cl_X6_96 yo_X6_finds dX6_burst_28 rfl rfl rfl (Nat.le_of_ble_eq_true rfl) (Nat.le_of_ble_eq_true rfl) rfl (Nat.le_of_ble_eq_true rfl) ⟨Nat.zero_le _, Nat.zero_le _⟩ ?_
    exact ret _ _ _ _ ⟨rfl, _, rfl, by intro g h2 h5 h6; by_cases h0 : g = 0 <;> simp [tellX, upG, up3, up3R, up2, h0, h2, h5, h6]⟩ rfl dX6_burst_31
  · skip
    have c_4 := bI_1 c_4
    refine J_iload_n E dX6_burst_7 rfl 2 rfl ?_
    refine J_i2l E dX6_burst_8 rfl ?_
    refine J_lconst E dX6_burst_9 lc_0 ?_
    refine J_ldc2 E kl_X6_81 dX6_burst_10 ?_
    refine J_cSiN E (As := [.long (Int32.toInt64 v), .long 0, .long 9999]) (c_X6_in l G v 0 9999 0 9999 (by decide) (by decide) ) cl_X6_54 yo_X6_in dX6_burst_13 rfl (Nat.le_of_ble_eq_true rfl) (Nat.le_of_ble_eq_true rfl) rfl (Nat.le_of_ble_eq_true rfl) ⟨Nat.zero_le _, Nat.zero_le _⟩ ?_
    refine J_if_eq E (tgt := 26) dX6_burst_16 (by decide) (fun c_16 => ?_) (fun c_16 => ?_)
    · skip
      have c_16 := bI_0 c_16
      refine J_aload_n E dX6_burst_26 rfl 0 rfl ?_
      refine J_iconst E dX6_burst_27 ic_0 ?_
      refine J_cVi0 E (As := [.int 0]) (c_X6_finds l G b y 0 (by omega)) cl_X6_96 yo_X6_finds dX6_burst_28 rfl rfl rfl (Nat.le_of_ble_eq_true rfl) (Nat.le_of_ble_eq_true rfl) rfl (Nat.le_of_ble_eq_true rfl) ⟨Nat.zero_le _, Nat.zero_le _⟩ ?_
      exact ret _ _ _ _ ⟨rfl, _, rfl, by intro g h2 h5 h6; by_cases h0 : g = 0 <;> simp [tellX, upG, up3, up3R, up2, h0, h2, h5, h6]⟩ rfl dX6_burst_31
    · skip
      have c_16 := bI_1 c_16
      refine J_iload_n E dX6_burst_19 rfl 3 rfl ?_
      refine J_cSiN E (As := [.int n]) (c_X6_isSoon l G n ) cl_X6_176 yo_X6_isSoon dX6_burst_20 rfl (Nat.le_of_ble_eq_true rfl) (Nat.le_of_ble_eq_true rfl) rfl (Nat.le_of_ble_eq_true rfl) ⟨Nat.zero_le _, Nat.zero_le _⟩ ?_
      refine J_if_ne E (tgt := 32) dX6_burst_23 (by decide) (fun c_23 => ?_) (fun c_23 => ?_)
      · skip
        have c_23 := bI_1 c_23
        exact absurd ⟨c_4, c_16, c_23⟩ hb
      · skip
        have c_23 := bI_0 c_23
        refine J_aload_n E dX6_burst_26 rfl 0 rfl ?_
        refine J_iconst E dX6_burst_27 ic_0 ?_
        refine J_cVi0 E (As := [.int 0]) (c_X6_finds l G b y 0 (by omega)) cl_X6_96 yo_X6_finds dX6_burst_28 rfl rfl rfl (Nat.le_of_ble_eq_true rfl) (Nat.le_of_ble_eq_true rfl) rfl (Nat.le_of_ble_eq_true rfl) ⟨Nat.zero_le _, Nat.zero_le _⟩ ?_
        exact ret _ _ _ _ ⟨rfl, _, rfl, by intro g h2 h5 h6; by_cases h0 : g = 0 <;> simp [tellX, upG, up3, up3R, up2, h0, h2, h5, h6]⟩ rfl dX6_burst_31

set_option maxHeartbeats 4000000 in
set_option maxRecDepth 20000 in
theorem c_X6_burst_ok (l : Launch) (G : GB) (b : Nat → Nat) (y : Q3) (j : Nat) (v : Int32) (m : Nat) (hj : j < 11) (hv : 0 ≤ v ∧ v ≤ 9999) (hm : m ≤ 40) (hok : okQ (y 0))  : CI l yX6_burst cX6_burst 5 .int 6 135 G [.ref (b 0), .int (nI j), .int v, .int (nI m)] (wM G b y) (fun vR w' => vR = hoursR (comesR (y 0) j v) m 7 3 - hoursR (y 0) m 7 3 ∧ PubM G b y w') := by
  refine CI.mk (own := RX6) (by decide) rfl (Nat.le_of_ble_eq_true rfl) ?_
  intro X E ret
  show J X G 5 0 0 (wM G b y) [(0, .ref (b 0)), (1, .int (nI j)), (2, .int v), (3, .int (nI m))] 0 []
  refine J_iload_n E dX6_burst_0 rfl 1 rfl ?_
  refine J_cSiN E (As := [.int (nI j)]) (c_X6_isHouse l G (nI j) ) cl_X6_87 yo_X6_isHouse dX6_burst_1 rfl (Nat.le_of_ble_eq_true rfl) (Nat.le_of_ble_eq_true rfl) rfl (Nat.le_of_ble_eq_true rfl) ⟨Nat.zero_le _, Nat.zero_le _⟩ ?_
  refine J_if_eq E (tgt := 26) dX6_burst_4 (by decide) (fun c_4 => ?_) (fun c_4 => ?_)
  · skip
    have c_4 := bI_0 c_4
    exact absurd (inB (a := j) (b := 10) (by omega) (by decide)) c_4
  · skip
    have c_4 := bI_1 c_4
    refine J_iload_n E dX6_burst_7 rfl 2 rfl ?_
    refine J_i2l E dX6_burst_8 rfl ?_
    refine J_lconst E dX6_burst_9 lc_0 ?_
    refine J_ldc2 E kl_X6_81 dX6_burst_10 ?_
    refine J_cSiN E (As := [.long (Int32.toInt64 v), .long 0, .long 9999]) (c_X6_in l G v 0 9999 0 9999 (by decide) (by decide) ) cl_X6_54 yo_X6_in dX6_burst_13 rfl (Nat.le_of_ble_eq_true rfl) (Nat.le_of_ble_eq_true rfl) rfl (Nat.le_of_ble_eq_true rfl) ⟨Nat.zero_le _, Nat.zero_le _⟩ ?_
    refine J_if_eq E (tgt := 26) dX6_burst_16 (by decide) (fun c_16 => ?_) (fun c_16 => ?_)
    · skip
      have c_16 := bI_0 c_16
      exact absurd (by assumption) c_16
    · skip
      have c_16 := bI_1 c_16
      refine J_iload_n E dX6_burst_19 rfl 3 rfl ?_
      refine J_cSiN E (As := [.int (nI m)]) (c_X6_isSoon l G (nI m) ) cl_X6_176 yo_X6_isSoon dX6_burst_20 rfl (Nat.le_of_ble_eq_true rfl) (Nat.le_of_ble_eq_true rfl) rfl (Nat.le_of_ble_eq_true rfl) ⟨Nat.zero_le _, Nat.zero_le _⟩ ?_
      refine J_if_ne E (tgt := 32) dX6_burst_23 (by decide) (fun c_23 => ?_) (fun c_23 => ?_)
      · skip
        have c_23 := bI_1 c_23
        refine J_aload_n E dX6_burst_32 rfl 0 rfl ?_
        refine J_cVv0 E (As := []) (c_X6_lends l G b y ) cl_X6_160 yo_X6_lends dX6_burst_33 rfl rfl rfl (Nat.le_of_ble_eq_true rfl) (Nat.le_of_ble_eq_true rfl) rfl (Nat.le_of_ble_eq_true rfl) ⟨Nat.zero_le _, Nat.zero_le _⟩ ?_
        refine J_aload_n E dX6_burst_36 rfl 0 rfl ?_
        refine J_iload_n E dX6_burst_37 rfl 3 rfl ?_
        refine J_callVi E (As := [.int (nI m)]) (q0 := 0) (ci := 5) [] [] (c_X6_alleyIn l G b (upG y 2 (y 0)) m (by omega) hok) cl_X6_166 yo_X6_alleyIn dX6_burst_38 rfl rfl rfl (Nat.le_of_ble_eq_true rfl) (Nat.le_of_ble_eq_true rfl) rfl (Nat.le_of_ble_eq_true rfl) (by simp) ⟨Nat.zero_le _, Nat.zero_le _⟩ (fun vR w' hp => ?_)
        obtain ⟨rfl, d38_1, rfl⟩ := hp
        refine J_w (ws' := wM G b (upG (upG (upG y 2 (y 0)) 5 d38_1) 0 (y 0))) (List.append_nil _) ?_
        refine J_top (x' := hoursR (y 0) m 7 3) rfl ?_
        refine J_istore E (lv' := [(4, .int (hoursR (y 0) m 7 3)), (0, .ref (b 0)), (1, .int (nI j)), (2, .int v), (3, .int (nI m))]) dX6_burst_41 (by decide) rfl ?_
        refine J_aload_n E dX6_burst_43 rfl 1 rfl ?_
        refine J_cVv0 E (As := []) (c_X6_lends l G b (upG (upG (upG y 2 (y 0)) 5 d38_1) 0 (y 0)) ) cl_X6_160 yo_X6_lends dX6_burst_44 rfl rfl rfl (Nat.le_of_ble_eq_true rfl) (Nat.le_of_ble_eq_true rfl) rfl (Nat.le_of_ble_eq_true rfl) ⟨Nat.zero_le _, Nat.zero_le _⟩ ?_
        refine J_aload_n E dX6_burst_47 rfl 1 rfl ?_
        refine J_iload_n E dX6_burst_48 rfl 2 rfl ?_
        refine J_iload_n E dX6_burst_49 rfl 3 rfl ?_
        refine J_cVv0 E (As := [.int (nI j), .int v]) (c_X6_comes l G b (upG (upG (upG (upG y 2 (y 0)) 5 d38_1) 0 (y 0)) 2 (y 0)) j (by omega) v ) cl_X6_127 yo_X6_comes dX6_burst_50 rfl rfl rfl (Nat.le_of_ble_eq_true rfl) (Nat.le_of_ble_eq_true rfl) rfl (Nat.le_of_ble_eq_true rfl) ⟨Nat.zero_le _, Nat.zero_le _⟩ ?_
        refine J_aload_n E dX6_burst_53 rfl 1 rfl ?_
        refine J_iload_n E dX6_burst_54 rfl 4 rfl ?_
        refine J_callVi E (As := [.int (nI m)]) (q0 := 0) (ci := 5) [] [] (c_X6_alleyIn l G b (upG (upG (upG (upG (upG y 2 (y 0)) 5 d38_1) 0 (y 0)) 2 (y 0)) 0 (comesR (y 0) j v)) m (by omega) (okQ_com hok _ _)) cl_X6_166 yo_X6_alleyIn dX6_burst_55 rfl rfl rfl (Nat.le_of_ble_eq_true rfl) (Nat.le_of_ble_eq_true rfl) rfl (Nat.le_of_ble_eq_true rfl) (by simp) ⟨Nat.zero_le _, Nat.zero_le _⟩ (fun vR w' hp => ?_)
        obtain ⟨rfl, d55_2, rfl⟩ := hp
        refine J_w (ws' := wM G b (upG (upG (upG (upG (upG (upG (upG y 2 (y 0)) 5 d38_1) 0 (y 0)) 2 (y 0)) 0 (comesR (y 0) j v)) 5 d55_2) 0 (y 0))) (List.append_nil _) ?_
        refine J_top (x' := hoursR (comesR (y 0) j v) m 7 3) rfl ?_
        refine J_iload E dX6_burst_58 0 rfl ?_
        refine J_isub E dX6_burst_60 ?_
        exact ret _ _ _ _ ⟨rfl, _, rfl, by intro g h2 h5 h6; by_cases h0 : g = 0 <;> simp [tellX, upG, up3, up3R, up2, h0, h2, h5, h6]⟩ rfl dX6_burst_61
      · skip
        have c_23 := bI_0 c_23
        exact absurd (inB (a := m) (b := 40) (by omega) (by decide)) c_23
def soF (f : Nat → Int32) (j : Nat) (q : Q2) : Nat → Bool
  | 0 => true
  | n + 1 => soF f j q n && decide (f n = -1 ∨ f n = hoursR q n 1 j)
def showR (q : Q2) : Nat → Q2
  | 0 => q
  | n + 1 => hourR0 (rainD (showR q n))
def showRN (q : Q2) : Nat → Int32
  | 0 => 0
  | n + 1 => if dryR (rainD (showR q n)) = 0 then showRN q n else showRN q n + 1
theorem okQ_rain {q : Q2} (h : okQ q) : okQ (rainD q) := okQ_c h (by simp [rainD, up2]) (rainD_4 q)
theorem okQ_show {q : Q2} (h : okQ q) : ∀ n, okQ (showR q n)
  | 0 => h
  | n + 1 => okQ_h (okQ_rain (okQ_show h n))
def okS (q : Q2) : Prop := ∀ j, j < 10 → q 6 j = -1 ∨ ∃ w : Nat, w < 11 ∧ q 6 j = nI w
theorem le_pred {i : Int32} {n : Nat} (hn : n ≤ 40) : (0 ≤ i ∧ i ≤ nI n - 1) ↔ (0 ≤ i ∧ i < nI n) := by
  constructor
  · rintro ⟨h1, h2⟩
    refine ⟨h1, ?_⟩
    cases n with
    | zero => exact absurd (Int32.le_trans h1 h2) (by decide)
    | succ m =>
      rw [nI_pred] at h2
      exact Int32.lt_of_le_of_lt h2 (nI_lt (by omega) (by omega))
  · rintro ⟨h1, h2⟩
    refine ⟨h1, ?_⟩
    obtain ⟨k, hk, e⟩ := nI_of (x := i) (Int32.not_lt.mpr h1)
    rw [e] at h2 ⊢
    have := cmp_lt (by omega) (by omega) h2
    rw [show n = (n - 1) + 1 by omega, nI_pred]
    exact nI_le (by omega) (by omega)
theorem upR_upR {q : Q2} {r : Nat} {f g : Nat → Int32} : upR (upR q r f) r g = upR q r g := by
  funext r'
  by_cases h : r' = r
  · simp [upR, h]
  · simp [upR, h]
def countM (x : Q3) (k : Nat) : Int32 := if k = 0 then x 0 7 0 else if k = 1 then cntF (fun j => decide (¬ x 0 0 j = 0)) 11 else if k = 2 then onesF (setF (fun j => decide (0 < x 0 5 j)) 11) 11 else if k = 3 then sumF (x 0 1) 11 else if k = 4 then x 0 7 3 else if k = 5 then x 7 1 0 else if k = 6 then x 0 7 1 else cntF (fun j => decide (¬ x 0 6 j = -1)) 10
theorem lN_mul (a b : Nat) : lN a * lN b = lN (a * b) := (Int64.ofNat_mul a b).symm
theorem pow_b {ab n : Nat} (h : ab ≤ 100) (hn : n ≤ 9) : ab ^ n ≤ 10 ^ 18 := Nat.le_trans (Nat.pow_le_pow_left h n) (Nat.le_trans (Nat.pow_le_pow_right (by decide) hn) (by decide))
section MRW
variable {X : JX} {l : Launch} {G : GB} {nL kc ks pc : Nat} {lv : List (Nat × Value)} {st : List Value} {b : Nat → Nat} {y : Q3}

theorem J_mr8 {r : Q2} {f : Nat → Int32} (h0 : ∀ j, j < 40 → r 0 j = f j) (K : J X G nL kc ks (wM G b (upG y 8 (upR r 0 f))) lv pc st) : J X G nL kc ks (wM G b (upG y 8 r)) lv pc st := by
  refine J_arr (g := fun k => pick4 (k / 40) (f (k % 40)) (y 9 0 (k % 40)) (y 10 0 (k % 40)) (y 11 0 (k % 40))) 10 rfl (fun k hk => ?_) (J_w rfl K)
  show pick4 (k / 40) (r 0 (k % 40)) (y 9 0 (k % 40)) (y 10 0 (k % 40)) (y 11 0 (k % 40)) = pick4 (k / 40) (f (k % 40)) (y 9 0 (k % 40)) (y 10 0 (k % 40)) (y 11 0 (k % 40))
  rw [h0 _ (Nat.mod_lt _ (by decide))]
theorem J_mr9 {r : Q2} {f : Nat → Int32} (h0 : ∀ j, j < 40 → r 0 j = f j) (K : J X G nL kc ks (wM G b (upG y 9 (upR r 0 f))) lv pc st) : J X G nL kc ks (wM G b (upG y 9 r)) lv pc st := by
  refine J_arr (g := fun k => pick4 (k / 40) (y 8 0 (k % 40)) (f (k % 40)) (y 10 0 (k % 40)) (y 11 0 (k % 40))) 10 rfl (fun k hk => ?_) (J_w rfl K)
  show pick4 (k / 40) (y 8 0 (k % 40)) (r 0 (k % 40)) (y 10 0 (k % 40)) (y 11 0 (k % 40)) = pick4 (k / 40) (y 8 0 (k % 40)) (f (k % 40)) (y 10 0 (k % 40)) (y 11 0 (k % 40))
  rw [h0 _ (Nat.mod_lt _ (by decide))]
theorem J_mr10 {r : Q2} {f : Nat → Int32} (h0 : ∀ j, j < 40 → r 0 j = f j) (K : J X G nL kc ks (wM G b (upG y 10 (upR r 0 f))) lv pc st) : J X G nL kc ks (wM G b (upG y 10 r)) lv pc st := by
  refine J_arr (g := fun k => pick4 (k / 40) (y 8 0 (k % 40)) (y 9 0 (k % 40)) (f (k % 40)) (y 11 0 (k % 40))) 10 rfl (fun k hk => ?_) (J_w rfl K)
  show pick4 (k / 40) (y 8 0 (k % 40)) (y 9 0 (k % 40)) (r 0 (k % 40)) (y 11 0 (k % 40)) = pick4 (k / 40) (y 8 0 (k % 40)) (y 9 0 (k % 40)) (f (k % 40)) (y 11 0 (k % 40))
  rw [h0 _ (Nat.mod_lt _ (by decide))]
theorem J_mr11 {r : Q2} {f : Nat → Int32} (h0 : ∀ j, j < 40 → r 0 j = f j) (K : J X G nL kc ks (wM G b (upG y 11 (upR r 0 f))) lv pc st) : J X G nL kc ks (wM G b (upG y 11 r)) lv pc st := by
  refine J_arr (g := fun k => pick4 (k / 40) (y 8 0 (k % 40)) (y 9 0 (k % 40)) (y 10 0 (k % 40)) (f (k % 40))) 10 rfl (fun k hk => ?_) (J_w rfl K)
  show pick4 (k / 40) (y 8 0 (k % 40)) (y 9 0 (k % 40)) (y 10 0 (k % 40)) (r 0 (k % 40)) = pick4 (k / 40) (y 8 0 (k % 40)) (y 9 0 (k % 40)) (y 10 0 (k % 40)) (f (k % 40))
  rw [h0 _ (Nat.mod_lt _ (by decide))]
end MRW
set_option maxHeartbeats 4000000 in
set_option maxRecDepth 20000 in
theorem c_X6_lacks_out (l : Launch) (G : GB) (b : Nat → Nat) (y : Q3) (s : Int32) (hs : ¬ (0 ≤ s ∧ s ≤ 3)) : CI l yX6_lacks cX6_lacks 2 .int 2 45 G [.ref (b 0), .int s] (wM G b y) (fun vR w' => vR = 0 ∧ w' = wM G b y) := by
  refine CI.mk (own := RX6) (by decide) rfl (Nat.le_of_ble_eq_true rfl) ?_
  intro X E ret
  show J X G 2 0 0 (wM G b y) [(0, .ref (b 0)), (1, .int s)] 0 []
  refine J_iload_n E dX6_lacks_0 rfl 1 rfl ?_
  refine J_cSiN E (As := [.int s]) (c_X6_isSheet l G s ) cl_X6_303 yo_X6_isSheet dX6_lacks_1 rfl (Nat.le_of_ble_eq_true rfl) (Nat.le_of_ble_eq_true rfl) rfl (Nat.le_of_ble_eq_true rfl) ⟨Nat.zero_le _, Nat.zero_le _⟩ ?_
  refine J_if_ne E (tgt := 11) dX6_lacks_4 (by decide) (fun c_4 => ?_) (fun c_4 => ?_)
  · skip
    have c_4 := bI_1 c_4
    exact absurd c_4 hs
  · skip
    have c_4 := bI_0 c_4
    refine J_iconst E dX6_lacks_7 ic_0 ?_
    refine J_goto E (tgt := 25) dX6_lacks_8 (by decide) ?_
    exact ret _ _ _ _ ⟨rfl, (congrArg (wM G b) (rfl))⟩ rfl dX6_lacks_25

set_option maxHeartbeats 4000000 in
set_option maxRecDepth 20000 in
theorem c_X6_lacks_0_0 (l : Launch) (G : GB) (b : Nat → Nat) (y : Q3) (hb : y 8 1 0 = 0) : CI l yX6_lacks cX6_lacks 2 .int 2 45 G [.ref (b 0), .int (nI 0)] (wM G b y) (fun vR w' => vR = 5 ∧ w' = wM G b y) := by
  refine CI.mk (own := RX6) (by decide) rfl (Nat.le_of_ble_eq_true rfl) ?_
  intro X E ret
  show J X G 2 0 0 (wM G b y) [(0, .ref (b 0)), (1, .int (nI 0))] 0 []
  refine J_iload_n E dX6_lacks_0 rfl 1 rfl ?_
  refine J_cSiN E (As := [.int (nI 0)]) (c_X6_isSheet l G (nI 0) ) cl_X6_303 yo_X6_isSheet dX6_lacks_1 rfl (Nat.le_of_ble_eq_true rfl) (Nat.le_of_ble_eq_true rfl) rfl (Nat.le_of_ble_eq_true rfl) ⟨Nat.zero_le _, Nat.zero_le _⟩ ?_
  refine J_if_ne E (tgt := 11) dX6_lacks_4 (by decide) (fun c_4 => ?_) (fun c_4 => ?_)
  · skip
    have c_4 := bI_1 c_4
    refine J_aload_n E dX6_lacks_11 rfl 0 rfl ?_
    refine gM0_X6_31 E dX6_lacks_12 ?_
    refine J_iload_n E dX6_lacks_15 rfl 1 rfl ?_
    refine lMb_0 E  dX6_lacks_16 ?_
    refine J_if_ne E (tgt := 24) dX6_lacks_17 (by decide) (fun c_17 => ?_) (fun c_17 => ?_)
    · skip
      exact absurd hb c_17
    · skip
      refine J_iconst E dX6_lacks_20 ic_5 ?_
      refine J_goto E (tgt := 25) dX6_lacks_21 (by decide) ?_
      exact ret _ _ _ _ ⟨rfl, (congrArg (wM G b) (rfl))⟩ rfl dX6_lacks_25
  · skip
    have c_4 := bI_0 c_4
    exact absurd (in3 (by decide)) c_4

set_option maxHeartbeats 4000000 in
set_option maxRecDepth 20000 in
theorem c_X6_lacks_0_1 (l : Launch) (G : GB) (b : Nat → Nat) (y : Q3) (hb : ¬ y 8 1 0 = 0) : CI l yX6_lacks cX6_lacks 2 .int 2 45 G [.ref (b 0), .int (nI 0)] (wM G b y) (fun vR w' => vR = (-1) ∧ w' = wM G b y) := by
  refine CI.mk (own := RX6) (by decide) rfl (Nat.le_of_ble_eq_true rfl) ?_
  intro X E ret
  show J X G 2 0 0 (wM G b y) [(0, .ref (b 0)), (1, .int (nI 0))] 0 []
  refine J_iload_n E dX6_lacks_0 rfl 1 rfl ?_
  refine J_cSiN E (As := [.int (nI 0)]) (c_X6_isSheet l G (nI 0) ) cl_X6_303 yo_X6_isSheet dX6_lacks_1 rfl (Nat.le_of_ble_eq_true rfl) (Nat.le_of_ble_eq_true rfl) rfl (Nat.le_of_ble_eq_true rfl) ⟨Nat.zero_le _, Nat.zero_le _⟩ ?_
  refine J_if_ne E (tgt := 11) dX6_lacks_4 (by decide) (fun c_4 => ?_) (fun c_4 => ?_)
  · skip
    have c_4 := bI_1 c_4
    refine J_aload_n E dX6_lacks_11 rfl 0 rfl ?_
    refine gM0_X6_31 E dX6_lacks_12 ?_
    refine J_iload_n E dX6_lacks_15 rfl 1 rfl ?_
    refine lMb_0 E  dX6_lacks_16 ?_
    refine J_if_ne E (tgt := 24) dX6_lacks_17 (by decide) (fun c_17 => ?_) (fun c_17 => ?_)
    · skip
      refine J_iconst E dX6_lacks_24 ic_m1 ?_
      exact ret _ _ _ _ ⟨rfl, (congrArg (wM G b) (rfl))⟩ rfl dX6_lacks_25
    · skip
      exact absurd c_17 hb
  · skip
    have c_4 := bI_0 c_4
    exact absurd (in3 (by decide)) c_4

set_option maxHeartbeats 4000000 in
set_option maxRecDepth 20000 in
theorem c_X6_lacks_1_0 (l : Launch) (G : GB) (b : Nat → Nat) (y : Q3) (hb : y 9 1 0 = 0) : CI l yX6_lacks cX6_lacks 2 .int 2 45 G [.ref (b 0), .int (nI 1)] (wM G b y) (fun vR w' => vR = 5 ∧ w' = wM G b y) := by
  refine CI.mk (own := RX6) (by decide) rfl (Nat.le_of_ble_eq_true rfl) ?_
  intro X E ret
  show J X G 2 0 0 (wM G b y) [(0, .ref (b 0)), (1, .int (nI 1))] 0 []
  refine J_iload_n E dX6_lacks_0 rfl 1 rfl ?_
  refine J_cSiN E (As := [.int (nI 1)]) (c_X6_isSheet l G (nI 1) ) cl_X6_303 yo_X6_isSheet dX6_lacks_1 rfl (Nat.le_of_ble_eq_true rfl) (Nat.le_of_ble_eq_true rfl) rfl (Nat.le_of_ble_eq_true rfl) ⟨Nat.zero_le _, Nat.zero_le _⟩ ?_
  refine J_if_ne E (tgt := 11) dX6_lacks_4 (by decide) (fun c_4 => ?_) (fun c_4 => ?_)
  · skip
    have c_4 := bI_1 c_4
    refine J_aload_n E dX6_lacks_11 rfl 0 rfl ?_
    refine gM0_X6_31 E dX6_lacks_12 ?_
    refine J_iload_n E dX6_lacks_15 rfl 1 rfl ?_
    refine lMb_1 E  dX6_lacks_16 ?_
    refine J_if_ne E (tgt := 24) dX6_lacks_17 (by decide) (fun c_17 => ?_) (fun c_17 => ?_)
    · skip
      exact absurd hb c_17
    · skip
      refine J_iconst E dX6_lacks_20 ic_5 ?_
      refine J_goto E (tgt := 25) dX6_lacks_21 (by decide) ?_
      exact ret _ _ _ _ ⟨rfl, (congrArg (wM G b) (rfl))⟩ rfl dX6_lacks_25
  · skip
    have c_4 := bI_0 c_4
    exact absurd (in3 (by decide)) c_4

set_option maxHeartbeats 4000000 in
set_option maxRecDepth 20000 in
theorem c_X6_lacks_1_1 (l : Launch) (G : GB) (b : Nat → Nat) (y : Q3) (hb : ¬ y 9 1 0 = 0) : CI l yX6_lacks cX6_lacks 2 .int 2 45 G [.ref (b 0), .int (nI 1)] (wM G b y) (fun vR w' => vR = (-1) ∧ w' = wM G b y) := by
  refine CI.mk (own := RX6) (by decide) rfl (Nat.le_of_ble_eq_true rfl) ?_
  intro X E ret
  show J X G 2 0 0 (wM G b y) [(0, .ref (b 0)), (1, .int (nI 1))] 0 []
  refine J_iload_n E dX6_lacks_0 rfl 1 rfl ?_
  refine J_cSiN E (As := [.int (nI 1)]) (c_X6_isSheet l G (nI 1) ) cl_X6_303 yo_X6_isSheet dX6_lacks_1 rfl (Nat.le_of_ble_eq_true rfl) (Nat.le_of_ble_eq_true rfl) rfl (Nat.le_of_ble_eq_true rfl) ⟨Nat.zero_le _, Nat.zero_le _⟩ ?_
  refine J_if_ne E (tgt := 11) dX6_lacks_4 (by decide) (fun c_4 => ?_) (fun c_4 => ?_)
  · skip
    have c_4 := bI_1 c_4
    refine J_aload_n E dX6_lacks_11 rfl 0 rfl ?_
    refine gM0_X6_31 E dX6_lacks_12 ?_
    refine J_iload_n E dX6_lacks_15 rfl 1 rfl ?_
    refine lMb_1 E  dX6_lacks_16 ?_
    refine J_if_ne E (tgt := 24) dX6_lacks_17 (by decide) (fun c_17 => ?_) (fun c_17 => ?_)
    · skip
      refine J_iconst E dX6_lacks_24 ic_m1 ?_
      exact ret _ _ _ _ ⟨rfl, (congrArg (wM G b) (rfl))⟩ rfl dX6_lacks_25
    · skip
      exact absurd c_17 hb
  · skip
    have c_4 := bI_0 c_4
    exact absurd (in3 (by decide)) c_4

set_option maxHeartbeats 4000000 in
set_option maxRecDepth 20000 in
theorem c_X6_lacks_2_0 (l : Launch) (G : GB) (b : Nat → Nat) (y : Q3) (hb : y 10 1 0 = 0) : CI l yX6_lacks cX6_lacks 2 .int 2 45 G [.ref (b 0), .int (nI 2)] (wM G b y) (fun vR w' => vR = 5 ∧ w' = wM G b y) := by
  refine CI.mk (own := RX6) (by decide) rfl (Nat.le_of_ble_eq_true rfl) ?_
  intro X E ret
  show J X G 2 0 0 (wM G b y) [(0, .ref (b 0)), (1, .int (nI 2))] 0 []
  refine J_iload_n E dX6_lacks_0 rfl 1 rfl ?_
  refine J_cSiN E (As := [.int (nI 2)]) (c_X6_isSheet l G (nI 2) ) cl_X6_303 yo_X6_isSheet dX6_lacks_1 rfl (Nat.le_of_ble_eq_true rfl) (Nat.le_of_ble_eq_true rfl) rfl (Nat.le_of_ble_eq_true rfl) ⟨Nat.zero_le _, Nat.zero_le _⟩ ?_
  refine J_if_ne E (tgt := 11) dX6_lacks_4 (by decide) (fun c_4 => ?_) (fun c_4 => ?_)
  · skip
    have c_4 := bI_1 c_4
    refine J_aload_n E dX6_lacks_11 rfl 0 rfl ?_
    refine gM0_X6_31 E dX6_lacks_12 ?_
    refine J_iload_n E dX6_lacks_15 rfl 1 rfl ?_
    refine lMb_2 E  dX6_lacks_16 ?_
    refine J_if_ne E (tgt := 24) dX6_lacks_17 (by decide) (fun c_17 => ?_) (fun c_17 => ?_)
    · skip
      exact absurd hb c_17
    · skip
      refine J_iconst E dX6_lacks_20 ic_5 ?_
      refine J_goto E (tgt := 25) dX6_lacks_21 (by decide) ?_
      exact ret _ _ _ _ ⟨rfl, (congrArg (wM G b) (rfl))⟩ rfl dX6_lacks_25
  · skip
    have c_4 := bI_0 c_4
    exact absurd (in3 (by decide)) c_4

set_option maxHeartbeats 4000000 in
set_option maxRecDepth 20000 in
theorem c_X6_lacks_2_1 (l : Launch) (G : GB) (b : Nat → Nat) (y : Q3) (hb : ¬ y 10 1 0 = 0) : CI l yX6_lacks cX6_lacks 2 .int 2 45 G [.ref (b 0), .int (nI 2)] (wM G b y) (fun vR w' => vR = (-1) ∧ w' = wM G b y) := by
  refine CI.mk (own := RX6) (by decide) rfl (Nat.le_of_ble_eq_true rfl) ?_
  intro X E ret
  show J X G 2 0 0 (wM G b y) [(0, .ref (b 0)), (1, .int (nI 2))] 0 []
  refine J_iload_n E dX6_lacks_0 rfl 1 rfl ?_
  refine J_cSiN E (As := [.int (nI 2)]) (c_X6_isSheet l G (nI 2) ) cl_X6_303 yo_X6_isSheet dX6_lacks_1 rfl (Nat.le_of_ble_eq_true rfl) (Nat.le_of_ble_eq_true rfl) rfl (Nat.le_of_ble_eq_true rfl) ⟨Nat.zero_le _, Nat.zero_le _⟩ ?_
  refine J_if_ne E (tgt := 11) dX6_lacks_4 (by decide) (fun c_4 => ?_) (fun c_4 => ?_)
  · skip
    have c_4 := bI_1 c_4
    refine J_aload_n E dX6_lacks_11 rfl 0 rfl ?_
    refine gM0_X6_31 E dX6_lacks_12 ?_
    refine J_iload_n E dX6_lacks_15 rfl 1 rfl ?_
    refine lMb_2 E  dX6_lacks_16 ?_
    refine J_if_ne E (tgt := 24) dX6_lacks_17 (by decide) (fun c_17 => ?_) (fun c_17 => ?_)
    · skip
      refine J_iconst E dX6_lacks_24 ic_m1 ?_
      exact ret _ _ _ _ ⟨rfl, (congrArg (wM G b) (rfl))⟩ rfl dX6_lacks_25
    · skip
      exact absurd c_17 hb
  · skip
    have c_4 := bI_0 c_4
    exact absurd (in3 (by decide)) c_4

set_option maxHeartbeats 4000000 in
set_option maxRecDepth 20000 in
theorem c_X6_lacks_3_0 (l : Launch) (G : GB) (b : Nat → Nat) (y : Q3) (hb : y 11 1 0 = 0) : CI l yX6_lacks cX6_lacks 2 .int 2 45 G [.ref (b 0), .int (nI 3)] (wM G b y) (fun vR w' => vR = 5 ∧ w' = wM G b y) := by
  refine CI.mk (own := RX6) (by decide) rfl (Nat.le_of_ble_eq_true rfl) ?_
  intro X E ret
  show J X G 2 0 0 (wM G b y) [(0, .ref (b 0)), (1, .int (nI 3))] 0 []
  refine J_iload_n E dX6_lacks_0 rfl 1 rfl ?_
  refine J_cSiN E (As := [.int (nI 3)]) (c_X6_isSheet l G (nI 3) ) cl_X6_303 yo_X6_isSheet dX6_lacks_1 rfl (Nat.le_of_ble_eq_true rfl) (Nat.le_of_ble_eq_true rfl) rfl (Nat.le_of_ble_eq_true rfl) ⟨Nat.zero_le _, Nat.zero_le _⟩ ?_
  refine J_if_ne E (tgt := 11) dX6_lacks_4 (by decide) (fun c_4 => ?_) (fun c_4 => ?_)
  · skip
    have c_4 := bI_1 c_4
    refine J_aload_n E dX6_lacks_11 rfl 0 rfl ?_
    refine gM0_X6_31 E dX6_lacks_12 ?_
    refine J_iload_n E dX6_lacks_15 rfl 1 rfl ?_
    refine lMb_3 E  dX6_lacks_16 ?_
    refine J_if_ne E (tgt := 24) dX6_lacks_17 (by decide) (fun c_17 => ?_) (fun c_17 => ?_)
    · skip
      exact absurd hb c_17
    · skip
      refine J_iconst E dX6_lacks_20 ic_5 ?_
      refine J_goto E (tgt := 25) dX6_lacks_21 (by decide) ?_
      exact ret _ _ _ _ ⟨rfl, (congrArg (wM G b) (rfl))⟩ rfl dX6_lacks_25
  · skip
    have c_4 := bI_0 c_4
    exact absurd (in3 (by decide)) c_4

set_option maxHeartbeats 4000000 in
set_option maxRecDepth 20000 in
theorem c_X6_lacks_3_1 (l : Launch) (G : GB) (b : Nat → Nat) (y : Q3) (hb : ¬ y 11 1 0 = 0) : CI l yX6_lacks cX6_lacks 2 .int 2 45 G [.ref (b 0), .int (nI 3)] (wM G b y) (fun vR w' => vR = (-1) ∧ w' = wM G b y) := by
  refine CI.mk (own := RX6) (by decide) rfl (Nat.le_of_ble_eq_true rfl) ?_
  intro X E ret
  show J X G 2 0 0 (wM G b y) [(0, .ref (b 0)), (1, .int (nI 3))] 0 []
  refine J_iload_n E dX6_lacks_0 rfl 1 rfl ?_
  refine J_cSiN E (As := [.int (nI 3)]) (c_X6_isSheet l G (nI 3) ) cl_X6_303 yo_X6_isSheet dX6_lacks_1 rfl (Nat.le_of_ble_eq_true rfl) (Nat.le_of_ble_eq_true rfl) rfl (Nat.le_of_ble_eq_true rfl) ⟨Nat.zero_le _, Nat.zero_le _⟩ ?_
  refine J_if_ne E (tgt := 11) dX6_lacks_4 (by decide) (fun c_4 => ?_) (fun c_4 => ?_)
  · skip
    have c_4 := bI_1 c_4
    refine J_aload_n E dX6_lacks_11 rfl 0 rfl ?_
    refine gM0_X6_31 E dX6_lacks_12 ?_
    refine J_iload_n E dX6_lacks_15 rfl 1 rfl ?_
    refine lMb_3 E  dX6_lacks_16 ?_
    refine J_if_ne E (tgt := 24) dX6_lacks_17 (by decide) (fun c_17 => ?_) (fun c_17 => ?_)
    · skip
      refine J_iconst E dX6_lacks_24 ic_m1 ?_
      exact ret _ _ _ _ ⟨rfl, (congrArg (wM G b) (rfl))⟩ rfl dX6_lacks_25
    · skip
      exact absurd c_17 hb
  · skip
    have c_4 := bI_0 c_4
    exact absurd (in3 (by decide)) c_4

set_option maxHeartbeats 4000000 in
set_option maxRecDepth 20000 in
theorem c_X6_lacksHouse_out (l : Launch) (G : GB) (b : Nat → Nat) (y : Q3) (s h : Int32) (hs : ¬ (0 ≤ s ∧ s ≤ 3)) : CI l yX6_lacksHouse cX6_lacksHouse 4 .int 3 66 G [.ref (b 0), .int s, .int h] (wM G b y) (fun vR w' => vR = 0 ∧ w' = wM G b y) := by
  refine CI.mk (own := RX6) (by decide) rfl (Nat.le_of_ble_eq_true rfl) ?_
  intro X E ret
  show J X G 4 0 0 (wM G b y) [(0, .ref (b 0)), (1, .int s), (2, .int h)] 0 []
  refine J_aload_n E dX6_lacksHouse_0 rfl 0 rfl ?_
  refine J_iload_n E dX6_lacksHouse_1 rfl 1 rfl ?_
  refine J_cVi0 E (As := [.int s]) (c_X6_lacks_out l G b y s hs ) cl_X6_197 yo_X6_lacks dX6_lacksHouse_2 rfl rfl rfl (Nat.le_of_ble_eq_true rfl) (Nat.le_of_ble_eq_true rfl) rfl (Nat.le_of_ble_eq_true rfl) ⟨Nat.zero_le _, Nat.zero_le _⟩ ?_
  refine J_istore_n E (lv' := [(3, .int 0), (0, .ref (b 0)), (1, .int s), (2, .int h)]) dX6_lacksHouse_5 rfl (by decide) rfl ?_
  refine J_iload_n E dX6_lacksHouse_6 rfl 0 rfl ?_
  refine J_if_lt E (tgt := 12) dX6_lacksHouse_7 (by decide) (fun c_7 => ?_) (fun c_7 => ?_)
  · skip
    have n_7 : 0 < 0 := cmp_lt (a := 0) (b := 0) (by omega) (by omega) c_7
    exact absurd n_7 (by decide)
  · skip
    have n_7 : ¬ 0 < 0 := cmp_nlt (a := 0) (b := 0) (by omega) (by omega) c_7
    refine J_iload_n E dX6_lacksHouse_10 rfl 0 rfl ?_
    exact ret _ _ _ _ ⟨rfl, (congrArg (wM G b) (rfl))⟩ rfl dX6_lacksHouse_11

set_option maxHeartbeats 4000000 in
set_option maxRecDepth 20000 in
theorem c_X6_lacksHouse_0_0 (l : Launch) (G : GB) (b : Nat → Nat) (y : Q3) (h : Int32) (hb : y 8 1 0 = 0) : CI l yX6_lacksHouse cX6_lacksHouse 4 .int 3 66 G [.ref (b 0), .int (nI 0), .int h] (wM G b y) (fun vR w' => vR = 5 ∧ w' = wM G b y) := by
  refine CI.mk (own := RX6) (by decide) rfl (Nat.le_of_ble_eq_true rfl) ?_
  intro X E ret
  show J X G 4 0 0 (wM G b y) [(0, .ref (b 0)), (1, .int (nI 0)), (2, .int h)] 0 []
  refine J_aload_n E dX6_lacksHouse_0 rfl 0 rfl ?_
  refine J_iload_n E dX6_lacksHouse_1 rfl 1 rfl ?_
  refine J_cVi0 E (As := [.int (nI 0)]) (c_X6_lacks_0_0 l G b y hb ) cl_X6_197 yo_X6_lacks dX6_lacksHouse_2 rfl rfl rfl (Nat.le_of_ble_eq_true rfl) (Nat.le_of_ble_eq_true rfl) rfl (Nat.le_of_ble_eq_true rfl) ⟨Nat.zero_le _, Nat.zero_le _⟩ ?_
  refine J_istore_n E (lv' := [(3, .int 5), (0, .ref (b 0)), (1, .int (nI 0)), (2, .int h)]) dX6_lacksHouse_5 rfl (by decide) rfl ?_
  refine J_iload_n E dX6_lacksHouse_6 rfl 0 rfl ?_
  refine J_if_lt E (tgt := 12) dX6_lacksHouse_7 (by decide) (fun c_7 => ?_) (fun c_7 => ?_)
  · skip
    have n_7 : 5 < 0 := cmp_lt (a := 5) (b := 0) (by omega) (by omega) c_7
    exact absurd n_7 (by decide)
  · skip
    have n_7 : ¬ 5 < 0 := cmp_nlt (a := 5) (b := 0) (by omega) (by omega) c_7
    refine J_iload_n E dX6_lacksHouse_10 rfl 0 rfl ?_
    exact ret _ _ _ _ ⟨rfl, (congrArg (wM G b) (rfl))⟩ rfl dX6_lacksHouse_11

set_option maxHeartbeats 4000000 in
set_option maxRecDepth 20000 in
theorem c_X6_lacksHouse_0_2 (l : Launch) (G : GB) (b : Nat → Nat) (y : Q3) (h : Int32) (hb : ¬ y 8 1 0 = 0) (hh : ¬ okH h) : CI l yX6_lacksHouse cX6_lacksHouse 4 .int 3 66 G [.ref (b 0), .int (nI 0), .int h] (wM G b y) (fun vR w' => vR = 0 ∧ w' = wM G b y) := by
  refine CI.mk (own := RX6) (by decide) rfl (Nat.le_of_ble_eq_true rfl) ?_
  intro X E ret
  show J X G 4 0 0 (wM G b y) [(0, .ref (b 0)), (1, .int (nI 0)), (2, .int h)] 0 []
  refine J_aload_n E dX6_lacksHouse_0 rfl 0 rfl ?_
  refine J_iload_n E dX6_lacksHouse_1 rfl 1 rfl ?_
  refine J_cVi0 E (As := [.int (nI 0)]) (c_X6_lacks_0_1 l G b y hb ) cl_X6_197 yo_X6_lacks dX6_lacksHouse_2 rfl rfl rfl (Nat.le_of_ble_eq_true rfl) (Nat.le_of_ble_eq_true rfl) rfl (Nat.le_of_ble_eq_true rfl) ⟨Nat.zero_le _, Nat.zero_le _⟩ ?_
  refine J_istore_n E (lv' := [(3, .int (-1)), (0, .ref (b 0)), (1, .int (nI 0)), (2, .int h)]) dX6_lacksHouse_5 rfl (by decide) rfl ?_
  refine J_iload_n E dX6_lacksHouse_6 rfl 0 rfl ?_
  refine J_if_lt E (tgt := 12) dX6_lacksHouse_7 (by decide) (fun c_7 => ?_) (fun c_7 => ?_)
  · skip
    refine J_iload_n E dX6_lacksHouse_12 rfl 3 rfl ?_
    refine J_cSiN E (As := [.int h]) (c_X6_isHouse l G h ) cl_X6_87 yo_X6_isHouse dX6_lacksHouse_13 rfl (Nat.le_of_ble_eq_true rfl) (Nat.le_of_ble_eq_true rfl) rfl (Nat.le_of_ble_eq_true rfl) ⟨Nat.zero_le _, Nat.zero_le _⟩ ?_
    refine J_if_eq E (tgt := 23) dX6_lacksHouse_16 (by decide) (fun c_16 => ?_) (fun c_16 => ?_)
    · skip
      have c_16 := bI_0 c_16
      refine J_iconst E dX6_lacksHouse_23 ic_0 ?_
      exact ret _ _ _ _ ⟨rfl, (congrArg (wM G b) (rfl))⟩ rfl dX6_lacksHouse_24
    · skip
      have c_16 := bI_1 c_16
      exact absurd c_16 hh
  · skip
    exact absurd c_7 (by decide)

set_option maxHeartbeats 4000000 in
set_option maxRecDepth 20000 in
theorem c_X6_lacksHouse_0_1 (l : Launch) (G : GB) (b : Nat → Nat) (y : Q3) (h : Int32) (hb : ¬ y 8 1 0 = 0) (hh : okH h) : CI l yX6_lacksHouse cX6_lacksHouse 4 .int 3 66 G [.ref (b 0), .int (nI 0), .int h] (wM G b y) (fun vR w' => vR = (-1) ∧ w' = wM G b y) := by
  refine CI.mk (own := RX6) (by decide) rfl (Nat.le_of_ble_eq_true rfl) ?_
  intro X E ret
  show J X G 4 0 0 (wM G b y) [(0, .ref (b 0)), (1, .int (nI 0)), (2, .int h)] 0 []
  refine J_aload_n E dX6_lacksHouse_0 rfl 0 rfl ?_
  refine J_iload_n E dX6_lacksHouse_1 rfl 1 rfl ?_
  refine J_cVi0 E (As := [.int (nI 0)]) (c_X6_lacks_0_1 l G b y hb ) cl_X6_197 yo_X6_lacks dX6_lacksHouse_2 rfl rfl rfl (Nat.le_of_ble_eq_true rfl) (Nat.le_of_ble_eq_true rfl) rfl (Nat.le_of_ble_eq_true rfl) ⟨Nat.zero_le _, Nat.zero_le _⟩ ?_
  refine J_istore_n E (lv' := [(3, .int (-1)), (0, .ref (b 0)), (1, .int (nI 0)), (2, .int h)]) dX6_lacksHouse_5 rfl (by decide) rfl ?_
  refine J_iload_n E dX6_lacksHouse_6 rfl 0 rfl ?_
  refine J_if_lt E (tgt := 12) dX6_lacksHouse_7 (by decide) (fun c_7 => ?_) (fun c_7 => ?_)
  · skip
    refine J_iload_n E dX6_lacksHouse_12 rfl 3 rfl ?_
    refine J_cSiN E (As := [.int h]) (c_X6_isHouse l G h ) cl_X6_87 yo_X6_isHouse dX6_lacksHouse_13 rfl (Nat.le_of_ble_eq_true rfl) (Nat.le_of_ble_eq_true rfl) rfl (Nat.le_of_ble_eq_true rfl) ⟨Nat.zero_le _, Nat.zero_le _⟩ ?_
    refine J_if_eq E (tgt := 23) dX6_lacksHouse_16 (by decide) (fun c_16 => ?_) (fun c_16 => ?_)
    · skip
      have c_16 := bI_0 c_16
      exact absurd hh c_16
    · skip
      have c_16 := bI_1 c_16
      refine J_iconst E dX6_lacksHouse_19 ic_m1 ?_
      refine J_goto E (tgt := 24) dX6_lacksHouse_20 (by decide) ?_
      exact ret _ _ _ _ ⟨rfl, (congrArg (wM G b) (rfl))⟩ rfl dX6_lacksHouse_24
  · skip
    exact absurd c_7 (by decide)

set_option maxHeartbeats 4000000 in
set_option maxRecDepth 20000 in
theorem c_X6_lacksHouse_1_0 (l : Launch) (G : GB) (b : Nat → Nat) (y : Q3) (h : Int32) (hb : y 9 1 0 = 0) : CI l yX6_lacksHouse cX6_lacksHouse 4 .int 3 66 G [.ref (b 0), .int (nI 1), .int h] (wM G b y) (fun vR w' => vR = 5 ∧ w' = wM G b y) := by
  refine CI.mk (own := RX6) (by decide) rfl (Nat.le_of_ble_eq_true rfl) ?_
  intro X E ret
  show J X G 4 0 0 (wM G b y) [(0, .ref (b 0)), (1, .int (nI 1)), (2, .int h)] 0 []
  refine J_aload_n E dX6_lacksHouse_0 rfl 0 rfl ?_
  refine J_iload_n E dX6_lacksHouse_1 rfl 1 rfl ?_
  refine J_cVi0 E (As := [.int (nI 1)]) (c_X6_lacks_1_0 l G b y hb ) cl_X6_197 yo_X6_lacks dX6_lacksHouse_2 rfl rfl rfl (Nat.le_of_ble_eq_true rfl) (Nat.le_of_ble_eq_true rfl) rfl (Nat.le_of_ble_eq_true rfl) ⟨Nat.zero_le _, Nat.zero_le _⟩ ?_
  refine J_istore_n E (lv' := [(3, .int 5), (0, .ref (b 0)), (1, .int (nI 1)), (2, .int h)]) dX6_lacksHouse_5 rfl (by decide) rfl ?_
  refine J_iload_n E dX6_lacksHouse_6 rfl 0 rfl ?_
  refine J_if_lt E (tgt := 12) dX6_lacksHouse_7 (by decide) (fun c_7 => ?_) (fun c_7 => ?_)
  · skip
    have n_7 : 5 < 0 := cmp_lt (a := 5) (b := 0) (by omega) (by omega) c_7
    exact absurd n_7 (by decide)
  · skip
    have n_7 : ¬ 5 < 0 := cmp_nlt (a := 5) (b := 0) (by omega) (by omega) c_7
    refine J_iload_n E dX6_lacksHouse_10 rfl 0 rfl ?_
    exact ret _ _ _ _ ⟨rfl, (congrArg (wM G b) (rfl))⟩ rfl dX6_lacksHouse_11

set_option maxHeartbeats 4000000 in
set_option maxRecDepth 20000 in
theorem c_X6_lacksHouse_1_2 (l : Launch) (G : GB) (b : Nat → Nat) (y : Q3) (h : Int32) (hb : ¬ y 9 1 0 = 0) (hh : ¬ okH h) : CI l yX6_lacksHouse cX6_lacksHouse 4 .int 3 66 G [.ref (b 0), .int (nI 1), .int h] (wM G b y) (fun vR w' => vR = 0 ∧ w' = wM G b y) := by
  refine CI.mk (own := RX6) (by decide) rfl (Nat.le_of_ble_eq_true rfl) ?_
  intro X E ret
  show J X G 4 0 0 (wM G b y) [(0, .ref (b 0)), (1, .int (nI 1)), (2, .int h)] 0 []
  refine J_aload_n E dX6_lacksHouse_0 rfl 0 rfl ?_
  refine J_iload_n E dX6_lacksHouse_1 rfl 1 rfl ?_
  refine J_cVi0 E (As := [.int (nI 1)]) (c_X6_lacks_1_1 l G b y hb ) cl_X6_197 yo_X6_lacks dX6_lacksHouse_2 rfl rfl rfl (Nat.le_of_ble_eq_true rfl) (Nat.le_of_ble_eq_true rfl) rfl (Nat.le_of_ble_eq_true rfl) ⟨Nat.zero_le _, Nat.zero_le _⟩ ?_
  refine J_istore_n E (lv' := [(3, .int (-1)), (0, .ref (b 0)), (1, .int (nI 1)), (2, .int h)]) dX6_lacksHouse_5 rfl (by decide) rfl ?_
  refine J_iload_n E dX6_lacksHouse_6 rfl 0 rfl ?_
  refine J_if_lt E (tgt := 12) dX6_lacksHouse_7 (by decide) (fun c_7 => ?_) (fun c_7 => ?_)
  · skip
    refine J_iload_n E dX6_lacksHouse_12 rfl 3 rfl ?_
    refine J_cSiN E (As := [.int h]) (c_X6_isHouse l G h ) cl_X6_87 yo_X6_isHouse dX6_lacksHouse_13 rfl (Nat.le_of_ble_eq_true rfl) (Nat.le_of_ble_eq_true rfl) rfl (Nat.le_of_ble_eq_true rfl) ⟨Nat.zero_le _, Nat.zero_le _⟩ ?_
    refine J_if_eq E (tgt := 23) dX6_lacksHouse_16 (by decide) (fun c_16 => ?_) (fun c_16 => ?_)
    · skip
      have c_16 := bI_0 c_16
      refine J_iconst E dX6_lacksHouse_23 ic_0 ?_
      exact ret _ _ _ _ ⟨rfl, (congrArg (wM G b) (rfl))⟩ rfl dX6_lacksHouse_24
    · skip
      have c_16 := bI_1 c_16
      exact absurd c_16 hh
  · skip
    exact absurd c_7 (by decide)

set_option maxHeartbeats 4000000 in
set_option maxRecDepth 20000 in
theorem c_X6_lacksHouse_1_1 (l : Launch) (G : GB) (b : Nat → Nat) (y : Q3) (h : Int32) (hb : ¬ y 9 1 0 = 0) (hh : okH h) : CI l yX6_lacksHouse cX6_lacksHouse 4 .int 3 66 G [.ref (b 0), .int (nI 1), .int h] (wM G b y) (fun vR w' => vR = (-1) ∧ w' = wM G b y) := by
  refine CI.mk (own := RX6) (by decide) rfl (Nat.le_of_ble_eq_true rfl) ?_
  intro X E ret
  show J X G 4 0 0 (wM G b y) [(0, .ref (b 0)), (1, .int (nI 1)), (2, .int h)] 0 []
  refine J_aload_n E dX6_lacksHouse_0 rfl 0 rfl ?_
  refine J_iload_n E dX6_lacksHouse_1 rfl 1 rfl ?_
  refine J_cVi0 E (As := [.int (nI 1)]) (c_X6_lacks_1_1 l G b y hb ) cl_X6_197 yo_X6_lacks dX6_lacksHouse_2 rfl rfl rfl (Nat.le_of_ble_eq_true rfl) (Nat.le_of_ble_eq_true rfl) rfl (Nat.le_of_ble_eq_true rfl) ⟨Nat.zero_le _, Nat.zero_le _⟩ ?_
  refine J_istore_n E (lv' := [(3, .int (-1)), (0, .ref (b 0)), (1, .int (nI 1)), (2, .int h)]) dX6_lacksHouse_5 rfl (by decide) rfl ?_
  refine J_iload_n E dX6_lacksHouse_6 rfl 0 rfl ?_
  refine J_if_lt E (tgt := 12) dX6_lacksHouse_7 (by decide) (fun c_7 => ?_) (fun c_7 => ?_)
  · skip
    refine J_iload_n E dX6_lacksHouse_12 rfl 3 rfl ?_
    refine J_cSiN E (As := [.int h]) (c_X6_isHouse l G h ) cl_X6_87 yo_X6_isHouse dX6_lacksHouse_13 rfl (Nat.le_of_ble_eq_true rfl) (Nat.le_of_ble_eq_true rfl) rfl (Nat.le_of_ble_eq_true rfl) ⟨Nat.zero_le _, Nat.zero_le _⟩ ?_
    refine J_if_eq E (tgt := 23) dX6_lacksHouse_16 (by decide) (fun c_16 => ?_) (fun c_16 => ?_)
    · skip
      have c_16 := bI_0 c_16
      exact absurd hh c_16
    · skip
      have c_16 := bI_1 c_16
      refine J_iconst E dX6_lacksHouse_19 ic_m1 ?_
      refine J_goto E (tgt := 24) dX6_lacksHouse_20 (by decide) ?_
      exact ret _ _ _ _ ⟨rfl, (congrArg (wM G b) (rfl))⟩ rfl dX6_lacksHouse_24
  · skip
    exact absurd c_7 (by decide)

set_option maxHeartbeats 4000000 in
set_option maxRecDepth 20000 in
theorem c_X6_lacksHouse_2_0 (l : Launch) (G : GB) (b : Nat → Nat) (y : Q3) (h : Int32) (hb : y 10 1 0 = 0) : CI l yX6_lacksHouse cX6_lacksHouse 4 .int 3 66 G [.ref (b 0), .int (nI 2), .int h] (wM G b y) (fun vR w' => vR = 5 ∧ w' = wM G b y) := by
  refine CI.mk (own := RX6) (by decide) rfl (Nat.le_of_ble_eq_true rfl) ?_
  intro X E ret
  show J X G 4 0 0 (wM G b y) [(0, .ref (b 0)), (1, .int (nI 2)), (2, .int h)] 0 []
  refine J_aload_n E dX6_lacksHouse_0 rfl 0 rfl ?_
  refine J_iload_n E dX6_lacksHouse_1 rfl 1 rfl ?_
  refine J_cVi0 E (As := [.int (nI 2)]) (c_X6_lacks_2_0 l G b y hb ) cl_X6_197 yo_X6_lacks dX6_lacksHouse_2 rfl rfl rfl (Nat.le_of_ble_eq_true rfl) (Nat.le_of_ble_eq_true rfl) rfl (Nat.le_of_ble_eq_true rfl) ⟨Nat.zero_le _, Nat.zero_le _⟩ ?_
  refine J_istore_n E (lv' := [(3, .int 5), (0, .ref (b 0)), (1, .int (nI 2)), (2, .int h)]) dX6_lacksHouse_5 rfl (by decide) rfl ?_
  refine J_iload_n E dX6_lacksHouse_6 rfl 0 rfl ?_
  refine J_if_lt E (tgt := 12) dX6_lacksHouse_7 (by decide) (fun c_7 => ?_) (fun c_7 => ?_)
  · skip
    have n_7 : 5 < 0 := cmp_lt (a := 5) (b := 0) (by omega) (by omega) c_7
    exact absurd n_7 (by decide)
  · skip
    have n_7 : ¬ 5 < 0 := cmp_nlt (a := 5) (b := 0) (by omega) (by omega) c_7
    refine J_iload_n E dX6_lacksHouse_10 rfl 0 rfl ?_
    exact ret _ _ _ _ ⟨rfl, (congrArg (wM G b) (rfl))⟩ rfl dX6_lacksHouse_11

set_option maxHeartbeats 4000000 in
set_option maxRecDepth 20000 in
theorem c_X6_lacksHouse_2_2 (l : Launch) (G : GB) (b : Nat → Nat) (y : Q3) (h : Int32) (hb : ¬ y 10 1 0 = 0) (hh : ¬ okH h) : CI l yX6_lacksHouse cX6_lacksHouse 4 .int 3 66 G [.ref (b 0), .int (nI 2), .int h] (wM G b y) (fun vR w' => vR = 0 ∧ w' = wM G b y) := by
  refine CI.mk (own := RX6) (by decide) rfl (Nat.le_of_ble_eq_true rfl) ?_
  intro X E ret
  show J X G 4 0 0 (wM G b y) [(0, .ref (b 0)), (1, .int (nI 2)), (2, .int h)] 0 []
  refine J_aload_n E dX6_lacksHouse_0 rfl 0 rfl ?_
  refine J_iload_n E dX6_lacksHouse_1 rfl 1 rfl ?_
  refine J_cVi0 E (As := [.int (nI 2)]) (c_X6_lacks_2_1 l G b y hb ) cl_X6_197 yo_X6_lacks dX6_lacksHouse_2 rfl rfl rfl (Nat.le_of_ble_eq_true rfl) (Nat.le_of_ble_eq_true rfl) rfl (Nat.le_of_ble_eq_true rfl) ⟨Nat.zero_le _, Nat.zero_le _⟩ ?_
  refine J_istore_n E (lv' := [(3, .int (-1)), (0, .ref (b 0)), (1, .int (nI 2)), (2, .int h)]) dX6_lacksHouse_5 rfl (by decide) rfl ?_
  refine J_iload_n E dX6_lacksHouse_6 rfl 0 rfl ?_
  refine J_if_lt E (tgt := 12) dX6_lacksHouse_7 (by decide) (fun c_7 => ?_) (fun c_7 => ?_)
  · skip
    refine J_iload_n E dX6_lacksHouse_12 rfl 3 rfl ?_
    refine J_cSiN E (As := [.int h]) (c_X6_isHouse l G h ) cl_X6_87 yo_X6_isHouse dX6_lacksHouse_13 rfl (Nat.le_of_ble_eq_true rfl) (Nat.le_of_ble_eq_true rfl) rfl (Nat.le_of_ble_eq_true rfl) ⟨Nat.zero_le _, Nat.zero_le _⟩ ?_
    refine J_if_eq E (tgt := 23) dX6_lacksHouse_16 (by decide) (fun c_16 => ?_) (fun c_16 => ?_)
    · skip
      have c_16 := bI_0 c_16
      refine J_iconst E dX6_lacksHouse_23 ic_0 ?_
      exact ret _ _ _ _ ⟨rfl, (congrArg (wM G b) (rfl))⟩ rfl dX6_lacksHouse_24
    · skip
      have c_16 := bI_1 c_16
      exact absurd c_16 hh
  · skip
    exact absurd c_7 (by decide)

set_option maxHeartbeats 4000000 in
set_option maxRecDepth 20000 in
theorem c_X6_lacksHouse_2_1 (l : Launch) (G : GB) (b : Nat → Nat) (y : Q3) (h : Int32) (hb : ¬ y 10 1 0 = 0) (hh : okH h) : CI l yX6_lacksHouse cX6_lacksHouse 4 .int 3 66 G [.ref (b 0), .int (nI 2), .int h] (wM G b y) (fun vR w' => vR = (-1) ∧ w' = wM G b y) := by
  refine CI.mk (own := RX6) (by decide) rfl (Nat.le_of_ble_eq_true rfl) ?_
  intro X E ret
  show J X G 4 0 0 (wM G b y) [(0, .ref (b 0)), (1, .int (nI 2)), (2, .int h)] 0 []
  refine J_aload_n E dX6_lacksHouse_0 rfl 0 rfl ?_
  refine J_iload_n E dX6_lacksHouse_1 rfl 1 rfl ?_
  refine J_cVi0 E (As := [.int (nI 2)]) (c_X6_lacks_2_1 l G b y hb ) cl_X6_197 yo_X6_lacks dX6_lacksHouse_2 rfl rfl rfl (Nat.le_of_ble_eq_true rfl) (Nat.le_of_ble_eq_true rfl) rfl (Nat.le_of_ble_eq_true rfl) ⟨Nat.zero_le _, Nat.zero_le _⟩ ?_
  refine J_istore_n E (lv' := [(3, .int (-1)), (0, .ref (b 0)), (1, .int (nI 2)), (2, .int h)]) dX6_lacksHouse_5 rfl (by decide) rfl ?_
  refine J_iload_n E dX6_lacksHouse_6 rfl 0 rfl ?_
  refine J_if_lt E (tgt := 12) dX6_lacksHouse_7 (by decide) (fun c_7 => ?_) (fun c_7 => ?_)
  · skip
    refine J_iload_n E dX6_lacksHouse_12 rfl 3 rfl ?_
    refine J_cSiN E (As := [.int h]) (c_X6_isHouse l G h ) cl_X6_87 yo_X6_isHouse dX6_lacksHouse_13 rfl (Nat.le_of_ble_eq_true rfl) (Nat.le_of_ble_eq_true rfl) rfl (Nat.le_of_ble_eq_true rfl) ⟨Nat.zero_le _, Nat.zero_le _⟩ ?_
    refine J_if_eq E (tgt := 23) dX6_lacksHouse_16 (by decide) (fun c_16 => ?_) (fun c_16 => ?_)
    · skip
      have c_16 := bI_0 c_16
      exact absurd hh c_16
    · skip
      have c_16 := bI_1 c_16
      refine J_iconst E dX6_lacksHouse_19 ic_m1 ?_
      refine J_goto E (tgt := 24) dX6_lacksHouse_20 (by decide) ?_
      exact ret _ _ _ _ ⟨rfl, (congrArg (wM G b) (rfl))⟩ rfl dX6_lacksHouse_24
  · skip
    exact absurd c_7 (by decide)

set_option maxHeartbeats 4000000 in
set_option maxRecDepth 20000 in
theorem c_X6_lacksHouse_3_0 (l : Launch) (G : GB) (b : Nat → Nat) (y : Q3) (h : Int32) (hb : y 11 1 0 = 0) : CI l yX6_lacksHouse cX6_lacksHouse 4 .int 3 66 G [.ref (b 0), .int (nI 3), .int h] (wM G b y) (fun vR w' => vR = 5 ∧ w' = wM G b y) := by
  refine CI.mk (own := RX6) (by decide) rfl (Nat.le_of_ble_eq_true rfl) ?_
  intro X E ret
  show J X G 4 0 0 (wM G b y) [(0, .ref (b 0)), (1, .int (nI 3)), (2, .int h)] 0 []
  refine J_aload_n E dX6_lacksHouse_0 rfl 0 rfl ?_
  refine J_iload_n E dX6_lacksHouse_1 rfl 1 rfl ?_
  refine J_cVi0 E (As := [.int (nI 3)]) (c_X6_lacks_3_0 l G b y hb ) cl_X6_197 yo_X6_lacks dX6_lacksHouse_2 rfl rfl rfl (Nat.le_of_ble_eq_true rfl) (Nat.le_of_ble_eq_true rfl) rfl (Nat.le_of_ble_eq_true rfl) ⟨Nat.zero_le _, Nat.zero_le _⟩ ?_
  refine J_istore_n E (lv' := [(3, .int 5), (0, .ref (b 0)), (1, .int (nI 3)), (2, .int h)]) dX6_lacksHouse_5 rfl (by decide) rfl ?_
  refine J_iload_n E dX6_lacksHouse_6 rfl 0 rfl ?_
  refine J_if_lt E (tgt := 12) dX6_lacksHouse_7 (by decide) (fun c_7 => ?_) (fun c_7 => ?_)
  · skip
    have n_7 : 5 < 0 := cmp_lt (a := 5) (b := 0) (by omega) (by omega) c_7
    exact absurd n_7 (by decide)
  · skip
    have n_7 : ¬ 5 < 0 := cmp_nlt (a := 5) (b := 0) (by omega) (by omega) c_7
    refine J_iload_n E dX6_lacksHouse_10 rfl 0 rfl ?_
    exact ret _ _ _ _ ⟨rfl, (congrArg (wM G b) (rfl))⟩ rfl dX6_lacksHouse_11

set_option maxHeartbeats 4000000 in
set_option maxRecDepth 20000 in
theorem c_X6_lacksHouse_3_2 (l : Launch) (G : GB) (b : Nat → Nat) (y : Q3) (h : Int32) (hb : ¬ y 11 1 0 = 0) (hh : ¬ okH h) : CI l yX6_lacksHouse cX6_lacksHouse 4 .int 3 66 G [.ref (b 0), .int (nI 3), .int h] (wM G b y) (fun vR w' => vR = 0 ∧ w' = wM G b y) := by
  refine CI.mk (own := RX6) (by decide) rfl (Nat.le_of_ble_eq_true rfl) ?_
  intro X E ret
  show J X G 4 0 0 (wM G b y) [(0, .ref (b 0)), (1, .int (nI 3)), (2, .int h)] 0 []
  refine J_aload_n E dX6_lacksHouse_0 rfl 0 rfl ?_
  refine J_iload_n E dX6_lacksHouse_1 rfl 1 rfl ?_
  refine J_cVi0 E (As := [.int (nI 3)]) (c_X6_lacks_3_1 l G b y hb ) cl_X6_197 yo_X6_lacks dX6_lacksHouse_2 rfl rfl rfl (Nat.le_of_ble_eq_true rfl) (Nat.le_of_ble_eq_true rfl) rfl (Nat.le_of_ble_eq_true rfl) ⟨Nat.zero_le _, Nat.zero_le _⟩ ?_
  refine J_istore_n E (lv' := [(3, .int (-1)), (0, .ref (b 0)), (1, .int (nI 3)), (2, .int h)]) dX6_lacksHouse_5 rfl (by decide) rfl ?_
  refine J_iload_n E dX6_lacksHouse_6 rfl 0 rfl ?_
  refine J_if_lt E (tgt := 12) dX6_lacksHouse_7 (by decide) (fun c_7 => ?_) (fun c_7 => ?_)
  · skip
    refine J_iload_n E dX6_lacksHouse_12 rfl 3 rfl ?_
    refine J_cSiN E (As := [.int h]) (c_X6_isHouse l G h ) cl_X6_87 yo_X6_isHouse dX6_lacksHouse_13 rfl (Nat.le_of_ble_eq_true rfl) (Nat.le_of_ble_eq_true rfl) rfl (Nat.le_of_ble_eq_true rfl) ⟨Nat.zero_le _, Nat.zero_le _⟩ ?_
    refine J_if_eq E (tgt := 23) dX6_lacksHouse_16 (by decide) (fun c_16 => ?_) (fun c_16 => ?_)
    · skip
      have c_16 := bI_0 c_16
      refine J_iconst E dX6_lacksHouse_23 ic_0 ?_
      exact ret _ _ _ _ ⟨rfl, (congrArg (wM G b) (rfl))⟩ rfl dX6_lacksHouse_24
    · skip
      have c_16 := bI_1 c_16
      exact absurd c_16 hh
  · skip
    exact absurd c_7 (by decide)

set_option maxHeartbeats 4000000 in
set_option maxRecDepth 20000 in
theorem c_X6_lacksHouse_3_1 (l : Launch) (G : GB) (b : Nat → Nat) (y : Q3) (h : Int32) (hb : ¬ y 11 1 0 = 0) (hh : okH h) : CI l yX6_lacksHouse cX6_lacksHouse 4 .int 3 66 G [.ref (b 0), .int (nI 3), .int h] (wM G b y) (fun vR w' => vR = (-1) ∧ w' = wM G b y) := by
  refine CI.mk (own := RX6) (by decide) rfl (Nat.le_of_ble_eq_true rfl) ?_
  intro X E ret
  show J X G 4 0 0 (wM G b y) [(0, .ref (b 0)), (1, .int (nI 3)), (2, .int h)] 0 []
  refine J_aload_n E dX6_lacksHouse_0 rfl 0 rfl ?_
  refine J_iload_n E dX6_lacksHouse_1 rfl 1 rfl ?_
  refine J_cVi0 E (As := [.int (nI 3)]) (c_X6_lacks_3_1 l G b y hb ) cl_X6_197 yo_X6_lacks dX6_lacksHouse_2 rfl rfl rfl (Nat.le_of_ble_eq_true rfl) (Nat.le_of_ble_eq_true rfl) rfl (Nat.le_of_ble_eq_true rfl) ⟨Nat.zero_le _, Nat.zero_le _⟩ ?_
  refine J_istore_n E (lv' := [(3, .int (-1)), (0, .ref (b 0)), (1, .int (nI 3)), (2, .int h)]) dX6_lacksHouse_5 rfl (by decide) rfl ?_
  refine J_iload_n E dX6_lacksHouse_6 rfl 0 rfl ?_
  refine J_if_lt E (tgt := 12) dX6_lacksHouse_7 (by decide) (fun c_7 => ?_) (fun c_7 => ?_)
  · skip
    refine J_iload_n E dX6_lacksHouse_12 rfl 3 rfl ?_
    refine J_cSiN E (As := [.int h]) (c_X6_isHouse l G h ) cl_X6_87 yo_X6_isHouse dX6_lacksHouse_13 rfl (Nat.le_of_ble_eq_true rfl) (Nat.le_of_ble_eq_true rfl) rfl (Nat.le_of_ble_eq_true rfl) ⟨Nat.zero_le _, Nat.zero_le _⟩ ?_
    refine J_if_eq E (tgt := 23) dX6_lacksHouse_16 (by decide) (fun c_16 => ?_) (fun c_16 => ?_)
    · skip
      have c_16 := bI_0 c_16
      exact absurd hh c_16
    · skip
      have c_16 := bI_1 c_16
      refine J_iconst E dX6_lacksHouse_19 ic_m1 ?_
      refine J_goto E (tgt := 24) dX6_lacksHouse_20 (by decide) ?_
      exact ret _ _ _ _ ⟨rfl, (congrArg (wM G b) (rfl))⟩ rfl dX6_lacksHouse_24
  · skip
    exact absurd c_7 (by decide)

set_option maxHeartbeats 4000000 in
set_option maxRecDepth 20000 in
theorem c_X6_isSo_0 (l : Launch) (G : GB) (b : Nat → Nat) (y : Q3) (j n : Nat) (hj : j < 11) (hn : y 8 1 1 = nI n) (hn2 : n ≤ 40) (hok : okQ (y 0))  : CI l yX6_isSo cX6_isSo 6 .boolean 4 91 G [.ref (b 0), .int (nI 0), .int (nI j)] (wM G b y) (fun vR w' => vR = bI (soF (y 8 0) j (y 0) n = true) ∧ ∃ d : Q2, w' = wM G b (upG (upG y 5 d) 0 (hoursR (y 0) n))) := by
  refine CI.mk (own := RX6) (by decide) rfl (Nat.le_of_ble_eq_true rfl) ?_
  intro X E ret
  show J X G 6 0 0 (wM G b y) [(0, .ref (b 0)), (1, .int (nI 0)), (2, .int (nI j))] 0 []
  refine J_iconst E dX6_isSo_0 ic_1 ?_
  refine J_istore_n E (lv' := [(3, .int 1), (0, .ref (b 0)), (1, .int (nI 0)), (2, .int (nI j))]) dX6_isSo_1 rfl (by decide) rfl ?_
  refine J_iconst E dX6_isSo_2 ic_0 ?_
  refine J_istore E (lv' := [(4, .int 0), (3, .int 1), (0, .ref (b 0)), (1, .int (nI 0)), (2, .int (nI j))]) dX6_isSo_3 (by decide) rfl ?_
  refine J_w (ws' := wM G b (upG y 5 (y 5))) (congrArg (wM G b) upG_id.symm) ?_
  have lp5 : ∀ (fu : Nat) (i : Nat) (t : Int32) (d : Q2) (r : Q2), (i ≤ n) → (r = hoursR (y 0) i) → (t = bI (soF (y 8 0) j (y 0) i = true)) → n - i < fu → J X G 6 0 0 (wM G b (upG (upG y 5 d) 0 r)) [(0, .ref (b 0)), (1, .int (nI 0)), (2, .int (nI j)), (3, .int t), (4, .int (nI i))] 5 [] := by
    intro fu
    induction fu with
    | zero => intro i t d r hi hr hs hm; exact absurd hm (Nat.not_lt_zero _)
    | succ fu ih5 =>
      intro i t d r hi hr hs hm
      refine J_iload E dX6_isSo_5 4 rfl ?_
      refine J_aload_n E dX6_isSo_7 rfl 0 rfl ?_
      refine gM0_X6_34 E dX6_isSo_8 ?_
      refine J_iload_n E dX6_isSo_11 rfl 1 rfl ?_
      refine lMz_0 E  dX6_isSo_12 ?_
      refine J_top (x' := y 8 1 1) (Eq.trans (upG_n (by decide)) (upG_n (by decide))) ?_
      refine J_top (x' := nI n) (hn) ?_
      refine J_icmp_ge E (tgt := 67) dX6_isSo_13 (by decide) (fun c_13 => ?_) (fun c_13 => ?_)
      · skip
        have n_13 : n ≤ i := cmp_le (a := n) (b := i) (by omega) (by omega) c_13
        refine J_iload_n E dX6_isSo_67 rfl 3 rfl ?_
        exact ret _ _ _ _ ⟨by rw [hs, show i = n by omega], d, by subst hr; rw [show n = i by omega]⟩ (by rw [hs]; exact bI_nar) dX6_isSo_68
      · skip
        have n_13 : ¬ n ≤ i := cmp_nle (a := n) (b := i) (by omega) (by omega) c_13
        refine J_aload_n E dX6_isSo_16 rfl 0 rfl ?_
        refine gM0_X6_37 E dX6_isSo_17 ?_
        refine J_bipush E dX6_isSo_20 bp_40 ?_
        refine J_iload_n E dX6_isSo_22 rfl 1 rfl ?_
        refine J_imul E dX6_isSo_23 ?_
        refine J_top (x' := nI 0) (by decide) ?_
        refine J_iload E dX6_isSo_24 4 rfl ?_
        refine J_iadd E dX6_isSo_26 ?_
        refine J_top (x' := nI (0 + i)) (nI_add 0 i) ?_
        refine lMn_0 E (j := (0 + i)) (i := i) rfl (by omega) dX6_isSo_27 ?_
        refine J_top (x' := y 8 0 i) (Eq.trans (upG_n (by decide)) (upG_n (by decide))) ?_
        refine J_istore E (lv' := [(5, .int (y 8 0 i)), (0, .ref (b 0)), (1, .int (nI 0)), (2, .int (nI j)), (3, .int t), (4, .int (nI i))]) dX6_isSo_28 (by decide) rfl ?_
        refine J_iload_n E dX6_isSo_30 rfl 4 rfl ?_
        refine J_if_eq E (tgt := 55) dX6_isSo_31 (by decide) (fun c_31 => ?_) (fun c_31 => ?_)
        · skip
          refine J_iconst E dX6_isSo_55 ic_0 ?_
          refine J_istore_n E (lv' := [(3, .int 0), (5, .int (y 8 0 i)), (0, .ref (b 0)), (1, .int (nI 0)), (2, .int (nI j)), (4, .int (nI i))]) dX6_isSo_56 rfl (by decide) rfl ?_
          refine J_aload_n E dX6_isSo_57 rfl 2 rfl ?_
          refine J_cVv0 E (As := []) (c_X6_anHour l G b (upG (upG y 5 d) 0 r) (by rw [hr]; exact okQ_hs hok i)) cl_X6_138 yo_X6_anHour dX6_isSo_58 rfl rfl rfl (Nat.le_of_ble_eq_true rfl) (Nat.le_of_ble_eq_true rfl) rfl (Nat.le_of_ble_eq_true rfl) ⟨Nat.zero_le _, Nat.zero_le _⟩ ?_
          refine J_iinc E (lv' := [(4, .int (nI (i + 1))), (3, .int 0), (5, .int (y 8 0 i)), (0, .ref (b 0)), (1, .int (nI 0)), (2, .int (nI j))]) dX6_isSo_61 5 rfl (nI_inc _) (by decide) rfl ?_
          refine J_goto E (tgt := 5) dX6_isSo_64 (by decide) ?_
          refine J_lv [3, 4, 5, 1, 0] rfl ?_
          exact ih5 (i + 1) 0 (hd5 r d) (hourR0 r) (by omega) (by rw [hr]; rfl) (by rw [hr] at *; first | (rw [bI_t]; rw [soF, bool_t hs c_31]; simp [c_37]; done) | (rw [bI_t]; rw [soF, bool_t hs c_31]; simp [c_48]; done) | (rw [bI_f]; rw [soF]; intro z; have z := Bool.and_eq_true_iff.mp z; first | exact bool_b hs c_31 z.1 | exact (of_decide_eq_true z.2).elim c_37 c_48)) (by omega)
        · skip
          refine J_iload E dX6_isSo_34 0 rfl ?_
          refine J_iconst E dX6_isSo_36 ic_m1 ?_
          refine J_icmp_eq E (tgt := 51) dX6_isSo_37 (by decide) (fun c_37 => ?_) (fun c_37 => ?_)
          · skip
            refine J_iconst E dX6_isSo_51 ic_1 ?_
            refine J_goto E (tgt := 56) dX6_isSo_52 (by decide) ?_
            refine J_istore_n E (lv' := [(3, .int 1), (5, .int (y 8 0 i)), (0, .ref (b 0)), (1, .int (nI 0)), (2, .int (nI j)), (4, .int (nI i))]) dX6_isSo_56 rfl (by decide) rfl ?_
            refine J_aload_n E dX6_isSo_57 rfl 2 rfl ?_
            refine J_cVv0 E (As := []) (c_X6_anHour l G b (upG (upG y 5 d) 0 r) (by rw [hr]; exact okQ_hs hok i)) cl_X6_138 yo_X6_anHour dX6_isSo_58 rfl rfl rfl (Nat.le_of_ble_eq_true rfl) (Nat.le_of_ble_eq_true rfl) rfl (Nat.le_of_ble_eq_true rfl) ⟨Nat.zero_le _, Nat.zero_le _⟩ ?_
            refine J_iinc E (lv' := [(4, .int (nI (i + 1))), (3, .int 1), (5, .int (y 8 0 i)), (0, .ref (b 0)), (1, .int (nI 0)), (2, .int (nI j))]) dX6_isSo_61 5 rfl (nI_inc _) (by decide) rfl ?_
            refine J_goto E (tgt := 5) dX6_isSo_64 (by decide) ?_
            refine J_lv [3, 4, 5, 1, 0] rfl ?_
            exact ih5 (i + 1) 1 (hd5 r d) (hourR0 r) (by omega) (by rw [hr]; rfl) (by rw [hr] at *; first | (rw [bI_t]; rw [soF, bool_t hs c_31]; simp [c_37]; done) | (rw [bI_t]; rw [soF, bool_t hs c_31]; simp [c_48]; done) | (rw [bI_f]; rw [soF]; intro z; have z := Bool.and_eq_true_iff.mp z; first | exact bool_b hs c_31 z.1 | exact (of_decide_eq_true z.2).elim c_37 c_48)) (by omega)
          · skip
            refine J_iload E dX6_isSo_40 0 rfl ?_
            refine J_aload_n E dX6_isSo_42 rfl 1 rfl ?_
            refine J_iload_n E dX6_isSo_43 rfl 3 rfl ?_
            refine J_iconst E dX6_isSo_44 ic_1 ?_
            refine J_cVi0 E (As := [.int (nI j), .int 1]) (c_X6_its l G b (upG (upG y 5 d) 0 r) j 1 (by omega) (by omega)) cl_X6_64 yo_X6_its dX6_isSo_45 rfl rfl rfl (Nat.le_of_ble_eq_true rfl) (Nat.le_of_ble_eq_true rfl) rfl (Nat.le_of_ble_eq_true rfl) ⟨Nat.zero_le _, Nat.zero_le _⟩ ?_
            refine J_top (x' := r 1 j) (upG_s) ?_
            refine J_icmp_ne E (tgt := 55) dX6_isSo_48 (by decide) (fun c_48 => ?_) (fun c_48 => ?_)
            · skip
              refine J_iconst E dX6_isSo_55 ic_0 ?_
              refine J_istore_n E (lv' := [(3, .int 0), (5, .int (y 8 0 i)), (0, .ref (b 0)), (1, .int (nI 0)), (2, .int (nI j)), (4, .int (nI i))]) dX6_isSo_56 rfl (by decide) rfl ?_
              refine J_aload_n E dX6_isSo_57 rfl 2 rfl ?_
              refine J_cVv0 E (As := []) (c_X6_anHour l G b (upG (upG y 5 d) 0 r) (by rw [hr]; exact okQ_hs hok i)) cl_X6_138 yo_X6_anHour dX6_isSo_58 rfl rfl rfl (Nat.le_of_ble_eq_true rfl) (Nat.le_of_ble_eq_true rfl) rfl (Nat.le_of_ble_eq_true rfl) ⟨Nat.zero_le _, Nat.zero_le _⟩ ?_
              refine J_iinc E (lv' := [(4, .int (nI (i + 1))), (3, .int 0), (5, .int (y 8 0 i)), (0, .ref (b 0)), (1, .int (nI 0)), (2, .int (nI j))]) dX6_isSo_61 5 rfl (nI_inc _) (by decide) rfl ?_
              refine J_goto E (tgt := 5) dX6_isSo_64 (by decide) ?_
              refine J_lv [3, 4, 5, 1, 0] rfl ?_
              exact ih5 (i + 1) 0 (hd5 r d) (hourR0 r) (by omega) (by rw [hr]; rfl) (by rw [hr] at *; first | (rw [bI_t]; rw [soF, bool_t hs c_31]; simp [c_37]; done) | (rw [bI_t]; rw [soF, bool_t hs c_31]; simp [c_48]; done) | (rw [bI_f]; rw [soF]; intro z; have z := Bool.and_eq_true_iff.mp z; first | exact bool_b hs c_31 z.1 | exact (of_decide_eq_true z.2).elim c_37 c_48)) (by omega)
            · skip
              refine J_iconst E dX6_isSo_51 ic_1 ?_
              refine J_goto E (tgt := 56) dX6_isSo_52 (by decide) ?_
              refine J_istore_n E (lv' := [(3, .int 1), (5, .int (y 8 0 i)), (0, .ref (b 0)), (1, .int (nI 0)), (2, .int (nI j)), (4, .int (nI i))]) dX6_isSo_56 rfl (by decide) rfl ?_
              refine J_aload_n E dX6_isSo_57 rfl 2 rfl ?_
              refine J_cVv0 E (As := []) (c_X6_anHour l G b (upG (upG y 5 d) 0 r) (by rw [hr]; exact okQ_hs hok i)) cl_X6_138 yo_X6_anHour dX6_isSo_58 rfl rfl rfl (Nat.le_of_ble_eq_true rfl) (Nat.le_of_ble_eq_true rfl) rfl (Nat.le_of_ble_eq_true rfl) ⟨Nat.zero_le _, Nat.zero_le _⟩ ?_
              refine J_iinc E (lv' := [(4, .int (nI (i + 1))), (3, .int 1), (5, .int (y 8 0 i)), (0, .ref (b 0)), (1, .int (nI 0)), (2, .int (nI j))]) dX6_isSo_61 5 rfl (nI_inc _) (by decide) rfl ?_
              refine J_goto E (tgt := 5) dX6_isSo_64 (by decide) ?_
              refine J_lv [3, 4, 5, 1, 0] rfl ?_
              exact ih5 (i + 1) 1 (hd5 r d) (hourR0 r) (by omega) (by rw [hr]; rfl) (by rw [hr] at *; first | (rw [bI_t]; rw [soF, bool_t hs c_31]; simp [c_37]; done) | (rw [bI_t]; rw [soF, bool_t hs c_31]; simp [c_48]; done) | (rw [bI_f]; rw [soF]; intro z; have z := Bool.and_eq_true_iff.mp z; first | exact bool_b hs c_31 z.1 | exact (of_decide_eq_true z.2).elim c_37 c_48)) (by omega)
  refine J_lv [2, 3, 4, 1, 0] rfl ?_
  exact lp5 _ 0 1 (y 5) (y 0) (by omega) rfl rfl (Nat.lt_succ_self _)

set_option maxHeartbeats 4000000 in
set_option maxRecDepth 20000 in
theorem c_X6_isSo_1 (l : Launch) (G : GB) (b : Nat → Nat) (y : Q3) (j n : Nat) (hj : j < 11) (hn : y 9 1 1 = nI n) (hn2 : n ≤ 40) (hok : okQ (y 0))  : CI l yX6_isSo cX6_isSo 6 .boolean 4 91 G [.ref (b 0), .int (nI 1), .int (nI j)] (wM G b y) (fun vR w' => vR = bI (soF (y 9 0) j (y 0) n = true) ∧ ∃ d : Q2, w' = wM G b (upG (upG y 5 d) 0 (hoursR (y 0) n))) := by
  refine CI.mk (own := RX6) (by decide) rfl (Nat.le_of_ble_eq_true rfl) ?_
  intro X E ret
  show J X G 6 0 0 (wM G b y) [(0, .ref (b 0)), (1, .int (nI 1)), (2, .int (nI j))] 0 []
  refine J_iconst E dX6_isSo_0 ic_1 ?_
  refine J_istore_n E (lv' := [(3, .int 1), (0, .ref (b 0)), (1, .int (nI 1)), (2, .int (nI j))]) dX6_isSo_1 rfl (by decide) rfl ?_
  refine J_iconst E dX6_isSo_2 ic_0 ?_
  refine J_istore E (lv' := [(4, .int 0), (3, .int 1), (0, .ref (b 0)), (1, .int (nI 1)), (2, .int (nI j))]) dX6_isSo_3 (by decide) rfl ?_
  refine J_w (ws' := wM G b (upG y 5 (y 5))) (congrArg (wM G b) upG_id.symm) ?_
  have lp5 : ∀ (fu : Nat) (i : Nat) (t : Int32) (d : Q2) (r : Q2), (i ≤ n) → (r = hoursR (y 0) i) → (t = bI (soF (y 9 0) j (y 0) i = true)) → n - i < fu → J X G 6 0 0 (wM G b (upG (upG y 5 d) 0 r)) [(0, .ref (b 0)), (1, .int (nI 1)), (2, .int (nI j)), (3, .int t), (4, .int (nI i))] 5 [] := by
    intro fu
    induction fu with
    | zero => intro i t d r hi hr hs hm; exact absurd hm (Nat.not_lt_zero _)
    | succ fu ih5 =>
      intro i t d r hi hr hs hm
      refine J_iload E dX6_isSo_5 4 rfl ?_
      refine J_aload_n E dX6_isSo_7 rfl 0 rfl ?_
      refine gM0_X6_34 E dX6_isSo_8 ?_
      refine J_iload_n E dX6_isSo_11 rfl 1 rfl ?_
      refine lMz_1 E  dX6_isSo_12 ?_
      refine J_top (x' := y 9 1 1) (Eq.trans (upG_n (by decide)) (upG_n (by decide))) ?_
      refine J_top (x' := nI n) (hn) ?_
      refine J_icmp_ge E (tgt := 67) dX6_isSo_13 (by decide) (fun c_13 => ?_) (fun c_13 => ?_)
      · skip
        have n_13 : n ≤ i := cmp_le (a := n) (b := i) (by omega) (by omega) c_13
        refine J_iload_n E dX6_isSo_67 rfl 3 rfl ?_
        exact ret _ _ _ _ ⟨by rw [hs, show i = n by omega], d, by subst hr; rw [show n = i by omega]⟩ (by rw [hs]; exact bI_nar) dX6_isSo_68
      · skip
        have n_13 : ¬ n ≤ i := cmp_nle (a := n) (b := i) (by omega) (by omega) c_13
        refine J_aload_n E dX6_isSo_16 rfl 0 rfl ?_
        refine gM0_X6_37 E dX6_isSo_17 ?_
        refine J_bipush E dX6_isSo_20 bp_40 ?_
        refine J_iload_n E dX6_isSo_22 rfl 1 rfl ?_
        refine J_imul E dX6_isSo_23 ?_
        refine J_top (x' := nI 40) (by decide) ?_
        refine J_iload E dX6_isSo_24 4 rfl ?_
        refine J_iadd E dX6_isSo_26 ?_
        refine J_top (x' := nI (40 + i)) (nI_add 40 i) ?_
        refine lMn_1 E (j := (40 + i)) (i := i) rfl (by omega) dX6_isSo_27 ?_
        refine J_top (x' := y 9 0 i) (Eq.trans (upG_n (by decide)) (upG_n (by decide))) ?_
        refine J_istore E (lv' := [(5, .int (y 9 0 i)), (0, .ref (b 0)), (1, .int (nI 1)), (2, .int (nI j)), (3, .int t), (4, .int (nI i))]) dX6_isSo_28 (by decide) rfl ?_
        refine J_iload_n E dX6_isSo_30 rfl 4 rfl ?_
        refine J_if_eq E (tgt := 55) dX6_isSo_31 (by decide) (fun c_31 => ?_) (fun c_31 => ?_)
        · skip
          refine J_iconst E dX6_isSo_55 ic_0 ?_
          refine J_istore_n E (lv' := [(3, .int 0), (5, .int (y 9 0 i)), (0, .ref (b 0)), (1, .int (nI 1)), (2, .int (nI j)), (4, .int (nI i))]) dX6_isSo_56 rfl (by decide) rfl ?_
          refine J_aload_n E dX6_isSo_57 rfl 2 rfl ?_
          refine J_cVv0 E (As := []) (c_X6_anHour l G b (upG (upG y 5 d) 0 r) (by rw [hr]; exact okQ_hs hok i)) cl_X6_138 yo_X6_anHour dX6_isSo_58 rfl rfl rfl (Nat.le_of_ble_eq_true rfl) (Nat.le_of_ble_eq_true rfl) rfl (Nat.le_of_ble_eq_true rfl) ⟨Nat.zero_le _, Nat.zero_le _⟩ ?_
          refine J_iinc E (lv' := [(4, .int (nI (i + 1))), (3, .int 0), (5, .int (y 9 0 i)), (0, .ref (b 0)), (1, .int (nI 1)), (2, .int (nI j))]) dX6_isSo_61 5 rfl (nI_inc _) (by decide) rfl ?_
          refine J_goto E (tgt := 5) dX6_isSo_64 (by decide) ?_
          refine J_lv [3, 4, 5, 1, 0] rfl ?_
          exact ih5 (i + 1) 0 (hd5 r d) (hourR0 r) (by omega) (by rw [hr]; rfl) (by rw [hr] at *; first | (rw [bI_t]; rw [soF, bool_t hs c_31]; simp [c_37]; done) | (rw [bI_t]; rw [soF, bool_t hs c_31]; simp [c_48]; done) | (rw [bI_f]; rw [soF]; intro z; have z := Bool.and_eq_true_iff.mp z; first | exact bool_b hs c_31 z.1 | exact (of_decide_eq_true z.2).elim c_37 c_48)) (by omega)
        · skip
          refine J_iload E dX6_isSo_34 0 rfl ?_
          refine J_iconst E dX6_isSo_36 ic_m1 ?_
          refine J_icmp_eq E (tgt := 51) dX6_isSo_37 (by decide) (fun c_37 => ?_) (fun c_37 => ?_)
          · skip
            refine J_iconst E dX6_isSo_51 ic_1 ?_
            refine J_goto E (tgt := 56) dX6_isSo_52 (by decide) ?_
            refine J_istore_n E (lv' := [(3, .int 1), (5, .int (y 9 0 i)), (0, .ref (b 0)), (1, .int (nI 1)), (2, .int (nI j)), (4, .int (nI i))]) dX6_isSo_56 rfl (by decide) rfl ?_
            refine J_aload_n E dX6_isSo_57 rfl 2 rfl ?_
            refine J_cVv0 E (As := []) (c_X6_anHour l G b (upG (upG y 5 d) 0 r) (by rw [hr]; exact okQ_hs hok i)) cl_X6_138 yo_X6_anHour dX6_isSo_58 rfl rfl rfl (Nat.le_of_ble_eq_true rfl) (Nat.le_of_ble_eq_true rfl) rfl (Nat.le_of_ble_eq_true rfl) ⟨Nat.zero_le _, Nat.zero_le _⟩ ?_
            refine J_iinc E (lv' := [(4, .int (nI (i + 1))), (3, .int 1), (5, .int (y 9 0 i)), (0, .ref (b 0)), (1, .int (nI 1)), (2, .int (nI j))]) dX6_isSo_61 5 rfl (nI_inc _) (by decide) rfl ?_
            refine J_goto E (tgt := 5) dX6_isSo_64 (by decide) ?_
            refine J_lv [3, 4, 5, 1, 0] rfl ?_
            exact ih5 (i + 1) 1 (hd5 r d) (hourR0 r) (by omega) (by rw [hr]; rfl) (by rw [hr] at *; first | (rw [bI_t]; rw [soF, bool_t hs c_31]; simp [c_37]; done) | (rw [bI_t]; rw [soF, bool_t hs c_31]; simp [c_48]; done) | (rw [bI_f]; rw [soF]; intro z; have z := Bool.and_eq_true_iff.mp z; first | exact bool_b hs c_31 z.1 | exact (of_decide_eq_true z.2).elim c_37 c_48)) (by omega)
          · skip
            refine J_iload E dX6_isSo_40 0 rfl ?_
            refine J_aload_n E dX6_isSo_42 rfl 1 rfl ?_
            refine J_iload_n E dX6_isSo_43 rfl 3 rfl ?_
            refine J_iconst E dX6_isSo_44 ic_1 ?_
            refine J_cVi0 E (As := [.int (nI j), .int 1]) (c_X6_its l G b (upG (upG y 5 d) 0 r) j 1 (by omega) (by omega)) cl_X6_64 yo_X6_its dX6_isSo_45 rfl rfl rfl (Nat.le_of_ble_eq_true rfl) (Nat.le_of_ble_eq_true rfl) rfl (Nat.le_of_ble_eq_true rfl) ⟨Nat.zero_le _, Nat.zero_le _⟩ ?_
            refine J_top (x' := r 1 j) (upG_s) ?_
            refine J_icmp_ne E (tgt := 55) dX6_isSo_48 (by decide) (fun c_48 => ?_) (fun c_48 => ?_)
            · skip
              refine J_iconst E dX6_isSo_55 ic_0 ?_
              refine J_istore_n E (lv' := [(3, .int 0), (5, .int (y 9 0 i)), (0, .ref (b 0)), (1, .int (nI 1)), (2, .int (nI j)), (4, .int (nI i))]) dX6_isSo_56 rfl (by decide) rfl ?_
              refine J_aload_n E dX6_isSo_57 rfl 2 rfl ?_
              refine J_cVv0 E (As := []) (c_X6_anHour l G b (upG (upG y 5 d) 0 r) (by rw [hr]; exact okQ_hs hok i)) cl_X6_138 yo_X6_anHour dX6_isSo_58 rfl rfl rfl (Nat.le_of_ble_eq_true rfl) (Nat.le_of_ble_eq_true rfl) rfl (Nat.le_of_ble_eq_true rfl) ⟨Nat.zero_le _, Nat.zero_le _⟩ ?_
              refine J_iinc E (lv' := [(4, .int (nI (i + 1))), (3, .int 0), (5, .int (y 9 0 i)), (0, .ref (b 0)), (1, .int (nI 1)), (2, .int (nI j))]) dX6_isSo_61 5 rfl (nI_inc _) (by decide) rfl ?_
              refine J_goto E (tgt := 5) dX6_isSo_64 (by decide) ?_
              refine J_lv [3, 4, 5, 1, 0] rfl ?_
              exact ih5 (i + 1) 0 (hd5 r d) (hourR0 r) (by omega) (by rw [hr]; rfl) (by rw [hr] at *; first | (rw [bI_t]; rw [soF, bool_t hs c_31]; simp [c_37]; done) | (rw [bI_t]; rw [soF, bool_t hs c_31]; simp [c_48]; done) | (rw [bI_f]; rw [soF]; intro z; have z := Bool.and_eq_true_iff.mp z; first | exact bool_b hs c_31 z.1 | exact (of_decide_eq_true z.2).elim c_37 c_48)) (by omega)
            · skip
              refine J_iconst E dX6_isSo_51 ic_1 ?_
              refine J_goto E (tgt := 56) dX6_isSo_52 (by decide) ?_
              refine J_istore_n E (lv' := [(3, .int 1), (5, .int (y 9 0 i)), (0, .ref (b 0)), (1, .int (nI 1)), (2, .int (nI j)), (4, .int (nI i))]) dX6_isSo_56 rfl (by decide) rfl ?_
              refine J_aload_n E dX6_isSo_57 rfl 2 rfl ?_
              refine J_cVv0 E (As := []) (c_X6_anHour l G b (upG (upG y 5 d) 0 r) (by rw [hr]; exact okQ_hs hok i)) cl_X6_138 yo_X6_anHour dX6_isSo_58 rfl rfl rfl (Nat.le_of_ble_eq_true rfl) (Nat.le_of_ble_eq_true rfl) rfl (Nat.le_of_ble_eq_true rfl) ⟨Nat.zero_le _, Nat.zero_le _⟩ ?_
              refine J_iinc E (lv' := [(4, .int (nI (i + 1))), (3, .int 1), (5, .int (y 9 0 i)), (0, .ref (b 0)), (1, .int (nI 1)), (2, .int (nI j))]) dX6_isSo_61 5 rfl (nI_inc _) (by decide) rfl ?_
              refine J_goto E (tgt := 5) dX6_isSo_64 (by decide) ?_
              refine J_lv [3, 4, 5, 1, 0] rfl ?_
              exact ih5 (i + 1) 1 (hd5 r d) (hourR0 r) (by omega) (by rw [hr]; rfl) (by rw [hr] at *; first | (rw [bI_t]; rw [soF, bool_t hs c_31]; simp [c_37]; done) | (rw [bI_t]; rw [soF, bool_t hs c_31]; simp [c_48]; done) | (rw [bI_f]; rw [soF]; intro z; have z := Bool.and_eq_true_iff.mp z; first | exact bool_b hs c_31 z.1 | exact (of_decide_eq_true z.2).elim c_37 c_48)) (by omega)
  refine J_lv [2, 3, 4, 1, 0] rfl ?_
  exact lp5 _ 0 1 (y 5) (y 0) (by omega) rfl rfl (Nat.lt_succ_self _)

set_option maxHeartbeats 4000000 in
set_option maxRecDepth 20000 in
theorem c_X6_isSo_2 (l : Launch) (G : GB) (b : Nat → Nat) (y : Q3) (j n : Nat) (hj : j < 11) (hn : y 10 1 1 = nI n) (hn2 : n ≤ 40) (hok : okQ (y 0))  : CI l yX6_isSo cX6_isSo 6 .boolean 4 91 G [.ref (b 0), .int (nI 2), .int (nI j)] (wM G b y) (fun vR w' => vR = bI (soF (y 10 0) j (y 0) n = true) ∧ ∃ d : Q2, w' = wM G b (upG (upG y 5 d) 0 (hoursR (y 0) n))) := by
  refine CI.mk (own := RX6) (by decide) rfl (Nat.le_of_ble_eq_true rfl) ?_
  intro X E ret
  show J X G 6 0 0 (wM G b y) [(0, .ref (b 0)), (1, .int (nI 2)), (2, .int (nI j))] 0 []
  refine J_iconst E dX6_isSo_0 ic_1 ?_
  refine J_istore_n E (lv' := [(3, .int 1), (0, .ref (b 0)), (1, .int (nI 2)), (2, .int (nI j))]) dX6_isSo_1 rfl (by decide) rfl ?_
  refine J_iconst E dX6_isSo_2 ic_0 ?_
  refine J_istore E (lv' := [(4, .int 0), (3, .int 1), (0, .ref (b 0)), (1, .int (nI 2)), (2, .int (nI j))]) dX6_isSo_3 (by decide) rfl ?_
  refine J_w (ws' := wM G b (upG y 5 (y 5))) (congrArg (wM G b) upG_id.symm) ?_
  have lp5 : ∀ (fu : Nat) (i : Nat) (t : Int32) (d : Q2) (r : Q2), (i ≤ n) → (r = hoursR (y 0) i) → (t = bI (soF (y 10 0) j (y 0) i = true)) → n - i < fu → J X G 6 0 0 (wM G b (upG (upG y 5 d) 0 r)) [(0, .ref (b 0)), (1, .int (nI 2)), (2, .int (nI j)), (3, .int t), (4, .int (nI i))] 5 [] := by
    intro fu
    induction fu with
    | zero => intro i t d r hi hr hs hm; exact absurd hm (Nat.not_lt_zero _)
    | succ fu ih5 =>
      intro i t d r hi hr hs hm
      refine J_iload E dX6_isSo_5 4 rfl ?_
      refine J_aload_n E dX6_isSo_7 rfl 0 rfl ?_
      refine gM0_X6_34 E dX6_isSo_8 ?_
      refine J_iload_n E dX6_isSo_11 rfl 1 rfl ?_
      refine lMz_2 E  dX6_isSo_12 ?_
      refine J_top (x' := y 10 1 1) (Eq.trans (upG_n (by decide)) (upG_n (by decide))) ?_
      refine J_top (x' := nI n) (hn) ?_
      refine J_icmp_ge E (tgt := 67) dX6_isSo_13 (by decide) (fun c_13 => ?_) (fun c_13 => ?_)
      · skip
        have n_13 : n ≤ i := cmp_le (a := n) (b := i) (by omega) (by omega) c_13
        refine J_iload_n E dX6_isSo_67 rfl 3 rfl ?_
        exact ret _ _ _ _ ⟨by rw [hs, show i = n by omega], d, by subst hr; rw [show n = i by omega]⟩ (by rw [hs]; exact bI_nar) dX6_isSo_68
      · skip
        have n_13 : ¬ n ≤ i := cmp_nle (a := n) (b := i) (by omega) (by omega) c_13
        refine J_aload_n E dX6_isSo_16 rfl 0 rfl ?_
        refine gM0_X6_37 E dX6_isSo_17 ?_
        refine J_bipush E dX6_isSo_20 bp_40 ?_
        refine J_iload_n E dX6_isSo_22 rfl 1 rfl ?_
        refine J_imul E dX6_isSo_23 ?_
        refine J_top (x' := nI 80) (by decide) ?_
        refine J_iload E dX6_isSo_24 4 rfl ?_
        refine J_iadd E dX6_isSo_26 ?_
        refine J_top (x' := nI (80 + i)) (nI_add 80 i) ?_
        refine lMn_2 E (j := (80 + i)) (i := i) rfl (by omega) dX6_isSo_27 ?_
        refine J_top (x' := y 10 0 i) (Eq.trans (upG_n (by decide)) (upG_n (by decide))) ?_
        refine J_istore E (lv' := [(5, .int (y 10 0 i)), (0, .ref (b 0)), (1, .int (nI 2)), (2, .int (nI j)), (3, .int t), (4, .int (nI i))]) dX6_isSo_28 (by decide) rfl ?_
        refine J_iload_n E dX6_isSo_30 rfl 4 rfl ?_
        refine J_if_eq E (tgt := 55) dX6_isSo_31 (by decide) (fun c_31 => ?_) (fun c_31 => ?_)
        · skip
          refine J_iconst E dX6_isSo_55 ic_0 ?_
          refine J_istore_n E (lv' := [(3, .int 0), (5, .int (y 10 0 i)), (0, .ref (b 0)), (1, .int (nI 2)), (2, .int (nI j)), (4, .int (nI i))]) dX6_isSo_56 rfl (by decide) rfl ?_
          refine J_aload_n E dX6_isSo_57 rfl 2 rfl ?_
          refine J_cVv0 E (As := []) (c_X6_anHour l G b (upG (upG y 5 d) 0 r) (by rw [hr]; exact okQ_hs hok i)) cl_X6_138 yo_X6_anHour dX6_isSo_58 rfl rfl rfl (Nat.le_of_ble_eq_true rfl) (Nat.le_of_ble_eq_true rfl) rfl (Nat.le_of_ble_eq_true rfl) ⟨Nat.zero_le _, Nat.zero_le _⟩ ?_
          refine J_iinc E (lv' := [(4, .int (nI (i + 1))), (3, .int 0), (5, .int (y 10 0 i)), (0, .ref (b 0)), (1, .int (nI 2)), (2, .int (nI j))]) dX6_isSo_61 5 rfl (nI_inc _) (by decide) rfl ?_
          refine J_goto E (tgt := 5) dX6_isSo_64 (by decide) ?_
          refine J_lv [3, 4, 5, 1, 0] rfl ?_
          exact ih5 (i + 1) 0 (hd5 r d) (hourR0 r) (by omega) (by rw [hr]; rfl) (by rw [hr] at *; first | (rw [bI_t]; rw [soF, bool_t hs c_31]; simp [c_37]; done) | (rw [bI_t]; rw [soF, bool_t hs c_31]; simp [c_48]; done) | (rw [bI_f]; rw [soF]; intro z; have z := Bool.and_eq_true_iff.mp z; first | exact bool_b hs c_31 z.1 | exact (of_decide_eq_true z.2).elim c_37 c_48)) (by omega)
        · skip
          refine J_iload E dX6_isSo_34 0 rfl ?_
          refine J_iconst E dX6_isSo_36 ic_m1 ?_
          refine J_icmp_eq E (tgt := 51) dX6_isSo_37 (by decide) (fun c_37 => ?_) (fun c_37 => ?_)
          · skip
            refine J_iconst E dX6_isSo_51 ic_1 ?_
            refine J_goto E (tgt := 56) dX6_isSo_52 (by decide) ?_
            refine J_istore_n E (lv' := [(3, .int 1), (5, .int (y 10 0 i)), (0, .ref (b 0)), (1, .int (nI 2)), (2, .int (nI j)), (4, .int (nI i))]) dX6_isSo_56 rfl (by decide) rfl ?_
            refine J_aload_n E dX6_isSo_57 rfl 2 rfl ?_
            refine J_cVv0 E (As := []) (c_X6_anHour l G b (upG (upG y 5 d) 0 r) (by rw [hr]; exact okQ_hs hok i)) cl_X6_138 yo_X6_anHour dX6_isSo_58 rfl rfl rfl (Nat.le_of_ble_eq_true rfl) (Nat.le_of_ble_eq_true rfl) rfl (Nat.le_of_ble_eq_true rfl) ⟨Nat.zero_le _, Nat.zero_le _⟩ ?_
            refine J_iinc E (lv' := [(4, .int (nI (i + 1))), (3, .int 1), (5, .int (y 10 0 i)), (0, .ref (b 0)), (1, .int (nI 2)), (2, .int (nI j))]) dX6_isSo_61 5 rfl (nI_inc _) (by decide) rfl ?_
            refine J_goto E (tgt := 5) dX6_isSo_64 (by decide) ?_
            refine J_lv [3, 4, 5, 1, 0] rfl ?_
            exact ih5 (i + 1) 1 (hd5 r d) (hourR0 r) (by omega) (by rw [hr]; rfl) (by rw [hr] at *; first | (rw [bI_t]; rw [soF, bool_t hs c_31]; simp [c_37]; done) | (rw [bI_t]; rw [soF, bool_t hs c_31]; simp [c_48]; done) | (rw [bI_f]; rw [soF]; intro z; have z := Bool.and_eq_true_iff.mp z; first | exact bool_b hs c_31 z.1 | exact (of_decide_eq_true z.2).elim c_37 c_48)) (by omega)
          · skip
            refine J_iload E dX6_isSo_40 0 rfl ?_
            refine J_aload_n E dX6_isSo_42 rfl 1 rfl ?_
            refine J_iload_n E dX6_isSo_43 rfl 3 rfl ?_
            refine J_iconst E dX6_isSo_44 ic_1 ?_
            refine J_cVi0 E (As := [.int (nI j), .int 1]) (c_X6_its l G b (upG (upG y 5 d) 0 r) j 1 (by omega) (by omega)) cl_X6_64 yo_X6_its dX6_isSo_45 rfl rfl rfl (Nat.le_of_ble_eq_true rfl) (Nat.le_of_ble_eq_true rfl) rfl (Nat.le_of_ble_eq_true rfl) ⟨Nat.zero_le _, Nat.zero_le _⟩ ?_
            refine J_top (x' := r 1 j) (upG_s) ?_
            refine J_icmp_ne E (tgt := 55) dX6_isSo_48 (by decide) (fun c_48 => ?_) (fun c_48 => ?_)
            · skip
              refine J_iconst E dX6_isSo_55 ic_0 ?_
              refine J_istore_n E (lv' := [(3, .int 0), (5, .int (y 10 0 i)), (0, .ref (b 0)), (1, .int (nI 2)), (2, .int (nI j)), (4, .int (nI i))]) dX6_isSo_56 rfl (by decide) rfl ?_
              refine J_aload_n E dX6_isSo_57 rfl 2 rfl ?_
              refine J_cVv0 E (As := []) (c_X6_anHour l G b (upG (upG y 5 d) 0 r) (by rw [hr]; exact okQ_hs hok i)) cl_X6_138 yo_X6_anHour dX6_isSo_58 rfl rfl rfl (Nat.le_of_ble_eq_true rfl) (Nat.le_of_ble_eq_true rfl) rfl (Nat.le_of_ble_eq_true rfl) ⟨Nat.zero_le _, Nat.zero_le _⟩ ?_
              refine J_iinc E (lv' := [(4, .int (nI (i + 1))), (3, .int 0), (5, .int (y 10 0 i)), (0, .ref (b 0)), (1, .int (nI 2)), (2, .int (nI j))]) dX6_isSo_61 5 rfl (nI_inc _) (by decide) rfl ?_
              refine J_goto E (tgt := 5) dX6_isSo_64 (by decide) ?_
              refine J_lv [3, 4, 5, 1, 0] rfl ?_
              exact ih5 (i + 1) 0 (hd5 r d) (hourR0 r) (by omega) (by rw [hr]; rfl) (by rw [hr] at *; first | (rw [bI_t]; rw [soF, bool_t hs c_31]; simp [c_37]; done) | (rw [bI_t]; rw [soF, bool_t hs c_31]; simp [c_48]; done) | (rw [bI_f]; rw [soF]; intro z; have z := Bool.and_eq_true_iff.mp z; first | exact bool_b hs c_31 z.1 | exact (of_decide_eq_true z.2).elim c_37 c_48)) (by omega)
            · skip
              refine J_iconst E dX6_isSo_51 ic_1 ?_
              refine J_goto E (tgt := 56) dX6_isSo_52 (by decide) ?_
              refine J_istore_n E (lv' := [(3, .int 1), (5, .int (y 10 0 i)), (0, .ref (b 0)), (1, .int (nI 2)), (2, .int (nI j)), (4, .int (nI i))]) dX6_isSo_56 rfl (by decide) rfl ?_
              refine J_aload_n E dX6_isSo_57 rfl 2 rfl ?_
              refine J_cVv0 E (As := []) (c_X6_anHour l G b (upG (upG y 5 d) 0 r) (by rw [hr]; exact okQ_hs hok i)) cl_X6_138 yo_X6_anHour dX6_isSo_58 rfl rfl rfl (Nat.le_of_ble_eq_true rfl) (Nat.le_of_ble_eq_true rfl) rfl (Nat.le_of_ble_eq_true rfl) ⟨Nat.zero_le _, Nat.zero_le _⟩ ?_
              refine J_iinc E (lv' := [(4, .int (nI (i + 1))), (3, .int 1), (5, .int (y 10 0 i)), (0, .ref (b 0)), (1, .int (nI 2)), (2, .int (nI j))]) dX6_isSo_61 5 rfl (nI_inc _) (by decide) rfl ?_
              refine J_goto E (tgt := 5) dX6_isSo_64 (by decide) ?_
              refine J_lv [3, 4, 5, 1, 0] rfl ?_
              exact ih5 (i + 1) 1 (hd5 r d) (hourR0 r) (by omega) (by rw [hr]; rfl) (by rw [hr] at *; first | (rw [bI_t]; rw [soF, bool_t hs c_31]; simp [c_37]; done) | (rw [bI_t]; rw [soF, bool_t hs c_31]; simp [c_48]; done) | (rw [bI_f]; rw [soF]; intro z; have z := Bool.and_eq_true_iff.mp z; first | exact bool_b hs c_31 z.1 | exact (of_decide_eq_true z.2).elim c_37 c_48)) (by omega)
  refine J_lv [2, 3, 4, 1, 0] rfl ?_
  exact lp5 _ 0 1 (y 5) (y 0) (by omega) rfl rfl (Nat.lt_succ_self _)

set_option maxHeartbeats 4000000 in
set_option maxRecDepth 20000 in
theorem c_X6_isSo_3 (l : Launch) (G : GB) (b : Nat → Nat) (y : Q3) (j n : Nat) (hj : j < 11) (hn : y 11 1 1 = nI n) (hn2 : n ≤ 40) (hok : okQ (y 0))  : CI l yX6_isSo cX6_isSo 6 .boolean 4 91 G [.ref (b 0), .int (nI 3), .int (nI j)] (wM G b y) (fun vR w' => vR = bI (soF (y 11 0) j (y 0) n = true) ∧ ∃ d : Q2, w' = wM G b (upG (upG y 5 d) 0 (hoursR (y 0) n))) := by
  refine CI.mk (own := RX6) (by decide) rfl (Nat.le_of_ble_eq_true rfl) ?_
  intro X E ret
  show J X G 6 0 0 (wM G b y) [(0, .ref (b 0)), (1, .int (nI 3)), (2, .int (nI j))] 0 []
  refine J_iconst E dX6_isSo_0 ic_1 ?_
  refine J_istore_n E (lv' := [(3, .int 1), (0, .ref (b 0)), (1, .int (nI 3)), (2, .int (nI j))]) dX6_isSo_1 rfl (by decide) rfl ?_
  refine J_iconst E dX6_isSo_2 ic_0 ?_
  refine J_istore E (lv' := [(4, .int 0), (3, .int 1), (0, .ref (b 0)), (1, .int (nI 3)), (2, .int (nI j))]) dX6_isSo_3 (by decide) rfl ?_
  refine J_w (ws' := wM G b (upG y 5 (y 5))) (congrArg (wM G b) upG_id.symm) ?_
  have lp5 : ∀ (fu : Nat) (i : Nat) (t : Int32) (d : Q2) (r : Q2), (i ≤ n) → (r = hoursR (y 0) i) → (t = bI (soF (y 11 0) j (y 0) i = true)) → n - i < fu → J X G 6 0 0 (wM G b (upG (upG y 5 d) 0 r)) [(0, .ref (b 0)), (1, .int (nI 3)), (2, .int (nI j)), (3, .int t), (4, .int (nI i))] 5 [] := by
    intro fu
    induction fu with
    | zero => intro i t d r hi hr hs hm; exact absurd hm (Nat.not_lt_zero _)
    | succ fu ih5 =>
      intro i t d r hi hr hs hm
      refine J_iload E dX6_isSo_5 4 rfl ?_
      refine J_aload_n E dX6_isSo_7 rfl 0 rfl ?_
      refine gM0_X6_34 E dX6_isSo_8 ?_
      refine J_iload_n E dX6_isSo_11 rfl 1 rfl ?_
      refine lMz_3 E  dX6_isSo_12 ?_
      refine J_top (x' := y 11 1 1) (Eq.trans (upG_n (by decide)) (upG_n (by decide))) ?_
      refine J_top (x' := nI n) (hn) ?_
      refine J_icmp_ge E (tgt := 67) dX6_isSo_13 (by decide) (fun c_13 => ?_) (fun c_13 => ?_)
      · skip
        have n_13 : n ≤ i := cmp_le (a := n) (b := i) (by omega) (by omega) c_13
        refine J_iload_n E dX6_isSo_67 rfl 3 rfl ?_
        exact ret _ _ _ _ ⟨by rw [hs, show i = n by omega], d, by subst hr; rw [show n = i by omega]⟩ (by rw [hs]; exact bI_nar) dX6_isSo_68
      · skip
        have n_13 : ¬ n ≤ i := cmp_nle (a := n) (b := i) (by omega) (by omega) c_13
        refine J_aload_n E dX6_isSo_16 rfl 0 rfl ?_
        refine gM0_X6_37 E dX6_isSo_17 ?_
        refine J_bipush E dX6_isSo_20 bp_40 ?_
        refine J_iload_n E dX6_isSo_22 rfl 1 rfl ?_
        refine J_imul E dX6_isSo_23 ?_
        refine J_top (x' := nI 120) (by decide) ?_
        refine J_iload E dX6_isSo_24 4 rfl ?_
        refine J_iadd E dX6_isSo_26 ?_
        refine J_top (x' := nI (120 + i)) (nI_add 120 i) ?_
        refine lMn_3 E (j := (120 + i)) (i := i) rfl (by omega) dX6_isSo_27 ?_
        refine J_top (x' := y 11 0 i) (Eq.trans (upG_n (by decide)) (upG_n (by decide))) ?_
        refine J_istore E (lv' := [(5, .int (y 11 0 i)), (0, .ref (b 0)), (1, .int (nI 3)), (2, .int (nI j)), (3, .int t), (4, .int (nI i))]) dX6_isSo_28 (by decide) rfl ?_
        refine J_iload_n E dX6_isSo_30 rfl 4 rfl ?_
        refine J_if_eq E (tgt := 55) dX6_isSo_31 (by decide) (fun c_31 => ?_) (fun c_31 => ?_)
        · skip
          refine J_iconst E dX6_isSo_55 ic_0 ?_
          refine J_istore_n E (lv' := [(3, .int 0), (5, .int (y 11 0 i)), (0, .ref (b 0)), (1, .int (nI 3)), (2, .int (nI j)), (4, .int (nI i))]) dX6_isSo_56 rfl (by decide) rfl ?_
          refine J_aload_n E dX6_isSo_57 rfl 2 rfl ?_
          refine J_cVv0 E (As := []) (c_X6_anHour l G b (upG (upG y 5 d) 0 r) (by rw [hr]; exact okQ_hs hok i)) cl_X6_138 yo_X6_anHour dX6_isSo_58 rfl rfl rfl (Nat.le_of_ble_eq_true rfl) (Nat.le_of_ble_eq_true rfl) rfl (Nat.le_of_ble_eq_true rfl) ⟨Nat.zero_le _, Nat.zero_le _⟩ ?_
          refine J_iinc E (lv' := [(4, .int (nI (i + 1))), (3, .int 0), (5, .int (y 11 0 i)), (0, .ref (b 0)), (1, .int (nI 3)), (2, .int (nI j))]) dX6_isSo_61 5 rfl (nI_inc _) (by decide) rfl ?_
          refine J_goto E (tgt := 5) dX6_isSo_64 (by decide) ?_
          refine J_lv [3, 4, 5, 1, 0] rfl ?_
          exact ih5 (i + 1) 0 (hd5 r d) (hourR0 r) (by omega) (by rw [hr]; rfl) (by rw [hr] at *; first | (rw [bI_t]; rw [soF, bool_t hs c_31]; simp [c_37]; done) | (rw [bI_t]; rw [soF, bool_t hs c_31]; simp [c_48]; done) | (rw [bI_f]; rw [soF]; intro z; have z := Bool.and_eq_true_iff.mp z; first | exact bool_b hs c_31 z.1 | exact (of_decide_eq_true z.2).elim c_37 c_48)) (by omega)
        · skip
          refine J_iload E dX6_isSo_34 0 rfl ?_
          refine J_iconst E dX6_isSo_36 ic_m1 ?_
          refine J_icmp_eq E (tgt := 51) dX6_isSo_37 (by decide) (fun c_37 => ?_) (fun c_37 => ?_)
          · skip
            refine J_iconst E dX6_isSo_51 ic_1 ?_
            refine J_goto E (tgt := 56) dX6_isSo_52 (by decide) ?_
            refine J_istore_n E (lv' := [(3, .int 1), (5, .int (y 11 0 i)), (0, .ref (b 0)), (1, .int (nI 3)), (2, .int (nI j)), (4, .int (nI i))]) dX6_isSo_56 rfl (by decide) rfl ?_
            refine J_aload_n E dX6_isSo_57 rfl 2 rfl ?_
            refine J_cVv0 E (As := []) (c_X6_anHour l G b (upG (upG y 5 d) 0 r) (by rw [hr]; exact okQ_hs hok i)) cl_X6_138 yo_X6_anHour dX6_isSo_58 rfl rfl rfl (Nat.le_of_ble_eq_true rfl) (Nat.le_of_ble_eq_true rfl) rfl (Nat.le_of_ble_eq_true rfl) ⟨Nat.zero_le _, Nat.zero_le _⟩ ?_
            refine J_iinc E (lv' := [(4, .int (nI (i + 1))), (3, .int 1), (5, .int (y 11 0 i)), (0, .ref (b 0)), (1, .int (nI 3)), (2, .int (nI j))]) dX6_isSo_61 5 rfl (nI_inc _) (by decide) rfl ?_
            refine J_goto E (tgt := 5) dX6_isSo_64 (by decide) ?_
            refine J_lv [3, 4, 5, 1, 0] rfl ?_
            exact ih5 (i + 1) 1 (hd5 r d) (hourR0 r) (by omega) (by rw [hr]; rfl) (by rw [hr] at *; first | (rw [bI_t]; rw [soF, bool_t hs c_31]; simp [c_37]; done) | (rw [bI_t]; rw [soF, bool_t hs c_31]; simp [c_48]; done) | (rw [bI_f]; rw [soF]; intro z; have z := Bool.and_eq_true_iff.mp z; first | exact bool_b hs c_31 z.1 | exact (of_decide_eq_true z.2).elim c_37 c_48)) (by omega)
          · skip
            refine J_iload E dX6_isSo_40 0 rfl ?_
            refine J_aload_n E dX6_isSo_42 rfl 1 rfl ?_
            refine J_iload_n E dX6_isSo_43 rfl 3 rfl ?_
            refine J_iconst E dX6_isSo_44 ic_1 ?_
            refine J_cVi0 E (As := [.int (nI j), .int 1]) (c_X6_its l G b (upG (upG y 5 d) 0 r) j 1 (by omega) (by omega)) cl_X6_64 yo_X6_its dX6_isSo_45 rfl rfl rfl (Nat.le_of_ble_eq_true rfl) (Nat.le_of_ble_eq_true rfl) rfl (Nat.le_of_ble_eq_true rfl) ⟨Nat.zero_le _, Nat.zero_le _⟩ ?_
            refine J_top (x' := r 1 j) (upG_s) ?_
            refine J_icmp_ne E (tgt := 55) dX6_isSo_48 (by decide) (fun c_48 => ?_) (fun c_48 => ?_)
            · skip
              refine J_iconst E dX6_isSo_55 ic_0 ?_
              refine J_istore_n E (lv' := [(3, .int 0), (5, .int (y 11 0 i)), (0, .ref (b 0)), (1, .int (nI 3)), (2, .int (nI j)), (4, .int (nI i))]) dX6_isSo_56 rfl (by decide) rfl ?_
              refine J_aload_n E dX6_isSo_57 rfl 2 rfl ?_
              refine J_cVv0 E (As := []) (c_X6_anHour l G b (upG (upG y 5 d) 0 r) (by rw [hr]; exact okQ_hs hok i)) cl_X6_138 yo_X6_anHour dX6_isSo_58 rfl rfl rfl (Nat.le_of_ble_eq_true rfl) (Nat.le_of_ble_eq_true rfl) rfl (Nat.le_of_ble_eq_true rfl) ⟨Nat.zero_le _, Nat.zero_le _⟩ ?_
              refine J_iinc E (lv' := [(4, .int (nI (i + 1))), (3, .int 0), (5, .int (y 11 0 i)), (0, .ref (b 0)), (1, .int (nI 3)), (2, .int (nI j))]) dX6_isSo_61 5 rfl (nI_inc _) (by decide) rfl ?_
              refine J_goto E (tgt := 5) dX6_isSo_64 (by decide) ?_
              refine J_lv [3, 4, 5, 1, 0] rfl ?_
              exact ih5 (i + 1) 0 (hd5 r d) (hourR0 r) (by omega) (by rw [hr]; rfl) (by rw [hr] at *; first | (rw [bI_t]; rw [soF, bool_t hs c_31]; simp [c_37]; done) | (rw [bI_t]; rw [soF, bool_t hs c_31]; simp [c_48]; done) | (rw [bI_f]; rw [soF]; intro z; have z := Bool.and_eq_true_iff.mp z; first | exact bool_b hs c_31 z.1 | exact (of_decide_eq_true z.2).elim c_37 c_48)) (by omega)
            · skip
              refine J_iconst E dX6_isSo_51 ic_1 ?_
              refine J_goto E (tgt := 56) dX6_isSo_52 (by decide) ?_
              refine J_istore_n E (lv' := [(3, .int 1), (5, .int (y 11 0 i)), (0, .ref (b 0)), (1, .int (nI 3)), (2, .int (nI j)), (4, .int (nI i))]) dX6_isSo_56 rfl (by decide) rfl ?_
              refine J_aload_n E dX6_isSo_57 rfl 2 rfl ?_
              refine J_cVv0 E (As := []) (c_X6_anHour l G b (upG (upG y 5 d) 0 r) (by rw [hr]; exact okQ_hs hok i)) cl_X6_138 yo_X6_anHour dX6_isSo_58 rfl rfl rfl (Nat.le_of_ble_eq_true rfl) (Nat.le_of_ble_eq_true rfl) rfl (Nat.le_of_ble_eq_true rfl) ⟨Nat.zero_le _, Nat.zero_le _⟩ ?_
              refine J_iinc E (lv' := [(4, .int (nI (i + 1))), (3, .int 1), (5, .int (y 11 0 i)), (0, .ref (b 0)), (1, .int (nI 3)), (2, .int (nI j))]) dX6_isSo_61 5 rfl (nI_inc _) (by decide) rfl ?_
              refine J_goto E (tgt := 5) dX6_isSo_64 (by decide) ?_
              refine J_lv [3, 4, 5, 1, 0] rfl ?_
              exact ih5 (i + 1) 1 (hd5 r d) (hourR0 r) (by omega) (by rw [hr]; rfl) (by rw [hr] at *; first | (rw [bI_t]; rw [soF, bool_t hs c_31]; simp [c_37]; done) | (rw [bI_t]; rw [soF, bool_t hs c_31]; simp [c_48]; done) | (rw [bI_f]; rw [soF]; intro z; have z := Bool.and_eq_true_iff.mp z; first | exact bool_b hs c_31 z.1 | exact (of_decide_eq_true z.2).elim c_37 c_48)) (by omega)
  refine J_lv [2, 3, 4, 1, 0] rfl ?_
  exact lp5 _ 0 1 (y 5) (y 0) (by omega) rfl rfl (Nat.lt_succ_self _)

set_option maxHeartbeats 4000000 in
set_option maxRecDepth 20000 in
theorem c_X6_turned_out (l : Launch) (G : GB) (b : Nat → Nat) (y : Q3) (s h : Int32) (hs : ¬ (0 ≤ s ∧ s ≤ 3)) : CI l yX6_turned cX6_turned 6 .int 4 89 G [.ref (b 0), .int s, .int h] (wM G b y) (fun vR w' => vR = tellR 0 ∧ PubM G b (tellX y 0) w') := by
  refine CI.mk (own := RX6) (by decide) rfl (Nat.le_of_ble_eq_true rfl) ?_
  intro X E ret
  show J X G 6 0 0 (wM G b y) [(0, .ref (b 0)), (1, .int s), (2, .int h)] 0 []
  refine J_aload_n E dX6_turned_0 rfl 0 rfl ?_
  refine J_iload_n E dX6_turned_1 rfl 1 rfl ?_
  refine J_iload_n E dX6_turned_2 rfl 2 rfl ?_
  refine J_cVi0 E (As := [.int s, .int h]) (c_X6_lacksHouse_out l G b y s h hs ) cl_X6_200 yo_X6_lacksHouse dX6_turned_3 rfl rfl rfl (Nat.le_of_ble_eq_true rfl) (Nat.le_of_ble_eq_true rfl) rfl (Nat.le_of_ble_eq_true rfl) ⟨Nat.zero_le _, Nat.zero_le _⟩ ?_
  refine J_istore_n E (lv' := [(3, .int 0), (0, .ref (b 0)), (1, .int s), (2, .int h)]) dX6_turned_6 rfl (by decide) rfl ?_
  refine J_iload_n E dX6_turned_7 rfl 0 rfl ?_
  refine J_if_lt E (tgt := 17) dX6_turned_8 (by decide) (fun c_8 => ?_) (fun c_8 => ?_)
  · skip
    have n_8 : 0 < 0 := cmp_lt (a := 0) (b := 0) (by omega) (by omega) c_8
    exact absurd n_8 (by decide)
  · skip
    have n_8 : ¬ 0 < 0 := cmp_nlt (a := 0) (b := 0) (by omega) (by omega) c_8
    refine J_aload_n E dX6_turned_11 rfl 1 rfl ?_
    refine J_iload_n E dX6_turned_12 rfl 0 rfl ?_
    refine J_cVi0 E (As := [.int 0]) (c_X6_finds l G b y 0 (by omega)) cl_X6_96 yo_X6_finds dX6_turned_13 rfl rfl rfl (Nat.le_of_ble_eq_true rfl) (Nat.le_of_ble_eq_true rfl) rfl (Nat.le_of_ble_eq_true rfl) ⟨Nat.zero_le _, Nat.zero_le _⟩ ?_
    exact ret _ _ _ _ ⟨rfl, _, rfl, by intro g h2 h5 h6; by_cases h0 : g = 0 <;> simp [tellX, upG, up3, up3R, up2, h0, h2, h5, h6]⟩ rfl dX6_turned_16

set_option maxHeartbeats 4000000 in
set_option maxRecDepth 20000 in
theorem c_X6_turned_miss_0 (l : Launch) (G : GB) (b : Nat → Nat) (y : Q3) (h : Int32) (hb : y 8 1 0 = 0) : CI l yX6_turned cX6_turned 6 .int 4 89 G [.ref (b 0), .int (nI 0), .int h] (wM G b y) (fun vR w' => vR = tellR 5 ∧ PubM G b (tellX y 5) w') := by
  refine CI.mk (own := RX6) (by decide) rfl (Nat.le_of_ble_eq_true rfl) ?_
  intro X E ret
  show J X G 6 0 0 (wM G b y) [(0, .ref (b 0)), (1, .int (nI 0)), (2, .int h)] 0 []
  refine J_aload_n E dX6_turned_0 rfl 0 rfl ?_
  refine J_iload_n E dX6_turned_1 rfl 1 rfl ?_
  refine J_iload_n E dX6_turned_2 rfl 2 rfl ?_
  refine J_cVi0 E (As := [.int (nI 0), .int h]) (c_X6_lacksHouse_0_0 l G b y h hb ) cl_X6_200 yo_X6_lacksHouse dX6_turned_3 rfl rfl rfl (Nat.le_of_ble_eq_true rfl) (Nat.le_of_ble_eq_true rfl) rfl (Nat.le_of_ble_eq_true rfl) ⟨Nat.zero_le _, Nat.zero_le _⟩ ?_
  refine J_istore_n E (lv' := [(3, .int 5), (0, .ref (b 0)), (1, .int (nI 0)), (2, .int h)]) dX6_turned_6 rfl (by decide) rfl ?_
  refine J_iload_n E dX6_turned_7 rfl 0 rfl ?_
  refine J_if_lt E (tgt := 17) dX6_turned_8 (by decide) (fun c_8 => ?_) (fun c_8 => ?_)
  · skip
    have n_8 : 5 < 0 := cmp_lt (a := 5) (b := 0) (by omega) (by omega) c_8
    exact absurd n_8 (by decide)
  · skip
    have n_8 : ¬ 5 < 0 := cmp_nlt (a := 5) (b := 0) (by omega) (by omega) c_8
    refine J_aload_n E dX6_turned_11 rfl 1 rfl ?_
    refine J_iload_n E dX6_turned_12 rfl 0 rfl ?_
    refine J_cVi0 E (As := [.int 5]) (c_X6_finds l G b y 5 (by omega)) cl_X6_96 yo_X6_finds dX6_turned_13 rfl rfl rfl (Nat.le_of_ble_eq_true rfl) (Nat.le_of_ble_eq_true rfl) rfl (Nat.le_of_ble_eq_true rfl) ⟨Nat.zero_le _, Nat.zero_le _⟩ ?_
    exact ret _ _ _ _ ⟨rfl, _, rfl, by intro g h2 h5 h6; by_cases h0 : g = 0 <;> simp [tellX, upG, up3, up3R, up2, h0, h2, h5, h6]⟩ rfl dX6_turned_16

set_option maxHeartbeats 4000000 in
set_option maxRecDepth 20000 in
theorem c_X6_turned_bad_0 (l : Launch) (G : GB) (b : Nat → Nat) (y : Q3) (h : Int32) (hb : ¬ y 8 1 0 = 0) (hh : ¬ okH h) : CI l yX6_turned cX6_turned 6 .int 4 89 G [.ref (b 0), .int (nI 0), .int h] (wM G b y) (fun vR w' => vR = tellR 0 ∧ PubM G b (tellX y 0) w') := by
  refine CI.mk (own := RX6) (by decide) rfl (Nat.le_of_ble_eq_true rfl) ?_
  intro X E ret
  show J X G 6 0 0 (wM G b y) [(0, .ref (b 0)), (1, .int (nI 0)), (2, .int h)] 0 []
  refine J_aload_n E dX6_turned_0 rfl 0 rfl ?_
  refine J_iload_n E dX6_turned_1 rfl 1 rfl ?_
  refine J_iload_n E dX6_turned_2 rfl 2 rfl ?_
  refine J_cVi0 E (As := [.int (nI 0), .int h]) (c_X6_lacksHouse_0_2 l G b y h hb hh ) cl_X6_200 yo_X6_lacksHouse dX6_turned_3 rfl rfl rfl (Nat.le_of_ble_eq_true rfl) (Nat.le_of_ble_eq_true rfl) rfl (Nat.le_of_ble_eq_true rfl) ⟨Nat.zero_le _, Nat.zero_le _⟩ ?_
  refine J_istore_n E (lv' := [(3, .int 0), (0, .ref (b 0)), (1, .int (nI 0)), (2, .int h)]) dX6_turned_6 rfl (by decide) rfl ?_
  refine J_iload_n E dX6_turned_7 rfl 0 rfl ?_
  refine J_if_lt E (tgt := 17) dX6_turned_8 (by decide) (fun c_8 => ?_) (fun c_8 => ?_)
  · skip
    have n_8 : 0 < 0 := cmp_lt (a := 0) (b := 0) (by omega) (by omega) c_8
    exact absurd n_8 (by decide)
  · skip
    have n_8 : ¬ 0 < 0 := cmp_nlt (a := 0) (b := 0) (by omega) (by omega) c_8
    refine J_aload_n E dX6_turned_11 rfl 1 rfl ?_
    refine J_iload_n E dX6_turned_12 rfl 0 rfl ?_
    refine J_cVi0 E (As := [.int 0]) (c_X6_finds l G b y 0 (by omega)) cl_X6_96 yo_X6_finds dX6_turned_13 rfl rfl rfl (Nat.le_of_ble_eq_true rfl) (Nat.le_of_ble_eq_true rfl) rfl (Nat.le_of_ble_eq_true rfl) ⟨Nat.zero_le _, Nat.zero_le _⟩ ?_
    exact ret _ _ _ _ ⟨rfl, _, rfl, by intro g h2 h5 h6; by_cases h0 : g = 0 <;> simp [tellX, upG, up3, up3R, up2, h0, h2, h5, h6]⟩ rfl dX6_turned_16

set_option maxHeartbeats 4000000 in
set_option maxRecDepth 20000 in
theorem c_X6_turned_ok_0 (l : Launch) (G : GB) (b : Nat → Nat) (y : Q3) (j n : Nat) (hb : ¬ y 8 1 0 = 0) (hj : j < 11) (hn : y 8 1 1 = nI n) (hn2 : n ≤ 40) (hok : okQ (y 0))  : CI l yX6_turned cX6_turned 6 .int 5 116 G [.ref (b 0), .int (nI 0), .int (nI j)] (wM G b y) (fun vR w' => vR = setF (fun o => soF (y 8 0) j (turn1 (y 0) o) n) 11 ∧ PubM G b y w') := by
  refine CI.mk (own := RX6) (by decide) rfl (Nat.le_of_ble_eq_true rfl) ?_
  intro X E ret
  show J X G 6 0 0 (wM G b y) [(0, .ref (b 0)), (1, .int (nI 0)), (2, .int (nI j))] 0 []
  refine J_aload_n E dX6_turned_0 rfl 0 rfl ?_
  refine J_iload_n E dX6_turned_1 rfl 1 rfl ?_
  refine J_iload_n E dX6_turned_2 rfl 2 rfl ?_
  refine J_cVi0 E (As := [.int (nI 0), .int (nI j)]) (c_X6_lacksHouse_0_1 l G b y (nI j) hb (inB (a := j) (b := 10) (by omega) (by decide)) ) cl_X6_200 yo_X6_lacksHouse dX6_turned_3 rfl rfl rfl (Nat.le_of_ble_eq_true rfl) (Nat.le_of_ble_eq_true rfl) rfl (Nat.le_of_ble_eq_true rfl) ⟨Nat.zero_le _, Nat.zero_le _⟩ ?_
  refine J_istore_n E (lv' := [(3, .int (-1)), (0, .ref (b 0)), (1, .int (nI 0)), (2, .int (nI j))]) dX6_turned_6 rfl (by decide) rfl ?_
  refine J_iload_n E dX6_turned_7 rfl 0 rfl ?_
  refine J_if_lt E (tgt := 17) dX6_turned_8 (by decide) (fun c_8 => ?_) (fun c_8 => ?_)
  · skip
    refine J_iconst E dX6_turned_17 ic_0 ?_
    refine J_istore E (lv' := [(4, .int 0), (3, .int (-1)), (0, .ref (b 0)), (1, .int (nI 0)), (2, .int (nI j))]) dX6_turned_18 (by decide) rfl ?_
    refine J_iconst E dX6_turned_20 ic_0 ?_
    refine J_istore E (lv' := [(5, .int 0), (4, .int 0), (3, .int (-1)), (0, .ref (b 0)), (1, .int (nI 0)), (2, .int (nI j))]) dX6_turned_21 (by decide) rfl ?_
    refine J_w (ws' := wM G b (upG y 5 (y 5))) (congrArg (wM G b) upG_id.symm) ?_
    have lp23 : ∀ (fu : Nat) (o : Nat) (t : Int32) (d : Q2) (z : Q2), (o ≤ 11) → (t = setF (fun o => soF (y 8 0) j (turn1 (y 0) o) n) o) → 11 - o < fu → J X G 6 0 0 (wM G b (upG (upG y 5 d) 2 z)) [(0, .ref (b 0)), (1, .int (nI 0)), (2, .int (nI j)), (4, .int t), (5, .int (nI o))] 23 [] := by
      intro fu
      induction fu with
      | zero => intro o t d z hi h1 hm; exact absurd hm (Nat.not_lt_zero _)
      | succ fu ih23 =>
        intro o t d z hi h1 hm
        refine J_iload E dX6_turned_23 4 rfl ?_
        refine J_bipush E dX6_turned_25 bp_11 ?_
        refine J_icmp_ge E (tgt := 72) dX6_turned_27 (by decide) (fun c_27 => ?_) (fun c_27 => ?_)
        · skip
          have n_27 : 11 ≤ o := cmp_le (a := 11) (b := o) (by omega) (by omega) c_27
          refine J_iload E dX6_turned_72 3 rfl ?_
          exact ret _ _ _ _ ⟨by rw [h1, show o = 11 by omega], _, rfl, by intro g h2 h5 h6; by_cases h0 : g = 0 <;> simp [tellX, upG, up3, up3R, up2, h0, h2, h5, h6]⟩ rfl dX6_turned_74
        · skip
          have n_27 : ¬ 11 ≤ o := cmp_nle (a := 11) (b := o) (by omega) (by omega) c_27
          refine J_aload_n E dX6_turned_30 rfl 0 rfl ?_
          refine J_cVv0 E (As := []) (c_X6_lends l G b (upG (upG y 5 d) 2 z) ) cl_X6_160 yo_X6_lends dX6_turned_31 rfl rfl rfl (Nat.le_of_ble_eq_true rfl) (Nat.le_of_ble_eq_true rfl) rfl (Nat.le_of_ble_eq_true rfl) ⟨Nat.zero_le _, Nat.zero_le _⟩ ?_
          refine J_aload_n E dX6_turned_34 rfl 0 rfl ?_
          refine J_iload E dX6_turned_35 4 rfl ?_
          refine J_cVv0 E (As := [.int (nI o)]) (c_X6_turns l G b (upG (upG (upG y 5 d) 2 z) 2 (y 0)) o (by omega)) cl_X6_186 yo_X6_turns dX6_turned_37 rfl rfl rfl (Nat.le_of_ble_eq_true rfl) (Nat.le_of_ble_eq_true rfl) rfl (Nat.le_of_ble_eq_true rfl) ⟨Nat.zero_le _, Nat.zero_le _⟩ ?_
          refine J_iload E dX6_turned_40 3 rfl ?_
          refine J_aload_n E dX6_turned_42 rfl 0 rfl ?_
          refine J_iload_n E dX6_turned_43 rfl 1 rfl ?_
          refine J_iload_n E dX6_turned_44 rfl 2 rfl ?_
          refine J_callVi E (As := [.int (nI 0), .int (nI j)]) (q0 := 0) (ci := 5) [] [] (c_X6_isSo_0 l G b (upG (upG (upG (upG y 5 d) 2 z) 2 (y 0)) 0 (turn1 (y 0) o)) j n hj hn hn2 (okQ_1 hok _ (by omega))) cl_X6_203 yo_X6_isSo dX6_turned_45 rfl rfl rfl (Nat.le_of_ble_eq_true rfl) (Nat.le_of_ble_eq_true rfl) rfl (Nat.le_of_ble_eq_true rfl) (by simp) ⟨Nat.zero_le _, Nat.zero_le _⟩ (fun vR w' hp => ?_)
          obtain ⟨rfl, d45_1, rfl⟩ := hp
          refine J_w (ws' := wM G b (upG (upG (upG (upG (upG (upG y 5 d) 2 z) 2 (y 0)) 0 (turn1 (y 0) o)) 5 d45_1) 0 (hoursR (turn1 (y 0) o) n))) (List.append_nil _) ?_
          refine J_top (x' := bI (soF (y 8 0) j (turn1 (y 0) o) n = true)) rfl ?_
          refine J_if_eq E (tgt := 58) dX6_turned_48 (by decide) (fun c_48 => ?_) (fun c_48 => ?_)
          · skip
            have c_48 := bI_0 c_48
            refine J_iconst E dX6_turned_58 ic_0 ?_
            refine J_ior E dX6_turned_59 ?_
            refine J_istore E (lv' := [(4, .int (t ||| 0)), (0, .ref (b 0)), (1, .int (nI 0)), (2, .int (nI j)), (5, .int (nI o))]) dX6_turned_60 (by decide) rfl ?_
            refine J_aload_n E dX6_turned_62 rfl 1 rfl ?_
            refine J_cVv0 E (As := []) (c_X6_laysBack l G b (upG (upG (upG (upG (upG (upG y 5 d) 2 z) 2 (y 0)) 0 (turn1 (y 0) o)) 5 d45_1) 0 (hoursR (turn1 (y 0) o) n)) ) cl_X6_163 yo_X6_laysBack dX6_turned_63 rfl rfl rfl (Nat.le_of_ble_eq_true rfl) (Nat.le_of_ble_eq_true rfl) rfl (Nat.le_of_ble_eq_true rfl) ⟨Nat.zero_le _, Nat.zero_le _⟩ ?_
            refine J_iinc E (lv' := [(5, .int (nI (o + 1))), (4, .int (t ||| 0)), (0, .ref (b 0)), (1, .int (nI 0)), (2, .int (nI j))]) dX6_turned_66 4 rfl (nI_inc _) (by decide) rfl ?_
            refine J_goto E (tgt := 23) dX6_turned_69 (by decide) ?_
            refine J_lv [2, 3, 4, 1, 0] rfl ?_
            exact ih23 (o + 1) (t ||| 0) d45_1 (y 0) (by omega) (by rw [h1, setF]; first | (rw [if_pos c_48]; rfl) | (rw [if_neg c_48, or_0])) (by omega)
          · skip
            have c_48 := bI_1 c_48
            refine J_iconst E dX6_turned_51 ic_1 ?_
            refine J_iload E dX6_turned_52 4 rfl ?_
            refine J_ishl E dX6_turned_54 ?_
            refine J_goto E (tgt := 59) dX6_turned_55 (by decide) ?_
            refine J_ior E dX6_turned_59 ?_
            refine J_istore E (lv' := [(4, .int (t ||| (1 <<< ((nI o) &&& 31)))), (0, .ref (b 0)), (1, .int (nI 0)), (2, .int (nI j)), (5, .int (nI o))]) dX6_turned_60 (by decide) rfl ?_
            refine J_aload_n E dX6_turned_62 rfl 1 rfl ?_
            refine J_cVv0 E (As := []) (c_X6_laysBack l G b (upG (upG (upG (upG (upG (upG y 5 d) 2 z) 2 (y 0)) 0 (turn1 (y 0) o)) 5 d45_1) 0 (hoursR (turn1 (y 0) o) n)) ) cl_X6_163 yo_X6_laysBack dX6_turned_63 rfl rfl rfl (Nat.le_of_ble_eq_true rfl) (Nat.le_of_ble_eq_true rfl) rfl (Nat.le_of_ble_eq_true rfl) ⟨Nat.zero_le _, Nat.zero_le _⟩ ?_
            refine J_iinc E (lv' := [(5, .int (nI (o + 1))), (4, .int (t ||| (1 <<< ((nI o) &&& 31)))), (0, .ref (b 0)), (1, .int (nI 0)), (2, .int (nI j))]) dX6_turned_66 4 rfl (nI_inc _) (by decide) rfl ?_
            refine J_goto E (tgt := 23) dX6_turned_69 (by decide) ?_
            refine J_lv [2, 3, 4, 1, 0] rfl ?_
            exact ih23 (o + 1) (t ||| (1 <<< ((nI o) &&& 31))) d45_1 (y 0) (by omega) (by rw [h1, setF]; first | (rw [if_pos c_48]; rfl) | (rw [if_neg c_48, or_0])) (by omega)
    refine J_lv [3, 4, 5, 1, 0] rfl ?_
    exact lp23 _ 0 0 (y 5) (y 2) (by omega) rfl (Nat.lt_succ_self _)
  · skip
    exact absurd c_8 (by decide)

set_option maxHeartbeats 4000000 in
set_option maxRecDepth 20000 in
theorem c_X6_turned_miss_1 (l : Launch) (G : GB) (b : Nat → Nat) (y : Q3) (h : Int32) (hb : y 9 1 0 = 0) : CI l yX6_turned cX6_turned 6 .int 4 89 G [.ref (b 0), .int (nI 1), .int h] (wM G b y) (fun vR w' => vR = tellR 5 ∧ PubM G b (tellX y 5) w') := by
  refine CI.mk (own := RX6) (by decide) rfl (Nat.le_of_ble_eq_true rfl) ?_
  intro X E ret
  show J X G 6 0 0 (wM G b y) [(0, .ref (b 0)), (1, .int (nI 1)), (2, .int h)] 0 []
  refine J_aload_n E dX6_turned_0 rfl 0 rfl ?_
  refine J_iload_n E dX6_turned_1 rfl 1 rfl ?_
  refine J_iload_n E dX6_turned_2 rfl 2 rfl ?_
  refine J_cVi0 E (As := [.int (nI 1), .int h]) (c_X6_lacksHouse_1_0 l G b y h hb ) cl_X6_200 yo_X6_lacksHouse dX6_turned_3 rfl rfl rfl (Nat.le_of_ble_eq_true rfl) (Nat.le_of_ble_eq_true rfl) rfl (Nat.le_of_ble_eq_true rfl) ⟨Nat.zero_le _, Nat.zero_le _⟩ ?_
  refine J_istore_n E (lv' := [(3, .int 5), (0, .ref (b 0)), (1, .int (nI 1)), (2, .int h)]) dX6_turned_6 rfl (by decide) rfl ?_
  refine J_iload_n E dX6_turned_7 rfl 0 rfl ?_
  refine J_if_lt E (tgt := 17) dX6_turned_8 (by decide) (fun c_8 => ?_) (fun c_8 => ?_)
  · skip
    have n_8 : 5 < 0 := cmp_lt (a := 5) (b := 0) (by omega) (by omega) c_8
    exact absurd n_8 (by decide)
  · skip
    have n_8 : ¬ 5 < 0 := cmp_nlt (a := 5) (b := 0) (by omega) (by omega) c_8
    refine J_aload_n E dX6_turned_11 rfl 1 rfl ?_
    refine J_iload_n E dX6_turned_12 rfl 0 rfl ?_
    refine J_cVi0 E (As := [.int 5]) (c_X6_finds l G b y 5 (by omega)) cl_X6_96 yo_X6_finds dX6_turned_13 rfl rfl rfl (Nat.le_of_ble_eq_true rfl) (Nat.le_of_ble_eq_true rfl) rfl (Nat.le_of_ble_eq_true rfl) ⟨Nat.zero_le _, Nat.zero_le _⟩ ?_
    exact ret _ _ _ _ ⟨rfl, _, rfl, by intro g h2 h5 h6; by_cases h0 : g = 0 <;> simp [tellX, upG, up3, up3R, up2, h0, h2, h5, h6]⟩ rfl dX6_turned_16

set_option maxHeartbeats 4000000 in
set_option maxRecDepth 20000 in
theorem c_X6_turned_bad_1 (l : Launch) (G : GB) (b : Nat → Nat) (y : Q3) (h : Int32) (hb : ¬ y 9 1 0 = 0) (hh : ¬ okH h) : CI l yX6_turned cX6_turned 6 .int 4 89 G [.ref (b 0), .int (nI 1), .int h] (wM G b y) (fun vR w' => vR = tellR 0 ∧ PubM G b (tellX y 0) w') := by
  refine CI.mk (own := RX6) (by decide) rfl (Nat.le_of_ble_eq_true rfl) ?_
  intro X E ret
  show J X G 6 0 0 (wM G b y) [(0, .ref (b 0)), (1, .int (nI 1)), (2, .int h)] 0 []
  refine J_aload_n E dX6_turned_0 rfl 0 rfl ?_
  refine J_iload_n E dX6_turned_1 rfl 1 rfl ?_
  refine J_iload_n E dX6_turned_2 rfl 2 rfl ?_
  refine J_cVi0 E (As := [.int (nI 1), .int h]) (c_X6_lacksHouse_1_2 l G b y h hb hh ) cl_X6_200 yo_X6_lacksHouse dX6_turned_3 rfl rfl rfl (Nat.le_of_ble_eq_true rfl) (Nat.le_of_ble_eq_true rfl) rfl (Nat.le_of_ble_eq_true rfl) ⟨Nat.zero_le _, Nat.zero_le _⟩ ?_
  refine J_istore_n E (lv' := [(3, .int 0), (0, .ref (b 0)), (1, .int (nI 1)), (2, .int h)]) dX6_turned_6 rfl (by decide) rfl ?_
  refine J_iload_n E dX6_turned_7 rfl 0 rfl ?_
  refine J_if_lt E (tgt := 17) dX6_turned_8 (by decide) (fun c_8 => ?_) (fun c_8 => ?_)
  · skip
    have n_8 : 0 < 0 := cmp_lt (a := 0) (b := 0) (by omega) (by omega) c_8
    exact absurd n_8 (by decide)
  · skip
    have n_8 : ¬ 0 < 0 := cmp_nlt (a := 0) (b := 0) (by omega) (by omega) c_8
    refine J_aload_n E dX6_turned_11 rfl 1 rfl ?_
    refine J_iload_n E dX6_turned_12 rfl 0 rfl ?_
    refine J_cVi0 E (As := [.int 0]) (c_X6_finds l G b y 0 (by omega)) cl_X6_96 yo_X6_finds dX6_turned_13 rfl rfl rfl (Nat.le_of_ble_eq_true rfl) (Nat.le_of_ble_eq_true rfl) rfl (Nat.le_of_ble_eq_true rfl) ⟨Nat.zero_le _, Nat.zero_le _⟩ ?_
    exact ret _ _ _ _ ⟨rfl, _, rfl, by intro g h2 h5 h6; by_cases h0 : g = 0 <;> simp [tellX, upG, up3, up3R, up2, h0, h2, h5, h6]⟩ rfl dX6_turned_16

set_option maxHeartbeats 4000000 in
set_option maxRecDepth 20000 in
theorem c_X6_turned_ok_1 (l : Launch) (G : GB) (b : Nat → Nat) (y : Q3) (j n : Nat) (hb : ¬ y 9 1 0 = 0) (hj : j < 11) (hn : y 9 1 1 = nI n) (hn2 : n ≤ 40) (hok : okQ (y 0))  : CI l yX6_turned cX6_turned 6 .int 5 116 G [.ref (b 0), .int (nI 1), .int (nI j)] (wM G b y) (fun vR w' => vR = setF (fun o => soF (y 9 0) j (turn1 (y 0) o) n) 11 ∧ PubM G b y w') := by
  refine CI.mk (own := RX6) (by decide) rfl (Nat.le_of_ble_eq_true rfl) ?_
  intro X E ret
  show J X G 6 0 0 (wM G b y) [(0, .ref (b 0)), (1, .int (nI 1)), (2, .int (nI j))] 0 []
  refine J_aload_n E dX6_turned_0 rfl 0 rfl ?_
  refine J_iload_n E dX6_turned_1 rfl 1 rfl ?_
  refine J_iload_n E dX6_turned_2 rfl 2 rfl ?_
  refine J_cVi0 E (As := [.int (nI 1), .int (nI j)]) (c_X6_lacksHouse_1_1 l G b y (nI j) hb (inB (a := j) (b := 10) (by omega) (by decide)) ) cl_X6_200 yo_X6_lacksHouse dX6_turned_3 rfl rfl rfl (Nat.le_of_ble_eq_true rfl) (Nat.le_of_ble_eq_true rfl) rfl (Nat.le_of_ble_eq_true rfl) ⟨Nat.zero_le _, Nat.zero_le _⟩ ?_
  refine J_istore_n E (lv' := [(3, .int (-1)), (0, .ref (b 0)), (1, .int (nI 1)), (2, .int (nI j))]) dX6_turned_6 rfl (by decide) rfl ?_
  refine J_iload_n E dX6_turned_7 rfl 0 rfl ?_
  refine J_if_lt E (tgt := 17) dX6_turned_8 (by decide) (fun c_8 => ?_) (fun c_8 => ?_)
  · skip
    refine J_iconst E dX6_turned_17 ic_0 ?_
    refine J_istore E (lv' := [(4, .int 0), (3, .int (-1)), (0, .ref (b 0)), (1, .int (nI 1)), (2, .int (nI j))]) dX6_turned_18 (by decide) rfl ?_
    refine J_iconst E dX6_turned_20 ic_0 ?_
    refine J_istore E (lv' := [(5, .int 0), (4, .int 0), (3, .int (-1)), (0, .ref (b 0)), (1, .int (nI 1)), (2, .int (nI j))]) dX6_turned_21 (by decide) rfl ?_
    refine J_w (ws' := wM G b (upG y 5 (y 5))) (congrArg (wM G b) upG_id.symm) ?_
    have lp23 : ∀ (fu : Nat) (o : Nat) (t : Int32) (d : Q2) (z : Q2), (o ≤ 11) → (t = setF (fun o => soF (y 9 0) j (turn1 (y 0) o) n) o) → 11 - o < fu → J X G 6 0 0 (wM G b (upG (upG y 5 d) 2 z)) [(0, .ref (b 0)), (1, .int (nI 1)), (2, .int (nI j)), (4, .int t), (5, .int (nI o))] 23 [] := by
      intro fu
      induction fu with
      | zero => intro o t d z hi h1 hm; exact absurd hm (Nat.not_lt_zero _)
      | succ fu ih23 =>
        intro o t d z hi h1 hm
        refine J_iload E dX6_turned_23 4 rfl ?_
        refine J_bipush E dX6_turned_25 bp_11 ?_
        refine J_icmp_ge E (tgt := 72) dX6_turned_27 (by decide) (fun c_27 => ?_) (fun c_27 => ?_)
        · skip
          have n_27 : 11 ≤ o := cmp_le (a := 11) (b := o) (by omega) (by omega) c_27
          refine J_iload E dX6_turned_72 3 rfl ?_
          exact ret _ _ _ _ ⟨by rw [h1, show o = 11 by omega], _, rfl, by intro g h2 h5 h6; by_cases h0 : g = 0 <;> simp [tellX, upG, up3, up3R, up2, h0, h2, h5, h6]⟩ rfl dX6_turned_74
        · skip
          have n_27 : ¬ 11 ≤ o := cmp_nle (a := 11) (b := o) (by omega) (by omega) c_27
          refine J_aload_n E dX6_turned_30 rfl 0 rfl ?_
          refine J_cVv0 E (As := []) (c_X6_lends l G b (upG (upG y 5 d) 2 z) ) cl_X6_160 yo_X6_lends dX6_turned_31 rfl rfl rfl (Nat.le_of_ble_eq_true rfl) (Nat.le_of_ble_eq_true rfl) rfl (Nat.le_of_ble_eq_true rfl) ⟨Nat.zero_le _, Nat.zero_le _⟩ ?_
          refine J_aload_n E dX6_turned_34 rfl 0 rfl ?_
          refine J_iload E dX6_turned_35 4 rfl ?_
          refine J_cVv0 E (As := [.int (nI o)]) (c_X6_turns l G b (upG (upG (upG y 5 d) 2 z) 2 (y 0)) o (by omega)) cl_X6_186 yo_X6_turns dX6_turned_37 rfl rfl rfl (Nat.le_of_ble_eq_true rfl) (Nat.le_of_ble_eq_true rfl) rfl (Nat.le_of_ble_eq_true rfl) ⟨Nat.zero_le _, Nat.zero_le _⟩ ?_
          refine J_iload E dX6_turned_40 3 rfl ?_
          refine J_aload_n E dX6_turned_42 rfl 0 rfl ?_
          refine J_iload_n E dX6_turned_43 rfl 1 rfl ?_
          refine J_iload_n E dX6_turned_44 rfl 2 rfl ?_
          refine J_callVi E (As := [.int (nI 1), .int (nI j)]) (q0 := 0) (ci := 5) [] [] (c_X6_isSo_1 l G b (upG (upG (upG (upG y 5 d) 2 z) 2 (y 0)) 0 (turn1 (y 0) o)) j n hj hn hn2 (okQ_1 hok _ (by omega))) cl_X6_203 yo_X6_isSo dX6_turned_45 rfl rfl rfl (Nat.le_of_ble_eq_true rfl) (Nat.le_of_ble_eq_true rfl) rfl (Nat.le_of_ble_eq_true rfl) (by simp) ⟨Nat.zero_le _, Nat.zero_le _⟩ (fun vR w' hp => ?_)
          obtain ⟨rfl, d45_1, rfl⟩ := hp
          refine J_w (ws' := wM G b (upG (upG (upG (upG (upG (upG y 5 d) 2 z) 2 (y 0)) 0 (turn1 (y 0) o)) 5 d45_1) 0 (hoursR (turn1 (y 0) o) n))) (List.append_nil _) ?_
          refine J_top (x' := bI (soF (y 9 0) j (turn1 (y 0) o) n = true)) rfl ?_
          refine J_if_eq E (tgt := 58) dX6_turned_48 (by decide) (fun c_48 => ?_) (fun c_48 => ?_)
          · skip
            have c_48 := bI_0 c_48
            refine J_iconst E dX6_turned_58 ic_0 ?_
            refine J_ior E dX6_turned_59 ?_
            refine J_istore E (lv' := [(4, .int (t ||| 0)), (0, .ref (b 0)), (1, .int (nI 1)), (2, .int (nI j)), (5, .int (nI o))]) dX6_turned_60 (by decide) rfl ?_
            refine J_aload_n E dX6_turned_62 rfl 1 rfl ?_
            refine J_cVv0 E (As := []) (c_X6_laysBack l G b (upG (upG (upG (upG (upG (upG y 5 d) 2 z) 2 (y 0)) 0 (turn1 (y 0) o)) 5 d45_1) 0 (hoursR (turn1 (y 0) o) n)) ) cl_X6_163 yo_X6_laysBack dX6_turned_63 rfl rfl rfl (Nat.le_of_ble_eq_true rfl) (Nat.le_of_ble_eq_true rfl) rfl (Nat.le_of_ble_eq_true rfl) ⟨Nat.zero_le _, Nat.zero_le _⟩ ?_
            refine J_iinc E (lv' := [(5, .int (nI (o + 1))), (4, .int (t ||| 0)), (0, .ref (b 0)), (1, .int (nI 1)), (2, .int (nI j))]) dX6_turned_66 4 rfl (nI_inc _) (by decide) rfl ?_
            refine J_goto E (tgt := 23) dX6_turned_69 (by decide) ?_
            refine J_lv [2, 3, 4, 1, 0] rfl ?_
            exact ih23 (o + 1) (t ||| 0) d45_1 (y 0) (by omega) (by rw [h1, setF]; first | (rw [if_pos c_48]; rfl) | (rw [if_neg c_48, or_0])) (by omega)
          · skip
            have c_48 := bI_1 c_48
            refine J_iconst E dX6_turned_51 ic_1 ?_
            refine J_iload E dX6_turned_52 4 rfl ?_
            refine J_ishl E dX6_turned_54 ?_
            refine J_goto E (tgt := 59) dX6_turned_55 (by decide) ?_
            refine J_ior E dX6_turned_59 ?_
            refine J_istore E (lv' := [(4, .int (t ||| (1 <<< ((nI o) &&& 31)))), (0, .ref (b 0)), (1, .int (nI 1)), (2, .int (nI j)), (5, .int (nI o))]) dX6_turned_60 (by decide) rfl ?_
            refine J_aload_n E dX6_turned_62 rfl 1 rfl ?_
            refine J_cVv0 E (As := []) (c_X6_laysBack l G b (upG (upG (upG (upG (upG (upG y 5 d) 2 z) 2 (y 0)) 0 (turn1 (y 0) o)) 5 d45_1) 0 (hoursR (turn1 (y 0) o) n)) ) cl_X6_163 yo_X6_laysBack dX6_turned_63 rfl rfl rfl (Nat.le_of_ble_eq_true rfl) (Nat.le_of_ble_eq_true rfl) rfl (Nat.le_of_ble_eq_true rfl) ⟨Nat.zero_le _, Nat.zero_le _⟩ ?_
            refine J_iinc E (lv' := [(5, .int (nI (o + 1))), (4, .int (t ||| (1 <<< ((nI o) &&& 31)))), (0, .ref (b 0)), (1, .int (nI 1)), (2, .int (nI j))]) dX6_turned_66 4 rfl (nI_inc _) (by decide) rfl ?_
            refine J_goto E (tgt := 23) dX6_turned_69 (by decide) ?_
            refine J_lv [2, 3, 4, 1, 0] rfl ?_
            exact ih23 (o + 1) (t ||| (1 <<< ((nI o) &&& 31))) d45_1 (y 0) (by omega) (by rw [h1, setF]; first | (rw [if_pos c_48]; rfl) | (rw [if_neg c_48, or_0])) (by omega)
    refine J_lv [3, 4, 5, 1, 0] rfl ?_
    exact lp23 _ 0 0 (y 5) (y 2) (by omega) rfl (Nat.lt_succ_self _)
  · skip
    exact absurd c_8 (by decide)

set_option maxHeartbeats 4000000 in
set_option maxRecDepth 20000 in
theorem c_X6_turned_miss_2 (l : Launch) (G : GB) (b : Nat → Nat) (y : Q3) (h : Int32) (hb : y 10 1 0 = 0) : CI l yX6_turned cX6_turned 6 .int 4 89 G [.ref (b 0), .int (nI 2), .int h] (wM G b y) (fun vR w' => vR = tellR 5 ∧ PubM G b (tellX y 5) w') := by
  refine CI.mk (own := RX6) (by decide) rfl (Nat.le_of_ble_eq_true rfl) ?_
  intro X E ret
  show J X G 6 0 0 (wM G b y) [(0, .ref (b 0)), (1, .int (nI 2)), (2, .int h)] 0 []
  refine J_aload_n E dX6_turned_0 rfl 0 rfl ?_
  refine J_iload_n E dX6_turned_1 rfl 1 rfl ?_
  refine J_iload_n E dX6_turned_2 rfl 2 rfl ?_
  refine J_cVi0 E (As := [.int (nI 2), .int h]) (c_X6_lacksHouse_2_0 l G b y h hb ) cl_X6_200 yo_X6_lacksHouse dX6_turned_3 rfl rfl rfl (Nat.le_of_ble_eq_true rfl) (Nat.le_of_ble_eq_true rfl) rfl (Nat.le_of_ble_eq_true rfl) ⟨Nat.zero_le _, Nat.zero_le _⟩ ?_
  refine J_istore_n E (lv' := [(3, .int 5), (0, .ref (b 0)), (1, .int (nI 2)), (2, .int h)]) dX6_turned_6 rfl (by decide) rfl ?_
  refine J_iload_n E dX6_turned_7 rfl 0 rfl ?_
  refine J_if_lt E (tgt := 17) dX6_turned_8 (by decide) (fun c_8 => ?_) (fun c_8 => ?_)
  · skip
    have n_8 : 5 < 0 := cmp_lt (a := 5) (b := 0) (by omega) (by omega) c_8
    exact absurd n_8 (by decide)
  · skip
    have n_8 : ¬ 5 < 0 := cmp_nlt (a := 5) (b := 0) (by omega) (by omega) c_8
    refine J_aload_n E dX6_turned_11 rfl 1 rfl ?_
    refine J_iload_n E dX6_turned_12 rfl 0 rfl ?_
    refine J_cVi0 E (As := [.int 5]) (c_X6_finds l G b y 5 (by omega)) cl_X6_96 yo_X6_finds dX6_turned_13 rfl rfl rfl (Nat.le_of_ble_eq_true rfl) (Nat.le_of_ble_eq_true rfl) rfl (Nat.le_of_ble_eq_true rfl) ⟨Nat.zero_le _, Nat.zero_le _⟩ ?_
    exact ret _ _ _ _ ⟨rfl, _, rfl, by intro g h2 h5 h6; by_cases h0 : g = 0 <;> simp [tellX, upG, up3, up3R, up2, h0, h2, h5, h6]⟩ rfl dX6_turned_16

set_option maxHeartbeats 4000000 in
set_option maxRecDepth 20000 in
theorem c_X6_turned_bad_2 (l : Launch) (G : GB) (b : Nat → Nat) (y : Q3) (h : Int32) (hb : ¬ y 10 1 0 = 0) (hh : ¬ okH h) : CI l yX6_turned cX6_turned 6 .int 4 89 G [.ref (b 0), .int (nI 2), .int h] (wM G b y) (fun vR w' => vR = tellR 0 ∧ PubM G b (tellX y 0) w') := by
  refine CI.mk (own := RX6) (by decide) rfl (Nat.le_of_ble_eq_true rfl) ?_
  intro X E ret
  show J X G 6 0 0 (wM G b y) [(0, .ref (b 0)), (1, .int (nI 2)), (2, .int h)] 0 []
  refine J_aload_n E dX6_turned_0 rfl 0 rfl ?_
  refine J_iload_n E dX6_turned_1 rfl 1 rfl ?_
  refine J_iload_n E dX6_turned_2 rfl 2 rfl ?_
  refine J_cVi0 E (As := [.int (nI 2), .int h]) (c_X6_lacksHouse_2_2 l G b y h hb hh ) cl_X6_200 yo_X6_lacksHouse dX6_turned_3 rfl rfl rfl (Nat.le_of_ble_eq_true rfl) (Nat.le_of_ble_eq_true rfl) rfl (Nat.le_of_ble_eq_true rfl) ⟨Nat.zero_le _, Nat.zero_le _⟩ ?_
  refine J_istore_n E (lv' := [(3, .int 0), (0, .ref (b 0)), (1, .int (nI 2)), (2, .int h)]) dX6_turned_6 rfl (by decide) rfl ?_
  refine J_iload_n E dX6_turned_7 rfl 0 rfl ?_
  refine J_if_lt E (tgt := 17) dX6_turned_8 (by decide) (fun c_8 => ?_) (fun c_8 => ?_)
  · skip
    have n_8 : 0 < 0 := cmp_lt (a := 0) (b := 0) (by omega) (by omega) c_8
    exact absurd n_8 (by decide)
  · skip
    have n_8 : ¬ 0 < 0 := cmp_nlt (a := 0) (b := 0) (by omega) (by omega) c_8
    refine J_aload_n E dX6_turned_11 rfl 1 rfl ?_
    refine J_iload_n E dX6_turned_12 rfl 0 rfl ?_
    refine J_cVi0 E (As := [.int 0]) (c_X6_finds l G b y 0 (by omega)) cl_X6_96 yo_X6_finds dX6_turned_13 rfl rfl rfl (Nat.le_of_ble_eq_true rfl) (Nat.le_of_ble_eq_true rfl) rfl (Nat.le_of_ble_eq_true rfl) ⟨Nat.zero_le _, Nat.zero_le _⟩ ?_
    exact ret _ _ _ _ ⟨rfl, _, rfl, by intro g h2 h5 h6; by_cases h0 : g = 0 <;> simp [tellX, upG, up3, up3R, up2, h0, h2, h5, h6]⟩ rfl dX6_turned_16

set_option maxHeartbeats 4000000 in
set_option maxRecDepth 20000 in
theorem c_X6_turned_ok_2 (l : Launch) (G : GB) (b : Nat → Nat) (y : Q3) (j n : Nat) (hb : ¬ y 10 1 0 = 0) (hj : j < 11) (hn : y 10 1 1 = nI n) (hn2 : n ≤ 40) (hok : okQ (y 0))  : CI l yX6_turned cX6_turned 6 .int 5 116 G [.ref (b 0), .int (nI 2), .int (nI j)] (wM G b y) (fun vR w' => vR = setF (fun o => soF (y 10 0) j (turn1 (y 0) o) n) 11 ∧ PubM G b y w') := by
  refine CI.mk (own := RX6) (by decide) rfl (Nat.le_of_ble_eq_true rfl) ?_
  intro X E ret
  show J X G 6 0 0 (wM G b y) [(0, .ref (b 0)), (1, .int (nI 2)), (2, .int (nI j))] 0 []
  refine J_aload_n E dX6_turned_0 rfl 0 rfl ?_
  refine J_iload_n E dX6_turned_1 rfl 1 rfl ?_
  refine J_iload_n E dX6_turned_2 rfl 2 rfl ?_
  refine J_cVi0 E (As := [.int (nI 2), .int (nI j)]) (c_X6_lacksHouse_2_1 l G b y (nI j) hb (inB (a := j) (b := 10) (by omega) (by decide)) ) cl_X6_200 yo_X6_lacksHouse dX6_turned_3 rfl rfl rfl (Nat.le_of_ble_eq_true rfl) (Nat.le_of_ble_eq_true rfl) rfl (Nat.le_of_ble_eq_true rfl) ⟨Nat.zero_le _, Nat.zero_le _⟩ ?_
  refine J_istore_n E (lv' := [(3, .int (-1)), (0, .ref (b 0)), (1, .int (nI 2)), (2, .int (nI j))]) dX6_turned_6 rfl (by decide) rfl ?_
  refine J_iload_n E dX6_turned_7 rfl 0 rfl ?_
  refine J_if_lt E (tgt := 17) dX6_turned_8 (by decide) (fun c_8 => ?_) (fun c_8 => ?_)
  · skip
    refine J_iconst E dX6_turned_17 ic_0 ?_
    refine J_istore E (lv' := [(4, .int 0), (3, .int (-1)), (0, .ref (b 0)), (1, .int (nI 2)), (2, .int (nI j))]) dX6_turned_18 (by decide) rfl ?_
    refine J_iconst E dX6_turned_20 ic_0 ?_
    refine J_istore E (lv' := [(5, .int 0), (4, .int 0), (3, .int (-1)), (0, .ref (b 0)), (1, .int (nI 2)), (2, .int (nI j))]) dX6_turned_21 (by decide) rfl ?_
    refine J_w (ws' := wM G b (upG y 5 (y 5))) (congrArg (wM G b) upG_id.symm) ?_
    have lp23 : ∀ (fu : Nat) (o : Nat) (t : Int32) (d : Q2) (z : Q2), (o ≤ 11) → (t = setF (fun o => soF (y 10 0) j (turn1 (y 0) o) n) o) → 11 - o < fu → J X G 6 0 0 (wM G b (upG (upG y 5 d) 2 z)) [(0, .ref (b 0)), (1, .int (nI 2)), (2, .int (nI j)), (4, .int t), (5, .int (nI o))] 23 [] := by
      intro fu
      induction fu with
      | zero => intro o t d z hi h1 hm; exact absurd hm (Nat.not_lt_zero _)
      | succ fu ih23 =>
        intro o t d z hi h1 hm
        refine J_iload E dX6_turned_23 4 rfl ?_
        refine J_bipush E dX6_turned_25 bp_11 ?_
        refine J_icmp_ge E (tgt := 72) dX6_turned_27 (by decide) (fun c_27 => ?_) (fun c_27 => ?_)
        · skip
          have n_27 : 11 ≤ o := cmp_le (a := 11) (b := o) (by omega) (by omega) c_27
          refine J_iload E dX6_turned_72 3 rfl ?_
          exact ret _ _ _ _ ⟨by rw [h1, show o = 11 by omega], _, rfl, by intro g h2 h5 h6; by_cases h0 : g = 0 <;> simp [tellX, upG, up3, up3R, up2, h0, h2, h5, h6]⟩ rfl dX6_turned_74
        · skip
          have n_27 : ¬ 11 ≤ o := cmp_nle (a := 11) (b := o) (by omega) (by omega) c_27
          refine J_aload_n E dX6_turned_30 rfl 0 rfl ?_
          refine J_cVv0 E (As := []) (c_X6_lends l G b (upG (upG y 5 d) 2 z) ) cl_X6_160 yo_X6_lends dX6_turned_31 rfl rfl rfl (Nat.le_of_ble_eq_true rfl) (Nat.le_of_ble_eq_true rfl) rfl (Nat.le_of_ble_eq_true rfl) ⟨Nat.zero_le _, Nat.zero_le _⟩ ?_
          refine J_aload_n E dX6_turned_34 rfl 0 rfl ?_
          refine J_iload E dX6_turned_35 4 rfl ?_
          refine J_cVv0 E (As := [.int (nI o)]) (c_X6_turns l G b (upG (upG (upG y 5 d) 2 z) 2 (y 0)) o (by omega)) cl_X6_186 yo_X6_turns dX6_turned_37 rfl rfl rfl (Nat.le_of_ble_eq_true rfl) (Nat.le_of_ble_eq_true rfl) rfl (Nat.le_of_ble_eq_true rfl) ⟨Nat.zero_le _, Nat.zero_le _⟩ ?_
          refine J_iload E dX6_turned_40 3 rfl ?_
          refine J_aload_n E dX6_turned_42 rfl 0 rfl ?_
          refine J_iload_n E dX6_turned_43 rfl 1 rfl ?_
          refine J_iload_n E dX6_turned_44 rfl 2 rfl ?_
          refine J_callVi E (As := [.int (nI 2), .int (nI j)]) (q0 := 0) (ci := 5) [] [] (c_X6_isSo_2 l G b (upG (upG (upG (upG y 5 d) 2 z) 2 (y 0)) 0 (turn1 (y 0) o)) j n hj hn hn2 (okQ_1 hok _ (by omega))) cl_X6_203 yo_X6_isSo dX6_turned_45 rfl rfl rfl (Nat.le_of_ble_eq_true rfl) (Nat.le_of_ble_eq_true rfl) rfl (Nat.le_of_ble_eq_true rfl) (by simp) ⟨Nat.zero_le _, Nat.zero_le _⟩ (fun vR w' hp => ?_)
          obtain ⟨rfl, d45_1, rfl⟩ := hp
          refine J_w (ws' := wM G b (upG (upG (upG (upG (upG (upG y 5 d) 2 z) 2 (y 0)) 0 (turn1 (y 0) o)) 5 d45_1) 0 (hoursR (turn1 (y 0) o) n))) (List.append_nil _) ?_
          refine J_top (x' := bI (soF (y 10 0) j (turn1 (y 0) o) n = true)) rfl ?_
          refine J_if_eq E (tgt := 58) dX6_turned_48 (by decide) (fun c_48 => ?_) (fun c_48 => ?_)
          · skip
            have c_48 := bI_0 c_48
            refine J_iconst E dX6_turned_58 ic_0 ?_
            refine J_ior E dX6_turned_59 ?_
            refine J_istore E (lv' := [(4, .int (t ||| 0)), (0, .ref (b 0)), (1, .int (nI 2)), (2, .int (nI j)), (5, .int (nI o))]) dX6_turned_60 (by decide) rfl ?_
            refine J_aload_n E dX6_turned_62 rfl 1 rfl ?_
            refine J_cVv0 E (As := []) (c_X6_laysBack l G b (upG (upG (upG (upG (upG (upG y 5 d) 2 z) 2 (y 0)) 0 (turn1 (y 0) o)) 5 d45_1) 0 (hoursR (turn1 (y 0) o) n)) ) cl_X6_163 yo_X6_laysBack dX6_turned_63 rfl rfl rfl (Nat.le_of_ble_eq_true rfl) (Nat.le_of_ble_eq_true rfl) rfl (Nat.le_of_ble_eq_true rfl) ⟨Nat.zero_le _, Nat.zero_le _⟩ ?_
            refine J_iinc E (lv' := [(5, .int (nI (o + 1))), (4, .int (t ||| 0)), (0, .ref (b 0)), (1, .int (nI 2)), (2, .int (nI j))]) dX6_turned_66 4 rfl (nI_inc _) (by decide) rfl ?_
            refine J_goto E (tgt := 23) dX6_turned_69 (by decide) ?_
            refine J_lv [2, 3, 4, 1, 0] rfl ?_
            exact ih23 (o + 1) (t ||| 0) d45_1 (y 0) (by omega) (by rw [h1, setF]; first | (rw [if_pos c_48]; rfl) | (rw [if_neg c_48, or_0])) (by omega)
          · skip
            have c_48 := bI_1 c_48
            refine J_iconst E dX6_turned_51 ic_1 ?_
            refine J_iload E dX6_turned_52 4 rfl ?_
            refine J_ishl E dX6_turned_54 ?_
            refine J_goto E (tgt := 59) dX6_turned_55 (by decide) ?_
            refine J_ior E dX6_turned_59 ?_
            refine J_istore E (lv' := [(4, .int (t ||| (1 <<< ((nI o) &&& 31)))), (0, .ref (b 0)), (1, .int (nI 2)), (2, .int (nI j)), (5, .int (nI o))]) dX6_turned_60 (by decide) rfl ?_
            refine J_aload_n E dX6_turned_62 rfl 1 rfl ?_
            refine J_cVv0 E (As := []) (c_X6_laysBack l G b (upG (upG (upG (upG (upG (upG y 5 d) 2 z) 2 (y 0)) 0 (turn1 (y 0) o)) 5 d45_1) 0 (hoursR (turn1 (y 0) o) n)) ) cl_X6_163 yo_X6_laysBack dX6_turned_63 rfl rfl rfl (Nat.le_of_ble_eq_true rfl) (Nat.le_of_ble_eq_true rfl) rfl (Nat.le_of_ble_eq_true rfl) ⟨Nat.zero_le _, Nat.zero_le _⟩ ?_
            refine J_iinc E (lv' := [(5, .int (nI (o + 1))), (4, .int (t ||| (1 <<< ((nI o) &&& 31)))), (0, .ref (b 0)), (1, .int (nI 2)), (2, .int (nI j))]) dX6_turned_66 4 rfl (nI_inc _) (by decide) rfl ?_
            refine J_goto E (tgt := 23) dX6_turned_69 (by decide) ?_
            refine J_lv [2, 3, 4, 1, 0] rfl ?_
            exact ih23 (o + 1) (t ||| (1 <<< ((nI o) &&& 31))) d45_1 (y 0) (by omega) (by rw [h1, setF]; first | (rw [if_pos c_48]; rfl) | (rw [if_neg c_48, or_0])) (by omega)
    refine J_lv [3, 4, 5, 1, 0] rfl ?_
    exact lp23 _ 0 0 (y 5) (y 2) (by omega) rfl (Nat.lt_succ_self _)
  · skip
    exact absurd c_8 (by decide)

set_option maxHeartbeats 4000000 in
set_option maxRecDepth 20000 in
theorem c_X6_turned_miss_3 (l : Launch) (G : GB) (b : Nat → Nat) (y : Q3) (h : Int32) (hb : y 11 1 0 = 0) : CI l yX6_turned cX6_turned 6 .int 4 89 G [.ref (b 0), .int (nI 3), .int h] (wM G b y) (fun vR w' => vR = tellR 5 ∧ PubM G b (tellX y 5) w') := by
  refine CI.mk (own := RX6) (by decide) rfl (Nat.le_of_ble_eq_true rfl) ?_
  intro X E ret
  show J X G 6 0 0 (wM G b y) [(0, .ref (b 0)), (1, .int (nI 3)), (2, .int h)] 0 []
  refine J_aload_n E dX6_turned_0 rfl 0 rfl ?_
  refine J_iload_n E dX6_turned_1 rfl 1 rfl ?_
  refine J_iload_n E dX6_turned_2 rfl 2 rfl ?_
  refine J_cVi0 E (As := [.int (nI 3), .int h]) (c_X6_lacksHouse_3_0 l G b y h hb ) cl_X6_200 yo_X6_lacksHouse dX6_turned_3 rfl rfl rfl (Nat.le_of_ble_eq_true rfl) (Nat.le_of_ble_eq_true rfl) rfl (Nat.le_of_ble_eq_true rfl) ⟨Nat.zero_le _, Nat.zero_le _⟩ ?_
  refine J_istore_n E (lv' := [(3, .int 5), (0, .ref (b 0)), (1, .int (nI 3)), (2, .int h)]) dX6_turned_6 rfl (by decide) rfl ?_
  refine J_iload_n E dX6_turned_7 rfl 0 rfl ?_
  refine J_if_lt E (tgt := 17) dX6_turned_8 (by decide) (fun c_8 => ?_) (fun c_8 => ?_)
  · skip
    have n_8 : 5 < 0 := cmp_lt (a := 5) (b := 0) (by omega) (by omega) c_8
    exact absurd n_8 (by decide)
  · skip
    have n_8 : ¬ 5 < 0 := cmp_nlt (a := 5) (b := 0) (by omega) (by omega) c_8
    refine J_aload_n E dX6_turned_11 rfl 1 rfl ?_
    refine J_iload_n E dX6_turned_12 rfl 0 rfl ?_
    refine J_cVi0 E (As := [.int 5]) (c_X6_finds l G b y 5 (by omega)) cl_X6_96 yo_X6_finds dX6_turned_13 rfl rfl rfl (Nat.le_of_ble_eq_true rfl) (Nat.le_of_ble_eq_true rfl) rfl (Nat.le_of_ble_eq_true rfl) ⟨Nat.zero_le _, Nat.zero_le _⟩ ?_
    exact ret _ _ _ _ ⟨rfl, _, rfl, by intro g h2 h5 h6; by_cases h0 : g = 0 <;> simp [tellX, upG, up3, up3R, up2, h0, h2, h5, h6]⟩ rfl dX6_turned_16

set_option maxHeartbeats 4000000 in
set_option maxRecDepth 20000 in
theorem c_X6_turned_bad_3 (l : Launch) (G : GB) (b : Nat → Nat) (y : Q3) (h : Int32) (hb : ¬ y 11 1 0 = 0) (hh : ¬ okH h) : CI l yX6_turned cX6_turned 6 .int 4 89 G [.ref (b 0), .int (nI 3), .int h] (wM G b y) (fun vR w' => vR = tellR 0 ∧ PubM G b (tellX y 0) w') := by
  refine CI.mk (own := RX6) (by decide) rfl (Nat.le_of_ble_eq_true rfl) ?_
  intro X E ret
  show J X G 6 0 0 (wM G b y) [(0, .ref (b 0)), (1, .int (nI 3)), (2, .int h)] 0 []
  refine J_aload_n E dX6_turned_0 rfl 0 rfl ?_
  refine J_iload_n E dX6_turned_1 rfl 1 rfl ?_
  refine J_iload_n E dX6_turned_2 rfl 2 rfl ?_
  refine J_cVi0 E (As := [.int (nI 3), .int h]) (c_X6_lacksHouse_3_2 l G b y h hb hh ) cl_X6_200 yo_X6_lacksHouse dX6_turned_3 rfl rfl rfl (Nat.le_of_ble_eq_true rfl) (Nat.le_of_ble_eq_true rfl) rfl (Nat.le_of_ble_eq_true rfl) ⟨Nat.zero_le _, Nat.zero_le _⟩ ?_
  refine J_istore_n E (lv' := [(3, .int 0), (0, .ref (b 0)), (1, .int (nI 3)), (2, .int h)]) dX6_turned_6 rfl (by decide) rfl ?_
  refine J_iload_n E dX6_turned_7 rfl 0 rfl ?_
  refine J_if_lt E (tgt := 17) dX6_turned_8 (by decide) (fun c_8 => ?_) (fun c_8 => ?_)
  · skip
    have n_8 : 0 < 0 := cmp_lt (a := 0) (b := 0) (by omega) (by omega) c_8
    exact absurd n_8 (by decide)
  · skip
    have n_8 : ¬ 0 < 0 := cmp_nlt (a := 0) (b := 0) (by omega) (by omega) c_8
    refine J_aload_n E dX6_turned_11 rfl 1 rfl ?_
    refine J_iload_n E dX6_turned_12 rfl 0 rfl ?_
    refine J_cVi0 E (As := [.int 0]) (c_X6_finds l G b y 0 (by omega)) cl_X6_96 yo_X6_finds dX6_turned_13 rfl rfl rfl (Nat.le_of_ble_eq_true rfl) (Nat.le_of_ble_eq_true rfl) rfl (Nat.le_of_ble_eq_true rfl) ⟨Nat.zero_le _, Nat.zero_le _⟩ ?_
    exact ret _ _ _ _ ⟨rfl, _, rfl, by intro g h2 h5 h6; by_cases h0 : g = 0 <;> simp [tellX, upG, up3, up3R, up2, h0, h2, h5, h6]⟩ rfl dX6_turned_16

set_option maxHeartbeats 4000000 in
set_option maxRecDepth 20000 in
theorem c_X6_turned_ok_3 (l : Launch) (G : GB) (b : Nat → Nat) (y : Q3) (j n : Nat) (hb : ¬ y 11 1 0 = 0) (hj : j < 11) (hn : y 11 1 1 = nI n) (hn2 : n ≤ 40) (hok : okQ (y 0))  : CI l yX6_turned cX6_turned 6 .int 5 116 G [.ref (b 0), .int (nI 3), .int (nI j)] (wM G b y) (fun vR w' => vR = setF (fun o => soF (y 11 0) j (turn1 (y 0) o) n) 11 ∧ PubM G b y w') := by
  refine CI.mk (own := RX6) (by decide) rfl (Nat.le_of_ble_eq_true rfl) ?_
  intro X E ret
  show J X G 6 0 0 (wM G b y) [(0, .ref (b 0)), (1, .int (nI 3)), (2, .int (nI j))] 0 []
  refine J_aload_n E dX6_turned_0 rfl 0 rfl ?_
  refine J_iload_n E dX6_turned_1 rfl 1 rfl ?_
  refine J_iload_n E dX6_turned_2 rfl 2 rfl ?_
  refine J_cVi0 E (As := [.int (nI 3), .int (nI j)]) (c_X6_lacksHouse_3_1 l G b y (nI j) hb (inB (a := j) (b := 10) (by omega) (by decide)) ) cl_X6_200 yo_X6_lacksHouse dX6_turned_3 rfl rfl rfl (Nat.le_of_ble_eq_true rfl) (Nat.le_of_ble_eq_true rfl) rfl (Nat.le_of_ble_eq_true rfl) ⟨Nat.zero_le _, Nat.zero_le _⟩ ?_
  refine J_istore_n E (lv' := [(3, .int (-1)), (0, .ref (b 0)), (1, .int (nI 3)), (2, .int (nI j))]) dX6_turned_6 rfl (by decide) rfl ?_
  refine J_iload_n E dX6_turned_7 rfl 0 rfl ?_
  refine J_if_lt E (tgt := 17) dX6_turned_8 (by decide) (fun c_8 => ?_) (fun c_8 => ?_)
  · skip
    refine J_iconst E dX6_turned_17 ic_0 ?_
    refine J_istore E (lv' := [(4, .int 0), (3, .int (-1)), (0, .ref (b 0)), (1, .int (nI 3)), (2, .int (nI j))]) dX6_turned_18 (by decide) rfl ?_
    refine J_iconst E dX6_turned_20 ic_0 ?_
    refine J_istore E (lv' := [(5, .int 0), (4, .int 0), (3, .int (-1)), (0, .ref (b 0)), (1, .int (nI 3)), (2, .int (nI j))]) dX6_turned_21 (by decide) rfl ?_
    refine J_w (ws' := wM G b (upG y 5 (y 5))) (congrArg (wM G b) upG_id.symm) ?_
    have lp23 : ∀ (fu : Nat) (o : Nat) (t : Int32) (d : Q2) (z : Q2), (o ≤ 11) → (t = setF (fun o => soF (y 11 0) j (turn1 (y 0) o) n) o) → 11 - o < fu → J X G 6 0 0 (wM G b (upG (upG y 5 d) 2 z)) [(0, .ref (b 0)), (1, .int (nI 3)), (2, .int (nI j)), (4, .int t), (5, .int (nI o))] 23 [] := by
      intro fu
      induction fu with
      | zero => intro o t d z hi h1 hm; exact absurd hm (Nat.not_lt_zero _)
      | succ fu ih23 =>
        intro o t d z hi h1 hm
        refine J_iload E dX6_turned_23 4 rfl ?_
        refine J_bipush E dX6_turned_25 bp_11 ?_
        refine J_icmp_ge E (tgt := 72) dX6_turned_27 (by decide) (fun c_27 => ?_) (fun c_27 => ?_)
        · skip
          have n_27 : 11 ≤ o := cmp_le (a := 11) (b := o) (by omega) (by omega) c_27
          refine J_iload E dX6_turned_72 3 rfl ?_
          exact ret _ _ _ _ ⟨by rw [h1, show o = 11 by omega], _, rfl, by intro g h2 h5 h6; by_cases h0 : g = 0 <;> simp [tellX, upG, up3, up3R, up2, h0, h2, h5, h6]⟩ rfl dX6_turned_74
        · skip
          have n_27 : ¬ 11 ≤ o := cmp_nle (a := 11) (b := o) (by omega) (by omega) c_27
          refine J_aload_n E dX6_turned_30 rfl 0 rfl ?_
          refine J_cVv0 E (As := []) (c_X6_lends l G b (upG (upG y 5 d) 2 z) ) cl_X6_160 yo_X6_lends dX6_turned_31 rfl rfl rfl (Nat.le_of_ble_eq_true rfl) (Nat.le_of_ble_eq_true rfl) rfl (Nat.le_of_ble_eq_true rfl) ⟨Nat.zero_le _, Nat.zero_le _⟩ ?_
          refine J_aload_n E dX6_turned_34 rfl 0 rfl ?_
          refine J_iload E dX6_turned_35 4 rfl ?_
          refine J_cVv0 E (As := [.int (nI o)]) (c_X6_turns l G b (upG (upG (upG y 5 d) 2 z) 2 (y 0)) o (by omega)) cl_X6_186 yo_X6_turns dX6_turned_37 rfl rfl rfl (Nat.le_of_ble_eq_true rfl) (Nat.le_of_ble_eq_true rfl) rfl (Nat.le_of_ble_eq_true rfl) ⟨Nat.zero_le _, Nat.zero_le _⟩ ?_
          refine J_iload E dX6_turned_40 3 rfl ?_
          refine J_aload_n E dX6_turned_42 rfl 0 rfl ?_
          refine J_iload_n E dX6_turned_43 rfl 1 rfl ?_
          refine J_iload_n E dX6_turned_44 rfl 2 rfl ?_
          refine J_callVi E (As := [.int (nI 3), .int (nI j)]) (q0 := 0) (ci := 5) [] [] (c_X6_isSo_3 l G b (upG (upG (upG (upG y 5 d) 2 z) 2 (y 0)) 0 (turn1 (y 0) o)) j n hj hn hn2 (okQ_1 hok _ (by omega))) cl_X6_203 yo_X6_isSo dX6_turned_45 rfl rfl rfl (Nat.le_of_ble_eq_true rfl) (Nat.le_of_ble_eq_true rfl) rfl (Nat.le_of_ble_eq_true rfl) (by simp) ⟨Nat.zero_le _, Nat.zero_le _⟩ (fun vR w' hp => ?_)
          obtain ⟨rfl, d45_1, rfl⟩ := hp
          refine J_w (ws' := wM G b (upG (upG (upG (upG (upG (upG y 5 d) 2 z) 2 (y 0)) 0 (turn1 (y 0) o)) 5 d45_1) 0 (hoursR (turn1 (y 0) o) n))) (List.append_nil _) ?_
          refine J_top (x' := bI (soF (y 11 0) j (turn1 (y 0) o) n = true)) rfl ?_
          refine J_if_eq E (tgt := 58) dX6_turned_48 (by decide) (fun c_48 => ?_) (fun c_48 => ?_)
          · skip
            have c_48 := bI_0 c_48
            refine J_iconst E dX6_turned_58 ic_0 ?_
            refine J_ior E dX6_turned_59 ?_
            refine J_istore E (lv' := [(4, .int (t ||| 0)), (0, .ref (b 0)), (1, .int (nI 3)), (2, .int (nI j)), (5, .int (nI o))]) dX6_turned_60 (by decide) rfl ?_
            refine J_aload_n E dX6_turned_62 rfl 1 rfl ?_
            refine J_cVv0 E (As := []) (c_X6_laysBack l G b (upG (upG (upG (upG (upG (upG y 5 d) 2 z) 2 (y 0)) 0 (turn1 (y 0) o)) 5 d45_1) 0 (hoursR (turn1 (y 0) o) n)) ) cl_X6_163 yo_X6_laysBack dX6_turned_63 rfl rfl rfl (Nat.le_of_ble_eq_true rfl) (Nat.le_of_ble_eq_true rfl) rfl (Nat.le_of_ble_eq_true rfl) ⟨Nat.zero_le _, Nat.zero_le _⟩ ?_
            refine J_iinc E (lv' := [(5, .int (nI (o + 1))), (4, .int (t ||| 0)), (0, .ref (b 0)), (1, .int (nI 3)), (2, .int (nI j))]) dX6_turned_66 4 rfl (nI_inc _) (by decide) rfl ?_
            refine J_goto E (tgt := 23) dX6_turned_69 (by decide) ?_
            refine J_lv [2, 3, 4, 1, 0] rfl ?_
            exact ih23 (o + 1) (t ||| 0) d45_1 (y 0) (by omega) (by rw [h1, setF]; first | (rw [if_pos c_48]; rfl) | (rw [if_neg c_48, or_0])) (by omega)
          · skip
            have c_48 := bI_1 c_48
            refine J_iconst E dX6_turned_51 ic_1 ?_
            refine J_iload E dX6_turned_52 4 rfl ?_
            refine J_ishl E dX6_turned_54 ?_
            refine J_goto E (tgt := 59) dX6_turned_55 (by decide) ?_
            refine J_ior E dX6_turned_59 ?_
            refine J_istore E (lv' := [(4, .int (t ||| (1 <<< ((nI o) &&& 31)))), (0, .ref (b 0)), (1, .int (nI 3)), (2, .int (nI j)), (5, .int (nI o))]) dX6_turned_60 (by decide) rfl ?_
            refine J_aload_n E dX6_turned_62 rfl 1 rfl ?_
            refine J_cVv0 E (As := []) (c_X6_laysBack l G b (upG (upG (upG (upG (upG (upG y 5 d) 2 z) 2 (y 0)) 0 (turn1 (y 0) o)) 5 d45_1) 0 (hoursR (turn1 (y 0) o) n)) ) cl_X6_163 yo_X6_laysBack dX6_turned_63 rfl rfl rfl (Nat.le_of_ble_eq_true rfl) (Nat.le_of_ble_eq_true rfl) rfl (Nat.le_of_ble_eq_true rfl) ⟨Nat.zero_le _, Nat.zero_le _⟩ ?_
            refine J_iinc E (lv' := [(5, .int (nI (o + 1))), (4, .int (t ||| (1 <<< ((nI o) &&& 31)))), (0, .ref (b 0)), (1, .int (nI 3)), (2, .int (nI j))]) dX6_turned_66 4 rfl (nI_inc _) (by decide) rfl ?_
            refine J_goto E (tgt := 23) dX6_turned_69 (by decide) ?_
            refine J_lv [2, 3, 4, 1, 0] rfl ?_
            exact ih23 (o + 1) (t ||| (1 <<< ((nI o) &&& 31))) d45_1 (y 0) (by omega) (by rw [h1, setF]; first | (rw [if_pos c_48]; rfl) | (rw [if_neg c_48, or_0])) (by omega)
    refine J_lv [3, 4, 5, 1, 0] rfl ?_
    exact lp23 _ 0 0 (y 5) (y 2) (by omega) rfl (Nat.lt_succ_self _)
  · skip
    exact absurd c_8 (by decide)

set_option maxHeartbeats 4000000 in
set_option maxRecDepth 20000 in
theorem c_X6_kinds_out (l : Launch) (G : GB) (b : Nat → Nat) (y : Q3) (s h : Int32) (hs : ¬ (0 ≤ s ∧ s ≤ 3)) : CI l yX6_kinds cX6_kinds 6 .int 4 89 G [.ref (b 0), .int s, .int h] (wM G b y) (fun vR w' => vR = tellR 0 ∧ PubM G b (tellX y 0) w') := by
  refine CI.mk (own := RX6) (by decide) rfl (Nat.le_of_ble_eq_true rfl) ?_
  intro X E ret
  show J X G 6 0 0 (wM G b y) [(0, .ref (b 0)), (1, .int s), (2, .int h)] 0 []
  refine J_aload_n E dX6_kinds_0 rfl 0 rfl ?_
  refine J_iload_n E dX6_kinds_1 rfl 1 rfl ?_
  refine J_iload_n E dX6_kinds_2 rfl 2 rfl ?_
  refine J_cVi0 E (As := [.int s, .int h]) (c_X6_lacksHouse_out l G b y s h hs ) cl_X6_200 yo_X6_lacksHouse dX6_kinds_3 rfl rfl rfl (Nat.le_of_ble_eq_true rfl) (Nat.le_of_ble_eq_true rfl) rfl (Nat.le_of_ble_eq_true rfl) ⟨Nat.zero_le _, Nat.zero_le _⟩ ?_
  refine J_istore_n E (lv' := [(3, .int 0), (0, .ref (b 0)), (1, .int s), (2, .int h)]) dX6_kinds_6 rfl (by decide) rfl ?_
  refine J_iload_n E dX6_kinds_7 rfl 0 rfl ?_
  refine J_if_lt E (tgt := 17) dX6_kinds_8 (by decide) (fun c_8 => ?_) (fun c_8 => ?_)
  · skip
    have n_8 : 0 < 0 := cmp_lt (a := 0) (b := 0) (by omega) (by omega) c_8
    exact absurd n_8 (by decide)
  · skip
    have n_8 : ¬ 0 < 0 := cmp_nlt (a := 0) (b := 0) (by omega) (by omega) c_8
    refine J_aload_n E dX6_kinds_11 rfl 1 rfl ?_
    refine J_iload_n E dX6_kinds_12 rfl 0 rfl ?_
    refine J_cVi0 E (As := [.int 0]) (c_X6_finds l G b y 0 (by omega)) cl_X6_96 yo_X6_finds dX6_kinds_13 rfl rfl rfl (Nat.le_of_ble_eq_true rfl) (Nat.le_of_ble_eq_true rfl) rfl (Nat.le_of_ble_eq_true rfl) ⟨Nat.zero_le _, Nat.zero_le _⟩ ?_
    exact ret _ _ _ _ ⟨rfl, _, rfl, by intro g h2 h5 h6; by_cases h0 : g = 0 <;> simp [tellX, upG, up3, up3R, up2, h0, h2, h5, h6]⟩ rfl dX6_kinds_16

set_option maxHeartbeats 4000000 in
set_option maxRecDepth 20000 in
theorem c_X6_kinds_miss_0 (l : Launch) (G : GB) (b : Nat → Nat) (y : Q3) (h : Int32) (hb : y 8 1 0 = 0) : CI l yX6_kinds cX6_kinds 6 .int 4 89 G [.ref (b 0), .int (nI 0), .int h] (wM G b y) (fun vR w' => vR = tellR 5 ∧ PubM G b (tellX y 5) w') := by
  refine CI.mk (own := RX6) (by decide) rfl (Nat.le_of_ble_eq_true rfl) ?_
  intro X E ret
  show J X G 6 0 0 (wM G b y) [(0, .ref (b 0)), (1, .int (nI 0)), (2, .int h)] 0 []
  refine J_aload_n E dX6_kinds_0 rfl 0 rfl ?_
  refine J_iload_n E dX6_kinds_1 rfl 1 rfl ?_
  refine J_iload_n E dX6_kinds_2 rfl 2 rfl ?_
  refine J_cVi0 E (As := [.int (nI 0), .int h]) (c_X6_lacksHouse_0_0 l G b y h hb ) cl_X6_200 yo_X6_lacksHouse dX6_kinds_3 rfl rfl rfl (Nat.le_of_ble_eq_true rfl) (Nat.le_of_ble_eq_true rfl) rfl (Nat.le_of_ble_eq_true rfl) ⟨Nat.zero_le _, Nat.zero_le _⟩ ?_
  refine J_istore_n E (lv' := [(3, .int 5), (0, .ref (b 0)), (1, .int (nI 0)), (2, .int h)]) dX6_kinds_6 rfl (by decide) rfl ?_
  refine J_iload_n E dX6_kinds_7 rfl 0 rfl ?_
  refine J_if_lt E (tgt := 17) dX6_kinds_8 (by decide) (fun c_8 => ?_) (fun c_8 => ?_)
  · skip
    have n_8 : 5 < 0 := cmp_lt (a := 5) (b := 0) (by omega) (by omega) c_8
    exact absurd n_8 (by decide)
  · skip
    have n_8 : ¬ 5 < 0 := cmp_nlt (a := 5) (b := 0) (by omega) (by omega) c_8
    refine J_aload_n E dX6_kinds_11 rfl 1 rfl ?_
    refine J_iload_n E dX6_kinds_12 rfl 0 rfl ?_
    refine J_cVi0 E (As := [.int 5]) (c_X6_finds l G b y 5 (by omega)) cl_X6_96 yo_X6_finds dX6_kinds_13 rfl rfl rfl (Nat.le_of_ble_eq_true rfl) (Nat.le_of_ble_eq_true rfl) rfl (Nat.le_of_ble_eq_true rfl) ⟨Nat.zero_le _, Nat.zero_le _⟩ ?_
    exact ret _ _ _ _ ⟨rfl, _, rfl, by intro g h2 h5 h6; by_cases h0 : g = 0 <;> simp [tellX, upG, up3, up3R, up2, h0, h2, h5, h6]⟩ rfl dX6_kinds_16

set_option maxHeartbeats 4000000 in
set_option maxRecDepth 20000 in
theorem c_X6_kinds_bad_0 (l : Launch) (G : GB) (b : Nat → Nat) (y : Q3) (h : Int32) (hb : ¬ y 8 1 0 = 0) (hh : ¬ okH h) : CI l yX6_kinds cX6_kinds 6 .int 4 89 G [.ref (b 0), .int (nI 0), .int h] (wM G b y) (fun vR w' => vR = tellR 0 ∧ PubM G b (tellX y 0) w') := by
  refine CI.mk (own := RX6) (by decide) rfl (Nat.le_of_ble_eq_true rfl) ?_
  intro X E ret
  show J X G 6 0 0 (wM G b y) [(0, .ref (b 0)), (1, .int (nI 0)), (2, .int h)] 0 []
  refine J_aload_n E dX6_kinds_0 rfl 0 rfl ?_
  refine J_iload_n E dX6_kinds_1 rfl 1 rfl ?_
  refine J_iload_n E dX6_kinds_2 rfl 2 rfl ?_
  refine J_cVi0 E (As := [.int (nI 0), .int h]) (c_X6_lacksHouse_0_2 l G b y h hb hh ) cl_X6_200 yo_X6_lacksHouse dX6_kinds_3 rfl rfl rfl (Nat.le_of_ble_eq_true rfl) (Nat.le_of_ble_eq_true rfl) rfl (Nat.le_of_ble_eq_true rfl) ⟨Nat.zero_le _, Nat.zero_le _⟩ ?_
  refine J_istore_n E (lv' := [(3, .int 0), (0, .ref (b 0)), (1, .int (nI 0)), (2, .int h)]) dX6_kinds_6 rfl (by decide) rfl ?_
  refine J_iload_n E dX6_kinds_7 rfl 0 rfl ?_
  refine J_if_lt E (tgt := 17) dX6_kinds_8 (by decide) (fun c_8 => ?_) (fun c_8 => ?_)
  · skip
    have n_8 : 0 < 0 := cmp_lt (a := 0) (b := 0) (by omega) (by omega) c_8
    exact absurd n_8 (by decide)
  · skip
    have n_8 : ¬ 0 < 0 := cmp_nlt (a := 0) (b := 0) (by omega) (by omega) c_8
    refine J_aload_n E dX6_kinds_11 rfl 1 rfl ?_
    refine J_iload_n E dX6_kinds_12 rfl 0 rfl ?_
    refine J_cVi0 E (As := [.int 0]) (c_X6_finds l G b y 0 (by omega)) cl_X6_96 yo_X6_finds dX6_kinds_13 rfl rfl rfl (Nat.le_of_ble_eq_true rfl) (Nat.le_of_ble_eq_true rfl) rfl (Nat.le_of_ble_eq_true rfl) ⟨Nat.zero_le _, Nat.zero_le _⟩ ?_
    exact ret _ _ _ _ ⟨rfl, _, rfl, by intro g h2 h5 h6; by_cases h0 : g = 0 <;> simp [tellX, upG, up3, up3R, up2, h0, h2, h5, h6]⟩ rfl dX6_kinds_16

set_option maxHeartbeats 4000000 in
set_option maxRecDepth 20000 in
theorem c_X6_kinds_ok_0 (l : Launch) (G : GB) (b : Nat → Nat) (y : Q3) (j n : Nat) (hb : ¬ y 8 1 0 = 0) (hj : j < 11) (hn : y 8 1 1 = nI n) (hn2 : n ≤ 40) (hok : okQ (y 0))  : CI l yX6_kinds cX6_kinds 6 .int 5 116 G [.ref (b 0), .int (nI 0), .int (nI j)] (wM G b y) (fun vR w' => vR = setF (fun o => soF (y 8 0) j (up2 (y 0) 0 j (nI o)) n) 7 ∧ PubM G b y w') := by
  refine CI.mk (own := RX6) (by decide) rfl (Nat.le_of_ble_eq_true rfl) ?_
  intro X E ret
  show J X G 6 0 0 (wM G b y) [(0, .ref (b 0)), (1, .int (nI 0)), (2, .int (nI j))] 0 []
  refine J_aload_n E dX6_kinds_0 rfl 0 rfl ?_
  refine J_iload_n E dX6_kinds_1 rfl 1 rfl ?_
  refine J_iload_n E dX6_kinds_2 rfl 2 rfl ?_
  refine J_cVi0 E (As := [.int (nI 0), .int (nI j)]) (c_X6_lacksHouse_0_1 l G b y (nI j) hb (inB (a := j) (b := 10) (by omega) (by decide)) ) cl_X6_200 yo_X6_lacksHouse dX6_kinds_3 rfl rfl rfl (Nat.le_of_ble_eq_true rfl) (Nat.le_of_ble_eq_true rfl) rfl (Nat.le_of_ble_eq_true rfl) ⟨Nat.zero_le _, Nat.zero_le _⟩ ?_
  refine J_istore_n E (lv' := [(3, .int (-1)), (0, .ref (b 0)), (1, .int (nI 0)), (2, .int (nI j))]) dX6_kinds_6 rfl (by decide) rfl ?_
  refine J_iload_n E dX6_kinds_7 rfl 0 rfl ?_
  refine J_if_lt E (tgt := 17) dX6_kinds_8 (by decide) (fun c_8 => ?_) (fun c_8 => ?_)
  · skip
    refine J_iconst E dX6_kinds_17 ic_0 ?_
    refine J_istore E (lv' := [(4, .int 0), (3, .int (-1)), (0, .ref (b 0)), (1, .int (nI 0)), (2, .int (nI j))]) dX6_kinds_18 (by decide) rfl ?_
    refine J_iconst E dX6_kinds_20 ic_0 ?_
    refine J_istore E (lv' := [(5, .int 0), (4, .int 0), (3, .int (-1)), (0, .ref (b 0)), (1, .int (nI 0)), (2, .int (nI j))]) dX6_kinds_21 (by decide) rfl ?_
    refine J_w (ws' := wM G b (upG y 5 (y 5))) (congrArg (wM G b) upG_id.symm) ?_
    have lp23 : ∀ (fu : Nat) (o : Nat) (t : Int32) (d : Q2) (z : Q2), (o ≤ 7) → (t = setF (fun o => soF (y 8 0) j (up2 (y 0) 0 j (nI o)) n) o) → 7 - o < fu → J X G 6 0 0 (wM G b (upG (upG y 5 d) 2 z)) [(0, .ref (b 0)), (1, .int (nI 0)), (2, .int (nI j)), (4, .int t), (5, .int (nI o))] 23 [] := by
      intro fu
      induction fu with
      | zero => intro o t d z hi h1 hm; exact absurd hm (Nat.not_lt_zero _)
      | succ fu ih23 =>
        intro o t d z hi h1 hm
        refine J_iload E dX6_kinds_23 4 rfl ?_
        refine J_bipush E dX6_kinds_25 bp_6 ?_
        refine J_icmp_gt E (tgt := 74) dX6_kinds_27 (by decide) (fun c_27 => ?_) (fun c_27 => ?_)
        · skip
          have n_27 : 6 < o := cmp_lt (a := 6) (b := o) (by omega) (by omega) c_27
          refine J_iload E dX6_kinds_74 3 rfl ?_
          exact ret _ _ _ _ ⟨by rw [h1, show o = 7 by omega], _, rfl, by intro g h2 h5 h6; by_cases h0 : g = 0 <;> simp [tellX, upG, up3, up3R, up2, h0, h2, h5, h6]⟩ rfl dX6_kinds_76
        · skip
          have n_27 : ¬ 6 < o := cmp_nlt (a := 6) (b := o) (by omega) (by omega) c_27
          refine J_aload_n E dX6_kinds_30 rfl 0 rfl ?_
          refine J_cVv0 E (As := []) (c_X6_lends l G b (upG (upG y 5 d) 2 z) ) cl_X6_160 yo_X6_lends dX6_kinds_31 rfl rfl rfl (Nat.le_of_ble_eq_true rfl) (Nat.le_of_ble_eq_true rfl) rfl (Nat.le_of_ble_eq_true rfl) ⟨Nat.zero_le _, Nat.zero_le _⟩ ?_
          refine J_aload_n E dX6_kinds_34 rfl 0 rfl ?_
          refine J_iload_n E dX6_kinds_35 rfl 2 rfl ?_
          refine J_iconst E dX6_kinds_36 ic_0 ?_
          refine J_iload E dX6_kinds_37 4 rfl ?_
          refine J_cVv0 E (As := [.int (nI j), .int 0, .int (nI o)]) (c_X6_sets l G b (upG (upG (upG y 5 d) 2 z) 2 (y 0)) j 0 (nI o) (by omega) (by omega)) cl_X6_43 yo_X6_sets dX6_kinds_39 rfl rfl rfl (Nat.le_of_ble_eq_true rfl) (Nat.le_of_ble_eq_true rfl) rfl (Nat.le_of_ble_eq_true rfl) ⟨Nat.zero_le _, Nat.zero_le _⟩ ?_
          refine J_iload E dX6_kinds_42 3 rfl ?_
          refine J_aload_n E dX6_kinds_44 rfl 0 rfl ?_
          refine J_iload_n E dX6_kinds_45 rfl 1 rfl ?_
          refine J_iload_n E dX6_kinds_46 rfl 2 rfl ?_
          refine J_callVi E (As := [.int (nI 0), .int (nI j)]) (q0 := 0) (ci := 5) [] [] (c_X6_isSo_0 l G b (upG (upG (upG (upG y 5 d) 2 z) 2 (y 0)) 0 (up2 (y 0) 0 j (nI o))) j n hj hn hn2 (okQ_k hok _ (by omega))) cl_X6_203 yo_X6_isSo dX6_kinds_47 rfl rfl rfl (Nat.le_of_ble_eq_true rfl) (Nat.le_of_ble_eq_true rfl) rfl (Nat.le_of_ble_eq_true rfl) (by simp) ⟨Nat.zero_le _, Nat.zero_le _⟩ (fun vR w' hp => ?_)
          obtain ⟨rfl, d47_1, rfl⟩ := hp
          refine J_w (ws' := wM G b (upG (upG (upG (upG (upG (upG y 5 d) 2 z) 2 (y 0)) 0 (up2 (y 0) 0 j (nI o))) 5 d47_1) 0 (hoursR (up2 (y 0) 0 j (nI o)) n))) (List.append_nil _) ?_
          refine J_top (x' := bI (soF (y 8 0) j (up2 (y 0) 0 j (nI o)) n = true)) rfl ?_
          refine J_if_eq E (tgt := 60) dX6_kinds_50 (by decide) (fun c_50 => ?_) (fun c_50 => ?_)
          · skip
            have c_50 := bI_0 c_50
            refine J_iconst E dX6_kinds_60 ic_0 ?_
            refine J_ior E dX6_kinds_61 ?_
            refine J_istore E (lv' := [(4, .int (t ||| 0)), (0, .ref (b 0)), (1, .int (nI 0)), (2, .int (nI j)), (5, .int (nI o))]) dX6_kinds_62 (by decide) rfl ?_
            refine J_aload_n E dX6_kinds_64 rfl 1 rfl ?_
            refine J_cVv0 E (As := []) (c_X6_laysBack l G b (upG (upG (upG (upG (upG (upG y 5 d) 2 z) 2 (y 0)) 0 (up2 (y 0) 0 j (nI o))) 5 d47_1) 0 (hoursR (up2 (y 0) 0 j (nI o)) n)) ) cl_X6_163 yo_X6_laysBack dX6_kinds_65 rfl rfl rfl (Nat.le_of_ble_eq_true rfl) (Nat.le_of_ble_eq_true rfl) rfl (Nat.le_of_ble_eq_true rfl) ⟨Nat.zero_le _, Nat.zero_le _⟩ ?_
            refine J_iinc E (lv' := [(5, .int (nI (o + 1))), (4, .int (t ||| 0)), (0, .ref (b 0)), (1, .int (nI 0)), (2, .int (nI j))]) dX6_kinds_68 4 rfl (nI_inc _) (by decide) rfl ?_
            refine J_goto E (tgt := 23) dX6_kinds_71 (by decide) ?_
            refine J_lv [2, 3, 4, 1, 0] rfl ?_
            exact ih23 (o + 1) (t ||| 0) d47_1 (y 0) (by omega) (by rw [h1, setF]; first | (rw [if_pos c_50]; rfl) | (rw [if_neg c_50, or_0])) (by omega)
          · skip
            have c_50 := bI_1 c_50
            refine J_iconst E dX6_kinds_53 ic_1 ?_
            refine J_iload E dX6_kinds_54 4 rfl ?_
            refine J_ishl E dX6_kinds_56 ?_
            refine J_goto E (tgt := 61) dX6_kinds_57 (by decide) ?_
            refine J_ior E dX6_kinds_61 ?_
            refine J_istore E (lv' := [(4, .int (t ||| (1 <<< ((nI o) &&& 31)))), (0, .ref (b 0)), (1, .int (nI 0)), (2, .int (nI j)), (5, .int (nI o))]) dX6_kinds_62 (by decide) rfl ?_
            refine J_aload_n E dX6_kinds_64 rfl 1 rfl ?_
            refine J_cVv0 E (As := []) (c_X6_laysBack l G b (upG (upG (upG (upG (upG (upG y 5 d) 2 z) 2 (y 0)) 0 (up2 (y 0) 0 j (nI o))) 5 d47_1) 0 (hoursR (up2 (y 0) 0 j (nI o)) n)) ) cl_X6_163 yo_X6_laysBack dX6_kinds_65 rfl rfl rfl (Nat.le_of_ble_eq_true rfl) (Nat.le_of_ble_eq_true rfl) rfl (Nat.le_of_ble_eq_true rfl) ⟨Nat.zero_le _, Nat.zero_le _⟩ ?_
            refine J_iinc E (lv' := [(5, .int (nI (o + 1))), (4, .int (t ||| (1 <<< ((nI o) &&& 31)))), (0, .ref (b 0)), (1, .int (nI 0)), (2, .int (nI j))]) dX6_kinds_68 4 rfl (nI_inc _) (by decide) rfl ?_
            refine J_goto E (tgt := 23) dX6_kinds_71 (by decide) ?_
            refine J_lv [2, 3, 4, 1, 0] rfl ?_
            exact ih23 (o + 1) (t ||| (1 <<< ((nI o) &&& 31))) d47_1 (y 0) (by omega) (by rw [h1, setF]; first | (rw [if_pos c_50]; rfl) | (rw [if_neg c_50, or_0])) (by omega)
    refine J_lv [3, 4, 5, 1, 0] rfl ?_
    exact lp23 _ 0 0 (y 5) (y 2) (by omega) rfl (Nat.lt_succ_self _)
  · skip
    exact absurd c_8 (by decide)

set_option maxHeartbeats 4000000 in
set_option maxRecDepth 20000 in
theorem c_X6_kinds_miss_1 (l : Launch) (G : GB) (b : Nat → Nat) (y : Q3) (h : Int32) (hb : y 9 1 0 = 0) : CI l yX6_kinds cX6_kinds 6 .int 4 89 G [.ref (b 0), .int (nI 1), .int h] (wM G b y) (fun vR w' => vR = tellR 5 ∧ PubM G b (tellX y 5) w') := by
  refine CI.mk (own := RX6) (by decide) rfl (Nat.le_of_ble_eq_true rfl) ?_
  intro X E ret
  show J X G 6 0 0 (wM G b y) [(0, .ref (b 0)), (1, .int (nI 1)), (2, .int h)] 0 []
  refine J_aload_n E dX6_kinds_0 rfl 0 rfl ?_
  refine J_iload_n E dX6_kinds_1 rfl 1 rfl ?_
  refine J_iload_n E dX6_kinds_2 rfl 2 rfl ?_
  refine J_cVi0 E (As := [.int (nI 1), .int h]) (c_X6_lacksHouse_1_0 l G b y h hb ) cl_X6_200 yo_X6_lacksHouse dX6_kinds_3 rfl rfl rfl (Nat.le_of_ble_eq_true rfl) (Nat.le_of_ble_eq_true rfl) rfl (Nat.le_of_ble_eq_true rfl) ⟨Nat.zero_le _, Nat.zero_le _⟩ ?_
  refine J_istore_n E (lv' := [(3, .int 5), (0, .ref (b 0)), (1, .int (nI 1)), (2, .int h)]) dX6_kinds_6 rfl (by decide) rfl ?_
  refine J_iload_n E dX6_kinds_7 rfl 0 rfl ?_
  refine J_if_lt E (tgt := 17) dX6_kinds_8 (by decide) (fun c_8 => ?_) (fun c_8 => ?_)
  · skip
    have n_8 : 5 < 0 := cmp_lt (a := 5) (b := 0) (by omega) (by omega) c_8
    exact absurd n_8 (by decide)
  · skip
    have n_8 : ¬ 5 < 0 := cmp_nlt (a := 5) (b := 0) (by omega) (by omega) c_8
    refine J_aload_n E dX6_kinds_11 rfl 1 rfl ?_
    refine J_iload_n E dX6_kinds_12 rfl 0 rfl ?_
    refine J_cVi0 E (As := [.int 5]) (c_X6_finds l G b y 5 (by omega)) cl_X6_96 yo_X6_finds dX6_kinds_13 rfl rfl rfl (Nat.le_of_ble_eq_true rfl) (Nat.le_of_ble_eq_true rfl) rfl (Nat.le_of_ble_eq_true rfl) ⟨Nat.zero_le _, Nat.zero_le _⟩ ?_
    exact ret _ _ _ _ ⟨rfl, _, rfl, by intro g h2 h5 h6; by_cases h0 : g = 0 <;> simp [tellX, upG, up3, up3R, up2, h0, h2, h5, h6]⟩ rfl dX6_kinds_16

set_option maxHeartbeats 4000000 in
set_option maxRecDepth 20000 in
theorem c_X6_kinds_bad_1 (l : Launch) (G : GB) (b : Nat → Nat) (y : Q3) (h : Int32) (hb : ¬ y 9 1 0 = 0) (hh : ¬ okH h) : CI l yX6_kinds cX6_kinds 6 .int 4 89 G [.ref (b 0), .int (nI 1), .int h] (wM G b y) (fun vR w' => vR = tellR 0 ∧ PubM G b (tellX y 0) w') := by
  refine CI.mk (own := RX6) (by decide) rfl (Nat.le_of_ble_eq_true rfl) ?_
  intro X E ret
  show J X G 6 0 0 (wM G b y) [(0, .ref (b 0)), (1, .int (nI 1)), (2, .int h)] 0 []
  refine J_aload_n E dX6_kinds_0 rfl 0 rfl ?_
  refine J_iload_n E dX6_kinds_1 rfl 1 rfl ?_
  refine J_iload_n E dX6_kinds_2 rfl 2 rfl ?_
  refine J_cVi0 E (As := [.int (nI 1), .int h]) (c_X6_lacksHouse_1_2 l G b y h hb hh ) cl_X6_200 yo_X6_lacksHouse dX6_kinds_3 rfl rfl rfl (Nat.le_of_ble_eq_true rfl) (Nat.le_of_ble_eq_true rfl) rfl (Nat.le_of_ble_eq_true rfl) ⟨Nat.zero_le _, Nat.zero_le _⟩ ?_
  refine J_istore_n E (lv' := [(3, .int 0), (0, .ref (b 0)), (1, .int (nI 1)), (2, .int h)]) dX6_kinds_6 rfl (by decide) rfl ?_
  refine J_iload_n E dX6_kinds_7 rfl 0 rfl ?_
  refine J_if_lt E (tgt := 17) dX6_kinds_8 (by decide) (fun c_8 => ?_) (fun c_8 => ?_)
  · skip
    have n_8 : 0 < 0 := cmp_lt (a := 0) (b := 0) (by omega) (by omega) c_8
    exact absurd n_8 (by decide)
  · skip
    have n_8 : ¬ 0 < 0 := cmp_nlt (a := 0) (b := 0) (by omega) (by omega) c_8
    refine J_aload_n E dX6_kinds_11 rfl 1 rfl ?_
    refine J_iload_n E dX6_kinds_12 rfl 0 rfl ?_
    refine J_cVi0 E (As := [.int 0]) (c_X6_finds l G b y 0 (by omega)) cl_X6_96 yo_X6_finds dX6_kinds_13 rfl rfl rfl (Nat.le_of_ble_eq_true rfl) (Nat.le_of_ble_eq_true rfl) rfl (Nat.le_of_ble_eq_true rfl) ⟨Nat.zero_le _, Nat.zero_le _⟩ ?_
    exact ret _ _ _ _ ⟨rfl, _, rfl, by intro g h2 h5 h6; by_cases h0 : g = 0 <;> simp [tellX, upG, up3, up3R, up2, h0, h2, h5, h6]⟩ rfl dX6_kinds_16

set_option maxHeartbeats 4000000 in
set_option maxRecDepth 20000 in
theorem c_X6_kinds_ok_1 (l : Launch) (G : GB) (b : Nat → Nat) (y : Q3) (j n : Nat) (hb : ¬ y 9 1 0 = 0) (hj : j < 11) (hn : y 9 1 1 = nI n) (hn2 : n ≤ 40) (hok : okQ (y 0))  : CI l yX6_kinds cX6_kinds 6 .int 5 116 G [.ref (b 0), .int (nI 1), .int (nI j)] (wM G b y) (fun vR w' => vR = setF (fun o => soF (y 9 0) j (up2 (y 0) 0 j (nI o)) n) 7 ∧ PubM G b y w') := by
  refine CI.mk (own := RX6) (by decide) rfl (Nat.le_of_ble_eq_true rfl) ?_
  intro X E ret
  show J X G 6 0 0 (wM G b y) [(0, .ref (b 0)), (1, .int (nI 1)), (2, .int (nI j))] 0 []
  refine J_aload_n E dX6_kinds_0 rfl 0 rfl ?_
  refine J_iload_n E dX6_kinds_1 rfl 1 rfl ?_
  refine J_iload_n E dX6_kinds_2 rfl 2 rfl ?_
  refine J_cVi0 E (As := [.int (nI 1), .int (nI j)]) (c_X6_lacksHouse_1_1 l G b y (nI j) hb (inB (a := j) (b := 10) (by omega) (by decide)) ) cl_X6_200 yo_X6_lacksHouse dX6_kinds_3 rfl rfl rfl (Nat.le_of_ble_eq_true rfl) (Nat.le_of_ble_eq_true rfl) rfl (Nat.le_of_ble_eq_true rfl) ⟨Nat.zero_le _, Nat.zero_le _⟩ ?_
  refine J_istore_n E (lv' := [(3, .int (-1)), (0, .ref (b 0)), (1, .int (nI 1)), (2, .int (nI j))]) dX6_kinds_6 rfl (by decide) rfl ?_
  refine J_iload_n E dX6_kinds_7 rfl 0 rfl ?_
  refine J_if_lt E (tgt := 17) dX6_kinds_8 (by decide) (fun c_8 => ?_) (fun c_8 => ?_)
  · skip
    refine J_iconst E dX6_kinds_17 ic_0 ?_
    refine J_istore E (lv' := [(4, .int 0), (3, .int (-1)), (0, .ref (b 0)), (1, .int (nI 1)), (2, .int (nI j))]) dX6_kinds_18 (by decide) rfl ?_
    refine J_iconst E dX6_kinds_20 ic_0 ?_
    refine J_istore E (lv' := [(5, .int 0), (4, .int 0), (3, .int (-1)), (0, .ref (b 0)), (1, .int (nI 1)), (2, .int (nI j))]) dX6_kinds_21 (by decide) rfl ?_
    refine J_w (ws' := wM G b (upG y 5 (y 5))) (congrArg (wM G b) upG_id.symm) ?_
    have lp23 : ∀ (fu : Nat) (o : Nat) (t : Int32) (d : Q2) (z : Q2), (o ≤ 7) → (t = setF (fun o => soF (y 9 0) j (up2 (y 0) 0 j (nI o)) n) o) → 7 - o < fu → J X G 6 0 0 (wM G b (upG (upG y 5 d) 2 z)) [(0, .ref (b 0)), (1, .int (nI 1)), (2, .int (nI j)), (4, .int t), (5, .int (nI o))] 23 [] := by
      intro fu
      induction fu with
      | zero => intro o t d z hi h1 hm; exact absurd hm (Nat.not_lt_zero _)
      | succ fu ih23 =>
        intro o t d z hi h1 hm
        refine J_iload E dX6_kinds_23 4 rfl ?_
        refine J_bipush E dX6_kinds_25 bp_6 ?_
        refine J_icmp_gt E (tgt := 74) dX6_kinds_27 (by decide) (fun c_27 => ?_) (fun c_27 => ?_)
        · skip
          have n_27 : 6 < o := cmp_lt (a := 6) (b := o) (by omega) (by omega) c_27
          refine J_iload E dX6_kinds_74 3 rfl ?_
          exact ret _ _ _ _ ⟨by rw [h1, show o = 7 by omega], _, rfl, by intro g h2 h5 h6; by_cases h0 : g = 0 <;> simp [tellX, upG, up3, up3R, up2, h0, h2, h5, h6]⟩ rfl dX6_kinds_76
        · skip
          have n_27 : ¬ 6 < o := cmp_nlt (a := 6) (b := o) (by omega) (by omega) c_27
          refine J_aload_n E dX6_kinds_30 rfl 0 rfl ?_
          refine J_cVv0 E (As := []) (c_X6_lends l G b (upG (upG y 5 d) 2 z) ) cl_X6_160 yo_X6_lends dX6_kinds_31 rfl rfl rfl (Nat.le_of_ble_eq_true rfl) (Nat.le_of_ble_eq_true rfl) rfl (Nat.le_of_ble_eq_true rfl) ⟨Nat.zero_le _, Nat.zero_le _⟩ ?_
          refine J_aload_n E dX6_kinds_34 rfl 0 rfl ?_
          refine J_iload_n E dX6_kinds_35 rfl 2 rfl ?_
          refine J_iconst E dX6_kinds_36 ic_0 ?_
          refine J_iload E dX6_kinds_37 4 rfl ?_
          refine J_cVv0 E (As := [.int (nI j), .int 0, .int (nI o)]) (c_X6_sets l G b (upG (upG (upG y 5 d) 2 z) 2 (y 0)) j 0 (nI o) (by omega) (by omega)) cl_X6_43 yo_X6_sets dX6_kinds_39 rfl rfl rfl (Nat.le_of_ble_eq_true rfl) (Nat.le_of_ble_eq_true rfl) rfl (Nat.le_of_ble_eq_true rfl) ⟨Nat.zero_le _, Nat.zero_le _⟩ ?_
          refine J_iload E dX6_kinds_42 3 rfl ?_
          refine J_aload_n E dX6_kinds_44 rfl 0 rfl ?_
          refine J_iload_n E dX6_kinds_45 rfl 1 rfl ?_
          refine J_iload_n E dX6_kinds_46 rfl 2 rfl ?_
          refine J_callVi E (As := [.int (nI 1), .int (nI j)]) (q0 := 0) (ci := 5) [] [] (c_X6_isSo_1 l G b (upG (upG (upG (upG y 5 d) 2 z) 2 (y 0)) 0 (up2 (y 0) 0 j (nI o))) j n hj hn hn2 (okQ_k hok _ (by omega))) cl_X6_203 yo_X6_isSo dX6_kinds_47 rfl rfl rfl (Nat.le_of_ble_eq_true rfl) (Nat.le_of_ble_eq_true rfl) rfl (Nat.le_of_ble_eq_true rfl) (by simp) ⟨Nat.zero_le _, Nat.zero_le _⟩ (fun vR w' hp => ?_)
          obtain ⟨rfl, d47_1, rfl⟩ := hp
          refine J_w (ws' := wM G b (upG (upG (upG (upG (upG (upG y 5 d) 2 z) 2 (y 0)) 0 (up2 (y 0) 0 j (nI o))) 5 d47_1) 0 (hoursR (up2 (y 0) 0 j (nI o)) n))) (List.append_nil _) ?_
          refine J_top (x' := bI (soF (y 9 0) j (up2 (y 0) 0 j (nI o)) n = true)) rfl ?_
          refine J_if_eq E (tgt := 60) dX6_kinds_50 (by decide) (fun c_50 => ?_) (fun c_50 => ?_)
          · skip
            have c_50 := bI_0 c_50
            refine J_iconst E dX6_kinds_60 ic_0 ?_
            refine J_ior E dX6_kinds_61 ?_
            refine J_istore E (lv' := [(4, .int (t ||| 0)), (0, .ref (b 0)), (1, .int (nI 1)), (2, .int (nI j)), (5, .int (nI o))]) dX6_kinds_62 (by decide) rfl ?_
            refine J_aload_n E dX6_kinds_64 rfl 1 rfl ?_
            refine J_cVv0 E (As := []) (c_X6_laysBack l G b (upG (upG (upG (upG (upG (upG y 5 d) 2 z) 2 (y 0)) 0 (up2 (y 0) 0 j (nI o))) 5 d47_1) 0 (hoursR (up2 (y 0) 0 j (nI o)) n)) ) cl_X6_163 yo_X6_laysBack dX6_kinds_65 rfl rfl rfl (Nat.le_of_ble_eq_true rfl) (Nat.le_of_ble_eq_true rfl) rfl (Nat.le_of_ble_eq_true rfl) ⟨Nat.zero_le _, Nat.zero_le _⟩ ?_
            refine J_iinc E (lv' := [(5, .int (nI (o + 1))), (4, .int (t ||| 0)), (0, .ref (b 0)), (1, .int (nI 1)), (2, .int (nI j))]) dX6_kinds_68 4 rfl (nI_inc _) (by decide) rfl ?_
            refine J_goto E (tgt := 23) dX6_kinds_71 (by decide) ?_
            refine J_lv [2, 3, 4, 1, 0] rfl ?_
            exact ih23 (o + 1) (t ||| 0) d47_1 (y 0) (by omega) (by rw [h1, setF]; first | (rw [if_pos c_50]; rfl) | (rw [if_neg c_50, or_0])) (by omega)
          · skip
            have c_50 := bI_1 c_50
            refine J_iconst E dX6_kinds_53 ic_1 ?_
            refine J_iload E dX6_kinds_54 4 rfl ?_
            refine J_ishl E dX6_kinds_56 ?_
            refine J_goto E (tgt := 61) dX6_kinds_57 (by decide) ?_
            refine J_ior E dX6_kinds_61 ?_
            refine J_istore E (lv' := [(4, .int (t ||| (1 <<< ((nI o) &&& 31)))), (0, .ref (b 0)), (1, .int (nI 1)), (2, .int (nI j)), (5, .int (nI o))]) dX6_kinds_62 (by decide) rfl ?_
            refine J_aload_n E dX6_kinds_64 rfl 1 rfl ?_
            refine J_cVv0 E (As := []) (c_X6_laysBack l G b (upG (upG (upG (upG (upG (upG y 5 d) 2 z) 2 (y 0)) 0 (up2 (y 0) 0 j (nI o))) 5 d47_1) 0 (hoursR (up2 (y 0) 0 j (nI o)) n)) ) cl_X6_163 yo_X6_laysBack dX6_kinds_65 rfl rfl rfl (Nat.le_of_ble_eq_true rfl) (Nat.le_of_ble_eq_true rfl) rfl (Nat.le_of_ble_eq_true rfl) ⟨Nat.zero_le _, Nat.zero_le _⟩ ?_
            refine J_iinc E (lv' := [(5, .int (nI (o + 1))), (4, .int (t ||| (1 <<< ((nI o) &&& 31)))), (0, .ref (b 0)), (1, .int (nI 1)), (2, .int (nI j))]) dX6_kinds_68 4 rfl (nI_inc _) (by decide) rfl ?_
            refine J_goto E (tgt := 23) dX6_kinds_71 (by decide) ?_
            refine J_lv [2, 3, 4, 1, 0] rfl ?_
            exact ih23 (o + 1) (t ||| (1 <<< ((nI o) &&& 31))) d47_1 (y 0) (by omega) (by rw [h1, setF]; first | (rw [if_pos c_50]; rfl) | (rw [if_neg c_50, or_0])) (by omega)
    refine J_lv [3, 4, 5, 1, 0] rfl ?_
    exact lp23 _ 0 0 (y 5) (y 2) (by omega) rfl (Nat.lt_succ_self _)
  · skip
    exact absurd c_8 (by decide)

set_option maxHeartbeats 4000000 in
set_option maxRecDepth 20000 in
theorem c_X6_kinds_miss_2 (l : Launch) (G : GB) (b : Nat → Nat) (y : Q3) (h : Int32) (hb : y 10 1 0 = 0) : CI l yX6_kinds cX6_kinds 6 .int 4 89 G [.ref (b 0), .int (nI 2), .int h] (wM G b y) (fun vR w' => vR = tellR 5 ∧ PubM G b (tellX y 5) w') := by
  refine CI.mk (own := RX6) (by decide) rfl (Nat.le_of_ble_eq_true rfl) ?_
  intro X E ret
  show J X G 6 0 0 (wM G b y) [(0, .ref (b 0)), (1, .int (nI 2)), (2, .int h)] 0 []
  refine J_aload_n E dX6_kinds_0 rfl 0 rfl ?_
  refine J_iload_n E dX6_kinds_1 rfl 1 rfl ?_
  refine J_iload_n E dX6_kinds_2 rfl 2 rfl ?_
  refine J_cVi0 E (As := [.int (nI 2), .int h]) (c_X6_lacksHouse_2_0 l G b y h hb ) cl_X6_200 yo_X6_lacksHouse dX6_kinds_3 rfl rfl rfl (Nat.le_of_ble_eq_true rfl) (Nat.le_of_ble_eq_true rfl) rfl (Nat.le_of_ble_eq_true rfl) ⟨Nat.zero_le _, Nat.zero_le _⟩ ?_
  refine J_istore_n E (lv' := [(3, .int 5), (0, .ref (b 0)), (1, .int (nI 2)), (2, .int h)]) dX6_kinds_6 rfl (by decide) rfl ?_
  refine J_iload_n E dX6_kinds_7 rfl 0 rfl ?_
  refine J_if_lt E (tgt := 17) dX6_kinds_8 (by decide) (fun c_8 => ?_) (fun c_8 => ?_)
  · skip
    have n_8 : 5 < 0 := cmp_lt (a := 5) (b := 0) (by omega) (by omega) c_8
    exact absurd n_8 (by decide)
  · skip
    have n_8 : ¬ 5 < 0 := cmp_nlt (a := 5) (b := 0) (by omega) (by omega) c_8
    refine J_aload_n E dX6_kinds_11 rfl 1 rfl ?_
    refine J_iload_n E dX6_kinds_12 rfl 0 rfl ?_
    refine J_cVi0 E (As := [.int 5]) (c_X6_finds l G b y 5 (by omega)) cl_X6_96 yo_X6_finds dX6_kinds_13 rfl rfl rfl (Nat.le_of_ble_eq_true rfl) (Nat.le_of_ble_eq_true rfl) rfl (Nat.le_of_ble_eq_true rfl) ⟨Nat.zero_le _, Nat.zero_le _⟩ ?_
    exact ret _ _ _ _ ⟨rfl, _, rfl, by intro g h2 h5 h6; by_cases h0 : g = 0 <;> simp [tellX, upG, up3, up3R, up2, h0, h2, h5, h6]⟩ rfl dX6_kinds_16

set_option maxHeartbeats 4000000 in
set_option maxRecDepth 20000 in
theorem c_X6_kinds_bad_2 (l : Launch) (G : GB) (b : Nat → Nat) (y : Q3) (h : Int32) (hb : ¬ y 10 1 0 = 0) (hh : ¬ okH h) : CI l yX6_kinds cX6_kinds 6 .int 4 89 G [.ref (b 0), .int (nI 2), .int h] (wM G b y) (fun vR w' => vR = tellR 0 ∧ PubM G b (tellX y 0) w') := by
  refine CI.mk (own := RX6) (by decide) rfl (Nat.le_of_ble_eq_true rfl) ?_
  intro X E ret
  show J X G 6 0 0 (wM G b y) [(0, .ref (b 0)), (1, .int (nI 2)), (2, .int h)] 0 []
  refine J_aload_n E dX6_kinds_0 rfl 0 rfl ?_
  refine J_iload_n E dX6_kinds_1 rfl 1 rfl ?_
  refine J_iload_n E dX6_kinds_2 rfl 2 rfl ?_
  refine J_cVi0 E (As := [.int (nI 2), .int h]) (c_X6_lacksHouse_2_2 l G b y h hb hh ) cl_X6_200 yo_X6_lacksHouse dX6_kinds_3 rfl rfl rfl (Nat.le_of_ble_eq_true rfl) (Nat.le_of_ble_eq_true rfl) rfl (Nat.le_of_ble_eq_true rfl) ⟨Nat.zero_le _, Nat.zero_le _⟩ ?_
  refine J_istore_n E (lv' := [(3, .int 0), (0, .ref (b 0)), (1, .int (nI 2)), (2, .int h)]) dX6_kinds_6 rfl (by decide) rfl ?_
  refine J_iload_n E dX6_kinds_7 rfl 0 rfl ?_
  refine J_if_lt E (tgt := 17) dX6_kinds_8 (by decide) (fun c_8 => ?_) (fun c_8 => ?_)
  · skip
    have n_8 : 0 < 0 := cmp_lt (a := 0) (b := 0) (by omega) (by omega) c_8
    exact absurd n_8 (by decide)
  · skip
    have n_8 : ¬ 0 < 0 := cmp_nlt (a := 0) (b := 0) (by omega) (by omega) c_8
    refine J_aload_n E dX6_kinds_11 rfl 1 rfl ?_
    refine J_iload_n E dX6_kinds_12 rfl 0 rfl ?_
    refine J_cVi0 E (As := [.int 0]) (c_X6_finds l G b y 0 (by omega)) cl_X6_96 yo_X6_finds dX6_kinds_13 rfl rfl rfl (Nat.le_of_ble_eq_true rfl) (Nat.le_of_ble_eq_true rfl) rfl (Nat.le_of_ble_eq_true rfl) ⟨Nat.zero_le _, Nat.zero_le _⟩ ?_
    exact ret _ _ _ _ ⟨rfl, _, rfl, by intro g h2 h5 h6; by_cases h0 : g = 0 <;> simp [tellX, upG, up3, up3R, up2, h0, h2, h5, h6]⟩ rfl dX6_kinds_16

set_option maxHeartbeats 4000000 in
set_option maxRecDepth 20000 in
theorem c_X6_kinds_ok_2 (l : Launch) (G : GB) (b : Nat → Nat) (y : Q3) (j n : Nat) (hb : ¬ y 10 1 0 = 0) (hj : j < 11) (hn : y 10 1 1 = nI n) (hn2 : n ≤ 40) (hok : okQ (y 0))  : CI l yX6_kinds cX6_kinds 6 .int 5 116 G [.ref (b 0), .int (nI 2), .int (nI j)] (wM G b y) (fun vR w' => vR = setF (fun o => soF (y 10 0) j (up2 (y 0) 0 j (nI o)) n) 7 ∧ PubM G b y w') := by
  refine CI.mk (own := RX6) (by decide) rfl (Nat.le_of_ble_eq_true rfl) ?_
  intro X E ret
  show J X G 6 0 0 (wM G b y) [(0, .ref (b 0)), (1, .int (nI 2)), (2, .int (nI j))] 0 []
  refine J_aload_n E dX6_kinds_0 rfl 0 rfl ?_
  refine J_iload_n E dX6_kinds_1 rfl 1 rfl ?_
  refine J_iload_n E dX6_kinds_2 rfl 2 rfl ?_
  refine J_cVi0 E (As := [.int (nI 2), .int (nI j)]) (c_X6_lacksHouse_2_1 l G b y (nI j) hb (inB (a := j) (b := 10) (by omega) (by decide)) ) cl_X6_200 yo_X6_lacksHouse dX6_kinds_3 rfl rfl rfl (Nat.le_of_ble_eq_true rfl) (Nat.le_of_ble_eq_true rfl) rfl (Nat.le_of_ble_eq_true rfl) ⟨Nat.zero_le _, Nat.zero_le _⟩ ?_
  refine J_istore_n E (lv' := [(3, .int (-1)), (0, .ref (b 0)), (1, .int (nI 2)), (2, .int (nI j))]) dX6_kinds_6 rfl (by decide) rfl ?_
  refine J_iload_n E dX6_kinds_7 rfl 0 rfl ?_
  refine J_if_lt E (tgt := 17) dX6_kinds_8 (by decide) (fun c_8 => ?_) (fun c_8 => ?_)
  · skip
    refine J_iconst E dX6_kinds_17 ic_0 ?_
    refine J_istore E (lv' := [(4, .int 0), (3, .int (-1)), (0, .ref (b 0)), (1, .int (nI 2)), (2, .int (nI j))]) dX6_kinds_18 (by decide) rfl ?_
    refine J_iconst E dX6_kinds_20 ic_0 ?_
    refine J_istore E (lv' := [(5, .int 0), (4, .int 0), (3, .int (-1)), (0, .ref (b 0)), (1, .int (nI 2)), (2, .int (nI j))]) dX6_kinds_21 (by decide) rfl ?_
    refine J_w (ws' := wM G b (upG y 5 (y 5))) (congrArg (wM G b) upG_id.symm) ?_
    have lp23 : ∀ (fu : Nat) (o : Nat) (t : Int32) (d : Q2) (z : Q2), (o ≤ 7) → (t = setF (fun o => soF (y 10 0) j (up2 (y 0) 0 j (nI o)) n) o) → 7 - o < fu → J X G 6 0 0 (wM G b (upG (upG y 5 d) 2 z)) [(0, .ref (b 0)), (1, .int (nI 2)), (2, .int (nI j)), (4, .int t), (5, .int (nI o))] 23 [] := by
      intro fu
      induction fu with
      | zero => intro o t d z hi h1 hm; exact absurd hm (Nat.not_lt_zero _)
      | succ fu ih23 =>
        intro o t d z hi h1 hm
        refine J_iload E dX6_kinds_23 4 rfl ?_
        refine J_bipush E dX6_kinds_25 bp_6 ?_
        refine J_icmp_gt E (tgt := 74) dX6_kinds_27 (by decide) (fun c_27 => ?_) (fun c_27 => ?_)
        · skip
          have n_27 : 6 < o := cmp_lt (a := 6) (b := o) (by omega) (by omega) c_27
          refine J_iload E dX6_kinds_74 3 rfl ?_
          exact ret _ _ _ _ ⟨by rw [h1, show o = 7 by omega], _, rfl, by intro g h2 h5 h6; by_cases h0 : g = 0 <;> simp [tellX, upG, up3, up3R, up2, h0, h2, h5, h6]⟩ rfl dX6_kinds_76
        · skip
          have n_27 : ¬ 6 < o := cmp_nlt (a := 6) (b := o) (by omega) (by omega) c_27
          refine J_aload_n E dX6_kinds_30 rfl 0 rfl ?_
          refine J_cVv0 E (As := []) (c_X6_lends l G b (upG (upG y 5 d) 2 z) ) cl_X6_160 yo_X6_lends dX6_kinds_31 rfl rfl rfl (Nat.le_of_ble_eq_true rfl) (Nat.le_of_ble_eq_true rfl) rfl (Nat.le_of_ble_eq_true rfl) ⟨Nat.zero_le _, Nat.zero_le _⟩ ?_
          refine J_aload_n E dX6_kinds_34 rfl 0 rfl ?_
          refine J_iload_n E dX6_kinds_35 rfl 2 rfl ?_
          refine J_iconst E dX6_kinds_36 ic_0 ?_
          refine J_iload E dX6_kinds_37 4 rfl ?_
          refine J_cVv0 E (As := [.int (nI j), .int 0, .int (nI o)]) (c_X6_sets l G b (upG (upG (upG y 5 d) 2 z) 2 (y 0)) j 0 (nI o) (by omega) (by omega)) cl_X6_43 yo_X6_sets dX6_kinds_39 rfl rfl rfl (Nat.le_of_ble_eq_true rfl) (Nat.le_of_ble_eq_true rfl) rfl (Nat.le_of_ble_eq_true rfl) ⟨Nat.zero_le _, Nat.zero_le _⟩ ?_
          refine J_iload E dX6_kinds_42 3 rfl ?_
          refine J_aload_n E dX6_kinds_44 rfl 0 rfl ?_
          refine J_iload_n E dX6_kinds_45 rfl 1 rfl ?_
          refine J_iload_n E dX6_kinds_46 rfl 2 rfl ?_
          refine J_callVi E (As := [.int (nI 2), .int (nI j)]) (q0 := 0) (ci := 5) [] [] (c_X6_isSo_2 l G b (upG (upG (upG (upG y 5 d) 2 z) 2 (y 0)) 0 (up2 (y 0) 0 j (nI o))) j n hj hn hn2 (okQ_k hok _ (by omega))) cl_X6_203 yo_X6_isSo dX6_kinds_47 rfl rfl rfl (Nat.le_of_ble_eq_true rfl) (Nat.le_of_ble_eq_true rfl) rfl (Nat.le_of_ble_eq_true rfl) (by simp) ⟨Nat.zero_le _, Nat.zero_le _⟩ (fun vR w' hp => ?_)
          obtain ⟨rfl, d47_1, rfl⟩ := hp
          refine J_w (ws' := wM G b (upG (upG (upG (upG (upG (upG y 5 d) 2 z) 2 (y 0)) 0 (up2 (y 0) 0 j (nI o))) 5 d47_1) 0 (hoursR (up2 (y 0) 0 j (nI o)) n))) (List.append_nil _) ?_
          refine J_top (x' := bI (soF (y 10 0) j (up2 (y 0) 0 j (nI o)) n = true)) rfl ?_
          refine J_if_eq E (tgt := 60) dX6_kinds_50 (by decide) (fun c_50 => ?_) (fun c_50 => ?_)
          · skip
            have c_50 := bI_0 c_50
            refine J_iconst E dX6_kinds_60 ic_0 ?_
            refine J_ior E dX6_kinds_61 ?_
            refine J_istore E (lv' := [(4, .int (t ||| 0)), (0, .ref (b 0)), (1, .int (nI 2)), (2, .int (nI j)), (5, .int (nI o))]) dX6_kinds_62 (by decide) rfl ?_
            refine J_aload_n E dX6_kinds_64 rfl 1 rfl ?_
            refine J_cVv0 E (As := []) (c_X6_laysBack l G b (upG (upG (upG (upG (upG (upG y 5 d) 2 z) 2 (y 0)) 0 (up2 (y 0) 0 j (nI o))) 5 d47_1) 0 (hoursR (up2 (y 0) 0 j (nI o)) n)) ) cl_X6_163 yo_X6_laysBack dX6_kinds_65 rfl rfl rfl (Nat.le_of_ble_eq_true rfl) (Nat.le_of_ble_eq_true rfl) rfl (Nat.le_of_ble_eq_true rfl) ⟨Nat.zero_le _, Nat.zero_le _⟩ ?_
            refine J_iinc E (lv' := [(5, .int (nI (o + 1))), (4, .int (t ||| 0)), (0, .ref (b 0)), (1, .int (nI 2)), (2, .int (nI j))]) dX6_kinds_68 4 rfl (nI_inc _) (by decide) rfl ?_
            refine J_goto E (tgt := 23) dX6_kinds_71 (by decide) ?_
            refine J_lv [2, 3, 4, 1, 0] rfl ?_
            exact ih23 (o + 1) (t ||| 0) d47_1 (y 0) (by omega) (by rw [h1, setF]; first | (rw [if_pos c_50]; rfl) | (rw [if_neg c_50, or_0])) (by omega)
          · skip
            have c_50 := bI_1 c_50
            refine J_iconst E dX6_kinds_53 ic_1 ?_
            refine J_iload E dX6_kinds_54 4 rfl ?_
            refine J_ishl E dX6_kinds_56 ?_
            refine J_goto E (tgt := 61) dX6_kinds_57 (by decide) ?_
            refine J_ior E dX6_kinds_61 ?_
            refine J_istore E (lv' := [(4, .int (t ||| (1 <<< ((nI o) &&& 31)))), (0, .ref (b 0)), (1, .int (nI 2)), (2, .int (nI j)), (5, .int (nI o))]) dX6_kinds_62 (by decide) rfl ?_
            refine J_aload_n E dX6_kinds_64 rfl 1 rfl ?_
            refine J_cVv0 E (As := []) (c_X6_laysBack l G b (upG (upG (upG (upG (upG (upG y 5 d) 2 z) 2 (y 0)) 0 (up2 (y 0) 0 j (nI o))) 5 d47_1) 0 (hoursR (up2 (y 0) 0 j (nI o)) n)) ) cl_X6_163 yo_X6_laysBack dX6_kinds_65 rfl rfl rfl (Nat.le_of_ble_eq_true rfl) (Nat.le_of_ble_eq_true rfl) rfl (Nat.le_of_ble_eq_true rfl) ⟨Nat.zero_le _, Nat.zero_le _⟩ ?_
            refine J_iinc E (lv' := [(5, .int (nI (o + 1))), (4, .int (t ||| (1 <<< ((nI o) &&& 31)))), (0, .ref (b 0)), (1, .int (nI 2)), (2, .int (nI j))]) dX6_kinds_68 4 rfl (nI_inc _) (by decide) rfl ?_
            refine J_goto E (tgt := 23) dX6_kinds_71 (by decide) ?_
            refine J_lv [2, 3, 4, 1, 0] rfl ?_
            exact ih23 (o + 1) (t ||| (1 <<< ((nI o) &&& 31))) d47_1 (y 0) (by omega) (by rw [h1, setF]; first | (rw [if_pos c_50]; rfl) | (rw [if_neg c_50, or_0])) (by omega)
    refine J_lv [3, 4, 5, 1, 0] rfl ?_
    exact lp23 _ 0 0 (y 5) (y 2) (by omega) rfl (Nat.lt_succ_self _)
  · skip
    exact absurd c_8 (by decide)

set_option maxHeartbeats 4000000 in
set_option maxRecDepth 20000 in
theorem c_X6_kinds_miss_3 (l : Launch) (G : GB) (b : Nat → Nat) (y : Q3) (h : Int32) (hb : y 11 1 0 = 0) : CI l yX6_kinds cX6_kinds 6 .int 4 89 G [.ref (b 0), .int (nI 3), .int h] (wM G b y) (fun vR w' => vR = tellR 5 ∧ PubM G b (tellX y 5) w') := by
  refine CI.mk (own := RX6) (by decide) rfl (Nat.le_of_ble_eq_true rfl) ?_
  intro X E ret
  show J X G 6 0 0 (wM G b y) [(0, .ref (b 0)), (1, .int (nI 3)), (2, .int h)] 0 []
  refine J_aload_n E dX6_kinds_0 rfl 0 rfl ?_
  refine J_iload_n E dX6_kinds_1 rfl 1 rfl ?_
  refine J_iload_n E dX6_kinds_2 rfl 2 rfl ?_
  refine J_cVi0 E (As := [.int (nI 3), .int h]) (c_X6_lacksHouse_3_0 l G b y h hb ) cl_X6_200 yo_X6_lacksHouse dX6_kinds_3 rfl rfl rfl (Nat.le_of_ble_eq_true rfl) (Nat.le_of_ble_eq_true rfl) rfl (Nat.le_of_ble_eq_true rfl) ⟨Nat.zero_le _, Nat.zero_le _⟩ ?_
  refine J_istore_n E (lv' := [(3, .int 5), (0, .ref (b 0)), (1, .int (nI 3)), (2, .int h)]) dX6_kinds_6 rfl (by decide) rfl ?_
  refine J_iload_n E dX6_kinds_7 rfl 0 rfl ?_
  refine J_if_lt E (tgt := 17) dX6_kinds_8 (by decide) (fun c_8 => ?_) (fun c_8 => ?_)
  · skip
    have n_8 : 5 < 0 := cmp_lt (a := 5) (b := 0) (by omega) (by omega) c_8
    exact absurd n_8 (by decide)
  · skip
    have n_8 : ¬ 5 < 0 := cmp_nlt (a := 5) (b := 0) (by omega) (by omega) c_8
    refine J_aload_n E dX6_kinds_11 rfl 1 rfl ?_
    refine J_iload_n E dX6_kinds_12 rfl 0 rfl ?_
    refine J_cVi0 E (As := [.int 5]) (c_X6_finds l G b y 5 (by omega)) cl_X6_96 yo_X6_finds dX6_kinds_13 rfl rfl rfl (Nat.le_of_ble_eq_true rfl) (Nat.le_of_ble_eq_true rfl) rfl (Nat.le_of_ble_eq_true rfl) ⟨Nat.zero_le _, Nat.zero_le _⟩ ?_
    exact ret _ _ _ _ ⟨rfl, _, rfl, by intro g h2 h5 h6; by_cases h0 : g = 0 <;> simp [tellX, upG, up3, up3R, up2, h0, h2, h5, h6]⟩ rfl dX6_kinds_16

set_option maxHeartbeats 4000000 in
set_option maxRecDepth 20000 in
theorem c_X6_kinds_bad_3 (l : Launch) (G : GB) (b : Nat → Nat) (y : Q3) (h : Int32) (hb : ¬ y 11 1 0 = 0) (hh : ¬ okH h) : CI l yX6_kinds cX6_kinds 6 .int 4 89 G [.ref (b 0), .int (nI 3), .int h] (wM G b y) (fun vR w' => vR = tellR 0 ∧ PubM G b (tellX y 0) w') := by
  refine CI.mk (own := RX6) (by decide) rfl (Nat.le_of_ble_eq_true rfl) ?_
  intro X E ret
  show J X G 6 0 0 (wM G b y) [(0, .ref (b 0)), (1, .int (nI 3)), (2, .int h)] 0 []
  refine J_aload_n E dX6_kinds_0 rfl 0 rfl ?_
  refine J_iload_n E dX6_kinds_1 rfl 1 rfl ?_
  refine J_iload_n E dX6_kinds_2 rfl 2 rfl ?_
  refine J_cVi0 E (As := [.int (nI 3), .int h]) (c_X6_lacksHouse_3_2 l G b y h hb hh ) cl_X6_200 yo_X6_lacksHouse dX6_kinds_3 rfl rfl rfl (Nat.le_of_ble_eq_true rfl) (Nat.le_of_ble_eq_true rfl) rfl (Nat.le_of_ble_eq_true rfl) ⟨Nat.zero_le _, Nat.zero_le _⟩ ?_
  refine J_istore_n E (lv' := [(3, .int 0), (0, .ref (b 0)), (1, .int (nI 3)), (2, .int h)]) dX6_kinds_6 rfl (by decide) rfl ?_
  refine J_iload_n E dX6_kinds_7 rfl 0 rfl ?_
  refine J_if_lt E (tgt := 17) dX6_kinds_8 (by decide) (fun c_8 => ?_) (fun c_8 => ?_)
  · skip
    have n_8 : 0 < 0 := cmp_lt (a := 0) (b := 0) (by omega) (by omega) c_8
    exact absurd n_8 (by decide)
  · skip
    have n_8 : ¬ 0 < 0 := cmp_nlt (a := 0) (b := 0) (by omega) (by omega) c_8
    refine J_aload_n E dX6_kinds_11 rfl 1 rfl ?_
    refine J_iload_n E dX6_kinds_12 rfl 0 rfl ?_
    refine J_cVi0 E (As := [.int 0]) (c_X6_finds l G b y 0 (by omega)) cl_X6_96 yo_X6_finds dX6_kinds_13 rfl rfl rfl (Nat.le_of_ble_eq_true rfl) (Nat.le_of_ble_eq_true rfl) rfl (Nat.le_of_ble_eq_true rfl) ⟨Nat.zero_le _, Nat.zero_le _⟩ ?_
    exact ret _ _ _ _ ⟨rfl, _, rfl, by intro g h2 h5 h6; by_cases h0 : g = 0 <;> simp [tellX, upG, up3, up3R, up2, h0, h2, h5, h6]⟩ rfl dX6_kinds_16

set_option maxHeartbeats 4000000 in
set_option maxRecDepth 20000 in
theorem c_X6_kinds_ok_3 (l : Launch) (G : GB) (b : Nat → Nat) (y : Q3) (j n : Nat) (hb : ¬ y 11 1 0 = 0) (hj : j < 11) (hn : y 11 1 1 = nI n) (hn2 : n ≤ 40) (hok : okQ (y 0))  : CI l yX6_kinds cX6_kinds 6 .int 5 116 G [.ref (b 0), .int (nI 3), .int (nI j)] (wM G b y) (fun vR w' => vR = setF (fun o => soF (y 11 0) j (up2 (y 0) 0 j (nI o)) n) 7 ∧ PubM G b y w') := by
  refine CI.mk (own := RX6) (by decide) rfl (Nat.le_of_ble_eq_true rfl) ?_
  intro X E ret
  show J X G 6 0 0 (wM G b y) [(0, .ref (b 0)), (1, .int (nI 3)), (2, .int (nI j))] 0 []
  refine J_aload_n E dX6_kinds_0 rfl 0 rfl ?_
  refine J_iload_n E dX6_kinds_1 rfl 1 rfl ?_
  refine J_iload_n E dX6_kinds_2 rfl 2 rfl ?_
  refine J_cVi0 E (As := [.int (nI 3), .int (nI j)]) (c_X6_lacksHouse_3_1 l G b y (nI j) hb (inB (a := j) (b := 10) (by omega) (by decide)) ) cl_X6_200 yo_X6_lacksHouse dX6_kinds_3 rfl rfl rfl (Nat.le_of_ble_eq_true rfl) (Nat.le_of_ble_eq_true rfl) rfl (Nat.le_of_ble_eq_true rfl) ⟨Nat.zero_le _, Nat.zero_le _⟩ ?_
  refine J_istore_n E (lv' := [(3, .int (-1)), (0, .ref (b 0)), (1, .int (nI 3)), (2, .int (nI j))]) dX6_kinds_6 rfl (by decide) rfl ?_
  refine J_iload_n E dX6_kinds_7 rfl 0 rfl ?_
  refine J_if_lt E (tgt := 17) dX6_kinds_8 (by decide) (fun c_8 => ?_) (fun c_8 => ?_)
  · skip
    refine J_iconst E dX6_kinds_17 ic_0 ?_
    refine J_istore E (lv' := [(4, .int 0), (3, .int (-1)), (0, .ref (b 0)), (1, .int (nI 3)), (2, .int (nI j))]) dX6_kinds_18 (by decide) rfl ?_
    refine J_iconst E dX6_kinds_20 ic_0 ?_
    refine J_istore E (lv' := [(5, .int 0), (4, .int 0), (3, .int (-1)), (0, .ref (b 0)), (1, .int (nI 3)), (2, .int (nI j))]) dX6_kinds_21 (by decide) rfl ?_
    refine J_w (ws' := wM G b (upG y 5 (y 5))) (congrArg (wM G b) upG_id.symm) ?_
    have lp23 : ∀ (fu : Nat) (o : Nat) (t : Int32) (d : Q2) (z : Q2), (o ≤ 7) → (t = setF (fun o => soF (y 11 0) j (up2 (y 0) 0 j (nI o)) n) o) → 7 - o < fu → J X G 6 0 0 (wM G b (upG (upG y 5 d) 2 z)) [(0, .ref (b 0)), (1, .int (nI 3)), (2, .int (nI j)), (4, .int t), (5, .int (nI o))] 23 [] := by
      intro fu
      induction fu with
      | zero => intro o t d z hi h1 hm; exact absurd hm (Nat.not_lt_zero _)
      | succ fu ih23 =>
        intro o t d z hi h1 hm
        refine J_iload E dX6_kinds_23 4 rfl ?_
        refine J_bipush E dX6_kinds_25 bp_6 ?_
        refine J_icmp_gt E (tgt := 74) dX6_kinds_27 (by decide) (fun c_27 => ?_) (fun c_27 => ?_)
        · skip
          have n_27 : 6 < o := cmp_lt (a := 6) (b := o) (by omega) (by omega) c_27
          refine J_iload E dX6_kinds_74 3 rfl ?_
          exact ret _ _ _ _ ⟨by rw [h1, show o = 7 by omega], _, rfl, by intro g h2 h5 h6; by_cases h0 : g = 0 <;> simp [tellX, upG, up3, up3R, up2, h0, h2, h5, h6]⟩ rfl dX6_kinds_76
        · skip
          have n_27 : ¬ 6 < o := cmp_nlt (a := 6) (b := o) (by omega) (by omega) c_27
          refine J_aload_n E dX6_kinds_30 rfl 0 rfl ?_
          refine J_cVv0 E (As := []) (c_X6_lends l G b (upG (upG y 5 d) 2 z) ) cl_X6_160 yo_X6_lends dX6_kinds_31 rfl rfl rfl (Nat.le_of_ble_eq_true rfl) (Nat.le_of_ble_eq_true rfl) rfl (Nat.le_of_ble_eq_true rfl) ⟨Nat.zero_le _, Nat.zero_le _⟩ ?_
          refine J_aload_n E dX6_kinds_34 rfl 0 rfl ?_
          refine J_iload_n E dX6_kinds_35 rfl 2 rfl ?_
          refine J_iconst E dX6_kinds_36 ic_0 ?_
          refine J_iload E dX6_kinds_37 4 rfl ?_
          refine J_cVv0 E (As := [.int (nI j), .int 0, .int (nI o)]) (c_X6_sets l G b (upG (upG (upG y 5 d) 2 z) 2 (y 0)) j 0 (nI o) (by omega) (by omega)) cl_X6_43 yo_X6_sets dX6_kinds_39 rfl rfl rfl (Nat.le_of_ble_eq_true rfl) (Nat.le_of_ble_eq_true rfl) rfl (Nat.le_of_ble_eq_true rfl) ⟨Nat.zero_le _, Nat.zero_le _⟩ ?_
          refine J_iload E dX6_kinds_42 3 rfl ?_
          refine J_aload_n E dX6_kinds_44 rfl 0 rfl ?_
          refine J_iload_n E dX6_kinds_45 rfl 1 rfl ?_
          refine J_iload_n E dX6_kinds_46 rfl 2 rfl ?_
          refine J_callVi E (As := [.int (nI 3), .int (nI j)]) (q0 := 0) (ci := 5) [] [] (c_X6_isSo_3 l G b (upG (upG (upG (upG y 5 d) 2 z) 2 (y 0)) 0 (up2 (y 0) 0 j (nI o))) j n hj hn hn2 (okQ_k hok _ (by omega))) cl_X6_203 yo_X6_isSo dX6_kinds_47 rfl rfl rfl (Nat.le_of_ble_eq_true rfl) (Nat.le_of_ble_eq_true rfl) rfl (Nat.le_of_ble_eq_true rfl) (by simp) ⟨Nat.zero_le _, Nat.zero_le _⟩ (fun vR w' hp => ?_)
          obtain ⟨rfl, d47_1, rfl⟩ := hp
          refine J_w (ws' := wM G b (upG (upG (upG (upG (upG (upG y 5 d) 2 z) 2 (y 0)) 0 (up2 (y 0) 0 j (nI o))) 5 d47_1) 0 (hoursR (up2 (y 0) 0 j (nI o)) n))) (List.append_nil _) ?_
          refine J_top (x' := bI (soF (y 11 0) j (up2 (y 0) 0 j (nI o)) n = true)) rfl ?_
          refine J_if_eq E (tgt := 60) dX6_kinds_50 (by decide) (fun c_50 => ?_) (fun c_50 => ?_)
          · skip
            have c_50 := bI_0 c_50
            refine J_iconst E dX6_kinds_60 ic_0 ?_
            refine J_ior E dX6_kinds_61 ?_
            refine J_istore E (lv' := [(4, .int (t ||| 0)), (0, .ref (b 0)), (1, .int (nI 3)), (2, .int (nI j)), (5, .int (nI o))]) dX6_kinds_62 (by decide) rfl ?_
            refine J_aload_n E dX6_kinds_64 rfl 1 rfl ?_
            refine J_cVv0 E (As := []) (c_X6_laysBack l G b (upG (upG (upG (upG (upG (upG y 5 d) 2 z) 2 (y 0)) 0 (up2 (y 0) 0 j (nI o))) 5 d47_1) 0 (hoursR (up2 (y 0) 0 j (nI o)) n)) ) cl_X6_163 yo_X6_laysBack dX6_kinds_65 rfl rfl rfl (Nat.le_of_ble_eq_true rfl) (Nat.le_of_ble_eq_true rfl) rfl (Nat.le_of_ble_eq_true rfl) ⟨Nat.zero_le _, Nat.zero_le _⟩ ?_
            refine J_iinc E (lv' := [(5, .int (nI (o + 1))), (4, .int (t ||| 0)), (0, .ref (b 0)), (1, .int (nI 3)), (2, .int (nI j))]) dX6_kinds_68 4 rfl (nI_inc _) (by decide) rfl ?_
            refine J_goto E (tgt := 23) dX6_kinds_71 (by decide) ?_
            refine J_lv [2, 3, 4, 1, 0] rfl ?_
            exact ih23 (o + 1) (t ||| 0) d47_1 (y 0) (by omega) (by rw [h1, setF]; first | (rw [if_pos c_50]; rfl) | (rw [if_neg c_50, or_0])) (by omega)
          · skip
            have c_50 := bI_1 c_50
            refine J_iconst E dX6_kinds_53 ic_1 ?_
            refine J_iload E dX6_kinds_54 4 rfl ?_
            refine J_ishl E dX6_kinds_56 ?_
            refine J_goto E (tgt := 61) dX6_kinds_57 (by decide) ?_
            refine J_ior E dX6_kinds_61 ?_
            refine J_istore E (lv' := [(4, .int (t ||| (1 <<< ((nI o) &&& 31)))), (0, .ref (b 0)), (1, .int (nI 3)), (2, .int (nI j)), (5, .int (nI o))]) dX6_kinds_62 (by decide) rfl ?_
            refine J_aload_n E dX6_kinds_64 rfl 1 rfl ?_
            refine J_cVv0 E (As := []) (c_X6_laysBack l G b (upG (upG (upG (upG (upG (upG y 5 d) 2 z) 2 (y 0)) 0 (up2 (y 0) 0 j (nI o))) 5 d47_1) 0 (hoursR (up2 (y 0) 0 j (nI o)) n)) ) cl_X6_163 yo_X6_laysBack dX6_kinds_65 rfl rfl rfl (Nat.le_of_ble_eq_true rfl) (Nat.le_of_ble_eq_true rfl) rfl (Nat.le_of_ble_eq_true rfl) ⟨Nat.zero_le _, Nat.zero_le _⟩ ?_
            refine J_iinc E (lv' := [(5, .int (nI (o + 1))), (4, .int (t ||| (1 <<< ((nI o) &&& 31)))), (0, .ref (b 0)), (1, .int (nI 3)), (2, .int (nI j))]) dX6_kinds_68 4 rfl (nI_inc _) (by decide) rfl ?_
            refine J_goto E (tgt := 23) dX6_kinds_71 (by decide) ?_
            refine J_lv [2, 3, 4, 1, 0] rfl ?_
            exact ih23 (o + 1) (t ||| (1 <<< ((nI o) &&& 31))) d47_1 (y 0) (by omega) (by rw [h1, setF]; first | (rw [if_pos c_50]; rfl) | (rw [if_neg c_50, or_0])) (by omega)
    refine J_lv [3, 4, 5, 1, 0] rfl ?_
    exact lp23 _ 0 0 (y 5) (y 2) (by omega) rfl (Nat.lt_succ_self _)
  · skip
    exact absurd c_8 (by decide)

set_option maxHeartbeats 4000000 in
set_option maxRecDepth 20000 in
theorem c_X6_draw (l : Launch) (G : GB) (b : Nat → Nat) (y : Q3)  : CI l yX6_draw cX6_draw 1 .int 0 0 G [.ref (b 0)] (wM G b y) (fun vR w' => vR = ((drawF (y 0 7 1)).toUInt32 >>> ((8 : Int32).toUInt32 &&& Int32.toUInt32 31)).toInt32 ∧ w' = wM G b (upG y 0 (up2 (y 0) 7 1 (drawF (y 0 7 1))))) := by
  refine CI.mk (own := RX6) (by decide) rfl (Nat.le_of_ble_eq_true rfl) ?_
  intro X E ret
  show J X G 1 0 0 (wM G b y) [(0, .ref (b 0))] 0 []
  refine J_aload_n E dX6_draw_0 rfl 0 rfl ?_
  refine gM0_X6_9 E dX6_draw_1 ?_
  refine J_iconst E dX6_draw_4 ic_1 ?_
  refine J_aload_n E dX6_draw_5 rfl 0 rfl ?_
  refine gM0_X6_9 E dX6_draw_6 ?_
  refine J_iconst E dX6_draw_9 ic_1 ?_
  refine lMs E (j := 1) (r := 7) (i := 1) (at_7 (by decide)) dX6_draw_10 ?_
  refine J_ldc E kn_X6_206 dX6_draw_11 ?_
  refine J_imul E dX6_draw_13 ?_
  refine J_sipush E dX6_draw_14 sp_12345 ?_
  refine J_iadd E dX6_draw_17 ?_
  refine sMs E (j := 1) (r := 7) (i := 1) (at_7 (by decide)) dX6_draw_18 ?_
  refine J_w (ws' := wM G b (upG y 0 (up2 (y 0) 7 1 (((y 0 7 1) * 1103515245) + 12345)))) rfl ?_
  refine J_aload_n E dX6_draw_19 rfl 0 rfl ?_
  refine gM0_X6_9 E dX6_draw_20 ?_
  refine J_iconst E dX6_draw_23 ic_1 ?_
  refine lMs E (j := 1) (r := 7) (i := 1) (at_7 (by decide)) dX6_draw_24 ?_
  refine J_top (x' := (up2 (y 0) 7 1 (((y 0 7 1) * 1103515245) + 12345)) 7 1) upG_s ?_
  refine J_top (x' := drawF (y 0 7 1)) (up2_s) ?_
  refine J_bipush E dX6_draw_25 bp_8 ?_
  refine J_iushr E dX6_draw_27 rfl ?_
  exact ret _ _ _ _ ⟨rfl, (congrArg (wM G b) (rfl))⟩ rfl dX6_draw_28

set_option maxHeartbeats 4000000 in
set_option maxRecDepth 20000 in
theorem c_X6_showers_bad (l : Launch) (G : GB) (b : Nat → Nat) (y : Q3) (n : Int32) (hb : ¬ (1 ≤ n ∧ n ≤ 20)) : CI l yX6_showers cX6_showers 4 .int 1 25 G [.ref (b 0), .int n] (wM G b y) (fun vR w' => vR = tellR 0 ∧ PubM G b (tellX y 0) w') := by
  refine CI.mk (own := RX6) (by decide) rfl (Nat.le_of_ble_eq_true rfl) ?_
  intro X E ret
  show J X G 4 0 0 (wM G b y) [(0, .ref (b 0)), (1, .int n)] 0 []
  refine J_iload_n E dX6_showers_0 rfl 1 rfl ?_
  refine J_i2l E dX6_showers_1 rfl ?_
  refine J_lconst E dX6_showers_2 lc_1 ?_
  refine J_ldc2 E kl_X6_207 dX6_showers_3 ?_
  refine J_cSiN E (As := [.long (Int32.toInt64 n), .long 1, .long 20]) (c_X6_in l G n 1 20 1 20 (by decide) (by decide) ) cl_X6_54 yo_X6_in dX6_showers_6 rfl (Nat.le_of_ble_eq_true rfl) (Nat.le_of_ble_eq_true rfl) rfl (Nat.le_of_ble_eq_true rfl) ⟨Nat.zero_le _, Nat.zero_le _⟩ ?_
  refine J_if_ne E (tgt := 18) dX6_showers_9 (by decide) (fun c_9 => ?_) (fun c_9 => ?_)
  · skip
    have c_9 := bI_1 c_9
    exact absurd c_9 hb
  · skip
    have c_9 := bI_0 c_9
    refine J_aload_n E dX6_showers_12 rfl 0 rfl ?_
    refine J_iconst E dX6_showers_13 ic_0 ?_
    refine J_cVi0 E (As := [.int 0]) (c_X6_finds l G b y 0 (by omega)) cl_X6_96 yo_X6_finds dX6_showers_14 rfl rfl rfl (Nat.le_of_ble_eq_true rfl) (Nat.le_of_ble_eq_true rfl) rfl (Nat.le_of_ble_eq_true rfl) ⟨Nat.zero_le _, Nat.zero_le _⟩ ?_
    exact ret _ _ _ _ ⟨rfl, _, rfl, by intro g h2 h5 h6; by_cases h0 : g = 0 <;> simp [tellX, upG, up3, up3R, up2, h0, h2, h5, h6]⟩ rfl dX6_showers_17

set_option maxHeartbeats 4000000 in
set_option maxRecDepth 20000 in
theorem c_X6_showers_state (l : Launch) (G : GB) (b : Nat → Nat) (y : Q3) (n : Nat) (h1 : 1 ≤ n) (h2 : n ≤ 20) (hh : ¬ y 0 7 0 + nI n ≤ 99999) : CI l yX6_showers cX6_showers 4 .int 1 25 G [.ref (b 0), .int (nI n)] (wM G b y) (fun vR w' => vR = tellR 4 ∧ PubM G b (tellX y 4) w') := by
  refine CI.mk (own := RX6) (by decide) rfl (Nat.le_of_ble_eq_true rfl) ?_
  intro X E ret
  show J X G 4 0 0 (wM G b y) [(0, .ref (b 0)), (1, .int (nI n))] 0 []
  refine J_iload_n E dX6_showers_0 rfl 1 rfl ?_
  refine J_i2l E dX6_showers_1 rfl ?_
  refine J_lconst E dX6_showers_2 lc_1 ?_
  refine J_ldc2 E kl_X6_207 dX6_showers_3 ?_
  refine J_cSiN E (As := [.long (Int32.toInt64 (nI n)), .long 1, .long 20]) (c_X6_in l G (nI n) 1 20 1 20 (by decide) (by decide) ) cl_X6_54 yo_X6_in dX6_showers_6 rfl (Nat.le_of_ble_eq_true rfl) (Nat.le_of_ble_eq_true rfl) rfl (Nat.le_of_ble_eq_true rfl) ⟨Nat.zero_le _, Nat.zero_le _⟩ ?_
  refine J_if_ne E (tgt := 18) dX6_showers_9 (by decide) (fun c_9 => ?_) (fun c_9 => ?_)
  · skip
    have c_9 := bI_1 c_9
    refine J_aload_n E dX6_showers_18 rfl 0 rfl ?_
    refine gM0_X6_9 E dX6_showers_19 ?_
    refine J_iconst E dX6_showers_22 ic_0 ?_
    refine lMs E (j := 0) (r := 7) (i := 0) (at_7 (by decide)) dX6_showers_23 ?_
    refine J_iload_n E dX6_showers_24 rfl 1 rfl ?_
    refine J_iadd E dX6_showers_25 ?_
    refine J_ldc E kn_X6_143 dX6_showers_26 ?_
    refine J_icmp_le E (tgt := 37) dX6_showers_28 (by decide) (fun c_28 => ?_) (fun c_28 => ?_)
    · skip
      exact absurd c_28 hh
    · skip
      refine J_aload_n E dX6_showers_31 rfl 0 rfl ?_
      refine J_iconst E dX6_showers_32 ic_4 ?_
      refine J_cVi0 E (As := [.int 4]) (c_X6_finds l G b y 4 (by omega)) cl_X6_96 yo_X6_finds dX6_showers_33 rfl rfl rfl (Nat.le_of_ble_eq_true rfl) (Nat.le_of_ble_eq_true rfl) rfl (Nat.le_of_ble_eq_true rfl) ⟨Nat.zero_le _, Nat.zero_le _⟩ ?_
      exact ret _ _ _ _ ⟨rfl, _, rfl, by intro g h2 h5 h6; by_cases h0 : g = 0 <;> simp [tellX, upG, up3, up3R, up2, h0, h2, h5, h6]⟩ rfl dX6_showers_36
  · skip
    have c_9 := bI_0 c_9
    exact absurd (inB1 (b := 20) h1 h2 (by decide)) c_9

set_option maxHeartbeats 4000000 in
set_option maxRecDepth 20000 in
theorem c_X6_showers_ok (l : Launch) (G : GB) (b : Nat → Nat) (y : Q3) (n : Nat) (h1 : 1 ≤ n) (h2 : n ≤ 20) (hh : y 0 7 0 + nI n ≤ 99999) (hok : okQ (y 0))  : CI l yX6_showers cX6_showers 4 .int 4 91 G [.ref (b 0), .int (nI n)] (wM G b y) (fun vR w' => vR = showRN (y 0) n ∧ PubM G b (upG y 0 (showR (y 0) n)) w') := by
  refine CI.mk (own := RX6) (by decide) rfl (Nat.le_of_ble_eq_true rfl) ?_
  intro X E ret
  show J X G 4 0 0 (wM G b y) [(0, .ref (b 0)), (1, .int (nI n))] 0 []
  refine J_iload_n E dX6_showers_0 rfl 1 rfl ?_
  refine J_i2l E dX6_showers_1 rfl ?_
  refine J_lconst E dX6_showers_2 lc_1 ?_
  refine J_ldc2 E kl_X6_207 dX6_showers_3 ?_
  refine J_cSiN E (As := [.long (Int32.toInt64 (nI n)), .long 1, .long 20]) (c_X6_in l G (nI n) 1 20 1 20 (by decide) (by decide) ) cl_X6_54 yo_X6_in dX6_showers_6 rfl (Nat.le_of_ble_eq_true rfl) (Nat.le_of_ble_eq_true rfl) rfl (Nat.le_of_ble_eq_true rfl) ⟨Nat.zero_le _, Nat.zero_le _⟩ ?_
  refine J_if_ne E (tgt := 18) dX6_showers_9 (by decide) (fun c_9 => ?_) (fun c_9 => ?_)
  · skip
    have c_9 := bI_1 c_9
    refine J_aload_n E dX6_showers_18 rfl 0 rfl ?_
    refine gM0_X6_9 E dX6_showers_19 ?_
    refine J_iconst E dX6_showers_22 ic_0 ?_
    refine lMs E (j := 0) (r := 7) (i := 0) (at_7 (by decide)) dX6_showers_23 ?_
    refine J_iload_n E dX6_showers_24 rfl 1 rfl ?_
    refine J_iadd E dX6_showers_25 ?_
    refine J_ldc E kn_X6_143 dX6_showers_26 ?_
    refine J_icmp_le E (tgt := 37) dX6_showers_28 (by decide) (fun c_28 => ?_) (fun c_28 => ?_)
    · skip
      refine J_iconst E dX6_showers_37 ic_0 ?_
      refine J_istore_n E (lv' := [(2, .int 0), (0, .ref (b 0)), (1, .int (nI n))]) dX6_showers_38 rfl (by decide) rfl ?_
      refine J_iconst E dX6_showers_39 ic_0 ?_
      refine J_istore_n E (lv' := [(3, .int 0), (2, .int 0), (0, .ref (b 0)), (1, .int (nI n))]) dX6_showers_40 rfl (by decide) rfl ?_
      refine J_w (ws' := wM G b (upG y 5 (y 5))) (congrArg (wM G b) upG_id.symm) ?_
      have lp41 : ∀ (fu : Nat) (i : Nat) (c : Int32) (d : Q2) (r : Q2), (i ≤ n) → (r = showR (y 0) i) → (c = showRN (y 0) i) → n - i < fu → J X G 4 0 0 (wM G b (upG (upG y 5 d) 0 r)) [(0, .ref (b 0)), (1, .int (nI n)), (2, .int c), (3, .int (nI i))] 41 [] := by
        intro fu
        induction fu with
        | zero => intro i c d r hi hr hc hm; exact absurd hm (Nat.not_lt_zero _)
        | succ fu ih41 =>
          intro i c d r hi hr hc hm
          refine J_iload_n E dX6_showers_41 rfl 3 rfl ?_
          refine J_iload_n E dX6_showers_42 rfl 1 rfl ?_
          refine J_icmp_ge E (tgt := 84) dX6_showers_43 (by decide) (fun c_43 => ?_) (fun c_43 => ?_)
          · skip
            have n_43 : n ≤ i := cmp_le (a := n) (b := i) (by omega) (by omega) c_43
            refine J_iload_n E dX6_showers_84 rfl 2 rfl ?_
            exact ret _ _ _ _ ⟨by rw [hc, show i = n by omega], _, rfl, by rw [hr, show i = n by omega]; intro g h2 h5 h6; by_cases h0 : g = 0 <;> simp [upG, h0, h5]⟩ rfl dX6_showers_85
          · skip
            have n_43 : ¬ n ≤ i := cmp_nle (a := n) (b := i) (by omega) (by omega) c_43
            refine J_aload_n E dX6_showers_46 rfl 0 rfl ?_
            refine gM0_X6_9 E dX6_showers_47 ?_
            refine J_iconst E dX6_showers_50 ic_2 ?_
            refine J_aload_n E dX6_showers_51 rfl 0 rfl ?_
            refine J_cVi0 E (As := []) (c_X6_draw l G b (upG (upG y 5 d) 0 r) ) cl_X6_209 yo_X6_draw dX6_showers_52 rfl rfl rfl (Nat.le_of_ble_eq_true rfl) (Nat.le_of_ble_eq_true rfl) rfl (Nat.le_of_ble_eq_true rfl) ⟨Nat.zero_le _, Nat.zero_le _⟩ ?_
            refine J_top (x' := ((drawF (r 7 1)).toUInt32 >>> ((8 : Int32).toUInt32 &&& Int32.toUInt32 31)).toInt32) rfl ?_
            refine J_bipush E dX6_showers_55 bp_100 ?_
            refine J_irem E dX6_showers_57 (by decide) ?_
            refine sMs E (j := 2) (r := 7) (i := 2) (at_7 (by decide)) dX6_showers_58 ?_
            refine J_w (ws' := wM G b (upG (upG (upG (upG y 5 d) 0 r) 0 (up2 r 7 1 (drawF (r 7 1)))) 0 (up2 (up2 r 7 1 (drawF (r 7 1))) 7 2 ((((drawF (r 7 1)).toUInt32 >>> ((8 : Int32).toUInt32 &&& Int32.toUInt32 31)).toInt32) - (((drawF (r 7 1)).toUInt32 >>> ((8 : Int32).toUInt32 &&& Int32.toUInt32 31)).toInt32) / 100 * 100)))) rfl ?_
            refine J_w (ws' := wM G b (upG (upG (upG (upG (upG y 5 d) 0 r) 0 (up2 r 7 1 (drawF (r 7 1)))) 0 (up2 (up2 r 7 1 (drawF (r 7 1))) 7 2 ((((drawF (r 7 1)).toUInt32 >>> ((8 : Int32).toUInt32 &&& Int32.toUInt32 31)).toInt32) - (((drawF (r 7 1)).toUInt32 >>> ((8 : Int32).toUInt32 &&& Int32.toUInt32 31)).toInt32) / 100 * 100))) 0 (rainD r))) (rfl) ?_
            refine J_aload_n E dX6_showers_59 rfl 0 rfl ?_
            refine J_cVv0 E (As := []) (c_X6_anHour l G b (upG (upG (upG (upG (upG y 5 d) 0 r) 0 (up2 r 7 1 (drawF (r 7 1)))) 0 (up2 (up2 r 7 1 (drawF (r 7 1))) 7 2 ((((drawF (r 7 1)).toUInt32 >>> ((8 : Int32).toUInt32 &&& Int32.toUInt32 31)).toInt32) - (((drawF (r 7 1)).toUInt32 >>> ((8 : Int32).toUInt32 &&& Int32.toUInt32 31)).toInt32) / 100 * 100))) 0 (rainD r)) (by rw [hr]; exact okQ_rain (okQ_show hok i))) cl_X6_138 yo_X6_anHour dX6_showers_60 rfl rfl rfl (Nat.le_of_ble_eq_true rfl) (Nat.le_of_ble_eq_true rfl) rfl (Nat.le_of_ble_eq_true rfl) ⟨Nat.zero_le _, Nat.zero_le _⟩ ?_
            refine J_iload_n E dX6_showers_63 rfl 2 rfl ?_
            refine J_aload_n E dX6_showers_64 rfl 0 rfl ?_
            refine gM0_X6_131 E dX6_showers_65 ?_
            refine J_top (x' := (hd5 (rainD r) d) 2 0) (Eq.trans (upG_n (by decide)) upG_s) ?_
            refine J_top (x' := dryR (rainD r)) (rfl) ?_
            refine J_if_ne E (tgt := 75) dX6_showers_68 (by decide) (fun c_68 => ?_) (fun c_68 => ?_)
            · skip
              refine J_iconst E dX6_showers_75 ic_1 ?_
              refine J_iadd E dX6_showers_76 ?_
              refine J_istore_n E (lv' := [(2, .int (c + 1)), (0, .ref (b 0)), (1, .int (nI n)), (3, .int (nI i))]) dX6_showers_77 rfl (by decide) rfl ?_
              refine J_iinc E (lv' := [(3, .int (nI (i + 1))), (2, .int (c + 1)), (0, .ref (b 0)), (1, .int (nI n))]) dX6_showers_78 3 rfl (nI_inc _) (by decide) rfl ?_
              refine J_goto E (tgt := 41) dX6_showers_81 (by decide) ?_
              refine J_lv [2, 3, 1, 0] rfl ?_
              exact ih41 (i + 1) (c + 1) (hd5 (rainD r) d) (hourR0 (rainD r)) (by omega) (by rw [hr]; rfl) (by rw [hc, showRN, ← hr]; first | (rw [if_pos c_68, Int32.add_zero]) | rw [if_neg c_68]) (by omega)
            · skip
              refine J_iconst E dX6_showers_71 ic_0 ?_
              refine J_goto E (tgt := 76) dX6_showers_72 (by decide) ?_
              refine J_iadd E dX6_showers_76 ?_
              refine J_istore_n E (lv' := [(2, .int (c + 0)), (0, .ref (b 0)), (1, .int (nI n)), (3, .int (nI i))]) dX6_showers_77 rfl (by decide) rfl ?_
              refine J_iinc E (lv' := [(3, .int (nI (i + 1))), (2, .int (c + 0)), (0, .ref (b 0)), (1, .int (nI n))]) dX6_showers_78 3 rfl (nI_inc _) (by decide) rfl ?_
              refine J_goto E (tgt := 41) dX6_showers_81 (by decide) ?_
              refine J_lv [2, 3, 1, 0] rfl ?_
              exact ih41 (i + 1) (c + 0) (hd5 (rainD r) d) (hourR0 (rainD r)) (by omega) (by rw [hr]; rfl) (by rw [hc, showRN, ← hr]; first | (rw [if_pos c_68, Int32.add_zero]) | rw [if_neg c_68]) (by omega)
      refine J_lv [2, 3, 1, 0] rfl ?_
      exact lp41 _ 0 0 (y 5) (y 0) (by omega) rfl rfl (Nat.lt_succ_self _)
    · skip
      exact absurd hh c_28
  · skip
    have c_9 := bI_0 c_9
    exact absurd (inB1 (b := 20) h1 h2 (by decide)) c_9

set_option maxHeartbeats 4000000 in
set_option maxRecDepth 20000 in
theorem c_X6_odds_bad (l : Launch) (G : GB) (b : Nat → Nat) (y : Q3) (v n w : Int32) (hb : ¬ ((0 ≤ v ∧ v ≤ 100) ∧ (0 ≤ n ∧ n ≤ 9) ∧ 0 ≤ w ∧ w ≤ 1)) : CL l yX6_odds cX6_odds 14 1 25 G [.ref (b 0), .int v, .int n, .int w] (wM G b y) (fun vR w' => vR = Int32.toInt64 (tellR 0) ∧ PubM G b (tellX y 0) w') := by
  refine CL.mk (own := RX6) (by decide) rfl (Nat.le_of_ble_eq_true rfl) ?_
  intro X E ret
  show J X G 14 0 0 (wM G b y) [(0, .ref (b 0)), (1, .int v), (2, .int n), (3, .int w)] 0 []
  refine J_iload_n E dX6_odds_0 rfl 1 rfl ?_
  refine J_i2l E dX6_odds_1 rfl ?_
  refine J_lconst E dX6_odds_2 lc_0 ?_
  refine J_ldc2 E kl_X6_153 dX6_odds_3 ?_
  refine J_cSiN E (As := [.long (Int32.toInt64 v), .long 0, .long 100]) (c_X6_in l G v 0 100 0 100 (by decide) (by decide) ) cl_X6_54 yo_X6_in dX6_odds_6 rfl (Nat.le_of_ble_eq_true rfl) (Nat.le_of_ble_eq_true rfl) rfl (Nat.le_of_ble_eq_true rfl) ⟨Nat.zero_le _, Nat.zero_le _⟩ ?_
  refine J_if_eq E (tgt := 34) dX6_odds_9 (by decide) (fun c_9 => ?_) (fun c_9 => ?_)
  · skip
    have c_9 := bI_0 c_9
    refine J_aload_n E dX6_odds_34 rfl 0 rfl ?_
    refine J_iconst E dX6_odds_35 ic_0 ?_
    refine J_cVi0 E (As := [.int 0]) (c_X6_finds l G b y 0 (by omega)) cl_X6_96 yo_X6_finds dX6_odds_36 rfl rfl rfl (Nat.le_of_ble_eq_true rfl) (Nat.le_of_ble_eq_true rfl) rfl (Nat.le_of_ble_eq_true rfl) ⟨Nat.zero_le _, Nat.zero_le _⟩ ?_
    refine J_i2l E dX6_odds_39 rfl ?_
    exact ret _ _ _ _ ⟨rfl, _, rfl, by intro g h2 h5 h6; by_cases h0 : g = 0 <;> simp [tellX, upG, up3, up3R, up2, h0, h2, h5, h6]⟩ dX6_odds_40
  · skip
    have c_9 := bI_1 c_9
    refine J_iload_n E dX6_odds_12 rfl 2 rfl ?_
    refine J_i2l E dX6_odds_13 rfl ?_
    refine J_lconst E dX6_odds_14 lc_0 ?_
    refine J_ldc2 E kl_X6_99 dX6_odds_15 ?_
    refine J_cSiN E (As := [.long (Int32.toInt64 n), .long 0, .long 9]) (c_X6_in l G n 0 9 0 9 (by decide) (by decide) ) cl_X6_54 yo_X6_in dX6_odds_18 rfl (Nat.le_of_ble_eq_true rfl) (Nat.le_of_ble_eq_true rfl) rfl (Nat.le_of_ble_eq_true rfl) ⟨Nat.zero_le _, Nat.zero_le _⟩ ?_
    refine J_if_eq E (tgt := 34) dX6_odds_21 (by decide) (fun c_21 => ?_) (fun c_21 => ?_)
    · skip
      have c_21 := bI_0 c_21
      refine J_aload_n E dX6_odds_34 rfl 0 rfl ?_
      refine J_iconst E dX6_odds_35 ic_0 ?_
      refine J_cVi0 E (As := [.int 0]) (c_X6_finds l G b y 0 (by omega)) cl_X6_96 yo_X6_finds dX6_odds_36 rfl rfl rfl (Nat.le_of_ble_eq_true rfl) (Nat.le_of_ble_eq_true rfl) rfl (Nat.le_of_ble_eq_true rfl) ⟨Nat.zero_le _, Nat.zero_le _⟩ ?_
      refine J_i2l E dX6_odds_39 rfl ?_
      exact ret _ _ _ _ ⟨rfl, _, rfl, by intro g h2 h5 h6; by_cases h0 : g = 0 <;> simp [tellX, upG, up3, up3R, up2, h0, h2, h5, h6]⟩ dX6_odds_40
    · skip
      have c_21 := bI_1 c_21
      refine J_iload_n E dX6_odds_24 rfl 3 rfl ?_
      refine J_i2l E dX6_odds_25 rfl ?_
      refine J_lconst E dX6_odds_26 lc_0 ?_
      refine J_lconst E dX6_odds_27 lc_1 ?_
      refine J_cSiN E (As := [.long (Int32.toInt64 w), .long 0, .long 1]) (c_X6_in l G w 0 1 0 1 (by decide) (by decide) ) cl_X6_54 yo_X6_in dX6_odds_28 rfl (Nat.le_of_ble_eq_true rfl) (Nat.le_of_ble_eq_true rfl) rfl (Nat.le_of_ble_eq_true rfl) ⟨Nat.zero_le _, Nat.zero_le _⟩ ?_
      refine J_if_ne E (tgt := 41) dX6_odds_31 (by decide) (fun c_31 => ?_) (fun c_31 => ?_)
      · skip
        have c_31 := bI_1 c_31
        exact absurd ⟨c_9, c_21, c_31⟩ hb
      · skip
        have c_31 := bI_0 c_31
        refine J_aload_n E dX6_odds_34 rfl 0 rfl ?_
        refine J_iconst E dX6_odds_35 ic_0 ?_
        refine J_cVi0 E (As := [.int 0]) (c_X6_finds l G b y 0 (by omega)) cl_X6_96 yo_X6_finds dX6_odds_36 rfl rfl rfl (Nat.le_of_ble_eq_true rfl) (Nat.le_of_ble_eq_true rfl) rfl (Nat.le_of_ble_eq_true rfl) ⟨Nat.zero_le _, Nat.zero_le _⟩ ?_
        refine J_i2l E dX6_odds_39 rfl ?_
        exact ret _ _ _ _ ⟨rfl, _, rfl, by intro g h2 h5 h6; by_cases h0 : g = 0 <;> simp [tellX, upG, up3, up3R, up2, h0, h2, h5, h6]⟩ dX6_odds_40

set_option maxHeartbeats 4000000 in
set_option maxRecDepth 20000 in
theorem c_X6_odds_0 (l : Launch) (G : GB) (b : Nat → Nat) (y : Q3) (v ab n : Nat) (hv : v + ab = 100) (hn : n < 10) : CL l yX6_odds cX6_odds 14 1 25 G [.ref (b 0), .int (nI v), .int (nI n), .int (nI 0)] (wM G b y) (fun vR w' => vR = lN ((ab ^ n) / Nat.gcd (ab ^ n) (100 ^ n)) ∧ PubM G b y w') := by
  refine CL.mk (own := RX6) (by decide) rfl (Nat.le_of_ble_eq_true rfl) ?_
  intro X E ret
  show J X G 14 0 0 (wM G b y) [(0, .ref (b 0)), (1, .int (nI v)), (2, .int (nI n)), (3, .int (nI 0))] 0 []
  refine J_iload_n E dX6_odds_0 rfl 1 rfl ?_
  refine J_i2l E dX6_odds_1 rfl ?_
  refine J_lconst E dX6_odds_2 lc_0 ?_
  refine J_ldc2 E kl_X6_153 dX6_odds_3 ?_
  refine J_cSiN E (As := [.long (Int32.toInt64 (nI v)), .long 0, .long 100]) (c_X6_in l G (nI v) 0 100 0 100 (by decide) (by decide) ) cl_X6_54 yo_X6_in dX6_odds_6 rfl (Nat.le_of_ble_eq_true rfl) (Nat.le_of_ble_eq_true rfl) rfl (Nat.le_of_ble_eq_true rfl) ⟨Nat.zero_le _, Nat.zero_le _⟩ ?_
  refine J_if_eq E (tgt := 34) dX6_odds_9 (by decide) (fun c_9 => ?_) (fun c_9 => ?_)
  · skip
    have c_9 := bI_0 c_9
    exact absurd (inB (a := v) (b := 100) (by omega) (by decide)) c_9
  · skip
    have c_9 := bI_1 c_9
    refine J_iload_n E dX6_odds_12 rfl 2 rfl ?_
    refine J_i2l E dX6_odds_13 rfl ?_
    refine J_lconst E dX6_odds_14 lc_0 ?_
    refine J_ldc2 E kl_X6_99 dX6_odds_15 ?_
    refine J_cSiN E (As := [.long (Int32.toInt64 (nI n)), .long 0, .long 9]) (c_X6_in l G (nI n) 0 9 0 9 (by decide) (by decide) ) cl_X6_54 yo_X6_in dX6_odds_18 rfl (Nat.le_of_ble_eq_true rfl) (Nat.le_of_ble_eq_true rfl) rfl (Nat.le_of_ble_eq_true rfl) ⟨Nat.zero_le _, Nat.zero_le _⟩ ?_
    refine J_if_eq E (tgt := 34) dX6_odds_21 (by decide) (fun c_21 => ?_) (fun c_21 => ?_)
    · skip
      have c_21 := bI_0 c_21
      exact absurd (inB (a := n) (b := 9) (by omega) (by decide)) c_21
    · skip
      have c_21 := bI_1 c_21
      refine J_iload_n E dX6_odds_24 rfl 3 rfl ?_
      refine J_i2l E dX6_odds_25 rfl ?_
      refine J_lconst E dX6_odds_26 lc_0 ?_
      refine J_lconst E dX6_odds_27 lc_1 ?_
      refine J_cSiN E (As := [.long (Int32.toInt64 (nI 0)), .long 0, .long 1]) (c_X6_in l G (nI 0) 0 1 0 1 (by decide) (by decide) ) cl_X6_54 yo_X6_in dX6_odds_28 rfl (Nat.le_of_ble_eq_true rfl) (Nat.le_of_ble_eq_true rfl) rfl (Nat.le_of_ble_eq_true rfl) ⟨Nat.zero_le _, Nat.zero_le _⟩ ?_
      refine J_if_ne E (tgt := 41) dX6_odds_31 (by decide) (fun c_31 => ?_) (fun c_31 => ?_)
      · skip
        have c_31 := bI_1 c_31
        refine J_lconst E dX6_odds_41 lc_1 ?_
        refine J_lstore E (lv' := [(4, .long 1), (0, .ref (b 0)), (1, .int (nI v)), (2, .int (nI n)), (3, .int (nI 0))]) dX6_odds_42 (by decide) rfl ?_
        refine J_lconst E dX6_odds_44 lc_1 ?_
        refine J_lstore E (lv' := [(6, .long 1), (4, .long 1), (0, .ref (b 0)), (1, .int (nI v)), (2, .int (nI n)), (3, .int (nI 0))]) dX6_odds_45 (by decide) rfl ?_
        refine J_iconst E dX6_odds_47 ic_0 ?_
        refine J_istore E (lv' := [(8, .int 0), (6, .long 1), (4, .long 1), (0, .ref (b 0)), (1, .int (nI v)), (2, .int (nI n)), (3, .int (nI 0))]) dX6_odds_48 (by decide) rfl ?_
        have lp50 : ∀ (fu : Nat) (i : Nat), (i ≤ n) → n - i < fu → J X G 14 0 0 (wM G b y) [(0, .ref (b 0)), (1, .int (nI v)), (2, .int (nI n)), (3, .int (nI 0)), (4, .long (lN (ab ^ i))), (6, .long (lN (100 ^ i))), (8, .int (nI i))] 50 [] := by
          intro fu
          induction fu with
          | zero => intro i hi hm; exact absurd hm (Nat.not_lt_zero _)
          | succ fu ih50 =>
            intro i hi hm
            refine J_iload E dX6_odds_50 6 rfl ?_
            refine J_iload_n E dX6_odds_52 rfl 2 rfl ?_
            refine J_icmp_ge E (tgt := 80) dX6_odds_53 (by decide) (fun c_53 => ?_) (fun c_53 => ?_)
            · skip
              have n_53 : n ≤ i := cmp_le (a := n) (b := i) (by omega) (by omega) c_53
              have hin : i = n := by omega
              rw [hin]
              refine J_lload E dX6_odds_80 4 rfl ?_
              refine J_lstore E (lv' := [(8, .long (lN (ab ^ n))), (0, .ref (b 0)), (1, .int (nI v)), (2, .int (nI n)), (3, .int (nI 0)), (4, .long (lN (ab ^ n))), (6, .long (lN (100 ^ n)))]) dX6_odds_82 (by decide) rfl ?_
              refine J_lload E dX6_odds_84 6 rfl ?_
              refine J_lstore E (lv' := [(10, .long (lN (100 ^ n))), (8, .long (lN (ab ^ n))), (0, .ref (b 0)), (1, .int (nI v)), (2, .int (nI n)), (3, .int (nI 0)), (4, .long (lN (ab ^ n))), (6, .long (lN (100 ^ n)))]) dX6_odds_86 (by decide) rfl ?_
              have lp88 : ∀ (fu : Nat) (x : Nat) (z : Nat), (x ≤ 1000000000000000000) → (z ≤ 1000000000000000000) → (Nat.gcd x z = Nat.gcd (ab ^ n) (100 ^ n)) → z < fu → J X G 14 0 0 (wM G b y) [(0, .ref (b 0)), (3, .int (nI 0)), (4, .long (lN (ab ^ n))), (6, .long (lN (100 ^ n))), (8, .long (lN x)), (10, .long (lN z))] 88 [] := by
                intro fu
                induction fu with
                | zero => intro x z hx hz hg hm; exact absurd hm (Nat.not_lt_zero _)
                | succ fu ih88 =>
                  intro x z hx hz hg hm
                  refine J_lload E dX6_odds_88 5 rfl ?_
                  refine J_lconst E dX6_odds_90 lc_0 ?_
                  refine J_lcmp E dX6_odds_91 ?_
                  refine J_if_eq E (tgt := 113) dX6_odds_92 (by decide) (fun c_92 => ?_) (fun c_92 => ?_)
                  · skip
                    have z1 : z = 0 := (pk_lEQ (a := z) (b := 0) (by omega) (by decide)).mp ((lg_cmp_eq _ _).mp c_92)
                    have hx1 : x = Nat.gcd (ab ^ n) (100 ^ n) := by rw [← hg, z1, Nat.gcd_zero_right]
                    have hx0 : 0 < x := by rw [hx1]; exact Nat.gcd_pos_of_pos_right _ (Nat.pow_pos (by decide))
                    have hA := pow_b (ab := ab) (n := n) (by omega) (by omega)
                    have hB := pow_b (ab := 100) (n := n) (by decide) (by omega)
                    refine J_iload_n E dX6_odds_113 rfl 1 rfl ?_
                    refine J_if_ne E (tgt := 122) dX6_odds_114 (by decide) (fun c_114 => ?_) (fun c_114 => ?_)
                    · skip
                      have n_114 : ¬ 0 = 0 := cmp_ne (a := 0) (b := 0) (by omega) (by omega) c_114
                      exact absurd n_114 (by decide)
                    · skip
                      have n_114 : 0 = 0 := cmp_eq (a := 0) (b := 0) (by omega) (by omega) c_114
                      refine J_lload E dX6_odds_117 2 rfl ?_
                      refine J_goto E (tgt := 124) dX6_odds_119 (by decide) ?_
                      refine J_lload E dX6_odds_124 4 rfl ?_
                      refine J_ldiv E dX6_odds_126 (fun e => absurd ((pk_lEQ (a := x) (b := 0) (by omega) (by decide)).mp e) (by omega)) ?_
                      refine J_topl (x' := lN ((ab ^ n) / x)) (pk_lDiv (by omega) (by omega) (by omega)) ?_
                      exact ret _ _ _ _ ⟨by rw [hx1], _, rfl, by intro g h2 h5 h6; by_cases h0 : g = 0 <;> simp [tellX, upG, up3, up3R, up2, h0, h2, h5, h6]⟩ dX6_odds_127
                  · skip
                    have z0 : ¬ z = 0 := fun e => c_92 (by rw [e]; exact (lg_cmp_eq _ _).mpr rfl)
                    refine J_lload E dX6_odds_95 4 rfl ?_
                    refine J_lload E dX6_odds_97 5 rfl ?_
                    refine J_lrem E dX6_odds_99 (fun e => z0 ((pk_lEQ (a := z) (b := 0) (by omega) (by decide)).mp e)) ?_
                    refine J_topl (x' := lN (x % z)) (pk_lRem (by omega) (by omega) (by omega)) ?_
                    refine J_lstore E (lv' := [(12, .long (lN (x % z))), (0, .ref (b 0)), (3, .int (nI 0)), (4, .long (lN (ab ^ n))), (6, .long (lN (100 ^ n))), (8, .long (lN x)), (10, .long (lN z))]) dX6_odds_100 (by decide) rfl ?_
                    refine J_lload E dX6_odds_102 6 rfl ?_
                    refine J_lstore E (lv' := [(8, .long (lN z)), (12, .long (lN (x % z))), (0, .ref (b 0)), (3, .int (nI 0)), (4, .long (lN (ab ^ n))), (6, .long (lN (100 ^ n))), (10, .long (lN z))]) dX6_odds_104 (by decide) rfl ?_
                    refine J_lload E dX6_odds_106 1 rfl ?_
                    refine J_lstore E (lv' := [(10, .long (lN (x % z))), (8, .long (lN z)), (12, .long (lN (x % z))), (0, .ref (b 0)), (3, .int (nI 0)), (4, .long (lN (ab ^ n))), (6, .long (lN (100 ^ n)))]) dX6_odds_108 (by decide) rfl ?_
                    refine J_goto E (tgt := 88) dX6_odds_110 (by decide) ?_
                    refine J_lv [3, 4, 5, 6, 1, 0] rfl ?_
                    exact ih88 z (x % z) hz (by have := Nat.mod_lt x (show 0 < z by omega); omega) (by rw [← hg, Nat.gcd_comm z (x % z), ← Nat.gcd_rec, Nat.gcd_comm]) (by omega)
              refine J_lv [2, 5, 6, 7, 1, 0] rfl ?_
              exact lp88 _ (ab ^ n) (100 ^ n) (pow_b (by omega) (by omega)) (pow_b (by decide) (by omega)) rfl (Nat.lt_succ_self _)
            · skip
              have n_53 : ¬ n ≤ i := cmp_nle (a := n) (b := i) (by omega) (by omega) c_53
              refine J_lload E dX6_odds_56 4 rfl ?_
              refine J_bipush E dX6_odds_58 bp_100 ?_
              refine J_iload_n E dX6_odds_60 rfl 1 rfl ?_
              refine J_isub E dX6_odds_61 ?_
              refine J_top (x' := nI ab) (sub100 hv) ?_
              refine J_i2l E dX6_odds_62 rfl ?_
              refine J_topl (x' := lN ab) (nI_l (by omega)) ?_
              refine J_lmul E dX6_odds_63 ?_
              refine J_topl (x' := lN (ab ^ i * ab)) (lN_mul _ _) ?_
              refine J_lstore E (lv' := [(4, .long (lN (ab ^ i * ab))), (0, .ref (b 0)), (1, .int (nI v)), (2, .int (nI n)), (3, .int (nI 0)), (6, .long (lN (100 ^ i))), (8, .int (nI i))]) dX6_odds_64 (by decide) rfl ?_
              refine J_lload E dX6_odds_66 5 rfl ?_
              refine J_ldc2 E kl_X6_153 dX6_odds_68 ?_
              refine J_topl (x' := lN 100) (rfl) ?_
              refine J_lmul E dX6_odds_71 ?_
              refine J_topl (x' := lN (100 ^ i * 100)) (lN_mul _ _) ?_
              refine J_lstore E (lv' := [(6, .long (lN (100 ^ i * 100))), (4, .long (lN (ab ^ i * ab))), (0, .ref (b 0)), (1, .int (nI v)), (2, .int (nI n)), (3, .int (nI 0)), (8, .int (nI i))]) dX6_odds_72 (by decide) rfl ?_
              refine J_iinc E (lv' := [(8, .int (nI (i + 1))), (6, .long (lN (100 ^ i * 100))), (4, .long (lN (ab ^ i * ab))), (0, .ref (b 0)), (1, .int (nI v)), (2, .int (nI n)), (3, .int (nI 0))]) dX6_odds_74 6 rfl (nI_inc _) (by decide) rfl ?_
              refine J_goto E (tgt := 50) dX6_odds_77 (by decide) ?_
              refine J_lv [3, 4, 5, 6, 2, 1, 0] rfl ?_
              exact ih50 (i + 1) (by omega) (by omega)
        refine J_lv [3, 4, 5, 6, 2, 1, 0] rfl ?_
        exact lp50 _ 0 (by omega) (Nat.lt_succ_self _)
      · skip
        have c_31 := bI_0 c_31
        exact absurd (inB (a := 0) (b := 1) (by omega) (by decide)) c_31

set_option maxHeartbeats 4000000 in
set_option maxRecDepth 20000 in
theorem c_X6_odds_1 (l : Launch) (G : GB) (b : Nat → Nat) (y : Q3) (v ab n : Nat) (hv : v + ab = 100) (hn : n < 10) : CL l yX6_odds cX6_odds 14 1 25 G [.ref (b 0), .int (nI v), .int (nI n), .int (nI 1)] (wM G b y) (fun vR w' => vR = lN ((100 ^ n) / Nat.gcd (ab ^ n) (100 ^ n)) ∧ PubM G b y w') := by
  refine CL.mk (own := RX6) (by decide) rfl (Nat.le_of_ble_eq_true rfl) ?_
  intro X E ret
  show J X G 14 0 0 (wM G b y) [(0, .ref (b 0)), (1, .int (nI v)), (2, .int (nI n)), (3, .int (nI 1))] 0 []
  refine J_iload_n E dX6_odds_0 rfl 1 rfl ?_
  refine J_i2l E dX6_odds_1 rfl ?_
  refine J_lconst E dX6_odds_2 lc_0 ?_
  refine J_ldc2 E kl_X6_153 dX6_odds_3 ?_
  refine J_cSiN E (As := [.long (Int32.toInt64 (nI v)), .long 0, .long 100]) (c_X6_in l G (nI v) 0 100 0 100 (by decide) (by decide) ) cl_X6_54 yo_X6_in dX6_odds_6 rfl (Nat.le_of_ble_eq_true rfl) (Nat.le_of_ble_eq_true rfl) rfl (Nat.le_of_ble_eq_true rfl) ⟨Nat.zero_le _, Nat.zero_le _⟩ ?_
  refine J_if_eq E (tgt := 34) dX6_odds_9 (by decide) (fun c_9 => ?_) (fun c_9 => ?_)
  · skip
    have c_9 := bI_0 c_9
    exact absurd (inB (a := v) (b := 100) (by omega) (by decide)) c_9
  · skip
    have c_9 := bI_1 c_9
    refine J_iload_n E dX6_odds_12 rfl 2 rfl ?_
    refine J_i2l E dX6_odds_13 rfl ?_
    refine J_lconst E dX6_odds_14 lc_0 ?_
    refine J_ldc2 E kl_X6_99 dX6_odds_15 ?_
    refine J_cSiN E (As := [.long (Int32.toInt64 (nI n)), .long 0, .long 9]) (c_X6_in l G (nI n) 0 9 0 9 (by decide) (by decide) ) cl_X6_54 yo_X6_in dX6_odds_18 rfl (Nat.le_of_ble_eq_true rfl) (Nat.le_of_ble_eq_true rfl) rfl (Nat.le_of_ble_eq_true rfl) ⟨Nat.zero_le _, Nat.zero_le _⟩ ?_
    refine J_if_eq E (tgt := 34) dX6_odds_21 (by decide) (fun c_21 => ?_) (fun c_21 => ?_)
    · skip
      have c_21 := bI_0 c_21
      exact absurd (inB (a := n) (b := 9) (by omega) (by decide)) c_21
    · skip
      have c_21 := bI_1 c_21
      refine J_iload_n E dX6_odds_24 rfl 3 rfl ?_
      refine J_i2l E dX6_odds_25 rfl ?_
      refine J_lconst E dX6_odds_26 lc_0 ?_
      refine J_lconst E dX6_odds_27 lc_1 ?_
      refine J_cSiN E (As := [.long (Int32.toInt64 (nI 1)), .long 0, .long 1]) (c_X6_in l G (nI 1) 0 1 0 1 (by decide) (by decide) ) cl_X6_54 yo_X6_in dX6_odds_28 rfl (Nat.le_of_ble_eq_true rfl) (Nat.le_of_ble_eq_true rfl) rfl (Nat.le_of_ble_eq_true rfl) ⟨Nat.zero_le _, Nat.zero_le _⟩ ?_
      refine J_if_ne E (tgt := 41) dX6_odds_31 (by decide) (fun c_31 => ?_) (fun c_31 => ?_)
      · skip
        have c_31 := bI_1 c_31
        refine J_lconst E dX6_odds_41 lc_1 ?_
        refine J_lstore E (lv' := [(4, .long 1), (0, .ref (b 0)), (1, .int (nI v)), (2, .int (nI n)), (3, .int (nI 1))]) dX6_odds_42 (by decide) rfl ?_
        refine J_lconst E dX6_odds_44 lc_1 ?_
        refine J_lstore E (lv' := [(6, .long 1), (4, .long 1), (0, .ref (b 0)), (1, .int (nI v)), (2, .int (nI n)), (3, .int (nI 1))]) dX6_odds_45 (by decide) rfl ?_
        refine J_iconst E dX6_odds_47 ic_0 ?_
        refine J_istore E (lv' := [(8, .int 0), (6, .long 1), (4, .long 1), (0, .ref (b 0)), (1, .int (nI v)), (2, .int (nI n)), (3, .int (nI 1))]) dX6_odds_48 (by decide) rfl ?_
        have lp50 : ∀ (fu : Nat) (i : Nat), (i ≤ n) → n - i < fu → J X G 14 0 0 (wM G b y) [(0, .ref (b 0)), (1, .int (nI v)), (2, .int (nI n)), (3, .int (nI 1)), (4, .long (lN (ab ^ i))), (6, .long (lN (100 ^ i))), (8, .int (nI i))] 50 [] := by
          intro fu
          induction fu with
          | zero => intro i hi hm; exact absurd hm (Nat.not_lt_zero _)
          | succ fu ih50 =>
            intro i hi hm
            refine J_iload E dX6_odds_50 6 rfl ?_
            refine J_iload_n E dX6_odds_52 rfl 2 rfl ?_
            refine J_icmp_ge E (tgt := 80) dX6_odds_53 (by decide) (fun c_53 => ?_) (fun c_53 => ?_)
            · skip
              have n_53 : n ≤ i := cmp_le (a := n) (b := i) (by omega) (by omega) c_53
              have hin : i = n := by omega
              rw [hin]
              refine J_lload E dX6_odds_80 4 rfl ?_
              refine J_lstore E (lv' := [(8, .long (lN (ab ^ n))), (0, .ref (b 0)), (1, .int (nI v)), (2, .int (nI n)), (3, .int (nI 1)), (4, .long (lN (ab ^ n))), (6, .long (lN (100 ^ n)))]) dX6_odds_82 (by decide) rfl ?_
              refine J_lload E dX6_odds_84 6 rfl ?_
              refine J_lstore E (lv' := [(10, .long (lN (100 ^ n))), (8, .long (lN (ab ^ n))), (0, .ref (b 0)), (1, .int (nI v)), (2, .int (nI n)), (3, .int (nI 1)), (4, .long (lN (ab ^ n))), (6, .long (lN (100 ^ n)))]) dX6_odds_86 (by decide) rfl ?_
              have lp88 : ∀ (fu : Nat) (x : Nat) (z : Nat), (x ≤ 1000000000000000000) → (z ≤ 1000000000000000000) → (Nat.gcd x z = Nat.gcd (ab ^ n) (100 ^ n)) → z < fu → J X G 14 0 0 (wM G b y) [(0, .ref (b 0)), (3, .int (nI 1)), (4, .long (lN (ab ^ n))), (6, .long (lN (100 ^ n))), (8, .long (lN x)), (10, .long (lN z))] 88 [] := by
                intro fu
                induction fu with
                | zero => intro x z hx hz hg hm; exact absurd hm (Nat.not_lt_zero _)
                | succ fu ih88 =>
                  intro x z hx hz hg hm
                  refine J_lload E dX6_odds_88 5 rfl ?_
                  refine J_lconst E dX6_odds_90 lc_0 ?_
                  refine J_lcmp E dX6_odds_91 ?_
                  refine J_if_eq E (tgt := 113) dX6_odds_92 (by decide) (fun c_92 => ?_) (fun c_92 => ?_)
                  · skip
                    have z1 : z = 0 := (pk_lEQ (a := z) (b := 0) (by omega) (by decide)).mp ((lg_cmp_eq _ _).mp c_92)
                    have hx1 : x = Nat.gcd (ab ^ n) (100 ^ n) := by rw [← hg, z1, Nat.gcd_zero_right]
                    have hx0 : 0 < x := by rw [hx1]; exact Nat.gcd_pos_of_pos_right _ (Nat.pow_pos (by decide))
                    have hA := pow_b (ab := ab) (n := n) (by omega) (by omega)
                    have hB := pow_b (ab := 100) (n := n) (by decide) (by omega)
                    refine J_iload_n E dX6_odds_113 rfl 1 rfl ?_
                    refine J_if_ne E (tgt := 122) dX6_odds_114 (by decide) (fun c_114 => ?_) (fun c_114 => ?_)
                    · skip
                      have n_114 : ¬ 1 = 0 := cmp_ne (a := 1) (b := 0) (by omega) (by omega) c_114
                      refine J_lload E dX6_odds_122 3 rfl ?_
                      refine J_lload E dX6_odds_124 4 rfl ?_
                      refine J_ldiv E dX6_odds_126 (fun e => absurd ((pk_lEQ (a := x) (b := 0) (by omega) (by decide)).mp e) (by omega)) ?_
                      refine J_topl (x' := lN ((100 ^ n) / x)) (pk_lDiv (by omega) (by omega) (by omega)) ?_
                      exact ret _ _ _ _ ⟨by rw [hx1], _, rfl, by intro g h2 h5 h6; by_cases h0 : g = 0 <;> simp [tellX, upG, up3, up3R, up2, h0, h2, h5, h6]⟩ dX6_odds_127
                    · skip
                      have n_114 : 1 = 0 := cmp_eq (a := 1) (b := 0) (by omega) (by omega) c_114
                      exact absurd n_114 (by decide)
                  · skip
                    have z0 : ¬ z = 0 := fun e => c_92 (by rw [e]; exact (lg_cmp_eq _ _).mpr rfl)
                    refine J_lload E dX6_odds_95 4 rfl ?_
                    refine J_lload E dX6_odds_97 5 rfl ?_
                    refine J_lrem E dX6_odds_99 (fun e => z0 ((pk_lEQ (a := z) (b := 0) (by omega) (by decide)).mp e)) ?_
                    refine J_topl (x' := lN (x % z)) (pk_lRem (by omega) (by omega) (by omega)) ?_
                    refine J_lstore E (lv' := [(12, .long (lN (x % z))), (0, .ref (b 0)), (3, .int (nI 1)), (4, .long (lN (ab ^ n))), (6, .long (lN (100 ^ n))), (8, .long (lN x)), (10, .long (lN z))]) dX6_odds_100 (by decide) rfl ?_
                    refine J_lload E dX6_odds_102 6 rfl ?_
                    refine J_lstore E (lv' := [(8, .long (lN z)), (12, .long (lN (x % z))), (0, .ref (b 0)), (3, .int (nI 1)), (4, .long (lN (ab ^ n))), (6, .long (lN (100 ^ n))), (10, .long (lN z))]) dX6_odds_104 (by decide) rfl ?_
                    refine J_lload E dX6_odds_106 1 rfl ?_
                    refine J_lstore E (lv' := [(10, .long (lN (x % z))), (8, .long (lN z)), (12, .long (lN (x % z))), (0, .ref (b 0)), (3, .int (nI 1)), (4, .long (lN (ab ^ n))), (6, .long (lN (100 ^ n)))]) dX6_odds_108 (by decide) rfl ?_
                    refine J_goto E (tgt := 88) dX6_odds_110 (by decide) ?_
                    refine J_lv [3, 4, 5, 6, 1, 0] rfl ?_
                    exact ih88 z (x % z) hz (by have := Nat.mod_lt x (show 0 < z by omega); omega) (by rw [← hg, Nat.gcd_comm z (x % z), ← Nat.gcd_rec, Nat.gcd_comm]) (by omega)
              refine J_lv [2, 5, 6, 7, 1, 0] rfl ?_
              exact lp88 _ (ab ^ n) (100 ^ n) (pow_b (by omega) (by omega)) (pow_b (by decide) (by omega)) rfl (Nat.lt_succ_self _)
            · skip
              have n_53 : ¬ n ≤ i := cmp_nle (a := n) (b := i) (by omega) (by omega) c_53
              refine J_lload E dX6_odds_56 4 rfl ?_
              refine J_bipush E dX6_odds_58 bp_100 ?_
              refine J_iload_n E dX6_odds_60 rfl 1 rfl ?_
              refine J_isub E dX6_odds_61 ?_
              refine J_top (x' := nI ab) (sub100 hv) ?_
              refine J_i2l E dX6_odds_62 rfl ?_
              refine J_topl (x' := lN ab) (nI_l (by omega)) ?_
              refine J_lmul E dX6_odds_63 ?_
              refine J_topl (x' := lN (ab ^ i * ab)) (lN_mul _ _) ?_
              refine J_lstore E (lv' := [(4, .long (lN (ab ^ i * ab))), (0, .ref (b 0)), (1, .int (nI v)), (2, .int (nI n)), (3, .int (nI 1)), (6, .long (lN (100 ^ i))), (8, .int (nI i))]) dX6_odds_64 (by decide) rfl ?_
              refine J_lload E dX6_odds_66 5 rfl ?_
              refine J_ldc2 E kl_X6_153 dX6_odds_68 ?_
              refine J_topl (x' := lN 100) (rfl) ?_
              refine J_lmul E dX6_odds_71 ?_
              refine J_topl (x' := lN (100 ^ i * 100)) (lN_mul _ _) ?_
              refine J_lstore E (lv' := [(6, .long (lN (100 ^ i * 100))), (4, .long (lN (ab ^ i * ab))), (0, .ref (b 0)), (1, .int (nI v)), (2, .int (nI n)), (3, .int (nI 1)), (8, .int (nI i))]) dX6_odds_72 (by decide) rfl ?_
              refine J_iinc E (lv' := [(8, .int (nI (i + 1))), (6, .long (lN (100 ^ i * 100))), (4, .long (lN (ab ^ i * ab))), (0, .ref (b 0)), (1, .int (nI v)), (2, .int (nI n)), (3, .int (nI 1))]) dX6_odds_74 6 rfl (nI_inc _) (by decide) rfl ?_
              refine J_goto E (tgt := 50) dX6_odds_77 (by decide) ?_
              refine J_lv [3, 4, 5, 6, 2, 1, 0] rfl ?_
              exact ih50 (i + 1) (by omega) (by omega)
        refine J_lv [3, 4, 5, 6, 2, 1, 0] rfl ?_
        exact lp50 _ 0 (by omega) (Nat.lt_succ_self _)
      · skip
        have c_31 := bI_0 c_31
        exact absurd (inB (a := 1) (b := 1) (by omega) (by decide)) c_31

set_option maxHeartbeats 4000000 in
set_option maxRecDepth 20000 in
theorem c_X6_seed (l : Launch) (G : GB) (b : Nat → Nat) (y : Q3) (v : Int32) : CI l yX6_seed cX6_seed 2 .int 1 23 G [.ref (b 0), .int v] (wM G b y) (fun vR w' => vR = y 0 7 1 ∧ PubM G b (up3 y 0 7 1 v) w') := by
  refine CI.mk (own := RX6) (by decide) rfl (Nat.le_of_ble_eq_true rfl) ?_
  intro X E ret
  show J X G 2 0 0 (wM G b y) [(0, .ref (b 0)), (1, .int v)] 0 []
  refine J_aload_n E dX6_seed_0 rfl 0 rfl ?_
  refine J_iconst E dX6_seed_1 ic_1 ?_
  refine J_iload_n E dX6_seed_2 rfl 1 rfl ?_
  refine J_cVi0 E (As := [.int 1, .int v]) (c_X6_becomes l G b y 1 7 1 v (at_7 (by decide))) cl_X6_93 yo_X6_becomes dX6_seed_3 rfl rfl rfl (Nat.le_of_ble_eq_true rfl) (Nat.le_of_ble_eq_true rfl) rfl (Nat.le_of_ble_eq_true rfl) ⟨Nat.zero_le _, Nat.zero_le _⟩ ?_
  exact ret _ _ _ _ ⟨rfl, _, rfl, by intro g h2 h5 h6; by_cases h0 : g = 0 <;> simp [tellX, upG, up3, up3R, up2, h0, h2, h5, h6]⟩ rfl dX6_seed_6

set_option maxHeartbeats 4000000 in
set_option maxRecDepth 20000 in
theorem c_X6_feed_bad (l : Launch) (G : GB) (b : Nat → Nat) (y : Q3) (c n : Int32) (hb : ¬ (1 ≤ n ∧ n ≤ 4)) : CI l yX6_feed cX6_feed 4 .int 1 25 G [.ref (b 0), .int c, .int n] (wM G b y) (fun vR w' => vR = tellR 0 ∧ PubM G b (tellX y 0) w') := by
  refine CI.mk (own := RX6) (by decide) rfl (Nat.le_of_ble_eq_true rfl) ?_
  intro X E ret
  show J X G 4 0 0 (wM G b y) [(0, .ref (b 0)), (1, .int c), (2, .int n)] 0 []
  refine J_iload_n E dX6_feed_0 rfl 2 rfl ?_
  refine J_i2l E dX6_feed_1 rfl ?_
  refine J_lconst E dX6_feed_2 lc_1 ?_
  refine J_ldc2 E kl_X6_212 dX6_feed_3 ?_
  refine J_cSiN E (As := [.long (Int32.toInt64 n), .long 1, .long 4]) (c_X6_in l G n 1 4 1 4 (by decide) (by decide) ) cl_X6_54 yo_X6_in dX6_feed_6 rfl (Nat.le_of_ble_eq_true rfl) (Nat.le_of_ble_eq_true rfl) rfl (Nat.le_of_ble_eq_true rfl) ⟨Nat.zero_le _, Nat.zero_le _⟩ ?_
  refine J_if_ne E (tgt := 18) dX6_feed_9 (by decide) (fun c_9 => ?_) (fun c_9 => ?_)
  · skip
    have c_9 := bI_1 c_9
    exact absurd c_9 hb
  · skip
    have c_9 := bI_0 c_9
    refine J_aload_n E dX6_feed_12 rfl 0 rfl ?_
    refine J_iconst E dX6_feed_13 ic_0 ?_
    refine J_cVi0 E (As := [.int 0]) (c_X6_finds l G b y 0 (by omega)) cl_X6_96 yo_X6_finds dX6_feed_14 rfl rfl rfl (Nat.le_of_ble_eq_true rfl) (Nat.le_of_ble_eq_true rfl) rfl (Nat.le_of_ble_eq_true rfl) ⟨Nat.zero_le _, Nat.zero_le _⟩ ?_
    exact ret _ _ _ _ ⟨rfl, _, rfl, by intro g h2 h5 h6; by_cases h0 : g = 0 <;> simp [tellX, upG, up3, up3R, up2, h0, h2, h5, h6]⟩ rfl dX6_feed_17

set_option maxHeartbeats 4000000 in
set_option maxRecDepth 20000 in
theorem c_X6_feed_full (l : Launch) (G : GB) (b : Nat → Nat) (y : Q3) (c : Int32) (n k : Nat) (h1 : 1 ≤ n) (h2 : n ≤ 4) (hk : y 7 1 0 = nI k) (hk2 : k ≤ 120) (hf : 120 < k + n) : CI l yX6_feed cX6_feed 4 .int 1 25 G [.ref (b 0), .int c, .int (nI n)] (wM G b y) (fun vR w' => vR = tellR 1 ∧ PubM G b (tellX y 1) w') := by
  refine CI.mk (own := RX6) (by decide) rfl (Nat.le_of_ble_eq_true rfl) ?_
  intro X E ret
  show J X G 4 0 0 (wM G b y) [(0, .ref (b 0)), (1, .int c), (2, .int (nI n))] 0 []
  refine J_iload_n E dX6_feed_0 rfl 2 rfl ?_
  refine J_i2l E dX6_feed_1 rfl ?_
  refine J_lconst E dX6_feed_2 lc_1 ?_
  refine J_ldc2 E kl_X6_212 dX6_feed_3 ?_
  refine J_cSiN E (As := [.long (Int32.toInt64 (nI n)), .long 1, .long 4]) (c_X6_in l G (nI n) 1 4 1 4 (by decide) (by decide) ) cl_X6_54 yo_X6_in dX6_feed_6 rfl (Nat.le_of_ble_eq_true rfl) (Nat.le_of_ble_eq_true rfl) rfl (Nat.le_of_ble_eq_true rfl) ⟨Nat.zero_le _, Nat.zero_le _⟩ ?_
  refine J_if_ne E (tgt := 18) dX6_feed_9 (by decide) (fun c_9 => ?_) (fun c_9 => ?_)
  · skip
    have c_9 := bI_1 c_9
    refine J_aload_n E dX6_feed_18 rfl 0 rfl ?_
    refine gM0_X6_214 E dX6_feed_19 ?_
    refine J_top (x' := nI k) (hk) ?_
    refine J_iload_n E dX6_feed_22 rfl 2 rfl ?_
    refine J_iadd E dX6_feed_23 ?_
    refine J_top (x' := nI (k + n)) (nI_add _ _) ?_
    refine J_bipush E dX6_feed_24 bp_120 ?_
    refine J_icmp_le E (tgt := 35) dX6_feed_26 (by decide) (fun c_26 => ?_) (fun c_26 => ?_)
    · skip
      have n_26 : (k + n) ≤ 120 := cmp_le (a := (k + n)) (b := 120) (by omega) (by omega) c_26
      exact absurd n_26 (by omega)
    · skip
      have n_26 : ¬ (k + n) ≤ 120 := cmp_nle (a := (k + n)) (b := 120) (by omega) (by omega) c_26
      refine J_aload_n E dX6_feed_29 rfl 0 rfl ?_
      refine J_iconst E dX6_feed_30 ic_1 ?_
      refine J_cVi0 E (As := [.int 1]) (c_X6_finds l G b y 1 (by omega)) cl_X6_96 yo_X6_finds dX6_feed_31 rfl rfl rfl (Nat.le_of_ble_eq_true rfl) (Nat.le_of_ble_eq_true rfl) rfl (Nat.le_of_ble_eq_true rfl) ⟨Nat.zero_le _, Nat.zero_le _⟩ ?_
      exact ret _ _ _ _ ⟨rfl, _, rfl, by intro g h2 h5 h6; by_cases h0 : g = 0 <;> simp [tellX, upG, up3, up3R, up2, h0, h2, h5, h6]⟩ rfl dX6_feed_34
  · skip
    have c_9 := bI_0 c_9
    exact absurd (inB1 (b := 4) h1 h2 (by decide)) c_9

set_option maxHeartbeats 4000000 in
set_option maxRecDepth 20000 in
theorem c_X6_feed_ok (l : Launch) (G : GB) (b : Nat → Nat) (y : Q3) (c : Int32) (n k : Nat) (h1 : 1 ≤ n) (h2 : n ≤ 4) (hk : y 7 1 0 = nI k) (hk2 : k ≤ 120) (hf : k + n ≤ 120) : CI l yX6_feed cX6_feed 4 .int 1 25 G [.ref (b 0), .int c, .int (nI n)] (wM G b y) (fun vR w' => vR = feedT (y 7) c n 1 0 ∧ PubM G b (upG y 7 (feedT (y 7) c n)) w') := by
  refine CI.mk (own := RX6) (by decide) rfl (Nat.le_of_ble_eq_true rfl) ?_
  intro X E ret
  show J X G 4 0 0 (wM G b y) [(0, .ref (b 0)), (1, .int c), (2, .int (nI n))] 0 []
  refine J_iload_n E dX6_feed_0 rfl 2 rfl ?_
  refine J_i2l E dX6_feed_1 rfl ?_
  refine J_lconst E dX6_feed_2 lc_1 ?_
  refine J_ldc2 E kl_X6_212 dX6_feed_3 ?_
  refine J_cSiN E (As := [.long (Int32.toInt64 (nI n)), .long 1, .long 4]) (c_X6_in l G (nI n) 1 4 1 4 (by decide) (by decide) ) cl_X6_54 yo_X6_in dX6_feed_6 rfl (Nat.le_of_ble_eq_true rfl) (Nat.le_of_ble_eq_true rfl) rfl (Nat.le_of_ble_eq_true rfl) ⟨Nat.zero_le _, Nat.zero_le _⟩ ?_
  refine J_if_ne E (tgt := 18) dX6_feed_9 (by decide) (fun c_9 => ?_) (fun c_9 => ?_)
  · skip
    have c_9 := bI_1 c_9
    refine J_aload_n E dX6_feed_18 rfl 0 rfl ?_
    refine gM0_X6_214 E dX6_feed_19 ?_
    refine J_top (x' := nI k) (hk) ?_
    refine J_iload_n E dX6_feed_22 rfl 2 rfl ?_
    refine J_iadd E dX6_feed_23 ?_
    refine J_top (x' := nI (k + n)) (nI_add _ _) ?_
    refine J_bipush E dX6_feed_24 bp_120 ?_
    refine J_icmp_le E (tgt := 35) dX6_feed_26 (by decide) (fun c_26 => ?_) (fun c_26 => ?_)
    · skip
      have n_26 : (k + n) ≤ 120 := cmp_le (a := (k + n)) (b := 120) (by omega) (by omega) c_26
      refine J_iload_n E dX6_feed_35 rfl 2 rfl ?_
      refine J_iconst E dX6_feed_36 ic_1 ?_
      refine J_isub E dX6_feed_37 ?_
      refine J_top (x' := nI n + (-1)) (sub1m) ?_
      refine J_istore_n E (lv' := [(3, .int (nI n + (-1))), (0, .ref (b 0)), (1, .int c), (2, .int (nI n))]) dX6_feed_38 rfl (by decide) rfl ?_
      refine J_w (ws' := wM G b (upG y 7 (y 7))) (congrArg (wM G b) upG_id.symm) ?_
      have lp39 : ∀ (fu : Nat) (i : Nat) (xh : Int32) (r : Q2), (xh = nI i + (-1)) → (i ≤ n) → (feedT (y 7) c n = feedT r c i) → (r 1 0 = nI (k + (n - i))) → i < fu → J X G 4 0 0 (wM G b (upG y 7 r)) [(0, .ref (b 0)), (1, .int c), (2, .int (nI n)), (3, .int xh)] 39 [] := by
        intro fu
        induction fu with
        | zero => intro i xh r hxh hi h3 h4 hm; exact absurd hm (Nat.not_lt_zero _)
        | succ fu ih39 =>
          intro i xh r hxh hi h3 h4 hm
          refine J_iload_n E dX6_feed_39 rfl 3 rfl ?_
          refine J_if_lt E (tgt := 78) dX6_feed_40 (by decide) (fun c_40 => ?_) (fun c_40 => ?_)
          · skip
            have hi0 := dec_neg hxh (by omega) c_40
            refine J_aload_n E dX6_feed_78 rfl 0 rfl ?_
            refine gM0_X6_214 E dX6_feed_79 ?_
            refine J_top (x' := r 1 0) upG_s ?_
            exact ret _ _ _ _ ⟨by rw [h3, hi0]; rfl, _, rfl, by rw [h3, hi0]; exact ShM.rfl'⟩ rfl dX6_feed_82
          · skip
            obtain ⟨u, rfl, rfl⟩ := dec_pos hxh (by omega) c_40
            refine J_aload_n E dX6_feed_43 rfl 0 rfl ?_
            refine gM0_X6_28 E dX6_feed_44 ?_
            refine J_aload_n E dX6_feed_47 rfl 0 rfl ?_
            refine gM0_X6_214 E dX6_feed_48 ?_
            refine J_top (x' := r 1 0) upG_s ?_
            refine J_top (x' := nI (k + (n - (u + 1)))) (h4) ?_
            refine J_iload_n E dX6_feed_51 rfl 1 rfl ?_
            refine J_bipush E dX6_feed_52 bp_8 ?_
            refine J_iload_n E dX6_feed_54 rfl 3 rfl ?_
            refine J_imul E dX6_feed_55 ?_
            refine J_top (x' := nI (8 * u)) (mul8 u) ?_
            refine J_ishr E dX6_feed_56 ?_
            refine J_sipush E dX6_feed_57 sp_255 ?_
            refine J_iand E dX6_feed_60 ?_
            refine sM_7 E (j := (k + (n - (u + 1)))) dX6_feed_61 (by omega) ?_
            refine J_aload_n E dX6_feed_62 rfl 0 rfl ?_
            refine J_dup E dX6_feed_63 rfl ?_
            refine gM0_X6_214 E dX6_feed_64 ?_
            refine J_top (x' := r 1 0) (Eq.trans (up3_row (by decide)) upG_s) ?_
            refine J_iconst E dX6_feed_67 ic_1 ?_
            refine J_iadd E dX6_feed_68 ?_
            refine pM0_X6_214 E dX6_feed_69 ?_
            refine J_w (ws' := wM G b (upG (up3 (up3 (upG y 7 r) 7 0 (k + (n - (u + 1))) ((c >>> ((nI (8 * u)) &&& 31)) &&& 255)) 7 1 0 ((r 1 0) + 1)) 7 (addT r (c >>> (nI (8 * u) &&& 31) &&& 255)))) (by rw [addT, h4, nI_clamp (by omega)]; rfl) ?_
            refine J_iinc E (lv' := [(3, .int ((nI u) + (-1))), (0, .ref (b 0)), (1, .int c), (2, .int (nI n))]) dX6_feed_72 3 rfl (i_dec _) (by decide) rfl ?_
            refine J_goto E (tgt := 39) dX6_feed_75 (by decide) ?_
            refine J_lv [1, 2, 3, 0] rfl ?_
            exact ih39 u ((nI u) + (-1)) (addT r (c >>> (nI (8 * u) &&& 31) &&& 255)) rfl (by omega) (by rw [h3]; rfl) (by rw [addT_sz h4, show k + (n - (u + 1)) + 1 = k + (n - u) by omega]) (by omega)
      refine J_lv [1, 2, 3, 0] rfl ?_
      exact lp39 _ n (nI n + (-1)) (y 7) rfl (by omega) rfl (by rw [Nat.sub_self]; exact hk) (Nat.lt_succ_self _)
    · skip
      have n_26 : ¬ (k + n) ≤ 120 := cmp_nle (a := (k + n)) (b := 120) (by omega) (by omega) c_26
      exact absurd hf n_26
  · skip
    have c_9 := bI_0 c_9
    exact absurd (inB1 (b := 4) h1 h2 (by decide)) c_9

set_option maxHeartbeats 4000000 in
set_option maxRecDepth 20000 in
theorem c_X6_wipe (l : Launch) (G : GB) (b : Nat → Nat) (y : Q3)  : CI l yX6_wipe cX6_wipe 2 .int 0 0 G [.ref (b 0)] (wM G b y) (fun vR w' => vR = y 7 1 0 ∧ PubM G b (up3 y 7 1 0 0) w') := by
  refine CI.mk (own := RX6) (by decide) rfl (Nat.le_of_ble_eq_true rfl) ?_
  intro X E ret
  show J X G 2 0 0 (wM G b y) [(0, .ref (b 0))] 0 []
  refine J_aload_n E dX6_wipe_0 rfl 0 rfl ?_
  refine gM0_X6_214 E dX6_wipe_1 ?_
  refine J_istore_n E (lv' := [(1, .int (y 7 1 0)), (0, .ref (b 0))]) dX6_wipe_4 rfl (by decide) rfl ?_
  refine J_aload_n E dX6_wipe_5 rfl 1 rfl ?_
  refine J_iconst E dX6_wipe_6 ic_0 ?_
  refine pM0_X6_214 E dX6_wipe_7 ?_
  refine J_iload_n E dX6_wipe_10 rfl 0 rfl ?_
  exact ret _ _ _ _ ⟨rfl, _, rfl, by intro g h2 h5 h6; by_cases h0 : g = 0 <;> simp [tellX, upG, up3, up3R, up2, h0, h2, h5, h6]⟩ rfl dX6_wipe_11

set_option maxHeartbeats 4000000 in
set_option maxRecDepth 20000 in
theorem c_X6_hold_bad (l : Launch) (G : GB) (b : Nat → Nat) (y : Q3) (s h : Int32) (hb : ¬ ((0 ≤ s ∧ s ≤ 9) ∧ (h = -1 ∨ okH h))) : CI l yX6_hold cX6_hold 3 .int 2 45 G [.ref (b 0), .int s, .int h] (wM G b y) (fun vR w' => vR = tellR 0 ∧ PubM G b (tellX y 0) w') := by
  refine CI.mk (own := RX6) (by decide) rfl (Nat.le_of_ble_eq_true rfl) ?_
  intro X E ret
  show J X G 3 0 0 (wM G b y) [(0, .ref (b 0)), (1, .int s), (2, .int h)] 0 []
  refine J_iload_n E dX6_hold_0 rfl 1 rfl ?_
  refine J_cSiN E (As := [.int s]) (c_X6_isSpot l G s ) cl_X6_298 yo_X6_isSpot dX6_hold_1 rfl (Nat.le_of_ble_eq_true rfl) (Nat.le_of_ble_eq_true rfl) rfl (Nat.le_of_ble_eq_true rfl) ⟨Nat.zero_le _, Nat.zero_le _⟩ ?_
  refine J_if_eq E (tgt := 19) dX6_hold_4 (by decide) (fun c_4 => ?_) (fun c_4 => ?_)
  · skip
    have c_4 := bI_0 c_4
    refine J_aload_n E dX6_hold_19 rfl 0 rfl ?_
    refine J_iconst E dX6_hold_20 ic_0 ?_
    refine J_cVi0 E (As := [.int 0]) (c_X6_finds l G b y 0 (by omega)) cl_X6_96 yo_X6_finds dX6_hold_21 rfl rfl rfl (Nat.le_of_ble_eq_true rfl) (Nat.le_of_ble_eq_true rfl) rfl (Nat.le_of_ble_eq_true rfl) ⟨Nat.zero_le _, Nat.zero_le _⟩ ?_
    exact ret _ _ _ _ ⟨rfl, _, rfl, by intro g h2 h5 h6; by_cases h0 : g = 0 <;> simp [tellX, upG, up3, up3R, up2, h0, h2, h5, h6]⟩ rfl dX6_hold_24
  · skip
    have c_4 := bI_1 c_4
    refine J_iload_n E dX6_hold_7 rfl 2 rfl ?_
    refine J_iconst E dX6_hold_8 ic_m1 ?_
    refine J_icmp_eq E (tgt := 25) dX6_hold_9 (by decide) (fun c_9 => ?_) (fun c_9 => ?_)
    · skip
      have hw : h = -1 ∨ okH h := Or.inl c_9
      exact absurd ⟨c_4, hw⟩ hb
    · skip
      refine J_iload_n E dX6_hold_12 rfl 2 rfl ?_
      refine J_cSiN E (As := [.int h]) (c_X6_isHouse l G h ) cl_X6_87 yo_X6_isHouse dX6_hold_13 rfl (Nat.le_of_ble_eq_true rfl) (Nat.le_of_ble_eq_true rfl) rfl (Nat.le_of_ble_eq_true rfl) ⟨Nat.zero_le _, Nat.zero_le _⟩ ?_
      refine J_if_ne E (tgt := 25) dX6_hold_16 (by decide) (fun c_16 => ?_) (fun c_16 => ?_)
      · skip
        have c_16 := bI_1 c_16
        have hw : h = -1 ∨ okH h := Or.inr c_16
        exact absurd ⟨c_4, hw⟩ hb
      · skip
        have c_16 := bI_0 c_16
        refine J_aload_n E dX6_hold_19 rfl 0 rfl ?_
        refine J_iconst E dX6_hold_20 ic_0 ?_
        refine J_cVi0 E (As := [.int 0]) (c_X6_finds l G b y 0 (by omega)) cl_X6_96 yo_X6_finds dX6_hold_21 rfl rfl rfl (Nat.le_of_ble_eq_true rfl) (Nat.le_of_ble_eq_true rfl) rfl (Nat.le_of_ble_eq_true rfl) ⟨Nat.zero_le _, Nat.zero_le _⟩ ?_
        exact ret _ _ _ _ ⟨rfl, _, rfl, by intro g h2 h5 h6; by_cases h0 : g = 0 <;> simp [tellX, upG, up3, up3R, up2, h0, h2, h5, h6]⟩ rfl dX6_hold_24

set_option maxHeartbeats 4000000 in
set_option maxRecDepth 20000 in
theorem c_X6_hold_ok (l : Launch) (G : GB) (b : Nat → Nat) (y : Q3) (s : Nat) (h : Int32) (hs : s < 10) (hh : h = -1 ∨ okH h) : CI l yX6_hold cX6_hold 3 .int 2 45 G [.ref (b 0), .int (nI s), .int h] (wM G b y) (fun vR w' => vR = 1 ∧ PubM G b (up3 y 0 6 s h) w') := by
  refine CI.mk (own := RX6) (by decide) rfl (Nat.le_of_ble_eq_true rfl) ?_
  intro X E ret
  show J X G 3 0 0 (wM G b y) [(0, .ref (b 0)), (1, .int (nI s)), (2, .int h)] 0 []
  refine J_iload_n E dX6_hold_0 rfl 1 rfl ?_
  refine J_cSiN E (As := [.int (nI s)]) (c_X6_isSpot l G (nI s) ) cl_X6_298 yo_X6_isSpot dX6_hold_1 rfl (Nat.le_of_ble_eq_true rfl) (Nat.le_of_ble_eq_true rfl) rfl (Nat.le_of_ble_eq_true rfl) ⟨Nat.zero_le _, Nat.zero_le _⟩ ?_
  refine J_if_eq E (tgt := 19) dX6_hold_4 (by decide) (fun c_4 => ?_) (fun c_4 => ?_)
  · skip
    have c_4 := bI_0 c_4
    exact absurd (inB (a := s) (b := 9) (by omega) (by decide)) c_4
  · skip
    have c_4 := bI_1 c_4
    refine J_iload_n E dX6_hold_7 rfl 2 rfl ?_
    refine J_iconst E dX6_hold_8 ic_m1 ?_
    refine J_icmp_eq E (tgt := 25) dX6_hold_9 (by decide) (fun c_9 => ?_) (fun c_9 => ?_)
    · skip
      refine J_aload_n E dX6_hold_25 rfl 0 rfl ?_
      refine gM0_X6_9 E dX6_hold_26 ?_
      refine J_bipush E dX6_hold_29 bp_71 ?_
      refine J_iload_n E dX6_hold_31 rfl 1 rfl ?_
      refine J_iadd E dX6_hold_32 ?_
      refine J_top (x' := nI (71 + s)) (nI_add 71 s) ?_
      refine J_iload_n E dX6_hold_33 rfl 2 rfl ?_
      refine sMs E (j := (71 + s)) (r := 6) (i := s) (at_s (by omega) rfl) dX6_hold_34 ?_
      refine J_w (ws' := wM G b (upG y 0 (up2 (y 0) 6 s h))) rfl ?_
      refine J_iconst E dX6_hold_35 ic_1 ?_
      exact ret _ _ _ _ ⟨rfl, _, rfl, by intro g h2 h5 h6; by_cases h0 : g = 0 <;> simp [tellX, upG, up3, up3R, up2, h0, h2, h5, h6]⟩ rfl dX6_hold_36
    · skip
      refine J_iload_n E dX6_hold_12 rfl 2 rfl ?_
      refine J_cSiN E (As := [.int h]) (c_X6_isHouse l G h ) cl_X6_87 yo_X6_isHouse dX6_hold_13 rfl (Nat.le_of_ble_eq_true rfl) (Nat.le_of_ble_eq_true rfl) rfl (Nat.le_of_ble_eq_true rfl) ⟨Nat.zero_le _, Nat.zero_le _⟩ ?_
      refine J_if_ne E (tgt := 25) dX6_hold_16 (by decide) (fun c_16 => ?_) (fun c_16 => ?_)
      · skip
        have c_16 := bI_1 c_16
        refine J_aload_n E dX6_hold_25 rfl 0 rfl ?_
        refine gM0_X6_9 E dX6_hold_26 ?_
        refine J_bipush E dX6_hold_29 bp_71 ?_
        refine J_iload_n E dX6_hold_31 rfl 1 rfl ?_
        refine J_iadd E dX6_hold_32 ?_
        refine J_top (x' := nI (71 + s)) (nI_add 71 s) ?_
        refine J_iload_n E dX6_hold_33 rfl 2 rfl ?_
        refine sMs E (j := (71 + s)) (r := 6) (i := s) (at_s (by omega) rfl) dX6_hold_34 ?_
        refine J_w (ws' := wM G b (upG y 0 (up2 (y 0) 6 s h))) rfl ?_
        refine J_iconst E dX6_hold_35 ic_1 ?_
        exact ret _ _ _ _ ⟨rfl, _, rfl, by intro g h2 h5 h6; by_cases h0 : g = 0 <;> simp [tellX, upG, up3, up3R, up2, h0, h2, h5, h6]⟩ rfl dX6_hold_36
      · skip
        have c_16 := bI_0 c_16
        exact absurd (hh.resolve_left c_9) c_16

set_option maxHeartbeats 4000000 in
set_option maxRecDepth 20000 in
theorem c_X6_as_bad (l : Launch) (G : GB) (b : Nat → Nat) (y : Q3) (s k : Int32) (hb : ¬ ((0 ≤ s ∧ s ≤ 9) ∧ 0 ≤ k ∧ k ≤ 6)) : CI l yX6_as cX6_as 4 .int 2 45 G [.ref (b 0), .int s, .int k] (wM G b y) (fun vR w' => vR = tellR 0 ∧ PubM G b (tellX y 0) w') := by
  refine CI.mk (own := RX6) (by decide) rfl (Nat.le_of_ble_eq_true rfl) ?_
  intro X E ret
  show J X G 4 0 0 (wM G b y) [(0, .ref (b 0)), (1, .int s), (2, .int k)] 0 []
  refine J_iload_n E dX6_as_0 rfl 1 rfl ?_
  refine J_cSiN E (As := [.int s]) (c_X6_isSpot l G s ) cl_X6_298 yo_X6_isSpot dX6_as_1 rfl (Nat.le_of_ble_eq_true rfl) (Nat.le_of_ble_eq_true rfl) rfl (Nat.le_of_ble_eq_true rfl) ⟨Nat.zero_le _, Nat.zero_le _⟩ ?_
  refine J_if_eq E (tgt := 14) dX6_as_4 (by decide) (fun c_4 => ?_) (fun c_4 => ?_)
  · skip
    have c_4 := bI_0 c_4
    refine J_aload_n E dX6_as_14 rfl 0 rfl ?_
    refine J_iconst E dX6_as_15 ic_0 ?_
    refine J_cVi0 E (As := [.int 0]) (c_X6_finds l G b y 0 (by omega)) cl_X6_96 yo_X6_finds dX6_as_16 rfl rfl rfl (Nat.le_of_ble_eq_true rfl) (Nat.le_of_ble_eq_true rfl) rfl (Nat.le_of_ble_eq_true rfl) ⟨Nat.zero_le _, Nat.zero_le _⟩ ?_
    exact ret _ _ _ _ ⟨rfl, _, rfl, by intro g h2 h5 h6; by_cases h0 : g = 0 <;> simp [tellX, upG, up3, up3R, up2, h0, h2, h5, h6]⟩ rfl dX6_as_19
  · skip
    have c_4 := bI_1 c_4
    refine J_iload_n E dX6_as_7 rfl 2 rfl ?_
    refine J_cSiN E (As := [.int k]) (c_X6_isKind l G k ) cl_X6_77 yo_X6_isKind dX6_as_8 rfl (Nat.le_of_ble_eq_true rfl) (Nat.le_of_ble_eq_true rfl) rfl (Nat.le_of_ble_eq_true rfl) ⟨Nat.zero_le _, Nat.zero_le _⟩ ?_
    refine J_if_ne E (tgt := 20) dX6_as_11 (by decide) (fun c_11 => ?_) (fun c_11 => ?_)
    · skip
      have c_11 := bI_1 c_11
      exact absurd ⟨c_4, c_11⟩ hb
    · skip
      have c_11 := bI_0 c_11
      refine J_aload_n E dX6_as_14 rfl 0 rfl ?_
      refine J_iconst E dX6_as_15 ic_0 ?_
      refine J_cVi0 E (As := [.int 0]) (c_X6_finds l G b y 0 (by omega)) cl_X6_96 yo_X6_finds dX6_as_16 rfl rfl rfl (Nat.le_of_ble_eq_true rfl) (Nat.le_of_ble_eq_true rfl) rfl (Nat.le_of_ble_eq_true rfl) ⟨Nat.zero_le _, Nat.zero_le _⟩ ?_
      exact ret _ _ _ _ ⟨rfl, _, rfl, by intro g h2 h5 h6; by_cases h0 : g = 0 <;> simp [tellX, upG, up3, up3R, up2, h0, h2, h5, h6]⟩ rfl dX6_as_19

set_option maxHeartbeats 4000000 in
set_option maxRecDepth 20000 in
theorem c_X6_as_miss (l : Launch) (G : GB) (b : Nat → Nat) (y : Q3) (s k : Nat) (hs : s < 10) (hk : k < 7) (hv : y 0 6 s = -1) : CI l yX6_as cX6_as 4 .int 2 45 G [.ref (b 0), .int (nI s), .int (nI k)] (wM G b y) (fun vR w' => vR = tellR 5 ∧ PubM G b (tellX y 5) w') := by
  refine CI.mk (own := RX6) (by decide) rfl (Nat.le_of_ble_eq_true rfl) ?_
  intro X E ret
  show J X G 4 0 0 (wM G b y) [(0, .ref (b 0)), (1, .int (nI s)), (2, .int (nI k))] 0 []
  refine J_iload_n E dX6_as_0 rfl 1 rfl ?_
  refine J_cSiN E (As := [.int (nI s)]) (c_X6_isSpot l G (nI s) ) cl_X6_298 yo_X6_isSpot dX6_as_1 rfl (Nat.le_of_ble_eq_true rfl) (Nat.le_of_ble_eq_true rfl) rfl (Nat.le_of_ble_eq_true rfl) ⟨Nat.zero_le _, Nat.zero_le _⟩ ?_
  refine J_if_eq E (tgt := 14) dX6_as_4 (by decide) (fun c_4 => ?_) (fun c_4 => ?_)
  · skip
    have c_4 := bI_0 c_4
    exact absurd (inB (a := s) (b := 9) (by omega) (by decide)) c_4
  · skip
    have c_4 := bI_1 c_4
    refine J_iload_n E dX6_as_7 rfl 2 rfl ?_
    refine J_cSiN E (As := [.int (nI k)]) (c_X6_isKind l G (nI k) ) cl_X6_77 yo_X6_isKind dX6_as_8 rfl (Nat.le_of_ble_eq_true rfl) (Nat.le_of_ble_eq_true rfl) rfl (Nat.le_of_ble_eq_true rfl) ⟨Nat.zero_le _, Nat.zero_le _⟩ ?_
    refine J_if_ne E (tgt := 20) dX6_as_11 (by decide) (fun c_11 => ?_) (fun c_11 => ?_)
    · skip
      have c_11 := bI_1 c_11
      refine J_aload_n E dX6_as_20 rfl 0 rfl ?_
      refine gM0_X6_9 E dX6_as_21 ?_
      refine J_bipush E dX6_as_24 bp_71 ?_
      refine J_iload_n E dX6_as_26 rfl 1 rfl ?_
      refine J_iadd E dX6_as_27 ?_
      refine J_top (x' := nI (71 + s)) (nI_add 71 s) ?_
      refine lMs E (j := (71 + s)) (r := 6) (i := s) (at_s (by omega) rfl) dX6_as_28 ?_
      refine J_top (x' := (-1)) (hv) ?_
      refine J_istore_n E (lv' := [(3, .int (-1)), (0, .ref (b 0)), (1, .int (nI s)), (2, .int (nI k))]) dX6_as_29 rfl (by decide) rfl ?_
      refine J_iload_n E dX6_as_30 rfl 0 rfl ?_
      refine J_if_ge E (tgt := 40) dX6_as_31 (by decide) (fun c_31 => ?_) (fun c_31 => ?_)
      · skip
        exact absurd c_31 (by decide)
      · skip
        refine J_aload_n E dX6_as_34 rfl 1 rfl ?_
        refine J_iconst E dX6_as_35 ic_5 ?_
        refine J_cVi0 E (As := [.int 5]) (c_X6_finds l G b y 5 (by omega)) cl_X6_96 yo_X6_finds dX6_as_36 rfl rfl rfl (Nat.le_of_ble_eq_true rfl) (Nat.le_of_ble_eq_true rfl) rfl (Nat.le_of_ble_eq_true rfl) ⟨Nat.zero_le _, Nat.zero_le _⟩ ?_
        exact ret _ _ _ _ ⟨rfl, _, rfl, by intro g h2 h5 h6; by_cases h0 : g = 0 <;> simp [tellX, upG, up3, up3R, up2, h0, h2, h5, h6]⟩ rfl dX6_as_39
    · skip
      have c_11 := bI_0 c_11
      exact absurd (inB (a := k) (b := 6) (by omega) (by decide)) c_11

set_option maxHeartbeats 4000000 in
set_option maxRecDepth 20000 in
theorem c_X6_as_no (l : Launch) (G : GB) (b : Nat → Nat) (y : Q3) (s k j kd : Nat) (hs : s < 10) (hk : k < 7) (hj : j < 11) (hkd : kd < 7) (hv : y 0 6 s = nI j) (hw : y 0 0 j = nI kd) (hu : ¬ undF kd k = true) : CI l yX6_as cX6_as 4 .int 2 45 G [.ref (b 0), .int (nI s), .int (nI k)] (wM G b y) (fun vR w' => vR = tellR 2 ∧ PubM G b (tellX y 2) w') := by
  refine CI.mk (own := RX6) (by decide) rfl (Nat.le_of_ble_eq_true rfl) ?_
  intro X E ret
  show J X G 4 0 0 (wM G b y) [(0, .ref (b 0)), (1, .int (nI s)), (2, .int (nI k))] 0 []
  refine J_iload_n E dX6_as_0 rfl 1 rfl ?_
  refine J_cSiN E (As := [.int (nI s)]) (c_X6_isSpot l G (nI s) ) cl_X6_298 yo_X6_isSpot dX6_as_1 rfl (Nat.le_of_ble_eq_true rfl) (Nat.le_of_ble_eq_true rfl) rfl (Nat.le_of_ble_eq_true rfl) ⟨Nat.zero_le _, Nat.zero_le _⟩ ?_
  refine J_if_eq E (tgt := 14) dX6_as_4 (by decide) (fun c_4 => ?_) (fun c_4 => ?_)
  · skip
    have c_4 := bI_0 c_4
    exact absurd (inB (a := s) (b := 9) (by omega) (by decide)) c_4
  · skip
    have c_4 := bI_1 c_4
    refine J_iload_n E dX6_as_7 rfl 2 rfl ?_
    refine J_cSiN E (As := [.int (nI k)]) (c_X6_isKind l G (nI k) ) cl_X6_77 yo_X6_isKind dX6_as_8 rfl (Nat.le_of_ble_eq_true rfl) (Nat.le_of_ble_eq_true rfl) rfl (Nat.le_of_ble_eq_true rfl) ⟨Nat.zero_le _, Nat.zero_le _⟩ ?_
    refine J_if_ne E (tgt := 20) dX6_as_11 (by decide) (fun c_11 => ?_) (fun c_11 => ?_)
    · skip
      have c_11 := bI_1 c_11
      refine J_aload_n E dX6_as_20 rfl 0 rfl ?_
      refine gM0_X6_9 E dX6_as_21 ?_
      refine J_bipush E dX6_as_24 bp_71 ?_
      refine J_iload_n E dX6_as_26 rfl 1 rfl ?_
      refine J_iadd E dX6_as_27 ?_
      refine J_top (x' := nI (71 + s)) (nI_add 71 s) ?_
      refine lMs E (j := (71 + s)) (r := 6) (i := s) (at_s (by omega) rfl) dX6_as_28 ?_
      refine J_top (x' := nI j) (hv) ?_
      refine J_istore_n E (lv' := [(3, .int (nI j)), (0, .ref (b 0)), (1, .int (nI s)), (2, .int (nI k))]) dX6_as_29 rfl (by decide) rfl ?_
      refine J_iload_n E dX6_as_30 rfl 0 rfl ?_
      refine J_if_ge E (tgt := 40) dX6_as_31 (by decide) (fun c_31 => ?_) (fun c_31 => ?_)
      · skip
        have n_31 : 0 ≤ j := cmp_le (a := 0) (b := j) (by omega) (by omega) c_31
        refine J_aload_n E dX6_as_40 rfl 1 rfl ?_
        refine J_iload_n E dX6_as_41 rfl 0 rfl ?_
        refine J_iconst E dX6_as_42 ic_0 ?_
        refine J_cVi0 E (As := [.int (nI j), .int 0]) (c_X6_its l G b y j 0 (by omega) (by omega)) cl_X6_64 yo_X6_its dX6_as_43 rfl rfl rfl (Nat.le_of_ble_eq_true rfl) (Nat.le_of_ble_eq_true rfl) rfl (Nat.le_of_ble_eq_true rfl) ⟨Nat.zero_le _, Nat.zero_le _⟩ ?_
        refine J_top (x' := nI kd) (hw) ?_
        refine J_iload_n E dX6_as_46 rfl 3 rfl ?_
        refine J_cSiN E (As := [.int (nI kd), .int (nI k)]) (c_X6_isUnder l G kd k (by omega) (by omega)) cl_X6_73 yo_X6_isUnder dX6_as_47 rfl (Nat.le_of_ble_eq_true rfl) (Nat.le_of_ble_eq_true rfl) rfl (Nat.le_of_ble_eq_true rfl) ⟨Nat.zero_le _, Nat.zero_le _⟩ ?_
        refine J_if_eq E (tgt := 57) dX6_as_50 (by decide) (fun c_50 => ?_) (fun c_50 => ?_)
        · skip
          have c_50 := bI_0 c_50
          refine J_aload_n E dX6_as_57 rfl 1 rfl ?_
          refine J_iconst E dX6_as_58 ic_2 ?_
          refine J_cVi0 E (As := [.int 2]) (c_X6_finds l G b y 2 (by omega)) cl_X6_96 yo_X6_finds dX6_as_59 rfl rfl rfl (Nat.le_of_ble_eq_true rfl) (Nat.le_of_ble_eq_true rfl) rfl (Nat.le_of_ble_eq_true rfl) ⟨Nat.zero_le _, Nat.zero_le _⟩ ?_
          exact ret _ _ _ _ ⟨rfl, _, rfl, by intro g h2 h5 h6; by_cases h0 : g = 0 <;> simp [tellX, upG, up3, up3R, up2, h0, h2, h5, h6]⟩ rfl dX6_as_62
        · skip
          have c_50 := bI_1 c_50
          exact absurd c_50 hu
      · skip
        have n_31 : ¬ 0 ≤ j := cmp_nle (a := 0) (b := j) (by omega) (by omega) c_31
        exact absurd n_31 (by omega)
    · skip
      have c_11 := bI_0 c_11
      exact absurd (inB (a := k) (b := 6) (by omega) (by decide)) c_11

set_option maxHeartbeats 4000000 in
set_option maxRecDepth 20000 in
theorem c_X6_as_ok (l : Launch) (G : GB) (b : Nat → Nat) (y : Q3) (s k j kd : Nat) (hs : s < 10) (hk : k < 7) (hj : j < 11) (hkd : kd < 7) (hv : y 0 6 s = nI j) (hw : y 0 0 j = nI kd) (hu : undF kd k = true) : CI l yX6_as cX6_as 4 .int 2 45 G [.ref (b 0), .int (nI s), .int (nI k)] (wM G b y) (fun vR w' => vR = nI j ∧ PubM G b y w') := by
  refine CI.mk (own := RX6) (by decide) rfl (Nat.le_of_ble_eq_true rfl) ?_
  intro X E ret
  show J X G 4 0 0 (wM G b y) [(0, .ref (b 0)), (1, .int (nI s)), (2, .int (nI k))] 0 []
  refine J_iload_n E dX6_as_0 rfl 1 rfl ?_
  refine J_cSiN E (As := [.int (nI s)]) (c_X6_isSpot l G (nI s) ) cl_X6_298 yo_X6_isSpot dX6_as_1 rfl (Nat.le_of_ble_eq_true rfl) (Nat.le_of_ble_eq_true rfl) rfl (Nat.le_of_ble_eq_true rfl) ⟨Nat.zero_le _, Nat.zero_le _⟩ ?_
  refine J_if_eq E (tgt := 14) dX6_as_4 (by decide) (fun c_4 => ?_) (fun c_4 => ?_)
  · skip
    have c_4 := bI_0 c_4
    exact absurd (inB (a := s) (b := 9) (by omega) (by decide)) c_4
  · skip
    have c_4 := bI_1 c_4
    refine J_iload_n E dX6_as_7 rfl 2 rfl ?_
    refine J_cSiN E (As := [.int (nI k)]) (c_X6_isKind l G (nI k) ) cl_X6_77 yo_X6_isKind dX6_as_8 rfl (Nat.le_of_ble_eq_true rfl) (Nat.le_of_ble_eq_true rfl) rfl (Nat.le_of_ble_eq_true rfl) ⟨Nat.zero_le _, Nat.zero_le _⟩ ?_
    refine J_if_ne E (tgt := 20) dX6_as_11 (by decide) (fun c_11 => ?_) (fun c_11 => ?_)
    · skip
      have c_11 := bI_1 c_11
      refine J_aload_n E dX6_as_20 rfl 0 rfl ?_
      refine gM0_X6_9 E dX6_as_21 ?_
      refine J_bipush E dX6_as_24 bp_71 ?_
      refine J_iload_n E dX6_as_26 rfl 1 rfl ?_
      refine J_iadd E dX6_as_27 ?_
      refine J_top (x' := nI (71 + s)) (nI_add 71 s) ?_
      refine lMs E (j := (71 + s)) (r := 6) (i := s) (at_s (by omega) rfl) dX6_as_28 ?_
      refine J_top (x' := nI j) (hv) ?_
      refine J_istore_n E (lv' := [(3, .int (nI j)), (0, .ref (b 0)), (1, .int (nI s)), (2, .int (nI k))]) dX6_as_29 rfl (by decide) rfl ?_
      refine J_iload_n E dX6_as_30 rfl 0 rfl ?_
      refine J_if_ge E (tgt := 40) dX6_as_31 (by decide) (fun c_31 => ?_) (fun c_31 => ?_)
      · skip
        have n_31 : 0 ≤ j := cmp_le (a := 0) (b := j) (by omega) (by omega) c_31
        refine J_aload_n E dX6_as_40 rfl 1 rfl ?_
        refine J_iload_n E dX6_as_41 rfl 0 rfl ?_
        refine J_iconst E dX6_as_42 ic_0 ?_
        refine J_cVi0 E (As := [.int (nI j), .int 0]) (c_X6_its l G b y j 0 (by omega) (by omega)) cl_X6_64 yo_X6_its dX6_as_43 rfl rfl rfl (Nat.le_of_ble_eq_true rfl) (Nat.le_of_ble_eq_true rfl) rfl (Nat.le_of_ble_eq_true rfl) ⟨Nat.zero_le _, Nat.zero_le _⟩ ?_
        refine J_top (x' := nI kd) (hw) ?_
        refine J_iload_n E dX6_as_46 rfl 3 rfl ?_
        refine J_cSiN E (As := [.int (nI kd), .int (nI k)]) (c_X6_isUnder l G kd k (by omega) (by omega)) cl_X6_73 yo_X6_isUnder dX6_as_47 rfl (Nat.le_of_ble_eq_true rfl) (Nat.le_of_ble_eq_true rfl) rfl (Nat.le_of_ble_eq_true rfl) ⟨Nat.zero_le _, Nat.zero_le _⟩ ?_
        refine J_if_eq E (tgt := 57) dX6_as_50 (by decide) (fun c_50 => ?_) (fun c_50 => ?_)
        · skip
          have c_50 := bI_0 c_50
          exact absurd hu c_50
        · skip
          have c_50 := bI_1 c_50
          refine J_iload_n E dX6_as_53 rfl 0 rfl ?_
          refine J_goto E (tgt := 62) dX6_as_54 (by decide) ?_
          exact ret _ _ _ _ ⟨rfl, _, rfl, by intro g h2 h5 h6; by_cases h0 : g = 0 <;> simp [tellX, upG, up3, up3R, up2, h0, h2, h5, h6]⟩ rfl dX6_as_62
      · skip
        have n_31 : ¬ 0 ≤ j := cmp_nle (a := 0) (b := j) (by omega) (by omega) c_31
        exact absurd n_31 (by omega)
    · skip
      have c_11 := bI_0 c_11
      exact absurd (inB (a := k) (b := 6) (by omega) (by decide)) c_11

set_option maxHeartbeats 4000000 in
set_option maxRecDepth 20000 in
theorem c_X6_sheet_bad (l : Launch) (G : GB) (b : Nat → Nat) (y : Q3) (s c n : Int32) (hb : ¬ ((0 ≤ s ∧ s ≤ 3) ∧ (c = 0 ∨ c = 8 ∨ c = 16 ∨ c = 32))) : CI l yX6_sheet cX6_sheet 6 .int 2 45 G [.ref (b 0), .int s, .int c, .int n] (wM G b y) (fun vR w' => vR = tellR 0 ∧ PubM G b (tellX y 0) w') := by
  refine CI.mk (own := RX6) (by decide) rfl (Nat.le_of_ble_eq_true rfl) ?_
  intro X E ret
  show J X G 6 0 0 (wM G b y) [(0, .ref (b 0)), (1, .int s), (2, .int c), (3, .int n)] 0 []
  refine J_iload_n E dX6_sheet_0 rfl 2 rfl ?_
  refine J_if_eq E (tgt := 22) dX6_sheet_1 (by decide) (fun c_1 => ?_) (fun c_1 => ?_)
  · skip
    have hw : (c = 0 ∨ c = 8 ∨ c = 16 ∨ c = 32) := Or.inl c_1
    refine J_iconst E dX6_sheet_22 ic_1 ?_
    refine J_goto E (tgt := 27) dX6_sheet_23 (by decide) ?_
    refine J_istore E (lv' := [(4, .int 1), (0, .ref (b 0)), (1, .int s), (2, .int c), (3, .int n)]) dX6_sheet_27 (by decide) rfl ?_
    refine J_iload_n E dX6_sheet_29 rfl 2 rfl ?_
    refine J_cSiN E (As := [.int s]) (c_X6_isSheet l G s ) cl_X6_303 yo_X6_isSheet dX6_sheet_30 rfl (Nat.le_of_ble_eq_true rfl) (Nat.le_of_ble_eq_true rfl) rfl (Nat.le_of_ble_eq_true rfl) ⟨Nat.zero_le _, Nat.zero_le _⟩ ?_
    refine J_if_eq E (tgt := 41) dX6_sheet_33 (by decide) (fun c_33 => ?_) (fun c_33 => ?_)
    · skip
      have c_33 := bI_0 c_33
      refine J_aload_n E dX6_sheet_41 rfl 1 rfl ?_
      refine J_iconst E dX6_sheet_42 ic_0 ?_
      refine J_cVi0 E (As := [.int 0]) (c_X6_finds l G b y 0 (by omega)) cl_X6_96 yo_X6_finds dX6_sheet_43 rfl rfl rfl (Nat.le_of_ble_eq_true rfl) (Nat.le_of_ble_eq_true rfl) rfl (Nat.le_of_ble_eq_true rfl) ⟨Nat.zero_le _, Nat.zero_le _⟩ ?_
      exact ret _ _ _ _ ⟨rfl, _, rfl, by intro g h2 h5 h6; by_cases h0 : g = 0 <;> simp [tellX, upG, up3, up3R, up2, h0, h2, h5, h6]⟩ rfl dX6_sheet_46
    · skip
      have c_33 := bI_1 c_33
      refine J_iload E dX6_sheet_36 0 rfl ?_
      refine J_if_ne E (tgt := 47) dX6_sheet_38 (by decide) (fun c_38 => ?_) (fun c_38 => ?_)
      · skip
        have n_38 : ¬ 1 = 0 := cmp_ne (a := 1) (b := 0) (by omega) (by omega) c_38
        exact absurd ⟨c_33, hw⟩ hb
      · skip
        have n_38 : 1 = 0 := cmp_eq (a := 1) (b := 0) (by omega) (by omega) c_38
        exact absurd n_38 (by decide)
  · skip
    refine J_iload_n E dX6_sheet_4 rfl 2 rfl ?_
    refine J_bipush E dX6_sheet_5 bp_8 ?_
    refine J_icmp_eq E (tgt := 22) dX6_sheet_7 (by decide) (fun c_7 => ?_) (fun c_7 => ?_)
    · skip
      have hw : (c = 0 ∨ c = 8 ∨ c = 16 ∨ c = 32) := Or.inr (Or.inl c_7)
      refine J_iconst E dX6_sheet_22 ic_1 ?_
      refine J_goto E (tgt := 27) dX6_sheet_23 (by decide) ?_
      refine J_istore E (lv' := [(4, .int 1), (0, .ref (b 0)), (1, .int s), (2, .int c), (3, .int n)]) dX6_sheet_27 (by decide) rfl ?_
      refine J_iload_n E dX6_sheet_29 rfl 2 rfl ?_
      refine J_cSiN E (As := [.int s]) (c_X6_isSheet l G s ) cl_X6_303 yo_X6_isSheet dX6_sheet_30 rfl (Nat.le_of_ble_eq_true rfl) (Nat.le_of_ble_eq_true rfl) rfl (Nat.le_of_ble_eq_true rfl) ⟨Nat.zero_le _, Nat.zero_le _⟩ ?_
      refine J_if_eq E (tgt := 41) dX6_sheet_33 (by decide) (fun c_33 => ?_) (fun c_33 => ?_)
      · skip
        have c_33 := bI_0 c_33
        refine J_aload_n E dX6_sheet_41 rfl 1 rfl ?_
        refine J_iconst E dX6_sheet_42 ic_0 ?_
        refine J_cVi0 E (As := [.int 0]) (c_X6_finds l G b y 0 (by omega)) cl_X6_96 yo_X6_finds dX6_sheet_43 rfl rfl rfl (Nat.le_of_ble_eq_true rfl) (Nat.le_of_ble_eq_true rfl) rfl (Nat.le_of_ble_eq_true rfl) ⟨Nat.zero_le _, Nat.zero_le _⟩ ?_
        exact ret _ _ _ _ ⟨rfl, _, rfl, by intro g h2 h5 h6; by_cases h0 : g = 0 <;> simp [tellX, upG, up3, up3R, up2, h0, h2, h5, h6]⟩ rfl dX6_sheet_46
      · skip
        have c_33 := bI_1 c_33
        refine J_iload E dX6_sheet_36 0 rfl ?_
        refine J_if_ne E (tgt := 47) dX6_sheet_38 (by decide) (fun c_38 => ?_) (fun c_38 => ?_)
        · skip
          have n_38 : ¬ 1 = 0 := cmp_ne (a := 1) (b := 0) (by omega) (by omega) c_38
          exact absurd ⟨c_33, hw⟩ hb
        · skip
          have n_38 : 1 = 0 := cmp_eq (a := 1) (b := 0) (by omega) (by omega) c_38
          exact absurd n_38 (by decide)
    · skip
      refine J_iload_n E dX6_sheet_10 rfl 2 rfl ?_
      refine J_bipush E dX6_sheet_11 bp_16 ?_
      refine J_icmp_eq E (tgt := 22) dX6_sheet_13 (by decide) (fun c_13 => ?_) (fun c_13 => ?_)
      · skip
        have hw : (c = 0 ∨ c = 8 ∨ c = 16 ∨ c = 32) := Or.inr (Or.inr (Or.inl c_13))
        refine J_iconst E dX6_sheet_22 ic_1 ?_
        refine J_goto E (tgt := 27) dX6_sheet_23 (by decide) ?_
        refine J_istore E (lv' := [(4, .int 1), (0, .ref (b 0)), (1, .int s), (2, .int c), (3, .int n)]) dX6_sheet_27 (by decide) rfl ?_
        refine J_iload_n E dX6_sheet_29 rfl 2 rfl ?_
        refine J_cSiN E (As := [.int s]) (c_X6_isSheet l G s ) cl_X6_303 yo_X6_isSheet dX6_sheet_30 rfl (Nat.le_of_ble_eq_true rfl) (Nat.le_of_ble_eq_true rfl) rfl (Nat.le_of_ble_eq_true rfl) ⟨Nat.zero_le _, Nat.zero_le _⟩ ?_
        refine J_if_eq E (tgt := 41) dX6_sheet_33 (by decide) (fun c_33 => ?_) (fun c_33 => ?_)
        · skip
          have c_33 := bI_0 c_33
          refine J_aload_n E dX6_sheet_41 rfl 1 rfl ?_
          refine J_iconst E dX6_sheet_42 ic_0 ?_
          refine J_cVi0 E (As := [.int 0]) (c_X6_finds l G b y 0 (by omega)) cl_X6_96 yo_X6_finds dX6_sheet_43 rfl rfl rfl (Nat.le_of_ble_eq_true rfl) (Nat.le_of_ble_eq_true rfl) rfl (Nat.le_of_ble_eq_true rfl) ⟨Nat.zero_le _, Nat.zero_le _⟩ ?_
          exact ret _ _ _ _ ⟨rfl, _, rfl, by intro g h2 h5 h6; by_cases h0 : g = 0 <;> simp [tellX, upG, up3, up3R, up2, h0, h2, h5, h6]⟩ rfl dX6_sheet_46
        · skip
          have c_33 := bI_1 c_33
          refine J_iload E dX6_sheet_36 0 rfl ?_
          refine J_if_ne E (tgt := 47) dX6_sheet_38 (by decide) (fun c_38 => ?_) (fun c_38 => ?_)
          · skip
            have n_38 : ¬ 1 = 0 := cmp_ne (a := 1) (b := 0) (by omega) (by omega) c_38
            exact absurd ⟨c_33, hw⟩ hb
          · skip
            have n_38 : 1 = 0 := cmp_eq (a := 1) (b := 0) (by omega) (by omega) c_38
            exact absurd n_38 (by decide)
      · skip
        refine J_iload_n E dX6_sheet_16 rfl 2 rfl ?_
        refine J_bipush E dX6_sheet_17 bp_32 ?_
        refine J_icmp_ne E (tgt := 26) dX6_sheet_19 (by decide) (fun c_19 => ?_) (fun c_19 => ?_)
        · skip
          refine J_iconst E dX6_sheet_26 ic_0 ?_
          refine J_istore E (lv' := [(4, .int 0), (0, .ref (b 0)), (1, .int s), (2, .int c), (3, .int n)]) dX6_sheet_27 (by decide) rfl ?_
          refine J_iload_n E dX6_sheet_29 rfl 2 rfl ?_
          refine J_cSiN E (As := [.int s]) (c_X6_isSheet l G s ) cl_X6_303 yo_X6_isSheet dX6_sheet_30 rfl (Nat.le_of_ble_eq_true rfl) (Nat.le_of_ble_eq_true rfl) rfl (Nat.le_of_ble_eq_true rfl) ⟨Nat.zero_le _, Nat.zero_le _⟩ ?_
          refine J_if_eq E (tgt := 41) dX6_sheet_33 (by decide) (fun c_33 => ?_) (fun c_33 => ?_)
          · skip
            have c_33 := bI_0 c_33
            refine J_aload_n E dX6_sheet_41 rfl 1 rfl ?_
            refine J_iconst E dX6_sheet_42 ic_0 ?_
            refine J_cVi0 E (As := [.int 0]) (c_X6_finds l G b y 0 (by omega)) cl_X6_96 yo_X6_finds dX6_sheet_43 rfl rfl rfl (Nat.le_of_ble_eq_true rfl) (Nat.le_of_ble_eq_true rfl) rfl (Nat.le_of_ble_eq_true rfl) ⟨Nat.zero_le _, Nat.zero_le _⟩ ?_
            exact ret _ _ _ _ ⟨rfl, _, rfl, by intro g h2 h5 h6; by_cases h0 : g = 0 <;> simp [tellX, upG, up3, up3R, up2, h0, h2, h5, h6]⟩ rfl dX6_sheet_46
          · skip
            have c_33 := bI_1 c_33
            refine J_iload E dX6_sheet_36 0 rfl ?_
            refine J_if_ne E (tgt := 47) dX6_sheet_38 (by decide) (fun c_38 => ?_) (fun c_38 => ?_)
            · skip
              have n_38 : ¬ 0 = 0 := cmp_ne (a := 0) (b := 0) (by omega) (by omega) c_38
              exact absurd n_38 (by decide)
            · skip
              have n_38 : 0 = 0 := cmp_eq (a := 0) (b := 0) (by omega) (by omega) c_38
              refine J_aload_n E dX6_sheet_41 rfl 1 rfl ?_
              refine J_iconst E dX6_sheet_42 ic_0 ?_
              refine J_cVi0 E (As := [.int 0]) (c_X6_finds l G b y 0 (by omega)) cl_X6_96 yo_X6_finds dX6_sheet_43 rfl rfl rfl (Nat.le_of_ble_eq_true rfl) (Nat.le_of_ble_eq_true rfl) rfl (Nat.le_of_ble_eq_true rfl) ⟨Nat.zero_le _, Nat.zero_le _⟩ ?_
              exact ret _ _ _ _ ⟨rfl, _, rfl, by intro g h2 h5 h6; by_cases h0 : g = 0 <;> simp [tellX, upG, up3, up3R, up2, h0, h2, h5, h6]⟩ rfl dX6_sheet_46
        · skip
          have hw : (c = 0 ∨ c = 8 ∨ c = 16 ∨ c = 32) := Or.inr (Or.inr (Or.inr c_19))
          refine J_iconst E dX6_sheet_22 ic_1 ?_
          refine J_goto E (tgt := 27) dX6_sheet_23 (by decide) ?_
          refine J_istore E (lv' := [(4, .int 1), (0, .ref (b 0)), (1, .int s), (2, .int c), (3, .int n)]) dX6_sheet_27 (by decide) rfl ?_
          refine J_iload_n E dX6_sheet_29 rfl 2 rfl ?_
          refine J_cSiN E (As := [.int s]) (c_X6_isSheet l G s ) cl_X6_303 yo_X6_isSheet dX6_sheet_30 rfl (Nat.le_of_ble_eq_true rfl) (Nat.le_of_ble_eq_true rfl) rfl (Nat.le_of_ble_eq_true rfl) ⟨Nat.zero_le _, Nat.zero_le _⟩ ?_
          refine J_if_eq E (tgt := 41) dX6_sheet_33 (by decide) (fun c_33 => ?_) (fun c_33 => ?_)
          · skip
            have c_33 := bI_0 c_33
            refine J_aload_n E dX6_sheet_41 rfl 1 rfl ?_
            refine J_iconst E dX6_sheet_42 ic_0 ?_
            refine J_cVi0 E (As := [.int 0]) (c_X6_finds l G b y 0 (by omega)) cl_X6_96 yo_X6_finds dX6_sheet_43 rfl rfl rfl (Nat.le_of_ble_eq_true rfl) (Nat.le_of_ble_eq_true rfl) rfl (Nat.le_of_ble_eq_true rfl) ⟨Nat.zero_le _, Nat.zero_le _⟩ ?_
            exact ret _ _ _ _ ⟨rfl, _, rfl, by intro g h2 h5 h6; by_cases h0 : g = 0 <;> simp [tellX, upG, up3, up3R, up2, h0, h2, h5, h6]⟩ rfl dX6_sheet_46
          · skip
            have c_33 := bI_1 c_33
            refine J_iload E dX6_sheet_36 0 rfl ?_
            refine J_if_ne E (tgt := 47) dX6_sheet_38 (by decide) (fun c_38 => ?_) (fun c_38 => ?_)
            · skip
              have n_38 : ¬ 1 = 0 := cmp_ne (a := 1) (b := 0) (by omega) (by omega) c_38
              exact absurd ⟨c_33, hw⟩ hb
            · skip
              have n_38 : 1 = 0 := cmp_eq (a := 1) (b := 0) (by omega) (by omega) c_38
              exact absurd n_38 (by decide)

set_option maxHeartbeats 4000000 in
set_option maxRecDepth 20000 in
theorem c_X6_sheet_size (l : Launch) (G : GB) (b : Nat → Nat) (y : Q3) (s c n : Int32) (hs : 0 ≤ s ∧ s ≤ 3) (hbt : (c = 0 ∨ c = 8 ∨ c = 16 ∨ c = 32)) (hn : n < 0) : CI l yX6_sheet cX6_sheet 6 .int 2 45 G [.ref (b 0), .int s, .int c, .int n] (wM G b y) (fun vR w' => vR = tellR 6 ∧ PubM G b (tellX y 6) w') := by
  refine CI.mk (own := RX6) (by decide) rfl (Nat.le_of_ble_eq_true rfl) ?_
  intro X E ret
  show J X G 6 0 0 (wM G b y) [(0, .ref (b 0)), (1, .int s), (2, .int c), (3, .int n)] 0 []
  refine J_iload_n E dX6_sheet_0 rfl 2 rfl ?_
  refine J_if_eq E (tgt := 22) dX6_sheet_1 (by decide) (fun c_1 => ?_) (fun c_1 => ?_)
  · skip
    refine J_iconst E dX6_sheet_22 ic_1 ?_
    refine J_goto E (tgt := 27) dX6_sheet_23 (by decide) ?_
    refine J_istore E (lv' := [(4, .int 1), (0, .ref (b 0)), (1, .int s), (2, .int c), (3, .int n)]) dX6_sheet_27 (by decide) rfl ?_
    refine J_iload_n E dX6_sheet_29 rfl 2 rfl ?_
    refine J_cSiN E (As := [.int s]) (c_X6_isSheet l G s ) cl_X6_303 yo_X6_isSheet dX6_sheet_30 rfl (Nat.le_of_ble_eq_true rfl) (Nat.le_of_ble_eq_true rfl) rfl (Nat.le_of_ble_eq_true rfl) ⟨Nat.zero_le _, Nat.zero_le _⟩ ?_
    refine J_if_eq E (tgt := 41) dX6_sheet_33 (by decide) (fun c_33 => ?_) (fun c_33 => ?_)
    · skip
      have c_33 := bI_0 c_33
      exact absurd hs c_33
    · skip
      have c_33 := bI_1 c_33
      refine J_iload E dX6_sheet_36 0 rfl ?_
      refine J_if_ne E (tgt := 47) dX6_sheet_38 (by decide) (fun c_38 => ?_) (fun c_38 => ?_)
      · skip
        have n_38 : ¬ 1 = 0 := cmp_ne (a := 1) (b := 0) (by omega) (by omega) c_38
        refine J_iload_n E dX6_sheet_47 rfl 4 rfl ?_
        refine J_if_ge E (tgt := 58) dX6_sheet_48 (by decide) (fun c_48 => ?_) (fun c_48 => ?_)
        · skip
          exact absurd hn (Int32.not_lt.mpr c_48)
        · skip
          refine J_aload_n E dX6_sheet_51 rfl 1 rfl ?_
          refine J_bipush E dX6_sheet_52 bp_6 ?_
          refine J_cVi0 E (As := [.int 6]) (c_X6_finds l G b y 6 (by omega)) cl_X6_96 yo_X6_finds dX6_sheet_54 rfl rfl rfl (Nat.le_of_ble_eq_true rfl) (Nat.le_of_ble_eq_true rfl) rfl (Nat.le_of_ble_eq_true rfl) ⟨Nat.zero_le _, Nat.zero_le _⟩ ?_
          exact ret _ _ _ _ ⟨rfl, _, rfl, by intro g h2 h5 h6; by_cases h0 : g = 0 <;> simp [tellX, upG, up3, up3R, up2, h0, h2, h5, h6]⟩ rfl dX6_sheet_57
      · skip
        have n_38 : 1 = 0 := cmp_eq (a := 1) (b := 0) (by omega) (by omega) c_38
        exact absurd n_38 (by decide)
  · skip
    refine J_iload_n E dX6_sheet_4 rfl 2 rfl ?_
    refine J_bipush E dX6_sheet_5 bp_8 ?_
    refine J_icmp_eq E (tgt := 22) dX6_sheet_7 (by decide) (fun c_7 => ?_) (fun c_7 => ?_)
    · skip
      refine J_iconst E dX6_sheet_22 ic_1 ?_
      refine J_goto E (tgt := 27) dX6_sheet_23 (by decide) ?_
      refine J_istore E (lv' := [(4, .int 1), (0, .ref (b 0)), (1, .int s), (2, .int c), (3, .int n)]) dX6_sheet_27 (by decide) rfl ?_
      refine J_iload_n E dX6_sheet_29 rfl 2 rfl ?_
      refine J_cSiN E (As := [.int s]) (c_X6_isSheet l G s ) cl_X6_303 yo_X6_isSheet dX6_sheet_30 rfl (Nat.le_of_ble_eq_true rfl) (Nat.le_of_ble_eq_true rfl) rfl (Nat.le_of_ble_eq_true rfl) ⟨Nat.zero_le _, Nat.zero_le _⟩ ?_
      refine J_if_eq E (tgt := 41) dX6_sheet_33 (by decide) (fun c_33 => ?_) (fun c_33 => ?_)
      · skip
        have c_33 := bI_0 c_33
        exact absurd hs c_33
      · skip
        have c_33 := bI_1 c_33
        refine J_iload E dX6_sheet_36 0 rfl ?_
        refine J_if_ne E (tgt := 47) dX6_sheet_38 (by decide) (fun c_38 => ?_) (fun c_38 => ?_)
        · skip
          have n_38 : ¬ 1 = 0 := cmp_ne (a := 1) (b := 0) (by omega) (by omega) c_38
          refine J_iload_n E dX6_sheet_47 rfl 4 rfl ?_
          refine J_if_ge E (tgt := 58) dX6_sheet_48 (by decide) (fun c_48 => ?_) (fun c_48 => ?_)
          · skip
            exact absurd hn (Int32.not_lt.mpr c_48)
          · skip
            refine J_aload_n E dX6_sheet_51 rfl 1 rfl ?_
            refine J_bipush E dX6_sheet_52 bp_6 ?_
            refine J_cVi0 E (As := [.int 6]) (c_X6_finds l G b y 6 (by omega)) cl_X6_96 yo_X6_finds dX6_sheet_54 rfl rfl rfl (Nat.le_of_ble_eq_true rfl) (Nat.le_of_ble_eq_true rfl) rfl (Nat.le_of_ble_eq_true rfl) ⟨Nat.zero_le _, Nat.zero_le _⟩ ?_
            exact ret _ _ _ _ ⟨rfl, _, rfl, by intro g h2 h5 h6; by_cases h0 : g = 0 <;> simp [tellX, upG, up3, up3R, up2, h0, h2, h5, h6]⟩ rfl dX6_sheet_57
        · skip
          have n_38 : 1 = 0 := cmp_eq (a := 1) (b := 0) (by omega) (by omega) c_38
          exact absurd n_38 (by decide)
    · skip
      refine J_iload_n E dX6_sheet_10 rfl 2 rfl ?_
      refine J_bipush E dX6_sheet_11 bp_16 ?_
      refine J_icmp_eq E (tgt := 22) dX6_sheet_13 (by decide) (fun c_13 => ?_) (fun c_13 => ?_)
      · skip
        refine J_iconst E dX6_sheet_22 ic_1 ?_
        refine J_goto E (tgt := 27) dX6_sheet_23 (by decide) ?_
        refine J_istore E (lv' := [(4, .int 1), (0, .ref (b 0)), (1, .int s), (2, .int c), (3, .int n)]) dX6_sheet_27 (by decide) rfl ?_
        refine J_iload_n E dX6_sheet_29 rfl 2 rfl ?_
        refine J_cSiN E (As := [.int s]) (c_X6_isSheet l G s ) cl_X6_303 yo_X6_isSheet dX6_sheet_30 rfl (Nat.le_of_ble_eq_true rfl) (Nat.le_of_ble_eq_true rfl) rfl (Nat.le_of_ble_eq_true rfl) ⟨Nat.zero_le _, Nat.zero_le _⟩ ?_
        refine J_if_eq E (tgt := 41) dX6_sheet_33 (by decide) (fun c_33 => ?_) (fun c_33 => ?_)
        · skip
          have c_33 := bI_0 c_33
          exact absurd hs c_33
        · skip
          have c_33 := bI_1 c_33
          refine J_iload E dX6_sheet_36 0 rfl ?_
          refine J_if_ne E (tgt := 47) dX6_sheet_38 (by decide) (fun c_38 => ?_) (fun c_38 => ?_)
          · skip
            have n_38 : ¬ 1 = 0 := cmp_ne (a := 1) (b := 0) (by omega) (by omega) c_38
            refine J_iload_n E dX6_sheet_47 rfl 4 rfl ?_
            refine J_if_ge E (tgt := 58) dX6_sheet_48 (by decide) (fun c_48 => ?_) (fun c_48 => ?_)
            · skip
              exact absurd hn (Int32.not_lt.mpr c_48)
            · skip
              refine J_aload_n E dX6_sheet_51 rfl 1 rfl ?_
              refine J_bipush E dX6_sheet_52 bp_6 ?_
              refine J_cVi0 E (As := [.int 6]) (c_X6_finds l G b y 6 (by omega)) cl_X6_96 yo_X6_finds dX6_sheet_54 rfl rfl rfl (Nat.le_of_ble_eq_true rfl) (Nat.le_of_ble_eq_true rfl) rfl (Nat.le_of_ble_eq_true rfl) ⟨Nat.zero_le _, Nat.zero_le _⟩ ?_
              exact ret _ _ _ _ ⟨rfl, _, rfl, by intro g h2 h5 h6; by_cases h0 : g = 0 <;> simp [tellX, upG, up3, up3R, up2, h0, h2, h5, h6]⟩ rfl dX6_sheet_57
          · skip
            have n_38 : 1 = 0 := cmp_eq (a := 1) (b := 0) (by omega) (by omega) c_38
            exact absurd n_38 (by decide)
      · skip
        refine J_iload_n E dX6_sheet_16 rfl 2 rfl ?_
        refine J_bipush E dX6_sheet_17 bp_32 ?_
        refine J_icmp_ne E (tgt := 26) dX6_sheet_19 (by decide) (fun c_19 => ?_) (fun c_19 => ?_)
        · skip
          exact absurd hbt (fun z => z.elim c_1 (fun z => z.elim c_7 (fun z => z.elim c_13 c_19)))
        · skip
          refine J_iconst E dX6_sheet_22 ic_1 ?_
          refine J_goto E (tgt := 27) dX6_sheet_23 (by decide) ?_
          refine J_istore E (lv' := [(4, .int 1), (0, .ref (b 0)), (1, .int s), (2, .int c), (3, .int n)]) dX6_sheet_27 (by decide) rfl ?_
          refine J_iload_n E dX6_sheet_29 rfl 2 rfl ?_
          refine J_cSiN E (As := [.int s]) (c_X6_isSheet l G s ) cl_X6_303 yo_X6_isSheet dX6_sheet_30 rfl (Nat.le_of_ble_eq_true rfl) (Nat.le_of_ble_eq_true rfl) rfl (Nat.le_of_ble_eq_true rfl) ⟨Nat.zero_le _, Nat.zero_le _⟩ ?_
          refine J_if_eq E (tgt := 41) dX6_sheet_33 (by decide) (fun c_33 => ?_) (fun c_33 => ?_)
          · skip
            have c_33 := bI_0 c_33
            exact absurd hs c_33
          · skip
            have c_33 := bI_1 c_33
            refine J_iload E dX6_sheet_36 0 rfl ?_
            refine J_if_ne E (tgt := 47) dX6_sheet_38 (by decide) (fun c_38 => ?_) (fun c_38 => ?_)
            · skip
              have n_38 : ¬ 1 = 0 := cmp_ne (a := 1) (b := 0) (by omega) (by omega) c_38
              refine J_iload_n E dX6_sheet_47 rfl 4 rfl ?_
              refine J_if_ge E (tgt := 58) dX6_sheet_48 (by decide) (fun c_48 => ?_) (fun c_48 => ?_)
              · skip
                exact absurd hn (Int32.not_lt.mpr c_48)
              · skip
                refine J_aload_n E dX6_sheet_51 rfl 1 rfl ?_
                refine J_bipush E dX6_sheet_52 bp_6 ?_
                refine J_cVi0 E (As := [.int 6]) (c_X6_finds l G b y 6 (by omega)) cl_X6_96 yo_X6_finds dX6_sheet_54 rfl rfl rfl (Nat.le_of_ble_eq_true rfl) (Nat.le_of_ble_eq_true rfl) rfl (Nat.le_of_ble_eq_true rfl) ⟨Nat.zero_le _, Nat.zero_le _⟩ ?_
                exact ret _ _ _ _ ⟨rfl, _, rfl, by intro g h2 h5 h6; by_cases h0 : g = 0 <;> simp [tellX, upG, up3, up3R, up2, h0, h2, h5, h6]⟩ rfl dX6_sheet_57
            · skip
              have n_38 : 1 = 0 := cmp_eq (a := 1) (b := 0) (by omega) (by omega) c_38
              exact absurd n_38 (by decide)

set_option maxHeartbeats 4000000 in
set_option maxRecDepth 20000 in
theorem c_X6_sheet_big (l : Launch) (G : GB) (b : Nat → Nat) (y : Q3) (s c n : Int32) (hs : 0 ≤ s ∧ s ≤ 3) (hbt : (c = 0 ∨ c = 8 ∨ c = 16 ∨ c = 32)) (hn : ¬ n < 0) (hn2 : ¬ n ≤ 40) : CI l yX6_sheet cX6_sheet 6 .int 2 45 G [.ref (b 0), .int s, .int c, .int n] (wM G b y) (fun vR w' => vR = tellR 0 ∧ PubM G b (tellX y 0) w') := by
  refine CI.mk (own := RX6) (by decide) rfl (Nat.le_of_ble_eq_true rfl) ?_
  intro X E ret
  show J X G 6 0 0 (wM G b y) [(0, .ref (b 0)), (1, .int s), (2, .int c), (3, .int n)] 0 []
  refine J_iload_n E dX6_sheet_0 rfl 2 rfl ?_
  refine J_if_eq E (tgt := 22) dX6_sheet_1 (by decide) (fun c_1 => ?_) (fun c_1 => ?_)
  · skip
    refine J_iconst E dX6_sheet_22 ic_1 ?_
    refine J_goto E (tgt := 27) dX6_sheet_23 (by decide) ?_
    refine J_istore E (lv' := [(4, .int 1), (0, .ref (b 0)), (1, .int s), (2, .int c), (3, .int n)]) dX6_sheet_27 (by decide) rfl ?_
    refine J_iload_n E dX6_sheet_29 rfl 2 rfl ?_
    refine J_cSiN E (As := [.int s]) (c_X6_isSheet l G s ) cl_X6_303 yo_X6_isSheet dX6_sheet_30 rfl (Nat.le_of_ble_eq_true rfl) (Nat.le_of_ble_eq_true rfl) rfl (Nat.le_of_ble_eq_true rfl) ⟨Nat.zero_le _, Nat.zero_le _⟩ ?_
    refine J_if_eq E (tgt := 41) dX6_sheet_33 (by decide) (fun c_33 => ?_) (fun c_33 => ?_)
    · skip
      have c_33 := bI_0 c_33
      exact absurd hs c_33
    · skip
      have c_33 := bI_1 c_33
      refine J_iload E dX6_sheet_36 0 rfl ?_
      refine J_if_ne E (tgt := 47) dX6_sheet_38 (by decide) (fun c_38 => ?_) (fun c_38 => ?_)
      · skip
        have n_38 : ¬ 1 = 0 := cmp_ne (a := 1) (b := 0) (by omega) (by omega) c_38
        refine J_iload_n E dX6_sheet_47 rfl 4 rfl ?_
        refine J_if_ge E (tgt := 58) dX6_sheet_48 (by decide) (fun c_48 => ?_) (fun c_48 => ?_)
        · skip
          refine J_iload_n E dX6_sheet_58 rfl 4 rfl ?_
          refine J_bipush E dX6_sheet_59 bp_40 ?_
          refine J_icmp_le E (tgt := 70) dX6_sheet_61 (by decide) (fun c_61 => ?_) (fun c_61 => ?_)
          · skip
            exact absurd c_61 hn2
          · skip
            refine J_aload_n E dX6_sheet_64 rfl 1 rfl ?_
            refine J_iconst E dX6_sheet_65 ic_0 ?_
            refine J_cVi0 E (As := [.int 0]) (c_X6_finds l G b y 0 (by omega)) cl_X6_96 yo_X6_finds dX6_sheet_66 rfl rfl rfl (Nat.le_of_ble_eq_true rfl) (Nat.le_of_ble_eq_true rfl) rfl (Nat.le_of_ble_eq_true rfl) ⟨Nat.zero_le _, Nat.zero_le _⟩ ?_
            exact ret _ _ _ _ ⟨rfl, _, rfl, by intro g h2 h5 h6; by_cases h0 : g = 0 <;> simp [tellX, upG, up3, up3R, up2, h0, h2, h5, h6]⟩ rfl dX6_sheet_69
        · skip
          exact absurd (Int32.not_le.mp c_48) hn
      · skip
        have n_38 : 1 = 0 := cmp_eq (a := 1) (b := 0) (by omega) (by omega) c_38
        exact absurd n_38 (by decide)
  · skip
    refine J_iload_n E dX6_sheet_4 rfl 2 rfl ?_
    refine J_bipush E dX6_sheet_5 bp_8 ?_
    refine J_icmp_eq E (tgt := 22) dX6_sheet_7 (by decide) (fun c_7 => ?_) (fun c_7 => ?_)
    · skip
      refine J_iconst E dX6_sheet_22 ic_1 ?_
      refine J_goto E (tgt := 27) dX6_sheet_23 (by decide) ?_
      refine J_istore E (lv' := [(4, .int 1), (0, .ref (b 0)), (1, .int s), (2, .int c), (3, .int n)]) dX6_sheet_27 (by decide) rfl ?_
      refine J_iload_n E dX6_sheet_29 rfl 2 rfl ?_
      refine J_cSiN E (As := [.int s]) (c_X6_isSheet l G s ) cl_X6_303 yo_X6_isSheet dX6_sheet_30 rfl (Nat.le_of_ble_eq_true rfl) (Nat.le_of_ble_eq_true rfl) rfl (Nat.le_of_ble_eq_true rfl) ⟨Nat.zero_le _, Nat.zero_le _⟩ ?_
      refine J_if_eq E (tgt := 41) dX6_sheet_33 (by decide) (fun c_33 => ?_) (fun c_33 => ?_)
      · skip
        have c_33 := bI_0 c_33
        exact absurd hs c_33
      · skip
        have c_33 := bI_1 c_33
        refine J_iload E dX6_sheet_36 0 rfl ?_
        refine J_if_ne E (tgt := 47) dX6_sheet_38 (by decide) (fun c_38 => ?_) (fun c_38 => ?_)
        · skip
          have n_38 : ¬ 1 = 0 := cmp_ne (a := 1) (b := 0) (by omega) (by omega) c_38
          refine J_iload_n E dX6_sheet_47 rfl 4 rfl ?_
          refine J_if_ge E (tgt := 58) dX6_sheet_48 (by decide) (fun c_48 => ?_) (fun c_48 => ?_)
          · skip
            refine J_iload_n E dX6_sheet_58 rfl 4 rfl ?_
            refine J_bipush E dX6_sheet_59 bp_40 ?_
            refine J_icmp_le E (tgt := 70) dX6_sheet_61 (by decide) (fun c_61 => ?_) (fun c_61 => ?_)
            · skip
              exact absurd c_61 hn2
            · skip
              refine J_aload_n E dX6_sheet_64 rfl 1 rfl ?_
              refine J_iconst E dX6_sheet_65 ic_0 ?_
              refine J_cVi0 E (As := [.int 0]) (c_X6_finds l G b y 0 (by omega)) cl_X6_96 yo_X6_finds dX6_sheet_66 rfl rfl rfl (Nat.le_of_ble_eq_true rfl) (Nat.le_of_ble_eq_true rfl) rfl (Nat.le_of_ble_eq_true rfl) ⟨Nat.zero_le _, Nat.zero_le _⟩ ?_
              exact ret _ _ _ _ ⟨rfl, _, rfl, by intro g h2 h5 h6; by_cases h0 : g = 0 <;> simp [tellX, upG, up3, up3R, up2, h0, h2, h5, h6]⟩ rfl dX6_sheet_69
          · skip
            exact absurd (Int32.not_le.mp c_48) hn
        · skip
          have n_38 : 1 = 0 := cmp_eq (a := 1) (b := 0) (by omega) (by omega) c_38
          exact absurd n_38 (by decide)
    · skip
      refine J_iload_n E dX6_sheet_10 rfl 2 rfl ?_
      refine J_bipush E dX6_sheet_11 bp_16 ?_
      refine J_icmp_eq E (tgt := 22) dX6_sheet_13 (by decide) (fun c_13 => ?_) (fun c_13 => ?_)
      · skip
        refine J_iconst E dX6_sheet_22 ic_1 ?_
        refine J_goto E (tgt := 27) dX6_sheet_23 (by decide) ?_
        refine J_istore E (lv' := [(4, .int 1), (0, .ref (b 0)), (1, .int s), (2, .int c), (3, .int n)]) dX6_sheet_27 (by decide) rfl ?_
        refine J_iload_n E dX6_sheet_29 rfl 2 rfl ?_
        refine J_cSiN E (As := [.int s]) (c_X6_isSheet l G s ) cl_X6_303 yo_X6_isSheet dX6_sheet_30 rfl (Nat.le_of_ble_eq_true rfl) (Nat.le_of_ble_eq_true rfl) rfl (Nat.le_of_ble_eq_true rfl) ⟨Nat.zero_le _, Nat.zero_le _⟩ ?_
        refine J_if_eq E (tgt := 41) dX6_sheet_33 (by decide) (fun c_33 => ?_) (fun c_33 => ?_)
        · skip
          have c_33 := bI_0 c_33
          exact absurd hs c_33
        · skip
          have c_33 := bI_1 c_33
          refine J_iload E dX6_sheet_36 0 rfl ?_
          refine J_if_ne E (tgt := 47) dX6_sheet_38 (by decide) (fun c_38 => ?_) (fun c_38 => ?_)
          · skip
            have n_38 : ¬ 1 = 0 := cmp_ne (a := 1) (b := 0) (by omega) (by omega) c_38
            refine J_iload_n E dX6_sheet_47 rfl 4 rfl ?_
            refine J_if_ge E (tgt := 58) dX6_sheet_48 (by decide) (fun c_48 => ?_) (fun c_48 => ?_)
            · skip
              refine J_iload_n E dX6_sheet_58 rfl 4 rfl ?_
              refine J_bipush E dX6_sheet_59 bp_40 ?_
              refine J_icmp_le E (tgt := 70) dX6_sheet_61 (by decide) (fun c_61 => ?_) (fun c_61 => ?_)
              · skip
                exact absurd c_61 hn2
              · skip
                refine J_aload_n E dX6_sheet_64 rfl 1 rfl ?_
                refine J_iconst E dX6_sheet_65 ic_0 ?_
                refine J_cVi0 E (As := [.int 0]) (c_X6_finds l G b y 0 (by omega)) cl_X6_96 yo_X6_finds dX6_sheet_66 rfl rfl rfl (Nat.le_of_ble_eq_true rfl) (Nat.le_of_ble_eq_true rfl) rfl (Nat.le_of_ble_eq_true rfl) ⟨Nat.zero_le _, Nat.zero_le _⟩ ?_
                exact ret _ _ _ _ ⟨rfl, _, rfl, by intro g h2 h5 h6; by_cases h0 : g = 0 <;> simp [tellX, upG, up3, up3R, up2, h0, h2, h5, h6]⟩ rfl dX6_sheet_69
            · skip
              exact absurd (Int32.not_le.mp c_48) hn
          · skip
            have n_38 : 1 = 0 := cmp_eq (a := 1) (b := 0) (by omega) (by omega) c_38
            exact absurd n_38 (by decide)
      · skip
        refine J_iload_n E dX6_sheet_16 rfl 2 rfl ?_
        refine J_bipush E dX6_sheet_17 bp_32 ?_
        refine J_icmp_ne E (tgt := 26) dX6_sheet_19 (by decide) (fun c_19 => ?_) (fun c_19 => ?_)
        · skip
          exact absurd hbt (fun z => z.elim c_1 (fun z => z.elim c_7 (fun z => z.elim c_13 c_19)))
        · skip
          refine J_iconst E dX6_sheet_22 ic_1 ?_
          refine J_goto E (tgt := 27) dX6_sheet_23 (by decide) ?_
          refine J_istore E (lv' := [(4, .int 1), (0, .ref (b 0)), (1, .int s), (2, .int c), (3, .int n)]) dX6_sheet_27 (by decide) rfl ?_
          refine J_iload_n E dX6_sheet_29 rfl 2 rfl ?_
          refine J_cSiN E (As := [.int s]) (c_X6_isSheet l G s ) cl_X6_303 yo_X6_isSheet dX6_sheet_30 rfl (Nat.le_of_ble_eq_true rfl) (Nat.le_of_ble_eq_true rfl) rfl (Nat.le_of_ble_eq_true rfl) ⟨Nat.zero_le _, Nat.zero_le _⟩ ?_
          refine J_if_eq E (tgt := 41) dX6_sheet_33 (by decide) (fun c_33 => ?_) (fun c_33 => ?_)
          · skip
            have c_33 := bI_0 c_33
            exact absurd hs c_33
          · skip
            have c_33 := bI_1 c_33
            refine J_iload E dX6_sheet_36 0 rfl ?_
            refine J_if_ne E (tgt := 47) dX6_sheet_38 (by decide) (fun c_38 => ?_) (fun c_38 => ?_)
            · skip
              have n_38 : ¬ 1 = 0 := cmp_ne (a := 1) (b := 0) (by omega) (by omega) c_38
              refine J_iload_n E dX6_sheet_47 rfl 4 rfl ?_
              refine J_if_ge E (tgt := 58) dX6_sheet_48 (by decide) (fun c_48 => ?_) (fun c_48 => ?_)
              · skip
                refine J_iload_n E dX6_sheet_58 rfl 4 rfl ?_
                refine J_bipush E dX6_sheet_59 bp_40 ?_
                refine J_icmp_le E (tgt := 70) dX6_sheet_61 (by decide) (fun c_61 => ?_) (fun c_61 => ?_)
                · skip
                  exact absurd c_61 hn2
                · skip
                  refine J_aload_n E dX6_sheet_64 rfl 1 rfl ?_
                  refine J_iconst E dX6_sheet_65 ic_0 ?_
                  refine J_cVi0 E (As := [.int 0]) (c_X6_finds l G b y 0 (by omega)) cl_X6_96 yo_X6_finds dX6_sheet_66 rfl rfl rfl (Nat.le_of_ble_eq_true rfl) (Nat.le_of_ble_eq_true rfl) rfl (Nat.le_of_ble_eq_true rfl) ⟨Nat.zero_le _, Nat.zero_le _⟩ ?_
                  exact ret _ _ _ _ ⟨rfl, _, rfl, by intro g h2 h5 h6; by_cases h0 : g = 0 <;> simp [tellX, upG, up3, up3R, up2, h0, h2, h5, h6]⟩ rfl dX6_sheet_69
              · skip
                exact absurd (Int32.not_le.mp c_48) hn
            · skip
              have n_38 : 1 = 0 := cmp_eq (a := 1) (b := 0) (by omega) (by omega) c_38
              exact absurd n_38 (by decide)

set_option maxHeartbeats 4000000 in
set_option maxRecDepth 20000 in
theorem c_X6_sheet_ok_0 (l : Launch) (G : GB) (b : Nat → Nat) (y : Q3) (c n : Int32) (hbt : (c = 0 ∨ c = 8 ∨ c = 16 ∨ c = 32)) (hn : ¬ n < 0) (hn2 : n ≤ 40) : CI l yX6_sheet cX6_sheet 6 .int 2 45 G [.ref (b 0), .int (nI 0), .int c, .int n] (wM G b y) (fun vR w' => vR = (if c = 0 then 0 else n) ∧ PubM G b (upG y 8 (beginS (y 8) c (if c = 0 then 0 else n))) w') := by
  refine CI.mk (own := RX6) (by decide) rfl (Nat.le_of_ble_eq_true rfl) ?_
  intro X E ret
  show J X G 6 0 0 (wM G b y) [(0, .ref (b 0)), (1, .int (nI 0)), (2, .int c), (3, .int n)] 0 []
  rcases hbt with rfl | rfl | rfl | rfl
  · skip
    refine J_iload_n E dX6_sheet_0 rfl 2 rfl ?_
    refine J_if_eq E (tgt := 22) dX6_sheet_1 (by decide) (fun c_1 => ?_) (fun c_1 => ?_)
    · skip
      have n_1 : 0 = 0 := cmp_eq (a := 0) (b := 0) (by omega) (by omega) c_1
      refine J_iconst E dX6_sheet_22 ic_1 ?_
      refine J_goto E (tgt := 27) dX6_sheet_23 (by decide) ?_
      refine J_istore E (lv' := [(4, .int 1), (0, .ref (b 0)), (1, .int (nI 0)), (2, .int 0), (3, .int n)]) dX6_sheet_27 (by decide) rfl ?_
      refine J_iload_n E dX6_sheet_29 rfl 2 rfl ?_
      refine J_cSiN E (As := [.int (nI 0)]) (c_X6_isSheet l G (nI 0) ) cl_X6_303 yo_X6_isSheet dX6_sheet_30 rfl (Nat.le_of_ble_eq_true rfl) (Nat.le_of_ble_eq_true rfl) rfl (Nat.le_of_ble_eq_true rfl) ⟨Nat.zero_le _, Nat.zero_le _⟩ ?_
      refine J_if_eq E (tgt := 41) dX6_sheet_33 (by decide) (fun c_33 => ?_) (fun c_33 => ?_)
      · skip
        have c_33 := bI_0 c_33
        exact absurd (in3 (by decide)) c_33
      · skip
        have c_33 := bI_1 c_33
        refine J_iload E dX6_sheet_36 0 rfl ?_
        refine J_if_ne E (tgt := 47) dX6_sheet_38 (by decide) (fun c_38 => ?_) (fun c_38 => ?_)
        · skip
          have n_38 : ¬ 1 = 0 := cmp_ne (a := 1) (b := 0) (by omega) (by omega) c_38
          refine J_iload_n E dX6_sheet_47 rfl 4 rfl ?_
          refine J_if_ge E (tgt := 58) dX6_sheet_48 (by decide) (fun c_48 => ?_) (fun c_48 => ?_)
          · skip
            refine J_iload_n E dX6_sheet_58 rfl 4 rfl ?_
            refine J_bipush E dX6_sheet_59 bp_40 ?_
            refine J_icmp_le E (tgt := 70) dX6_sheet_61 (by decide) (fun c_61 => ?_) (fun c_61 => ?_)
            · skip
              refine J_aload_n E dX6_sheet_70 rfl 1 rfl ?_
              refine gM0_X6_31 E dX6_sheet_71 ?_
              refine J_iload_n E dX6_sheet_74 rfl 2 rfl ?_
              refine J_iload_n E dX6_sheet_75 rfl 3 rfl ?_
              refine sMb_0 E  dX6_sheet_76 ?_
              refine J_aload_n E dX6_sheet_77 rfl 1 rfl ?_
              refine gM0_X6_34 E dX6_sheet_78 ?_
              refine J_iload_n E dX6_sheet_81 rfl 2 rfl ?_
              refine J_iload_n E dX6_sheet_82 rfl 3 rfl ?_
              refine J_if_ne E (tgt := 90) dX6_sheet_83 (by decide) (fun c_83 => ?_) (fun c_83 => ?_)
              · skip
                have n_83 : ¬ 0 = 0 := cmp_ne (a := 0) (b := 0) (by omega) (by omega) c_83
                exact absurd n_83 (by decide)
              · skip
                have n_83 : 0 = 0 := cmp_eq (a := 0) (b := 0) (by omega) (by omega) c_83
                refine J_iconst E dX6_sheet_86 ic_0 ?_
                refine J_goto E (tgt := 91) dX6_sheet_87 (by decide) ?_
                refine sMz_0 E  dX6_sheet_91 ?_
                refine J_iconst E dX6_sheet_92 ic_0 ?_
                refine J_istore E (lv' := [(5, .int 0), (4, .int 1), (0, .ref (b 0)), (1, .int (nI 0)), (2, .int 0), (3, .int n)]) dX6_sheet_93 (by decide) rfl ?_
                have lp95 : ∀ (fu : Nat) (i : Nat) (r : Q2), (i ≤ 40) → (r = upR ((up3 (up3 y 8 1 0 0) 8 1 1 0) 8) 0 (fillF (y 8 0) 0 i)) → 40 - i < fu → J X G 6 0 0 (wM G b (upG y 8 r)) [(0, .ref (b 0)), (1, .int (nI 0)), (2, .int 0), (3, .int n), (5, .int (nI i))] 95 [] := by
                  intro fu
                  induction fu with
                  | zero => intro i r hi hr hm; exact absurd hm (Nat.not_lt_zero _)
                  | succ fu ih95 =>
                    intro i r hi hr hm
                    refine J_iload E dX6_sheet_95 4 rfl ?_
                    refine J_bipush E dX6_sheet_97 bp_40 ?_
                    refine J_icmp_ge E (tgt := 121) dX6_sheet_99 (by decide) (fun c_99 => ?_) (fun c_99 => ?_)
                    · skip
                      have n_99 : 40 ≤ i := cmp_le (a := 40) (b := i) (by omega) (by omega) c_99
                      refine J_aload_n E dX6_sheet_121 rfl 0 rfl ?_
                      refine gM0_X6_34 E dX6_sheet_122 ?_
                      refine J_iload_n E dX6_sheet_125 rfl 1 rfl ?_
                      refine lMz_0 E  dX6_sheet_126 ?_
                      refine J_top (x' := r 1 1) upG_s ?_
                      refine J_mr8 (f := fun _ => 0) (fun j hj => by rw [hr, show i = 40 by omega]; exact fillF_lt _ _ 40 j hj) ?_
                      exact ret _ _ _ _ ⟨by rw [hr]; rfl, _, rfl, by rw [hr, upR_upR]; exact ShM.rfl'⟩ rfl dX6_sheet_127
                    · skip
                      have n_99 : ¬ 40 ≤ i := cmp_nle (a := 40) (b := i) (by omega) (by omega) c_99
                      refine J_aload_n E dX6_sheet_102 rfl 0 rfl ?_
                      refine gM0_X6_37 E dX6_sheet_103 ?_
                      refine J_bipush E dX6_sheet_106 bp_40 ?_
                      refine J_iload_n E dX6_sheet_108 rfl 1 rfl ?_
                      refine J_imul E dX6_sheet_109 ?_
                      refine J_top (x' := nI 0) (by decide) ?_
                      refine J_iload E dX6_sheet_110 4 rfl ?_
                      refine J_iadd E dX6_sheet_112 ?_
                      refine J_top (x' := nI (0 + i)) (nI_add 0 i) ?_
                      refine J_iconst E dX6_sheet_113 ic_0 ?_
                      refine sMn_0 E (j := (0 + i)) (i := i) rfl (by omega) dX6_sheet_114 ?_
                      refine J_iinc E (lv' := [(5, .int (nI (i + 1))), (0, .ref (b 0)), (1, .int (nI 0)), (2, .int 0), (3, .int n)]) dX6_sheet_115 4 rfl (nI_inc _) (by decide) rfl ?_
                      refine J_goto E (tgt := 95) dX6_sheet_118 (by decide) ?_
                      refine J_lv [1, 2, 3, 4, 0] rfl ?_
                      exact ih95 (i + 1) ((up3 (upG y 8 r) 8 0 i 0) 8) (by omega) (by rw [hr]; exact up2_upR) (by omega)
                refine J_lv [2, 3, 4, 5, 0] rfl ?_
                exact lp95 _ 0 ((up3 (up3 y 8 1 0 0) 8 1 1 0) 8) (by omega) (upR_id (r := 0)).symm (Nat.lt_succ_self _)
            · skip
              exact absurd hn2 c_61
          · skip
            exact absurd (Int32.not_le.mp c_48) hn
        · skip
          have n_38 : 1 = 0 := cmp_eq (a := 1) (b := 0) (by omega) (by omega) c_38
          exact absurd n_38 (by decide)
    · skip
      have n_1 : ¬ 0 = 0 := cmp_ne (a := 0) (b := 0) (by omega) (by omega) c_1
      exact absurd n_1 (by decide)
  · skip
    refine J_iload_n E dX6_sheet_0 rfl 2 rfl ?_
    refine J_if_eq E (tgt := 22) dX6_sheet_1 (by decide) (fun c_1 => ?_) (fun c_1 => ?_)
    · skip
      have n_1 : 8 = 0 := cmp_eq (a := 8) (b := 0) (by omega) (by omega) c_1
      exact absurd n_1 (by decide)
    · skip
      have n_1 : ¬ 8 = 0 := cmp_ne (a := 8) (b := 0) (by omega) (by omega) c_1
      refine J_iload_n E dX6_sheet_4 rfl 2 rfl ?_
      refine J_bipush E dX6_sheet_5 bp_8 ?_
      refine J_icmp_eq E (tgt := 22) dX6_sheet_7 (by decide) (fun c_7 => ?_) (fun c_7 => ?_)
      · skip
        have n_7 : 8 = 8 := cmp_eq (a := 8) (b := 8) (by omega) (by omega) c_7
        refine J_iconst E dX6_sheet_22 ic_1 ?_
        refine J_goto E (tgt := 27) dX6_sheet_23 (by decide) ?_
        refine J_istore E (lv' := [(4, .int 1), (0, .ref (b 0)), (1, .int (nI 0)), (2, .int 8), (3, .int n)]) dX6_sheet_27 (by decide) rfl ?_
        refine J_iload_n E dX6_sheet_29 rfl 2 rfl ?_
        refine J_cSiN E (As := [.int (nI 0)]) (c_X6_isSheet l G (nI 0) ) cl_X6_303 yo_X6_isSheet dX6_sheet_30 rfl (Nat.le_of_ble_eq_true rfl) (Nat.le_of_ble_eq_true rfl) rfl (Nat.le_of_ble_eq_true rfl) ⟨Nat.zero_le _, Nat.zero_le _⟩ ?_
        refine J_if_eq E (tgt := 41) dX6_sheet_33 (by decide) (fun c_33 => ?_) (fun c_33 => ?_)
        · skip
          have c_33 := bI_0 c_33
          exact absurd (in3 (by decide)) c_33
        · skip
          have c_33 := bI_1 c_33
          refine J_iload E dX6_sheet_36 0 rfl ?_
          refine J_if_ne E (tgt := 47) dX6_sheet_38 (by decide) (fun c_38 => ?_) (fun c_38 => ?_)
          · skip
            have n_38 : ¬ 1 = 0 := cmp_ne (a := 1) (b := 0) (by omega) (by omega) c_38
            refine J_iload_n E dX6_sheet_47 rfl 4 rfl ?_
            refine J_if_ge E (tgt := 58) dX6_sheet_48 (by decide) (fun c_48 => ?_) (fun c_48 => ?_)
            · skip
              refine J_iload_n E dX6_sheet_58 rfl 4 rfl ?_
              refine J_bipush E dX6_sheet_59 bp_40 ?_
              refine J_icmp_le E (tgt := 70) dX6_sheet_61 (by decide) (fun c_61 => ?_) (fun c_61 => ?_)
              · skip
                refine J_aload_n E dX6_sheet_70 rfl 1 rfl ?_
                refine gM0_X6_31 E dX6_sheet_71 ?_
                refine J_iload_n E dX6_sheet_74 rfl 2 rfl ?_
                refine J_iload_n E dX6_sheet_75 rfl 3 rfl ?_
                refine sMb_0 E  dX6_sheet_76 ?_
                refine J_aload_n E dX6_sheet_77 rfl 1 rfl ?_
                refine gM0_X6_34 E dX6_sheet_78 ?_
                refine J_iload_n E dX6_sheet_81 rfl 2 rfl ?_
                refine J_iload_n E dX6_sheet_82 rfl 3 rfl ?_
                refine J_if_ne E (tgt := 90) dX6_sheet_83 (by decide) (fun c_83 => ?_) (fun c_83 => ?_)
                · skip
                  have n_83 : ¬ 8 = 0 := cmp_ne (a := 8) (b := 0) (by omega) (by omega) c_83
                  refine J_iload_n E dX6_sheet_90 rfl 4 rfl ?_
                  refine sMz_0 E  dX6_sheet_91 ?_
                  refine J_iconst E dX6_sheet_92 ic_0 ?_
                  refine J_istore E (lv' := [(5, .int 0), (4, .int 1), (0, .ref (b 0)), (1, .int (nI 0)), (2, .int 8), (3, .int n)]) dX6_sheet_93 (by decide) rfl ?_
                  have lp95 : ∀ (fu : Nat) (i : Nat) (r : Q2), (i ≤ 40) → (r = upR ((up3 (up3 y 8 1 0 8) 8 1 1 n) 8) 0 (fillF (y 8 0) 0 i)) → 40 - i < fu → J X G 6 0 0 (wM G b (upG y 8 r)) [(0, .ref (b 0)), (1, .int (nI 0)), (2, .int 8), (3, .int n), (5, .int (nI i))] 95 [] := by
                    intro fu
                    induction fu with
                    | zero => intro i r hi hr hm; exact absurd hm (Nat.not_lt_zero _)
                    | succ fu ih95 =>
                      intro i r hi hr hm
                      refine J_iload E dX6_sheet_95 4 rfl ?_
                      refine J_bipush E dX6_sheet_97 bp_40 ?_
                      refine J_icmp_ge E (tgt := 121) dX6_sheet_99 (by decide) (fun c_99 => ?_) (fun c_99 => ?_)
                      · skip
                        have n_99 : 40 ≤ i := cmp_le (a := 40) (b := i) (by omega) (by omega) c_99
                        refine J_aload_n E dX6_sheet_121 rfl 0 rfl ?_
                        refine gM0_X6_34 E dX6_sheet_122 ?_
                        refine J_iload_n E dX6_sheet_125 rfl 1 rfl ?_
                        refine lMz_0 E  dX6_sheet_126 ?_
                        refine J_top (x' := r 1 1) upG_s ?_
                        refine J_mr8 (f := fun _ => 0) (fun j hj => by rw [hr, show i = 40 by omega]; exact fillF_lt _ _ 40 j hj) ?_
                        exact ret _ _ _ _ ⟨by rw [hr]; rfl, _, rfl, by rw [hr, upR_upR]; exact ShM.rfl'⟩ rfl dX6_sheet_127
                      · skip
                        have n_99 : ¬ 40 ≤ i := cmp_nle (a := 40) (b := i) (by omega) (by omega) c_99
                        refine J_aload_n E dX6_sheet_102 rfl 0 rfl ?_
                        refine gM0_X6_37 E dX6_sheet_103 ?_
                        refine J_bipush E dX6_sheet_106 bp_40 ?_
                        refine J_iload_n E dX6_sheet_108 rfl 1 rfl ?_
                        refine J_imul E dX6_sheet_109 ?_
                        refine J_top (x' := nI 0) (by decide) ?_
                        refine J_iload E dX6_sheet_110 4 rfl ?_
                        refine J_iadd E dX6_sheet_112 ?_
                        refine J_top (x' := nI (0 + i)) (nI_add 0 i) ?_
                        refine J_iconst E dX6_sheet_113 ic_0 ?_
                        refine sMn_0 E (j := (0 + i)) (i := i) rfl (by omega) dX6_sheet_114 ?_
                        refine J_iinc E (lv' := [(5, .int (nI (i + 1))), (0, .ref (b 0)), (1, .int (nI 0)), (2, .int 8), (3, .int n)]) dX6_sheet_115 4 rfl (nI_inc _) (by decide) rfl ?_
                        refine J_goto E (tgt := 95) dX6_sheet_118 (by decide) ?_
                        refine J_lv [1, 2, 3, 4, 0] rfl ?_
                        exact ih95 (i + 1) ((up3 (upG y 8 r) 8 0 i 0) 8) (by omega) (by rw [hr]; exact up2_upR) (by omega)
                  refine J_lv [2, 3, 4, 5, 0] rfl ?_
                  exact lp95 _ 0 ((up3 (up3 y 8 1 0 8) 8 1 1 n) 8) (by omega) (upR_id (r := 0)).symm (Nat.lt_succ_self _)
                · skip
                  have n_83 : 8 = 0 := cmp_eq (a := 8) (b := 0) (by omega) (by omega) c_83
                  exact absurd n_83 (by decide)
              · skip
                exact absurd hn2 c_61
            · skip
              exact absurd (Int32.not_le.mp c_48) hn
          · skip
            have n_38 : 1 = 0 := cmp_eq (a := 1) (b := 0) (by omega) (by omega) c_38
            exact absurd n_38 (by decide)
      · skip
        have n_7 : ¬ 8 = 8 := cmp_ne (a := 8) (b := 8) (by omega) (by omega) c_7
        exact absurd n_7 (by decide)
  · skip
    refine J_iload_n E dX6_sheet_0 rfl 2 rfl ?_
    refine J_if_eq E (tgt := 22) dX6_sheet_1 (by decide) (fun c_1 => ?_) (fun c_1 => ?_)
    · skip
      have n_1 : 16 = 0 := cmp_eq (a := 16) (b := 0) (by omega) (by omega) c_1
      exact absurd n_1 (by decide)
    · skip
      have n_1 : ¬ 16 = 0 := cmp_ne (a := 16) (b := 0) (by omega) (by omega) c_1
      refine J_iload_n E dX6_sheet_4 rfl 2 rfl ?_
      refine J_bipush E dX6_sheet_5 bp_8 ?_
      refine J_icmp_eq E (tgt := 22) dX6_sheet_7 (by decide) (fun c_7 => ?_) (fun c_7 => ?_)
      · skip
        have n_7 : 16 = 8 := cmp_eq (a := 16) (b := 8) (by omega) (by omega) c_7
        exact absurd n_7 (by decide)
      · skip
        have n_7 : ¬ 16 = 8 := cmp_ne (a := 16) (b := 8) (by omega) (by omega) c_7
        refine J_iload_n E dX6_sheet_10 rfl 2 rfl ?_
        refine J_bipush E dX6_sheet_11 bp_16 ?_
        refine J_icmp_eq E (tgt := 22) dX6_sheet_13 (by decide) (fun c_13 => ?_) (fun c_13 => ?_)
        · skip
          have n_13 : 16 = 16 := cmp_eq (a := 16) (b := 16) (by omega) (by omega) c_13
          refine J_iconst E dX6_sheet_22 ic_1 ?_
          refine J_goto E (tgt := 27) dX6_sheet_23 (by decide) ?_
          refine J_istore E (lv' := [(4, .int 1), (0, .ref (b 0)), (1, .int (nI 0)), (2, .int 16), (3, .int n)]) dX6_sheet_27 (by decide) rfl ?_
          refine J_iload_n E dX6_sheet_29 rfl 2 rfl ?_
          refine J_cSiN E (As := [.int (nI 0)]) (c_X6_isSheet l G (nI 0) ) cl_X6_303 yo_X6_isSheet dX6_sheet_30 rfl (Nat.le_of_ble_eq_true rfl) (Nat.le_of_ble_eq_true rfl) rfl (Nat.le_of_ble_eq_true rfl) ⟨Nat.zero_le _, Nat.zero_le _⟩ ?_
          refine J_if_eq E (tgt := 41) dX6_sheet_33 (by decide) (fun c_33 => ?_) (fun c_33 => ?_)
          · skip
            have c_33 := bI_0 c_33
            exact absurd (in3 (by decide)) c_33
          · skip
            have c_33 := bI_1 c_33
            refine J_iload E dX6_sheet_36 0 rfl ?_
            refine J_if_ne E (tgt := 47) dX6_sheet_38 (by decide) (fun c_38 => ?_) (fun c_38 => ?_)
            · skip
              have n_38 : ¬ 1 = 0 := cmp_ne (a := 1) (b := 0) (by omega) (by omega) c_38
              refine J_iload_n E dX6_sheet_47 rfl 4 rfl ?_
              refine J_if_ge E (tgt := 58) dX6_sheet_48 (by decide) (fun c_48 => ?_) (fun c_48 => ?_)
              · skip
                refine J_iload_n E dX6_sheet_58 rfl 4 rfl ?_
                refine J_bipush E dX6_sheet_59 bp_40 ?_
                refine J_icmp_le E (tgt := 70) dX6_sheet_61 (by decide) (fun c_61 => ?_) (fun c_61 => ?_)
                · skip
                  refine J_aload_n E dX6_sheet_70 rfl 1 rfl ?_
                  refine gM0_X6_31 E dX6_sheet_71 ?_
                  refine J_iload_n E dX6_sheet_74 rfl 2 rfl ?_
                  refine J_iload_n E dX6_sheet_75 rfl 3 rfl ?_
                  refine sMb_0 E  dX6_sheet_76 ?_
                  refine J_aload_n E dX6_sheet_77 rfl 1 rfl ?_
                  refine gM0_X6_34 E dX6_sheet_78 ?_
                  refine J_iload_n E dX6_sheet_81 rfl 2 rfl ?_
                  refine J_iload_n E dX6_sheet_82 rfl 3 rfl ?_
                  refine J_if_ne E (tgt := 90) dX6_sheet_83 (by decide) (fun c_83 => ?_) (fun c_83 => ?_)
                  · skip
                    have n_83 : ¬ 16 = 0 := cmp_ne (a := 16) (b := 0) (by omega) (by omega) c_83
                    refine J_iload_n E dX6_sheet_90 rfl 4 rfl ?_
                    refine sMz_0 E  dX6_sheet_91 ?_
                    refine J_iconst E dX6_sheet_92 ic_0 ?_
                    refine J_istore E (lv' := [(5, .int 0), (4, .int 1), (0, .ref (b 0)), (1, .int (nI 0)), (2, .int 16), (3, .int n)]) dX6_sheet_93 (by decide) rfl ?_
                    have lp95 : ∀ (fu : Nat) (i : Nat) (r : Q2), (i ≤ 40) → (r = upR ((up3 (up3 y 8 1 0 16) 8 1 1 n) 8) 0 (fillF (y 8 0) 0 i)) → 40 - i < fu → J X G 6 0 0 (wM G b (upG y 8 r)) [(0, .ref (b 0)), (1, .int (nI 0)), (2, .int 16), (3, .int n), (5, .int (nI i))] 95 [] := by
                      intro fu
                      induction fu with
                      | zero => intro i r hi hr hm; exact absurd hm (Nat.not_lt_zero _)
                      | succ fu ih95 =>
                        intro i r hi hr hm
                        refine J_iload E dX6_sheet_95 4 rfl ?_
                        refine J_bipush E dX6_sheet_97 bp_40 ?_
                        refine J_icmp_ge E (tgt := 121) dX6_sheet_99 (by decide) (fun c_99 => ?_) (fun c_99 => ?_)
                        · skip
                          have n_99 : 40 ≤ i := cmp_le (a := 40) (b := i) (by omega) (by omega) c_99
                          refine J_aload_n E dX6_sheet_121 rfl 0 rfl ?_
                          refine gM0_X6_34 E dX6_sheet_122 ?_
                          refine J_iload_n E dX6_sheet_125 rfl 1 rfl ?_
                          refine lMz_0 E  dX6_sheet_126 ?_
                          refine J_top (x' := r 1 1) upG_s ?_
                          refine J_mr8 (f := fun _ => 0) (fun j hj => by rw [hr, show i = 40 by omega]; exact fillF_lt _ _ 40 j hj) ?_
                          exact ret _ _ _ _ ⟨by rw [hr]; rfl, _, rfl, by rw [hr, upR_upR]; exact ShM.rfl'⟩ rfl dX6_sheet_127
                        · skip
                          have n_99 : ¬ 40 ≤ i := cmp_nle (a := 40) (b := i) (by omega) (by omega) c_99
                          refine J_aload_n E dX6_sheet_102 rfl 0 rfl ?_
                          refine gM0_X6_37 E dX6_sheet_103 ?_
                          refine J_bipush E dX6_sheet_106 bp_40 ?_
                          refine J_iload_n E dX6_sheet_108 rfl 1 rfl ?_
                          refine J_imul E dX6_sheet_109 ?_
                          refine J_top (x' := nI 0) (by decide) ?_
                          refine J_iload E dX6_sheet_110 4 rfl ?_
                          refine J_iadd E dX6_sheet_112 ?_
                          refine J_top (x' := nI (0 + i)) (nI_add 0 i) ?_
                          refine J_iconst E dX6_sheet_113 ic_0 ?_
                          refine sMn_0 E (j := (0 + i)) (i := i) rfl (by omega) dX6_sheet_114 ?_
                          refine J_iinc E (lv' := [(5, .int (nI (i + 1))), (0, .ref (b 0)), (1, .int (nI 0)), (2, .int 16), (3, .int n)]) dX6_sheet_115 4 rfl (nI_inc _) (by decide) rfl ?_
                          refine J_goto E (tgt := 95) dX6_sheet_118 (by decide) ?_
                          refine J_lv [1, 2, 3, 4, 0] rfl ?_
                          exact ih95 (i + 1) ((up3 (upG y 8 r) 8 0 i 0) 8) (by omega) (by rw [hr]; exact up2_upR) (by omega)
                    refine J_lv [2, 3, 4, 5, 0] rfl ?_
                    exact lp95 _ 0 ((up3 (up3 y 8 1 0 16) 8 1 1 n) 8) (by omega) (upR_id (r := 0)).symm (Nat.lt_succ_self _)
                  · skip
                    have n_83 : 16 = 0 := cmp_eq (a := 16) (b := 0) (by omega) (by omega) c_83
                    exact absurd n_83 (by decide)
                · skip
                  exact absurd hn2 c_61
              · skip
                exact absurd (Int32.not_le.mp c_48) hn
            · skip
              have n_38 : 1 = 0 := cmp_eq (a := 1) (b := 0) (by omega) (by omega) c_38
              exact absurd n_38 (by decide)
        · skip
          have n_13 : ¬ 16 = 16 := cmp_ne (a := 16) (b := 16) (by omega) (by omega) c_13
          exact absurd n_13 (by decide)
  · skip
    refine J_iload_n E dX6_sheet_0 rfl 2 rfl ?_
    refine J_if_eq E (tgt := 22) dX6_sheet_1 (by decide) (fun c_1 => ?_) (fun c_1 => ?_)
    · skip
      have n_1 : 32 = 0 := cmp_eq (a := 32) (b := 0) (by omega) (by omega) c_1
      exact absurd n_1 (by decide)
    · skip
      have n_1 : ¬ 32 = 0 := cmp_ne (a := 32) (b := 0) (by omega) (by omega) c_1
      refine J_iload_n E dX6_sheet_4 rfl 2 rfl ?_
      refine J_bipush E dX6_sheet_5 bp_8 ?_
      refine J_icmp_eq E (tgt := 22) dX6_sheet_7 (by decide) (fun c_7 => ?_) (fun c_7 => ?_)
      · skip
        have n_7 : 32 = 8 := cmp_eq (a := 32) (b := 8) (by omega) (by omega) c_7
        exact absurd n_7 (by decide)
      · skip
        have n_7 : ¬ 32 = 8 := cmp_ne (a := 32) (b := 8) (by omega) (by omega) c_7
        refine J_iload_n E dX6_sheet_10 rfl 2 rfl ?_
        refine J_bipush E dX6_sheet_11 bp_16 ?_
        refine J_icmp_eq E (tgt := 22) dX6_sheet_13 (by decide) (fun c_13 => ?_) (fun c_13 => ?_)
        · skip
          have n_13 : 32 = 16 := cmp_eq (a := 32) (b := 16) (by omega) (by omega) c_13
          exact absurd n_13 (by decide)
        · skip
          have n_13 : ¬ 32 = 16 := cmp_ne (a := 32) (b := 16) (by omega) (by omega) c_13
          refine J_iload_n E dX6_sheet_16 rfl 2 rfl ?_
          refine J_bipush E dX6_sheet_17 bp_32 ?_
          refine J_icmp_ne E (tgt := 26) dX6_sheet_19 (by decide) (fun c_19 => ?_) (fun c_19 => ?_)
          · skip
            have n_19 : ¬ 32 = 32 := cmp_ne (a := 32) (b := 32) (by omega) (by omega) c_19
            exact absurd n_19 (by decide)
          · skip
            have n_19 : 32 = 32 := cmp_eq (a := 32) (b := 32) (by omega) (by omega) c_19
            refine J_iconst E dX6_sheet_22 ic_1 ?_
            refine J_goto E (tgt := 27) dX6_sheet_23 (by decide) ?_
            refine J_istore E (lv' := [(4, .int 1), (0, .ref (b 0)), (1, .int (nI 0)), (2, .int 32), (3, .int n)]) dX6_sheet_27 (by decide) rfl ?_
            refine J_iload_n E dX6_sheet_29 rfl 2 rfl ?_
            refine J_cSiN E (As := [.int (nI 0)]) (c_X6_isSheet l G (nI 0) ) cl_X6_303 yo_X6_isSheet dX6_sheet_30 rfl (Nat.le_of_ble_eq_true rfl) (Nat.le_of_ble_eq_true rfl) rfl (Nat.le_of_ble_eq_true rfl) ⟨Nat.zero_le _, Nat.zero_le _⟩ ?_
            refine J_if_eq E (tgt := 41) dX6_sheet_33 (by decide) (fun c_33 => ?_) (fun c_33 => ?_)
            · skip
              have c_33 := bI_0 c_33
              exact absurd (in3 (by decide)) c_33
            · skip
              have c_33 := bI_1 c_33
              refine J_iload E dX6_sheet_36 0 rfl ?_
              refine J_if_ne E (tgt := 47) dX6_sheet_38 (by decide) (fun c_38 => ?_) (fun c_38 => ?_)
              · skip
                have n_38 : ¬ 1 = 0 := cmp_ne (a := 1) (b := 0) (by omega) (by omega) c_38
                refine J_iload_n E dX6_sheet_47 rfl 4 rfl ?_
                refine J_if_ge E (tgt := 58) dX6_sheet_48 (by decide) (fun c_48 => ?_) (fun c_48 => ?_)
                · skip
                  refine J_iload_n E dX6_sheet_58 rfl 4 rfl ?_
                  refine J_bipush E dX6_sheet_59 bp_40 ?_
                  refine J_icmp_le E (tgt := 70) dX6_sheet_61 (by decide) (fun c_61 => ?_) (fun c_61 => ?_)
                  · skip
                    refine J_aload_n E dX6_sheet_70 rfl 1 rfl ?_
                    refine gM0_X6_31 E dX6_sheet_71 ?_
                    refine J_iload_n E dX6_sheet_74 rfl 2 rfl ?_
                    refine J_iload_n E dX6_sheet_75 rfl 3 rfl ?_
                    refine sMb_0 E  dX6_sheet_76 ?_
                    refine J_aload_n E dX6_sheet_77 rfl 1 rfl ?_
                    refine gM0_X6_34 E dX6_sheet_78 ?_
                    refine J_iload_n E dX6_sheet_81 rfl 2 rfl ?_
                    refine J_iload_n E dX6_sheet_82 rfl 3 rfl ?_
                    refine J_if_ne E (tgt := 90) dX6_sheet_83 (by decide) (fun c_83 => ?_) (fun c_83 => ?_)
                    · skip
                      have n_83 : ¬ 32 = 0 := cmp_ne (a := 32) (b := 0) (by omega) (by omega) c_83
                      refine J_iload_n E dX6_sheet_90 rfl 4 rfl ?_
                      refine sMz_0 E  dX6_sheet_91 ?_
                      refine J_iconst E dX6_sheet_92 ic_0 ?_
                      refine J_istore E (lv' := [(5, .int 0), (4, .int 1), (0, .ref (b 0)), (1, .int (nI 0)), (2, .int 32), (3, .int n)]) dX6_sheet_93 (by decide) rfl ?_
                      have lp95 : ∀ (fu : Nat) (i : Nat) (r : Q2), (i ≤ 40) → (r = upR ((up3 (up3 y 8 1 0 32) 8 1 1 n) 8) 0 (fillF (y 8 0) 0 i)) → 40 - i < fu → J X G 6 0 0 (wM G b (upG y 8 r)) [(0, .ref (b 0)), (1, .int (nI 0)), (2, .int 32), (3, .int n), (5, .int (nI i))] 95 [] := by
                        intro fu
                        induction fu with
                        | zero => intro i r hi hr hm; exact absurd hm (Nat.not_lt_zero _)
                        | succ fu ih95 =>
                          intro i r hi hr hm
                          refine J_iload E dX6_sheet_95 4 rfl ?_
                          refine J_bipush E dX6_sheet_97 bp_40 ?_
                          refine J_icmp_ge E (tgt := 121) dX6_sheet_99 (by decide) (fun c_99 => ?_) (fun c_99 => ?_)
                          · skip
                            have n_99 : 40 ≤ i := cmp_le (a := 40) (b := i) (by omega) (by omega) c_99
                            refine J_aload_n E dX6_sheet_121 rfl 0 rfl ?_
                            refine gM0_X6_34 E dX6_sheet_122 ?_
                            refine J_iload_n E dX6_sheet_125 rfl 1 rfl ?_
                            refine lMz_0 E  dX6_sheet_126 ?_
                            refine J_top (x' := r 1 1) upG_s ?_
                            refine J_mr8 (f := fun _ => 0) (fun j hj => by rw [hr, show i = 40 by omega]; exact fillF_lt _ _ 40 j hj) ?_
                            exact ret _ _ _ _ ⟨by rw [hr]; rfl, _, rfl, by rw [hr, upR_upR]; exact ShM.rfl'⟩ rfl dX6_sheet_127
                          · skip
                            have n_99 : ¬ 40 ≤ i := cmp_nle (a := 40) (b := i) (by omega) (by omega) c_99
                            refine J_aload_n E dX6_sheet_102 rfl 0 rfl ?_
                            refine gM0_X6_37 E dX6_sheet_103 ?_
                            refine J_bipush E dX6_sheet_106 bp_40 ?_
                            refine J_iload_n E dX6_sheet_108 rfl 1 rfl ?_
                            refine J_imul E dX6_sheet_109 ?_
                            refine J_top (x' := nI 0) (by decide) ?_
                            refine J_iload E dX6_sheet_110 4 rfl ?_
                            refine J_iadd E dX6_sheet_112 ?_
                            refine J_top (x' := nI (0 + i)) (nI_add 0 i) ?_
                            refine J_iconst E dX6_sheet_113 ic_0 ?_
                            refine sMn_0 E (j := (0 + i)) (i := i) rfl (by omega) dX6_sheet_114 ?_
                            refine J_iinc E (lv' := [(5, .int (nI (i + 1))), (0, .ref (b 0)), (1, .int (nI 0)), (2, .int 32), (3, .int n)]) dX6_sheet_115 4 rfl (nI_inc _) (by decide) rfl ?_
                            refine J_goto E (tgt := 95) dX6_sheet_118 (by decide) ?_
                            refine J_lv [1, 2, 3, 4, 0] rfl ?_
                            exact ih95 (i + 1) ((up3 (upG y 8 r) 8 0 i 0) 8) (by omega) (by rw [hr]; exact up2_upR) (by omega)
                      refine J_lv [2, 3, 4, 5, 0] rfl ?_
                      exact lp95 _ 0 ((up3 (up3 y 8 1 0 32) 8 1 1 n) 8) (by omega) (upR_id (r := 0)).symm (Nat.lt_succ_self _)
                    · skip
                      have n_83 : 32 = 0 := cmp_eq (a := 32) (b := 0) (by omega) (by omega) c_83
                      exact absurd n_83 (by decide)
                  · skip
                    exact absurd hn2 c_61
                · skip
                  exact absurd (Int32.not_le.mp c_48) hn
              · skip
                have n_38 : 1 = 0 := cmp_eq (a := 1) (b := 0) (by omega) (by omega) c_38
                exact absurd n_38 (by decide)

set_option maxHeartbeats 4000000 in
set_option maxRecDepth 20000 in
theorem c_X6_sheet_ok_1 (l : Launch) (G : GB) (b : Nat → Nat) (y : Q3) (c n : Int32) (hbt : (c = 0 ∨ c = 8 ∨ c = 16 ∨ c = 32)) (hn : ¬ n < 0) (hn2 : n ≤ 40) : CI l yX6_sheet cX6_sheet 6 .int 2 45 G [.ref (b 0), .int (nI 1), .int c, .int n] (wM G b y) (fun vR w' => vR = (if c = 0 then 0 else n) ∧ PubM G b (upG y 9 (beginS (y 9) c (if c = 0 then 0 else n))) w') := by
  refine CI.mk (own := RX6) (by decide) rfl (Nat.le_of_ble_eq_true rfl) ?_
  intro X E ret
  show J X G 6 0 0 (wM G b y) [(0, .ref (b 0)), (1, .int (nI 1)), (2, .int c), (3, .int n)] 0 []
  rcases hbt with rfl | rfl | rfl | rfl
  · skip
    refine J_iload_n E dX6_sheet_0 rfl 2 rfl ?_
    refine J_if_eq E (tgt := 22) dX6_sheet_1 (by decide) (fun c_1 => ?_) (fun c_1 => ?_)
    · skip
      have n_1 : 0 = 0 := cmp_eq (a := 0) (b := 0) (by omega) (by omega) c_1
      refine J_iconst E dX6_sheet_22 ic_1 ?_
      refine J_goto E (tgt := 27) dX6_sheet_23 (by decide) ?_
      refine J_istore E (lv' := [(4, .int 1), (0, .ref (b 0)), (1, .int (nI 1)), (2, .int 0), (3, .int n)]) dX6_sheet_27 (by decide) rfl ?_
      refine J_iload_n E dX6_sheet_29 rfl 2 rfl ?_
      refine J_cSiN E (As := [.int (nI 1)]) (c_X6_isSheet l G (nI 1) ) cl_X6_303 yo_X6_isSheet dX6_sheet_30 rfl (Nat.le_of_ble_eq_true rfl) (Nat.le_of_ble_eq_true rfl) rfl (Nat.le_of_ble_eq_true rfl) ⟨Nat.zero_le _, Nat.zero_le _⟩ ?_
      refine J_if_eq E (tgt := 41) dX6_sheet_33 (by decide) (fun c_33 => ?_) (fun c_33 => ?_)
      · skip
        have c_33 := bI_0 c_33
        exact absurd (in3 (by decide)) c_33
      · skip
        have c_33 := bI_1 c_33
        refine J_iload E dX6_sheet_36 0 rfl ?_
        refine J_if_ne E (tgt := 47) dX6_sheet_38 (by decide) (fun c_38 => ?_) (fun c_38 => ?_)
        · skip
          have n_38 : ¬ 1 = 0 := cmp_ne (a := 1) (b := 0) (by omega) (by omega) c_38
          refine J_iload_n E dX6_sheet_47 rfl 4 rfl ?_
          refine J_if_ge E (tgt := 58) dX6_sheet_48 (by decide) (fun c_48 => ?_) (fun c_48 => ?_)
          · skip
            refine J_iload_n E dX6_sheet_58 rfl 4 rfl ?_
            refine J_bipush E dX6_sheet_59 bp_40 ?_
            refine J_icmp_le E (tgt := 70) dX6_sheet_61 (by decide) (fun c_61 => ?_) (fun c_61 => ?_)
            · skip
              refine J_aload_n E dX6_sheet_70 rfl 1 rfl ?_
              refine gM0_X6_31 E dX6_sheet_71 ?_
              refine J_iload_n E dX6_sheet_74 rfl 2 rfl ?_
              refine J_iload_n E dX6_sheet_75 rfl 3 rfl ?_
              refine sMb_1 E  dX6_sheet_76 ?_
              refine J_aload_n E dX6_sheet_77 rfl 1 rfl ?_
              refine gM0_X6_34 E dX6_sheet_78 ?_
              refine J_iload_n E dX6_sheet_81 rfl 2 rfl ?_
              refine J_iload_n E dX6_sheet_82 rfl 3 rfl ?_
              refine J_if_ne E (tgt := 90) dX6_sheet_83 (by decide) (fun c_83 => ?_) (fun c_83 => ?_)
              · skip
                have n_83 : ¬ 0 = 0 := cmp_ne (a := 0) (b := 0) (by omega) (by omega) c_83
                exact absurd n_83 (by decide)
              · skip
                have n_83 : 0 = 0 := cmp_eq (a := 0) (b := 0) (by omega) (by omega) c_83
                refine J_iconst E dX6_sheet_86 ic_0 ?_
                refine J_goto E (tgt := 91) dX6_sheet_87 (by decide) ?_
                refine sMz_1 E  dX6_sheet_91 ?_
                refine J_iconst E dX6_sheet_92 ic_0 ?_
                refine J_istore E (lv' := [(5, .int 0), (4, .int 1), (0, .ref (b 0)), (1, .int (nI 1)), (2, .int 0), (3, .int n)]) dX6_sheet_93 (by decide) rfl ?_
                have lp95 : ∀ (fu : Nat) (i : Nat) (r : Q2), (i ≤ 40) → (r = upR ((up3 (up3 y 9 1 0 0) 9 1 1 0) 9) 0 (fillF (y 9 0) 0 i)) → 40 - i < fu → J X G 6 0 0 (wM G b (upG y 9 r)) [(0, .ref (b 0)), (1, .int (nI 1)), (2, .int 0), (3, .int n), (5, .int (nI i))] 95 [] := by
                  intro fu
                  induction fu with
                  | zero => intro i r hi hr hm; exact absurd hm (Nat.not_lt_zero _)
                  | succ fu ih95 =>
                    intro i r hi hr hm
                    refine J_iload E dX6_sheet_95 4 rfl ?_
                    refine J_bipush E dX6_sheet_97 bp_40 ?_
                    refine J_icmp_ge E (tgt := 121) dX6_sheet_99 (by decide) (fun c_99 => ?_) (fun c_99 => ?_)
                    · skip
                      have n_99 : 40 ≤ i := cmp_le (a := 40) (b := i) (by omega) (by omega) c_99
                      refine J_aload_n E dX6_sheet_121 rfl 0 rfl ?_
                      refine gM0_X6_34 E dX6_sheet_122 ?_
                      refine J_iload_n E dX6_sheet_125 rfl 1 rfl ?_
                      refine lMz_1 E  dX6_sheet_126 ?_
                      refine J_top (x' := r 1 1) upG_s ?_
                      refine J_mr9 (f := fun _ => 0) (fun j hj => by rw [hr, show i = 40 by omega]; exact fillF_lt _ _ 40 j hj) ?_
                      exact ret _ _ _ _ ⟨by rw [hr]; rfl, _, rfl, by rw [hr, upR_upR]; exact ShM.rfl'⟩ rfl dX6_sheet_127
                    · skip
                      have n_99 : ¬ 40 ≤ i := cmp_nle (a := 40) (b := i) (by omega) (by omega) c_99
                      refine J_aload_n E dX6_sheet_102 rfl 0 rfl ?_
                      refine gM0_X6_37 E dX6_sheet_103 ?_
                      refine J_bipush E dX6_sheet_106 bp_40 ?_
                      refine J_iload_n E dX6_sheet_108 rfl 1 rfl ?_
                      refine J_imul E dX6_sheet_109 ?_
                      refine J_top (x' := nI 40) (by decide) ?_
                      refine J_iload E dX6_sheet_110 4 rfl ?_
                      refine J_iadd E dX6_sheet_112 ?_
                      refine J_top (x' := nI (40 + i)) (nI_add 40 i) ?_
                      refine J_iconst E dX6_sheet_113 ic_0 ?_
                      refine sMn_1 E (j := (40 + i)) (i := i) rfl (by omega) dX6_sheet_114 ?_
                      refine J_iinc E (lv' := [(5, .int (nI (i + 1))), (0, .ref (b 0)), (1, .int (nI 1)), (2, .int 0), (3, .int n)]) dX6_sheet_115 4 rfl (nI_inc _) (by decide) rfl ?_
                      refine J_goto E (tgt := 95) dX6_sheet_118 (by decide) ?_
                      refine J_lv [1, 2, 3, 4, 0] rfl ?_
                      exact ih95 (i + 1) ((up3 (upG y 9 r) 9 0 i 0) 9) (by omega) (by rw [hr]; exact up2_upR) (by omega)
                refine J_lv [2, 3, 4, 5, 0] rfl ?_
                exact lp95 _ 0 ((up3 (up3 y 9 1 0 0) 9 1 1 0) 9) (by omega) (upR_id (r := 0)).symm (Nat.lt_succ_self _)
            · skip
              exact absurd hn2 c_61
          · skip
            exact absurd (Int32.not_le.mp c_48) hn
        · skip
          have n_38 : 1 = 0 := cmp_eq (a := 1) (b := 0) (by omega) (by omega) c_38
          exact absurd n_38 (by decide)
    · skip
      have n_1 : ¬ 0 = 0 := cmp_ne (a := 0) (b := 0) (by omega) (by omega) c_1
      exact absurd n_1 (by decide)
  · skip
    refine J_iload_n E dX6_sheet_0 rfl 2 rfl ?_
    refine J_if_eq E (tgt := 22) dX6_sheet_1 (by decide) (fun c_1 => ?_) (fun c_1 => ?_)
    · skip
      have n_1 : 8 = 0 := cmp_eq (a := 8) (b := 0) (by omega) (by omega) c_1
      exact absurd n_1 (by decide)
    · skip
      have n_1 : ¬ 8 = 0 := cmp_ne (a := 8) (b := 0) (by omega) (by omega) c_1
      refine J_iload_n E dX6_sheet_4 rfl 2 rfl ?_
      refine J_bipush E dX6_sheet_5 bp_8 ?_
      refine J_icmp_eq E (tgt := 22) dX6_sheet_7 (by decide) (fun c_7 => ?_) (fun c_7 => ?_)
      · skip
        have n_7 : 8 = 8 := cmp_eq (a := 8) (b := 8) (by omega) (by omega) c_7
        refine J_iconst E dX6_sheet_22 ic_1 ?_
        refine J_goto E (tgt := 27) dX6_sheet_23 (by decide) ?_
        refine J_istore E (lv' := [(4, .int 1), (0, .ref (b 0)), (1, .int (nI 1)), (2, .int 8), (3, .int n)]) dX6_sheet_27 (by decide) rfl ?_
        refine J_iload_n E dX6_sheet_29 rfl 2 rfl ?_
        refine J_cSiN E (As := [.int (nI 1)]) (c_X6_isSheet l G (nI 1) ) cl_X6_303 yo_X6_isSheet dX6_sheet_30 rfl (Nat.le_of_ble_eq_true rfl) (Nat.le_of_ble_eq_true rfl) rfl (Nat.le_of_ble_eq_true rfl) ⟨Nat.zero_le _, Nat.zero_le _⟩ ?_
        refine J_if_eq E (tgt := 41) dX6_sheet_33 (by decide) (fun c_33 => ?_) (fun c_33 => ?_)
        · skip
          have c_33 := bI_0 c_33
          exact absurd (in3 (by decide)) c_33
        · skip
          have c_33 := bI_1 c_33
          refine J_iload E dX6_sheet_36 0 rfl ?_
          refine J_if_ne E (tgt := 47) dX6_sheet_38 (by decide) (fun c_38 => ?_) (fun c_38 => ?_)
          · skip
            have n_38 : ¬ 1 = 0 := cmp_ne (a := 1) (b := 0) (by omega) (by omega) c_38
            refine J_iload_n E dX6_sheet_47 rfl 4 rfl ?_
            refine J_if_ge E (tgt := 58) dX6_sheet_48 (by decide) (fun c_48 => ?_) (fun c_48 => ?_)
            · skip
              refine J_iload_n E dX6_sheet_58 rfl 4 rfl ?_
              refine J_bipush E dX6_sheet_59 bp_40 ?_
              refine J_icmp_le E (tgt := 70) dX6_sheet_61 (by decide) (fun c_61 => ?_) (fun c_61 => ?_)
              · skip
                refine J_aload_n E dX6_sheet_70 rfl 1 rfl ?_
                refine gM0_X6_31 E dX6_sheet_71 ?_
                refine J_iload_n E dX6_sheet_74 rfl 2 rfl ?_
                refine J_iload_n E dX6_sheet_75 rfl 3 rfl ?_
                refine sMb_1 E  dX6_sheet_76 ?_
                refine J_aload_n E dX6_sheet_77 rfl 1 rfl ?_
                refine gM0_X6_34 E dX6_sheet_78 ?_
                refine J_iload_n E dX6_sheet_81 rfl 2 rfl ?_
                refine J_iload_n E dX6_sheet_82 rfl 3 rfl ?_
                refine J_if_ne E (tgt := 90) dX6_sheet_83 (by decide) (fun c_83 => ?_) (fun c_83 => ?_)
                · skip
                  have n_83 : ¬ 8 = 0 := cmp_ne (a := 8) (b := 0) (by omega) (by omega) c_83
                  refine J_iload_n E dX6_sheet_90 rfl 4 rfl ?_
                  refine sMz_1 E  dX6_sheet_91 ?_
                  refine J_iconst E dX6_sheet_92 ic_0 ?_
                  refine J_istore E (lv' := [(5, .int 0), (4, .int 1), (0, .ref (b 0)), (1, .int (nI 1)), (2, .int 8), (3, .int n)]) dX6_sheet_93 (by decide) rfl ?_
                  have lp95 : ∀ (fu : Nat) (i : Nat) (r : Q2), (i ≤ 40) → (r = upR ((up3 (up3 y 9 1 0 8) 9 1 1 n) 9) 0 (fillF (y 9 0) 0 i)) → 40 - i < fu → J X G 6 0 0 (wM G b (upG y 9 r)) [(0, .ref (b 0)), (1, .int (nI 1)), (2, .int 8), (3, .int n), (5, .int (nI i))] 95 [] := by
                    intro fu
                    induction fu with
                    | zero => intro i r hi hr hm; exact absurd hm (Nat.not_lt_zero _)
                    | succ fu ih95 =>
                      intro i r hi hr hm
                      refine J_iload E dX6_sheet_95 4 rfl ?_
                      refine J_bipush E dX6_sheet_97 bp_40 ?_
                      refine J_icmp_ge E (tgt := 121) dX6_sheet_99 (by decide) (fun c_99 => ?_) (fun c_99 => ?_)
                      · skip
                        have n_99 : 40 ≤ i := cmp_le (a := 40) (b := i) (by omega) (by omega) c_99
                        refine J_aload_n E dX6_sheet_121 rfl 0 rfl ?_
                        refine gM0_X6_34 E dX6_sheet_122 ?_
                        refine J_iload_n E dX6_sheet_125 rfl 1 rfl ?_
                        refine lMz_1 E  dX6_sheet_126 ?_
                        refine J_top (x' := r 1 1) upG_s ?_
                        refine J_mr9 (f := fun _ => 0) (fun j hj => by rw [hr, show i = 40 by omega]; exact fillF_lt _ _ 40 j hj) ?_
                        exact ret _ _ _ _ ⟨by rw [hr]; rfl, _, rfl, by rw [hr, upR_upR]; exact ShM.rfl'⟩ rfl dX6_sheet_127
                      · skip
                        have n_99 : ¬ 40 ≤ i := cmp_nle (a := 40) (b := i) (by omega) (by omega) c_99
                        refine J_aload_n E dX6_sheet_102 rfl 0 rfl ?_
                        refine gM0_X6_37 E dX6_sheet_103 ?_
                        refine J_bipush E dX6_sheet_106 bp_40 ?_
                        refine J_iload_n E dX6_sheet_108 rfl 1 rfl ?_
                        refine J_imul E dX6_sheet_109 ?_
                        refine J_top (x' := nI 40) (by decide) ?_
                        refine J_iload E dX6_sheet_110 4 rfl ?_
                        refine J_iadd E dX6_sheet_112 ?_
                        refine J_top (x' := nI (40 + i)) (nI_add 40 i) ?_
                        refine J_iconst E dX6_sheet_113 ic_0 ?_
                        refine sMn_1 E (j := (40 + i)) (i := i) rfl (by omega) dX6_sheet_114 ?_
                        refine J_iinc E (lv' := [(5, .int (nI (i + 1))), (0, .ref (b 0)), (1, .int (nI 1)), (2, .int 8), (3, .int n)]) dX6_sheet_115 4 rfl (nI_inc _) (by decide) rfl ?_
                        refine J_goto E (tgt := 95) dX6_sheet_118 (by decide) ?_
                        refine J_lv [1, 2, 3, 4, 0] rfl ?_
                        exact ih95 (i + 1) ((up3 (upG y 9 r) 9 0 i 0) 9) (by omega) (by rw [hr]; exact up2_upR) (by omega)
                  refine J_lv [2, 3, 4, 5, 0] rfl ?_
                  exact lp95 _ 0 ((up3 (up3 y 9 1 0 8) 9 1 1 n) 9) (by omega) (upR_id (r := 0)).symm (Nat.lt_succ_self _)
                · skip
                  have n_83 : 8 = 0 := cmp_eq (a := 8) (b := 0) (by omega) (by omega) c_83
                  exact absurd n_83 (by decide)
              · skip
                exact absurd hn2 c_61
            · skip
              exact absurd (Int32.not_le.mp c_48) hn
          · skip
            have n_38 : 1 = 0 := cmp_eq (a := 1) (b := 0) (by omega) (by omega) c_38
            exact absurd n_38 (by decide)
      · skip
        have n_7 : ¬ 8 = 8 := cmp_ne (a := 8) (b := 8) (by omega) (by omega) c_7
        exact absurd n_7 (by decide)
  · skip
    refine J_iload_n E dX6_sheet_0 rfl 2 rfl ?_
    refine J_if_eq E (tgt := 22) dX6_sheet_1 (by decide) (fun c_1 => ?_) (fun c_1 => ?_)
    · skip
      have n_1 : 16 = 0 := cmp_eq (a := 16) (b := 0) (by omega) (by omega) c_1
      exact absurd n_1 (by decide)
    · skip
      have n_1 : ¬ 16 = 0 := cmp_ne (a := 16) (b := 0) (by omega) (by omega) c_1
      refine J_iload_n E dX6_sheet_4 rfl 2 rfl ?_
      refine J_bipush E dX6_sheet_5 bp_8 ?_
      refine J_icmp_eq E (tgt := 22) dX6_sheet_7 (by decide) (fun c_7 => ?_) (fun c_7 => ?_)
      · skip
        have n_7 : 16 = 8 := cmp_eq (a := 16) (b := 8) (by omega) (by omega) c_7
        exact absurd n_7 (by decide)
      · skip
        have n_7 : ¬ 16 = 8 := cmp_ne (a := 16) (b := 8) (by omega) (by omega) c_7
        refine J_iload_n E dX6_sheet_10 rfl 2 rfl ?_
        refine J_bipush E dX6_sheet_11 bp_16 ?_
        refine J_icmp_eq E (tgt := 22) dX6_sheet_13 (by decide) (fun c_13 => ?_) (fun c_13 => ?_)
        · skip
          have n_13 : 16 = 16 := cmp_eq (a := 16) (b := 16) (by omega) (by omega) c_13
          refine J_iconst E dX6_sheet_22 ic_1 ?_
          refine J_goto E (tgt := 27) dX6_sheet_23 (by decide) ?_
          refine J_istore E (lv' := [(4, .int 1), (0, .ref (b 0)), (1, .int (nI 1)), (2, .int 16), (3, .int n)]) dX6_sheet_27 (by decide) rfl ?_
          refine J_iload_n E dX6_sheet_29 rfl 2 rfl ?_
          refine J_cSiN E (As := [.int (nI 1)]) (c_X6_isSheet l G (nI 1) ) cl_X6_303 yo_X6_isSheet dX6_sheet_30 rfl (Nat.le_of_ble_eq_true rfl) (Nat.le_of_ble_eq_true rfl) rfl (Nat.le_of_ble_eq_true rfl) ⟨Nat.zero_le _, Nat.zero_le _⟩ ?_
          refine J_if_eq E (tgt := 41) dX6_sheet_33 (by decide) (fun c_33 => ?_) (fun c_33 => ?_)
          · skip
            have c_33 := bI_0 c_33
            exact absurd (in3 (by decide)) c_33
          · skip
            have c_33 := bI_1 c_33
            refine J_iload E dX6_sheet_36 0 rfl ?_
            refine J_if_ne E (tgt := 47) dX6_sheet_38 (by decide) (fun c_38 => ?_) (fun c_38 => ?_)
            · skip
              have n_38 : ¬ 1 = 0 := cmp_ne (a := 1) (b := 0) (by omega) (by omega) c_38
              refine J_iload_n E dX6_sheet_47 rfl 4 rfl ?_
              refine J_if_ge E (tgt := 58) dX6_sheet_48 (by decide) (fun c_48 => ?_) (fun c_48 => ?_)
              · skip
                refine J_iload_n E dX6_sheet_58 rfl 4 rfl ?_
                refine J_bipush E dX6_sheet_59 bp_40 ?_
                refine J_icmp_le E (tgt := 70) dX6_sheet_61 (by decide) (fun c_61 => ?_) (fun c_61 => ?_)
                · skip
                  refine J_aload_n E dX6_sheet_70 rfl 1 rfl ?_
                  refine gM0_X6_31 E dX6_sheet_71 ?_
                  refine J_iload_n E dX6_sheet_74 rfl 2 rfl ?_
                  refine J_iload_n E dX6_sheet_75 rfl 3 rfl ?_
                  refine sMb_1 E  dX6_sheet_76 ?_
                  refine J_aload_n E dX6_sheet_77 rfl 1 rfl ?_
                  refine gM0_X6_34 E dX6_sheet_78 ?_
                  refine J_iload_n E dX6_sheet_81 rfl 2 rfl ?_
                  refine J_iload_n E dX6_sheet_82 rfl 3 rfl ?_
                  refine J_if_ne E (tgt := 90) dX6_sheet_83 (by decide) (fun c_83 => ?_) (fun c_83 => ?_)
                  · skip
                    have n_83 : ¬ 16 = 0 := cmp_ne (a := 16) (b := 0) (by omega) (by omega) c_83
                    refine J_iload_n E dX6_sheet_90 rfl 4 rfl ?_
                    refine sMz_1 E  dX6_sheet_91 ?_
                    refine J_iconst E dX6_sheet_92 ic_0 ?_
                    refine J_istore E (lv' := [(5, .int 0), (4, .int 1), (0, .ref (b 0)), (1, .int (nI 1)), (2, .int 16), (3, .int n)]) dX6_sheet_93 (by decide) rfl ?_
                    have lp95 : ∀ (fu : Nat) (i : Nat) (r : Q2), (i ≤ 40) → (r = upR ((up3 (up3 y 9 1 0 16) 9 1 1 n) 9) 0 (fillF (y 9 0) 0 i)) → 40 - i < fu → J X G 6 0 0 (wM G b (upG y 9 r)) [(0, .ref (b 0)), (1, .int (nI 1)), (2, .int 16), (3, .int n), (5, .int (nI i))] 95 [] := by
                      intro fu
                      induction fu with
                      | zero => intro i r hi hr hm; exact absurd hm (Nat.not_lt_zero _)
                      | succ fu ih95 =>
                        intro i r hi hr hm
                        refine J_iload E dX6_sheet_95 4 rfl ?_
                        refine J_bipush E dX6_sheet_97 bp_40 ?_
                        refine J_icmp_ge E (tgt := 121) dX6_sheet_99 (by decide) (fun c_99 => ?_) (fun c_99 => ?_)
                        · skip
                          have n_99 : 40 ≤ i := cmp_le (a := 40) (b := i) (by omega) (by omega) c_99
                          refine J_aload_n E dX6_sheet_121 rfl 0 rfl ?_
                          refine gM0_X6_34 E dX6_sheet_122 ?_
                          refine J_iload_n E dX6_sheet_125 rfl 1 rfl ?_
                          refine lMz_1 E  dX6_sheet_126 ?_
                          refine J_top (x' := r 1 1) upG_s ?_
                          refine J_mr9 (f := fun _ => 0) (fun j hj => by rw [hr, show i = 40 by omega]; exact fillF_lt _ _ 40 j hj) ?_
                          exact ret _ _ _ _ ⟨by rw [hr]; rfl, _, rfl, by rw [hr, upR_upR]; exact ShM.rfl'⟩ rfl dX6_sheet_127
                        · skip
                          have n_99 : ¬ 40 ≤ i := cmp_nle (a := 40) (b := i) (by omega) (by omega) c_99
                          refine J_aload_n E dX6_sheet_102 rfl 0 rfl ?_
                          refine gM0_X6_37 E dX6_sheet_103 ?_
                          refine J_bipush E dX6_sheet_106 bp_40 ?_
                          refine J_iload_n E dX6_sheet_108 rfl 1 rfl ?_
                          refine J_imul E dX6_sheet_109 ?_
                          refine J_top (x' := nI 40) (by decide) ?_
                          refine J_iload E dX6_sheet_110 4 rfl ?_
                          refine J_iadd E dX6_sheet_112 ?_
                          refine J_top (x' := nI (40 + i)) (nI_add 40 i) ?_
                          refine J_iconst E dX6_sheet_113 ic_0 ?_
                          refine sMn_1 E (j := (40 + i)) (i := i) rfl (by omega) dX6_sheet_114 ?_
                          refine J_iinc E (lv' := [(5, .int (nI (i + 1))), (0, .ref (b 0)), (1, .int (nI 1)), (2, .int 16), (3, .int n)]) dX6_sheet_115 4 rfl (nI_inc _) (by decide) rfl ?_
                          refine J_goto E (tgt := 95) dX6_sheet_118 (by decide) ?_
                          refine J_lv [1, 2, 3, 4, 0] rfl ?_
                          exact ih95 (i + 1) ((up3 (upG y 9 r) 9 0 i 0) 9) (by omega) (by rw [hr]; exact up2_upR) (by omega)
                    refine J_lv [2, 3, 4, 5, 0] rfl ?_
                    exact lp95 _ 0 ((up3 (up3 y 9 1 0 16) 9 1 1 n) 9) (by omega) (upR_id (r := 0)).symm (Nat.lt_succ_self _)
                  · skip
                    have n_83 : 16 = 0 := cmp_eq (a := 16) (b := 0) (by omega) (by omega) c_83
                    exact absurd n_83 (by decide)
                · skip
                  exact absurd hn2 c_61
              · skip
                exact absurd (Int32.not_le.mp c_48) hn
            · skip
              have n_38 : 1 = 0 := cmp_eq (a := 1) (b := 0) (by omega) (by omega) c_38
              exact absurd n_38 (by decide)
        · skip
          have n_13 : ¬ 16 = 16 := cmp_ne (a := 16) (b := 16) (by omega) (by omega) c_13
          exact absurd n_13 (by decide)
  · skip
    refine J_iload_n E dX6_sheet_0 rfl 2 rfl ?_
    refine J_if_eq E (tgt := 22) dX6_sheet_1 (by decide) (fun c_1 => ?_) (fun c_1 => ?_)
    · skip
      have n_1 : 32 = 0 := cmp_eq (a := 32) (b := 0) (by omega) (by omega) c_1
      exact absurd n_1 (by decide)
    · skip
      have n_1 : ¬ 32 = 0 := cmp_ne (a := 32) (b := 0) (by omega) (by omega) c_1
      refine J_iload_n E dX6_sheet_4 rfl 2 rfl ?_
      refine J_bipush E dX6_sheet_5 bp_8 ?_
      refine J_icmp_eq E (tgt := 22) dX6_sheet_7 (by decide) (fun c_7 => ?_) (fun c_7 => ?_)
      · skip
        have n_7 : 32 = 8 := cmp_eq (a := 32) (b := 8) (by omega) (by omega) c_7
        exact absurd n_7 (by decide)
      · skip
        have n_7 : ¬ 32 = 8 := cmp_ne (a := 32) (b := 8) (by omega) (by omega) c_7
        refine J_iload_n E dX6_sheet_10 rfl 2 rfl ?_
        refine J_bipush E dX6_sheet_11 bp_16 ?_
        refine J_icmp_eq E (tgt := 22) dX6_sheet_13 (by decide) (fun c_13 => ?_) (fun c_13 => ?_)
        · skip
          have n_13 : 32 = 16 := cmp_eq (a := 32) (b := 16) (by omega) (by omega) c_13
          exact absurd n_13 (by decide)
        · skip
          have n_13 : ¬ 32 = 16 := cmp_ne (a := 32) (b := 16) (by omega) (by omega) c_13
          refine J_iload_n E dX6_sheet_16 rfl 2 rfl ?_
          refine J_bipush E dX6_sheet_17 bp_32 ?_
          refine J_icmp_ne E (tgt := 26) dX6_sheet_19 (by decide) (fun c_19 => ?_) (fun c_19 => ?_)
          · skip
            have n_19 : ¬ 32 = 32 := cmp_ne (a := 32) (b := 32) (by omega) (by omega) c_19
            exact absurd n_19 (by decide)
          · skip
            have n_19 : 32 = 32 := cmp_eq (a := 32) (b := 32) (by omega) (by omega) c_19
            refine J_iconst E dX6_sheet_22 ic_1 ?_
            refine J_goto E (tgt := 27) dX6_sheet_23 (by decide) ?_
            refine J_istore E (lv' := [(4, .int 1), (0, .ref (b 0)), (1, .int (nI 1)), (2, .int 32), (3, .int n)]) dX6_sheet_27 (by decide) rfl ?_
            refine J_iload_n E dX6_sheet_29 rfl 2 rfl ?_
            refine J_cSiN E (As := [.int (nI 1)]) (c_X6_isSheet l G (nI 1) ) cl_X6_303 yo_X6_isSheet dX6_sheet_30 rfl (Nat.le_of_ble_eq_true rfl) (Nat.le_of_ble_eq_true rfl) rfl (Nat.le_of_ble_eq_true rfl) ⟨Nat.zero_le _, Nat.zero_le _⟩ ?_
            refine J_if_eq E (tgt := 41) dX6_sheet_33 (by decide) (fun c_33 => ?_) (fun c_33 => ?_)
            · skip
              have c_33 := bI_0 c_33
              exact absurd (in3 (by decide)) c_33
            · skip
              have c_33 := bI_1 c_33
              refine J_iload E dX6_sheet_36 0 rfl ?_
              refine J_if_ne E (tgt := 47) dX6_sheet_38 (by decide) (fun c_38 => ?_) (fun c_38 => ?_)
              · skip
                have n_38 : ¬ 1 = 0 := cmp_ne (a := 1) (b := 0) (by omega) (by omega) c_38
                refine J_iload_n E dX6_sheet_47 rfl 4 rfl ?_
                refine J_if_ge E (tgt := 58) dX6_sheet_48 (by decide) (fun c_48 => ?_) (fun c_48 => ?_)
                · skip
                  refine J_iload_n E dX6_sheet_58 rfl 4 rfl ?_
                  refine J_bipush E dX6_sheet_59 bp_40 ?_
                  refine J_icmp_le E (tgt := 70) dX6_sheet_61 (by decide) (fun c_61 => ?_) (fun c_61 => ?_)
                  · skip
                    refine J_aload_n E dX6_sheet_70 rfl 1 rfl ?_
                    refine gM0_X6_31 E dX6_sheet_71 ?_
                    refine J_iload_n E dX6_sheet_74 rfl 2 rfl ?_
                    refine J_iload_n E dX6_sheet_75 rfl 3 rfl ?_
                    refine sMb_1 E  dX6_sheet_76 ?_
                    refine J_aload_n E dX6_sheet_77 rfl 1 rfl ?_
                    refine gM0_X6_34 E dX6_sheet_78 ?_
                    refine J_iload_n E dX6_sheet_81 rfl 2 rfl ?_
                    refine J_iload_n E dX6_sheet_82 rfl 3 rfl ?_
                    refine J_if_ne E (tgt := 90) dX6_sheet_83 (by decide) (fun c_83 => ?_) (fun c_83 => ?_)
                    · skip
                      have n_83 : ¬ 32 = 0 := cmp_ne (a := 32) (b := 0) (by omega) (by omega) c_83
                      refine J_iload_n E dX6_sheet_90 rfl 4 rfl ?_
                      refine sMz_1 E  dX6_sheet_91 ?_
                      refine J_iconst E dX6_sheet_92 ic_0 ?_
                      refine J_istore E (lv' := [(5, .int 0), (4, .int 1), (0, .ref (b 0)), (1, .int (nI 1)), (2, .int 32), (3, .int n)]) dX6_sheet_93 (by decide) rfl ?_
                      have lp95 : ∀ (fu : Nat) (i : Nat) (r : Q2), (i ≤ 40) → (r = upR ((up3 (up3 y 9 1 0 32) 9 1 1 n) 9) 0 (fillF (y 9 0) 0 i)) → 40 - i < fu → J X G 6 0 0 (wM G b (upG y 9 r)) [(0, .ref (b 0)), (1, .int (nI 1)), (2, .int 32), (3, .int n), (5, .int (nI i))] 95 [] := by
                        intro fu
                        induction fu with
                        | zero => intro i r hi hr hm; exact absurd hm (Nat.not_lt_zero _)
                        | succ fu ih95 =>
                          intro i r hi hr hm
                          refine J_iload E dX6_sheet_95 4 rfl ?_
                          refine J_bipush E dX6_sheet_97 bp_40 ?_
                          refine J_icmp_ge E (tgt := 121) dX6_sheet_99 (by decide) (fun c_99 => ?_) (fun c_99 => ?_)
                          · skip
                            have n_99 : 40 ≤ i := cmp_le (a := 40) (b := i) (by omega) (by omega) c_99
                            refine J_aload_n E dX6_sheet_121 rfl 0 rfl ?_
                            refine gM0_X6_34 E dX6_sheet_122 ?_
                            refine J_iload_n E dX6_sheet_125 rfl 1 rfl ?_
                            refine lMz_1 E  dX6_sheet_126 ?_
                            refine J_top (x' := r 1 1) upG_s ?_
                            refine J_mr9 (f := fun _ => 0) (fun j hj => by rw [hr, show i = 40 by omega]; exact fillF_lt _ _ 40 j hj) ?_
                            exact ret _ _ _ _ ⟨by rw [hr]; rfl, _, rfl, by rw [hr, upR_upR]; exact ShM.rfl'⟩ rfl dX6_sheet_127
                          · skip
                            have n_99 : ¬ 40 ≤ i := cmp_nle (a := 40) (b := i) (by omega) (by omega) c_99
                            refine J_aload_n E dX6_sheet_102 rfl 0 rfl ?_
                            refine gM0_X6_37 E dX6_sheet_103 ?_
                            refine J_bipush E dX6_sheet_106 bp_40 ?_
                            refine J_iload_n E dX6_sheet_108 rfl 1 rfl ?_
                            refine J_imul E dX6_sheet_109 ?_
                            refine J_top (x' := nI 40) (by decide) ?_
                            refine J_iload E dX6_sheet_110 4 rfl ?_
                            refine J_iadd E dX6_sheet_112 ?_
                            refine J_top (x' := nI (40 + i)) (nI_add 40 i) ?_
                            refine J_iconst E dX6_sheet_113 ic_0 ?_
                            refine sMn_1 E (j := (40 + i)) (i := i) rfl (by omega) dX6_sheet_114 ?_
                            refine J_iinc E (lv' := [(5, .int (nI (i + 1))), (0, .ref (b 0)), (1, .int (nI 1)), (2, .int 32), (3, .int n)]) dX6_sheet_115 4 rfl (nI_inc _) (by decide) rfl ?_
                            refine J_goto E (tgt := 95) dX6_sheet_118 (by decide) ?_
                            refine J_lv [1, 2, 3, 4, 0] rfl ?_
                            exact ih95 (i + 1) ((up3 (upG y 9 r) 9 0 i 0) 9) (by omega) (by rw [hr]; exact up2_upR) (by omega)
                      refine J_lv [2, 3, 4, 5, 0] rfl ?_
                      exact lp95 _ 0 ((up3 (up3 y 9 1 0 32) 9 1 1 n) 9) (by omega) (upR_id (r := 0)).symm (Nat.lt_succ_self _)
                    · skip
                      have n_83 : 32 = 0 := cmp_eq (a := 32) (b := 0) (by omega) (by omega) c_83
                      exact absurd n_83 (by decide)
                  · skip
                    exact absurd hn2 c_61
                · skip
                  exact absurd (Int32.not_le.mp c_48) hn
              · skip
                have n_38 : 1 = 0 := cmp_eq (a := 1) (b := 0) (by omega) (by omega) c_38
                exact absurd n_38 (by decide)

set_option maxHeartbeats 4000000 in
set_option maxRecDepth 20000 in
theorem c_X6_sheet_ok_2 (l : Launch) (G : GB) (b : Nat → Nat) (y : Q3) (c n : Int32) (hbt : (c = 0 ∨ c = 8 ∨ c = 16 ∨ c = 32)) (hn : ¬ n < 0) (hn2 : n ≤ 40) : CI l yX6_sheet cX6_sheet 6 .int 2 45 G [.ref (b 0), .int (nI 2), .int c, .int n] (wM G b y) (fun vR w' => vR = (if c = 0 then 0 else n) ∧ PubM G b (upG y 10 (beginS (y 10) c (if c = 0 then 0 else n))) w') := by
  refine CI.mk (own := RX6) (by decide) rfl (Nat.le_of_ble_eq_true rfl) ?_
  intro X E ret
  show J X G 6 0 0 (wM G b y) [(0, .ref (b 0)), (1, .int (nI 2)), (2, .int c), (3, .int n)] 0 []
  rcases hbt with rfl | rfl | rfl | rfl
  · skip
    refine J_iload_n E dX6_sheet_0 rfl 2 rfl ?_
    refine J_if_eq E (tgt := 22) dX6_sheet_1 (by decide) (fun c_1 => ?_) (fun c_1 => ?_)
    · skip
      have n_1 : 0 = 0 := cmp_eq (a := 0) (b := 0) (by omega) (by omega) c_1
      refine J_iconst E dX6_sheet_22 ic_1 ?_
      refine J_goto E (tgt := 27) dX6_sheet_23 (by decide) ?_
      refine J_istore E (lv' := [(4, .int 1), (0, .ref (b 0)), (1, .int (nI 2)), (2, .int 0), (3, .int n)]) dX6_sheet_27 (by decide) rfl ?_
      refine J_iload_n E dX6_sheet_29 rfl 2 rfl ?_
      refine J_cSiN E (As := [.int (nI 2)]) (c_X6_isSheet l G (nI 2) ) cl_X6_303 yo_X6_isSheet dX6_sheet_30 rfl (Nat.le_of_ble_eq_true rfl) (Nat.le_of_ble_eq_true rfl) rfl (Nat.le_of_ble_eq_true rfl) ⟨Nat.zero_le _, Nat.zero_le _⟩ ?_
      refine J_if_eq E (tgt := 41) dX6_sheet_33 (by decide) (fun c_33 => ?_) (fun c_33 => ?_)
      · skip
        have c_33 := bI_0 c_33
        exact absurd (in3 (by decide)) c_33
      · skip
        have c_33 := bI_1 c_33
        refine J_iload E dX6_sheet_36 0 rfl ?_
        refine J_if_ne E (tgt := 47) dX6_sheet_38 (by decide) (fun c_38 => ?_) (fun c_38 => ?_)
        · skip
          have n_38 : ¬ 1 = 0 := cmp_ne (a := 1) (b := 0) (by omega) (by omega) c_38
          refine J_iload_n E dX6_sheet_47 rfl 4 rfl ?_
          refine J_if_ge E (tgt := 58) dX6_sheet_48 (by decide) (fun c_48 => ?_) (fun c_48 => ?_)
          · skip
            refine J_iload_n E dX6_sheet_58 rfl 4 rfl ?_
            refine J_bipush E dX6_sheet_59 bp_40 ?_
            refine J_icmp_le E (tgt := 70) dX6_sheet_61 (by decide) (fun c_61 => ?_) (fun c_61 => ?_)
            · skip
              refine J_aload_n E dX6_sheet_70 rfl 1 rfl ?_
              refine gM0_X6_31 E dX6_sheet_71 ?_
              refine J_iload_n E dX6_sheet_74 rfl 2 rfl ?_
              refine J_iload_n E dX6_sheet_75 rfl 3 rfl ?_
              refine sMb_2 E  dX6_sheet_76 ?_
              refine J_aload_n E dX6_sheet_77 rfl 1 rfl ?_
              refine gM0_X6_34 E dX6_sheet_78 ?_
              refine J_iload_n E dX6_sheet_81 rfl 2 rfl ?_
              refine J_iload_n E dX6_sheet_82 rfl 3 rfl ?_
              refine J_if_ne E (tgt := 90) dX6_sheet_83 (by decide) (fun c_83 => ?_) (fun c_83 => ?_)
              · skip
                have n_83 : ¬ 0 = 0 := cmp_ne (a := 0) (b := 0) (by omega) (by omega) c_83
                exact absurd n_83 (by decide)
              · skip
                have n_83 : 0 = 0 := cmp_eq (a := 0) (b := 0) (by omega) (by omega) c_83
                refine J_iconst E dX6_sheet_86 ic_0 ?_
                refine J_goto E (tgt := 91) dX6_sheet_87 (by decide) ?_
                refine sMz_2 E  dX6_sheet_91 ?_
                refine J_iconst E dX6_sheet_92 ic_0 ?_
                refine J_istore E (lv' := [(5, .int 0), (4, .int 1), (0, .ref (b 0)), (1, .int (nI 2)), (2, .int 0), (3, .int n)]) dX6_sheet_93 (by decide) rfl ?_
                have lp95 : ∀ (fu : Nat) (i : Nat) (r : Q2), (i ≤ 40) → (r = upR ((up3 (up3 y 10 1 0 0) 10 1 1 0) 10) 0 (fillF (y 10 0) 0 i)) → 40 - i < fu → J X G 6 0 0 (wM G b (upG y 10 r)) [(0, .ref (b 0)), (1, .int (nI 2)), (2, .int 0), (3, .int n), (5, .int (nI i))] 95 [] := by
                  intro fu
                  induction fu with
                  | zero => intro i r hi hr hm; exact absurd hm (Nat.not_lt_zero _)
                  | succ fu ih95 =>
                    intro i r hi hr hm
                    refine J_iload E dX6_sheet_95 4 rfl ?_
                    refine J_bipush E dX6_sheet_97 bp_40 ?_
                    refine J_icmp_ge E (tgt := 121) dX6_sheet_99 (by decide) (fun c_99 => ?_) (fun c_99 => ?_)
                    · skip
                      have n_99 : 40 ≤ i := cmp_le (a := 40) (b := i) (by omega) (by omega) c_99
                      refine J_aload_n E dX6_sheet_121 rfl 0 rfl ?_
                      refine gM0_X6_34 E dX6_sheet_122 ?_
                      refine J_iload_n E dX6_sheet_125 rfl 1 rfl ?_
                      refine lMz_2 E  dX6_sheet_126 ?_
                      refine J_top (x' := r 1 1) upG_s ?_
                      refine J_mr10 (f := fun _ => 0) (fun j hj => by rw [hr, show i = 40 by omega]; exact fillF_lt _ _ 40 j hj) ?_
                      exact ret _ _ _ _ ⟨by rw [hr]; rfl, _, rfl, by rw [hr, upR_upR]; exact ShM.rfl'⟩ rfl dX6_sheet_127
                    · skip
                      have n_99 : ¬ 40 ≤ i := cmp_nle (a := 40) (b := i) (by omega) (by omega) c_99
                      refine J_aload_n E dX6_sheet_102 rfl 0 rfl ?_
                      refine gM0_X6_37 E dX6_sheet_103 ?_
                      refine J_bipush E dX6_sheet_106 bp_40 ?_
                      refine J_iload_n E dX6_sheet_108 rfl 1 rfl ?_
                      refine J_imul E dX6_sheet_109 ?_
                      refine J_top (x' := nI 80) (by decide) ?_
                      refine J_iload E dX6_sheet_110 4 rfl ?_
                      refine J_iadd E dX6_sheet_112 ?_
                      refine J_top (x' := nI (80 + i)) (nI_add 80 i) ?_
                      refine J_iconst E dX6_sheet_113 ic_0 ?_
                      refine sMn_2 E (j := (80 + i)) (i := i) rfl (by omega) dX6_sheet_114 ?_
                      refine J_iinc E (lv' := [(5, .int (nI (i + 1))), (0, .ref (b 0)), (1, .int (nI 2)), (2, .int 0), (3, .int n)]) dX6_sheet_115 4 rfl (nI_inc _) (by decide) rfl ?_
                      refine J_goto E (tgt := 95) dX6_sheet_118 (by decide) ?_
                      refine J_lv [1, 2, 3, 4, 0] rfl ?_
                      exact ih95 (i + 1) ((up3 (upG y 10 r) 10 0 i 0) 10) (by omega) (by rw [hr]; exact up2_upR) (by omega)
                refine J_lv [2, 3, 4, 5, 0] rfl ?_
                exact lp95 _ 0 ((up3 (up3 y 10 1 0 0) 10 1 1 0) 10) (by omega) (upR_id (r := 0)).symm (Nat.lt_succ_self _)
            · skip
              exact absurd hn2 c_61
          · skip
            exact absurd (Int32.not_le.mp c_48) hn
        · skip
          have n_38 : 1 = 0 := cmp_eq (a := 1) (b := 0) (by omega) (by omega) c_38
          exact absurd n_38 (by decide)
    · skip
      have n_1 : ¬ 0 = 0 := cmp_ne (a := 0) (b := 0) (by omega) (by omega) c_1
      exact absurd n_1 (by decide)
  · skip
    refine J_iload_n E dX6_sheet_0 rfl 2 rfl ?_
    refine J_if_eq E (tgt := 22) dX6_sheet_1 (by decide) (fun c_1 => ?_) (fun c_1 => ?_)
    · skip
      have n_1 : 8 = 0 := cmp_eq (a := 8) (b := 0) (by omega) (by omega) c_1
      exact absurd n_1 (by decide)
    · skip
      have n_1 : ¬ 8 = 0 := cmp_ne (a := 8) (b := 0) (by omega) (by omega) c_1
      refine J_iload_n E dX6_sheet_4 rfl 2 rfl ?_
      refine J_bipush E dX6_sheet_5 bp_8 ?_
      refine J_icmp_eq E (tgt := 22) dX6_sheet_7 (by decide) (fun c_7 => ?_) (fun c_7 => ?_)
      · skip
        have n_7 : 8 = 8 := cmp_eq (a := 8) (b := 8) (by omega) (by omega) c_7
        refine J_iconst E dX6_sheet_22 ic_1 ?_
        refine J_goto E (tgt := 27) dX6_sheet_23 (by decide) ?_
        refine J_istore E (lv' := [(4, .int 1), (0, .ref (b 0)), (1, .int (nI 2)), (2, .int 8), (3, .int n)]) dX6_sheet_27 (by decide) rfl ?_
        refine J_iload_n E dX6_sheet_29 rfl 2 rfl ?_
        refine J_cSiN E (As := [.int (nI 2)]) (c_X6_isSheet l G (nI 2) ) cl_X6_303 yo_X6_isSheet dX6_sheet_30 rfl (Nat.le_of_ble_eq_true rfl) (Nat.le_of_ble_eq_true rfl) rfl (Nat.le_of_ble_eq_true rfl) ⟨Nat.zero_le _, Nat.zero_le _⟩ ?_
        refine J_if_eq E (tgt := 41) dX6_sheet_33 (by decide) (fun c_33 => ?_) (fun c_33 => ?_)
        · skip
          have c_33 := bI_0 c_33
          exact absurd (in3 (by decide)) c_33
        · skip
          have c_33 := bI_1 c_33
          refine J_iload E dX6_sheet_36 0 rfl ?_
          refine J_if_ne E (tgt := 47) dX6_sheet_38 (by decide) (fun c_38 => ?_) (fun c_38 => ?_)
          · skip
            have n_38 : ¬ 1 = 0 := cmp_ne (a := 1) (b := 0) (by omega) (by omega) c_38
            refine J_iload_n E dX6_sheet_47 rfl 4 rfl ?_
            refine J_if_ge E (tgt := 58) dX6_sheet_48 (by decide) (fun c_48 => ?_) (fun c_48 => ?_)
            · skip
              refine J_iload_n E dX6_sheet_58 rfl 4 rfl ?_
              refine J_bipush E dX6_sheet_59 bp_40 ?_
              refine J_icmp_le E (tgt := 70) dX6_sheet_61 (by decide) (fun c_61 => ?_) (fun c_61 => ?_)
              · skip
                refine J_aload_n E dX6_sheet_70 rfl 1 rfl ?_
                refine gM0_X6_31 E dX6_sheet_71 ?_
                refine J_iload_n E dX6_sheet_74 rfl 2 rfl ?_
                refine J_iload_n E dX6_sheet_75 rfl 3 rfl ?_
                refine sMb_2 E  dX6_sheet_76 ?_
                refine J_aload_n E dX6_sheet_77 rfl 1 rfl ?_
                refine gM0_X6_34 E dX6_sheet_78 ?_
                refine J_iload_n E dX6_sheet_81 rfl 2 rfl ?_
                refine J_iload_n E dX6_sheet_82 rfl 3 rfl ?_
                refine J_if_ne E (tgt := 90) dX6_sheet_83 (by decide) (fun c_83 => ?_) (fun c_83 => ?_)
                · skip
                  have n_83 : ¬ 8 = 0 := cmp_ne (a := 8) (b := 0) (by omega) (by omega) c_83
                  refine J_iload_n E dX6_sheet_90 rfl 4 rfl ?_
                  refine sMz_2 E  dX6_sheet_91 ?_
                  refine J_iconst E dX6_sheet_92 ic_0 ?_
                  refine J_istore E (lv' := [(5, .int 0), (4, .int 1), (0, .ref (b 0)), (1, .int (nI 2)), (2, .int 8), (3, .int n)]) dX6_sheet_93 (by decide) rfl ?_
                  have lp95 : ∀ (fu : Nat) (i : Nat) (r : Q2), (i ≤ 40) → (r = upR ((up3 (up3 y 10 1 0 8) 10 1 1 n) 10) 0 (fillF (y 10 0) 0 i)) → 40 - i < fu → J X G 6 0 0 (wM G b (upG y 10 r)) [(0, .ref (b 0)), (1, .int (nI 2)), (2, .int 8), (3, .int n), (5, .int (nI i))] 95 [] := by
                    intro fu
                    induction fu with
                    | zero => intro i r hi hr hm; exact absurd hm (Nat.not_lt_zero _)
                    | succ fu ih95 =>
                      intro i r hi hr hm
                      refine J_iload E dX6_sheet_95 4 rfl ?_
                      refine J_bipush E dX6_sheet_97 bp_40 ?_
                      refine J_icmp_ge E (tgt := 121) dX6_sheet_99 (by decide) (fun c_99 => ?_) (fun c_99 => ?_)
                      · skip
                        have n_99 : 40 ≤ i := cmp_le (a := 40) (b := i) (by omega) (by omega) c_99
                        refine J_aload_n E dX6_sheet_121 rfl 0 rfl ?_
                        refine gM0_X6_34 E dX6_sheet_122 ?_
                        refine J_iload_n E dX6_sheet_125 rfl 1 rfl ?_
                        refine lMz_2 E  dX6_sheet_126 ?_
                        refine J_top (x' := r 1 1) upG_s ?_
                        refine J_mr10 (f := fun _ => 0) (fun j hj => by rw [hr, show i = 40 by omega]; exact fillF_lt _ _ 40 j hj) ?_
                        exact ret _ _ _ _ ⟨by rw [hr]; rfl, _, rfl, by rw [hr, upR_upR]; exact ShM.rfl'⟩ rfl dX6_sheet_127
                      · skip
                        have n_99 : ¬ 40 ≤ i := cmp_nle (a := 40) (b := i) (by omega) (by omega) c_99
                        refine J_aload_n E dX6_sheet_102 rfl 0 rfl ?_
                        refine gM0_X6_37 E dX6_sheet_103 ?_
                        refine J_bipush E dX6_sheet_106 bp_40 ?_
                        refine J_iload_n E dX6_sheet_108 rfl 1 rfl ?_
                        refine J_imul E dX6_sheet_109 ?_
                        refine J_top (x' := nI 80) (by decide) ?_
                        refine J_iload E dX6_sheet_110 4 rfl ?_
                        refine J_iadd E dX6_sheet_112 ?_
                        refine J_top (x' := nI (80 + i)) (nI_add 80 i) ?_
                        refine J_iconst E dX6_sheet_113 ic_0 ?_
                        refine sMn_2 E (j := (80 + i)) (i := i) rfl (by omega) dX6_sheet_114 ?_
                        refine J_iinc E (lv' := [(5, .int (nI (i + 1))), (0, .ref (b 0)), (1, .int (nI 2)), (2, .int 8), (3, .int n)]) dX6_sheet_115 4 rfl (nI_inc _) (by decide) rfl ?_
                        refine J_goto E (tgt := 95) dX6_sheet_118 (by decide) ?_
                        refine J_lv [1, 2, 3, 4, 0] rfl ?_
                        exact ih95 (i + 1) ((up3 (upG y 10 r) 10 0 i 0) 10) (by omega) (by rw [hr]; exact up2_upR) (by omega)
                  refine J_lv [2, 3, 4, 5, 0] rfl ?_
                  exact lp95 _ 0 ((up3 (up3 y 10 1 0 8) 10 1 1 n) 10) (by omega) (upR_id (r := 0)).symm (Nat.lt_succ_self _)
                · skip
                  have n_83 : 8 = 0 := cmp_eq (a := 8) (b := 0) (by omega) (by omega) c_83
                  exact absurd n_83 (by decide)
              · skip
                exact absurd hn2 c_61
            · skip
              exact absurd (Int32.not_le.mp c_48) hn
          · skip
            have n_38 : 1 = 0 := cmp_eq (a := 1) (b := 0) (by omega) (by omega) c_38
            exact absurd n_38 (by decide)
      · skip
        have n_7 : ¬ 8 = 8 := cmp_ne (a := 8) (b := 8) (by omega) (by omega) c_7
        exact absurd n_7 (by decide)
  · skip
    refine J_iload_n E dX6_sheet_0 rfl 2 rfl ?_
    refine J_if_eq E (tgt := 22) dX6_sheet_1 (by decide) (fun c_1 => ?_) (fun c_1 => ?_)
    · skip
      have n_1 : 16 = 0 := cmp_eq (a := 16) (b := 0) (by omega) (by omega) c_1
      exact absurd n_1 (by decide)
    · skip
      have n_1 : ¬ 16 = 0 := cmp_ne (a := 16) (b := 0) (by omega) (by omega) c_1
      refine J_iload_n E dX6_sheet_4 rfl 2 rfl ?_
      refine J_bipush E dX6_sheet_5 bp_8 ?_
      refine J_icmp_eq E (tgt := 22) dX6_sheet_7 (by decide) (fun c_7 => ?_) (fun c_7 => ?_)
      · skip
        have n_7 : 16 = 8 := cmp_eq (a := 16) (b := 8) (by omega) (by omega) c_7
        exact absurd n_7 (by decide)
      · skip
        have n_7 : ¬ 16 = 8 := cmp_ne (a := 16) (b := 8) (by omega) (by omega) c_7
        refine J_iload_n E dX6_sheet_10 rfl 2 rfl ?_
        refine J_bipush E dX6_sheet_11 bp_16 ?_
        refine J_icmp_eq E (tgt := 22) dX6_sheet_13 (by decide) (fun c_13 => ?_) (fun c_13 => ?_)
        · skip
          have n_13 : 16 = 16 := cmp_eq (a := 16) (b := 16) (by omega) (by omega) c_13
          refine J_iconst E dX6_sheet_22 ic_1 ?_
          refine J_goto E (tgt := 27) dX6_sheet_23 (by decide) ?_
          refine J_istore E (lv' := [(4, .int 1), (0, .ref (b 0)), (1, .int (nI 2)), (2, .int 16), (3, .int n)]) dX6_sheet_27 (by decide) rfl ?_
          refine J_iload_n E dX6_sheet_29 rfl 2 rfl ?_
          refine J_cSiN E (As := [.int (nI 2)]) (c_X6_isSheet l G (nI 2) ) cl_X6_303 yo_X6_isSheet dX6_sheet_30 rfl (Nat.le_of_ble_eq_true rfl) (Nat.le_of_ble_eq_true rfl) rfl (Nat.le_of_ble_eq_true rfl) ⟨Nat.zero_le _, Nat.zero_le _⟩ ?_
          refine J_if_eq E (tgt := 41) dX6_sheet_33 (by decide) (fun c_33 => ?_) (fun c_33 => ?_)
          · skip
            have c_33 := bI_0 c_33
            exact absurd (in3 (by decide)) c_33
          · skip
            have c_33 := bI_1 c_33
            refine J_iload E dX6_sheet_36 0 rfl ?_
            refine J_if_ne E (tgt := 47) dX6_sheet_38 (by decide) (fun c_38 => ?_) (fun c_38 => ?_)
            · skip
              have n_38 : ¬ 1 = 0 := cmp_ne (a := 1) (b := 0) (by omega) (by omega) c_38
              refine J_iload_n E dX6_sheet_47 rfl 4 rfl ?_
              refine J_if_ge E (tgt := 58) dX6_sheet_48 (by decide) (fun c_48 => ?_) (fun c_48 => ?_)
              · skip
                refine J_iload_n E dX6_sheet_58 rfl 4 rfl ?_
                refine J_bipush E dX6_sheet_59 bp_40 ?_
                refine J_icmp_le E (tgt := 70) dX6_sheet_61 (by decide) (fun c_61 => ?_) (fun c_61 => ?_)
                · skip
                  refine J_aload_n E dX6_sheet_70 rfl 1 rfl ?_
                  refine gM0_X6_31 E dX6_sheet_71 ?_
                  refine J_iload_n E dX6_sheet_74 rfl 2 rfl ?_
                  refine J_iload_n E dX6_sheet_75 rfl 3 rfl ?_
                  refine sMb_2 E  dX6_sheet_76 ?_
                  refine J_aload_n E dX6_sheet_77 rfl 1 rfl ?_
                  refine gM0_X6_34 E dX6_sheet_78 ?_
                  refine J_iload_n E dX6_sheet_81 rfl 2 rfl ?_
                  refine J_iload_n E dX6_sheet_82 rfl 3 rfl ?_
                  refine J_if_ne E (tgt := 90) dX6_sheet_83 (by decide) (fun c_83 => ?_) (fun c_83 => ?_)
                  · skip
                    have n_83 : ¬ 16 = 0 := cmp_ne (a := 16) (b := 0) (by omega) (by omega) c_83
                    refine J_iload_n E dX6_sheet_90 rfl 4 rfl ?_
                    refine sMz_2 E  dX6_sheet_91 ?_
                    refine J_iconst E dX6_sheet_92 ic_0 ?_
                    refine J_istore E (lv' := [(5, .int 0), (4, .int 1), (0, .ref (b 0)), (1, .int (nI 2)), (2, .int 16), (3, .int n)]) dX6_sheet_93 (by decide) rfl ?_
                    have lp95 : ∀ (fu : Nat) (i : Nat) (r : Q2), (i ≤ 40) → (r = upR ((up3 (up3 y 10 1 0 16) 10 1 1 n) 10) 0 (fillF (y 10 0) 0 i)) → 40 - i < fu → J X G 6 0 0 (wM G b (upG y 10 r)) [(0, .ref (b 0)), (1, .int (nI 2)), (2, .int 16), (3, .int n), (5, .int (nI i))] 95 [] := by
                      intro fu
                      induction fu with
                      | zero => intro i r hi hr hm; exact absurd hm (Nat.not_lt_zero _)
                      | succ fu ih95 =>
                        intro i r hi hr hm
                        refine J_iload E dX6_sheet_95 4 rfl ?_
                        refine J_bipush E dX6_sheet_97 bp_40 ?_
                        refine J_icmp_ge E (tgt := 121) dX6_sheet_99 (by decide) (fun c_99 => ?_) (fun c_99 => ?_)
                        · skip
                          have n_99 : 40 ≤ i := cmp_le (a := 40) (b := i) (by omega) (by omega) c_99
                          refine J_aload_n E dX6_sheet_121 rfl 0 rfl ?_
                          refine gM0_X6_34 E dX6_sheet_122 ?_
                          refine J_iload_n E dX6_sheet_125 rfl 1 rfl ?_
                          refine lMz_2 E  dX6_sheet_126 ?_
                          refine J_top (x' := r 1 1) upG_s ?_
                          refine J_mr10 (f := fun _ => 0) (fun j hj => by rw [hr, show i = 40 by omega]; exact fillF_lt _ _ 40 j hj) ?_
                          exact ret _ _ _ _ ⟨by rw [hr]; rfl, _, rfl, by rw [hr, upR_upR]; exact ShM.rfl'⟩ rfl dX6_sheet_127
                        · skip
                          have n_99 : ¬ 40 ≤ i := cmp_nle (a := 40) (b := i) (by omega) (by omega) c_99
                          refine J_aload_n E dX6_sheet_102 rfl 0 rfl ?_
                          refine gM0_X6_37 E dX6_sheet_103 ?_
                          refine J_bipush E dX6_sheet_106 bp_40 ?_
                          refine J_iload_n E dX6_sheet_108 rfl 1 rfl ?_
                          refine J_imul E dX6_sheet_109 ?_
                          refine J_top (x' := nI 80) (by decide) ?_
                          refine J_iload E dX6_sheet_110 4 rfl ?_
                          refine J_iadd E dX6_sheet_112 ?_
                          refine J_top (x' := nI (80 + i)) (nI_add 80 i) ?_
                          refine J_iconst E dX6_sheet_113 ic_0 ?_
                          refine sMn_2 E (j := (80 + i)) (i := i) rfl (by omega) dX6_sheet_114 ?_
                          refine J_iinc E (lv' := [(5, .int (nI (i + 1))), (0, .ref (b 0)), (1, .int (nI 2)), (2, .int 16), (3, .int n)]) dX6_sheet_115 4 rfl (nI_inc _) (by decide) rfl ?_
                          refine J_goto E (tgt := 95) dX6_sheet_118 (by decide) ?_
                          refine J_lv [1, 2, 3, 4, 0] rfl ?_
                          exact ih95 (i + 1) ((up3 (upG y 10 r) 10 0 i 0) 10) (by omega) (by rw [hr]; exact up2_upR) (by omega)
                    refine J_lv [2, 3, 4, 5, 0] rfl ?_
                    exact lp95 _ 0 ((up3 (up3 y 10 1 0 16) 10 1 1 n) 10) (by omega) (upR_id (r := 0)).symm (Nat.lt_succ_self _)
                  · skip
                    have n_83 : 16 = 0 := cmp_eq (a := 16) (b := 0) (by omega) (by omega) c_83
                    exact absurd n_83 (by decide)
                · skip
                  exact absurd hn2 c_61
              · skip
                exact absurd (Int32.not_le.mp c_48) hn
            · skip
              have n_38 : 1 = 0 := cmp_eq (a := 1) (b := 0) (by omega) (by omega) c_38
              exact absurd n_38 (by decide)
        · skip
          have n_13 : ¬ 16 = 16 := cmp_ne (a := 16) (b := 16) (by omega) (by omega) c_13
          exact absurd n_13 (by decide)
  · skip
    refine J_iload_n E dX6_sheet_0 rfl 2 rfl ?_
    refine J_if_eq E (tgt := 22) dX6_sheet_1 (by decide) (fun c_1 => ?_) (fun c_1 => ?_)
    · skip
      have n_1 : 32 = 0 := cmp_eq (a := 32) (b := 0) (by omega) (by omega) c_1
      exact absurd n_1 (by decide)
    · skip
      have n_1 : ¬ 32 = 0 := cmp_ne (a := 32) (b := 0) (by omega) (by omega) c_1
      refine J_iload_n E dX6_sheet_4 rfl 2 rfl ?_
      refine J_bipush E dX6_sheet_5 bp_8 ?_
      refine J_icmp_eq E (tgt := 22) dX6_sheet_7 (by decide) (fun c_7 => ?_) (fun c_7 => ?_)
      · skip
        have n_7 : 32 = 8 := cmp_eq (a := 32) (b := 8) (by omega) (by omega) c_7
        exact absurd n_7 (by decide)
      · skip
        have n_7 : ¬ 32 = 8 := cmp_ne (a := 32) (b := 8) (by omega) (by omega) c_7
        refine J_iload_n E dX6_sheet_10 rfl 2 rfl ?_
        refine J_bipush E dX6_sheet_11 bp_16 ?_
        refine J_icmp_eq E (tgt := 22) dX6_sheet_13 (by decide) (fun c_13 => ?_) (fun c_13 => ?_)
        · skip
          have n_13 : 32 = 16 := cmp_eq (a := 32) (b := 16) (by omega) (by omega) c_13
          exact absurd n_13 (by decide)
        · skip
          have n_13 : ¬ 32 = 16 := cmp_ne (a := 32) (b := 16) (by omega) (by omega) c_13
          refine J_iload_n E dX6_sheet_16 rfl 2 rfl ?_
          refine J_bipush E dX6_sheet_17 bp_32 ?_
          refine J_icmp_ne E (tgt := 26) dX6_sheet_19 (by decide) (fun c_19 => ?_) (fun c_19 => ?_)
          · skip
            have n_19 : ¬ 32 = 32 := cmp_ne (a := 32) (b := 32) (by omega) (by omega) c_19
            exact absurd n_19 (by decide)
          · skip
            have n_19 : 32 = 32 := cmp_eq (a := 32) (b := 32) (by omega) (by omega) c_19
            refine J_iconst E dX6_sheet_22 ic_1 ?_
            refine J_goto E (tgt := 27) dX6_sheet_23 (by decide) ?_
            refine J_istore E (lv' := [(4, .int 1), (0, .ref (b 0)), (1, .int (nI 2)), (2, .int 32), (3, .int n)]) dX6_sheet_27 (by decide) rfl ?_
            refine J_iload_n E dX6_sheet_29 rfl 2 rfl ?_
            refine J_cSiN E (As := [.int (nI 2)]) (c_X6_isSheet l G (nI 2) ) cl_X6_303 yo_X6_isSheet dX6_sheet_30 rfl (Nat.le_of_ble_eq_true rfl) (Nat.le_of_ble_eq_true rfl) rfl (Nat.le_of_ble_eq_true rfl) ⟨Nat.zero_le _, Nat.zero_le _⟩ ?_
            refine J_if_eq E (tgt := 41) dX6_sheet_33 (by decide) (fun c_33 => ?_) (fun c_33 => ?_)
            · skip
              have c_33 := bI_0 c_33
              exact absurd (in3 (by decide)) c_33
            · skip
              have c_33 := bI_1 c_33
              refine J_iload E dX6_sheet_36 0 rfl ?_
              refine J_if_ne E (tgt := 47) dX6_sheet_38 (by decide) (fun c_38 => ?_) (fun c_38 => ?_)
              · skip
                have n_38 : ¬ 1 = 0 := cmp_ne (a := 1) (b := 0) (by omega) (by omega) c_38
                refine J_iload_n E dX6_sheet_47 rfl 4 rfl ?_
                refine J_if_ge E (tgt := 58) dX6_sheet_48 (by decide) (fun c_48 => ?_) (fun c_48 => ?_)
                · skip
                  refine J_iload_n E dX6_sheet_58 rfl 4 rfl ?_
                  refine J_bipush E dX6_sheet_59 bp_40 ?_
                  refine J_icmp_le E (tgt := 70) dX6_sheet_61 (by decide) (fun c_61 => ?_) (fun c_61 => ?_)
                  · skip
                    refine J_aload_n E dX6_sheet_70 rfl 1 rfl ?_
                    refine gM0_X6_31 E dX6_sheet_71 ?_
                    refine J_iload_n E dX6_sheet_74 rfl 2 rfl ?_
                    refine J_iload_n E dX6_sheet_75 rfl 3 rfl ?_
                    refine sMb_2 E  dX6_sheet_76 ?_
                    refine J_aload_n E dX6_sheet_77 rfl 1 rfl ?_
                    refine gM0_X6_34 E dX6_sheet_78 ?_
                    refine J_iload_n E dX6_sheet_81 rfl 2 rfl ?_
                    refine J_iload_n E dX6_sheet_82 rfl 3 rfl ?_
                    refine J_if_ne E (tgt := 90) dX6_sheet_83 (by decide) (fun c_83 => ?_) (fun c_83 => ?_)
                    · skip
                      have n_83 : ¬ 32 = 0 := cmp_ne (a := 32) (b := 0) (by omega) (by omega) c_83
                      refine J_iload_n E dX6_sheet_90 rfl 4 rfl ?_
                      refine sMz_2 E  dX6_sheet_91 ?_
                      refine J_iconst E dX6_sheet_92 ic_0 ?_
                      refine J_istore E (lv' := [(5, .int 0), (4, .int 1), (0, .ref (b 0)), (1, .int (nI 2)), (2, .int 32), (3, .int n)]) dX6_sheet_93 (by decide) rfl ?_
                      have lp95 : ∀ (fu : Nat) (i : Nat) (r : Q2), (i ≤ 40) → (r = upR ((up3 (up3 y 10 1 0 32) 10 1 1 n) 10) 0 (fillF (y 10 0) 0 i)) → 40 - i < fu → J X G 6 0 0 (wM G b (upG y 10 r)) [(0, .ref (b 0)), (1, .int (nI 2)), (2, .int 32), (3, .int n), (5, .int (nI i))] 95 [] := by
                        intro fu
                        induction fu with
                        | zero => intro i r hi hr hm; exact absurd hm (Nat.not_lt_zero _)
                        | succ fu ih95 =>
                          intro i r hi hr hm
                          refine J_iload E dX6_sheet_95 4 rfl ?_
                          refine J_bipush E dX6_sheet_97 bp_40 ?_
                          refine J_icmp_ge E (tgt := 121) dX6_sheet_99 (by decide) (fun c_99 => ?_) (fun c_99 => ?_)
                          · skip
                            have n_99 : 40 ≤ i := cmp_le (a := 40) (b := i) (by omega) (by omega) c_99
                            refine J_aload_n E dX6_sheet_121 rfl 0 rfl ?_
                            refine gM0_X6_34 E dX6_sheet_122 ?_
                            refine J_iload_n E dX6_sheet_125 rfl 1 rfl ?_
                            refine lMz_2 E  dX6_sheet_126 ?_
                            refine J_top (x' := r 1 1) upG_s ?_
                            refine J_mr10 (f := fun _ => 0) (fun j hj => by rw [hr, show i = 40 by omega]; exact fillF_lt _ _ 40 j hj) ?_
                            exact ret _ _ _ _ ⟨by rw [hr]; rfl, _, rfl, by rw [hr, upR_upR]; exact ShM.rfl'⟩ rfl dX6_sheet_127
                          · skip
                            have n_99 : ¬ 40 ≤ i := cmp_nle (a := 40) (b := i) (by omega) (by omega) c_99
                            refine J_aload_n E dX6_sheet_102 rfl 0 rfl ?_
                            refine gM0_X6_37 E dX6_sheet_103 ?_
                            refine J_bipush E dX6_sheet_106 bp_40 ?_
                            refine J_iload_n E dX6_sheet_108 rfl 1 rfl ?_
                            refine J_imul E dX6_sheet_109 ?_
                            refine J_top (x' := nI 80) (by decide) ?_
                            refine J_iload E dX6_sheet_110 4 rfl ?_
                            refine J_iadd E dX6_sheet_112 ?_
                            refine J_top (x' := nI (80 + i)) (nI_add 80 i) ?_
                            refine J_iconst E dX6_sheet_113 ic_0 ?_
                            refine sMn_2 E (j := (80 + i)) (i := i) rfl (by omega) dX6_sheet_114 ?_
                            refine J_iinc E (lv' := [(5, .int (nI (i + 1))), (0, .ref (b 0)), (1, .int (nI 2)), (2, .int 32), (3, .int n)]) dX6_sheet_115 4 rfl (nI_inc _) (by decide) rfl ?_
                            refine J_goto E (tgt := 95) dX6_sheet_118 (by decide) ?_
                            refine J_lv [1, 2, 3, 4, 0] rfl ?_
                            exact ih95 (i + 1) ((up3 (upG y 10 r) 10 0 i 0) 10) (by omega) (by rw [hr]; exact up2_upR) (by omega)
                      refine J_lv [2, 3, 4, 5, 0] rfl ?_
                      exact lp95 _ 0 ((up3 (up3 y 10 1 0 32) 10 1 1 n) 10) (by omega) (upR_id (r := 0)).symm (Nat.lt_succ_self _)
                    · skip
                      have n_83 : 32 = 0 := cmp_eq (a := 32) (b := 0) (by omega) (by omega) c_83
                      exact absurd n_83 (by decide)
                  · skip
                    exact absurd hn2 c_61
                · skip
                  exact absurd (Int32.not_le.mp c_48) hn
              · skip
                have n_38 : 1 = 0 := cmp_eq (a := 1) (b := 0) (by omega) (by omega) c_38
                exact absurd n_38 (by decide)

set_option maxHeartbeats 4000000 in
set_option maxRecDepth 20000 in
theorem c_X6_sheet_ok_3 (l : Launch) (G : GB) (b : Nat → Nat) (y : Q3) (c n : Int32) (hbt : (c = 0 ∨ c = 8 ∨ c = 16 ∨ c = 32)) (hn : ¬ n < 0) (hn2 : n ≤ 40) : CI l yX6_sheet cX6_sheet 6 .int 2 45 G [.ref (b 0), .int (nI 3), .int c, .int n] (wM G b y) (fun vR w' => vR = (if c = 0 then 0 else n) ∧ PubM G b (upG y 11 (beginS (y 11) c (if c = 0 then 0 else n))) w') := by
  refine CI.mk (own := RX6) (by decide) rfl (Nat.le_of_ble_eq_true rfl) ?_
  intro X E ret
  show J X G 6 0 0 (wM G b y) [(0, .ref (b 0)), (1, .int (nI 3)), (2, .int c), (3, .int n)] 0 []
  rcases hbt with rfl | rfl | rfl | rfl
  · skip
    refine J_iload_n E dX6_sheet_0 rfl 2 rfl ?_
    refine J_if_eq E (tgt := 22) dX6_sheet_1 (by decide) (fun c_1 => ?_) (fun c_1 => ?_)
    · skip
      have n_1 : 0 = 0 := cmp_eq (a := 0) (b := 0) (by omega) (by omega) c_1
      refine J_iconst E dX6_sheet_22 ic_1 ?_
      refine J_goto E (tgt := 27) dX6_sheet_23 (by decide) ?_
      refine J_istore E (lv' := [(4, .int 1), (0, .ref (b 0)), (1, .int (nI 3)), (2, .int 0), (3, .int n)]) dX6_sheet_27 (by decide) rfl ?_
      refine J_iload_n E dX6_sheet_29 rfl 2 rfl ?_
      refine J_cSiN E (As := [.int (nI 3)]) (c_X6_isSheet l G (nI 3) ) cl_X6_303 yo_X6_isSheet dX6_sheet_30 rfl (Nat.le_of_ble_eq_true rfl) (Nat.le_of_ble_eq_true rfl) rfl (Nat.le_of_ble_eq_true rfl) ⟨Nat.zero_le _, Nat.zero_le _⟩ ?_
      refine J_if_eq E (tgt := 41) dX6_sheet_33 (by decide) (fun c_33 => ?_) (fun c_33 => ?_)
      · skip
        have c_33 := bI_0 c_33
        exact absurd (in3 (by decide)) c_33
      · skip
        have c_33 := bI_1 c_33
        refine J_iload E dX6_sheet_36 0 rfl ?_
        refine J_if_ne E (tgt := 47) dX6_sheet_38 (by decide) (fun c_38 => ?_) (fun c_38 => ?_)
        · skip
          have n_38 : ¬ 1 = 0 := cmp_ne (a := 1) (b := 0) (by omega) (by omega) c_38
          refine J_iload_n E dX6_sheet_47 rfl 4 rfl ?_
          refine J_if_ge E (tgt := 58) dX6_sheet_48 (by decide) (fun c_48 => ?_) (fun c_48 => ?_)
          · skip
            refine J_iload_n E dX6_sheet_58 rfl 4 rfl ?_
            refine J_bipush E dX6_sheet_59 bp_40 ?_
            refine J_icmp_le E (tgt := 70) dX6_sheet_61 (by decide) (fun c_61 => ?_) (fun c_61 => ?_)
            · skip
              refine J_aload_n E dX6_sheet_70 rfl 1 rfl ?_
              refine gM0_X6_31 E dX6_sheet_71 ?_
              refine J_iload_n E dX6_sheet_74 rfl 2 rfl ?_
              refine J_iload_n E dX6_sheet_75 rfl 3 rfl ?_
              refine sMb_3 E  dX6_sheet_76 ?_
              refine J_aload_n E dX6_sheet_77 rfl 1 rfl ?_
              refine gM0_X6_34 E dX6_sheet_78 ?_
              refine J_iload_n E dX6_sheet_81 rfl 2 rfl ?_
              refine J_iload_n E dX6_sheet_82 rfl 3 rfl ?_
              refine J_if_ne E (tgt := 90) dX6_sheet_83 (by decide) (fun c_83 => ?_) (fun c_83 => ?_)
              · skip
                have n_83 : ¬ 0 = 0 := cmp_ne (a := 0) (b := 0) (by omega) (by omega) c_83
                exact absurd n_83 (by decide)
              · skip
                have n_83 : 0 = 0 := cmp_eq (a := 0) (b := 0) (by omega) (by omega) c_83
                refine J_iconst E dX6_sheet_86 ic_0 ?_
                refine J_goto E (tgt := 91) dX6_sheet_87 (by decide) ?_
                refine sMz_3 E  dX6_sheet_91 ?_
                refine J_iconst E dX6_sheet_92 ic_0 ?_
                refine J_istore E (lv' := [(5, .int 0), (4, .int 1), (0, .ref (b 0)), (1, .int (nI 3)), (2, .int 0), (3, .int n)]) dX6_sheet_93 (by decide) rfl ?_
                have lp95 : ∀ (fu : Nat) (i : Nat) (r : Q2), (i ≤ 40) → (r = upR ((up3 (up3 y 11 1 0 0) 11 1 1 0) 11) 0 (fillF (y 11 0) 0 i)) → 40 - i < fu → J X G 6 0 0 (wM G b (upG y 11 r)) [(0, .ref (b 0)), (1, .int (nI 3)), (2, .int 0), (3, .int n), (5, .int (nI i))] 95 [] := by
                  intro fu
                  induction fu with
                  | zero => intro i r hi hr hm; exact absurd hm (Nat.not_lt_zero _)
                  | succ fu ih95 =>
                    intro i r hi hr hm
                    refine J_iload E dX6_sheet_95 4 rfl ?_
                    refine J_bipush E dX6_sheet_97 bp_40 ?_
                    refine J_icmp_ge E (tgt := 121) dX6_sheet_99 (by decide) (fun c_99 => ?_) (fun c_99 => ?_)
                    · skip
                      have n_99 : 40 ≤ i := cmp_le (a := 40) (b := i) (by omega) (by omega) c_99
                      refine J_aload_n E dX6_sheet_121 rfl 0 rfl ?_
                      refine gM0_X6_34 E dX6_sheet_122 ?_
                      refine J_iload_n E dX6_sheet_125 rfl 1 rfl ?_
                      refine lMz_3 E  dX6_sheet_126 ?_
                      refine J_top (x' := r 1 1) upG_s ?_
                      refine J_mr11 (f := fun _ => 0) (fun j hj => by rw [hr, show i = 40 by omega]; exact fillF_lt _ _ 40 j hj) ?_
                      exact ret _ _ _ _ ⟨by rw [hr]; rfl, _, rfl, by rw [hr, upR_upR]; exact ShM.rfl'⟩ rfl dX6_sheet_127
                    · skip
                      have n_99 : ¬ 40 ≤ i := cmp_nle (a := 40) (b := i) (by omega) (by omega) c_99
                      refine J_aload_n E dX6_sheet_102 rfl 0 rfl ?_
                      refine gM0_X6_37 E dX6_sheet_103 ?_
                      refine J_bipush E dX6_sheet_106 bp_40 ?_
                      refine J_iload_n E dX6_sheet_108 rfl 1 rfl ?_
                      refine J_imul E dX6_sheet_109 ?_
                      refine J_top (x' := nI 120) (by decide) ?_
                      refine J_iload E dX6_sheet_110 4 rfl ?_
                      refine J_iadd E dX6_sheet_112 ?_
                      refine J_top (x' := nI (120 + i)) (nI_add 120 i) ?_
                      refine J_iconst E dX6_sheet_113 ic_0 ?_
                      refine sMn_3 E (j := (120 + i)) (i := i) rfl (by omega) dX6_sheet_114 ?_
                      refine J_iinc E (lv' := [(5, .int (nI (i + 1))), (0, .ref (b 0)), (1, .int (nI 3)), (2, .int 0), (3, .int n)]) dX6_sheet_115 4 rfl (nI_inc _) (by decide) rfl ?_
                      refine J_goto E (tgt := 95) dX6_sheet_118 (by decide) ?_
                      refine J_lv [1, 2, 3, 4, 0] rfl ?_
                      exact ih95 (i + 1) ((up3 (upG y 11 r) 11 0 i 0) 11) (by omega) (by rw [hr]; exact up2_upR) (by omega)
                refine J_lv [2, 3, 4, 5, 0] rfl ?_
                exact lp95 _ 0 ((up3 (up3 y 11 1 0 0) 11 1 1 0) 11) (by omega) (upR_id (r := 0)).symm (Nat.lt_succ_self _)
            · skip
              exact absurd hn2 c_61
          · skip
            exact absurd (Int32.not_le.mp c_48) hn
        · skip
          have n_38 : 1 = 0 := cmp_eq (a := 1) (b := 0) (by omega) (by omega) c_38
          exact absurd n_38 (by decide)
    · skip
      have n_1 : ¬ 0 = 0 := cmp_ne (a := 0) (b := 0) (by omega) (by omega) c_1
      exact absurd n_1 (by decide)
  · skip
    refine J_iload_n E dX6_sheet_0 rfl 2 rfl ?_
    refine J_if_eq E (tgt := 22) dX6_sheet_1 (by decide) (fun c_1 => ?_) (fun c_1 => ?_)
    · skip
      have n_1 : 8 = 0 := cmp_eq (a := 8) (b := 0) (by omega) (by omega) c_1
      exact absurd n_1 (by decide)
    · skip
      have n_1 : ¬ 8 = 0 := cmp_ne (a := 8) (b := 0) (by omega) (by omega) c_1
      refine J_iload_n E dX6_sheet_4 rfl 2 rfl ?_
      refine J_bipush E dX6_sheet_5 bp_8 ?_
      refine J_icmp_eq E (tgt := 22) dX6_sheet_7 (by decide) (fun c_7 => ?_) (fun c_7 => ?_)
      · skip
        have n_7 : 8 = 8 := cmp_eq (a := 8) (b := 8) (by omega) (by omega) c_7
        refine J_iconst E dX6_sheet_22 ic_1 ?_
        refine J_goto E (tgt := 27) dX6_sheet_23 (by decide) ?_
        refine J_istore E (lv' := [(4, .int 1), (0, .ref (b 0)), (1, .int (nI 3)), (2, .int 8), (3, .int n)]) dX6_sheet_27 (by decide) rfl ?_
        refine J_iload_n E dX6_sheet_29 rfl 2 rfl ?_
        refine J_cSiN E (As := [.int (nI 3)]) (c_X6_isSheet l G (nI 3) ) cl_X6_303 yo_X6_isSheet dX6_sheet_30 rfl (Nat.le_of_ble_eq_true rfl) (Nat.le_of_ble_eq_true rfl) rfl (Nat.le_of_ble_eq_true rfl) ⟨Nat.zero_le _, Nat.zero_le _⟩ ?_
        refine J_if_eq E (tgt := 41) dX6_sheet_33 (by decide) (fun c_33 => ?_) (fun c_33 => ?_)
        · skip
          have c_33 := bI_0 c_33
          exact absurd (in3 (by decide)) c_33
        · skip
          have c_33 := bI_1 c_33
          refine J_iload E dX6_sheet_36 0 rfl ?_
          refine J_if_ne E (tgt := 47) dX6_sheet_38 (by decide) (fun c_38 => ?_) (fun c_38 => ?_)
          · skip
            have n_38 : ¬ 1 = 0 := cmp_ne (a := 1) (b := 0) (by omega) (by omega) c_38
            refine J_iload_n E dX6_sheet_47 rfl 4 rfl ?_
            refine J_if_ge E (tgt := 58) dX6_sheet_48 (by decide) (fun c_48 => ?_) (fun c_48 => ?_)
            · skip
              refine J_iload_n E dX6_sheet_58 rfl 4 rfl ?_
              refine J_bipush E dX6_sheet_59 bp_40 ?_
              refine J_icmp_le E (tgt := 70) dX6_sheet_61 (by decide) (fun c_61 => ?_) (fun c_61 => ?_)
              · skip
                refine J_aload_n E dX6_sheet_70 rfl 1 rfl ?_
                refine gM0_X6_31 E dX6_sheet_71 ?_
                refine J_iload_n E dX6_sheet_74 rfl 2 rfl ?_
                refine J_iload_n E dX6_sheet_75 rfl 3 rfl ?_
                refine sMb_3 E  dX6_sheet_76 ?_
                refine J_aload_n E dX6_sheet_77 rfl 1 rfl ?_
                refine gM0_X6_34 E dX6_sheet_78 ?_
                refine J_iload_n E dX6_sheet_81 rfl 2 rfl ?_
                refine J_iload_n E dX6_sheet_82 rfl 3 rfl ?_
                refine J_if_ne E (tgt := 90) dX6_sheet_83 (by decide) (fun c_83 => ?_) (fun c_83 => ?_)
                · skip
                  have n_83 : ¬ 8 = 0 := cmp_ne (a := 8) (b := 0) (by omega) (by omega) c_83
                  refine J_iload_n E dX6_sheet_90 rfl 4 rfl ?_
                  refine sMz_3 E  dX6_sheet_91 ?_
                  refine J_iconst E dX6_sheet_92 ic_0 ?_
                  refine J_istore E (lv' := [(5, .int 0), (4, .int 1), (0, .ref (b 0)), (1, .int (nI 3)), (2, .int 8), (3, .int n)]) dX6_sheet_93 (by decide) rfl ?_
                  have lp95 : ∀ (fu : Nat) (i : Nat) (r : Q2), (i ≤ 40) → (r = upR ((up3 (up3 y 11 1 0 8) 11 1 1 n) 11) 0 (fillF (y 11 0) 0 i)) → 40 - i < fu → J X G 6 0 0 (wM G b (upG y 11 r)) [(0, .ref (b 0)), (1, .int (nI 3)), (2, .int 8), (3, .int n), (5, .int (nI i))] 95 [] := by
                    intro fu
                    induction fu with
                    | zero => intro i r hi hr hm; exact absurd hm (Nat.not_lt_zero _)
                    | succ fu ih95 =>
                      intro i r hi hr hm
                      refine J_iload E dX6_sheet_95 4 rfl ?_
                      refine J_bipush E dX6_sheet_97 bp_40 ?_
                      refine J_icmp_ge E (tgt := 121) dX6_sheet_99 (by decide) (fun c_99 => ?_) (fun c_99 => ?_)
                      · skip
                        have n_99 : 40 ≤ i := cmp_le (a := 40) (b := i) (by omega) (by omega) c_99
                        refine J_aload_n E dX6_sheet_121 rfl 0 rfl ?_
                        refine gM0_X6_34 E dX6_sheet_122 ?_
                        refine J_iload_n E dX6_sheet_125 rfl 1 rfl ?_
                        refine lMz_3 E  dX6_sheet_126 ?_
                        refine J_top (x' := r 1 1) upG_s ?_
                        refine J_mr11 (f := fun _ => 0) (fun j hj => by rw [hr, show i = 40 by omega]; exact fillF_lt _ _ 40 j hj) ?_
                        exact ret _ _ _ _ ⟨by rw [hr]; rfl, _, rfl, by rw [hr, upR_upR]; exact ShM.rfl'⟩ rfl dX6_sheet_127
                      · skip
                        have n_99 : ¬ 40 ≤ i := cmp_nle (a := 40) (b := i) (by omega) (by omega) c_99
                        refine J_aload_n E dX6_sheet_102 rfl 0 rfl ?_
                        refine gM0_X6_37 E dX6_sheet_103 ?_
                        refine J_bipush E dX6_sheet_106 bp_40 ?_
                        refine J_iload_n E dX6_sheet_108 rfl 1 rfl ?_
                        refine J_imul E dX6_sheet_109 ?_
                        refine J_top (x' := nI 120) (by decide) ?_
                        refine J_iload E dX6_sheet_110 4 rfl ?_
                        refine J_iadd E dX6_sheet_112 ?_
                        refine J_top (x' := nI (120 + i)) (nI_add 120 i) ?_
                        refine J_iconst E dX6_sheet_113 ic_0 ?_
                        refine sMn_3 E (j := (120 + i)) (i := i) rfl (by omega) dX6_sheet_114 ?_
                        refine J_iinc E (lv' := [(5, .int (nI (i + 1))), (0, .ref (b 0)), (1, .int (nI 3)), (2, .int 8), (3, .int n)]) dX6_sheet_115 4 rfl (nI_inc _) (by decide) rfl ?_
                        refine J_goto E (tgt := 95) dX6_sheet_118 (by decide) ?_
                        refine J_lv [1, 2, 3, 4, 0] rfl ?_
                        exact ih95 (i + 1) ((up3 (upG y 11 r) 11 0 i 0) 11) (by omega) (by rw [hr]; exact up2_upR) (by omega)
                  refine J_lv [2, 3, 4, 5, 0] rfl ?_
                  exact lp95 _ 0 ((up3 (up3 y 11 1 0 8) 11 1 1 n) 11) (by omega) (upR_id (r := 0)).symm (Nat.lt_succ_self _)
                · skip
                  have n_83 : 8 = 0 := cmp_eq (a := 8) (b := 0) (by omega) (by omega) c_83
                  exact absurd n_83 (by decide)
              · skip
                exact absurd hn2 c_61
            · skip
              exact absurd (Int32.not_le.mp c_48) hn
          · skip
            have n_38 : 1 = 0 := cmp_eq (a := 1) (b := 0) (by omega) (by omega) c_38
            exact absurd n_38 (by decide)
      · skip
        have n_7 : ¬ 8 = 8 := cmp_ne (a := 8) (b := 8) (by omega) (by omega) c_7
        exact absurd n_7 (by decide)
  · skip
    refine J_iload_n E dX6_sheet_0 rfl 2 rfl ?_
    refine J_if_eq E (tgt := 22) dX6_sheet_1 (by decide) (fun c_1 => ?_) (fun c_1 => ?_)
    · skip
      have n_1 : 16 = 0 := cmp_eq (a := 16) (b := 0) (by omega) (by omega) c_1
      exact absurd n_1 (by decide)
    · skip
      have n_1 : ¬ 16 = 0 := cmp_ne (a := 16) (b := 0) (by omega) (by omega) c_1
      refine J_iload_n E dX6_sheet_4 rfl 2 rfl ?_
      refine J_bipush E dX6_sheet_5 bp_8 ?_
      refine J_icmp_eq E (tgt := 22) dX6_sheet_7 (by decide) (fun c_7 => ?_) (fun c_7 => ?_)
      · skip
        have n_7 : 16 = 8 := cmp_eq (a := 16) (b := 8) (by omega) (by omega) c_7
        exact absurd n_7 (by decide)
      · skip
        have n_7 : ¬ 16 = 8 := cmp_ne (a := 16) (b := 8) (by omega) (by omega) c_7
        refine J_iload_n E dX6_sheet_10 rfl 2 rfl ?_
        refine J_bipush E dX6_sheet_11 bp_16 ?_
        refine J_icmp_eq E (tgt := 22) dX6_sheet_13 (by decide) (fun c_13 => ?_) (fun c_13 => ?_)
        · skip
          have n_13 : 16 = 16 := cmp_eq (a := 16) (b := 16) (by omega) (by omega) c_13
          refine J_iconst E dX6_sheet_22 ic_1 ?_
          refine J_goto E (tgt := 27) dX6_sheet_23 (by decide) ?_
          refine J_istore E (lv' := [(4, .int 1), (0, .ref (b 0)), (1, .int (nI 3)), (2, .int 16), (3, .int n)]) dX6_sheet_27 (by decide) rfl ?_
          refine J_iload_n E dX6_sheet_29 rfl 2 rfl ?_
          refine J_cSiN E (As := [.int (nI 3)]) (c_X6_isSheet l G (nI 3) ) cl_X6_303 yo_X6_isSheet dX6_sheet_30 rfl (Nat.le_of_ble_eq_true rfl) (Nat.le_of_ble_eq_true rfl) rfl (Nat.le_of_ble_eq_true rfl) ⟨Nat.zero_le _, Nat.zero_le _⟩ ?_
          refine J_if_eq E (tgt := 41) dX6_sheet_33 (by decide) (fun c_33 => ?_) (fun c_33 => ?_)
          · skip
            have c_33 := bI_0 c_33
            exact absurd (in3 (by decide)) c_33
          · skip
            have c_33 := bI_1 c_33
            refine J_iload E dX6_sheet_36 0 rfl ?_
            refine J_if_ne E (tgt := 47) dX6_sheet_38 (by decide) (fun c_38 => ?_) (fun c_38 => ?_)
            · skip
              have n_38 : ¬ 1 = 0 := cmp_ne (a := 1) (b := 0) (by omega) (by omega) c_38
              refine J_iload_n E dX6_sheet_47 rfl 4 rfl ?_
              refine J_if_ge E (tgt := 58) dX6_sheet_48 (by decide) (fun c_48 => ?_) (fun c_48 => ?_)
              · skip
                refine J_iload_n E dX6_sheet_58 rfl 4 rfl ?_
                refine J_bipush E dX6_sheet_59 bp_40 ?_
                refine J_icmp_le E (tgt := 70) dX6_sheet_61 (by decide) (fun c_61 => ?_) (fun c_61 => ?_)
                · skip
                  refine J_aload_n E dX6_sheet_70 rfl 1 rfl ?_
                  refine gM0_X6_31 E dX6_sheet_71 ?_
                  refine J_iload_n E dX6_sheet_74 rfl 2 rfl ?_
                  refine J_iload_n E dX6_sheet_75 rfl 3 rfl ?_
                  refine sMb_3 E  dX6_sheet_76 ?_
                  refine J_aload_n E dX6_sheet_77 rfl 1 rfl ?_
                  refine gM0_X6_34 E dX6_sheet_78 ?_
                  refine J_iload_n E dX6_sheet_81 rfl 2 rfl ?_
                  refine J_iload_n E dX6_sheet_82 rfl 3 rfl ?_
                  refine J_if_ne E (tgt := 90) dX6_sheet_83 (by decide) (fun c_83 => ?_) (fun c_83 => ?_)
                  · skip
                    have n_83 : ¬ 16 = 0 := cmp_ne (a := 16) (b := 0) (by omega) (by omega) c_83
                    refine J_iload_n E dX6_sheet_90 rfl 4 rfl ?_
                    refine sMz_3 E  dX6_sheet_91 ?_
                    refine J_iconst E dX6_sheet_92 ic_0 ?_
                    refine J_istore E (lv' := [(5, .int 0), (4, .int 1), (0, .ref (b 0)), (1, .int (nI 3)), (2, .int 16), (3, .int n)]) dX6_sheet_93 (by decide) rfl ?_
                    have lp95 : ∀ (fu : Nat) (i : Nat) (r : Q2), (i ≤ 40) → (r = upR ((up3 (up3 y 11 1 0 16) 11 1 1 n) 11) 0 (fillF (y 11 0) 0 i)) → 40 - i < fu → J X G 6 0 0 (wM G b (upG y 11 r)) [(0, .ref (b 0)), (1, .int (nI 3)), (2, .int 16), (3, .int n), (5, .int (nI i))] 95 [] := by
                      intro fu
                      induction fu with
                      | zero => intro i r hi hr hm; exact absurd hm (Nat.not_lt_zero _)
                      | succ fu ih95 =>
                        intro i r hi hr hm
                        refine J_iload E dX6_sheet_95 4 rfl ?_
                        refine J_bipush E dX6_sheet_97 bp_40 ?_
                        refine J_icmp_ge E (tgt := 121) dX6_sheet_99 (by decide) (fun c_99 => ?_) (fun c_99 => ?_)
                        · skip
                          have n_99 : 40 ≤ i := cmp_le (a := 40) (b := i) (by omega) (by omega) c_99
                          refine J_aload_n E dX6_sheet_121 rfl 0 rfl ?_
                          refine gM0_X6_34 E dX6_sheet_122 ?_
                          refine J_iload_n E dX6_sheet_125 rfl 1 rfl ?_
                          refine lMz_3 E  dX6_sheet_126 ?_
                          refine J_top (x' := r 1 1) upG_s ?_
                          refine J_mr11 (f := fun _ => 0) (fun j hj => by rw [hr, show i = 40 by omega]; exact fillF_lt _ _ 40 j hj) ?_
                          exact ret _ _ _ _ ⟨by rw [hr]; rfl, _, rfl, by rw [hr, upR_upR]; exact ShM.rfl'⟩ rfl dX6_sheet_127
                        · skip
                          have n_99 : ¬ 40 ≤ i := cmp_nle (a := 40) (b := i) (by omega) (by omega) c_99
                          refine J_aload_n E dX6_sheet_102 rfl 0 rfl ?_
                          refine gM0_X6_37 E dX6_sheet_103 ?_
                          refine J_bipush E dX6_sheet_106 bp_40 ?_
                          refine J_iload_n E dX6_sheet_108 rfl 1 rfl ?_
                          refine J_imul E dX6_sheet_109 ?_
                          refine J_top (x' := nI 120) (by decide) ?_
                          refine J_iload E dX6_sheet_110 4 rfl ?_
                          refine J_iadd E dX6_sheet_112 ?_
                          refine J_top (x' := nI (120 + i)) (nI_add 120 i) ?_
                          refine J_iconst E dX6_sheet_113 ic_0 ?_
                          refine sMn_3 E (j := (120 + i)) (i := i) rfl (by omega) dX6_sheet_114 ?_
                          refine J_iinc E (lv' := [(5, .int (nI (i + 1))), (0, .ref (b 0)), (1, .int (nI 3)), (2, .int 16), (3, .int n)]) dX6_sheet_115 4 rfl (nI_inc _) (by decide) rfl ?_
                          refine J_goto E (tgt := 95) dX6_sheet_118 (by decide) ?_
                          refine J_lv [1, 2, 3, 4, 0] rfl ?_
                          exact ih95 (i + 1) ((up3 (upG y 11 r) 11 0 i 0) 11) (by omega) (by rw [hr]; exact up2_upR) (by omega)
                    refine J_lv [2, 3, 4, 5, 0] rfl ?_
                    exact lp95 _ 0 ((up3 (up3 y 11 1 0 16) 11 1 1 n) 11) (by omega) (upR_id (r := 0)).symm (Nat.lt_succ_self _)
                  · skip
                    have n_83 : 16 = 0 := cmp_eq (a := 16) (b := 0) (by omega) (by omega) c_83
                    exact absurd n_83 (by decide)
                · skip
                  exact absurd hn2 c_61
              · skip
                exact absurd (Int32.not_le.mp c_48) hn
            · skip
              have n_38 : 1 = 0 := cmp_eq (a := 1) (b := 0) (by omega) (by omega) c_38
              exact absurd n_38 (by decide)
        · skip
          have n_13 : ¬ 16 = 16 := cmp_ne (a := 16) (b := 16) (by omega) (by omega) c_13
          exact absurd n_13 (by decide)
  · skip
    refine J_iload_n E dX6_sheet_0 rfl 2 rfl ?_
    refine J_if_eq E (tgt := 22) dX6_sheet_1 (by decide) (fun c_1 => ?_) (fun c_1 => ?_)
    · skip
      have n_1 : 32 = 0 := cmp_eq (a := 32) (b := 0) (by omega) (by omega) c_1
      exact absurd n_1 (by decide)
    · skip
      have n_1 : ¬ 32 = 0 := cmp_ne (a := 32) (b := 0) (by omega) (by omega) c_1
      refine J_iload_n E dX6_sheet_4 rfl 2 rfl ?_
      refine J_bipush E dX6_sheet_5 bp_8 ?_
      refine J_icmp_eq E (tgt := 22) dX6_sheet_7 (by decide) (fun c_7 => ?_) (fun c_7 => ?_)
      · skip
        have n_7 : 32 = 8 := cmp_eq (a := 32) (b := 8) (by omega) (by omega) c_7
        exact absurd n_7 (by decide)
      · skip
        have n_7 : ¬ 32 = 8 := cmp_ne (a := 32) (b := 8) (by omega) (by omega) c_7
        refine J_iload_n E dX6_sheet_10 rfl 2 rfl ?_
        refine J_bipush E dX6_sheet_11 bp_16 ?_
        refine J_icmp_eq E (tgt := 22) dX6_sheet_13 (by decide) (fun c_13 => ?_) (fun c_13 => ?_)
        · skip
          have n_13 : 32 = 16 := cmp_eq (a := 32) (b := 16) (by omega) (by omega) c_13
          exact absurd n_13 (by decide)
        · skip
          have n_13 : ¬ 32 = 16 := cmp_ne (a := 32) (b := 16) (by omega) (by omega) c_13
          refine J_iload_n E dX6_sheet_16 rfl 2 rfl ?_
          refine J_bipush E dX6_sheet_17 bp_32 ?_
          refine J_icmp_ne E (tgt := 26) dX6_sheet_19 (by decide) (fun c_19 => ?_) (fun c_19 => ?_)
          · skip
            have n_19 : ¬ 32 = 32 := cmp_ne (a := 32) (b := 32) (by omega) (by omega) c_19
            exact absurd n_19 (by decide)
          · skip
            have n_19 : 32 = 32 := cmp_eq (a := 32) (b := 32) (by omega) (by omega) c_19
            refine J_iconst E dX6_sheet_22 ic_1 ?_
            refine J_goto E (tgt := 27) dX6_sheet_23 (by decide) ?_
            refine J_istore E (lv' := [(4, .int 1), (0, .ref (b 0)), (1, .int (nI 3)), (2, .int 32), (3, .int n)]) dX6_sheet_27 (by decide) rfl ?_
            refine J_iload_n E dX6_sheet_29 rfl 2 rfl ?_
            refine J_cSiN E (As := [.int (nI 3)]) (c_X6_isSheet l G (nI 3) ) cl_X6_303 yo_X6_isSheet dX6_sheet_30 rfl (Nat.le_of_ble_eq_true rfl) (Nat.le_of_ble_eq_true rfl) rfl (Nat.le_of_ble_eq_true rfl) ⟨Nat.zero_le _, Nat.zero_le _⟩ ?_
            refine J_if_eq E (tgt := 41) dX6_sheet_33 (by decide) (fun c_33 => ?_) (fun c_33 => ?_)
            · skip
              have c_33 := bI_0 c_33
              exact absurd (in3 (by decide)) c_33
            · skip
              have c_33 := bI_1 c_33
              refine J_iload E dX6_sheet_36 0 rfl ?_
              refine J_if_ne E (tgt := 47) dX6_sheet_38 (by decide) (fun c_38 => ?_) (fun c_38 => ?_)
              · skip
                have n_38 : ¬ 1 = 0 := cmp_ne (a := 1) (b := 0) (by omega) (by omega) c_38
                refine J_iload_n E dX6_sheet_47 rfl 4 rfl ?_
                refine J_if_ge E (tgt := 58) dX6_sheet_48 (by decide) (fun c_48 => ?_) (fun c_48 => ?_)
                · skip
                  refine J_iload_n E dX6_sheet_58 rfl 4 rfl ?_
                  refine J_bipush E dX6_sheet_59 bp_40 ?_
                  refine J_icmp_le E (tgt := 70) dX6_sheet_61 (by decide) (fun c_61 => ?_) (fun c_61 => ?_)
                  · skip
                    refine J_aload_n E dX6_sheet_70 rfl 1 rfl ?_
                    refine gM0_X6_31 E dX6_sheet_71 ?_
                    refine J_iload_n E dX6_sheet_74 rfl 2 rfl ?_
                    refine J_iload_n E dX6_sheet_75 rfl 3 rfl ?_
                    refine sMb_3 E  dX6_sheet_76 ?_
                    refine J_aload_n E dX6_sheet_77 rfl 1 rfl ?_
                    refine gM0_X6_34 E dX6_sheet_78 ?_
                    refine J_iload_n E dX6_sheet_81 rfl 2 rfl ?_
                    refine J_iload_n E dX6_sheet_82 rfl 3 rfl ?_
                    refine J_if_ne E (tgt := 90) dX6_sheet_83 (by decide) (fun c_83 => ?_) (fun c_83 => ?_)
                    · skip
                      have n_83 : ¬ 32 = 0 := cmp_ne (a := 32) (b := 0) (by omega) (by omega) c_83
                      refine J_iload_n E dX6_sheet_90 rfl 4 rfl ?_
                      refine sMz_3 E  dX6_sheet_91 ?_
                      refine J_iconst E dX6_sheet_92 ic_0 ?_
                      refine J_istore E (lv' := [(5, .int 0), (4, .int 1), (0, .ref (b 0)), (1, .int (nI 3)), (2, .int 32), (3, .int n)]) dX6_sheet_93 (by decide) rfl ?_
                      have lp95 : ∀ (fu : Nat) (i : Nat) (r : Q2), (i ≤ 40) → (r = upR ((up3 (up3 y 11 1 0 32) 11 1 1 n) 11) 0 (fillF (y 11 0) 0 i)) → 40 - i < fu → J X G 6 0 0 (wM G b (upG y 11 r)) [(0, .ref (b 0)), (1, .int (nI 3)), (2, .int 32), (3, .int n), (5, .int (nI i))] 95 [] := by
                        intro fu
                        induction fu with
                        | zero => intro i r hi hr hm; exact absurd hm (Nat.not_lt_zero _)
                        | succ fu ih95 =>
                          intro i r hi hr hm
                          refine J_iload E dX6_sheet_95 4 rfl ?_
                          refine J_bipush E dX6_sheet_97 bp_40 ?_
                          refine J_icmp_ge E (tgt := 121) dX6_sheet_99 (by decide) (fun c_99 => ?_) (fun c_99 => ?_)
                          · skip
                            have n_99 : 40 ≤ i := cmp_le (a := 40) (b := i) (by omega) (by omega) c_99
                            refine J_aload_n E dX6_sheet_121 rfl 0 rfl ?_
                            refine gM0_X6_34 E dX6_sheet_122 ?_
                            refine J_iload_n E dX6_sheet_125 rfl 1 rfl ?_
                            refine lMz_3 E  dX6_sheet_126 ?_
                            refine J_top (x' := r 1 1) upG_s ?_
                            refine J_mr11 (f := fun _ => 0) (fun j hj => by rw [hr, show i = 40 by omega]; exact fillF_lt _ _ 40 j hj) ?_
                            exact ret _ _ _ _ ⟨by rw [hr]; rfl, _, rfl, by rw [hr, upR_upR]; exact ShM.rfl'⟩ rfl dX6_sheet_127
                          · skip
                            have n_99 : ¬ 40 ≤ i := cmp_nle (a := 40) (b := i) (by omega) (by omega) c_99
                            refine J_aload_n E dX6_sheet_102 rfl 0 rfl ?_
                            refine gM0_X6_37 E dX6_sheet_103 ?_
                            refine J_bipush E dX6_sheet_106 bp_40 ?_
                            refine J_iload_n E dX6_sheet_108 rfl 1 rfl ?_
                            refine J_imul E dX6_sheet_109 ?_
                            refine J_top (x' := nI 120) (by decide) ?_
                            refine J_iload E dX6_sheet_110 4 rfl ?_
                            refine J_iadd E dX6_sheet_112 ?_
                            refine J_top (x' := nI (120 + i)) (nI_add 120 i) ?_
                            refine J_iconst E dX6_sheet_113 ic_0 ?_
                            refine sMn_3 E (j := (120 + i)) (i := i) rfl (by omega) dX6_sheet_114 ?_
                            refine J_iinc E (lv' := [(5, .int (nI (i + 1))), (0, .ref (b 0)), (1, .int (nI 3)), (2, .int 32), (3, .int n)]) dX6_sheet_115 4 rfl (nI_inc _) (by decide) rfl ?_
                            refine J_goto E (tgt := 95) dX6_sheet_118 (by decide) ?_
                            refine J_lv [1, 2, 3, 4, 0] rfl ?_
                            exact ih95 (i + 1) ((up3 (upG y 11 r) 11 0 i 0) 11) (by omega) (by rw [hr]; exact up2_upR) (by omega)
                      refine J_lv [2, 3, 4, 5, 0] rfl ?_
                      exact lp95 _ 0 ((up3 (up3 y 11 1 0 32) 11 1 1 n) 11) (by omega) (upR_id (r := 0)).symm (Nat.lt_succ_self _)
                    · skip
                      have n_83 : 32 = 0 := cmp_eq (a := 32) (b := 0) (by omega) (by omega) c_83
                      exact absurd n_83 (by decide)
                  · skip
                    exact absurd hn2 c_61
                · skip
                  exact absurd (Int32.not_le.mp c_48) hn
              · skip
                have n_38 : 1 = 0 := cmp_eq (a := 1) (b := 0) (by omega) (by omega) c_38
                exact absurd n_38 (by decide)

set_option maxHeartbeats 4000000 in
set_option maxRecDepth 20000 in
theorem c_X6_write_out (l : Launch) (G : GB) (b : Nat → Nat) (y : Q3) (s : Int32) (i : Int32) (v : Int32) (hs : ¬ (0 ≤ s ∧ s ≤ 3)) : CI l yX6_write cX6_write 5 .int 3 66 G [.ref (b 0), .int s, .int i, .int v] (wM G b y) (fun vR w' => vR = tellR 0 ∧ PubM G b (tellX y 0) w') := by
  refine CI.mk (own := RX6) (by decide) rfl (Nat.le_of_ble_eq_true rfl) ?_
  intro X E ret
  show J X G 5 0 0 (wM G b y) [(0, .ref (b 0)), (1, .int s), (2, .int i), (3, .int v)] 0 []
  refine J_aload_n E dX6_write_0 rfl 0 rfl ?_
  refine J_iload_n E dX6_write_1 rfl 1 rfl ?_
  refine J_cVi0 E (As := [.int s]) (c_X6_lacks_out l G b y s hs ) cl_X6_197 yo_X6_lacks dX6_write_2 rfl rfl rfl (Nat.le_of_ble_eq_true rfl) (Nat.le_of_ble_eq_true rfl) rfl (Nat.le_of_ble_eq_true rfl) ⟨Nat.zero_le _, Nat.zero_le _⟩ ?_
  refine J_istore E (lv' := [(4, .int 0), (0, .ref (b 0)), (1, .int s), (2, .int i), (3, .int v)]) dX6_write_5 (by decide) rfl ?_
  refine J_iload E dX6_write_7 0 rfl ?_
  refine J_if_lt E (tgt := 19) dX6_write_9 (by decide) (fun c_9 => ?_) (fun c_9 => ?_)
  · skip
    have n_9 : 0 < 0 := cmp_lt (a := 0) (b := 0) (by omega) (by omega) c_9
    exact absurd n_9 (by decide)
  · skip
    have n_9 : ¬ 0 < 0 := cmp_nlt (a := 0) (b := 0) (by omega) (by omega) c_9
    refine J_aload_n E dX6_write_12 rfl 1 rfl ?_
    refine J_iload E dX6_write_13 0 rfl ?_
    refine J_cVi0 E (As := [.int 0]) (c_X6_finds l G b y 0 (by omega)) cl_X6_96 yo_X6_finds dX6_write_15 rfl rfl rfl (Nat.le_of_ble_eq_true rfl) (Nat.le_of_ble_eq_true rfl) rfl (Nat.le_of_ble_eq_true rfl) ⟨Nat.zero_le _, Nat.zero_le _⟩ ?_
    exact ret _ _ _ _ ⟨rfl, _, rfl, by intro g h2 h5 h6; by_cases h0 : g = 0 <;> simp [tellX, upG, up3, up3R, up2, h0, h2, h5, h6]⟩ rfl dX6_write_18

set_option maxHeartbeats 4000000 in
set_option maxRecDepth 20000 in
theorem c_X6_write_miss_0 (l : Launch) (G : GB) (b : Nat → Nat) (y : Q3) (i : Int32) (v : Int32) (hb : y 8 1 0 = 0) : CI l yX6_write cX6_write 5 .int 3 66 G [.ref (b 0), .int (nI 0), .int i, .int v] (wM G b y) (fun vR w' => vR = tellR 5 ∧ PubM G b (tellX y 5) w') := by
  refine CI.mk (own := RX6) (by decide) rfl (Nat.le_of_ble_eq_true rfl) ?_
  intro X E ret
  show J X G 5 0 0 (wM G b y) [(0, .ref (b 0)), (1, .int (nI 0)), (2, .int i), (3, .int v)] 0 []
  refine J_aload_n E dX6_write_0 rfl 0 rfl ?_
  refine J_iload_n E dX6_write_1 rfl 1 rfl ?_
  refine J_cVi0 E (As := [.int (nI 0)]) (c_X6_lacks_0_0 l G b y hb ) cl_X6_197 yo_X6_lacks dX6_write_2 rfl rfl rfl (Nat.le_of_ble_eq_true rfl) (Nat.le_of_ble_eq_true rfl) rfl (Nat.le_of_ble_eq_true rfl) ⟨Nat.zero_le _, Nat.zero_le _⟩ ?_
  refine J_istore E (lv' := [(4, .int 5), (0, .ref (b 0)), (1, .int (nI 0)), (2, .int i), (3, .int v)]) dX6_write_5 (by decide) rfl ?_
  refine J_iload E dX6_write_7 0 rfl ?_
  refine J_if_lt E (tgt := 19) dX6_write_9 (by decide) (fun c_9 => ?_) (fun c_9 => ?_)
  · skip
    have n_9 : 5 < 0 := cmp_lt (a := 5) (b := 0) (by omega) (by omega) c_9
    exact absurd n_9 (by decide)
  · skip
    have n_9 : ¬ 5 < 0 := cmp_nlt (a := 5) (b := 0) (by omega) (by omega) c_9
    refine J_aload_n E dX6_write_12 rfl 1 rfl ?_
    refine J_iload E dX6_write_13 0 rfl ?_
    refine J_cVi0 E (As := [.int 5]) (c_X6_finds l G b y 5 (by omega)) cl_X6_96 yo_X6_finds dX6_write_15 rfl rfl rfl (Nat.le_of_ble_eq_true rfl) (Nat.le_of_ble_eq_true rfl) rfl (Nat.le_of_ble_eq_true rfl) ⟨Nat.zero_le _, Nat.zero_le _⟩ ?_
    exact ret _ _ _ _ ⟨rfl, _, rfl, by intro g h2 h5 h6; by_cases h0 : g = 0 <;> simp [tellX, upG, up3, up3R, up2, h0, h2, h5, h6]⟩ rfl dX6_write_18

set_option maxHeartbeats 4000000 in
set_option maxRecDepth 20000 in
theorem c_X6_write_miss_1 (l : Launch) (G : GB) (b : Nat → Nat) (y : Q3) (i : Int32) (v : Int32) (hb : y 9 1 0 = 0) : CI l yX6_write cX6_write 5 .int 3 66 G [.ref (b 0), .int (nI 1), .int i, .int v] (wM G b y) (fun vR w' => vR = tellR 5 ∧ PubM G b (tellX y 5) w') := by
  refine CI.mk (own := RX6) (by decide) rfl (Nat.le_of_ble_eq_true rfl) ?_
  intro X E ret
  show J X G 5 0 0 (wM G b y) [(0, .ref (b 0)), (1, .int (nI 1)), (2, .int i), (3, .int v)] 0 []
  refine J_aload_n E dX6_write_0 rfl 0 rfl ?_
  refine J_iload_n E dX6_write_1 rfl 1 rfl ?_
  refine J_cVi0 E (As := [.int (nI 1)]) (c_X6_lacks_1_0 l G b y hb ) cl_X6_197 yo_X6_lacks dX6_write_2 rfl rfl rfl (Nat.le_of_ble_eq_true rfl) (Nat.le_of_ble_eq_true rfl) rfl (Nat.le_of_ble_eq_true rfl) ⟨Nat.zero_le _, Nat.zero_le _⟩ ?_
  refine J_istore E (lv' := [(4, .int 5), (0, .ref (b 0)), (1, .int (nI 1)), (2, .int i), (3, .int v)]) dX6_write_5 (by decide) rfl ?_
  refine J_iload E dX6_write_7 0 rfl ?_
  refine J_if_lt E (tgt := 19) dX6_write_9 (by decide) (fun c_9 => ?_) (fun c_9 => ?_)
  · skip
    have n_9 : 5 < 0 := cmp_lt (a := 5) (b := 0) (by omega) (by omega) c_9
    exact absurd n_9 (by decide)
  · skip
    have n_9 : ¬ 5 < 0 := cmp_nlt (a := 5) (b := 0) (by omega) (by omega) c_9
    refine J_aload_n E dX6_write_12 rfl 1 rfl ?_
    refine J_iload E dX6_write_13 0 rfl ?_
    refine J_cVi0 E (As := [.int 5]) (c_X6_finds l G b y 5 (by omega)) cl_X6_96 yo_X6_finds dX6_write_15 rfl rfl rfl (Nat.le_of_ble_eq_true rfl) (Nat.le_of_ble_eq_true rfl) rfl (Nat.le_of_ble_eq_true rfl) ⟨Nat.zero_le _, Nat.zero_le _⟩ ?_
    exact ret _ _ _ _ ⟨rfl, _, rfl, by intro g h2 h5 h6; by_cases h0 : g = 0 <;> simp [tellX, upG, up3, up3R, up2, h0, h2, h5, h6]⟩ rfl dX6_write_18

set_option maxHeartbeats 4000000 in
set_option maxRecDepth 20000 in
theorem c_X6_write_miss_2 (l : Launch) (G : GB) (b : Nat → Nat) (y : Q3) (i : Int32) (v : Int32) (hb : y 10 1 0 = 0) : CI l yX6_write cX6_write 5 .int 3 66 G [.ref (b 0), .int (nI 2), .int i, .int v] (wM G b y) (fun vR w' => vR = tellR 5 ∧ PubM G b (tellX y 5) w') := by
  refine CI.mk (own := RX6) (by decide) rfl (Nat.le_of_ble_eq_true rfl) ?_
  intro X E ret
  show J X G 5 0 0 (wM G b y) [(0, .ref (b 0)), (1, .int (nI 2)), (2, .int i), (3, .int v)] 0 []
  refine J_aload_n E dX6_write_0 rfl 0 rfl ?_
  refine J_iload_n E dX6_write_1 rfl 1 rfl ?_
  refine J_cVi0 E (As := [.int (nI 2)]) (c_X6_lacks_2_0 l G b y hb ) cl_X6_197 yo_X6_lacks dX6_write_2 rfl rfl rfl (Nat.le_of_ble_eq_true rfl) (Nat.le_of_ble_eq_true rfl) rfl (Nat.le_of_ble_eq_true rfl) ⟨Nat.zero_le _, Nat.zero_le _⟩ ?_
  refine J_istore E (lv' := [(4, .int 5), (0, .ref (b 0)), (1, .int (nI 2)), (2, .int i), (3, .int v)]) dX6_write_5 (by decide) rfl ?_
  refine J_iload E dX6_write_7 0 rfl ?_
  refine J_if_lt E (tgt := 19) dX6_write_9 (by decide) (fun c_9 => ?_) (fun c_9 => ?_)
  · skip
    have n_9 : 5 < 0 := cmp_lt (a := 5) (b := 0) (by omega) (by omega) c_9
    exact absurd n_9 (by decide)
  · skip
    have n_9 : ¬ 5 < 0 := cmp_nlt (a := 5) (b := 0) (by omega) (by omega) c_9
    refine J_aload_n E dX6_write_12 rfl 1 rfl ?_
    refine J_iload E dX6_write_13 0 rfl ?_
    refine J_cVi0 E (As := [.int 5]) (c_X6_finds l G b y 5 (by omega)) cl_X6_96 yo_X6_finds dX6_write_15 rfl rfl rfl (Nat.le_of_ble_eq_true rfl) (Nat.le_of_ble_eq_true rfl) rfl (Nat.le_of_ble_eq_true rfl) ⟨Nat.zero_le _, Nat.zero_le _⟩ ?_
    exact ret _ _ _ _ ⟨rfl, _, rfl, by intro g h2 h5 h6; by_cases h0 : g = 0 <;> simp [tellX, upG, up3, up3R, up2, h0, h2, h5, h6]⟩ rfl dX6_write_18

set_option maxHeartbeats 4000000 in
set_option maxRecDepth 20000 in
theorem c_X6_write_miss_3 (l : Launch) (G : GB) (b : Nat → Nat) (y : Q3) (i : Int32) (v : Int32) (hb : y 11 1 0 = 0) : CI l yX6_write cX6_write 5 .int 3 66 G [.ref (b 0), .int (nI 3), .int i, .int v] (wM G b y) (fun vR w' => vR = tellR 5 ∧ PubM G b (tellX y 5) w') := by
  refine CI.mk (own := RX6) (by decide) rfl (Nat.le_of_ble_eq_true rfl) ?_
  intro X E ret
  show J X G 5 0 0 (wM G b y) [(0, .ref (b 0)), (1, .int (nI 3)), (2, .int i), (3, .int v)] 0 []
  refine J_aload_n E dX6_write_0 rfl 0 rfl ?_
  refine J_iload_n E dX6_write_1 rfl 1 rfl ?_
  refine J_cVi0 E (As := [.int (nI 3)]) (c_X6_lacks_3_0 l G b y hb ) cl_X6_197 yo_X6_lacks dX6_write_2 rfl rfl rfl (Nat.le_of_ble_eq_true rfl) (Nat.le_of_ble_eq_true rfl) rfl (Nat.le_of_ble_eq_true rfl) ⟨Nat.zero_le _, Nat.zero_le _⟩ ?_
  refine J_istore E (lv' := [(4, .int 5), (0, .ref (b 0)), (1, .int (nI 3)), (2, .int i), (3, .int v)]) dX6_write_5 (by decide) rfl ?_
  refine J_iload E dX6_write_7 0 rfl ?_
  refine J_if_lt E (tgt := 19) dX6_write_9 (by decide) (fun c_9 => ?_) (fun c_9 => ?_)
  · skip
    have n_9 : 5 < 0 := cmp_lt (a := 5) (b := 0) (by omega) (by omega) c_9
    exact absurd n_9 (by decide)
  · skip
    have n_9 : ¬ 5 < 0 := cmp_nlt (a := 5) (b := 0) (by omega) (by omega) c_9
    refine J_aload_n E dX6_write_12 rfl 1 rfl ?_
    refine J_iload E dX6_write_13 0 rfl ?_
    refine J_cVi0 E (As := [.int 5]) (c_X6_finds l G b y 5 (by omega)) cl_X6_96 yo_X6_finds dX6_write_15 rfl rfl rfl (Nat.le_of_ble_eq_true rfl) (Nat.le_of_ble_eq_true rfl) rfl (Nat.le_of_ble_eq_true rfl) ⟨Nat.zero_le _, Nat.zero_le _⟩ ?_
    exact ret _ _ _ _ ⟨rfl, _, rfl, by intro g h2 h5 h6; by_cases h0 : g = 0 <;> simp [tellX, upG, up3, up3R, up2, h0, h2, h5, h6]⟩ rfl dX6_write_18

set_option maxHeartbeats 4000000 in
set_option maxRecDepth 20000 in
theorem c_X6_write_bad_0 (l : Launch) (G : GB) (b : Nat → Nat) (y : Q3) (i v : Int32) (n : Nat) (hb : ¬ y 8 1 0 = 0) (hn : y 8 1 1 = nI n) (hn2 : n ≤ 40) (hi : ¬ (0 ≤ i ∧ i < nI n)) : CI l yX6_write cX6_write 5 .int 3 66 G [.ref (b 0), .int (nI 0), .int i, .int v] (wM G b y) (fun vR w' => vR = tellR 0 ∧ PubM G b (tellX y 0) w') := by
  refine CI.mk (own := RX6) (by decide) rfl (Nat.le_of_ble_eq_true rfl) ?_
  intro X E ret
  show J X G 5 0 0 (wM G b y) [(0, .ref (b 0)), (1, .int (nI 0)), (2, .int i), (3, .int v)] 0 []
  refine J_aload_n E dX6_write_0 rfl 0 rfl ?_
  refine J_iload_n E dX6_write_1 rfl 1 rfl ?_
  refine J_cVi0 E (As := [.int (nI 0)]) (c_X6_lacks_0_1 l G b y hb ) cl_X6_197 yo_X6_lacks dX6_write_2 rfl rfl rfl (Nat.le_of_ble_eq_true rfl) (Nat.le_of_ble_eq_true rfl) rfl (Nat.le_of_ble_eq_true rfl) ⟨Nat.zero_le _, Nat.zero_le _⟩ ?_
  refine J_istore E (lv' := [(4, .int (-1)), (0, .ref (b 0)), (1, .int (nI 0)), (2, .int i), (3, .int v)]) dX6_write_5 (by decide) rfl ?_
  refine J_iload E dX6_write_7 0 rfl ?_
  refine J_if_lt E (tgt := 19) dX6_write_9 (by decide) (fun c_9 => ?_) (fun c_9 => ?_)
  · skip
    refine J_iload_n E dX6_write_19 rfl 3 rfl ?_
    refine J_i2l E dX6_write_20 rfl ?_
    refine J_lconst E dX6_write_21 lc_0 ?_
    refine J_aload_n E dX6_write_22 rfl 1 rfl ?_
    refine gM0_X6_34 E dX6_write_23 ?_
    refine J_iload_n E dX6_write_26 rfl 2 rfl ?_
    refine lMz_0 E  dX6_write_27 ?_
    refine J_top (x' := nI n) (hn) ?_
    refine J_iconst E dX6_write_28 ic_1 ?_
    refine J_isub E dX6_write_29 ?_
    refine J_i2l E dX6_write_30 rfl ?_
    refine J_cSiN E (As := [.long (Int32.toInt64 i), .long 0, .long (Int32.toInt64 ((nI n) - 1))]) (c_X6_in l G i 0 ((nI n) - 1) 0 (Int32.toInt64 ((nI n) - 1)) (by decide) rfl ) cl_X6_54 yo_X6_in dX6_write_31 rfl (Nat.le_of_ble_eq_true rfl) (Nat.le_of_ble_eq_true rfl) rfl (Nat.le_of_ble_eq_true rfl) ⟨Nat.zero_le _, Nat.zero_le _⟩ ?_
    refine J_if_ne E (tgt := 43) dX6_write_34 (by decide) (fun c_34 => ?_) (fun c_34 => ?_)
    · skip
      have c_34 := bI_1 c_34
      exact absurd ((le_pred hn2).mp c_34) hi
    · skip
      have c_34 := bI_0 c_34
      refine J_aload_n E dX6_write_37 rfl 1 rfl ?_
      refine J_iconst E dX6_write_38 ic_0 ?_
      refine J_cVi0 E (As := [.int 0]) (c_X6_finds l G b y 0 (by omega)) cl_X6_96 yo_X6_finds dX6_write_39 rfl rfl rfl (Nat.le_of_ble_eq_true rfl) (Nat.le_of_ble_eq_true rfl) rfl (Nat.le_of_ble_eq_true rfl) ⟨Nat.zero_le _, Nat.zero_le _⟩ ?_
      exact ret _ _ _ _ ⟨rfl, _, rfl, by intro g h2 h5 h6; by_cases h0 : g = 0 <;> simp [tellX, upG, up3, up3R, up2, h0, h2, h5, h6]⟩ rfl dX6_write_42
  · skip
    exact absurd c_9 (by decide)

set_option maxHeartbeats 4000000 in
set_option maxRecDepth 20000 in
theorem c_X6_write_ok_0 (l : Launch) (G : GB) (b : Nat → Nat) (y : Q3) (j n : Nat) (v : Int32) (hb : ¬ y 8 1 0 = 0) (hn : y 8 1 1 = nI n) (hn2 : n ≤ 40) (hj : j < n) : CI l yX6_write cX6_write 5 .int 3 66 G [.ref (b 0), .int (nI 0), .int (nI j), .int v] (wM G b y) (fun vR w' => vR = 1 ∧ PubM G b (upG y 8 (up2 (y 8) 0 j (narS (y 8 1 0) v))) w') := by
  refine CI.mk (own := RX6) (by decide) rfl (Nat.le_of_ble_eq_true rfl) ?_
  intro X E ret
  show J X G 5 0 0 (wM G b y) [(0, .ref (b 0)), (1, .int (nI 0)), (2, .int (nI j)), (3, .int v)] 0 []
  refine J_aload_n E dX6_write_0 rfl 0 rfl ?_
  refine J_iload_n E dX6_write_1 rfl 1 rfl ?_
  refine J_cVi0 E (As := [.int (nI 0)]) (c_X6_lacks_0_1 l G b y hb ) cl_X6_197 yo_X6_lacks dX6_write_2 rfl rfl rfl (Nat.le_of_ble_eq_true rfl) (Nat.le_of_ble_eq_true rfl) rfl (Nat.le_of_ble_eq_true rfl) ⟨Nat.zero_le _, Nat.zero_le _⟩ ?_
  refine J_istore E (lv' := [(4, .int (-1)), (0, .ref (b 0)), (1, .int (nI 0)), (2, .int (nI j)), (3, .int v)]) dX6_write_5 (by decide) rfl ?_
  refine J_iload E dX6_write_7 0 rfl ?_
  refine J_if_lt E (tgt := 19) dX6_write_9 (by decide) (fun c_9 => ?_) (fun c_9 => ?_)
  · skip
    refine J_iload_n E dX6_write_19 rfl 3 rfl ?_
    refine J_i2l E dX6_write_20 rfl ?_
    refine J_lconst E dX6_write_21 lc_0 ?_
    refine J_aload_n E dX6_write_22 rfl 1 rfl ?_
    refine gM0_X6_34 E dX6_write_23 ?_
    refine J_iload_n E dX6_write_26 rfl 2 rfl ?_
    refine lMz_0 E  dX6_write_27 ?_
    refine J_top (x' := nI n) (hn) ?_
    refine J_iconst E dX6_write_28 ic_1 ?_
    refine J_isub E dX6_write_29 ?_
    refine J_i2l E dX6_write_30 rfl ?_
    refine J_cSiN E (As := [.long (Int32.toInt64 (nI j)), .long 0, .long (Int32.toInt64 ((nI n) - 1))]) (c_X6_in l G (nI j) 0 ((nI n) - 1) 0 (Int32.toInt64 ((nI n) - 1)) (by decide) rfl ) cl_X6_54 yo_X6_in dX6_write_31 rfl (Nat.le_of_ble_eq_true rfl) (Nat.le_of_ble_eq_true rfl) rfl (Nat.le_of_ble_eq_true rfl) ⟨Nat.zero_le _, Nat.zero_le _⟩ ?_
    refine J_if_ne E (tgt := 43) dX6_write_34 (by decide) (fun c_34 => ?_) (fun c_34 => ?_)
    · skip
      have c_34 := bI_1 c_34
      refine J_aload_n E dX6_write_43 rfl 1 rfl ?_
      refine gM0_X6_37 E dX6_write_44 ?_
      refine J_bipush E dX6_write_47 bp_40 ?_
      refine J_iload_n E dX6_write_49 rfl 2 rfl ?_
      refine J_imul E dX6_write_50 ?_
      refine J_top (x' := nI 0) (by decide) ?_
      refine J_iload_n E dX6_write_51 rfl 3 rfl ?_
      refine J_iadd E dX6_write_52 ?_
      refine J_top (x' := nI (0 + j)) (nI_add 0 j) ?_
      refine J_aload_n E dX6_write_53 rfl 1 rfl ?_
      refine gM0_X6_31 E dX6_write_54 ?_
      refine J_iload_n E dX6_write_57 rfl 2 rfl ?_
      refine lMb_0 E  dX6_write_58 ?_
      refine J_bipush E dX6_write_59 bp_8 ?_
      refine J_icmp_ne E (tgt := 69) dX6_write_61 (by decide) (fun c_61 => ?_) (fun c_61 => ?_)
      · skip
        refine J_aload_n E dX6_write_69 rfl 1 rfl ?_
        refine gM0_X6_31 E dX6_write_70 ?_
        refine J_iload_n E dX6_write_73 rfl 2 rfl ?_
        refine lMb_0 E  dX6_write_74 ?_
        refine J_bipush E dX6_write_75 bp_16 ?_
        refine J_icmp_ne E (tgt := 85) dX6_write_77 (by decide) (fun c_77 => ?_) (fun c_77 => ?_)
        · skip
          refine J_iload_n E dX6_write_85 rfl 4 rfl ?_
          refine J_top (x' := narS (y 8 1 0) v) (by simp [narS, c_9, c_34, c_61, c_77]) ?_
          refine sMn_0 E (j := (0 + j)) (i := j) rfl (by omega) dX6_write_86 ?_
          refine J_iconst E dX6_write_87 ic_1 ?_
          exact ret _ _ _ _ ⟨rfl, _, rfl, ShM.rfl'⟩ rfl dX6_write_88
        · skip
          refine J_iload_n E dX6_write_80 rfl 4 rfl ?_
          refine J_i2s E dX6_write_81 rfl ?_
          refine J_goto E (tgt := 86) dX6_write_82 (by decide) ?_
          refine J_top (x' := narS (y 8 1 0) v) (by simp [narS, c_9, c_34, c_61, c_77]) ?_
          refine sMn_0 E (j := (0 + j)) (i := j) rfl (by omega) dX6_write_86 ?_
          refine J_iconst E dX6_write_87 ic_1 ?_
          exact ret _ _ _ _ ⟨rfl, _, rfl, ShM.rfl'⟩ rfl dX6_write_88
      · skip
        refine J_iload_n E dX6_write_64 rfl 4 rfl ?_
        refine J_i2b E dX6_write_65 rfl ?_
        refine J_goto E (tgt := 86) dX6_write_66 (by decide) ?_
        refine J_top (x' := narS (y 8 1 0) v) (by simp [narS, c_9, c_34, c_61]) ?_
        refine sMn_0 E (j := (0 + j)) (i := j) rfl (by omega) dX6_write_86 ?_
        refine J_iconst E dX6_write_87 ic_1 ?_
        exact ret _ _ _ _ ⟨rfl, _, rfl, ShM.rfl'⟩ rfl dX6_write_88
    · skip
      have c_34 := bI_0 c_34
      exact absurd ((le_pred hn2).mpr ⟨nI_pos' (by omega), nI_lt hj (by omega)⟩) c_34
  · skip
    exact absurd c_9 (by decide)

set_option maxHeartbeats 4000000 in
set_option maxRecDepth 20000 in
theorem c_X6_write_bad_1 (l : Launch) (G : GB) (b : Nat → Nat) (y : Q3) (i v : Int32) (n : Nat) (hb : ¬ y 9 1 0 = 0) (hn : y 9 1 1 = nI n) (hn2 : n ≤ 40) (hi : ¬ (0 ≤ i ∧ i < nI n)) : CI l yX6_write cX6_write 5 .int 3 66 G [.ref (b 0), .int (nI 1), .int i, .int v] (wM G b y) (fun vR w' => vR = tellR 0 ∧ PubM G b (tellX y 0) w') := by
  refine CI.mk (own := RX6) (by decide) rfl (Nat.le_of_ble_eq_true rfl) ?_
  intro X E ret
  show J X G 5 0 0 (wM G b y) [(0, .ref (b 0)), (1, .int (nI 1)), (2, .int i), (3, .int v)] 0 []
  refine J_aload_n E dX6_write_0 rfl 0 rfl ?_
  refine J_iload_n E dX6_write_1 rfl 1 rfl ?_
  refine J_cVi0 E (As := [.int (nI 1)]) (c_X6_lacks_1_1 l G b y hb ) cl_X6_197 yo_X6_lacks dX6_write_2 rfl rfl rfl (Nat.le_of_ble_eq_true rfl) (Nat.le_of_ble_eq_true rfl) rfl (Nat.le_of_ble_eq_true rfl) ⟨Nat.zero_le _, Nat.zero_le _⟩ ?_
  refine J_istore E (lv' := [(4, .int (-1)), (0, .ref (b 0)), (1, .int (nI 1)), (2, .int i), (3, .int v)]) dX6_write_5 (by decide) rfl ?_
  refine J_iload E dX6_write_7 0 rfl ?_
  refine J_if_lt E (tgt := 19) dX6_write_9 (by decide) (fun c_9 => ?_) (fun c_9 => ?_)
  · skip
    refine J_iload_n E dX6_write_19 rfl 3 rfl ?_
    refine J_i2l E dX6_write_20 rfl ?_
    refine J_lconst E dX6_write_21 lc_0 ?_
    refine J_aload_n E dX6_write_22 rfl 1 rfl ?_
    refine gM0_X6_34 E dX6_write_23 ?_
    refine J_iload_n E dX6_write_26 rfl 2 rfl ?_
    refine lMz_1 E  dX6_write_27 ?_
    refine J_top (x' := nI n) (hn) ?_
    refine J_iconst E dX6_write_28 ic_1 ?_
    refine J_isub E dX6_write_29 ?_
    refine J_i2l E dX6_write_30 rfl ?_
    refine J_cSiN E (As := [.long (Int32.toInt64 i), .long 0, .long (Int32.toInt64 ((nI n) - 1))]) (c_X6_in l G i 0 ((nI n) - 1) 0 (Int32.toInt64 ((nI n) - 1)) (by decide) rfl ) cl_X6_54 yo_X6_in dX6_write_31 rfl (Nat.le_of_ble_eq_true rfl) (Nat.le_of_ble_eq_true rfl) rfl (Nat.le_of_ble_eq_true rfl) ⟨Nat.zero_le _, Nat.zero_le _⟩ ?_
    refine J_if_ne E (tgt := 43) dX6_write_34 (by decide) (fun c_34 => ?_) (fun c_34 => ?_)
    · skip
      have c_34 := bI_1 c_34
      exact absurd ((le_pred hn2).mp c_34) hi
    · skip
      have c_34 := bI_0 c_34
      refine J_aload_n E dX6_write_37 rfl 1 rfl ?_
      refine J_iconst E dX6_write_38 ic_0 ?_
      refine J_cVi0 E (As := [.int 0]) (c_X6_finds l G b y 0 (by omega)) cl_X6_96 yo_X6_finds dX6_write_39 rfl rfl rfl (Nat.le_of_ble_eq_true rfl) (Nat.le_of_ble_eq_true rfl) rfl (Nat.le_of_ble_eq_true rfl) ⟨Nat.zero_le _, Nat.zero_le _⟩ ?_
      exact ret _ _ _ _ ⟨rfl, _, rfl, by intro g h2 h5 h6; by_cases h0 : g = 0 <;> simp [tellX, upG, up3, up3R, up2, h0, h2, h5, h6]⟩ rfl dX6_write_42
  · skip
    exact absurd c_9 (by decide)

set_option maxHeartbeats 4000000 in
set_option maxRecDepth 20000 in
theorem c_X6_write_ok_1 (l : Launch) (G : GB) (b : Nat → Nat) (y : Q3) (j n : Nat) (v : Int32) (hb : ¬ y 9 1 0 = 0) (hn : y 9 1 1 = nI n) (hn2 : n ≤ 40) (hj : j < n) : CI l yX6_write cX6_write 5 .int 3 66 G [.ref (b 0), .int (nI 1), .int (nI j), .int v] (wM G b y) (fun vR w' => vR = 1 ∧ PubM G b (upG y 9 (up2 (y 9) 0 j (narS (y 9 1 0) v))) w') := by
  refine CI.mk (own := RX6) (by decide) rfl (Nat.le_of_ble_eq_true rfl) ?_
  intro X E ret
  show J X G 5 0 0 (wM G b y) [(0, .ref (b 0)), (1, .int (nI 1)), (2, .int (nI j)), (3, .int v)] 0 []
  refine J_aload_n E dX6_write_0 rfl 0 rfl ?_
  refine J_iload_n E dX6_write_1 rfl 1 rfl ?_
  refine J_cVi0 E (As := [.int (nI 1)]) (c_X6_lacks_1_1 l G b y hb ) cl_X6_197 yo_X6_lacks dX6_write_2 rfl rfl rfl (Nat.le_of_ble_eq_true rfl) (Nat.le_of_ble_eq_true rfl) rfl (Nat.le_of_ble_eq_true rfl) ⟨Nat.zero_le _, Nat.zero_le _⟩ ?_
  refine J_istore E (lv' := [(4, .int (-1)), (0, .ref (b 0)), (1, .int (nI 1)), (2, .int (nI j)), (3, .int v)]) dX6_write_5 (by decide) rfl ?_
  refine J_iload E dX6_write_7 0 rfl ?_
  refine J_if_lt E (tgt := 19) dX6_write_9 (by decide) (fun c_9 => ?_) (fun c_9 => ?_)
  · skip
    refine J_iload_n E dX6_write_19 rfl 3 rfl ?_
    refine J_i2l E dX6_write_20 rfl ?_
    refine J_lconst E dX6_write_21 lc_0 ?_
    refine J_aload_n E dX6_write_22 rfl 1 rfl ?_
    refine gM0_X6_34 E dX6_write_23 ?_
    refine J_iload_n E dX6_write_26 rfl 2 rfl ?_
    refine lMz_1 E  dX6_write_27 ?_
    refine J_top (x' := nI n) (hn) ?_
    refine J_iconst E dX6_write_28 ic_1 ?_
    refine J_isub E dX6_write_29 ?_
    refine J_i2l E dX6_write_30 rfl ?_
    refine J_cSiN E (As := [.long (Int32.toInt64 (nI j)), .long 0, .long (Int32.toInt64 ((nI n) - 1))]) (c_X6_in l G (nI j) 0 ((nI n) - 1) 0 (Int32.toInt64 ((nI n) - 1)) (by decide) rfl ) cl_X6_54 yo_X6_in dX6_write_31 rfl (Nat.le_of_ble_eq_true rfl) (Nat.le_of_ble_eq_true rfl) rfl (Nat.le_of_ble_eq_true rfl) ⟨Nat.zero_le _, Nat.zero_le _⟩ ?_
    refine J_if_ne E (tgt := 43) dX6_write_34 (by decide) (fun c_34 => ?_) (fun c_34 => ?_)
    · skip
      have c_34 := bI_1 c_34
      refine J_aload_n E dX6_write_43 rfl 1 rfl ?_
      refine gM0_X6_37 E dX6_write_44 ?_
      refine J_bipush E dX6_write_47 bp_40 ?_
      refine J_iload_n E dX6_write_49 rfl 2 rfl ?_
      refine J_imul E dX6_write_50 ?_
      refine J_top (x' := nI 40) (by decide) ?_
      refine J_iload_n E dX6_write_51 rfl 3 rfl ?_
      refine J_iadd E dX6_write_52 ?_
      refine J_top (x' := nI (40 + j)) (nI_add 40 j) ?_
      refine J_aload_n E dX6_write_53 rfl 1 rfl ?_
      refine gM0_X6_31 E dX6_write_54 ?_
      refine J_iload_n E dX6_write_57 rfl 2 rfl ?_
      refine lMb_1 E  dX6_write_58 ?_
      refine J_bipush E dX6_write_59 bp_8 ?_
      refine J_icmp_ne E (tgt := 69) dX6_write_61 (by decide) (fun c_61 => ?_) (fun c_61 => ?_)
      · skip
        refine J_aload_n E dX6_write_69 rfl 1 rfl ?_
        refine gM0_X6_31 E dX6_write_70 ?_
        refine J_iload_n E dX6_write_73 rfl 2 rfl ?_
        refine lMb_1 E  dX6_write_74 ?_
        refine J_bipush E dX6_write_75 bp_16 ?_
        refine J_icmp_ne E (tgt := 85) dX6_write_77 (by decide) (fun c_77 => ?_) (fun c_77 => ?_)
        · skip
          refine J_iload_n E dX6_write_85 rfl 4 rfl ?_
          refine J_top (x' := narS (y 9 1 0) v) (by simp [narS, c_9, c_34, c_61, c_77]) ?_
          refine sMn_1 E (j := (40 + j)) (i := j) rfl (by omega) dX6_write_86 ?_
          refine J_iconst E dX6_write_87 ic_1 ?_
          exact ret _ _ _ _ ⟨rfl, _, rfl, ShM.rfl'⟩ rfl dX6_write_88
        · skip
          refine J_iload_n E dX6_write_80 rfl 4 rfl ?_
          refine J_i2s E dX6_write_81 rfl ?_
          refine J_goto E (tgt := 86) dX6_write_82 (by decide) ?_
          refine J_top (x' := narS (y 9 1 0) v) (by simp [narS, c_9, c_34, c_61, c_77]) ?_
          refine sMn_1 E (j := (40 + j)) (i := j) rfl (by omega) dX6_write_86 ?_
          refine J_iconst E dX6_write_87 ic_1 ?_
          exact ret _ _ _ _ ⟨rfl, _, rfl, ShM.rfl'⟩ rfl dX6_write_88
      · skip
        refine J_iload_n E dX6_write_64 rfl 4 rfl ?_
        refine J_i2b E dX6_write_65 rfl ?_
        refine J_goto E (tgt := 86) dX6_write_66 (by decide) ?_
        refine J_top (x' := narS (y 9 1 0) v) (by simp [narS, c_9, c_34, c_61]) ?_
        refine sMn_1 E (j := (40 + j)) (i := j) rfl (by omega) dX6_write_86 ?_
        refine J_iconst E dX6_write_87 ic_1 ?_
        exact ret _ _ _ _ ⟨rfl, _, rfl, ShM.rfl'⟩ rfl dX6_write_88
    · skip
      have c_34 := bI_0 c_34
      exact absurd ((le_pred hn2).mpr ⟨nI_pos' (by omega), nI_lt hj (by omega)⟩) c_34
  · skip
    exact absurd c_9 (by decide)

set_option maxHeartbeats 4000000 in
set_option maxRecDepth 20000 in
theorem c_X6_write_bad_2 (l : Launch) (G : GB) (b : Nat → Nat) (y : Q3) (i v : Int32) (n : Nat) (hb : ¬ y 10 1 0 = 0) (hn : y 10 1 1 = nI n) (hn2 : n ≤ 40) (hi : ¬ (0 ≤ i ∧ i < nI n)) : CI l yX6_write cX6_write 5 .int 3 66 G [.ref (b 0), .int (nI 2), .int i, .int v] (wM G b y) (fun vR w' => vR = tellR 0 ∧ PubM G b (tellX y 0) w') := by
  refine CI.mk (own := RX6) (by decide) rfl (Nat.le_of_ble_eq_true rfl) ?_
  intro X E ret
  show J X G 5 0 0 (wM G b y) [(0, .ref (b 0)), (1, .int (nI 2)), (2, .int i), (3, .int v)] 0 []
  refine J_aload_n E dX6_write_0 rfl 0 rfl ?_
  refine J_iload_n E dX6_write_1 rfl 1 rfl ?_
  refine J_cVi0 E (As := [.int (nI 2)]) (c_X6_lacks_2_1 l G b y hb ) cl_X6_197 yo_X6_lacks dX6_write_2 rfl rfl rfl (Nat.le_of_ble_eq_true rfl) (Nat.le_of_ble_eq_true rfl) rfl (Nat.le_of_ble_eq_true rfl) ⟨Nat.zero_le _, Nat.zero_le _⟩ ?_
  refine J_istore E (lv' := [(4, .int (-1)), (0, .ref (b 0)), (1, .int (nI 2)), (2, .int i), (3, .int v)]) dX6_write_5 (by decide) rfl ?_
  refine J_iload E dX6_write_7 0 rfl ?_
  refine J_if_lt E (tgt := 19) dX6_write_9 (by decide) (fun c_9 => ?_) (fun c_9 => ?_)
  · skip
    refine J_iload_n E dX6_write_19 rfl 3 rfl ?_
    refine J_i2l E dX6_write_20 rfl ?_
    refine J_lconst E dX6_write_21 lc_0 ?_
    refine J_aload_n E dX6_write_22 rfl 1 rfl ?_
    refine gM0_X6_34 E dX6_write_23 ?_
    refine J_iload_n E dX6_write_26 rfl 2 rfl ?_
    refine lMz_2 E  dX6_write_27 ?_
    refine J_top (x' := nI n) (hn) ?_
    refine J_iconst E dX6_write_28 ic_1 ?_
    refine J_isub E dX6_write_29 ?_
    refine J_i2l E dX6_write_30 rfl ?_
    refine J_cSiN E (As := [.long (Int32.toInt64 i), .long 0, .long (Int32.toInt64 ((nI n) - 1))]) (c_X6_in l G i 0 ((nI n) - 1) 0 (Int32.toInt64 ((nI n) - 1)) (by decide) rfl ) cl_X6_54 yo_X6_in dX6_write_31 rfl (Nat.le_of_ble_eq_true rfl) (Nat.le_of_ble_eq_true rfl) rfl (Nat.le_of_ble_eq_true rfl) ⟨Nat.zero_le _, Nat.zero_le _⟩ ?_
    refine J_if_ne E (tgt := 43) dX6_write_34 (by decide) (fun c_34 => ?_) (fun c_34 => ?_)
    · skip
      have c_34 := bI_1 c_34
      exact absurd ((le_pred hn2).mp c_34) hi
    · skip
      have c_34 := bI_0 c_34
      refine J_aload_n E dX6_write_37 rfl 1 rfl ?_
      refine J_iconst E dX6_write_38 ic_0 ?_
      refine J_cVi0 E (As := [.int 0]) (c_X6_finds l G b y 0 (by omega)) cl_X6_96 yo_X6_finds dX6_write_39 rfl rfl rfl (Nat.le_of_ble_eq_true rfl) (Nat.le_of_ble_eq_true rfl) rfl (Nat.le_of_ble_eq_true rfl) ⟨Nat.zero_le _, Nat.zero_le _⟩ ?_
      exact ret _ _ _ _ ⟨rfl, _, rfl, by intro g h2 h5 h6; by_cases h0 : g = 0 <;> simp [tellX, upG, up3, up3R, up2, h0, h2, h5, h6]⟩ rfl dX6_write_42
  · skip
    exact absurd c_9 (by decide)

set_option maxHeartbeats 4000000 in
set_option maxRecDepth 20000 in
theorem c_X6_write_ok_2 (l : Launch) (G : GB) (b : Nat → Nat) (y : Q3) (j n : Nat) (v : Int32) (hb : ¬ y 10 1 0 = 0) (hn : y 10 1 1 = nI n) (hn2 : n ≤ 40) (hj : j < n) : CI l yX6_write cX6_write 5 .int 3 66 G [.ref (b 0), .int (nI 2), .int (nI j), .int v] (wM G b y) (fun vR w' => vR = 1 ∧ PubM G b (upG y 10 (up2 (y 10) 0 j (narS (y 10 1 0) v))) w') := by
  refine CI.mk (own := RX6) (by decide) rfl (Nat.le_of_ble_eq_true rfl) ?_
  intro X E ret
  show J X G 5 0 0 (wM G b y) [(0, .ref (b 0)), (1, .int (nI 2)), (2, .int (nI j)), (3, .int v)] 0 []
  refine J_aload_n E dX6_write_0 rfl 0 rfl ?_
  refine J_iload_n E dX6_write_1 rfl 1 rfl ?_
  refine J_cVi0 E (As := [.int (nI 2)]) (c_X6_lacks_2_1 l G b y hb ) cl_X6_197 yo_X6_lacks dX6_write_2 rfl rfl rfl (Nat.le_of_ble_eq_true rfl) (Nat.le_of_ble_eq_true rfl) rfl (Nat.le_of_ble_eq_true rfl) ⟨Nat.zero_le _, Nat.zero_le _⟩ ?_
  refine J_istore E (lv' := [(4, .int (-1)), (0, .ref (b 0)), (1, .int (nI 2)), (2, .int (nI j)), (3, .int v)]) dX6_write_5 (by decide) rfl ?_
  refine J_iload E dX6_write_7 0 rfl ?_
  refine J_if_lt E (tgt := 19) dX6_write_9 (by decide) (fun c_9 => ?_) (fun c_9 => ?_)
  · skip
    refine J_iload_n E dX6_write_19 rfl 3 rfl ?_
    refine J_i2l E dX6_write_20 rfl ?_
    refine J_lconst E dX6_write_21 lc_0 ?_
    refine J_aload_n E dX6_write_22 rfl 1 rfl ?_
    refine gM0_X6_34 E dX6_write_23 ?_
    refine J_iload_n E dX6_write_26 rfl 2 rfl ?_
    refine lMz_2 E  dX6_write_27 ?_
    refine J_top (x' := nI n) (hn) ?_
    refine J_iconst E dX6_write_28 ic_1 ?_
    refine J_isub E dX6_write_29 ?_
    refine J_i2l E dX6_write_30 rfl ?_
    refine J_cSiN E (As := [.long (Int32.toInt64 (nI j)), .long 0, .long (Int32.toInt64 ((nI n) - 1))]) (c_X6_in l G (nI j) 0 ((nI n) - 1) 0 (Int32.toInt64 ((nI n) - 1)) (by decide) rfl ) cl_X6_54 yo_X6_in dX6_write_31 rfl (Nat.le_of_ble_eq_true rfl) (Nat.le_of_ble_eq_true rfl) rfl (Nat.le_of_ble_eq_true rfl) ⟨Nat.zero_le _, Nat.zero_le _⟩ ?_
    refine J_if_ne E (tgt := 43) dX6_write_34 (by decide) (fun c_34 => ?_) (fun c_34 => ?_)
    · skip
      have c_34 := bI_1 c_34
      refine J_aload_n E dX6_write_43 rfl 1 rfl ?_
      refine gM0_X6_37 E dX6_write_44 ?_
      refine J_bipush E dX6_write_47 bp_40 ?_
      refine J_iload_n E dX6_write_49 rfl 2 rfl ?_
      refine J_imul E dX6_write_50 ?_
      refine J_top (x' := nI 80) (by decide) ?_
      refine J_iload_n E dX6_write_51 rfl 3 rfl ?_
      refine J_iadd E dX6_write_52 ?_
      refine J_top (x' := nI (80 + j)) (nI_add 80 j) ?_
      refine J_aload_n E dX6_write_53 rfl 1 rfl ?_
      refine gM0_X6_31 E dX6_write_54 ?_
      refine J_iload_n E dX6_write_57 rfl 2 rfl ?_
      refine lMb_2 E  dX6_write_58 ?_
      refine J_bipush E dX6_write_59 bp_8 ?_
      refine J_icmp_ne E (tgt := 69) dX6_write_61 (by decide) (fun c_61 => ?_) (fun c_61 => ?_)
      · skip
        refine J_aload_n E dX6_write_69 rfl 1 rfl ?_
        refine gM0_X6_31 E dX6_write_70 ?_
        refine J_iload_n E dX6_write_73 rfl 2 rfl ?_
        refine lMb_2 E  dX6_write_74 ?_
        refine J_bipush E dX6_write_75 bp_16 ?_
        refine J_icmp_ne E (tgt := 85) dX6_write_77 (by decide) (fun c_77 => ?_) (fun c_77 => ?_)
        · skip
          refine J_iload_n E dX6_write_85 rfl 4 rfl ?_
          refine J_top (x' := narS (y 10 1 0) v) (by simp [narS, c_9, c_34, c_61, c_77]) ?_
          refine sMn_2 E (j := (80 + j)) (i := j) rfl (by omega) dX6_write_86 ?_
          refine J_iconst E dX6_write_87 ic_1 ?_
          exact ret _ _ _ _ ⟨rfl, _, rfl, ShM.rfl'⟩ rfl dX6_write_88
        · skip
          refine J_iload_n E dX6_write_80 rfl 4 rfl ?_
          refine J_i2s E dX6_write_81 rfl ?_
          refine J_goto E (tgt := 86) dX6_write_82 (by decide) ?_
          refine J_top (x' := narS (y 10 1 0) v) (by simp [narS, c_9, c_34, c_61, c_77]) ?_
          refine sMn_2 E (j := (80 + j)) (i := j) rfl (by omega) dX6_write_86 ?_
          refine J_iconst E dX6_write_87 ic_1 ?_
          exact ret _ _ _ _ ⟨rfl, _, rfl, ShM.rfl'⟩ rfl dX6_write_88
      · skip
        refine J_iload_n E dX6_write_64 rfl 4 rfl ?_
        refine J_i2b E dX6_write_65 rfl ?_
        refine J_goto E (tgt := 86) dX6_write_66 (by decide) ?_
        refine J_top (x' := narS (y 10 1 0) v) (by simp [narS, c_9, c_34, c_61]) ?_
        refine sMn_2 E (j := (80 + j)) (i := j) rfl (by omega) dX6_write_86 ?_
        refine J_iconst E dX6_write_87 ic_1 ?_
        exact ret _ _ _ _ ⟨rfl, _, rfl, ShM.rfl'⟩ rfl dX6_write_88
    · skip
      have c_34 := bI_0 c_34
      exact absurd ((le_pred hn2).mpr ⟨nI_pos' (by omega), nI_lt hj (by omega)⟩) c_34
  · skip
    exact absurd c_9 (by decide)

set_option maxHeartbeats 4000000 in
set_option maxRecDepth 20000 in
theorem c_X6_write_bad_3 (l : Launch) (G : GB) (b : Nat → Nat) (y : Q3) (i v : Int32) (n : Nat) (hb : ¬ y 11 1 0 = 0) (hn : y 11 1 1 = nI n) (hn2 : n ≤ 40) (hi : ¬ (0 ≤ i ∧ i < nI n)) : CI l yX6_write cX6_write 5 .int 3 66 G [.ref (b 0), .int (nI 3), .int i, .int v] (wM G b y) (fun vR w' => vR = tellR 0 ∧ PubM G b (tellX y 0) w') := by
  refine CI.mk (own := RX6) (by decide) rfl (Nat.le_of_ble_eq_true rfl) ?_
  intro X E ret
  show J X G 5 0 0 (wM G b y) [(0, .ref (b 0)), (1, .int (nI 3)), (2, .int i), (3, .int v)] 0 []
  refine J_aload_n E dX6_write_0 rfl 0 rfl ?_
  refine J_iload_n E dX6_write_1 rfl 1 rfl ?_
  refine J_cVi0 E (As := [.int (nI 3)]) (c_X6_lacks_3_1 l G b y hb ) cl_X6_197 yo_X6_lacks dX6_write_2 rfl rfl rfl (Nat.le_of_ble_eq_true rfl) (Nat.le_of_ble_eq_true rfl) rfl (Nat.le_of_ble_eq_true rfl) ⟨Nat.zero_le _, Nat.zero_le _⟩ ?_
  refine J_istore E (lv' := [(4, .int (-1)), (0, .ref (b 0)), (1, .int (nI 3)), (2, .int i), (3, .int v)]) dX6_write_5 (by decide) rfl ?_
  refine J_iload E dX6_write_7 0 rfl ?_
  refine J_if_lt E (tgt := 19) dX6_write_9 (by decide) (fun c_9 => ?_) (fun c_9 => ?_)
  · skip
    refine J_iload_n E dX6_write_19 rfl 3 rfl ?_
    refine J_i2l E dX6_write_20 rfl ?_
    refine J_lconst E dX6_write_21 lc_0 ?_
    refine J_aload_n E dX6_write_22 rfl 1 rfl ?_
    refine gM0_X6_34 E dX6_write_23 ?_
    refine J_iload_n E dX6_write_26 rfl 2 rfl ?_
    refine lMz_3 E  dX6_write_27 ?_
    refine J_top (x' := nI n) (hn) ?_
    refine J_iconst E dX6_write_28 ic_1 ?_
    refine J_isub E dX6_write_29 ?_
    refine J_i2l E dX6_write_30 rfl ?_
    refine J_cSiN E (As := [.long (Int32.toInt64 i), .long 0, .long (Int32.toInt64 ((nI n) - 1))]) (c_X6_in l G i 0 ((nI n) - 1) 0 (Int32.toInt64 ((nI n) - 1)) (by decide) rfl ) cl_X6_54 yo_X6_in dX6_write_31 rfl (Nat.le_of_ble_eq_true rfl) (Nat.le_of_ble_eq_true rfl) rfl (Nat.le_of_ble_eq_true rfl) ⟨Nat.zero_le _, Nat.zero_le _⟩ ?_
    refine J_if_ne E (tgt := 43) dX6_write_34 (by decide) (fun c_34 => ?_) (fun c_34 => ?_)
    · skip
      have c_34 := bI_1 c_34
      exact absurd ((le_pred hn2).mp c_34) hi
    · skip
      have c_34 := bI_0 c_34
      refine J_aload_n E dX6_write_37 rfl 1 rfl ?_
      refine J_iconst E dX6_write_38 ic_0 ?_
      refine J_cVi0 E (As := [.int 0]) (c_X6_finds l G b y 0 (by omega)) cl_X6_96 yo_X6_finds dX6_write_39 rfl rfl rfl (Nat.le_of_ble_eq_true rfl) (Nat.le_of_ble_eq_true rfl) rfl (Nat.le_of_ble_eq_true rfl) ⟨Nat.zero_le _, Nat.zero_le _⟩ ?_
      exact ret _ _ _ _ ⟨rfl, _, rfl, by intro g h2 h5 h6; by_cases h0 : g = 0 <;> simp [tellX, upG, up3, up3R, up2, h0, h2, h5, h6]⟩ rfl dX6_write_42
  · skip
    exact absurd c_9 (by decide)

set_option maxHeartbeats 4000000 in
set_option maxRecDepth 20000 in
theorem c_X6_write_ok_3 (l : Launch) (G : GB) (b : Nat → Nat) (y : Q3) (j n : Nat) (v : Int32) (hb : ¬ y 11 1 0 = 0) (hn : y 11 1 1 = nI n) (hn2 : n ≤ 40) (hj : j < n) : CI l yX6_write cX6_write 5 .int 3 66 G [.ref (b 0), .int (nI 3), .int (nI j), .int v] (wM G b y) (fun vR w' => vR = 1 ∧ PubM G b (upG y 11 (up2 (y 11) 0 j (narS (y 11 1 0) v))) w') := by
  refine CI.mk (own := RX6) (by decide) rfl (Nat.le_of_ble_eq_true rfl) ?_
  intro X E ret
  show J X G 5 0 0 (wM G b y) [(0, .ref (b 0)), (1, .int (nI 3)), (2, .int (nI j)), (3, .int v)] 0 []
  refine J_aload_n E dX6_write_0 rfl 0 rfl ?_
  refine J_iload_n E dX6_write_1 rfl 1 rfl ?_
  refine J_cVi0 E (As := [.int (nI 3)]) (c_X6_lacks_3_1 l G b y hb ) cl_X6_197 yo_X6_lacks dX6_write_2 rfl rfl rfl (Nat.le_of_ble_eq_true rfl) (Nat.le_of_ble_eq_true rfl) rfl (Nat.le_of_ble_eq_true rfl) ⟨Nat.zero_le _, Nat.zero_le _⟩ ?_
  refine J_istore E (lv' := [(4, .int (-1)), (0, .ref (b 0)), (1, .int (nI 3)), (2, .int (nI j)), (3, .int v)]) dX6_write_5 (by decide) rfl ?_
  refine J_iload E dX6_write_7 0 rfl ?_
  refine J_if_lt E (tgt := 19) dX6_write_9 (by decide) (fun c_9 => ?_) (fun c_9 => ?_)
  · skip
    refine J_iload_n E dX6_write_19 rfl 3 rfl ?_
    refine J_i2l E dX6_write_20 rfl ?_
    refine J_lconst E dX6_write_21 lc_0 ?_
    refine J_aload_n E dX6_write_22 rfl 1 rfl ?_
    refine gM0_X6_34 E dX6_write_23 ?_
    refine J_iload_n E dX6_write_26 rfl 2 rfl ?_
    refine lMz_3 E  dX6_write_27 ?_
    refine J_top (x' := nI n) (hn) ?_
    refine J_iconst E dX6_write_28 ic_1 ?_
    refine J_isub E dX6_write_29 ?_
    refine J_i2l E dX6_write_30 rfl ?_
    refine J_cSiN E (As := [.long (Int32.toInt64 (nI j)), .long 0, .long (Int32.toInt64 ((nI n) - 1))]) (c_X6_in l G (nI j) 0 ((nI n) - 1) 0 (Int32.toInt64 ((nI n) - 1)) (by decide) rfl ) cl_X6_54 yo_X6_in dX6_write_31 rfl (Nat.le_of_ble_eq_true rfl) (Nat.le_of_ble_eq_true rfl) rfl (Nat.le_of_ble_eq_true rfl) ⟨Nat.zero_le _, Nat.zero_le _⟩ ?_
    refine J_if_ne E (tgt := 43) dX6_write_34 (by decide) (fun c_34 => ?_) (fun c_34 => ?_)
    · skip
      have c_34 := bI_1 c_34
      refine J_aload_n E dX6_write_43 rfl 1 rfl ?_
      refine gM0_X6_37 E dX6_write_44 ?_
      refine J_bipush E dX6_write_47 bp_40 ?_
      refine J_iload_n E dX6_write_49 rfl 2 rfl ?_
      refine J_imul E dX6_write_50 ?_
      refine J_top (x' := nI 120) (by decide) ?_
      refine J_iload_n E dX6_write_51 rfl 3 rfl ?_
      refine J_iadd E dX6_write_52 ?_
      refine J_top (x' := nI (120 + j)) (nI_add 120 j) ?_
      refine J_aload_n E dX6_write_53 rfl 1 rfl ?_
      refine gM0_X6_31 E dX6_write_54 ?_
      refine J_iload_n E dX6_write_57 rfl 2 rfl ?_
      refine lMb_3 E  dX6_write_58 ?_
      refine J_bipush E dX6_write_59 bp_8 ?_
      refine J_icmp_ne E (tgt := 69) dX6_write_61 (by decide) (fun c_61 => ?_) (fun c_61 => ?_)
      · skip
        refine J_aload_n E dX6_write_69 rfl 1 rfl ?_
        refine gM0_X6_31 E dX6_write_70 ?_
        refine J_iload_n E dX6_write_73 rfl 2 rfl ?_
        refine lMb_3 E  dX6_write_74 ?_
        refine J_bipush E dX6_write_75 bp_16 ?_
        refine J_icmp_ne E (tgt := 85) dX6_write_77 (by decide) (fun c_77 => ?_) (fun c_77 => ?_)
        · skip
          refine J_iload_n E dX6_write_85 rfl 4 rfl ?_
          refine J_top (x' := narS (y 11 1 0) v) (by simp [narS, c_9, c_34, c_61, c_77]) ?_
          refine sMn_3 E (j := (120 + j)) (i := j) rfl (by omega) dX6_write_86 ?_
          refine J_iconst E dX6_write_87 ic_1 ?_
          exact ret _ _ _ _ ⟨rfl, _, rfl, ShM.rfl'⟩ rfl dX6_write_88
        · skip
          refine J_iload_n E dX6_write_80 rfl 4 rfl ?_
          refine J_i2s E dX6_write_81 rfl ?_
          refine J_goto E (tgt := 86) dX6_write_82 (by decide) ?_
          refine J_top (x' := narS (y 11 1 0) v) (by simp [narS, c_9, c_34, c_61, c_77]) ?_
          refine sMn_3 E (j := (120 + j)) (i := j) rfl (by omega) dX6_write_86 ?_
          refine J_iconst E dX6_write_87 ic_1 ?_
          exact ret _ _ _ _ ⟨rfl, _, rfl, ShM.rfl'⟩ rfl dX6_write_88
      · skip
        refine J_iload_n E dX6_write_64 rfl 4 rfl ?_
        refine J_i2b E dX6_write_65 rfl ?_
        refine J_goto E (tgt := 86) dX6_write_66 (by decide) ?_
        refine J_top (x' := narS (y 11 1 0) v) (by simp [narS, c_9, c_34, c_61]) ?_
        refine sMn_3 E (j := (120 + j)) (i := j) rfl (by omega) dX6_write_86 ?_
        refine J_iconst E dX6_write_87 ic_1 ?_
        exact ret _ _ _ _ ⟨rfl, _, rfl, ShM.rfl'⟩ rfl dX6_write_88
    · skip
      have c_34 := bI_0 c_34
      exact absurd ((le_pred hn2).mpr ⟨nI_pos' (by omega), nI_lt hj (by omega)⟩) c_34
  · skip
    exact absurd c_9 (by decide)

set_option maxHeartbeats 4000000 in
set_option maxRecDepth 20000 in
theorem c_X6_load_out (l : Launch) (G : GB) (b : Nat → Nat) (y : Q3) (s : Int32)  (hs : ¬ (0 ≤ s ∧ s ≤ 3)) : CI l yX6_load cX6_load 4 .int 3 66 G [.ref (b 0), .int s] (wM G b y) (fun vR w' => vR = tellR 0 ∧ PubM G b (tellX y 0) w') := by
  refine CI.mk (own := RX6) (by decide) rfl (Nat.le_of_ble_eq_true rfl) ?_
  intro X E ret
  show J X G 4 0 0 (wM G b y) [(0, .ref (b 0)), (1, .int s)] 0 []
  refine J_aload_n E dX6_load_0 rfl 0 rfl ?_
  refine J_iload_n E dX6_load_1 rfl 1 rfl ?_
  refine J_cVi0 E (As := [.int s]) (c_X6_lacks_out l G b y s hs ) cl_X6_197 yo_X6_lacks dX6_load_2 rfl rfl rfl (Nat.le_of_ble_eq_true rfl) (Nat.le_of_ble_eq_true rfl) rfl (Nat.le_of_ble_eq_true rfl) ⟨Nat.zero_le _, Nat.zero_le _⟩ ?_
  refine J_istore_n E (lv' := [(2, .int 0), (0, .ref (b 0)), (1, .int s)]) dX6_load_5 rfl (by decide) rfl ?_
  refine J_iload_n E dX6_load_6 rfl 0 rfl ?_
  refine J_if_lt E (tgt := 16) dX6_load_7 (by decide) (fun c_7 => ?_) (fun c_7 => ?_)
  · skip
    have n_7 : 0 < 0 := cmp_lt (a := 0) (b := 0) (by omega) (by omega) c_7
    exact absurd n_7 (by decide)
  · skip
    have n_7 : ¬ 0 < 0 := cmp_nlt (a := 0) (b := 0) (by omega) (by omega) c_7
    refine J_aload_n E dX6_load_10 rfl 1 rfl ?_
    refine J_iload_n E dX6_load_11 rfl 0 rfl ?_
    refine J_cVi0 E (As := [.int 0]) (c_X6_finds l G b y 0 (by omega)) cl_X6_96 yo_X6_finds dX6_load_12 rfl rfl rfl (Nat.le_of_ble_eq_true rfl) (Nat.le_of_ble_eq_true rfl) rfl (Nat.le_of_ble_eq_true rfl) ⟨Nat.zero_le _, Nat.zero_le _⟩ ?_
    exact ret _ _ _ _ ⟨rfl, _, rfl, by intro g h2 h5 h6; by_cases h0 : g = 0 <;> simp [tellX, upG, up3, up3R, up2, h0, h2, h5, h6]⟩ rfl dX6_load_15

set_option maxHeartbeats 4000000 in
set_option maxRecDepth 20000 in
theorem c_X6_load_miss_0 (l : Launch) (G : GB) (b : Nat → Nat) (y : Q3)  (hb : y 8 1 0 = 0) : CI l yX6_load cX6_load 4 .int 3 66 G [.ref (b 0), .int (nI 0)] (wM G b y) (fun vR w' => vR = tellR 5 ∧ PubM G b (tellX y 5) w') := by
  refine CI.mk (own := RX6) (by decide) rfl (Nat.le_of_ble_eq_true rfl) ?_
  intro X E ret
  show J X G 4 0 0 (wM G b y) [(0, .ref (b 0)), (1, .int (nI 0))] 0 []
  refine J_aload_n E dX6_load_0 rfl 0 rfl ?_
  refine J_iload_n E dX6_load_1 rfl 1 rfl ?_
  refine J_cVi0 E (As := [.int (nI 0)]) (c_X6_lacks_0_0 l G b y hb ) cl_X6_197 yo_X6_lacks dX6_load_2 rfl rfl rfl (Nat.le_of_ble_eq_true rfl) (Nat.le_of_ble_eq_true rfl) rfl (Nat.le_of_ble_eq_true rfl) ⟨Nat.zero_le _, Nat.zero_le _⟩ ?_
  refine J_istore_n E (lv' := [(2, .int 5), (0, .ref (b 0)), (1, .int (nI 0))]) dX6_load_5 rfl (by decide) rfl ?_
  refine J_iload_n E dX6_load_6 rfl 0 rfl ?_
  refine J_if_lt E (tgt := 16) dX6_load_7 (by decide) (fun c_7 => ?_) (fun c_7 => ?_)
  · skip
    have n_7 : 5 < 0 := cmp_lt (a := 5) (b := 0) (by omega) (by omega) c_7
    exact absurd n_7 (by decide)
  · skip
    have n_7 : ¬ 5 < 0 := cmp_nlt (a := 5) (b := 0) (by omega) (by omega) c_7
    refine J_aload_n E dX6_load_10 rfl 1 rfl ?_
    refine J_iload_n E dX6_load_11 rfl 0 rfl ?_
    refine J_cVi0 E (As := [.int 5]) (c_X6_finds l G b y 5 (by omega)) cl_X6_96 yo_X6_finds dX6_load_12 rfl rfl rfl (Nat.le_of_ble_eq_true rfl) (Nat.le_of_ble_eq_true rfl) rfl (Nat.le_of_ble_eq_true rfl) ⟨Nat.zero_le _, Nat.zero_le _⟩ ?_
    exact ret _ _ _ _ ⟨rfl, _, rfl, by intro g h2 h5 h6; by_cases h0 : g = 0 <;> simp [tellX, upG, up3, up3R, up2, h0, h2, h5, h6]⟩ rfl dX6_load_15

set_option maxHeartbeats 4000000 in
set_option maxRecDepth 20000 in
theorem c_X6_load_miss_1 (l : Launch) (G : GB) (b : Nat → Nat) (y : Q3)  (hb : y 9 1 0 = 0) : CI l yX6_load cX6_load 4 .int 3 66 G [.ref (b 0), .int (nI 1)] (wM G b y) (fun vR w' => vR = tellR 5 ∧ PubM G b (tellX y 5) w') := by
  refine CI.mk (own := RX6) (by decide) rfl (Nat.le_of_ble_eq_true rfl) ?_
  intro X E ret
  show J X G 4 0 0 (wM G b y) [(0, .ref (b 0)), (1, .int (nI 1))] 0 []
  refine J_aload_n E dX6_load_0 rfl 0 rfl ?_
  refine J_iload_n E dX6_load_1 rfl 1 rfl ?_
  refine J_cVi0 E (As := [.int (nI 1)]) (c_X6_lacks_1_0 l G b y hb ) cl_X6_197 yo_X6_lacks dX6_load_2 rfl rfl rfl (Nat.le_of_ble_eq_true rfl) (Nat.le_of_ble_eq_true rfl) rfl (Nat.le_of_ble_eq_true rfl) ⟨Nat.zero_le _, Nat.zero_le _⟩ ?_
  refine J_istore_n E (lv' := [(2, .int 5), (0, .ref (b 0)), (1, .int (nI 1))]) dX6_load_5 rfl (by decide) rfl ?_
  refine J_iload_n E dX6_load_6 rfl 0 rfl ?_
  refine J_if_lt E (tgt := 16) dX6_load_7 (by decide) (fun c_7 => ?_) (fun c_7 => ?_)
  · skip
    have n_7 : 5 < 0 := cmp_lt (a := 5) (b := 0) (by omega) (by omega) c_7
    exact absurd n_7 (by decide)
  · skip
    have n_7 : ¬ 5 < 0 := cmp_nlt (a := 5) (b := 0) (by omega) (by omega) c_7
    refine J_aload_n E dX6_load_10 rfl 1 rfl ?_
    refine J_iload_n E dX6_load_11 rfl 0 rfl ?_
    refine J_cVi0 E (As := [.int 5]) (c_X6_finds l G b y 5 (by omega)) cl_X6_96 yo_X6_finds dX6_load_12 rfl rfl rfl (Nat.le_of_ble_eq_true rfl) (Nat.le_of_ble_eq_true rfl) rfl (Nat.le_of_ble_eq_true rfl) ⟨Nat.zero_le _, Nat.zero_le _⟩ ?_
    exact ret _ _ _ _ ⟨rfl, _, rfl, by intro g h2 h5 h6; by_cases h0 : g = 0 <;> simp [tellX, upG, up3, up3R, up2, h0, h2, h5, h6]⟩ rfl dX6_load_15

set_option maxHeartbeats 4000000 in
set_option maxRecDepth 20000 in
theorem c_X6_load_miss_2 (l : Launch) (G : GB) (b : Nat → Nat) (y : Q3)  (hb : y 10 1 0 = 0) : CI l yX6_load cX6_load 4 .int 3 66 G [.ref (b 0), .int (nI 2)] (wM G b y) (fun vR w' => vR = tellR 5 ∧ PubM G b (tellX y 5) w') := by
  refine CI.mk (own := RX6) (by decide) rfl (Nat.le_of_ble_eq_true rfl) ?_
  intro X E ret
  show J X G 4 0 0 (wM G b y) [(0, .ref (b 0)), (1, .int (nI 2))] 0 []
  refine J_aload_n E dX6_load_0 rfl 0 rfl ?_
  refine J_iload_n E dX6_load_1 rfl 1 rfl ?_
  refine J_cVi0 E (As := [.int (nI 2)]) (c_X6_lacks_2_0 l G b y hb ) cl_X6_197 yo_X6_lacks dX6_load_2 rfl rfl rfl (Nat.le_of_ble_eq_true rfl) (Nat.le_of_ble_eq_true rfl) rfl (Nat.le_of_ble_eq_true rfl) ⟨Nat.zero_le _, Nat.zero_le _⟩ ?_
  refine J_istore_n E (lv' := [(2, .int 5), (0, .ref (b 0)), (1, .int (nI 2))]) dX6_load_5 rfl (by decide) rfl ?_
  refine J_iload_n E dX6_load_6 rfl 0 rfl ?_
  refine J_if_lt E (tgt := 16) dX6_load_7 (by decide) (fun c_7 => ?_) (fun c_7 => ?_)
  · skip
    have n_7 : 5 < 0 := cmp_lt (a := 5) (b := 0) (by omega) (by omega) c_7
    exact absurd n_7 (by decide)
  · skip
    have n_7 : ¬ 5 < 0 := cmp_nlt (a := 5) (b := 0) (by omega) (by omega) c_7
    refine J_aload_n E dX6_load_10 rfl 1 rfl ?_
    refine J_iload_n E dX6_load_11 rfl 0 rfl ?_
    refine J_cVi0 E (As := [.int 5]) (c_X6_finds l G b y 5 (by omega)) cl_X6_96 yo_X6_finds dX6_load_12 rfl rfl rfl (Nat.le_of_ble_eq_true rfl) (Nat.le_of_ble_eq_true rfl) rfl (Nat.le_of_ble_eq_true rfl) ⟨Nat.zero_le _, Nat.zero_le _⟩ ?_
    exact ret _ _ _ _ ⟨rfl, _, rfl, by intro g h2 h5 h6; by_cases h0 : g = 0 <;> simp [tellX, upG, up3, up3R, up2, h0, h2, h5, h6]⟩ rfl dX6_load_15

set_option maxHeartbeats 4000000 in
set_option maxRecDepth 20000 in
theorem c_X6_load_miss_3 (l : Launch) (G : GB) (b : Nat → Nat) (y : Q3)  (hb : y 11 1 0 = 0) : CI l yX6_load cX6_load 4 .int 3 66 G [.ref (b 0), .int (nI 3)] (wM G b y) (fun vR w' => vR = tellR 5 ∧ PubM G b (tellX y 5) w') := by
  refine CI.mk (own := RX6) (by decide) rfl (Nat.le_of_ble_eq_true rfl) ?_
  intro X E ret
  show J X G 4 0 0 (wM G b y) [(0, .ref (b 0)), (1, .int (nI 3))] 0 []
  refine J_aload_n E dX6_load_0 rfl 0 rfl ?_
  refine J_iload_n E dX6_load_1 rfl 1 rfl ?_
  refine J_cVi0 E (As := [.int (nI 3)]) (c_X6_lacks_3_0 l G b y hb ) cl_X6_197 yo_X6_lacks dX6_load_2 rfl rfl rfl (Nat.le_of_ble_eq_true rfl) (Nat.le_of_ble_eq_true rfl) rfl (Nat.le_of_ble_eq_true rfl) ⟨Nat.zero_le _, Nat.zero_le _⟩ ?_
  refine J_istore_n E (lv' := [(2, .int 5), (0, .ref (b 0)), (1, .int (nI 3))]) dX6_load_5 rfl (by decide) rfl ?_
  refine J_iload_n E dX6_load_6 rfl 0 rfl ?_
  refine J_if_lt E (tgt := 16) dX6_load_7 (by decide) (fun c_7 => ?_) (fun c_7 => ?_)
  · skip
    have n_7 : 5 < 0 := cmp_lt (a := 5) (b := 0) (by omega) (by omega) c_7
    exact absurd n_7 (by decide)
  · skip
    have n_7 : ¬ 5 < 0 := cmp_nlt (a := 5) (b := 0) (by omega) (by omega) c_7
    refine J_aload_n E dX6_load_10 rfl 1 rfl ?_
    refine J_iload_n E dX6_load_11 rfl 0 rfl ?_
    refine J_cVi0 E (As := [.int 5]) (c_X6_finds l G b y 5 (by omega)) cl_X6_96 yo_X6_finds dX6_load_12 rfl rfl rfl (Nat.le_of_ble_eq_true rfl) (Nat.le_of_ble_eq_true rfl) rfl (Nat.le_of_ble_eq_true rfl) ⟨Nat.zero_le _, Nat.zero_le _⟩ ?_
    exact ret _ _ _ _ ⟨rfl, _, rfl, by intro g h2 h5 h6; by_cases h0 : g = 0 <;> simp [tellX, upG, up3, up3R, up2, h0, h2, h5, h6]⟩ rfl dX6_load_15

set_option maxHeartbeats 4000000 in
set_option maxRecDepth 20000 in
theorem c_X6_load_ok_0 (l : Launch) (G : GB) (b : Nat → Nat) (y : Q3) (n : Nat) (hb : ¬ y 8 1 0 = 0) (hn : y 8 1 1 = nI n) (hn2 : n ≤ 40) : CI l yX6_load cX6_load 4 .int 3 66 G [.ref (b 0), .int (nI 0)] (wM G b y) (fun vR w' => vR = nI (loadN (y 8 0) (min n 11) 0) ∧ PubM G b (upG y 0 (loadQ (y 0) (y 8 0) (loadN (y 8 0) (min n 11) 0))) w') := by
  refine CI.mk (own := RX6) (by decide) rfl (Nat.le_of_ble_eq_true rfl) ?_
  intro X E ret
  show J X G 4 0 0 (wM G b y) [(0, .ref (b 0)), (1, .int (nI 0))] 0 []
  refine J_aload_n E dX6_load_0 rfl 0 rfl ?_
  refine J_iload_n E dX6_load_1 rfl 1 rfl ?_
  refine J_cVi0 E (As := [.int (nI 0)]) (c_X6_lacks_0_1 l G b y hb ) cl_X6_197 yo_X6_lacks dX6_load_2 rfl rfl rfl (Nat.le_of_ble_eq_true rfl) (Nat.le_of_ble_eq_true rfl) rfl (Nat.le_of_ble_eq_true rfl) ⟨Nat.zero_le _, Nat.zero_le _⟩ ?_
  refine J_istore_n E (lv' := [(2, .int (-1)), (0, .ref (b 0)), (1, .int (nI 0))]) dX6_load_5 rfl (by decide) rfl ?_
  refine J_iload_n E dX6_load_6 rfl 0 rfl ?_
  refine J_if_lt E (tgt := 16) dX6_load_7 (by decide) (fun c_7 => ?_) (fun c_7 => ?_)
  · skip
    refine J_iconst E dX6_load_16 ic_0 ?_
    refine J_istore_n E (lv' := [(3, .int 0), (2, .int (-1)), (0, .ref (b 0)), (1, .int (nI 0))]) dX6_load_17 rfl (by decide) rfl ?_
    refine J_w (ws' := wM G b (upG y 0 (y 0))) (congrArg (wM G b) upG_id.symm) ?_
    have lp18 : ∀ (fu : Nat) (i : Nat) (r : Q2), (i ≤ min n 11) → (r = loadQ (y 0) (y 8 0) i) → (loadN (y 8 0) (min n 11) 0 = loadN (y 8 0) (min n 11 - i) i) → min n 11 - i < fu → J X G 4 0 0 (wM G b (upG y 0 r)) [(0, .ref (b 0)), (1, .int (nI 0)), (2, .int (-1)), (3, .int (nI i))] 18 [] := by
      intro fu
      induction fu with
      | zero => intro i r hi hr h1 hm; exact absurd hm (Nat.not_lt_zero _)
      | succ fu ih18 =>
        intro i r hi hr h1 hm
        refine J_iload_n E dX6_load_18 rfl 3 rfl ?_
        refine J_aload_n E dX6_load_19 rfl 0 rfl ?_
        refine gM0_X6_34 E dX6_load_20 ?_
        refine J_iload_n E dX6_load_23 rfl 1 rfl ?_
        refine lMz_0 E  dX6_load_24 ?_
        refine J_top (x' := y 8 1 1) (upG_n (by decide)) ?_
        refine J_top (x' := nI n) (hn) ?_
        refine J_icmp_ge E (tgt := 79) dX6_load_25 (by decide) (fun c_25 => ?_) (fun c_25 => ?_)
        · skip
          have n_25 : n ≤ i := cmp_le (a := n) (b := i) (by omega) (by omega) c_25
          have h2 : loadN (y 8 0) (min n 11) 0 = i := by rw [h1, show min n 11 - i = 0 by omega]; rfl
          refine J_iload_n E dX6_load_79 rfl 3 rfl ?_
          exact ret _ _ _ _ ⟨by rw [h2], _, rfl, by rw [h2, ← hr]; exact ShM.rfl'⟩ rfl dX6_load_80
        · skip
          have n_25 : ¬ n ≤ i := cmp_nle (a := n) (b := i) (by omega) (by omega) c_25
          refine J_iload_n E dX6_load_28 rfl 3 rfl ?_
          refine J_bipush E dX6_load_29 bp_11 ?_
          refine J_icmp_ge E (tgt := 79) dX6_load_31 (by decide) (fun c_31 => ?_) (fun c_31 => ?_)
          · skip
            have n_31 : 11 ≤ i := cmp_le (a := 11) (b := i) (by omega) (by omega) c_31
            have h2 : loadN (y 8 0) (min n 11) 0 = i := by rw [h1, show min n 11 - i = 0 by omega]; rfl
            refine J_iload_n E dX6_load_79 rfl 3 rfl ?_
            exact ret _ _ _ _ ⟨by rw [h2], _, rfl, by rw [h2, ← hr]; exact ShM.rfl'⟩ rfl dX6_load_80
          · skip
            have n_31 : ¬ 11 ≤ i := cmp_nle (a := 11) (b := i) (by omega) (by omega) c_31
            refine J_aload_n E dX6_load_34 rfl 0 rfl ?_
            refine gM0_X6_37 E dX6_load_35 ?_
            refine J_bipush E dX6_load_38 bp_40 ?_
            refine J_iload_n E dX6_load_40 rfl 1 rfl ?_
            refine J_top (x' := nI 0) (by decide) ?_
            refine J_imul E dX6_load_41 ?_
            refine J_iload_n E dX6_load_42 rfl 3 rfl ?_
            refine J_iadd E dX6_load_43 ?_
            refine J_top (x' := nI (0 + i)) (nI_add 0 i) ?_
            refine lMn_0 E (j := (0 + i)) (i := i) rfl (by omega) dX6_load_44 ?_
            refine J_top (x' := y 8 0 i) (upG_n (by decide)) ?_
            refine J_i2l E dX6_load_45 rfl ?_
            refine J_lconst E dX6_load_46 lc_0 ?_
            refine J_ldc2 E kl_X6_83 dX6_load_47 ?_
            refine J_cSiN E (As := [.long (Int32.toInt64 (y 8 0 i)), .long 0, .long 99]) (c_X6_in l G (y 8 0 i) 0 99 0 99 (by decide) (by decide) ) cl_X6_54 yo_X6_in dX6_load_50 rfl (Nat.le_of_ble_eq_true rfl) (Nat.le_of_ble_eq_true rfl) rfl (Nat.le_of_ble_eq_true rfl) ⟨Nat.zero_le _, Nat.zero_le _⟩ ?_
            refine J_if_eq E (tgt := 79) dX6_load_53 (by decide) (fun c_53 => ?_) (fun c_53 => ?_)
            · skip
              have c_53 := bI_0 c_53
              have h2 : loadN (y 8 0) (min n 11) 0 = i := by rw [h1, show min n 11 - i = (min n 11 - (i + 1)) + 1 by omega, loadN, if_neg c_53]
              refine J_iload_n E dX6_load_79 rfl 3 rfl ?_
              exact ret _ _ _ _ ⟨by rw [h2], _, rfl, by rw [h2, ← hr]; exact ShM.rfl'⟩ rfl dX6_load_80
            · skip
              have c_53 := bI_1 c_53
              refine J_aload_n E dX6_load_56 rfl 0 rfl ?_
              refine J_iload_n E dX6_load_57 rfl 3 rfl ?_
              refine J_iconst E dX6_load_58 ic_2 ?_
              refine J_aload_n E dX6_load_59 rfl 0 rfl ?_
              refine gM0_X6_37 E dX6_load_60 ?_
              refine J_bipush E dX6_load_63 bp_40 ?_
              refine J_iload_n E dX6_load_65 rfl 1 rfl ?_
              refine J_top (x' := nI 0) (by decide) ?_
              refine J_imul E dX6_load_66 ?_
              refine J_iload_n E dX6_load_67 rfl 3 rfl ?_
              refine J_iadd E dX6_load_68 ?_
              refine J_top (x' := nI (0 + i)) (nI_add 0 i) ?_
              refine lMn_0 E (j := (0 + i)) (i := i) rfl (by omega) dX6_load_69 ?_
              refine J_top (x' := y 8 0 i) (upG_n (by decide)) ?_
              refine J_cVv0 E (As := [.int (nI i), .int 2, .int (y 8 0 i)]) (c_X6_sets l G b (upG y 0 r) i 2 (y 8 0 i) (by omega) (by omega)) cl_X6_43 yo_X6_sets dX6_load_70 rfl rfl rfl (Nat.le_of_ble_eq_true rfl) (Nat.le_of_ble_eq_true rfl) rfl (Nat.le_of_ble_eq_true rfl) ⟨Nat.zero_le _, Nat.zero_le _⟩ ?_
              refine J_iinc E (lv' := [(3, .int (nI (i + 1))), (0, .ref (b 0)), (1, .int (nI 0)), (2, .int (-1))]) dX6_load_73 3 rfl (nI_inc _) (by decide) rfl ?_
              refine J_goto E (tgt := 18) dX6_load_76 (by decide) ?_
              refine J_lv [1, 2, 3, 0] rfl ?_
              exact ih18 (i + 1) (up2 r 2 i (y 8 0 i)) (by omega) (by rw [hr]; rfl) (by rw [h1, show min n 11 - i = (min n 11 - (i + 1)) + 1 by omega, loadN, if_pos c_53]) (by omega)
    refine J_lv [2, 3, 1, 0] rfl ?_
    exact lp18 _ 0 (y 0) (by omega) rfl rfl (Nat.lt_succ_self _)
  · skip
    exact absurd c_7 (by decide)

set_option maxHeartbeats 4000000 in
set_option maxRecDepth 20000 in
theorem c_X6_load_ok_1 (l : Launch) (G : GB) (b : Nat → Nat) (y : Q3) (n : Nat) (hb : ¬ y 9 1 0 = 0) (hn : y 9 1 1 = nI n) (hn2 : n ≤ 40) : CI l yX6_load cX6_load 4 .int 3 66 G [.ref (b 0), .int (nI 1)] (wM G b y) (fun vR w' => vR = nI (loadN (y 9 0) (min n 11) 0) ∧ PubM G b (upG y 0 (loadQ (y 0) (y 9 0) (loadN (y 9 0) (min n 11) 0))) w') := by
  refine CI.mk (own := RX6) (by decide) rfl (Nat.le_of_ble_eq_true rfl) ?_
  intro X E ret
  show J X G 4 0 0 (wM G b y) [(0, .ref (b 0)), (1, .int (nI 1))] 0 []
  refine J_aload_n E dX6_load_0 rfl 0 rfl ?_
  refine J_iload_n E dX6_load_1 rfl 1 rfl ?_
  refine J_cVi0 E (As := [.int (nI 1)]) (c_X6_lacks_1_1 l G b y hb ) cl_X6_197 yo_X6_lacks dX6_load_2 rfl rfl rfl (Nat.le_of_ble_eq_true rfl) (Nat.le_of_ble_eq_true rfl) rfl (Nat.le_of_ble_eq_true rfl) ⟨Nat.zero_le _, Nat.zero_le _⟩ ?_
  refine J_istore_n E (lv' := [(2, .int (-1)), (0, .ref (b 0)), (1, .int (nI 1))]) dX6_load_5 rfl (by decide) rfl ?_
  refine J_iload_n E dX6_load_6 rfl 0 rfl ?_
  refine J_if_lt E (tgt := 16) dX6_load_7 (by decide) (fun c_7 => ?_) (fun c_7 => ?_)
  · skip
    refine J_iconst E dX6_load_16 ic_0 ?_
    refine J_istore_n E (lv' := [(3, .int 0), (2, .int (-1)), (0, .ref (b 0)), (1, .int (nI 1))]) dX6_load_17 rfl (by decide) rfl ?_
    refine J_w (ws' := wM G b (upG y 0 (y 0))) (congrArg (wM G b) upG_id.symm) ?_
    have lp18 : ∀ (fu : Nat) (i : Nat) (r : Q2), (i ≤ min n 11) → (r = loadQ (y 0) (y 9 0) i) → (loadN (y 9 0) (min n 11) 0 = loadN (y 9 0) (min n 11 - i) i) → min n 11 - i < fu → J X G 4 0 0 (wM G b (upG y 0 r)) [(0, .ref (b 0)), (1, .int (nI 1)), (2, .int (-1)), (3, .int (nI i))] 18 [] := by
      intro fu
      induction fu with
      | zero => intro i r hi hr h1 hm; exact absurd hm (Nat.not_lt_zero _)
      | succ fu ih18 =>
        intro i r hi hr h1 hm
        refine J_iload_n E dX6_load_18 rfl 3 rfl ?_
        refine J_aload_n E dX6_load_19 rfl 0 rfl ?_
        refine gM0_X6_34 E dX6_load_20 ?_
        refine J_iload_n E dX6_load_23 rfl 1 rfl ?_
        refine lMz_1 E  dX6_load_24 ?_
        refine J_top (x' := y 9 1 1) (upG_n (by decide)) ?_
        refine J_top (x' := nI n) (hn) ?_
        refine J_icmp_ge E (tgt := 79) dX6_load_25 (by decide) (fun c_25 => ?_) (fun c_25 => ?_)
        · skip
          have n_25 : n ≤ i := cmp_le (a := n) (b := i) (by omega) (by omega) c_25
          have h2 : loadN (y 9 0) (min n 11) 0 = i := by rw [h1, show min n 11 - i = 0 by omega]; rfl
          refine J_iload_n E dX6_load_79 rfl 3 rfl ?_
          exact ret _ _ _ _ ⟨by rw [h2], _, rfl, by rw [h2, ← hr]; exact ShM.rfl'⟩ rfl dX6_load_80
        · skip
          have n_25 : ¬ n ≤ i := cmp_nle (a := n) (b := i) (by omega) (by omega) c_25
          refine J_iload_n E dX6_load_28 rfl 3 rfl ?_
          refine J_bipush E dX6_load_29 bp_11 ?_
          refine J_icmp_ge E (tgt := 79) dX6_load_31 (by decide) (fun c_31 => ?_) (fun c_31 => ?_)
          · skip
            have n_31 : 11 ≤ i := cmp_le (a := 11) (b := i) (by omega) (by omega) c_31
            have h2 : loadN (y 9 0) (min n 11) 0 = i := by rw [h1, show min n 11 - i = 0 by omega]; rfl
            refine J_iload_n E dX6_load_79 rfl 3 rfl ?_
            exact ret _ _ _ _ ⟨by rw [h2], _, rfl, by rw [h2, ← hr]; exact ShM.rfl'⟩ rfl dX6_load_80
          · skip
            have n_31 : ¬ 11 ≤ i := cmp_nle (a := 11) (b := i) (by omega) (by omega) c_31
            refine J_aload_n E dX6_load_34 rfl 0 rfl ?_
            refine gM0_X6_37 E dX6_load_35 ?_
            refine J_bipush E dX6_load_38 bp_40 ?_
            refine J_iload_n E dX6_load_40 rfl 1 rfl ?_
            refine J_top (x' := nI 40) (by decide) ?_
            refine J_imul E dX6_load_41 ?_
            refine J_iload_n E dX6_load_42 rfl 3 rfl ?_
            refine J_iadd E dX6_load_43 ?_
            refine J_top (x' := nI (40 + i)) (nI_add 40 i) ?_
            refine lMn_1 E (j := (40 + i)) (i := i) rfl (by omega) dX6_load_44 ?_
            refine J_top (x' := y 9 0 i) (upG_n (by decide)) ?_
            refine J_i2l E dX6_load_45 rfl ?_
            refine J_lconst E dX6_load_46 lc_0 ?_
            refine J_ldc2 E kl_X6_83 dX6_load_47 ?_
            refine J_cSiN E (As := [.long (Int32.toInt64 (y 9 0 i)), .long 0, .long 99]) (c_X6_in l G (y 9 0 i) 0 99 0 99 (by decide) (by decide) ) cl_X6_54 yo_X6_in dX6_load_50 rfl (Nat.le_of_ble_eq_true rfl) (Nat.le_of_ble_eq_true rfl) rfl (Nat.le_of_ble_eq_true rfl) ⟨Nat.zero_le _, Nat.zero_le _⟩ ?_
            refine J_if_eq E (tgt := 79) dX6_load_53 (by decide) (fun c_53 => ?_) (fun c_53 => ?_)
            · skip
              have c_53 := bI_0 c_53
              have h2 : loadN (y 9 0) (min n 11) 0 = i := by rw [h1, show min n 11 - i = (min n 11 - (i + 1)) + 1 by omega, loadN, if_neg c_53]
              refine J_iload_n E dX6_load_79 rfl 3 rfl ?_
              exact ret _ _ _ _ ⟨by rw [h2], _, rfl, by rw [h2, ← hr]; exact ShM.rfl'⟩ rfl dX6_load_80
            · skip
              have c_53 := bI_1 c_53
              refine J_aload_n E dX6_load_56 rfl 0 rfl ?_
              refine J_iload_n E dX6_load_57 rfl 3 rfl ?_
              refine J_iconst E dX6_load_58 ic_2 ?_
              refine J_aload_n E dX6_load_59 rfl 0 rfl ?_
              refine gM0_X6_37 E dX6_load_60 ?_
              refine J_bipush E dX6_load_63 bp_40 ?_
              refine J_iload_n E dX6_load_65 rfl 1 rfl ?_
              refine J_top (x' := nI 40) (by decide) ?_
              refine J_imul E dX6_load_66 ?_
              refine J_iload_n E dX6_load_67 rfl 3 rfl ?_
              refine J_iadd E dX6_load_68 ?_
              refine J_top (x' := nI (40 + i)) (nI_add 40 i) ?_
              refine lMn_1 E (j := (40 + i)) (i := i) rfl (by omega) dX6_load_69 ?_
              refine J_top (x' := y 9 0 i) (upG_n (by decide)) ?_
              refine J_cVv0 E (As := [.int (nI i), .int 2, .int (y 9 0 i)]) (c_X6_sets l G b (upG y 0 r) i 2 (y 9 0 i) (by omega) (by omega)) cl_X6_43 yo_X6_sets dX6_load_70 rfl rfl rfl (Nat.le_of_ble_eq_true rfl) (Nat.le_of_ble_eq_true rfl) rfl (Nat.le_of_ble_eq_true rfl) ⟨Nat.zero_le _, Nat.zero_le _⟩ ?_
              refine J_iinc E (lv' := [(3, .int (nI (i + 1))), (0, .ref (b 0)), (1, .int (nI 1)), (2, .int (-1))]) dX6_load_73 3 rfl (nI_inc _) (by decide) rfl ?_
              refine J_goto E (tgt := 18) dX6_load_76 (by decide) ?_
              refine J_lv [1, 2, 3, 0] rfl ?_
              exact ih18 (i + 1) (up2 r 2 i (y 9 0 i)) (by omega) (by rw [hr]; rfl) (by rw [h1, show min n 11 - i = (min n 11 - (i + 1)) + 1 by omega, loadN, if_pos c_53]) (by omega)
    refine J_lv [2, 3, 1, 0] rfl ?_
    exact lp18 _ 0 (y 0) (by omega) rfl rfl (Nat.lt_succ_self _)
  · skip
    exact absurd c_7 (by decide)

set_option maxHeartbeats 4000000 in
set_option maxRecDepth 20000 in
theorem c_X6_load_ok_2 (l : Launch) (G : GB) (b : Nat → Nat) (y : Q3) (n : Nat) (hb : ¬ y 10 1 0 = 0) (hn : y 10 1 1 = nI n) (hn2 : n ≤ 40) : CI l yX6_load cX6_load 4 .int 3 66 G [.ref (b 0), .int (nI 2)] (wM G b y) (fun vR w' => vR = nI (loadN (y 10 0) (min n 11) 0) ∧ PubM G b (upG y 0 (loadQ (y 0) (y 10 0) (loadN (y 10 0) (min n 11) 0))) w') := by
  refine CI.mk (own := RX6) (by decide) rfl (Nat.le_of_ble_eq_true rfl) ?_
  intro X E ret
  show J X G 4 0 0 (wM G b y) [(0, .ref (b 0)), (1, .int (nI 2))] 0 []
  refine J_aload_n E dX6_load_0 rfl 0 rfl ?_
  refine J_iload_n E dX6_load_1 rfl 1 rfl ?_
  refine J_cVi0 E (As := [.int (nI 2)]) (c_X6_lacks_2_1 l G b y hb ) cl_X6_197 yo_X6_lacks dX6_load_2 rfl rfl rfl (Nat.le_of_ble_eq_true rfl) (Nat.le_of_ble_eq_true rfl) rfl (Nat.le_of_ble_eq_true rfl) ⟨Nat.zero_le _, Nat.zero_le _⟩ ?_
  refine J_istore_n E (lv' := [(2, .int (-1)), (0, .ref (b 0)), (1, .int (nI 2))]) dX6_load_5 rfl (by decide) rfl ?_
  refine J_iload_n E dX6_load_6 rfl 0 rfl ?_
  refine J_if_lt E (tgt := 16) dX6_load_7 (by decide) (fun c_7 => ?_) (fun c_7 => ?_)
  · skip
    refine J_iconst E dX6_load_16 ic_0 ?_
    refine J_istore_n E (lv' := [(3, .int 0), (2, .int (-1)), (0, .ref (b 0)), (1, .int (nI 2))]) dX6_load_17 rfl (by decide) rfl ?_
    refine J_w (ws' := wM G b (upG y 0 (y 0))) (congrArg (wM G b) upG_id.symm) ?_
    have lp18 : ∀ (fu : Nat) (i : Nat) (r : Q2), (i ≤ min n 11) → (r = loadQ (y 0) (y 10 0) i) → (loadN (y 10 0) (min n 11) 0 = loadN (y 10 0) (min n 11 - i) i) → min n 11 - i < fu → J X G 4 0 0 (wM G b (upG y 0 r)) [(0, .ref (b 0)), (1, .int (nI 2)), (2, .int (-1)), (3, .int (nI i))] 18 [] := by
      intro fu
      induction fu with
      | zero => intro i r hi hr h1 hm; exact absurd hm (Nat.not_lt_zero _)
      | succ fu ih18 =>
        intro i r hi hr h1 hm
        refine J_iload_n E dX6_load_18 rfl 3 rfl ?_
        refine J_aload_n E dX6_load_19 rfl 0 rfl ?_
        refine gM0_X6_34 E dX6_load_20 ?_
        refine J_iload_n E dX6_load_23 rfl 1 rfl ?_
        refine lMz_2 E  dX6_load_24 ?_
        refine J_top (x' := y 10 1 1) (upG_n (by decide)) ?_
        refine J_top (x' := nI n) (hn) ?_
        refine J_icmp_ge E (tgt := 79) dX6_load_25 (by decide) (fun c_25 => ?_) (fun c_25 => ?_)
        · skip
          have n_25 : n ≤ i := cmp_le (a := n) (b := i) (by omega) (by omega) c_25
          have h2 : loadN (y 10 0) (min n 11) 0 = i := by rw [h1, show min n 11 - i = 0 by omega]; rfl
          refine J_iload_n E dX6_load_79 rfl 3 rfl ?_
          exact ret _ _ _ _ ⟨by rw [h2], _, rfl, by rw [h2, ← hr]; exact ShM.rfl'⟩ rfl dX6_load_80
        · skip
          have n_25 : ¬ n ≤ i := cmp_nle (a := n) (b := i) (by omega) (by omega) c_25
          refine J_iload_n E dX6_load_28 rfl 3 rfl ?_
          refine J_bipush E dX6_load_29 bp_11 ?_
          refine J_icmp_ge E (tgt := 79) dX6_load_31 (by decide) (fun c_31 => ?_) (fun c_31 => ?_)
          · skip
            have n_31 : 11 ≤ i := cmp_le (a := 11) (b := i) (by omega) (by omega) c_31
            have h2 : loadN (y 10 0) (min n 11) 0 = i := by rw [h1, show min n 11 - i = 0 by omega]; rfl
            refine J_iload_n E dX6_load_79 rfl 3 rfl ?_
            exact ret _ _ _ _ ⟨by rw [h2], _, rfl, by rw [h2, ← hr]; exact ShM.rfl'⟩ rfl dX6_load_80
          · skip
            have n_31 : ¬ 11 ≤ i := cmp_nle (a := 11) (b := i) (by omega) (by omega) c_31
            refine J_aload_n E dX6_load_34 rfl 0 rfl ?_
            refine gM0_X6_37 E dX6_load_35 ?_
            refine J_bipush E dX6_load_38 bp_40 ?_
            refine J_iload_n E dX6_load_40 rfl 1 rfl ?_
            refine J_top (x' := nI 80) (by decide) ?_
            refine J_imul E dX6_load_41 ?_
            refine J_iload_n E dX6_load_42 rfl 3 rfl ?_
            refine J_iadd E dX6_load_43 ?_
            refine J_top (x' := nI (80 + i)) (nI_add 80 i) ?_
            refine lMn_2 E (j := (80 + i)) (i := i) rfl (by omega) dX6_load_44 ?_
            refine J_top (x' := y 10 0 i) (upG_n (by decide)) ?_
            refine J_i2l E dX6_load_45 rfl ?_
            refine J_lconst E dX6_load_46 lc_0 ?_
            refine J_ldc2 E kl_X6_83 dX6_load_47 ?_
            refine J_cSiN E (As := [.long (Int32.toInt64 (y 10 0 i)), .long 0, .long 99]) (c_X6_in l G (y 10 0 i) 0 99 0 99 (by decide) (by decide) ) cl_X6_54 yo_X6_in dX6_load_50 rfl (Nat.le_of_ble_eq_true rfl) (Nat.le_of_ble_eq_true rfl) rfl (Nat.le_of_ble_eq_true rfl) ⟨Nat.zero_le _, Nat.zero_le _⟩ ?_
            refine J_if_eq E (tgt := 79) dX6_load_53 (by decide) (fun c_53 => ?_) (fun c_53 => ?_)
            · skip
              have c_53 := bI_0 c_53
              have h2 : loadN (y 10 0) (min n 11) 0 = i := by rw [h1, show min n 11 - i = (min n 11 - (i + 1)) + 1 by omega, loadN, if_neg c_53]
              refine J_iload_n E dX6_load_79 rfl 3 rfl ?_
              exact ret _ _ _ _ ⟨by rw [h2], _, rfl, by rw [h2, ← hr]; exact ShM.rfl'⟩ rfl dX6_load_80
            · skip
              have c_53 := bI_1 c_53
              refine J_aload_n E dX6_load_56 rfl 0 rfl ?_
              refine J_iload_n E dX6_load_57 rfl 3 rfl ?_
              refine J_iconst E dX6_load_58 ic_2 ?_
              refine J_aload_n E dX6_load_59 rfl 0 rfl ?_
              refine gM0_X6_37 E dX6_load_60 ?_
              refine J_bipush E dX6_load_63 bp_40 ?_
              refine J_iload_n E dX6_load_65 rfl 1 rfl ?_
              refine J_top (x' := nI 80) (by decide) ?_
              refine J_imul E dX6_load_66 ?_
              refine J_iload_n E dX6_load_67 rfl 3 rfl ?_
              refine J_iadd E dX6_load_68 ?_
              refine J_top (x' := nI (80 + i)) (nI_add 80 i) ?_
              refine lMn_2 E (j := (80 + i)) (i := i) rfl (by omega) dX6_load_69 ?_
              refine J_top (x' := y 10 0 i) (upG_n (by decide)) ?_
              refine J_cVv0 E (As := [.int (nI i), .int 2, .int (y 10 0 i)]) (c_X6_sets l G b (upG y 0 r) i 2 (y 10 0 i) (by omega) (by omega)) cl_X6_43 yo_X6_sets dX6_load_70 rfl rfl rfl (Nat.le_of_ble_eq_true rfl) (Nat.le_of_ble_eq_true rfl) rfl (Nat.le_of_ble_eq_true rfl) ⟨Nat.zero_le _, Nat.zero_le _⟩ ?_
              refine J_iinc E (lv' := [(3, .int (nI (i + 1))), (0, .ref (b 0)), (1, .int (nI 2)), (2, .int (-1))]) dX6_load_73 3 rfl (nI_inc _) (by decide) rfl ?_
              refine J_goto E (tgt := 18) dX6_load_76 (by decide) ?_
              refine J_lv [1, 2, 3, 0] rfl ?_
              exact ih18 (i + 1) (up2 r 2 i (y 10 0 i)) (by omega) (by rw [hr]; rfl) (by rw [h1, show min n 11 - i = (min n 11 - (i + 1)) + 1 by omega, loadN, if_pos c_53]) (by omega)
    refine J_lv [2, 3, 1, 0] rfl ?_
    exact lp18 _ 0 (y 0) (by omega) rfl rfl (Nat.lt_succ_self _)
  · skip
    exact absurd c_7 (by decide)

set_option maxHeartbeats 4000000 in
set_option maxRecDepth 20000 in
theorem c_X6_load_ok_3 (l : Launch) (G : GB) (b : Nat → Nat) (y : Q3) (n : Nat) (hb : ¬ y 11 1 0 = 0) (hn : y 11 1 1 = nI n) (hn2 : n ≤ 40) : CI l yX6_load cX6_load 4 .int 3 66 G [.ref (b 0), .int (nI 3)] (wM G b y) (fun vR w' => vR = nI (loadN (y 11 0) (min n 11) 0) ∧ PubM G b (upG y 0 (loadQ (y 0) (y 11 0) (loadN (y 11 0) (min n 11) 0))) w') := by
  refine CI.mk (own := RX6) (by decide) rfl (Nat.le_of_ble_eq_true rfl) ?_
  intro X E ret
  show J X G 4 0 0 (wM G b y) [(0, .ref (b 0)), (1, .int (nI 3))] 0 []
  refine J_aload_n E dX6_load_0 rfl 0 rfl ?_
  refine J_iload_n E dX6_load_1 rfl 1 rfl ?_
  refine J_cVi0 E (As := [.int (nI 3)]) (c_X6_lacks_3_1 l G b y hb ) cl_X6_197 yo_X6_lacks dX6_load_2 rfl rfl rfl (Nat.le_of_ble_eq_true rfl) (Nat.le_of_ble_eq_true rfl) rfl (Nat.le_of_ble_eq_true rfl) ⟨Nat.zero_le _, Nat.zero_le _⟩ ?_
  refine J_istore_n E (lv' := [(2, .int (-1)), (0, .ref (b 0)), (1, .int (nI 3))]) dX6_load_5 rfl (by decide) rfl ?_
  refine J_iload_n E dX6_load_6 rfl 0 rfl ?_
  refine J_if_lt E (tgt := 16) dX6_load_7 (by decide) (fun c_7 => ?_) (fun c_7 => ?_)
  · skip
    refine J_iconst E dX6_load_16 ic_0 ?_
    refine J_istore_n E (lv' := [(3, .int 0), (2, .int (-1)), (0, .ref (b 0)), (1, .int (nI 3))]) dX6_load_17 rfl (by decide) rfl ?_
    refine J_w (ws' := wM G b (upG y 0 (y 0))) (congrArg (wM G b) upG_id.symm) ?_
    have lp18 : ∀ (fu : Nat) (i : Nat) (r : Q2), (i ≤ min n 11) → (r = loadQ (y 0) (y 11 0) i) → (loadN (y 11 0) (min n 11) 0 = loadN (y 11 0) (min n 11 - i) i) → min n 11 - i < fu → J X G 4 0 0 (wM G b (upG y 0 r)) [(0, .ref (b 0)), (1, .int (nI 3)), (2, .int (-1)), (3, .int (nI i))] 18 [] := by
      intro fu
      induction fu with
      | zero => intro i r hi hr h1 hm; exact absurd hm (Nat.not_lt_zero _)
      | succ fu ih18 =>
        intro i r hi hr h1 hm
        refine J_iload_n E dX6_load_18 rfl 3 rfl ?_
        refine J_aload_n E dX6_load_19 rfl 0 rfl ?_
        refine gM0_X6_34 E dX6_load_20 ?_
        refine J_iload_n E dX6_load_23 rfl 1 rfl ?_
        refine lMz_3 E  dX6_load_24 ?_
        refine J_top (x' := y 11 1 1) (upG_n (by decide)) ?_
        refine J_top (x' := nI n) (hn) ?_
        refine J_icmp_ge E (tgt := 79) dX6_load_25 (by decide) (fun c_25 => ?_) (fun c_25 => ?_)
        · skip
          have n_25 : n ≤ i := cmp_le (a := n) (b := i) (by omega) (by omega) c_25
          have h2 : loadN (y 11 0) (min n 11) 0 = i := by rw [h1, show min n 11 - i = 0 by omega]; rfl
          refine J_iload_n E dX6_load_79 rfl 3 rfl ?_
          exact ret _ _ _ _ ⟨by rw [h2], _, rfl, by rw [h2, ← hr]; exact ShM.rfl'⟩ rfl dX6_load_80
        · skip
          have n_25 : ¬ n ≤ i := cmp_nle (a := n) (b := i) (by omega) (by omega) c_25
          refine J_iload_n E dX6_load_28 rfl 3 rfl ?_
          refine J_bipush E dX6_load_29 bp_11 ?_
          refine J_icmp_ge E (tgt := 79) dX6_load_31 (by decide) (fun c_31 => ?_) (fun c_31 => ?_)
          · skip
            have n_31 : 11 ≤ i := cmp_le (a := 11) (b := i) (by omega) (by omega) c_31
            have h2 : loadN (y 11 0) (min n 11) 0 = i := by rw [h1, show min n 11 - i = 0 by omega]; rfl
            refine J_iload_n E dX6_load_79 rfl 3 rfl ?_
            exact ret _ _ _ _ ⟨by rw [h2], _, rfl, by rw [h2, ← hr]; exact ShM.rfl'⟩ rfl dX6_load_80
          · skip
            have n_31 : ¬ 11 ≤ i := cmp_nle (a := 11) (b := i) (by omega) (by omega) c_31
            refine J_aload_n E dX6_load_34 rfl 0 rfl ?_
            refine gM0_X6_37 E dX6_load_35 ?_
            refine J_bipush E dX6_load_38 bp_40 ?_
            refine J_iload_n E dX6_load_40 rfl 1 rfl ?_
            refine J_top (x' := nI 120) (by decide) ?_
            refine J_imul E dX6_load_41 ?_
            refine J_iload_n E dX6_load_42 rfl 3 rfl ?_
            refine J_iadd E dX6_load_43 ?_
            refine J_top (x' := nI (120 + i)) (nI_add 120 i) ?_
            refine lMn_3 E (j := (120 + i)) (i := i) rfl (by omega) dX6_load_44 ?_
            refine J_top (x' := y 11 0 i) (upG_n (by decide)) ?_
            refine J_i2l E dX6_load_45 rfl ?_
            refine J_lconst E dX6_load_46 lc_0 ?_
            refine J_ldc2 E kl_X6_83 dX6_load_47 ?_
            refine J_cSiN E (As := [.long (Int32.toInt64 (y 11 0 i)), .long 0, .long 99]) (c_X6_in l G (y 11 0 i) 0 99 0 99 (by decide) (by decide) ) cl_X6_54 yo_X6_in dX6_load_50 rfl (Nat.le_of_ble_eq_true rfl) (Nat.le_of_ble_eq_true rfl) rfl (Nat.le_of_ble_eq_true rfl) ⟨Nat.zero_le _, Nat.zero_le _⟩ ?_
            refine J_if_eq E (tgt := 79) dX6_load_53 (by decide) (fun c_53 => ?_) (fun c_53 => ?_)
            · skip
              have c_53 := bI_0 c_53
              have h2 : loadN (y 11 0) (min n 11) 0 = i := by rw [h1, show min n 11 - i = (min n 11 - (i + 1)) + 1 by omega, loadN, if_neg c_53]
              refine J_iload_n E dX6_load_79 rfl 3 rfl ?_
              exact ret _ _ _ _ ⟨by rw [h2], _, rfl, by rw [h2, ← hr]; exact ShM.rfl'⟩ rfl dX6_load_80
            · skip
              have c_53 := bI_1 c_53
              refine J_aload_n E dX6_load_56 rfl 0 rfl ?_
              refine J_iload_n E dX6_load_57 rfl 3 rfl ?_
              refine J_iconst E dX6_load_58 ic_2 ?_
              refine J_aload_n E dX6_load_59 rfl 0 rfl ?_
              refine gM0_X6_37 E dX6_load_60 ?_
              refine J_bipush E dX6_load_63 bp_40 ?_
              refine J_iload_n E dX6_load_65 rfl 1 rfl ?_
              refine J_top (x' := nI 120) (by decide) ?_
              refine J_imul E dX6_load_66 ?_
              refine J_iload_n E dX6_load_67 rfl 3 rfl ?_
              refine J_iadd E dX6_load_68 ?_
              refine J_top (x' := nI (120 + i)) (nI_add 120 i) ?_
              refine lMn_3 E (j := (120 + i)) (i := i) rfl (by omega) dX6_load_69 ?_
              refine J_top (x' := y 11 0 i) (upG_n (by decide)) ?_
              refine J_cVv0 E (As := [.int (nI i), .int 2, .int (y 11 0 i)]) (c_X6_sets l G b (upG y 0 r) i 2 (y 11 0 i) (by omega) (by omega)) cl_X6_43 yo_X6_sets dX6_load_70 rfl rfl rfl (Nat.le_of_ble_eq_true rfl) (Nat.le_of_ble_eq_true rfl) rfl (Nat.le_of_ble_eq_true rfl) ⟨Nat.zero_le _, Nat.zero_le _⟩ ?_
              refine J_iinc E (lv' := [(3, .int (nI (i + 1))), (0, .ref (b 0)), (1, .int (nI 3)), (2, .int (-1))]) dX6_load_73 3 rfl (nI_inc _) (by decide) rfl ?_
              refine J_goto E (tgt := 18) dX6_load_76 (by decide) ?_
              refine J_lv [1, 2, 3, 0] rfl ?_
              exact ih18 (i + 1) (up2 r 2 i (y 11 0 i)) (by omega) (by rw [hr]; rfl) (by rw [h1, show min n 11 - i = (min n 11 - (i + 1)) + 1 by omega, loadN, if_pos c_53]) (by omega)
    refine J_lv [2, 3, 1, 0] rfl ?_
    exact lp18 _ 0 (y 0) (by omega) rfl rfl (Nat.lt_succ_self _)
  · skip
    exact absurd c_7 (by decide)

set_option maxHeartbeats 4000000 in
set_option maxRecDepth 20000 in
theorem c_X6_judge_out (l : Launch) (G : GB) (b : Nat → Nat) (y : Q3) (s : Int32)  (hs : ¬ (0 ≤ s ∧ s ≤ 3)) : CI l yX6_judge cX6_judge 4 .int 3 66 G [.ref (b 0), .int s] (wM G b y) (fun vR w' => vR = tellR 0 ∧ PubM G b (tellX y 0) w') := by
  refine CI.mk (own := RX6) (by decide) rfl (Nat.le_of_ble_eq_true rfl) ?_
  intro X E ret
  show J X G 4 0 0 (wM G b y) [(0, .ref (b 0)), (1, .int s)] 0 []
  refine J_aload_n E dX6_judge_0 rfl 0 rfl ?_
  refine J_iload_n E dX6_judge_1 rfl 1 rfl ?_
  refine J_cVi0 E (As := [.int s]) (c_X6_lacks_out l G b y s hs ) cl_X6_197 yo_X6_lacks dX6_judge_2 rfl rfl rfl (Nat.le_of_ble_eq_true rfl) (Nat.le_of_ble_eq_true rfl) rfl (Nat.le_of_ble_eq_true rfl) ⟨Nat.zero_le _, Nat.zero_le _⟩ ?_
  refine J_istore_n E (lv' := [(2, .int 0), (0, .ref (b 0)), (1, .int s)]) dX6_judge_5 rfl (by decide) rfl ?_
  refine J_iload_n E dX6_judge_6 rfl 0 rfl ?_
  refine J_if_lt E (tgt := 16) dX6_judge_7 (by decide) (fun c_7 => ?_) (fun c_7 => ?_)
  · skip
    have n_7 : 0 < 0 := cmp_lt (a := 0) (b := 0) (by omega) (by omega) c_7
    exact absurd n_7 (by decide)
  · skip
    have n_7 : ¬ 0 < 0 := cmp_nlt (a := 0) (b := 0) (by omega) (by omega) c_7
    refine J_aload_n E dX6_judge_10 rfl 1 rfl ?_
    refine J_iload_n E dX6_judge_11 rfl 0 rfl ?_
    refine J_cVi0 E (As := [.int 0]) (c_X6_finds l G b y 0 (by omega)) cl_X6_96 yo_X6_finds dX6_judge_12 rfl rfl rfl (Nat.le_of_ble_eq_true rfl) (Nat.le_of_ble_eq_true rfl) rfl (Nat.le_of_ble_eq_true rfl) ⟨Nat.zero_le _, Nat.zero_le _⟩ ?_
    exact ret _ _ _ _ ⟨rfl, _, rfl, by intro g h2 h5 h6; by_cases h0 : g = 0 <;> simp [tellX, upG, up3, up3R, up2, h0, h2, h5, h6]⟩ rfl dX6_judge_15

set_option maxHeartbeats 4000000 in
set_option maxRecDepth 20000 in
theorem c_X6_judge_miss_0 (l : Launch) (G : GB) (b : Nat → Nat) (y : Q3)  (hb : y 8 1 0 = 0) : CI l yX6_judge cX6_judge 4 .int 3 66 G [.ref (b 0), .int (nI 0)] (wM G b y) (fun vR w' => vR = tellR 5 ∧ PubM G b (tellX y 5) w') := by
  refine CI.mk (own := RX6) (by decide) rfl (Nat.le_of_ble_eq_true rfl) ?_
  intro X E ret
  show J X G 4 0 0 (wM G b y) [(0, .ref (b 0)), (1, .int (nI 0))] 0 []
  refine J_aload_n E dX6_judge_0 rfl 0 rfl ?_
  refine J_iload_n E dX6_judge_1 rfl 1 rfl ?_
  refine J_cVi0 E (As := [.int (nI 0)]) (c_X6_lacks_0_0 l G b y hb ) cl_X6_197 yo_X6_lacks dX6_judge_2 rfl rfl rfl (Nat.le_of_ble_eq_true rfl) (Nat.le_of_ble_eq_true rfl) rfl (Nat.le_of_ble_eq_true rfl) ⟨Nat.zero_le _, Nat.zero_le _⟩ ?_
  refine J_istore_n E (lv' := [(2, .int 5), (0, .ref (b 0)), (1, .int (nI 0))]) dX6_judge_5 rfl (by decide) rfl ?_
  refine J_iload_n E dX6_judge_6 rfl 0 rfl ?_
  refine J_if_lt E (tgt := 16) dX6_judge_7 (by decide) (fun c_7 => ?_) (fun c_7 => ?_)
  · skip
    have n_7 : 5 < 0 := cmp_lt (a := 5) (b := 0) (by omega) (by omega) c_7
    exact absurd n_7 (by decide)
  · skip
    have n_7 : ¬ 5 < 0 := cmp_nlt (a := 5) (b := 0) (by omega) (by omega) c_7
    refine J_aload_n E dX6_judge_10 rfl 1 rfl ?_
    refine J_iload_n E dX6_judge_11 rfl 0 rfl ?_
    refine J_cVi0 E (As := [.int 5]) (c_X6_finds l G b y 5 (by omega)) cl_X6_96 yo_X6_finds dX6_judge_12 rfl rfl rfl (Nat.le_of_ble_eq_true rfl) (Nat.le_of_ble_eq_true rfl) rfl (Nat.le_of_ble_eq_true rfl) ⟨Nat.zero_le _, Nat.zero_le _⟩ ?_
    exact ret _ _ _ _ ⟨rfl, _, rfl, by intro g h2 h5 h6; by_cases h0 : g = 0 <;> simp [tellX, upG, up3, up3R, up2, h0, h2, h5, h6]⟩ rfl dX6_judge_15

set_option maxHeartbeats 4000000 in
set_option maxRecDepth 20000 in
theorem c_X6_judge_miss_1 (l : Launch) (G : GB) (b : Nat → Nat) (y : Q3)  (hb : y 9 1 0 = 0) : CI l yX6_judge cX6_judge 4 .int 3 66 G [.ref (b 0), .int (nI 1)] (wM G b y) (fun vR w' => vR = tellR 5 ∧ PubM G b (tellX y 5) w') := by
  refine CI.mk (own := RX6) (by decide) rfl (Nat.le_of_ble_eq_true rfl) ?_
  intro X E ret
  show J X G 4 0 0 (wM G b y) [(0, .ref (b 0)), (1, .int (nI 1))] 0 []
  refine J_aload_n E dX6_judge_0 rfl 0 rfl ?_
  refine J_iload_n E dX6_judge_1 rfl 1 rfl ?_
  refine J_cVi0 E (As := [.int (nI 1)]) (c_X6_lacks_1_0 l G b y hb ) cl_X6_197 yo_X6_lacks dX6_judge_2 rfl rfl rfl (Nat.le_of_ble_eq_true rfl) (Nat.le_of_ble_eq_true rfl) rfl (Nat.le_of_ble_eq_true rfl) ⟨Nat.zero_le _, Nat.zero_le _⟩ ?_
  refine J_istore_n E (lv' := [(2, .int 5), (0, .ref (b 0)), (1, .int (nI 1))]) dX6_judge_5 rfl (by decide) rfl ?_
  refine J_iload_n E dX6_judge_6 rfl 0 rfl ?_
  refine J_if_lt E (tgt := 16) dX6_judge_7 (by decide) (fun c_7 => ?_) (fun c_7 => ?_)
  · skip
    have n_7 : 5 < 0 := cmp_lt (a := 5) (b := 0) (by omega) (by omega) c_7
    exact absurd n_7 (by decide)
  · skip
    have n_7 : ¬ 5 < 0 := cmp_nlt (a := 5) (b := 0) (by omega) (by omega) c_7
    refine J_aload_n E dX6_judge_10 rfl 1 rfl ?_
    refine J_iload_n E dX6_judge_11 rfl 0 rfl ?_
    refine J_cVi0 E (As := [.int 5]) (c_X6_finds l G b y 5 (by omega)) cl_X6_96 yo_X6_finds dX6_judge_12 rfl rfl rfl (Nat.le_of_ble_eq_true rfl) (Nat.le_of_ble_eq_true rfl) rfl (Nat.le_of_ble_eq_true rfl) ⟨Nat.zero_le _, Nat.zero_le _⟩ ?_
    exact ret _ _ _ _ ⟨rfl, _, rfl, by intro g h2 h5 h6; by_cases h0 : g = 0 <;> simp [tellX, upG, up3, up3R, up2, h0, h2, h5, h6]⟩ rfl dX6_judge_15

set_option maxHeartbeats 4000000 in
set_option maxRecDepth 20000 in
theorem c_X6_judge_miss_2 (l : Launch) (G : GB) (b : Nat → Nat) (y : Q3)  (hb : y 10 1 0 = 0) : CI l yX6_judge cX6_judge 4 .int 3 66 G [.ref (b 0), .int (nI 2)] (wM G b y) (fun vR w' => vR = tellR 5 ∧ PubM G b (tellX y 5) w') := by
  refine CI.mk (own := RX6) (by decide) rfl (Nat.le_of_ble_eq_true rfl) ?_
  intro X E ret
  show J X G 4 0 0 (wM G b y) [(0, .ref (b 0)), (1, .int (nI 2))] 0 []
  refine J_aload_n E dX6_judge_0 rfl 0 rfl ?_
  refine J_iload_n E dX6_judge_1 rfl 1 rfl ?_
  refine J_cVi0 E (As := [.int (nI 2)]) (c_X6_lacks_2_0 l G b y hb ) cl_X6_197 yo_X6_lacks dX6_judge_2 rfl rfl rfl (Nat.le_of_ble_eq_true rfl) (Nat.le_of_ble_eq_true rfl) rfl (Nat.le_of_ble_eq_true rfl) ⟨Nat.zero_le _, Nat.zero_le _⟩ ?_
  refine J_istore_n E (lv' := [(2, .int 5), (0, .ref (b 0)), (1, .int (nI 2))]) dX6_judge_5 rfl (by decide) rfl ?_
  refine J_iload_n E dX6_judge_6 rfl 0 rfl ?_
  refine J_if_lt E (tgt := 16) dX6_judge_7 (by decide) (fun c_7 => ?_) (fun c_7 => ?_)
  · skip
    have n_7 : 5 < 0 := cmp_lt (a := 5) (b := 0) (by omega) (by omega) c_7
    exact absurd n_7 (by decide)
  · skip
    have n_7 : ¬ 5 < 0 := cmp_nlt (a := 5) (b := 0) (by omega) (by omega) c_7
    refine J_aload_n E dX6_judge_10 rfl 1 rfl ?_
    refine J_iload_n E dX6_judge_11 rfl 0 rfl ?_
    refine J_cVi0 E (As := [.int 5]) (c_X6_finds l G b y 5 (by omega)) cl_X6_96 yo_X6_finds dX6_judge_12 rfl rfl rfl (Nat.le_of_ble_eq_true rfl) (Nat.le_of_ble_eq_true rfl) rfl (Nat.le_of_ble_eq_true rfl) ⟨Nat.zero_le _, Nat.zero_le _⟩ ?_
    exact ret _ _ _ _ ⟨rfl, _, rfl, by intro g h2 h5 h6; by_cases h0 : g = 0 <;> simp [tellX, upG, up3, up3R, up2, h0, h2, h5, h6]⟩ rfl dX6_judge_15

set_option maxHeartbeats 4000000 in
set_option maxRecDepth 20000 in
theorem c_X6_judge_miss_3 (l : Launch) (G : GB) (b : Nat → Nat) (y : Q3)  (hb : y 11 1 0 = 0) : CI l yX6_judge cX6_judge 4 .int 3 66 G [.ref (b 0), .int (nI 3)] (wM G b y) (fun vR w' => vR = tellR 5 ∧ PubM G b (tellX y 5) w') := by
  refine CI.mk (own := RX6) (by decide) rfl (Nat.le_of_ble_eq_true rfl) ?_
  intro X E ret
  show J X G 4 0 0 (wM G b y) [(0, .ref (b 0)), (1, .int (nI 3))] 0 []
  refine J_aload_n E dX6_judge_0 rfl 0 rfl ?_
  refine J_iload_n E dX6_judge_1 rfl 1 rfl ?_
  refine J_cVi0 E (As := [.int (nI 3)]) (c_X6_lacks_3_0 l G b y hb ) cl_X6_197 yo_X6_lacks dX6_judge_2 rfl rfl rfl (Nat.le_of_ble_eq_true rfl) (Nat.le_of_ble_eq_true rfl) rfl (Nat.le_of_ble_eq_true rfl) ⟨Nat.zero_le _, Nat.zero_le _⟩ ?_
  refine J_istore_n E (lv' := [(2, .int 5), (0, .ref (b 0)), (1, .int (nI 3))]) dX6_judge_5 rfl (by decide) rfl ?_
  refine J_iload_n E dX6_judge_6 rfl 0 rfl ?_
  refine J_if_lt E (tgt := 16) dX6_judge_7 (by decide) (fun c_7 => ?_) (fun c_7 => ?_)
  · skip
    have n_7 : 5 < 0 := cmp_lt (a := 5) (b := 0) (by omega) (by omega) c_7
    exact absurd n_7 (by decide)
  · skip
    have n_7 : ¬ 5 < 0 := cmp_nlt (a := 5) (b := 0) (by omega) (by omega) c_7
    refine J_aload_n E dX6_judge_10 rfl 1 rfl ?_
    refine J_iload_n E dX6_judge_11 rfl 0 rfl ?_
    refine J_cVi0 E (As := [.int 5]) (c_X6_finds l G b y 5 (by omega)) cl_X6_96 yo_X6_finds dX6_judge_12 rfl rfl rfl (Nat.le_of_ble_eq_true rfl) (Nat.le_of_ble_eq_true rfl) rfl (Nat.le_of_ble_eq_true rfl) ⟨Nat.zero_le _, Nat.zero_le _⟩ ?_
    exact ret _ _ _ _ ⟨rfl, _, rfl, by intro g h2 h5 h6; by_cases h0 : g = 0 <;> simp [tellX, upG, up3, up3R, up2, h0, h2, h5, h6]⟩ rfl dX6_judge_15

set_option maxHeartbeats 4000000 in
set_option maxRecDepth 20000 in
theorem c_X6_goesOn_0 (l : Launch) (G : GB) (b : Nat → Nat) (y : Q3) (i : Nat) (hi : i < 40) (hp : 0 < i → okH (y 8 0 (i - 1))) : CI l yX6_goesOn cX6_goesOn 4 .boolean 2 45 G [.ref (b 0), .int (nI 0), .int (nI i)] (wM G b y) (fun vR w' => vR = bI (judgP (y 0) (y 8 0) i = true) ∧ w' = wM G b y) := by
  refine CI.mk (own := RX6) (by decide) rfl (Nat.le_of_ble_eq_true rfl) ?_
  intro X E ret
  show J X G 4 0 0 (wM G b y) [(0, .ref (b 0)), (1, .int (nI 0)), (2, .int (nI i))] 0 []
  refine J_aload_n E dX6_goesOn_0 rfl 0 rfl ?_
  refine gM0_X6_37 E dX6_goesOn_1 ?_
  refine J_bipush E dX6_goesOn_4 bp_40 ?_
  refine J_iload_n E dX6_goesOn_6 rfl 1 rfl ?_
  refine J_top (x' := nI 0) (by decide) ?_
  refine J_imul E dX6_goesOn_7 ?_
  refine J_iload_n E dX6_goesOn_8 rfl 2 rfl ?_
  refine J_iadd E dX6_goesOn_9 ?_
  refine J_top (x' := nI (0 + i)) (nI_add 0 i) ?_
  refine lMn_0 E (j := (0 + i)) (i := i) rfl (by omega) dX6_goesOn_10 ?_
  refine J_istore_n E (lv' := [(3, .int (y 8 0 i)), (0, .ref (b 0)), (1, .int (nI 0)), (2, .int (nI i))]) dX6_goesOn_11 rfl (by decide) rfl ?_
  refine J_iload_n E dX6_goesOn_12 rfl 0 rfl ?_
  refine J_cSiN E (As := [.int (y 8 0 i)]) (c_X6_isHouse l G (y 8 0 i) ) cl_X6_87 yo_X6_isHouse dX6_goesOn_13 rfl (Nat.le_of_ble_eq_true rfl) (Nat.le_of_ble_eq_true rfl) rfl (Nat.le_of_ble_eq_true rfl) ⟨Nat.zero_le _, Nat.zero_le _⟩ ?_
  refine J_if_eq E (tgt := 48) dX6_goesOn_16 (by decide) (fun c_16 => ?_) (fun c_16 => ?_)
  · skip
    have c_16 := bI_0 c_16
    refine J_iconst E dX6_goesOn_48 ic_0 ?_
    exact ret _ _ _ _ ⟨by first | exact (bI_t (show judgP (y 0) (y 8 0) i = true from decide_eq_true ⟨c_16, Or.inl (by omega)⟩)).symm | exact (bI_t (show judgP (y 0) (y 8 0) (u + 1) = true from decide_eq_true ⟨c_16, Or.inr (by rw [show u + 1 - 1 = u by omega, hp2, nI_clamp (by omega)]; exact c_41)⟩)).symm | exact (bI_f (fun z => c_16 (of_decide_eq_true z).1)).symm | exact (bI_f (fun z => by have z2 := (of_decide_eq_true z).2.resolve_left (by omega); rw [show u + 1 - 1 = u by omega, hp2, nI_clamp (by omega)] at z2; exact c_41 z2)).symm, (congrArg (wM G b) (rfl))⟩ rfl dX6_goesOn_49
  · skip
    have c_16 := bI_1 c_16
    refine J_iload_n E dX6_goesOn_19 rfl 3 rfl ?_
    refine J_if_eq E (tgt := 44) dX6_goesOn_20 (by decide) (fun c_20 => ?_) (fun c_20 => ?_)
    · skip
      have n_20 : i = 0 := cmp_eq (a := i) (b := 0) (by omega) (by omega) c_20
      refine J_iconst E dX6_goesOn_44 ic_1 ?_
      refine J_goto E (tgt := 49) dX6_goesOn_45 (by decide) ?_
      exact ret _ _ _ _ ⟨by first | exact (bI_t (show judgP (y 0) (y 8 0) i = true from decide_eq_true ⟨c_16, Or.inl (by omega)⟩)).symm | exact (bI_t (show judgP (y 0) (y 8 0) (u + 1) = true from decide_eq_true ⟨c_16, Or.inr (by rw [show u + 1 - 1 = u by omega, hp2, nI_clamp (by omega)]; exact c_41)⟩)).symm | exact (bI_f (fun z => c_16 (of_decide_eq_true z).1)).symm | exact (bI_f (fun z => by have z2 := (of_decide_eq_true z).2.resolve_left (by omega); rw [show u + 1 - 1 = u by omega, hp2, nI_clamp (by omega)] at z2; exact c_41 z2)).symm, (congrArg (wM G b) (rfl))⟩ rfl dX6_goesOn_49
    · skip
      have n_20 : ¬ i = 0 := cmp_ne (a := i) (b := 0) (by omega) (by omega) c_20
      obtain ⟨u, rfl⟩ : ∃ u, i = u + 1 := ⟨i - 1, by omega⟩
      obtain ⟨p, hp1, hp2⟩ := okH_of (hp (by omega))
      have hp2 : y 8 0 u = nI p := hp2
      refine J_aload_n E dX6_goesOn_23 rfl 1 rfl ?_
      refine J_aload_n E dX6_goesOn_24 rfl 1 rfl ?_
      refine gM0_X6_37 E dX6_goesOn_25 ?_
      refine J_bipush E dX6_goesOn_28 bp_40 ?_
      refine J_iload_n E dX6_goesOn_30 rfl 2 rfl ?_
      refine J_imul E dX6_goesOn_31 ?_
      refine J_top (x' := nI 0) (by decide) ?_
      refine J_iload_n E dX6_goesOn_32 rfl 3 rfl ?_
      refine J_iadd E dX6_goesOn_33 ?_
      refine J_top (x' := nI (0 + (u + 1))) (nI_add 0 (u + 1)) ?_
      refine J_iconst E dX6_goesOn_34 ic_1 ?_
      refine J_isub E dX6_goesOn_35 ?_
      refine J_top (x' := nI (0 + u)) (nI_pred (0 + u)) ?_
      refine lMn_0 E (j := (0 + u)) (i := u) rfl (by omega) dX6_goesOn_36 ?_
      refine J_top (x' := nI p) (hp2) ?_
      refine J_cVi0 E (As := [.int (nI p)]) (c_X6_leads l G b y p (by omega)) cl_X6_110 yo_X6_leads dX6_goesOn_37 rfl rfl rfl (Nat.le_of_ble_eq_true rfl) (Nat.le_of_ble_eq_true rfl) rfl (Nat.le_of_ble_eq_true rfl) ⟨Nat.zero_le _, Nat.zero_le _⟩ ?_
      refine J_iload_n E dX6_goesOn_40 rfl 0 rfl ?_
      refine J_icmp_ne E (tgt := 48) dX6_goesOn_41 (by decide) (fun c_41 => ?_) (fun c_41 => ?_)
      · skip
        refine J_iconst E dX6_goesOn_48 ic_0 ?_
        exact ret _ _ _ _ ⟨by first | exact (bI_t (show judgP (y 0) (y 8 0) i = true from decide_eq_true ⟨c_16, Or.inl (by omega)⟩)).symm | exact (bI_t (show judgP (y 0) (y 8 0) (u + 1) = true from decide_eq_true ⟨c_16, Or.inr (by rw [show u + 1 - 1 = u by omega, hp2, nI_clamp (by omega)]; exact c_41)⟩)).symm | exact (bI_f (fun z => c_16 (of_decide_eq_true z).1)).symm | exact (bI_f (fun z => by have z2 := (of_decide_eq_true z).2.resolve_left (by omega); rw [show u + 1 - 1 = u by omega, hp2, nI_clamp (by omega)] at z2; exact c_41 z2)).symm, (congrArg (wM G b) (rfl))⟩ rfl dX6_goesOn_49
      · skip
        refine J_iconst E dX6_goesOn_44 ic_1 ?_
        refine J_goto E (tgt := 49) dX6_goesOn_45 (by decide) ?_
        exact ret _ _ _ _ ⟨by first | exact (bI_t (show judgP (y 0) (y 8 0) i = true from decide_eq_true ⟨c_16, Or.inl (by omega)⟩)).symm | exact (bI_t (show judgP (y 0) (y 8 0) (u + 1) = true from decide_eq_true ⟨c_16, Or.inr (by rw [show u + 1 - 1 = u by omega, hp2, nI_clamp (by omega)]; exact c_41)⟩)).symm | exact (bI_f (fun z => c_16 (of_decide_eq_true z).1)).symm | exact (bI_f (fun z => by have z2 := (of_decide_eq_true z).2.resolve_left (by omega); rw [show u + 1 - 1 = u by omega, hp2, nI_clamp (by omega)] at z2; exact c_41 z2)).symm, (congrArg (wM G b) (rfl))⟩ rfl dX6_goesOn_49

set_option maxHeartbeats 4000000 in
set_option maxRecDepth 20000 in
theorem c_X6_goesOn_1 (l : Launch) (G : GB) (b : Nat → Nat) (y : Q3) (i : Nat) (hi : i < 40) (hp : 0 < i → okH (y 9 0 (i - 1))) : CI l yX6_goesOn cX6_goesOn 4 .boolean 2 45 G [.ref (b 0), .int (nI 1), .int (nI i)] (wM G b y) (fun vR w' => vR = bI (judgP (y 0) (y 9 0) i = true) ∧ w' = wM G b y) := by
  refine CI.mk (own := RX6) (by decide) rfl (Nat.le_of_ble_eq_true rfl) ?_
  intro X E ret
  show J X G 4 0 0 (wM G b y) [(0, .ref (b 0)), (1, .int (nI 1)), (2, .int (nI i))] 0 []
  refine J_aload_n E dX6_goesOn_0 rfl 0 rfl ?_
  refine gM0_X6_37 E dX6_goesOn_1 ?_
  refine J_bipush E dX6_goesOn_4 bp_40 ?_
  refine J_iload_n E dX6_goesOn_6 rfl 1 rfl ?_
  refine J_top (x' := nI 40) (by decide) ?_
  refine J_imul E dX6_goesOn_7 ?_
  refine J_iload_n E dX6_goesOn_8 rfl 2 rfl ?_
  refine J_iadd E dX6_goesOn_9 ?_
  refine J_top (x' := nI (40 + i)) (nI_add 40 i) ?_
  refine lMn_1 E (j := (40 + i)) (i := i) rfl (by omega) dX6_goesOn_10 ?_
  refine J_istore_n E (lv' := [(3, .int (y 9 0 i)), (0, .ref (b 0)), (1, .int (nI 1)), (2, .int (nI i))]) dX6_goesOn_11 rfl (by decide) rfl ?_
  refine J_iload_n E dX6_goesOn_12 rfl 0 rfl ?_
  refine J_cSiN E (As := [.int (y 9 0 i)]) (c_X6_isHouse l G (y 9 0 i) ) cl_X6_87 yo_X6_isHouse dX6_goesOn_13 rfl (Nat.le_of_ble_eq_true rfl) (Nat.le_of_ble_eq_true rfl) rfl (Nat.le_of_ble_eq_true rfl) ⟨Nat.zero_le _, Nat.zero_le _⟩ ?_
  refine J_if_eq E (tgt := 48) dX6_goesOn_16 (by decide) (fun c_16 => ?_) (fun c_16 => ?_)
  · skip
    have c_16 := bI_0 c_16
    refine J_iconst E dX6_goesOn_48 ic_0 ?_
    exact ret _ _ _ _ ⟨by first | exact (bI_t (show judgP (y 0) (y 9 0) i = true from decide_eq_true ⟨c_16, Or.inl (by omega)⟩)).symm | exact (bI_t (show judgP (y 0) (y 9 0) (u + 1) = true from decide_eq_true ⟨c_16, Or.inr (by rw [show u + 1 - 1 = u by omega, hp2, nI_clamp (by omega)]; exact c_41)⟩)).symm | exact (bI_f (fun z => c_16 (of_decide_eq_true z).1)).symm | exact (bI_f (fun z => by have z2 := (of_decide_eq_true z).2.resolve_left (by omega); rw [show u + 1 - 1 = u by omega, hp2, nI_clamp (by omega)] at z2; exact c_41 z2)).symm, (congrArg (wM G b) (rfl))⟩ rfl dX6_goesOn_49
  · skip
    have c_16 := bI_1 c_16
    refine J_iload_n E dX6_goesOn_19 rfl 3 rfl ?_
    refine J_if_eq E (tgt := 44) dX6_goesOn_20 (by decide) (fun c_20 => ?_) (fun c_20 => ?_)
    · skip
      have n_20 : i = 0 := cmp_eq (a := i) (b := 0) (by omega) (by omega) c_20
      refine J_iconst E dX6_goesOn_44 ic_1 ?_
      refine J_goto E (tgt := 49) dX6_goesOn_45 (by decide) ?_
      exact ret _ _ _ _ ⟨by first | exact (bI_t (show judgP (y 0) (y 9 0) i = true from decide_eq_true ⟨c_16, Or.inl (by omega)⟩)).symm | exact (bI_t (show judgP (y 0) (y 9 0) (u + 1) = true from decide_eq_true ⟨c_16, Or.inr (by rw [show u + 1 - 1 = u by omega, hp2, nI_clamp (by omega)]; exact c_41)⟩)).symm | exact (bI_f (fun z => c_16 (of_decide_eq_true z).1)).symm | exact (bI_f (fun z => by have z2 := (of_decide_eq_true z).2.resolve_left (by omega); rw [show u + 1 - 1 = u by omega, hp2, nI_clamp (by omega)] at z2; exact c_41 z2)).symm, (congrArg (wM G b) (rfl))⟩ rfl dX6_goesOn_49
    · skip
      have n_20 : ¬ i = 0 := cmp_ne (a := i) (b := 0) (by omega) (by omega) c_20
      obtain ⟨u, rfl⟩ : ∃ u, i = u + 1 := ⟨i - 1, by omega⟩
      obtain ⟨p, hp1, hp2⟩ := okH_of (hp (by omega))
      have hp2 : y 9 0 u = nI p := hp2
      refine J_aload_n E dX6_goesOn_23 rfl 1 rfl ?_
      refine J_aload_n E dX6_goesOn_24 rfl 1 rfl ?_
      refine gM0_X6_37 E dX6_goesOn_25 ?_
      refine J_bipush E dX6_goesOn_28 bp_40 ?_
      refine J_iload_n E dX6_goesOn_30 rfl 2 rfl ?_
      refine J_imul E dX6_goesOn_31 ?_
      refine J_top (x' := nI 40) (by decide) ?_
      refine J_iload_n E dX6_goesOn_32 rfl 3 rfl ?_
      refine J_iadd E dX6_goesOn_33 ?_
      refine J_top (x' := nI (40 + (u + 1))) (nI_add 40 (u + 1)) ?_
      refine J_iconst E dX6_goesOn_34 ic_1 ?_
      refine J_isub E dX6_goesOn_35 ?_
      refine J_top (x' := nI (40 + u)) (nI_pred (40 + u)) ?_
      refine lMn_1 E (j := (40 + u)) (i := u) rfl (by omega) dX6_goesOn_36 ?_
      refine J_top (x' := nI p) (hp2) ?_
      refine J_cVi0 E (As := [.int (nI p)]) (c_X6_leads l G b y p (by omega)) cl_X6_110 yo_X6_leads dX6_goesOn_37 rfl rfl rfl (Nat.le_of_ble_eq_true rfl) (Nat.le_of_ble_eq_true rfl) rfl (Nat.le_of_ble_eq_true rfl) ⟨Nat.zero_le _, Nat.zero_le _⟩ ?_
      refine J_iload_n E dX6_goesOn_40 rfl 0 rfl ?_
      refine J_icmp_ne E (tgt := 48) dX6_goesOn_41 (by decide) (fun c_41 => ?_) (fun c_41 => ?_)
      · skip
        refine J_iconst E dX6_goesOn_48 ic_0 ?_
        exact ret _ _ _ _ ⟨by first | exact (bI_t (show judgP (y 0) (y 9 0) i = true from decide_eq_true ⟨c_16, Or.inl (by omega)⟩)).symm | exact (bI_t (show judgP (y 0) (y 9 0) (u + 1) = true from decide_eq_true ⟨c_16, Or.inr (by rw [show u + 1 - 1 = u by omega, hp2, nI_clamp (by omega)]; exact c_41)⟩)).symm | exact (bI_f (fun z => c_16 (of_decide_eq_true z).1)).symm | exact (bI_f (fun z => by have z2 := (of_decide_eq_true z).2.resolve_left (by omega); rw [show u + 1 - 1 = u by omega, hp2, nI_clamp (by omega)] at z2; exact c_41 z2)).symm, (congrArg (wM G b) (rfl))⟩ rfl dX6_goesOn_49
      · skip
        refine J_iconst E dX6_goesOn_44 ic_1 ?_
        refine J_goto E (tgt := 49) dX6_goesOn_45 (by decide) ?_
        exact ret _ _ _ _ ⟨by first | exact (bI_t (show judgP (y 0) (y 9 0) i = true from decide_eq_true ⟨c_16, Or.inl (by omega)⟩)).symm | exact (bI_t (show judgP (y 0) (y 9 0) (u + 1) = true from decide_eq_true ⟨c_16, Or.inr (by rw [show u + 1 - 1 = u by omega, hp2, nI_clamp (by omega)]; exact c_41)⟩)).symm | exact (bI_f (fun z => c_16 (of_decide_eq_true z).1)).symm | exact (bI_f (fun z => by have z2 := (of_decide_eq_true z).2.resolve_left (by omega); rw [show u + 1 - 1 = u by omega, hp2, nI_clamp (by omega)] at z2; exact c_41 z2)).symm, (congrArg (wM G b) (rfl))⟩ rfl dX6_goesOn_49

set_option maxHeartbeats 4000000 in
set_option maxRecDepth 20000 in
theorem c_X6_goesOn_2 (l : Launch) (G : GB) (b : Nat → Nat) (y : Q3) (i : Nat) (hi : i < 40) (hp : 0 < i → okH (y 10 0 (i - 1))) : CI l yX6_goesOn cX6_goesOn 4 .boolean 2 45 G [.ref (b 0), .int (nI 2), .int (nI i)] (wM G b y) (fun vR w' => vR = bI (judgP (y 0) (y 10 0) i = true) ∧ w' = wM G b y) := by
  refine CI.mk (own := RX6) (by decide) rfl (Nat.le_of_ble_eq_true rfl) ?_
  intro X E ret
  show J X G 4 0 0 (wM G b y) [(0, .ref (b 0)), (1, .int (nI 2)), (2, .int (nI i))] 0 []
  refine J_aload_n E dX6_goesOn_0 rfl 0 rfl ?_
  refine gM0_X6_37 E dX6_goesOn_1 ?_
  refine J_bipush E dX6_goesOn_4 bp_40 ?_
  refine J_iload_n E dX6_goesOn_6 rfl 1 rfl ?_
  refine J_top (x' := nI 80) (by decide) ?_
  refine J_imul E dX6_goesOn_7 ?_
  refine J_iload_n E dX6_goesOn_8 rfl 2 rfl ?_
  refine J_iadd E dX6_goesOn_9 ?_
  refine J_top (x' := nI (80 + i)) (nI_add 80 i) ?_
  refine lMn_2 E (j := (80 + i)) (i := i) rfl (by omega) dX6_goesOn_10 ?_
  refine J_istore_n E (lv' := [(3, .int (y 10 0 i)), (0, .ref (b 0)), (1, .int (nI 2)), (2, .int (nI i))]) dX6_goesOn_11 rfl (by decide) rfl ?_
  refine J_iload_n E dX6_goesOn_12 rfl 0 rfl ?_
  refine J_cSiN E (As := [.int (y 10 0 i)]) (c_X6_isHouse l G (y 10 0 i) ) cl_X6_87 yo_X6_isHouse dX6_goesOn_13 rfl (Nat.le_of_ble_eq_true rfl) (Nat.le_of_ble_eq_true rfl) rfl (Nat.le_of_ble_eq_true rfl) ⟨Nat.zero_le _, Nat.zero_le _⟩ ?_
  refine J_if_eq E (tgt := 48) dX6_goesOn_16 (by decide) (fun c_16 => ?_) (fun c_16 => ?_)
  · skip
    have c_16 := bI_0 c_16
    refine J_iconst E dX6_goesOn_48 ic_0 ?_
    exact ret _ _ _ _ ⟨by first | exact (bI_t (show judgP (y 0) (y 10 0) i = true from decide_eq_true ⟨c_16, Or.inl (by omega)⟩)).symm | exact (bI_t (show judgP (y 0) (y 10 0) (u + 1) = true from decide_eq_true ⟨c_16, Or.inr (by rw [show u + 1 - 1 = u by omega, hp2, nI_clamp (by omega)]; exact c_41)⟩)).symm | exact (bI_f (fun z => c_16 (of_decide_eq_true z).1)).symm | exact (bI_f (fun z => by have z2 := (of_decide_eq_true z).2.resolve_left (by omega); rw [show u + 1 - 1 = u by omega, hp2, nI_clamp (by omega)] at z2; exact c_41 z2)).symm, (congrArg (wM G b) (rfl))⟩ rfl dX6_goesOn_49
  · skip
    have c_16 := bI_1 c_16
    refine J_iload_n E dX6_goesOn_19 rfl 3 rfl ?_
    refine J_if_eq E (tgt := 44) dX6_goesOn_20 (by decide) (fun c_20 => ?_) (fun c_20 => ?_)
    · skip
      have n_20 : i = 0 := cmp_eq (a := i) (b := 0) (by omega) (by omega) c_20
      refine J_iconst E dX6_goesOn_44 ic_1 ?_
      refine J_goto E (tgt := 49) dX6_goesOn_45 (by decide) ?_
      exact ret _ _ _ _ ⟨by first | exact (bI_t (show judgP (y 0) (y 10 0) i = true from decide_eq_true ⟨c_16, Or.inl (by omega)⟩)).symm | exact (bI_t (show judgP (y 0) (y 10 0) (u + 1) = true from decide_eq_true ⟨c_16, Or.inr (by rw [show u + 1 - 1 = u by omega, hp2, nI_clamp (by omega)]; exact c_41)⟩)).symm | exact (bI_f (fun z => c_16 (of_decide_eq_true z).1)).symm | exact (bI_f (fun z => by have z2 := (of_decide_eq_true z).2.resolve_left (by omega); rw [show u + 1 - 1 = u by omega, hp2, nI_clamp (by omega)] at z2; exact c_41 z2)).symm, (congrArg (wM G b) (rfl))⟩ rfl dX6_goesOn_49
    · skip
      have n_20 : ¬ i = 0 := cmp_ne (a := i) (b := 0) (by omega) (by omega) c_20
      obtain ⟨u, rfl⟩ : ∃ u, i = u + 1 := ⟨i - 1, by omega⟩
      obtain ⟨p, hp1, hp2⟩ := okH_of (hp (by omega))
      have hp2 : y 10 0 u = nI p := hp2
      refine J_aload_n E dX6_goesOn_23 rfl 1 rfl ?_
      refine J_aload_n E dX6_goesOn_24 rfl 1 rfl ?_
      refine gM0_X6_37 E dX6_goesOn_25 ?_
      refine J_bipush E dX6_goesOn_28 bp_40 ?_
      refine J_iload_n E dX6_goesOn_30 rfl 2 rfl ?_
      refine J_imul E dX6_goesOn_31 ?_
      refine J_top (x' := nI 80) (by decide) ?_
      refine J_iload_n E dX6_goesOn_32 rfl 3 rfl ?_
      refine J_iadd E dX6_goesOn_33 ?_
      refine J_top (x' := nI (80 + (u + 1))) (nI_add 80 (u + 1)) ?_
      refine J_iconst E dX6_goesOn_34 ic_1 ?_
      refine J_isub E dX6_goesOn_35 ?_
      refine J_top (x' := nI (80 + u)) (nI_pred (80 + u)) ?_
      refine lMn_2 E (j := (80 + u)) (i := u) rfl (by omega) dX6_goesOn_36 ?_
      refine J_top (x' := nI p) (hp2) ?_
      refine J_cVi0 E (As := [.int (nI p)]) (c_X6_leads l G b y p (by omega)) cl_X6_110 yo_X6_leads dX6_goesOn_37 rfl rfl rfl (Nat.le_of_ble_eq_true rfl) (Nat.le_of_ble_eq_true rfl) rfl (Nat.le_of_ble_eq_true rfl) ⟨Nat.zero_le _, Nat.zero_le _⟩ ?_
      refine J_iload_n E dX6_goesOn_40 rfl 0 rfl ?_
      refine J_icmp_ne E (tgt := 48) dX6_goesOn_41 (by decide) (fun c_41 => ?_) (fun c_41 => ?_)
      · skip
        refine J_iconst E dX6_goesOn_48 ic_0 ?_
        exact ret _ _ _ _ ⟨by first | exact (bI_t (show judgP (y 0) (y 10 0) i = true from decide_eq_true ⟨c_16, Or.inl (by omega)⟩)).symm | exact (bI_t (show judgP (y 0) (y 10 0) (u + 1) = true from decide_eq_true ⟨c_16, Or.inr (by rw [show u + 1 - 1 = u by omega, hp2, nI_clamp (by omega)]; exact c_41)⟩)).symm | exact (bI_f (fun z => c_16 (of_decide_eq_true z).1)).symm | exact (bI_f (fun z => by have z2 := (of_decide_eq_true z).2.resolve_left (by omega); rw [show u + 1 - 1 = u by omega, hp2, nI_clamp (by omega)] at z2; exact c_41 z2)).symm, (congrArg (wM G b) (rfl))⟩ rfl dX6_goesOn_49
      · skip
        refine J_iconst E dX6_goesOn_44 ic_1 ?_
        refine J_goto E (tgt := 49) dX6_goesOn_45 (by decide) ?_
        exact ret _ _ _ _ ⟨by first | exact (bI_t (show judgP (y 0) (y 10 0) i = true from decide_eq_true ⟨c_16, Or.inl (by omega)⟩)).symm | exact (bI_t (show judgP (y 0) (y 10 0) (u + 1) = true from decide_eq_true ⟨c_16, Or.inr (by rw [show u + 1 - 1 = u by omega, hp2, nI_clamp (by omega)]; exact c_41)⟩)).symm | exact (bI_f (fun z => c_16 (of_decide_eq_true z).1)).symm | exact (bI_f (fun z => by have z2 := (of_decide_eq_true z).2.resolve_left (by omega); rw [show u + 1 - 1 = u by omega, hp2, nI_clamp (by omega)] at z2; exact c_41 z2)).symm, (congrArg (wM G b) (rfl))⟩ rfl dX6_goesOn_49

set_option maxHeartbeats 4000000 in
set_option maxRecDepth 20000 in
theorem c_X6_goesOn_3 (l : Launch) (G : GB) (b : Nat → Nat) (y : Q3) (i : Nat) (hi : i < 40) (hp : 0 < i → okH (y 11 0 (i - 1))) : CI l yX6_goesOn cX6_goesOn 4 .boolean 2 45 G [.ref (b 0), .int (nI 3), .int (nI i)] (wM G b y) (fun vR w' => vR = bI (judgP (y 0) (y 11 0) i = true) ∧ w' = wM G b y) := by
  refine CI.mk (own := RX6) (by decide) rfl (Nat.le_of_ble_eq_true rfl) ?_
  intro X E ret
  show J X G 4 0 0 (wM G b y) [(0, .ref (b 0)), (1, .int (nI 3)), (2, .int (nI i))] 0 []
  refine J_aload_n E dX6_goesOn_0 rfl 0 rfl ?_
  refine gM0_X6_37 E dX6_goesOn_1 ?_
  refine J_bipush E dX6_goesOn_4 bp_40 ?_
  refine J_iload_n E dX6_goesOn_6 rfl 1 rfl ?_
  refine J_top (x' := nI 120) (by decide) ?_
  refine J_imul E dX6_goesOn_7 ?_
  refine J_iload_n E dX6_goesOn_8 rfl 2 rfl ?_
  refine J_iadd E dX6_goesOn_9 ?_
  refine J_top (x' := nI (120 + i)) (nI_add 120 i) ?_
  refine lMn_3 E (j := (120 + i)) (i := i) rfl (by omega) dX6_goesOn_10 ?_
  refine J_istore_n E (lv' := [(3, .int (y 11 0 i)), (0, .ref (b 0)), (1, .int (nI 3)), (2, .int (nI i))]) dX6_goesOn_11 rfl (by decide) rfl ?_
  refine J_iload_n E dX6_goesOn_12 rfl 0 rfl ?_
  refine J_cSiN E (As := [.int (y 11 0 i)]) (c_X6_isHouse l G (y 11 0 i) ) cl_X6_87 yo_X6_isHouse dX6_goesOn_13 rfl (Nat.le_of_ble_eq_true rfl) (Nat.le_of_ble_eq_true rfl) rfl (Nat.le_of_ble_eq_true rfl) ⟨Nat.zero_le _, Nat.zero_le _⟩ ?_
  refine J_if_eq E (tgt := 48) dX6_goesOn_16 (by decide) (fun c_16 => ?_) (fun c_16 => ?_)
  · skip
    have c_16 := bI_0 c_16
    refine J_iconst E dX6_goesOn_48 ic_0 ?_
    exact ret _ _ _ _ ⟨by first | exact (bI_t (show judgP (y 0) (y 11 0) i = true from decide_eq_true ⟨c_16, Or.inl (by omega)⟩)).symm | exact (bI_t (show judgP (y 0) (y 11 0) (u + 1) = true from decide_eq_true ⟨c_16, Or.inr (by rw [show u + 1 - 1 = u by omega, hp2, nI_clamp (by omega)]; exact c_41)⟩)).symm | exact (bI_f (fun z => c_16 (of_decide_eq_true z).1)).symm | exact (bI_f (fun z => by have z2 := (of_decide_eq_true z).2.resolve_left (by omega); rw [show u + 1 - 1 = u by omega, hp2, nI_clamp (by omega)] at z2; exact c_41 z2)).symm, (congrArg (wM G b) (rfl))⟩ rfl dX6_goesOn_49
  · skip
    have c_16 := bI_1 c_16
    refine J_iload_n E dX6_goesOn_19 rfl 3 rfl ?_
    refine J_if_eq E (tgt := 44) dX6_goesOn_20 (by decide) (fun c_20 => ?_) (fun c_20 => ?_)
    · skip
      have n_20 : i = 0 := cmp_eq (a := i) (b := 0) (by omega) (by omega) c_20
      refine J_iconst E dX6_goesOn_44 ic_1 ?_
      refine J_goto E (tgt := 49) dX6_goesOn_45 (by decide) ?_
      exact ret _ _ _ _ ⟨by first | exact (bI_t (show judgP (y 0) (y 11 0) i = true from decide_eq_true ⟨c_16, Or.inl (by omega)⟩)).symm | exact (bI_t (show judgP (y 0) (y 11 0) (u + 1) = true from decide_eq_true ⟨c_16, Or.inr (by rw [show u + 1 - 1 = u by omega, hp2, nI_clamp (by omega)]; exact c_41)⟩)).symm | exact (bI_f (fun z => c_16 (of_decide_eq_true z).1)).symm | exact (bI_f (fun z => by have z2 := (of_decide_eq_true z).2.resolve_left (by omega); rw [show u + 1 - 1 = u by omega, hp2, nI_clamp (by omega)] at z2; exact c_41 z2)).symm, (congrArg (wM G b) (rfl))⟩ rfl dX6_goesOn_49
    · skip
      have n_20 : ¬ i = 0 := cmp_ne (a := i) (b := 0) (by omega) (by omega) c_20
      obtain ⟨u, rfl⟩ : ∃ u, i = u + 1 := ⟨i - 1, by omega⟩
      obtain ⟨p, hp1, hp2⟩ := okH_of (hp (by omega))
      have hp2 : y 11 0 u = nI p := hp2
      refine J_aload_n E dX6_goesOn_23 rfl 1 rfl ?_
      refine J_aload_n E dX6_goesOn_24 rfl 1 rfl ?_
      refine gM0_X6_37 E dX6_goesOn_25 ?_
      refine J_bipush E dX6_goesOn_28 bp_40 ?_
      refine J_iload_n E dX6_goesOn_30 rfl 2 rfl ?_
      refine J_imul E dX6_goesOn_31 ?_
      refine J_top (x' := nI 120) (by decide) ?_
      refine J_iload_n E dX6_goesOn_32 rfl 3 rfl ?_
      refine J_iadd E dX6_goesOn_33 ?_
      refine J_top (x' := nI (120 + (u + 1))) (nI_add 120 (u + 1)) ?_
      refine J_iconst E dX6_goesOn_34 ic_1 ?_
      refine J_isub E dX6_goesOn_35 ?_
      refine J_top (x' := nI (120 + u)) (nI_pred (120 + u)) ?_
      refine lMn_3 E (j := (120 + u)) (i := u) rfl (by omega) dX6_goesOn_36 ?_
      refine J_top (x' := nI p) (hp2) ?_
      refine J_cVi0 E (As := [.int (nI p)]) (c_X6_leads l G b y p (by omega)) cl_X6_110 yo_X6_leads dX6_goesOn_37 rfl rfl rfl (Nat.le_of_ble_eq_true rfl) (Nat.le_of_ble_eq_true rfl) rfl (Nat.le_of_ble_eq_true rfl) ⟨Nat.zero_le _, Nat.zero_le _⟩ ?_
      refine J_iload_n E dX6_goesOn_40 rfl 0 rfl ?_
      refine J_icmp_ne E (tgt := 48) dX6_goesOn_41 (by decide) (fun c_41 => ?_) (fun c_41 => ?_)
      · skip
        refine J_iconst E dX6_goesOn_48 ic_0 ?_
        exact ret _ _ _ _ ⟨by first | exact (bI_t (show judgP (y 0) (y 11 0) i = true from decide_eq_true ⟨c_16, Or.inl (by omega)⟩)).symm | exact (bI_t (show judgP (y 0) (y 11 0) (u + 1) = true from decide_eq_true ⟨c_16, Or.inr (by rw [show u + 1 - 1 = u by omega, hp2, nI_clamp (by omega)]; exact c_41)⟩)).symm | exact (bI_f (fun z => c_16 (of_decide_eq_true z).1)).symm | exact (bI_f (fun z => by have z2 := (of_decide_eq_true z).2.resolve_left (by omega); rw [show u + 1 - 1 = u by omega, hp2, nI_clamp (by omega)] at z2; exact c_41 z2)).symm, (congrArg (wM G b) (rfl))⟩ rfl dX6_goesOn_49
      · skip
        refine J_iconst E dX6_goesOn_44 ic_1 ?_
        refine J_goto E (tgt := 49) dX6_goesOn_45 (by decide) ?_
        exact ret _ _ _ _ ⟨by first | exact (bI_t (show judgP (y 0) (y 11 0) i = true from decide_eq_true ⟨c_16, Or.inl (by omega)⟩)).symm | exact (bI_t (show judgP (y 0) (y 11 0) (u + 1) = true from decide_eq_true ⟨c_16, Or.inr (by rw [show u + 1 - 1 = u by omega, hp2, nI_clamp (by omega)]; exact c_41)⟩)).symm | exact (bI_f (fun z => c_16 (of_decide_eq_true z).1)).symm | exact (bI_f (fun z => by have z2 := (of_decide_eq_true z).2.resolve_left (by omega); rw [show u + 1 - 1 = u by omega, hp2, nI_clamp (by omega)] at z2; exact c_41 z2)).symm, (congrArg (wM G b) (rfl))⟩ rfl dX6_goesOn_49

set_option maxHeartbeats 4000000 in
set_option maxRecDepth 20000 in
theorem c_X6_judge_ok_0 (l : Launch) (G : GB) (b : Nat → Nat) (y : Q3) (n : Nat) (hb : ¬ y 8 1 0 = 0) (hn : y 8 1 1 = nI n) (hn2 : n ≤ 40) : CI l yX6_judge cX6_judge 4 .int 3 68 G [.ref (b 0), .int (nI 0)] (wM G b y) (fun vR w' => vR = judgR (y 0) (y 8 0) n 0 ∧ PubM G b y w') := by
  refine CI.mk (own := RX6) (by decide) rfl (Nat.le_of_ble_eq_true rfl) ?_
  intro X E ret
  show J X G 4 0 0 (wM G b y) [(0, .ref (b 0)), (1, .int (nI 0))] 0 []
  refine J_aload_n E dX6_judge_0 rfl 0 rfl ?_
  refine J_iload_n E dX6_judge_1 rfl 1 rfl ?_
  refine J_cVi0 E (As := [.int (nI 0)]) (c_X6_lacks_0_1 l G b y hb ) cl_X6_197 yo_X6_lacks dX6_judge_2 rfl rfl rfl (Nat.le_of_ble_eq_true rfl) (Nat.le_of_ble_eq_true rfl) rfl (Nat.le_of_ble_eq_true rfl) ⟨Nat.zero_le _, Nat.zero_le _⟩ ?_
  refine J_istore_n E (lv' := [(2, .int (-1)), (0, .ref (b 0)), (1, .int (nI 0))]) dX6_judge_5 rfl (by decide) rfl ?_
  refine J_iload_n E dX6_judge_6 rfl 0 rfl ?_
  refine J_if_lt E (tgt := 16) dX6_judge_7 (by decide) (fun c_7 => ?_) (fun c_7 => ?_)
  · skip
    refine J_iconst E dX6_judge_16 ic_0 ?_
    refine J_istore_n E (lv' := [(3, .int 0), (2, .int (-1)), (0, .ref (b 0)), (1, .int (nI 0))]) dX6_judge_17 rfl (by decide) rfl ?_
    have lp18 : ∀ (fu : Nat) (i : Nat), (i ≤ n) → (judgR (y 0) (y 8 0) n 0 = judgR (y 0) (y 8 0) (n - i) i) → (0 < i → okH (y 8 0 (i - 1))) → n - i < fu → J X G 4 0 0 (wM G b y) [(0, .ref (b 0)), (1, .int (nI 0)), (2, .int (-1)), (3, .int (nI i))] 18 [] := by
      intro fu
      induction fu with
      | zero => intro i hi h1 hp hm; exact absurd hm (Nat.not_lt_zero _)
      | succ fu ih18 =>
        intro i hi h1 hp hm
        refine J_iload_n E dX6_judge_18 rfl 3 rfl ?_
        refine J_aload_n E dX6_judge_19 rfl 0 rfl ?_
        refine gM0_X6_34 E dX6_judge_20 ?_
        refine J_iload_n E dX6_judge_23 rfl 1 rfl ?_
        refine lMz_0 E  dX6_judge_24 ?_
        refine J_top (x' := nI n) (hn) ?_
        refine J_icmp_ge E (tgt := 43) dX6_judge_25 (by decide) (fun c_25 => ?_) (fun c_25 => ?_)
        · skip
          have n_25 : n ≤ i := cmp_le (a := n) (b := i) (by omega) (by omega) c_25
          have h2 : judgR (y 0) (y 8 0) n 0 = 0 := by rw [h1, show n - i = 0 by omega]; rfl
          refine J_iload_n E dX6_judge_43 rfl 3 rfl ?_
          refine J_aload_n E dX6_judge_44 rfl 0 rfl ?_
          refine gM0_X6_34 E dX6_judge_45 ?_
          refine J_iload_n E dX6_judge_48 rfl 1 rfl ?_
          refine lMz_0 E  dX6_judge_49 ?_
          refine J_top (x' := nI n) (hn) ?_
          refine J_icmp_ne E (tgt := 57) dX6_judge_50 (by decide) (fun c_50 => ?_) (fun c_50 => ?_)
          · skip
            have n_50 : ¬ i = n := cmp_ne (a := i) (b := n) (by omega) (by omega) c_50
            refine J_iload_n E dX6_judge_57 rfl 3 rfl ?_
            refine J_iconst E dX6_judge_58 ic_1 ?_
            refine J_iadd E dX6_judge_59 ?_
            exact ret _ _ _ _ ⟨by first | (exfalso; omega) | (rw [h2]; done) | (rw [h2, Int32.add_comm]), _, rfl, by first | exact ShM.rfl' | (exfalso; omega)⟩ rfl dX6_judge_60
          · skip
            have n_50 : i = n := cmp_eq (a := i) (b := n) (by omega) (by omega) c_50
            refine J_iconst E dX6_judge_53 ic_0 ?_
            refine J_goto E (tgt := 60) dX6_judge_54 (by decide) ?_
            exact ret _ _ _ _ ⟨by first | (exfalso; omega) | (rw [h2]; done) | (rw [h2, Int32.add_comm]), _, rfl, by first | exact ShM.rfl' | (exfalso; omega)⟩ rfl dX6_judge_60
        · skip
          have n_25 : ¬ n ≤ i := cmp_nle (a := n) (b := i) (by omega) (by omega) c_25
          refine J_aload_n E dX6_judge_28 rfl 0 rfl ?_
          refine J_iload_n E dX6_judge_29 rfl 1 rfl ?_
          refine J_iload_n E dX6_judge_30 rfl 3 rfl ?_
          refine J_cVi0 E (As := [.int (nI 0), .int (nI i)]) (c_X6_goesOn_0 l G b y i (by omega) hp) cl_X6_306 yo_X6_goesOn dX6_judge_31 rfl rfl rfl (Nat.le_of_ble_eq_true rfl) (Nat.le_of_ble_eq_true rfl) rfl (Nat.le_of_ble_eq_true rfl) ⟨Nat.zero_le _, Nat.zero_le _⟩ ?_
          refine J_if_eq E (tgt := 43) dX6_judge_34 (by decide) (fun c_34 => ?_) (fun c_34 => ?_)
          · skip
            have c_34 := bI_0 c_34
            have h2 : judgR (y 0) (y 8 0) n 0 = 1 + nI i := by rw [h1, show n - i = (n - (i + 1)) + 1 by omega, judgR, if_neg c_34]
            refine J_iload_n E dX6_judge_43 rfl 3 rfl ?_
            refine J_aload_n E dX6_judge_44 rfl 0 rfl ?_
            refine gM0_X6_34 E dX6_judge_45 ?_
            refine J_iload_n E dX6_judge_48 rfl 1 rfl ?_
            refine lMz_0 E  dX6_judge_49 ?_
            refine J_top (x' := nI n) (hn) ?_
            refine J_icmp_ne E (tgt := 57) dX6_judge_50 (by decide) (fun c_50 => ?_) (fun c_50 => ?_)
            · skip
              have n_50 : ¬ i = n := cmp_ne (a := i) (b := n) (by omega) (by omega) c_50
              refine J_iload_n E dX6_judge_57 rfl 3 rfl ?_
              refine J_iconst E dX6_judge_58 ic_1 ?_
              refine J_iadd E dX6_judge_59 ?_
              exact ret _ _ _ _ ⟨by first | (exfalso; omega) | (rw [h2]; done) | (rw [h2, Int32.add_comm]), _, rfl, by first | exact ShM.rfl' | (exfalso; omega)⟩ rfl dX6_judge_60
            · skip
              have n_50 : i = n := cmp_eq (a := i) (b := n) (by omega) (by omega) c_50
              refine J_iconst E dX6_judge_53 ic_0 ?_
              refine J_goto E (tgt := 60) dX6_judge_54 (by decide) ?_
              exact ret _ _ _ _ ⟨by first | (exfalso; omega) | (rw [h2]; done) | (rw [h2, Int32.add_comm]), _, rfl, by first | exact ShM.rfl' | (exfalso; omega)⟩ rfl dX6_judge_60
          · skip
            have c_34 := bI_1 c_34
            refine J_iinc E (lv' := [(3, .int (nI (i + 1))), (0, .ref (b 0)), (1, .int (nI 0)), (2, .int (-1))]) dX6_judge_37 3 rfl (nI_inc _) (by decide) rfl ?_
            refine J_goto E (tgt := 18) dX6_judge_40 (by decide) ?_
            refine J_lv [1, 2, 3, 0] rfl ?_
            exact ih18 (i + 1) (by omega) (by rw [h1, show n - i = (n - (i + 1)) + 1 by omega, judgR, if_pos c_34]) (fun _ => (of_decide_eq_true c_34).1) (by omega)
    refine J_lv [2, 3, 1, 0] rfl ?_
    exact lp18 _ 0 (by omega) rfl (fun z => absurd z (Nat.lt_irrefl 0)) (Nat.lt_succ_self _)
  · skip
    exact absurd c_7 (by decide)

set_option maxHeartbeats 4000000 in
set_option maxRecDepth 20000 in
theorem c_X6_judge_ok_1 (l : Launch) (G : GB) (b : Nat → Nat) (y : Q3) (n : Nat) (hb : ¬ y 9 1 0 = 0) (hn : y 9 1 1 = nI n) (hn2 : n ≤ 40) : CI l yX6_judge cX6_judge 4 .int 3 68 G [.ref (b 0), .int (nI 1)] (wM G b y) (fun vR w' => vR = judgR (y 0) (y 9 0) n 0 ∧ PubM G b y w') := by
  refine CI.mk (own := RX6) (by decide) rfl (Nat.le_of_ble_eq_true rfl) ?_
  intro X E ret
  show J X G 4 0 0 (wM G b y) [(0, .ref (b 0)), (1, .int (nI 1))] 0 []
  refine J_aload_n E dX6_judge_0 rfl 0 rfl ?_
  refine J_iload_n E dX6_judge_1 rfl 1 rfl ?_
  refine J_cVi0 E (As := [.int (nI 1)]) (c_X6_lacks_1_1 l G b y hb ) cl_X6_197 yo_X6_lacks dX6_judge_2 rfl rfl rfl (Nat.le_of_ble_eq_true rfl) (Nat.le_of_ble_eq_true rfl) rfl (Nat.le_of_ble_eq_true rfl) ⟨Nat.zero_le _, Nat.zero_le _⟩ ?_
  refine J_istore_n E (lv' := [(2, .int (-1)), (0, .ref (b 0)), (1, .int (nI 1))]) dX6_judge_5 rfl (by decide) rfl ?_
  refine J_iload_n E dX6_judge_6 rfl 0 rfl ?_
  refine J_if_lt E (tgt := 16) dX6_judge_7 (by decide) (fun c_7 => ?_) (fun c_7 => ?_)
  · skip
    refine J_iconst E dX6_judge_16 ic_0 ?_
    refine J_istore_n E (lv' := [(3, .int 0), (2, .int (-1)), (0, .ref (b 0)), (1, .int (nI 1))]) dX6_judge_17 rfl (by decide) rfl ?_
    have lp18 : ∀ (fu : Nat) (i : Nat), (i ≤ n) → (judgR (y 0) (y 9 0) n 0 = judgR (y 0) (y 9 0) (n - i) i) → (0 < i → okH (y 9 0 (i - 1))) → n - i < fu → J X G 4 0 0 (wM G b y) [(0, .ref (b 0)), (1, .int (nI 1)), (2, .int (-1)), (3, .int (nI i))] 18 [] := by
      intro fu
      induction fu with
      | zero => intro i hi h1 hp hm; exact absurd hm (Nat.not_lt_zero _)
      | succ fu ih18 =>
        intro i hi h1 hp hm
        refine J_iload_n E dX6_judge_18 rfl 3 rfl ?_
        refine J_aload_n E dX6_judge_19 rfl 0 rfl ?_
        refine gM0_X6_34 E dX6_judge_20 ?_
        refine J_iload_n E dX6_judge_23 rfl 1 rfl ?_
        refine lMz_1 E  dX6_judge_24 ?_
        refine J_top (x' := nI n) (hn) ?_
        refine J_icmp_ge E (tgt := 43) dX6_judge_25 (by decide) (fun c_25 => ?_) (fun c_25 => ?_)
        · skip
          have n_25 : n ≤ i := cmp_le (a := n) (b := i) (by omega) (by omega) c_25
          have h2 : judgR (y 0) (y 9 0) n 0 = 0 := by rw [h1, show n - i = 0 by omega]; rfl
          refine J_iload_n E dX6_judge_43 rfl 3 rfl ?_
          refine J_aload_n E dX6_judge_44 rfl 0 rfl ?_
          refine gM0_X6_34 E dX6_judge_45 ?_
          refine J_iload_n E dX6_judge_48 rfl 1 rfl ?_
          refine lMz_1 E  dX6_judge_49 ?_
          refine J_top (x' := nI n) (hn) ?_
          refine J_icmp_ne E (tgt := 57) dX6_judge_50 (by decide) (fun c_50 => ?_) (fun c_50 => ?_)
          · skip
            have n_50 : ¬ i = n := cmp_ne (a := i) (b := n) (by omega) (by omega) c_50
            refine J_iload_n E dX6_judge_57 rfl 3 rfl ?_
            refine J_iconst E dX6_judge_58 ic_1 ?_
            refine J_iadd E dX6_judge_59 ?_
            exact ret _ _ _ _ ⟨by first | (exfalso; omega) | (rw [h2]; done) | (rw [h2, Int32.add_comm]), _, rfl, by first | exact ShM.rfl' | (exfalso; omega)⟩ rfl dX6_judge_60
          · skip
            have n_50 : i = n := cmp_eq (a := i) (b := n) (by omega) (by omega) c_50
            refine J_iconst E dX6_judge_53 ic_0 ?_
            refine J_goto E (tgt := 60) dX6_judge_54 (by decide) ?_
            exact ret _ _ _ _ ⟨by first | (exfalso; omega) | (rw [h2]; done) | (rw [h2, Int32.add_comm]), _, rfl, by first | exact ShM.rfl' | (exfalso; omega)⟩ rfl dX6_judge_60
        · skip
          have n_25 : ¬ n ≤ i := cmp_nle (a := n) (b := i) (by omega) (by omega) c_25
          refine J_aload_n E dX6_judge_28 rfl 0 rfl ?_
          refine J_iload_n E dX6_judge_29 rfl 1 rfl ?_
          refine J_iload_n E dX6_judge_30 rfl 3 rfl ?_
          refine J_cVi0 E (As := [.int (nI 1), .int (nI i)]) (c_X6_goesOn_1 l G b y i (by omega) hp) cl_X6_306 yo_X6_goesOn dX6_judge_31 rfl rfl rfl (Nat.le_of_ble_eq_true rfl) (Nat.le_of_ble_eq_true rfl) rfl (Nat.le_of_ble_eq_true rfl) ⟨Nat.zero_le _, Nat.zero_le _⟩ ?_
          refine J_if_eq E (tgt := 43) dX6_judge_34 (by decide) (fun c_34 => ?_) (fun c_34 => ?_)
          · skip
            have c_34 := bI_0 c_34
            have h2 : judgR (y 0) (y 9 0) n 0 = 1 + nI i := by rw [h1, show n - i = (n - (i + 1)) + 1 by omega, judgR, if_neg c_34]
            refine J_iload_n E dX6_judge_43 rfl 3 rfl ?_
            refine J_aload_n E dX6_judge_44 rfl 0 rfl ?_
            refine gM0_X6_34 E dX6_judge_45 ?_
            refine J_iload_n E dX6_judge_48 rfl 1 rfl ?_
            refine lMz_1 E  dX6_judge_49 ?_
            refine J_top (x' := nI n) (hn) ?_
            refine J_icmp_ne E (tgt := 57) dX6_judge_50 (by decide) (fun c_50 => ?_) (fun c_50 => ?_)
            · skip
              have n_50 : ¬ i = n := cmp_ne (a := i) (b := n) (by omega) (by omega) c_50
              refine J_iload_n E dX6_judge_57 rfl 3 rfl ?_
              refine J_iconst E dX6_judge_58 ic_1 ?_
              refine J_iadd E dX6_judge_59 ?_
              exact ret _ _ _ _ ⟨by first | (exfalso; omega) | (rw [h2]; done) | (rw [h2, Int32.add_comm]), _, rfl, by first | exact ShM.rfl' | (exfalso; omega)⟩ rfl dX6_judge_60
            · skip
              have n_50 : i = n := cmp_eq (a := i) (b := n) (by omega) (by omega) c_50
              refine J_iconst E dX6_judge_53 ic_0 ?_
              refine J_goto E (tgt := 60) dX6_judge_54 (by decide) ?_
              exact ret _ _ _ _ ⟨by first | (exfalso; omega) | (rw [h2]; done) | (rw [h2, Int32.add_comm]), _, rfl, by first | exact ShM.rfl' | (exfalso; omega)⟩ rfl dX6_judge_60
          · skip
            have c_34 := bI_1 c_34
            refine J_iinc E (lv' := [(3, .int (nI (i + 1))), (0, .ref (b 0)), (1, .int (nI 1)), (2, .int (-1))]) dX6_judge_37 3 rfl (nI_inc _) (by decide) rfl ?_
            refine J_goto E (tgt := 18) dX6_judge_40 (by decide) ?_
            refine J_lv [1, 2, 3, 0] rfl ?_
            exact ih18 (i + 1) (by omega) (by rw [h1, show n - i = (n - (i + 1)) + 1 by omega, judgR, if_pos c_34]) (fun _ => (of_decide_eq_true c_34).1) (by omega)
    refine J_lv [2, 3, 1, 0] rfl ?_
    exact lp18 _ 0 (by omega) rfl (fun z => absurd z (Nat.lt_irrefl 0)) (Nat.lt_succ_self _)
  · skip
    exact absurd c_7 (by decide)

set_option maxHeartbeats 4000000 in
set_option maxRecDepth 20000 in
theorem c_X6_judge_ok_2 (l : Launch) (G : GB) (b : Nat → Nat) (y : Q3) (n : Nat) (hb : ¬ y 10 1 0 = 0) (hn : y 10 1 1 = nI n) (hn2 : n ≤ 40) : CI l yX6_judge cX6_judge 4 .int 3 68 G [.ref (b 0), .int (nI 2)] (wM G b y) (fun vR w' => vR = judgR (y 0) (y 10 0) n 0 ∧ PubM G b y w') := by
  refine CI.mk (own := RX6) (by decide) rfl (Nat.le_of_ble_eq_true rfl) ?_
  intro X E ret
  show J X G 4 0 0 (wM G b y) [(0, .ref (b 0)), (1, .int (nI 2))] 0 []
  refine J_aload_n E dX6_judge_0 rfl 0 rfl ?_
  refine J_iload_n E dX6_judge_1 rfl 1 rfl ?_
  refine J_cVi0 E (As := [.int (nI 2)]) (c_X6_lacks_2_1 l G b y hb ) cl_X6_197 yo_X6_lacks dX6_judge_2 rfl rfl rfl (Nat.le_of_ble_eq_true rfl) (Nat.le_of_ble_eq_true rfl) rfl (Nat.le_of_ble_eq_true rfl) ⟨Nat.zero_le _, Nat.zero_le _⟩ ?_
  refine J_istore_n E (lv' := [(2, .int (-1)), (0, .ref (b 0)), (1, .int (nI 2))]) dX6_judge_5 rfl (by decide) rfl ?_
  refine J_iload_n E dX6_judge_6 rfl 0 rfl ?_
  refine J_if_lt E (tgt := 16) dX6_judge_7 (by decide) (fun c_7 => ?_) (fun c_7 => ?_)
  · skip
    refine J_iconst E dX6_judge_16 ic_0 ?_
    refine J_istore_n E (lv' := [(3, .int 0), (2, .int (-1)), (0, .ref (b 0)), (1, .int (nI 2))]) dX6_judge_17 rfl (by decide) rfl ?_
    have lp18 : ∀ (fu : Nat) (i : Nat), (i ≤ n) → (judgR (y 0) (y 10 0) n 0 = judgR (y 0) (y 10 0) (n - i) i) → (0 < i → okH (y 10 0 (i - 1))) → n - i < fu → J X G 4 0 0 (wM G b y) [(0, .ref (b 0)), (1, .int (nI 2)), (2, .int (-1)), (3, .int (nI i))] 18 [] := by
      intro fu
      induction fu with
      | zero => intro i hi h1 hp hm; exact absurd hm (Nat.not_lt_zero _)
      | succ fu ih18 =>
        intro i hi h1 hp hm
        refine J_iload_n E dX6_judge_18 rfl 3 rfl ?_
        refine J_aload_n E dX6_judge_19 rfl 0 rfl ?_
        refine gM0_X6_34 E dX6_judge_20 ?_
        refine J_iload_n E dX6_judge_23 rfl 1 rfl ?_
        refine lMz_2 E  dX6_judge_24 ?_
        refine J_top (x' := nI n) (hn) ?_
        refine J_icmp_ge E (tgt := 43) dX6_judge_25 (by decide) (fun c_25 => ?_) (fun c_25 => ?_)
        · skip
          have n_25 : n ≤ i := cmp_le (a := n) (b := i) (by omega) (by omega) c_25
          have h2 : judgR (y 0) (y 10 0) n 0 = 0 := by rw [h1, show n - i = 0 by omega]; rfl
          refine J_iload_n E dX6_judge_43 rfl 3 rfl ?_
          refine J_aload_n E dX6_judge_44 rfl 0 rfl ?_
          refine gM0_X6_34 E dX6_judge_45 ?_
          refine J_iload_n E dX6_judge_48 rfl 1 rfl ?_
          refine lMz_2 E  dX6_judge_49 ?_
          refine J_top (x' := nI n) (hn) ?_
          refine J_icmp_ne E (tgt := 57) dX6_judge_50 (by decide) (fun c_50 => ?_) (fun c_50 => ?_)
          · skip
            have n_50 : ¬ i = n := cmp_ne (a := i) (b := n) (by omega) (by omega) c_50
            refine J_iload_n E dX6_judge_57 rfl 3 rfl ?_
            refine J_iconst E dX6_judge_58 ic_1 ?_
            refine J_iadd E dX6_judge_59 ?_
            exact ret _ _ _ _ ⟨by first | (exfalso; omega) | (rw [h2]; done) | (rw [h2, Int32.add_comm]), _, rfl, by first | exact ShM.rfl' | (exfalso; omega)⟩ rfl dX6_judge_60
          · skip
            have n_50 : i = n := cmp_eq (a := i) (b := n) (by omega) (by omega) c_50
            refine J_iconst E dX6_judge_53 ic_0 ?_
            refine J_goto E (tgt := 60) dX6_judge_54 (by decide) ?_
            exact ret _ _ _ _ ⟨by first | (exfalso; omega) | (rw [h2]; done) | (rw [h2, Int32.add_comm]), _, rfl, by first | exact ShM.rfl' | (exfalso; omega)⟩ rfl dX6_judge_60
        · skip
          have n_25 : ¬ n ≤ i := cmp_nle (a := n) (b := i) (by omega) (by omega) c_25
          refine J_aload_n E dX6_judge_28 rfl 0 rfl ?_
          refine J_iload_n E dX6_judge_29 rfl 1 rfl ?_
          refine J_iload_n E dX6_judge_30 rfl 3 rfl ?_
          refine J_cVi0 E (As := [.int (nI 2), .int (nI i)]) (c_X6_goesOn_2 l G b y i (by omega) hp) cl_X6_306 yo_X6_goesOn dX6_judge_31 rfl rfl rfl (Nat.le_of_ble_eq_true rfl) (Nat.le_of_ble_eq_true rfl) rfl (Nat.le_of_ble_eq_true rfl) ⟨Nat.zero_le _, Nat.zero_le _⟩ ?_
          refine J_if_eq E (tgt := 43) dX6_judge_34 (by decide) (fun c_34 => ?_) (fun c_34 => ?_)
          · skip
            have c_34 := bI_0 c_34
            have h2 : judgR (y 0) (y 10 0) n 0 = 1 + nI i := by rw [h1, show n - i = (n - (i + 1)) + 1 by omega, judgR, if_neg c_34]
            refine J_iload_n E dX6_judge_43 rfl 3 rfl ?_
            refine J_aload_n E dX6_judge_44 rfl 0 rfl ?_
            refine gM0_X6_34 E dX6_judge_45 ?_
            refine J_iload_n E dX6_judge_48 rfl 1 rfl ?_
            refine lMz_2 E  dX6_judge_49 ?_
            refine J_top (x' := nI n) (hn) ?_
            refine J_icmp_ne E (tgt := 57) dX6_judge_50 (by decide) (fun c_50 => ?_) (fun c_50 => ?_)
            · skip
              have n_50 : ¬ i = n := cmp_ne (a := i) (b := n) (by omega) (by omega) c_50
              refine J_iload_n E dX6_judge_57 rfl 3 rfl ?_
              refine J_iconst E dX6_judge_58 ic_1 ?_
              refine J_iadd E dX6_judge_59 ?_
              exact ret _ _ _ _ ⟨by first | (exfalso; omega) | (rw [h2]; done) | (rw [h2, Int32.add_comm]), _, rfl, by first | exact ShM.rfl' | (exfalso; omega)⟩ rfl dX6_judge_60
            · skip
              have n_50 : i = n := cmp_eq (a := i) (b := n) (by omega) (by omega) c_50
              refine J_iconst E dX6_judge_53 ic_0 ?_
              refine J_goto E (tgt := 60) dX6_judge_54 (by decide) ?_
              exact ret _ _ _ _ ⟨by first | (exfalso; omega) | (rw [h2]; done) | (rw [h2, Int32.add_comm]), _, rfl, by first | exact ShM.rfl' | (exfalso; omega)⟩ rfl dX6_judge_60
          · skip
            have c_34 := bI_1 c_34
            refine J_iinc E (lv' := [(3, .int (nI (i + 1))), (0, .ref (b 0)), (1, .int (nI 2)), (2, .int (-1))]) dX6_judge_37 3 rfl (nI_inc _) (by decide) rfl ?_
            refine J_goto E (tgt := 18) dX6_judge_40 (by decide) ?_
            refine J_lv [1, 2, 3, 0] rfl ?_
            exact ih18 (i + 1) (by omega) (by rw [h1, show n - i = (n - (i + 1)) + 1 by omega, judgR, if_pos c_34]) (fun _ => (of_decide_eq_true c_34).1) (by omega)
    refine J_lv [2, 3, 1, 0] rfl ?_
    exact lp18 _ 0 (by omega) rfl (fun z => absurd z (Nat.lt_irrefl 0)) (Nat.lt_succ_self _)
  · skip
    exact absurd c_7 (by decide)

set_option maxHeartbeats 4000000 in
set_option maxRecDepth 20000 in
theorem c_X6_judge_ok_3 (l : Launch) (G : GB) (b : Nat → Nat) (y : Q3) (n : Nat) (hb : ¬ y 11 1 0 = 0) (hn : y 11 1 1 = nI n) (hn2 : n ≤ 40) : CI l yX6_judge cX6_judge 4 .int 3 68 G [.ref (b 0), .int (nI 3)] (wM G b y) (fun vR w' => vR = judgR (y 0) (y 11 0) n 0 ∧ PubM G b y w') := by
  refine CI.mk (own := RX6) (by decide) rfl (Nat.le_of_ble_eq_true rfl) ?_
  intro X E ret
  show J X G 4 0 0 (wM G b y) [(0, .ref (b 0)), (1, .int (nI 3))] 0 []
  refine J_aload_n E dX6_judge_0 rfl 0 rfl ?_
  refine J_iload_n E dX6_judge_1 rfl 1 rfl ?_
  refine J_cVi0 E (As := [.int (nI 3)]) (c_X6_lacks_3_1 l G b y hb ) cl_X6_197 yo_X6_lacks dX6_judge_2 rfl rfl rfl (Nat.le_of_ble_eq_true rfl) (Nat.le_of_ble_eq_true rfl) rfl (Nat.le_of_ble_eq_true rfl) ⟨Nat.zero_le _, Nat.zero_le _⟩ ?_
  refine J_istore_n E (lv' := [(2, .int (-1)), (0, .ref (b 0)), (1, .int (nI 3))]) dX6_judge_5 rfl (by decide) rfl ?_
  refine J_iload_n E dX6_judge_6 rfl 0 rfl ?_
  refine J_if_lt E (tgt := 16) dX6_judge_7 (by decide) (fun c_7 => ?_) (fun c_7 => ?_)
  · skip
    refine J_iconst E dX6_judge_16 ic_0 ?_
    refine J_istore_n E (lv' := [(3, .int 0), (2, .int (-1)), (0, .ref (b 0)), (1, .int (nI 3))]) dX6_judge_17 rfl (by decide) rfl ?_
    have lp18 : ∀ (fu : Nat) (i : Nat), (i ≤ n) → (judgR (y 0) (y 11 0) n 0 = judgR (y 0) (y 11 0) (n - i) i) → (0 < i → okH (y 11 0 (i - 1))) → n - i < fu → J X G 4 0 0 (wM G b y) [(0, .ref (b 0)), (1, .int (nI 3)), (2, .int (-1)), (3, .int (nI i))] 18 [] := by
      intro fu
      induction fu with
      | zero => intro i hi h1 hp hm; exact absurd hm (Nat.not_lt_zero _)
      | succ fu ih18 =>
        intro i hi h1 hp hm
        refine J_iload_n E dX6_judge_18 rfl 3 rfl ?_
        refine J_aload_n E dX6_judge_19 rfl 0 rfl ?_
        refine gM0_X6_34 E dX6_judge_20 ?_
        refine J_iload_n E dX6_judge_23 rfl 1 rfl ?_
        refine lMz_3 E  dX6_judge_24 ?_
        refine J_top (x' := nI n) (hn) ?_
        refine J_icmp_ge E (tgt := 43) dX6_judge_25 (by decide) (fun c_25 => ?_) (fun c_25 => ?_)
        · skip
          have n_25 : n ≤ i := cmp_le (a := n) (b := i) (by omega) (by omega) c_25
          have h2 : judgR (y 0) (y 11 0) n 0 = 0 := by rw [h1, show n - i = 0 by omega]; rfl
          refine J_iload_n E dX6_judge_43 rfl 3 rfl ?_
          refine J_aload_n E dX6_judge_44 rfl 0 rfl ?_
          refine gM0_X6_34 E dX6_judge_45 ?_
          refine J_iload_n E dX6_judge_48 rfl 1 rfl ?_
          refine lMz_3 E  dX6_judge_49 ?_
          refine J_top (x' := nI n) (hn) ?_
          refine J_icmp_ne E (tgt := 57) dX6_judge_50 (by decide) (fun c_50 => ?_) (fun c_50 => ?_)
          · skip
            have n_50 : ¬ i = n := cmp_ne (a := i) (b := n) (by omega) (by omega) c_50
            refine J_iload_n E dX6_judge_57 rfl 3 rfl ?_
            refine J_iconst E dX6_judge_58 ic_1 ?_
            refine J_iadd E dX6_judge_59 ?_
            exact ret _ _ _ _ ⟨by first | (exfalso; omega) | (rw [h2]; done) | (rw [h2, Int32.add_comm]), _, rfl, by first | exact ShM.rfl' | (exfalso; omega)⟩ rfl dX6_judge_60
          · skip
            have n_50 : i = n := cmp_eq (a := i) (b := n) (by omega) (by omega) c_50
            refine J_iconst E dX6_judge_53 ic_0 ?_
            refine J_goto E (tgt := 60) dX6_judge_54 (by decide) ?_
            exact ret _ _ _ _ ⟨by first | (exfalso; omega) | (rw [h2]; done) | (rw [h2, Int32.add_comm]), _, rfl, by first | exact ShM.rfl' | (exfalso; omega)⟩ rfl dX6_judge_60
        · skip
          have n_25 : ¬ n ≤ i := cmp_nle (a := n) (b := i) (by omega) (by omega) c_25
          refine J_aload_n E dX6_judge_28 rfl 0 rfl ?_
          refine J_iload_n E dX6_judge_29 rfl 1 rfl ?_
          refine J_iload_n E dX6_judge_30 rfl 3 rfl ?_
          refine J_cVi0 E (As := [.int (nI 3), .int (nI i)]) (c_X6_goesOn_3 l G b y i (by omega) hp) cl_X6_306 yo_X6_goesOn dX6_judge_31 rfl rfl rfl (Nat.le_of_ble_eq_true rfl) (Nat.le_of_ble_eq_true rfl) rfl (Nat.le_of_ble_eq_true rfl) ⟨Nat.zero_le _, Nat.zero_le _⟩ ?_
          refine J_if_eq E (tgt := 43) dX6_judge_34 (by decide) (fun c_34 => ?_) (fun c_34 => ?_)
          · skip
            have c_34 := bI_0 c_34
            have h2 : judgR (y 0) (y 11 0) n 0 = 1 + nI i := by rw [h1, show n - i = (n - (i + 1)) + 1 by omega, judgR, if_neg c_34]
            refine J_iload_n E dX6_judge_43 rfl 3 rfl ?_
            refine J_aload_n E dX6_judge_44 rfl 0 rfl ?_
            refine gM0_X6_34 E dX6_judge_45 ?_
            refine J_iload_n E dX6_judge_48 rfl 1 rfl ?_
            refine lMz_3 E  dX6_judge_49 ?_
            refine J_top (x' := nI n) (hn) ?_
            refine J_icmp_ne E (tgt := 57) dX6_judge_50 (by decide) (fun c_50 => ?_) (fun c_50 => ?_)
            · skip
              have n_50 : ¬ i = n := cmp_ne (a := i) (b := n) (by omega) (by omega) c_50
              refine J_iload_n E dX6_judge_57 rfl 3 rfl ?_
              refine J_iconst E dX6_judge_58 ic_1 ?_
              refine J_iadd E dX6_judge_59 ?_
              exact ret _ _ _ _ ⟨by first | (exfalso; omega) | (rw [h2]; done) | (rw [h2, Int32.add_comm]), _, rfl, by first | exact ShM.rfl' | (exfalso; omega)⟩ rfl dX6_judge_60
            · skip
              have n_50 : i = n := cmp_eq (a := i) (b := n) (by omega) (by omega) c_50
              refine J_iconst E dX6_judge_53 ic_0 ?_
              refine J_goto E (tgt := 60) dX6_judge_54 (by decide) ?_
              exact ret _ _ _ _ ⟨by first | (exfalso; omega) | (rw [h2]; done) | (rw [h2, Int32.add_comm]), _, rfl, by first | exact ShM.rfl' | (exfalso; omega)⟩ rfl dX6_judge_60
          · skip
            have c_34 := bI_1 c_34
            refine J_iinc E (lv' := [(3, .int (nI (i + 1))), (0, .ref (b 0)), (1, .int (nI 3)), (2, .int (-1))]) dX6_judge_37 3 rfl (nI_inc _) (by decide) rfl ?_
            refine J_goto E (tgt := 18) dX6_judge_40 (by decide) ?_
            refine J_lv [1, 2, 3, 0] rfl ?_
            exact ih18 (i + 1) (by omega) (by rw [h1, show n - i = (n - (i + 1)) + 1 by omega, judgR, if_pos c_34]) (fun _ => (of_decide_eq_true c_34).1) (by omega)
    refine J_lv [2, 3, 1, 0] rfl ?_
    exact lp18 _ 0 (by omega) rfl (fun z => absurd z (Nat.lt_irrefl 0)) (Nat.lt_succ_self _)
  · skip
    exact absurd c_7 (by decide)

set_option maxHeartbeats 4000000 in
set_option maxRecDepth 20000 in
theorem c_X6_image (l : Launch) (G : GB) (b : Nat → Nat) (y : Q3)  : CI l yX6_image cX6_image 1 .int 1 22 G [.ref (b 0)] (wM G b y) (fun vR w' => vR = 1 ∧ PubM G b (up3 (upG y 1 (y 0)) 3 1 0 1) w') := by
  refine CI.mk (own := RX6) (by decide) rfl (Nat.le_of_ble_eq_true rfl) ?_
  intro X E ret
  show J X G 1 0 0 (wM G b y) [(0, .ref (b 0))] 0 []
  refine J_aload_n E dX6_image_0 rfl 0 rfl ?_
  refine gM0_X6_9 E dX6_image_1 ?_
  refine J_aload_n E dX6_image_4 rfl 0 rfl ?_
  refine gM0_X6_13 E dX6_image_5 ?_
  refine J_m01 E dX6_image_8 (Nat.le_of_ble_eq_true rfl) (Nat.le_of_ble_eq_true rfl) (Nat.le_of_ble_eq_true rfl) ⟨Nat.zero_le _, Nat.zero_le _⟩ ?_
  refine J_aload_n E dX6_image_11 rfl 0 rfl ?_
  refine J_iconst E dX6_image_12 ic_1 ?_
  refine pM0_X6_309 E rfl rfl dX6_image_13 ?_
  refine J_iconst E dX6_image_16 ic_1 ?_
  exact ret _ _ _ _ ⟨rfl, _, rfl, by intro g h2 h5 h6; by_cases h0 : g = 0 <;> simp [tellX, upG, up3, up3R, up2, h0, h2, h5, h6]⟩ rfl dX6_image_17

set_option maxHeartbeats 4000000 in
set_option maxRecDepth 20000 in
theorem c_X6_undo_none (l : Launch) (G : GB) (b : Nat → Nat) (y : Q3) (hk : y 3 1 0 = 0) : CI l yX6_undo cX6_undo 1 .int 1 21 G [.ref (b 0)] (wM G b y) (fun vR w' => vR = tellR 3 ∧ PubM G b (tellX y 3) w') := by
  refine CI.mk (own := RX6) (by decide) rfl (Nat.le_of_ble_eq_true rfl) ?_
  intro X E ret
  show J X G 1 0 0 (wM G b y) [(0, .ref (b 0))] 0 []
  refine J_aload_n E dX6_undo_0 rfl 0 rfl ?_
  refine gM0_X6_309 E dX6_undo_1 ?_
  refine J_if_ne E (tgt := 13) dX6_undo_4 (by decide) (fun c_4 => ?_) (fun c_4 => ?_)
  · skip
    exact absurd hk c_4
  · skip
    refine J_aload_n E dX6_undo_7 rfl 0 rfl ?_
    refine J_iconst E dX6_undo_8 ic_3 ?_
    refine J_cVi0 E (As := [.int 3]) (c_X6_finds l G b y 3 (by omega)) cl_X6_96 yo_X6_finds dX6_undo_9 rfl rfl rfl (Nat.le_of_ble_eq_true rfl) (Nat.le_of_ble_eq_true rfl) rfl (Nat.le_of_ble_eq_true rfl) ⟨Nat.zero_le _, Nat.zero_le _⟩ ?_
    exact ret _ _ _ _ ⟨rfl, _, rfl, by intro g h2 h5 h6; by_cases h0 : g = 0 <;> simp [tellX, upG, up3, up3R, up2, h0, h2, h5, h6]⟩ rfl dX6_undo_12

set_option maxHeartbeats 4000000 in
set_option maxRecDepth 20000 in
theorem c_X6_undo_ok (l : Launch) (G : GB) (b : Nat → Nat) (y : Q3) (hk : ¬ y 3 1 0 = 0) : CI l yX6_undo cX6_undo 1 .int 1 22 G [.ref (b 0)] (wM G b y) (fun vR w' => vR = y 1 7 0 ∧ PubM G b (upG y 0 (y 1)) w') := by
  refine CI.mk (own := RX6) (by decide) rfl (Nat.le_of_ble_eq_true rfl) ?_
  intro X E ret
  show J X G 1 0 0 (wM G b y) [(0, .ref (b 0))] 0 []
  refine J_aload_n E dX6_undo_0 rfl 0 rfl ?_
  refine gM0_X6_309 E dX6_undo_1 ?_
  refine J_if_ne E (tgt := 13) dX6_undo_4 (by decide) (fun c_4 => ?_) (fun c_4 => ?_)
  · skip
    refine J_aload_n E dX6_undo_13 rfl 0 rfl ?_
    refine gM0_X6_13 E dX6_undo_14 ?_
    refine J_aload_n E dX6_undo_17 rfl 0 rfl ?_
    refine gM0_X6_9 E dX6_undo_18 ?_
    refine J_m10 E dX6_undo_21 (Nat.le_of_ble_eq_true rfl) (Nat.le_of_ble_eq_true rfl) (Nat.le_of_ble_eq_true rfl) ⟨Nat.zero_le _, Nat.zero_le _⟩ ?_
    refine J_aload_n E dX6_undo_24 rfl 0 rfl ?_
    refine gM0_X6_9 E dX6_undo_25 ?_
    refine J_iconst E dX6_undo_28 ic_0 ?_
    refine lMs E (j := 0) (r := 7) (i := 0) (at_7 (by decide)) dX6_undo_29 ?_
    refine J_top (x' := (y 1) 7 0) upG_s ?_
    exact ret _ _ _ _ ⟨rfl, _, rfl, by intro g h2 h5 h6; by_cases h0 : g = 0 <;> simp [tellX, upG, up3, up3R, up2, h0, h2, h5, h6]⟩ rfl dX6_undo_30
  · skip
    exact absurd c_4 hk

set_option maxHeartbeats 4000000 in
set_option maxRecDepth 20000 in
theorem c_X6_tear (l : Launch) (G : GB) (b : Nat → Nat) (y : Q3)  : CI l yX6_tear cX6_tear 2 .int 0 0 G [.ref (b 0)] (wM G b y) (fun vR w' => vR = (if y 3 1 0 = 0 then 0 else 1) ∧ PubM G b (up3 y 3 1 0 0) w') := by
  refine CI.mk (own := RX6) (by decide) rfl (Nat.le_of_ble_eq_true rfl) ?_
  intro X E ret
  show J X G 2 0 0 (wM G b y) [(0, .ref (b 0))] 0 []
  refine J_aload_n E dX6_tear_0 rfl 0 rfl ?_
  refine gM0_X6_309 E dX6_tear_1 ?_
  refine J_if_eq E (tgt := 11) dX6_tear_4 (by decide) (fun c_4 => ?_) (fun c_4 => ?_)
  · skip
    refine J_iconst E dX6_tear_11 ic_0 ?_
    refine J_istore_n E (lv' := [(1, .int 0), (0, .ref (b 0))]) dX6_tear_12 rfl (by decide) rfl ?_
    refine J_aload_n E dX6_tear_13 rfl 1 rfl ?_
    refine J_iconst E dX6_tear_14 ic_0 ?_
    refine pM0_X6_309 E rfl rfl dX6_tear_15 ?_
    refine J_iload_n E dX6_tear_18 rfl 0 rfl ?_
    exact ret _ _ _ _ ⟨by first | rw [if_pos c_4] | rw [if_neg c_4], _, rfl, by intro g h2 h5 h6; by_cases h0 : g = 0 <;> simp [tellX, upG, up3, up3R, up2, h0, h2, h5, h6]⟩ rfl dX6_tear_19
  · skip
    refine J_iconst E dX6_tear_7 ic_1 ?_
    refine J_goto E (tgt := 12) dX6_tear_8 (by decide) ?_
    refine J_istore_n E (lv' := [(1, .int 1), (0, .ref (b 0))]) dX6_tear_12 rfl (by decide) rfl ?_
    refine J_aload_n E dX6_tear_13 rfl 1 rfl ?_
    refine J_iconst E dX6_tear_14 ic_0 ?_
    refine pM0_X6_309 E rfl rfl dX6_tear_15 ?_
    refine J_iload_n E dX6_tear_18 rfl 0 rfl ?_
    exact ret _ _ _ _ ⟨by first | rw [if_pos c_4] | rw [if_neg c_4], _, rfl, by intro g h2 h5 h6; by_cases h0 : g = 0 <;> simp [tellX, upG, up3, up3R, up2, h0, h2, h5, h6]⟩ rfl dX6_tear_19

set_option maxHeartbeats 4000000 in
set_option maxRecDepth 20000 in
theorem c_X6_held (l : Launch) (G : GB) (b : Nat → Nat) (y : Q3) (hs : okS (y 0)) : CI l yX6_held cX6_held 3 .int 0 0 G [.ref (b 0)] (wM G b y) (fun vR w' => vR = cntF (fun j => decide (¬ y 0 6 j = -1)) 10 ∧ w' = wM G b y) := by
  refine CI.mk (own := RX6) (by decide) rfl (Nat.le_of_ble_eq_true rfl) ?_
  intro X E ret
  show J X G 3 0 0 (wM G b y) [(0, .ref (b 0))] 0 []
  refine J_iconst E dX6_held_0 ic_0 ?_
  refine J_istore_n E (lv' := [(1, .int 0), (0, .ref (b 0))]) dX6_held_1 rfl (by decide) rfl ?_
  refine J_iconst E dX6_held_2 ic_0 ?_
  refine J_istore_n E (lv' := [(2, .int 0), (1, .int 0), (0, .ref (b 0))]) dX6_held_3 rfl (by decide) rfl ?_
  have lp4 : ∀ (fu : Nat) (i : Nat) (c : Int32), (i ≤ 10) → (c = cntF (fun j => decide (¬ y 0 6 j = -1)) i) → 10 - i < fu → J X G 3 0 0 (wM G b y) [(0, .ref (b 0)), (1, .int c), (2, .int (nI i))] 4 [] := by
    intro fu
    induction fu with
    | zero => intro i c hi h1 hm; exact absurd hm (Nat.not_lt_zero _)
    | succ fu ih4 =>
      intro i c hi h1 hm
      refine J_iload_n E dX6_held_4 rfl 2 rfl ?_
      refine J_bipush E dX6_held_5 bp_10 ?_
      refine J_icmp_ge E (tgt := 36) dX6_held_7 (by decide) (fun c_7 => ?_) (fun c_7 => ?_)
      · skip
        have n_7 : 10 ≤ i := cmp_le (a := 10) (b := i) (by omega) (by omega) c_7
        refine J_iload_n E dX6_held_36 rfl 1 rfl ?_
        exact ret _ _ _ _ ⟨by rw [h1, show i = 10 by omega], (congrArg (wM G b) (rfl))⟩ rfl dX6_held_37
      · skip
        have n_7 : ¬ 10 ≤ i := cmp_nle (a := 10) (b := i) (by omega) (by omega) c_7
        refine J_iload_n E dX6_held_10 rfl 1 rfl ?_
        refine J_aload_n E dX6_held_11 rfl 0 rfl ?_
        refine gM0_X6_9 E dX6_held_12 ?_
        refine J_bipush E dX6_held_15 bp_71 ?_
        refine J_iload_n E dX6_held_17 rfl 2 rfl ?_
        refine J_iadd E dX6_held_18 ?_
        refine J_top (x' := nI (71 + i)) (nI_add 71 i) ?_
        refine lMs E (j := (71 + i)) (r := 6) (i := i) (at_s (by omega) rfl) dX6_held_19 ?_
        refine J_if_ge E (tgt := 27) dX6_held_20 (by decide) (fun c_20 => ?_) (fun c_20 => ?_)
        · skip
          refine J_iconst E dX6_held_27 ic_1 ?_
          refine J_iadd E dX6_held_28 ?_
          refine J_istore_n E (lv' := [(1, .int (c + 1)), (0, .ref (b 0)), (2, .int (nI i))]) dX6_held_29 rfl (by decide) rfl ?_
          refine J_iinc E (lv' := [(2, .int (nI (i + 1))), (1, .int (c + 1)), (0, .ref (b 0))]) dX6_held_30 2 rfl (nI_inc _) (by decide) rfl ?_
          refine J_goto E (tgt := 4) dX6_held_33 (by decide) ?_
          refine J_lv [2, 1, 0] rfl ?_
          exact ih4 (i + 1) (c + 1) (by omega) (by rw [h1, cntF]; rcases hs i (by omega) with e | ⟨w, hw, e⟩ <;> rw [e] at c_20 ⊢ <;> first | exact absurd c_20 (by decide) | exact absurd (nI_pos' (by omega)) c_20 | (rw [if_neg (by decide), Int32.add_zero]) | (rw [if_pos (decide_eq_true (m1_ne hw))])) (by omega)
        · skip
          refine J_iconst E dX6_held_23 ic_0 ?_
          refine J_goto E (tgt := 28) dX6_held_24 (by decide) ?_
          refine J_iadd E dX6_held_28 ?_
          refine J_istore_n E (lv' := [(1, .int (c + 0)), (0, .ref (b 0)), (2, .int (nI i))]) dX6_held_29 rfl (by decide) rfl ?_
          refine J_iinc E (lv' := [(2, .int (nI (i + 1))), (1, .int (c + 0)), (0, .ref (b 0))]) dX6_held_30 2 rfl (nI_inc _) (by decide) rfl ?_
          refine J_goto E (tgt := 4) dX6_held_33 (by decide) ?_
          refine J_lv [2, 1, 0] rfl ?_
          exact ih4 (i + 1) (c + 0) (by omega) (by rw [h1, cntF]; rcases hs i (by omega) with e | ⟨w, hw, e⟩ <;> rw [e] at c_20 ⊢ <;> first | exact absurd c_20 (by decide) | exact absurd (nI_pos' (by omega)) c_20 | (rw [if_neg (by decide), Int32.add_zero]) | (rw [if_pos (decide_eq_true (m1_ne hw))])) (by omega)
  refine J_lv [2, 1, 0] rfl ?_
  exact lp4 _ 0 0 (by omega) rfl (Nat.lt_succ_self _)

set_option maxHeartbeats 4000000 in
set_option maxRecDepth 20000 in
theorem c_X6_unlikeHouses (l : Launch) (G : GB) (b : Nat → Nat) (y : Q3)  : CI l yX6_unlikeHouses cX6_unlikeHouses 3 .int 1 22 G [.ref (b 0)] (wM G b y) (fun vR w' => vR = cntF (fun j => decide (¬ y 0 0 j = 0)) 11 ∧ w' = wM G b y) := by
  refine CI.mk (own := RX6) (by decide) rfl (Nat.le_of_ble_eq_true rfl) ?_
  intro X E ret
  show J X G 3 0 0 (wM G b y) [(0, .ref (b 0))] 0 []
  refine J_iconst E dX6_unlikeHouses_0 ic_0 ?_
  refine J_istore_n E (lv' := [(1, .int 0), (0, .ref (b 0))]) dX6_unlikeHouses_1 rfl (by decide) rfl ?_
  refine J_iconst E dX6_unlikeHouses_2 ic_0 ?_
  refine J_istore_n E (lv' := [(2, .int 0), (1, .int 0), (0, .ref (b 0))]) dX6_unlikeHouses_3 rfl (by decide) rfl ?_
  have lp4 : ∀ (fu : Nat) (i : Nat) (c : Int32), (i ≤ 11) → (c = cntF (fun j => decide (¬ y 0 0 j = 0)) i) → 11 - i < fu → J X G 3 0 0 (wM G b y) [(0, .ref (b 0)), (1, .int c), (2, .int (nI i))] 4 [] := by
    intro fu
    induction fu with
    | zero => intro i c hi h1 hm; exact absurd hm (Nat.not_lt_zero _)
    | succ fu ih4 =>
      intro i c hi h1 hm
      refine J_iload_n E dX6_unlikeHouses_4 rfl 2 rfl ?_
      refine J_bipush E dX6_unlikeHouses_5 bp_11 ?_
      refine J_icmp_ge E (tgt := 33) dX6_unlikeHouses_7 (by decide) (fun c_7 => ?_) (fun c_7 => ?_)
      · skip
        have n_7 : 11 ≤ i := cmp_le (a := 11) (b := i) (by omega) (by omega) c_7
        refine J_iload_n E dX6_unlikeHouses_33 rfl 1 rfl ?_
        exact ret _ _ _ _ ⟨by rw [h1, show i = 11 by omega], (congrArg (wM G b) (rfl))⟩ rfl dX6_unlikeHouses_34
      · skip
        have n_7 : ¬ 11 ≤ i := cmp_nle (a := 11) (b := i) (by omega) (by omega) c_7
        refine J_iload_n E dX6_unlikeHouses_10 rfl 1 rfl ?_
        refine J_aload_n E dX6_unlikeHouses_11 rfl 0 rfl ?_
        refine J_iload_n E dX6_unlikeHouses_12 rfl 2 rfl ?_
        refine J_iconst E dX6_unlikeHouses_13 ic_0 ?_
        refine J_cVi0 E (As := [.int (nI i), .int 0]) (c_X6_its l G b y i 0 (by omega) (by omega)) cl_X6_64 yo_X6_its dX6_unlikeHouses_14 rfl rfl rfl (Nat.le_of_ble_eq_true rfl) (Nat.le_of_ble_eq_true rfl) rfl (Nat.le_of_ble_eq_true rfl) ⟨Nat.zero_le _, Nat.zero_le _⟩ ?_
        refine J_if_ne E (tgt := 24) dX6_unlikeHouses_17 (by decide) (fun c_17 => ?_) (fun c_17 => ?_)
        · skip
          refine J_iconst E dX6_unlikeHouses_24 ic_1 ?_
          refine J_iadd E dX6_unlikeHouses_25 ?_
          refine J_istore_n E (lv' := [(1, .int (c + 1)), (0, .ref (b 0)), (2, .int (nI i))]) dX6_unlikeHouses_26 rfl (by decide) rfl ?_
          refine J_iinc E (lv' := [(2, .int (nI (i + 1))), (1, .int (c + 1)), (0, .ref (b 0))]) dX6_unlikeHouses_27 2 rfl (nI_inc _) (by decide) rfl ?_
          refine J_goto E (tgt := 4) dX6_unlikeHouses_30 (by decide) ?_
          refine J_lv [2, 1, 0] rfl ?_
          exact ih4 (i + 1) (c + 1) (by omega) (by rw [h1, cntF]; first | (rw [if_pos (decide_eq_true c_17)]) | (rw [if_neg (c := decide (¬ y 0 0 i = 0) = true) (fun z => (of_decide_eq_true z) c_17), Int32.add_zero])) (by omega)
        · skip
          refine J_iconst E dX6_unlikeHouses_20 ic_0 ?_
          refine J_goto E (tgt := 25) dX6_unlikeHouses_21 (by decide) ?_
          refine J_iadd E dX6_unlikeHouses_25 ?_
          refine J_istore_n E (lv' := [(1, .int (c + 0)), (0, .ref (b 0)), (2, .int (nI i))]) dX6_unlikeHouses_26 rfl (by decide) rfl ?_
          refine J_iinc E (lv' := [(2, .int (nI (i + 1))), (1, .int (c + 0)), (0, .ref (b 0))]) dX6_unlikeHouses_27 2 rfl (nI_inc _) (by decide) rfl ?_
          refine J_goto E (tgt := 4) dX6_unlikeHouses_30 (by decide) ?_
          refine J_lv [2, 1, 0] rfl ?_
          exact ih4 (i + 1) (c + 0) (by omega) (by rw [h1, cntF]; first | (rw [if_pos (decide_eq_true c_17)]) | (rw [if_neg (c := decide (¬ y 0 0 i = 0) = true) (fun z => (of_decide_eq_true z) c_17), Int32.add_zero])) (by omega)
  refine J_lv [2, 1, 0] rfl ?_
  exact lp4 _ 0 0 (by omega) rfl (Nat.lt_succ_self _)

set_option maxHeartbeats 4000000 in
set_option maxRecDepth 20000 in
theorem c_X6_count_bad (l : Launch) (G : GB) (b : Nat → Nat) (y : Q3) (k : Int32) (hb : ¬ (0 ≤ k ∧ k ≤ 7)) : CI l yX6_count cX6_count 2 .int 1 21 G [.ref (b 0), .int k] (wM G b y) (fun vR w' => vR = tellR 0 ∧ PubM G b (tellX y 0) w') := by
  refine CI.mk (own := RX6) (by decide) rfl (Nat.le_of_ble_eq_true rfl) ?_
  intro X E ret
  show J X G 2 0 0 (wM G b y) [(0, .ref (b 0)), (1, .int k)] 0 []
  refine J_iload_n E dX6_count_0 rfl 1 rfl ?_
  by_cases c_1 : (k).toInt < 0 ∨ 7 < (k).toInt
  · refine J_tabOut E (tgt := 97) dX6_count_1 c_1 (by decide) ?_
    have n_1_0 : ¬ k = 0 := ne_out c_1 (by decide)
    have n_1_1 : ¬ k = 1 := ne_out c_1 (by decide)
    have n_1_2 : ¬ k = 2 := ne_out c_1 (by decide)
    have n_1_3 : ¬ k = 3 := ne_out c_1 (by decide)
    have n_1_4 : ¬ k = 4 := ne_out c_1 (by decide)
    have n_1_5 : ¬ k = 5 := ne_out c_1 (by decide)
    have n_1_6 : ¬ k = 6 := ne_out c_1 (by decide)
    have n_1_7 : ¬ k = 7 := ne_out c_1 (by decide)
    refine J_aload_n E dX6_count_97 rfl 0 rfl ?_
    refine J_iconst E dX6_count_98 ic_0 ?_
    refine J_cVi0 E (As := [.int 0]) (c_X6_finds l G b y 0 (by omega)) cl_X6_96 yo_X6_finds dX6_count_99 rfl rfl rfl (Nat.le_of_ble_eq_true rfl) (Nat.le_of_ble_eq_true rfl) rfl (Nat.le_of_ble_eq_true rfl) ⟨Nat.zero_le _, Nat.zero_le _⟩ ?_
    exact ret _ _ _ _ ⟨rfl, _, rfl, by intro g h2 h5 h6; by_cases h0 : g = 0 <;> simp [tellX, upG, up3, up3R, up2, h0, h2, h5, h6]⟩ rfl dX6_count_102
  · rcases sw_0_7 c_1 with i_1 | i_1 | i_1 | i_1 | i_1 | i_1 | i_1 | i_1
    · refine J_top i_1 ?_
      refine J_tabIn E (tgt := 48) (off := 47) dX6_count_1 (by decide) (by decide) rfl (by decide) ?_
      exact absurd (by rw [i_1]; decide) hb
    · refine J_top i_1 ?_
      refine J_tabIn E (tgt := 55) (off := 54) dX6_count_1 (by decide) (by decide) rfl (by decide) ?_
      exact absurd (by rw [i_1]; decide) hb
    · refine J_top i_1 ?_
      refine J_tabIn E (tgt := 60) (off := 59) dX6_count_1 (by decide) (by decide) rfl (by decide) ?_
      exact absurd (by rw [i_1]; decide) hb
    · refine J_top i_1 ?_
      refine J_tabIn E (tgt := 68) (off := 67) dX6_count_1 (by decide) (by decide) rfl (by decide) ?_
      exact absurd (by rw [i_1]; decide) hb
    · refine J_top i_1 ?_
      refine J_tabIn E (tgt := 73) (off := 72) dX6_count_1 (by decide) (by decide) rfl (by decide) ?_
      exact absurd (by rw [i_1]; decide) hb
    · refine J_top i_1 ?_
      refine J_tabIn E (tgt := 80) (off := 79) dX6_count_1 (by decide) (by decide) rfl (by decide) ?_
      exact absurd (by rw [i_1]; decide) hb
    · refine J_top i_1 ?_
      refine J_tabIn E (tgt := 85) (off := 84) dX6_count_1 (by decide) (by decide) rfl (by decide) ?_
      exact absurd (by rw [i_1]; decide) hb
    · refine J_top i_1 ?_
      refine J_tabIn E (tgt := 92) (off := 91) dX6_count_1 (by decide) (by decide) rfl (by decide) ?_
      exact absurd (by rw [i_1]; decide) hb

set_option maxHeartbeats 4000000 in
set_option maxRecDepth 20000 in
theorem c_X6_count_ok (l : Launch) (G : GB) (b : Nat → Nat) (y : Q3) (k : Nat) (hk : k < 8) (hs : okS (y 0)) : CI l yX6_count cX6_count 2 .int 2 44 G [.ref (b 0), .int (nI k)] (wM G b y) (fun vR w' => vR = countM y k ∧ PubM G b y w') := by
  refine CI.mk (own := RX6) (by decide) rfl (Nat.le_of_ble_eq_true rfl) ?_
  intro X E ret
  show J X G 2 0 0 (wM G b y) [(0, .ref (b 0)), (1, .int (nI k))] 0 []
  rcases (show k = 0 ∨ k = 1 ∨ k = 2 ∨ k = 3 ∨ k = 4 ∨ k = 5 ∨ k = 6 ∨ k = 7 by omega) with rfl | rfl | rfl | rfl | rfl | rfl | rfl | rfl
  · skip
    refine J_iload_n E dX6_count_0 rfl 1 rfl ?_
    refine J_tabIn E (tgt := 48) (off := 47) dX6_count_1 (by decide) (by decide) rfl (by decide) ?_
    refine J_aload_n E dX6_count_48 rfl 0 rfl ?_
    refine gM0_X6_9 E dX6_count_49 ?_
    refine J_iconst E dX6_count_52 ic_0 ?_
    refine lMs E (j := 0) (r := 7) (i := 0) (at_7 (by decide)) dX6_count_53 ?_
    exact ret _ _ _ _ ⟨by simp [countM], _, rfl, by intro g h2 h5 h6; by_cases h0 : g = 0 <;> simp [tellX, upG, up3, up3R, up2, h0, h2, h5, h6]⟩ rfl dX6_count_54
  · skip
    refine J_iload_n E dX6_count_0 rfl 1 rfl ?_
    refine J_tabIn E (tgt := 55) (off := 54) dX6_count_1 (by decide) (by decide) rfl (by decide) ?_
    refine J_aload_n E dX6_count_55 rfl 0 rfl ?_
    refine J_cVi0 E (As := []) (c_X6_unlikeHouses l G b y ) cl_X6_312 yo_X6_unlikeHouses dX6_count_56 rfl rfl rfl (Nat.le_of_ble_eq_true rfl) (Nat.le_of_ble_eq_true rfl) rfl (Nat.le_of_ble_eq_true rfl) ⟨Nat.zero_le _, Nat.zero_le _⟩ ?_
    exact ret _ _ _ _ ⟨by simp [countM], _, rfl, by intro g h2 h5 h6; by_cases h0 : g = 0 <;> simp [tellX, upG, up3, up3R, up2, h0, h2, h5, h6]⟩ rfl dX6_count_59
  · skip
    refine J_iload_n E dX6_count_0 rfl 1 rfl ?_
    refine J_tabIn E (tgt := 60) (off := 59) dX6_count_1 (by decide) (by decide) rfl (by decide) ?_
    refine J_aload_n E dX6_count_60 rfl 0 rfl ?_
    refine J_cVi0 E (As := []) (c_X6_dryEver l G b y ) cl_X6_150 yo_X6_dryEver dX6_count_61 rfl rfl rfl (Nat.le_of_ble_eq_true rfl) (Nat.le_of_ble_eq_true rfl) rfl (Nat.le_of_ble_eq_true rfl) ⟨Nat.zero_le _, Nat.zero_le _⟩ ?_
    refine J_cSiN E (As := [.int (setF (fun j => decide (0 < (y 0) 5 j)) 11)]) (c_X6_ones l G (setF (fun j => decide (0 < (y 0) 5 j)) 11) ) cl_X6_191 yo_X6_ones dX6_count_64 rfl (Nat.le_of_ble_eq_true rfl) (Nat.le_of_ble_eq_true rfl) rfl (Nat.le_of_ble_eq_true rfl) ⟨Nat.zero_le _, Nat.zero_le _⟩ ?_
    exact ret _ _ _ _ ⟨by simp [countM], _, rfl, by intro g h2 h5 h6; by_cases h0 : g = 0 <;> simp [tellX, upG, up3, up3R, up2, h0, h2, h5, h6]⟩ rfl dX6_count_67
  · skip
    refine J_iload_n E dX6_count_0 rfl 1 rfl ?_
    refine J_tabIn E (tgt := 68) (off := 67) dX6_count_1 (by decide) (by decide) rfl (by decide) ?_
    refine J_aload_n E dX6_count_68 rfl 0 rfl ?_
    refine J_cVi0 E (As := []) (c_X6_waters l G b y ) cl_X6_147 yo_X6_waters dX6_count_69 rfl rfl rfl (Nat.le_of_ble_eq_true rfl) (Nat.le_of_ble_eq_true rfl) rfl (Nat.le_of_ble_eq_true rfl) ⟨Nat.zero_le _, Nat.zero_le _⟩ ?_
    exact ret _ _ _ _ ⟨by simp [countM], _, rfl, by intro g h2 h5 h6; by_cases h0 : g = 0 <;> simp [tellX, upG, up3, up3R, up2, h0, h2, h5, h6]⟩ rfl dX6_count_72
  · skip
    refine J_iload_n E dX6_count_0 rfl 1 rfl ?_
    refine J_tabIn E (tgt := 73) (off := 72) dX6_count_1 (by decide) (by decide) rfl (by decide) ?_
    refine J_aload_n E dX6_count_73 rfl 0 rfl ?_
    refine gM0_X6_9 E dX6_count_74 ?_
    refine J_iconst E dX6_count_77 ic_3 ?_
    refine lMs E (j := 3) (r := 7) (i := 3) (at_7 (by decide)) dX6_count_78 ?_
    exact ret _ _ _ _ ⟨by simp [countM], _, rfl, by intro g h2 h5 h6; by_cases h0 : g = 0 <;> simp [tellX, upG, up3, up3R, up2, h0, h2, h5, h6]⟩ rfl dX6_count_79
  · skip
    refine J_iload_n E dX6_count_0 rfl 1 rfl ?_
    refine J_tabIn E (tgt := 80) (off := 79) dX6_count_1 (by decide) (by decide) rfl (by decide) ?_
    refine J_aload_n E dX6_count_80 rfl 0 rfl ?_
    refine gM0_X6_214 E dX6_count_81 ?_
    exact ret _ _ _ _ ⟨by simp [countM], _, rfl, by intro g h2 h5 h6; by_cases h0 : g = 0 <;> simp [tellX, upG, up3, up3R, up2, h0, h2, h5, h6]⟩ rfl dX6_count_84
  · skip
    refine J_iload_n E dX6_count_0 rfl 1 rfl ?_
    refine J_tabIn E (tgt := 85) (off := 84) dX6_count_1 (by decide) (by decide) rfl (by decide) ?_
    refine J_aload_n E dX6_count_85 rfl 0 rfl ?_
    refine gM0_X6_9 E dX6_count_86 ?_
    refine J_iconst E dX6_count_89 ic_1 ?_
    refine lMs E (j := 1) (r := 7) (i := 1) (at_7 (by decide)) dX6_count_90 ?_
    exact ret _ _ _ _ ⟨by simp [countM], _, rfl, by intro g h2 h5 h6; by_cases h0 : g = 0 <;> simp [tellX, upG, up3, up3R, up2, h0, h2, h5, h6]⟩ rfl dX6_count_91
  · skip
    refine J_iload_n E dX6_count_0 rfl 1 rfl ?_
    refine J_tabIn E (tgt := 92) (off := 91) dX6_count_1 (by decide) (by decide) rfl (by decide) ?_
    refine J_aload_n E dX6_count_92 rfl 0 rfl ?_
    refine J_cVi0 E (As := []) (c_X6_held l G b y hs) cl_X6_315 yo_X6_held dX6_count_93 rfl rfl rfl (Nat.le_of_ble_eq_true rfl) (Nat.le_of_ble_eq_true rfl) rfl (Nat.le_of_ble_eq_true rfl) ⟨Nat.zero_le _, Nat.zero_le _⟩ ?_
    exact ret _ _ _ _ ⟨by simp [countM], _, rfl, by intro g h2 h5 h6; by_cases h0 : g = 0 <;> simp [tellX, upG, up3, up3R, up2, h0, h2, h5, h6]⟩ rfl dX6_count_96

set_option maxHeartbeats 4000000 in
set_option maxRecDepth 20000 in
theorem c_X6_status_bad (l : Launch) (G : GB) (b : Nat → Nat) (y : Q3) (w : Int32) (hb : ¬ (-1 ≤ w ∧ w ≤ 6)) : CI l yX6_status cX6_status 4 .int 1 25 G [.ref (b 0), .int w] (wM G b y) (fun vR w' => vR = tellR 0 ∧ PubM G b (tellX y 0) w') := by
  refine CI.mk (own := RX6) (by decide) rfl (Nat.le_of_ble_eq_true rfl) ?_
  intro X E ret
  show J X G 4 0 0 (wM G b y) [(0, .ref (b 0)), (1, .int w)] 0 []
  refine J_iload_n E dX6_status_0 rfl 1 rfl ?_
  refine J_i2l E dX6_status_1 rfl ?_
  refine J_ldc2 E kl_X6_318 dX6_status_2 ?_
  refine J_ldc2 E kl_X6_62 dX6_status_5 ?_
  refine J_cSiN E (As := [.long (Int32.toInt64 w), .long (-1), .long 6]) (c_X6_in l G w (-1) 6 (-1) 6 (by decide) (by decide) ) cl_X6_54 yo_X6_in dX6_status_8 rfl (Nat.le_of_ble_eq_true rfl) (Nat.le_of_ble_eq_true rfl) rfl (Nat.le_of_ble_eq_true rfl) ⟨Nat.zero_le _, Nat.zero_le _⟩ ?_
  refine J_if_ne E (tgt := 20) dX6_status_11 (by decide) (fun c_11 => ?_) (fun c_11 => ?_)
  · skip
    have c_11 := bI_1 c_11
    exact absurd c_11 hb
  · skip
    have c_11 := bI_0 c_11
    refine J_aload_n E dX6_status_14 rfl 0 rfl ?_
    refine J_iconst E dX6_status_15 ic_0 ?_
    refine J_cVi0 E (As := [.int 0]) (c_X6_finds l G b y 0 (by omega)) cl_X6_96 yo_X6_finds dX6_status_16 rfl rfl rfl (Nat.le_of_ble_eq_true rfl) (Nat.le_of_ble_eq_true rfl) rfl (Nat.le_of_ble_eq_true rfl) ⟨Nat.zero_le _, Nat.zero_le _⟩ ?_
    exact ret _ _ _ _ ⟨rfl, _, rfl, by intro g h2 h5 h6; by_cases h0 : g = 0 <;> simp [tellX, upG, up3, up3R, up2, h0, h2, h5, h6]⟩ rfl dX6_status_19

set_option maxHeartbeats 4000000 in
set_option maxRecDepth 20000 in
theorem c_X6_status_one (l : Launch) (G : GB) (b : Nat → Nat) (y : Q3) (k : Nat) (hk : k < 7) : CI l yX6_status cX6_status 4 .int 1 25 G [.ref (b 0), .int (nI k)] (wM G b y) (fun vR w' => vR = y 3 0 k ∧ PubM G b y w') := by
  refine CI.mk (own := RX6) (by decide) rfl (Nat.le_of_ble_eq_true rfl) ?_
  intro X E ret
  show J X G 4 0 0 (wM G b y) [(0, .ref (b 0)), (1, .int (nI k))] 0 []
  refine J_iload_n E dX6_status_0 rfl 1 rfl ?_
  refine J_i2l E dX6_status_1 rfl ?_
  refine J_ldc2 E kl_X6_318 dX6_status_2 ?_
  refine J_ldc2 E kl_X6_62 dX6_status_5 ?_
  refine J_cSiN E (As := [.long (Int32.toInt64 (nI k)), .long (-1), .long 6]) (c_X6_in l G (nI k) (-1) 6 (-1) 6 (by decide) (by decide) ) cl_X6_54 yo_X6_in dX6_status_8 rfl (Nat.le_of_ble_eq_true rfl) (Nat.le_of_ble_eq_true rfl) rfl (Nat.le_of_ble_eq_true rfl) ⟨Nat.zero_le _, Nat.zero_le _⟩ ?_
  refine J_if_ne E (tgt := 20) dX6_status_11 (by decide) (fun c_11 => ?_) (fun c_11 => ?_)
  · skip
    have c_11 := bI_1 c_11
    refine J_iconst E dX6_status_20 ic_0 ?_
    refine J_istore_n E (lv' := [(2, .int 0), (0, .ref (b 0)), (1, .int (nI k))]) dX6_status_21 rfl (by decide) rfl ?_
    refine J_iconst E dX6_status_22 ic_0 ?_
    refine J_istore_n E (lv' := [(3, .int 0), (2, .int 0), (0, .ref (b 0)), (1, .int (nI k))]) dX6_status_23 rfl (by decide) rfl ?_
    have lp24 : ∀ (fu : Nat) (i : Nat) (s : Int32), (i ≤ 7) → (s = if k < i then y 3 0 k else 0) → 7 - i < fu → J X G 4 0 0 (wM G b y) [(0, .ref (b 0)), (1, .int (nI k)), (2, .int s), (3, .int (nI i))] 24 [] := by
      intro fu
      induction fu with
      | zero => intro i s hi h1 hm; exact absurd hm (Nat.not_lt_zero _)
      | succ fu ih24 =>
        intro i s hi h1 hm
        refine J_iload_n E dX6_status_24 rfl 3 rfl ?_
        refine J_bipush E dX6_status_25 bp_7 ?_
        refine J_icmp_ge E (tgt := 58) dX6_status_27 (by decide) (fun c_27 => ?_) (fun c_27 => ?_)
        · skip
          have n_27 : 7 ≤ i := cmp_le (a := 7) (b := i) (by omega) (by omega) c_27
          refine J_iload_n E dX6_status_58 rfl 2 rfl ?_
          exact ret _ _ _ _ ⟨by rw [h1, if_pos (by omega)], _, rfl, by intro g h2 h5 h6; by_cases h0 : g = 0 <;> simp [tellX, upG, up3, up3R, up2, h0, h2, h5, h6]⟩ rfl dX6_status_59
        · skip
          have n_27 : ¬ 7 ≤ i := cmp_nle (a := 7) (b := i) (by omega) (by omega) c_27
          refine J_iload_n E dX6_status_30 rfl 2 rfl ?_
          refine J_iload_n E dX6_status_31 rfl 1 rfl ?_
          refine J_if_lt E (tgt := 40) dX6_status_32 (by decide) (fun c_32 => ?_) (fun c_32 => ?_)
          · skip
            have n_32 : k < 0 := cmp_lt (a := k) (b := 0) (by omega) (by omega) c_32
            exact absurd n_32 (by omega)
          · skip
            have n_32 : ¬ k < 0 := cmp_nlt (a := k) (b := 0) (by omega) (by omega) c_32
            refine J_iload_n E dX6_status_35 rfl 1 rfl ?_
            refine J_iload_n E dX6_status_36 rfl 3 rfl ?_
            refine J_icmp_ne E (tgt := 49) dX6_status_37 (by decide) (fun c_37 => ?_) (fun c_37 => ?_)
            · skip
              have n_37 : ¬ k = i := cmp_ne (a := k) (b := i) (by omega) (by omega) c_37
              refine J_iconst E dX6_status_49 ic_0 ?_
              refine J_iadd E dX6_status_50 ?_
              refine J_istore_n E (lv' := [(2, .int (s + 0)), (0, .ref (b 0)), (1, .int (nI k)), (3, .int (nI i))]) dX6_status_51 rfl (by decide) rfl ?_
              refine J_iinc E (lv' := [(3, .int (nI (i + 1))), (2, .int (s + 0)), (0, .ref (b 0)), (1, .int (nI k))]) dX6_status_52 3 rfl (nI_inc _) (by decide) rfl ?_
              refine J_goto E (tgt := 24) dX6_status_55 (by decide) ?_
              refine J_lv [2, 3, 1, 0] rfl ?_
              exact ih24 (i + 1) (s + 0) (by omega) (by rw [h1]; first | (subst n_37; rw [if_neg (by omega), if_pos (by omega), Int32.zero_add]) | (by_cases e : k < i <;> [rw [if_pos e, if_pos (by omega), Int32.add_zero]; rw [if_neg e, if_neg (by omega), Int32.add_zero]])) (by omega)
            · skip
              have n_37 : k = i := cmp_eq (a := k) (b := i) (by omega) (by omega) c_37
              refine J_aload_n E dX6_status_40 rfl 0 rfl ?_
              refine gM0_X6_19 E dX6_status_41 ?_
              refine J_iload_n E dX6_status_44 rfl 3 rfl ?_
              refine lM_4 E (j := i) dX6_status_45 (by omega) ?_
              refine J_goto E (tgt := 50) dX6_status_46 (by decide) ?_
              refine J_iadd E dX6_status_50 ?_
              refine J_istore_n E (lv' := [(2, .int (s + (y 3 0 i))), (0, .ref (b 0)), (1, .int (nI k)), (3, .int (nI i))]) dX6_status_51 rfl (by decide) rfl ?_
              refine J_iinc E (lv' := [(3, .int (nI (i + 1))), (2, .int (s + (y 3 0 i))), (0, .ref (b 0)), (1, .int (nI k))]) dX6_status_52 3 rfl (nI_inc _) (by decide) rfl ?_
              refine J_goto E (tgt := 24) dX6_status_55 (by decide) ?_
              refine J_lv [2, 3, 1, 0] rfl ?_
              exact ih24 (i + 1) (s + (y 3 0 i)) (by omega) (by rw [h1]; first | (subst n_37; rw [if_neg (by omega), if_pos (by omega), Int32.zero_add]) | (by_cases e : k < i <;> [rw [if_pos e, if_pos (by omega), Int32.add_zero]; rw [if_neg e, if_neg (by omega), Int32.add_zero]])) (by omega)
    refine J_lv [2, 3, 1, 0] rfl ?_
    exact lp24 _ 0 0 (by omega) rfl (Nat.lt_succ_self _)
  · skip
    have c_11 := bI_0 c_11
    exact absurd ⟨Int32.le_trans (by decide) (nI_pos' (by omega)), nI_le (a := k) (b := 6) (by omega) (by decide)⟩ c_11

set_option maxHeartbeats 4000000 in
set_option maxRecDepth 20000 in
theorem c_X6_status_all (l : Launch) (G : GB) (b : Nat → Nat) (y : Q3)  : CI l yX6_status cX6_status 4 .int 1 25 G [.ref (b 0), .int (-1)] (wM G b y) (fun vR w' => vR = sumF (y 3 0) 7 ∧ PubM G b y w') := by
  refine CI.mk (own := RX6) (by decide) rfl (Nat.le_of_ble_eq_true rfl) ?_
  intro X E ret
  show J X G 4 0 0 (wM G b y) [(0, .ref (b 0)), (1, .int (-1))] 0 []
  refine J_iload_n E dX6_status_0 rfl 1 rfl ?_
  refine J_i2l E dX6_status_1 rfl ?_
  refine J_ldc2 E kl_X6_318 dX6_status_2 ?_
  refine J_ldc2 E kl_X6_62 dX6_status_5 ?_
  refine J_cSiN E (As := [.long (Int32.toInt64 (-1)), .long (-1), .long 6]) (c_X6_in l G (-1) (-1) 6 (-1) 6 (by decide) (by decide) ) cl_X6_54 yo_X6_in dX6_status_8 rfl (Nat.le_of_ble_eq_true rfl) (Nat.le_of_ble_eq_true rfl) rfl (Nat.le_of_ble_eq_true rfl) ⟨Nat.zero_le _, Nat.zero_le _⟩ ?_
  refine J_if_ne E (tgt := 20) dX6_status_11 (by decide) (fun c_11 => ?_) (fun c_11 => ?_)
  · skip
    have c_11 := bI_1 c_11
    refine J_iconst E dX6_status_20 ic_0 ?_
    refine J_istore_n E (lv' := [(2, .int 0), (0, .ref (b 0)), (1, .int (-1))]) dX6_status_21 rfl (by decide) rfl ?_
    refine J_iconst E dX6_status_22 ic_0 ?_
    refine J_istore_n E (lv' := [(3, .int 0), (2, .int 0), (0, .ref (b 0)), (1, .int (-1))]) dX6_status_23 rfl (by decide) rfl ?_
    have lp24 : ∀ (fu : Nat) (i : Nat) (s : Int32), (i ≤ 7) → (s = sumF (y 3 0) i) → 7 - i < fu → J X G 4 0 0 (wM G b y) [(0, .ref (b 0)), (1, .int (-1)), (2, .int s), (3, .int (nI i))] 24 [] := by
      intro fu
      induction fu with
      | zero => intro i s hi h1 hm; exact absurd hm (Nat.not_lt_zero _)
      | succ fu ih24 =>
        intro i s hi h1 hm
        refine J_iload_n E dX6_status_24 rfl 3 rfl ?_
        refine J_bipush E dX6_status_25 bp_7 ?_
        refine J_icmp_ge E (tgt := 58) dX6_status_27 (by decide) (fun c_27 => ?_) (fun c_27 => ?_)
        · skip
          have n_27 : 7 ≤ i := cmp_le (a := 7) (b := i) (by omega) (by omega) c_27
          refine J_iload_n E dX6_status_58 rfl 2 rfl ?_
          exact ret _ _ _ _ ⟨by rw [h1, show i = 7 by omega], _, rfl, by intro g h2 h5 h6; by_cases h0 : g = 0 <;> simp [tellX, upG, up3, up3R, up2, h0, h2, h5, h6]⟩ rfl dX6_status_59
        · skip
          have n_27 : ¬ 7 ≤ i := cmp_nle (a := 7) (b := i) (by omega) (by omega) c_27
          refine J_iload_n E dX6_status_30 rfl 2 rfl ?_
          refine J_iload_n E dX6_status_31 rfl 1 rfl ?_
          refine J_if_lt E (tgt := 40) dX6_status_32 (by decide) (fun c_32 => ?_) (fun c_32 => ?_)
          · skip
            refine J_aload_n E dX6_status_40 rfl 0 rfl ?_
            refine gM0_X6_19 E dX6_status_41 ?_
            refine J_iload_n E dX6_status_44 rfl 3 rfl ?_
            refine lM_4 E (j := i) dX6_status_45 (by omega) ?_
            refine J_goto E (tgt := 50) dX6_status_46 (by decide) ?_
            refine J_iadd E dX6_status_50 ?_
            refine J_istore_n E (lv' := [(2, .int (s + (y 3 0 i))), (0, .ref (b 0)), (1, .int (-1)), (3, .int (nI i))]) dX6_status_51 rfl (by decide) rfl ?_
            refine J_iinc E (lv' := [(3, .int (nI (i + 1))), (2, .int (s + (y 3 0 i))), (0, .ref (b 0)), (1, .int (-1))]) dX6_status_52 3 rfl (nI_inc _) (by decide) rfl ?_
            refine J_goto E (tgt := 24) dX6_status_55 (by decide) ?_
            refine J_lv [2, 3, 1, 0] rfl ?_
            exact ih24 (i + 1) (s + (y 3 0 i)) (by omega) (by rw [h1]; rfl) (by omega)
          · skip
            exact absurd c_32 (by decide)
    refine J_lv [2, 3, 1, 0] rfl ?_
    exact lp24 _ 0 0 (by omega) rfl (Nat.lt_succ_self _)
  · skip
    have c_11 := bI_0 c_11
    exact absurd (by decide) c_11
