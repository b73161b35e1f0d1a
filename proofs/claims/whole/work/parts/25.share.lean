def tellX (x : Q3) (k : Nat) : Q3 := up3 x 3 0 k (x 3 0 k + 1)
def tellR (k : Nat) : Int32 := -1000001 - nI k
/-- but for the trial and the rows of no account -/
def ShC (x y : Q3) : Prop := ∀ g, g ≠ 2 → g ≠ 6 → x g = y g
def PubC (G : GB) (a : Nat → Nat) (x : Q3) (w : va_W) : Prop := ∃ x', w = wC G a x' ∧ ShC x' x
theorem ShC.rfl' {x : Q3} : ShC x x := fun _ _ _ => rfl
def mostF (k : Int32) : Int32 := if k = 0 then 6 else if k = 1 then 9999 else if k = 2 then 99 else if k = 3 then 999 else if k = 4 then 1 else 9999
theorem up3_upG {x : Q3} {g : Nat} {A : Q2} {r j : Nat} {v : Int32} : up3 (upG x g A) g r j v = upG x g (up2 A r j v) := by
  funext g'
  unfold up3 upG
  by_cases h : g' = g
  · simp [h]
  · simp [h]
theorem upG_upG {x : Q3} {g : Nat} {A B : Q2} : upG (upG x g A) g B = upG x g B := by
  funext g'
  unfold upG
  by_cases h : g' = g
  · simp [h]
  · simp [h]
/-- the SPOUTS of a set turned -/
def turnS (q : Q2) (hs : Int32) : Nat → Q2
  | 0 => q
  | n + 1 => up2 (turnS q hs n) 4 n ((turnS q hs n) 4 n ^^^ (hs >>> (nI n &&& 31) &&& 1))
def turnQ (q : Q2) (hs : Int32) : Q2 := turnS q hs 11
def withQ (q : Q2) (k : Nat) (v : Int32) (j : Nat) : Q2 := if k = 6 then up2 q 7 2 v else up2 q k j v
theorem inU_of {x m : Int32} {n : Nat} (hm : m.toInt = n) (h : 0 ≤ x ∧ x ≤ m) : ∃ j : Nat, j ≤ n ∧ x = nI j := nI_of2 hm (Int32.not_lt.mpr h.1) h.2
/-- the greatest of a set, 0 if it is empty: from so many on downwards -/
def lastF (hs : Int32) : Nat → Nat
  | 0 => 0
  | n + 1 => if hs >>> (nI (n + 1) &&& 31) &&& 1 = 0 then lastF hs n else n + 1
theorem lastF_le (hs : Int32) : ∀ n, lastF hs n ≤ n
  | 0 => Nat.le_refl _
  | n + 1 => by
    unfold lastF
    split
    · exact Nat.le_succ_of_le (lastF_le hs n)
    · exact Nat.le_refl _
/-- a range halved, so many times at most -/
def bsF (p : Nat → Bool) : Nat → Nat → Nat → Nat
  | 0, lo, _ => lo
  | f + 1, lo, hi => if lo < hi then (if p ((lo + hi) / 2) then bsF p f lo ((lo + hi) / 2) else bsF p f ((lo + hi) / 2 + 1) hi) else lo
def wetW (q : Q2) (k j m : Nat) (v : Nat) : Int32 := wetR (bitI j) j m (withQ q k (nI v) j)
def leastR (q : Q2) (k most j m : Nat) : Int32 := nI (bsF (fun v => decide (¬ wetW q k j m v = 0)) 10 0 most)
theorem half {a b : Nat} (h : a + b < 2 ^ 31) : (nI a + nI b) / 2 = nI ((a + b) / 2) := by
  rw [nI_add]
  exact pk_div (d := 2) h (by decide) (by decide)
/-- as a sheet tells, from number i on, so many more -/
def seenR (f : Nat → Int32) (j : Nat) : Nat → Nat → Q2 → Int32
  | 0, _, _ => 1
  | n + 1, i, q => if ¬ f i = -1 ∧ ¬ f i = (if 0 < i then hourM q j else q) 1 j then 0 else seenR f j n (i + 1) (if 0 < i then hourM q j else q)
def seenS (f : Nat → Int32) (j : Nat) : Nat → Nat → Q2 → Q2
  | 0, _, q => q
  | n + 1, i, q => if ¬ f i = -1 ∧ ¬ f i = (if 0 < i then hourM q j else q) 1 j then (if 0 < i then hourM q j else q) else seenS f j n (i + 1) (if 0 < i then hourM q j else q)

set_option maxHeartbeats 4000000 in
set_option maxRecDepth 20000 in
theorem c_X5_isUpTo (l : Launch) (G : GB) (v m : Int32) : CI l yX5_isUpTo cX5_isUpTo 2 .boolean 0 0 G [.int v, .int m] ([]) (fun vR w' => vR = bI (0 ≤ v ∧ v ≤ m) ∧ w' = []) := by
  refine CI.mk (own := RX5) (by decide) rfl (Nat.le_of_ble_eq_true rfl) ?_
  intro X E ret
  show J X G 2 0 0 ([]) [(0, .int v), (1, .int m)] 0 []
  refine J_iload_n E dX5_isUpTo_0 rfl 0 rfl ?_
  refine J_if_lt E (tgt := 13) dX5_isUpTo_1 (by decide) (fun c_1 => ?_) (fun c_1 => ?_)
  · skip
    refine J_iconst E dX5_isUpTo_13 ic_0 ?_
    exact ret _ _ _ _ ⟨by first | (rw [bI_t]; exact ⟨Int32.not_lt.mp c_1, Int32.not_lt.mp c_6⟩) | (rw [bI_f]; intro z; first | exact absurd z.1 (Int32.not_le.mpr c_1) | exact absurd z.2 (Int32.not_le.mpr c_6)), rfl⟩ rfl dX5_isUpTo_14
  · skip
    refine J_iload_n E dX5_isUpTo_4 rfl 0 rfl ?_
    refine J_iload_n E dX5_isUpTo_5 rfl 1 rfl ?_
    refine J_icmp_gt E (tgt := 13) dX5_isUpTo_6 (by decide) (fun c_6 => ?_) (fun c_6 => ?_)
    · skip
      refine J_iconst E dX5_isUpTo_13 ic_0 ?_
      exact ret _ _ _ _ ⟨by first | (rw [bI_t]; exact ⟨Int32.not_lt.mp c_1, Int32.not_lt.mp c_6⟩) | (rw [bI_f]; intro z; first | exact absurd z.1 (Int32.not_le.mpr c_1) | exact absurd z.2 (Int32.not_le.mpr c_6)), rfl⟩ rfl dX5_isUpTo_14
    · skip
      refine J_iconst E dX5_isUpTo_9 ic_1 ?_
      refine J_goto E (tgt := 14) dX5_isUpTo_10 (by decide) ?_
      exact ret _ _ _ _ ⟨by first | (rw [bI_t]; exact ⟨Int32.not_lt.mp c_1, Int32.not_lt.mp c_6⟩) | (rw [bI_f]; intro z; first | exact absurd z.1 (Int32.not_le.mpr c_1) | exact absurd z.2 (Int32.not_le.mpr c_6)), rfl⟩ rfl dX5_isUpTo_14

set_option maxHeartbeats 4000000 in
set_option maxRecDepth 20000 in
theorem c_X5_isHouse (l : Launch) (G : GB) (v : Int32) : CI l yX5_isHouse cX5_isHouse 1 .boolean 1 21 G [.int v] ([]) (fun vR w' => vR = bI (0 ≤ v ∧ v ≤ 10) ∧ w' = []) := by
  refine CI.mk (own := RX5) (by decide) rfl (Nat.le_of_ble_eq_true rfl) ?_
  intro X E ret
  show J X G 1 0 0 ([]) [(0, .int v)] 0 []
  refine J_iload_n E dX5_isHouse_0 rfl 0 rfl ?_
  refine J_bipush E dX5_isHouse_1 bp_10 ?_
  refine J_cSiN E (As := [.int v, .int 10]) (c_X5_isUpTo l G v 10 ) cl_X5_56 yo_X5_isUpTo dX5_isHouse_3 rfl (Nat.le_of_ble_eq_true rfl) (Nat.le_of_ble_eq_true rfl) rfl (Nat.le_of_ble_eq_true rfl) ⟨Nat.zero_le _, Nat.zero_le _⟩ ?_
  exact ret _ _ _ _ ⟨rfl, rfl⟩ bI_nar dX5_isHouse_6

set_option maxHeartbeats 4000000 in
set_option maxRecDepth 20000 in
theorem c_X5_isSpot (l : Launch) (G : GB) (v : Int32) : CI l yX5_isSpot cX5_isSpot 1 .boolean 1 21 G [.int v] ([]) (fun vR w' => vR = bI (0 ≤ v ∧ v ≤ 9) ∧ w' = []) := by
  refine CI.mk (own := RX5) (by decide) rfl (Nat.le_of_ble_eq_true rfl) ?_
  intro X E ret
  show J X G 1 0 0 ([]) [(0, .int v)] 0 []
  refine J_iload_n E dX5_isSpot_0 rfl 0 rfl ?_
  refine J_bipush E dX5_isSpot_1 bp_9 ?_
  refine J_cSiN E (As := [.int v, .int 9]) (c_X5_isUpTo l G v 9 ) cl_X5_56 yo_X5_isUpTo dX5_isSpot_3 rfl (Nat.le_of_ble_eq_true rfl) (Nat.le_of_ble_eq_true rfl) rfl (Nat.le_of_ble_eq_true rfl) ⟨Nat.zero_le _, Nat.zero_le _⟩ ?_
  exact ret _ _ _ _ ⟨rfl, rfl⟩ bI_nar dX5_isSpot_6

set_option maxHeartbeats 4000000 in
set_option maxRecDepth 20000 in
theorem c_X5_isSheet (l : Launch) (G : GB) (v : Int32) : CI l yX5_isSheet cX5_isSheet 1 .boolean 1 21 G [.int v] ([]) (fun vR w' => vR = bI (0 ≤ v ∧ v ≤ 3) ∧ w' = []) := by
  refine CI.mk (own := RX5) (by decide) rfl (Nat.le_of_ble_eq_true rfl) ?_
  intro X E ret
  show J X G 1 0 0 ([]) [(0, .int v)] 0 []
  refine J_iload_n E dX5_isSheet_0 rfl 0 rfl ?_
  refine J_iconst E dX5_isSheet_1 ic_3 ?_
  refine J_cSiN E (As := [.int v, .int 3]) (c_X5_isUpTo l G v 3 ) cl_X5_56 yo_X5_isUpTo dX5_isSheet_2 rfl (Nat.le_of_ble_eq_true rfl) (Nat.le_of_ble_eq_true rfl) rfl (Nat.le_of_ble_eq_true rfl) ⟨Nat.zero_le _, Nat.zero_le _⟩ ?_
  exact ret _ _ _ _ ⟨rfl, rfl⟩ bI_nar dX5_isSheet_5

set_option maxHeartbeats 4000000 in
set_option maxRecDepth 20000 in
theorem c_X5_tell (l : Launch) (G : GB) (a : Nat → Nat) (x : Q3) (k : Nat) (hk : k < 7) : CI l yX5_tell cX5_tell 2 .int 0 0 G [.ref (a 0), .int (nI k)] (wC G a x) (fun vR w' => vR = tellR k ∧ w' = wC G a (tellX x k)) := by
  refine CI.mk (own := RX5) (by decide) rfl (Nat.le_of_ble_eq_true rfl) ?_
  intro X E ret
  show J X G 2 0 0 (wC G a x) [(0, .ref (a 0)), (1, .int (nI k))] 0 []
  refine J_aload_n E dX5_tell_0 rfl 0 rfl ?_
  refine gC0_X5_48 E dX5_tell_1 ?_
  refine J_iload_n E dX5_tell_4 rfl 1 rfl ?_
  refine J_dup2 E dX5_tell_5 rfl rfl ?_
  refine lC_26 E (j := k) dX5_tell_6 (by omega) ?_
  refine J_iconst E dX5_tell_7 ic_1 ?_
  refine J_iadd E dX5_tell_8 ?_
  refine sC_26 E (j := k) dX5_tell_9 (by omega) ?_
  refine J_ldc E kn_X5_237 dX5_tell_10 ?_
  refine J_iload_n E dX5_tell_12 rfl 1 rfl ?_
  refine J_isub E dX5_tell_13 ?_
  exact ret _ _ _ _ ⟨rfl, (congrArg (wC G a) (rfl))⟩ rfl dX5_tell_14

set_option maxHeartbeats 4000000 in
set_option maxRecDepth 20000 in
theorem c_X5_mostOf (l : Launch) (G : GB) (k : Int32) : CI l yX5_mostOf cX5_mostOf 1 .int 0 0 G [.int k] ([]) (fun vR w' => vR = mostF k ∧ w' = []) := by
  refine CI.mk (own := RX5) (by decide) rfl (Nat.le_of_ble_eq_true rfl) ?_
  intro X E ret
  show J X G 1 0 0 ([]) [(0, .int k)] 0 []
  refine J_iload_n E dX5_mostOf_0 rfl 0 rfl ?_
  by_cases c_1 : (k).toInt < 0 ∨ 4 < (k).toInt
  · refine J_tabOut E (tgt := 52) dX5_mostOf_1 c_1 (by decide) ?_
    have n_1_0 : ¬ k = 0 := ne_out c_1 (by decide)
    have n_1_1 : ¬ k = 1 := ne_out c_1 (by decide)
    have n_1_2 : ¬ k = 2 := ne_out c_1 (by decide)
    have n_1_3 : ¬ k = 3 := ne_out c_1 (by decide)
    have n_1_4 : ¬ k = 4 := ne_out c_1 (by decide)
    refine J_sipush E dX5_mostOf_52 sp_9999 ?_
    exact ret _ _ _ _ ⟨by simp [mostF, n_1_0, n_1_1, n_1_2, n_1_3, n_1_4], rfl⟩ rfl dX5_mostOf_55
  · rcases sw_0_4 c_1 with i_1 | i_1 | i_1 | i_1 | i_1
    · refine J_top i_1 ?_
      refine J_tabIn E (tgt := 36) (off := 35) dX5_mostOf_1 (by decide) (by decide) rfl (by decide) ?_
      refine J_bipush E dX5_mostOf_36 bp_6 ?_
      exact ret _ _ _ _ ⟨by simp [mostF, i_1], rfl⟩ rfl dX5_mostOf_38
    · refine J_top i_1 ?_
      refine J_tabIn E (tgt := 39) (off := 38) dX5_mostOf_1 (by decide) (by decide) rfl (by decide) ?_
      refine J_sipush E dX5_mostOf_39 sp_9999 ?_
      exact ret _ _ _ _ ⟨by simp [mostF, i_1], rfl⟩ rfl dX5_mostOf_42
    · refine J_top i_1 ?_
      refine J_tabIn E (tgt := 43) (off := 42) dX5_mostOf_1 (by decide) (by decide) rfl (by decide) ?_
      refine J_bipush E dX5_mostOf_43 bp_99 ?_
      exact ret _ _ _ _ ⟨by simp [mostF, i_1], rfl⟩ rfl dX5_mostOf_45
    · refine J_top i_1 ?_
      refine J_tabIn E (tgt := 46) (off := 45) dX5_mostOf_1 (by decide) (by decide) rfl (by decide) ?_
      refine J_sipush E dX5_mostOf_46 sp_999 ?_
      exact ret _ _ _ _ ⟨by simp [mostF, i_1], rfl⟩ rfl dX5_mostOf_49
    · refine J_top i_1 ?_
      refine J_tabIn E (tgt := 50) (off := 49) dX5_mostOf_1 (by decide) (by decide) rfl (by decide) ?_
      refine J_iconst E dX5_mostOf_50 ic_1 ?_
      exact ret _ _ _ _ ⟨by simp [mostF, i_1], rfl⟩ rfl dX5_mostOf_51

set_option maxHeartbeats 4000000 in
set_option maxRecDepth 20000 in
theorem c_X5_lastIn (l : Launch) (G : GB) (hs : Int32) : CI l yX5_lastIn cX5_lastIn 2 .int 0 0 G [.int hs] ([]) (fun vR w' => vR = nI (lastF hs 10) ∧ w' = []) := by
  refine CI.mk (own := RX5) (by decide) rfl (Nat.le_of_ble_eq_true rfl) ?_
  intro X E ret
  show J X G 2 0 0 ([]) [(0, .int hs)] 0 []
  refine J_bipush E dX5_lastIn_0 bp_10 ?_
  refine J_istore_n E (lv' := [(1, .int 10), (0, .int hs)]) dX5_lastIn_2 rfl (by decide) rfl ?_
  have lp3 : ∀ (n : Nat) (i : Nat), i ≤ 10 → lastF hs 10 = lastF hs i → i < n → J X G 2 0 0 ([]) [(0, .int hs), (1, .int (nI i))] 3 [] := by
    intro n
    induction n with
    | zero => intro i hi h1 hm; exact absurd hm (Nat.not_lt_zero _)
    | succ n ih3 =>
      intro i hi h1 hm
      refine J_iload_n E dX5_lastIn_3 rfl 1 rfl ?_
      refine J_if_le E (tgt := 21) dX5_lastIn_4 (by decide) (fun c_4 => ?_) (fun c_4 => ?_)
      · skip
        have n_4 : i ≤ 0 := cmp_le (a := i) (b := 0) (by omega) (by omega) c_4
        refine J_iload_n E dX5_lastIn_21 rfl 1 rfl ?_
        exact ret _ _ _ _ ⟨by first | (rw [h1, show i = 0 by omega]; rfl) | rw [h1, lastF, if_neg c_12], rfl⟩ rfl dX5_lastIn_22
      · skip
        have n_4 : ¬ i ≤ 0 := cmp_nle (a := i) (b := 0) (by omega) (by omega) c_4
        obtain ⟨j, rfl⟩ : ∃ j, i = j + 1 := ⟨i - 1, by omega⟩
        refine J_iload_n E dX5_lastIn_7 rfl 0 rfl ?_
        refine J_iload_n E dX5_lastIn_8 rfl 1 rfl ?_
        refine J_ishr E dX5_lastIn_9 ?_
        refine J_iconst E dX5_lastIn_10 ic_1 ?_
        refine J_iand E dX5_lastIn_11 ?_
        refine J_if_ne E (tgt := 21) dX5_lastIn_12 (by decide) (fun c_12 => ?_) (fun c_12 => ?_)
        · skip
          refine J_iload_n E dX5_lastIn_21 rfl 1 rfl ?_
          exact ret _ _ _ _ ⟨by first | (rw [h1, show i = 0 by omega]; rfl) | rw [h1, lastF, if_neg c_12], rfl⟩ rfl dX5_lastIn_22
        · skip
          refine J_iinc E (lv' := [(1, .int (nI j)), (0, .int hs)]) dX5_lastIn_15 1 rfl (nI_dec _) (by decide) rfl ?_
          refine J_goto E (tgt := 3) dX5_lastIn_18 (by decide) ?_
          refine J_lv [1, 0] rfl ?_
          exact ih3 j (by omega) (by rw [h1, lastF, if_pos c_12]) (by omega)
  refine J_lv [1, 0] rfl ?_
  exact lp3 _ 10 (by omega) rfl (Nat.lt_succ_self _)
