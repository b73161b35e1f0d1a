/-- what a HOUSE of a KIND uses, keeps, loses -/
def useF (k nd hr : Int32) : Int32 :=
  if k = 1 then (if hr - hr / 2 * 2 = 0 then nd else 0)
  else if k = 2 then 2 * nd
  else if k = 3 then mx 0 (2 * nd - 3)
  else if k = 4 then (if hr - hr / 6 * 6 = 5 then mx 0 (2 * nd - 3) else 0)
  else if k = 6 then (if hr - hr / 2 * 2 = 0 then nd else 0) + 1
  else nd
def keepF (k hd nd : Int32) : Int32 := if k = 2 then hd / 2 else if k = 3 ∨ k = 4 then hd / 2 + nd else if k = 6 then hd + 10 else hd
def loseK (k : Int32) : Int32 := if k = 5 then 5 else if k = 2 ∨ k = 3 ∨ k = 4 then 1 else 0
def leadF (q : Q2) (j : Nat) : Int32 := if nI j + 1 + q 4 j ≤ 10 then nI j + 1 + q 4 j else -1
def loseF (q : Q2) (v : Int32) : Q2 := up2 q 7 4 (mn 999999 (q 7 4 + v))
def bringF (q : Q2) (x v : Int32) : Q2 :=
  if x = -1 then up2 q 7 3 (mn 999999 (q 7 3 + v))
  else loseF (up2 q 1 x.toNatClampNeg (mn 9999 (q 1 x.toNatClampNeg + v))) (q 1 x.toNatClampNeg + v - mn 9999 (q 1 x.toNatClampNeg + v))
theorem congr3 (f : Int32 → Int32 → Int32 → Int32) {a b c a' b' c' : Int32} (h1 : a = a') (h2 : b = b') (h3 : c = c') : f a b c = f a' b' c' := by rw [h1, h2, h3]
def drawF (z : Int32) : Int32 := z * 1103515245 + 12345

set_option maxHeartbeats 4000000 in
set_option maxRecDepth 20000 in
theorem c_X0_using (l : Launch) (G : GB) (k nd hr : Int32) : CI l yX0_using cX0_using 5 .int 1 21 G [.int k, .int nd, .int hr] ([]) (fun v w' => v = useF k nd hr ∧ w' = []) := by
  refine CI.mk (own := RX0) (by decide) rfl (Nat.le_of_ble_eq_true rfl) ?_
  intro X E ret
  show J X G 5 0 0 ([]) [(0, .int k), (1, .int nd), (2, .int hr)] 0 []
  refine J_iload_n E dX0_using_0 rfl 2 rfl ?_
  refine J_iconst E dX0_using_1 ic_2 ?_
  refine J_irem E dX0_using_2 (by decide) ?_
  refine J_if_ne E (tgt := 10) dX0_using_3 (by decide) (fun c_3 => ?_) (fun c_3 => ?_)
  · skip
    refine J_iconst E dX0_using_10 ic_0 ?_
    refine J_istore_n E (lv' := [(3, .int 0), (0, .int k), (1, .int nd), (2, .int hr)]) dX0_using_11 rfl (by decide) rfl ?_
    refine J_iconst E dX0_using_12 ic_0 ?_
    refine J_iconst E dX0_using_13 ic_2 ?_
    refine J_iload_n E dX0_using_14 rfl 2 rfl ?_
    refine J_imul E dX0_using_15 ?_
    refine J_iconst E dX0_using_16 ic_3 ?_
    refine J_isub E dX0_using_17 ?_
    refine J_mmax E ml_X0_13 st_mmax ini_J9 co_mmax dX0_using_18 (by decide) (Nat.le_of_ble_eq_true rfl) ⟨Nat.zero_le _, Nat.zero_le _⟩ ?_
    refine J_istore E (lv' := [(4, .int (mx 0 ((2 * nd) - 3))), (3, .int 0), (0, .int k), (1, .int nd), (2, .int hr)]) dX0_using_21 (by decide) rfl ?_
    refine J_iload_n E dX0_using_23 rfl 2 rfl ?_
    by_cases c_24 : (k).toInt < 1 ∨ 6 < (k).toInt
    · refine J_tabOut E (tgt := 92) dX0_using_24 c_24 (by decide) ?_
      have n_24_1 : ¬ k = 1 := ne_out c_24 (by decide)
      have n_24_2 : ¬ k = 2 := ne_out c_24 (by decide)
      have n_24_3 : ¬ k = 3 := ne_out c_24 (by decide)
      have n_24_4 : ¬ k = 4 := ne_out c_24 (by decide)
      have n_24_5 : ¬ k = 5 := ne_out c_24 (by decide)
      have n_24_6 : ¬ k = 6 := ne_out c_24 (by decide)
      refine J_iload_n E dX0_using_92 rfl 3 rfl ?_
      exact ret _ _ _ _ ⟨by simp [useF, c_3, n_24_1, n_24_2, n_24_3, n_24_4, n_24_5, n_24_6], rfl⟩ rfl dX0_using_93
    · rcases sw_1_6 c_24 with i_24 | i_24 | i_24 | i_24 | i_24 | i_24
      · refine J_top i_24 ?_
        refine J_tabIn E (tgt := 64) (off := 40) dX0_using_24 (by decide) (by decide) rfl (by decide) ?_
        refine J_iload_n E dX0_using_64 rfl 1 rfl ?_
        exact ret _ _ _ _ ⟨by simp [useF, c_3, i_24], rfl⟩ rfl dX0_using_65
      · refine J_top i_24 ?_
        refine J_tabIn E (tgt := 70) (off := 46) dX0_using_24 (by decide) (by decide) rfl (by decide) ?_
        refine J_iconst E dX0_using_70 ic_2 ?_
        refine J_iload_n E dX0_using_71 rfl 3 rfl ?_
        refine J_imul E dX0_using_72 ?_
        exact ret _ _ _ _ ⟨by simp [useF, c_3, i_24], rfl⟩ rfl dX0_using_73
      · refine J_top i_24 ?_
        refine J_tabIn E (tgt := 74) (off := 50) dX0_using_24 (by decide) (by decide) rfl (by decide) ?_
        refine J_iload E dX0_using_74 0 rfl ?_
        exact ret _ _ _ _ ⟨by simp [useF, c_3, i_24], rfl⟩ rfl dX0_using_76
      · refine J_top i_24 ?_
        refine J_tabIn E (tgt := 77) (off := 53) dX0_using_24 (by decide) (by decide) rfl (by decide) ?_
        refine J_iload_n E dX0_using_77 rfl 4 rfl ?_
        refine J_bipush E dX0_using_78 bp_6 ?_
        refine J_irem E dX0_using_80 (by decide) ?_
        refine J_iconst E dX0_using_81 ic_5 ?_
        refine J_icmp_ne E (tgt := 90) dX0_using_82 (by decide) (fun c_82 => ?_) (fun c_82 => ?_)
        · skip
          refine J_iconst E dX0_using_90 ic_0 ?_
          exact ret _ _ _ _ ⟨by simp [useF, c_3, i_24, c_82], rfl⟩ rfl dX0_using_91
        · skip
          refine J_iload E dX0_using_85 0 rfl ?_
          refine J_goto E (tgt := 91) dX0_using_87 (by decide) ?_
          exact ret _ _ _ _ ⟨by simp [useF, c_3, i_24, c_82], rfl⟩ rfl dX0_using_91
      · refine J_top i_24 ?_
        refine J_tabIn E (tgt := 92) (off := 68) dX0_using_24 (by decide) (by decide) rfl (by decide) ?_
        refine J_iload_n E dX0_using_92 rfl 3 rfl ?_
        exact ret _ _ _ _ ⟨by simp [useF, c_3, i_24], rfl⟩ rfl dX0_using_93
      · refine J_top i_24 ?_
        refine J_tabIn E (tgt := 66) (off := 42) dX0_using_24 (by decide) (by decide) rfl (by decide) ?_
        refine J_iload_n E dX0_using_66 rfl 1 rfl ?_
        refine J_iconst E dX0_using_67 ic_1 ?_
        refine J_iadd E dX0_using_68 ?_
        exact ret _ _ _ _ ⟨by simp [useF, c_3, i_24], rfl⟩ rfl dX0_using_69
  · skip
    refine J_iload_n E dX0_using_6 rfl 1 rfl ?_
    refine J_goto E (tgt := 11) dX0_using_7 (by decide) ?_
    refine J_istore_n E (lv' := [(3, .int nd), (0, .int k), (1, .int nd), (2, .int hr)]) dX0_using_11 rfl (by decide) rfl ?_
    refine J_iconst E dX0_using_12 ic_0 ?_
    refine J_iconst E dX0_using_13 ic_2 ?_
    refine J_iload_n E dX0_using_14 rfl 2 rfl ?_
    refine J_imul E dX0_using_15 ?_
    refine J_iconst E dX0_using_16 ic_3 ?_
    refine J_isub E dX0_using_17 ?_
    refine J_mmax E ml_X0_13 st_mmax ini_J9 co_mmax dX0_using_18 (by decide) (Nat.le_of_ble_eq_true rfl) ⟨Nat.zero_le _, Nat.zero_le _⟩ ?_
    refine J_istore E (lv' := [(4, .int (mx 0 ((2 * nd) - 3))), (3, .int nd), (0, .int k), (1, .int nd), (2, .int hr)]) dX0_using_21 (by decide) rfl ?_
    refine J_iload_n E dX0_using_23 rfl 2 rfl ?_
    by_cases c_24 : (k).toInt < 1 ∨ 6 < (k).toInt
    · refine J_tabOut E (tgt := 92) dX0_using_24 c_24 (by decide) ?_
      have n_24_1 : ¬ k = 1 := ne_out c_24 (by decide)
      have n_24_2 : ¬ k = 2 := ne_out c_24 (by decide)
      have n_24_3 : ¬ k = 3 := ne_out c_24 (by decide)
      have n_24_4 : ¬ k = 4 := ne_out c_24 (by decide)
      have n_24_5 : ¬ k = 5 := ne_out c_24 (by decide)
      have n_24_6 : ¬ k = 6 := ne_out c_24 (by decide)
      refine J_iload_n E dX0_using_92 rfl 3 rfl ?_
      exact ret _ _ _ _ ⟨by simp [useF, c_3, n_24_1, n_24_2, n_24_3, n_24_4, n_24_5, n_24_6], rfl⟩ rfl dX0_using_93
    · rcases sw_1_6 c_24 with i_24 | i_24 | i_24 | i_24 | i_24 | i_24
      · refine J_top i_24 ?_
        refine J_tabIn E (tgt := 64) (off := 40) dX0_using_24 (by decide) (by decide) rfl (by decide) ?_
        refine J_iload_n E dX0_using_64 rfl 1 rfl ?_
        exact ret _ _ _ _ ⟨by simp [useF, c_3, i_24], rfl⟩ rfl dX0_using_65
      · refine J_top i_24 ?_
        refine J_tabIn E (tgt := 70) (off := 46) dX0_using_24 (by decide) (by decide) rfl (by decide) ?_
        refine J_iconst E dX0_using_70 ic_2 ?_
        refine J_iload_n E dX0_using_71 rfl 3 rfl ?_
        refine J_imul E dX0_using_72 ?_
        exact ret _ _ _ _ ⟨by simp [useF, c_3, i_24], rfl⟩ rfl dX0_using_73
      · refine J_top i_24 ?_
        refine J_tabIn E (tgt := 74) (off := 50) dX0_using_24 (by decide) (by decide) rfl (by decide) ?_
        refine J_iload E dX0_using_74 0 rfl ?_
        exact ret _ _ _ _ ⟨by simp [useF, c_3, i_24], rfl⟩ rfl dX0_using_76
      · refine J_top i_24 ?_
        refine J_tabIn E (tgt := 77) (off := 53) dX0_using_24 (by decide) (by decide) rfl (by decide) ?_
        refine J_iload_n E dX0_using_77 rfl 4 rfl ?_
        refine J_bipush E dX0_using_78 bp_6 ?_
        refine J_irem E dX0_using_80 (by decide) ?_
        refine J_iconst E dX0_using_81 ic_5 ?_
        refine J_icmp_ne E (tgt := 90) dX0_using_82 (by decide) (fun c_82 => ?_) (fun c_82 => ?_)
        · skip
          refine J_iconst E dX0_using_90 ic_0 ?_
          exact ret _ _ _ _ ⟨by simp [useF, c_3, i_24, c_82], rfl⟩ rfl dX0_using_91
        · skip
          refine J_iload E dX0_using_85 0 rfl ?_
          refine J_goto E (tgt := 91) dX0_using_87 (by decide) ?_
          exact ret _ _ _ _ ⟨by simp [useF, c_3, i_24, c_82], rfl⟩ rfl dX0_using_91
      · refine J_top i_24 ?_
        refine J_tabIn E (tgt := 92) (off := 68) dX0_using_24 (by decide) (by decide) rfl (by decide) ?_
        refine J_iload_n E dX0_using_92 rfl 3 rfl ?_
        exact ret _ _ _ _ ⟨by simp [useF, c_3, i_24], rfl⟩ rfl dX0_using_93
      · refine J_top i_24 ?_
        refine J_tabIn E (tgt := 66) (off := 42) dX0_using_24 (by decide) (by decide) rfl (by decide) ?_
        refine J_iload_n E dX0_using_66 rfl 1 rfl ?_
        refine J_iconst E dX0_using_67 ic_1 ?_
        refine J_iadd E dX0_using_68 ?_
        exact ret _ _ _ _ ⟨by simp [useF, c_3, i_24], rfl⟩ rfl dX0_using_69

set_option maxHeartbeats 4000000 in
set_option maxRecDepth 20000 in
theorem c_X0_keeping (l : Launch) (G : GB) (k hd nd : Int32) : CI l yX0_keeping cX0_keeping 3 .int 0 0 G [.int k, .int hd, .int nd] ([]) (fun v w' => v = keepF k hd nd ∧ w' = []) := by
  refine CI.mk (own := RX0) (by decide) rfl (Nat.le_of_ble_eq_true rfl) ?_
  intro X E ret
  show J X G 3 0 0 ([]) [(0, .int k), (1, .int hd), (2, .int nd)] 0 []
  refine J_iload_n E dX0_keeping_0 rfl 0 rfl ?_
  by_cases c_1 : (k).toInt < 2 ∨ 6 < (k).toInt
  · refine J_tabOut E (tgt := 51) dX0_keeping_1 c_1 (by decide) ?_
    have n_1_2 : ¬ k = 2 := ne_out c_1 (by decide)
    have n_1_3 : ¬ k = 3 := ne_out c_1 (by decide)
    have n_1_4 : ¬ k = 4 := ne_out c_1 (by decide)
    have n_1_5 : ¬ k = 5 := ne_out c_1 (by decide)
    have n_1_6 : ¬ k = 6 := ne_out c_1 (by decide)
    refine J_iload_n E dX0_keeping_51 rfl 1 rfl ?_
    exact ret _ _ _ _ ⟨by simp [keepF, n_1_2, n_1_3, n_1_4, n_1_5, n_1_6], rfl⟩ rfl dX0_keeping_52
  · rcases sw_2_6 c_1 with i_1 | i_1 | i_1 | i_1 | i_1
    · refine J_top i_1 ?_
      refine J_tabIn E (tgt := 41) (off := 40) dX0_keeping_1 (by decide) (by decide) rfl (by decide) ?_
      refine J_iload_n E dX0_keeping_41 rfl 1 rfl ?_
      refine J_iconst E dX0_keeping_42 ic_2 ?_
      refine J_idiv E dX0_keeping_43 (by decide) ?_
      exact ret _ _ _ _ ⟨by simp [keepF, i_1], rfl⟩ rfl dX0_keeping_44
    · refine J_top i_1 ?_
      refine J_tabIn E (tgt := 45) (off := 44) dX0_keeping_1 (by decide) (by decide) rfl (by decide) ?_
      refine J_iload_n E dX0_keeping_45 rfl 1 rfl ?_
      refine J_iconst E dX0_keeping_46 ic_2 ?_
      refine J_idiv E dX0_keeping_47 (by decide) ?_
      refine J_iload_n E dX0_keeping_48 rfl 2 rfl ?_
      refine J_iadd E dX0_keeping_49 ?_
      exact ret _ _ _ _ ⟨by simp [keepF, i_1], rfl⟩ rfl dX0_keeping_50
    · refine J_top i_1 ?_
      refine J_tabIn E (tgt := 45) (off := 44) dX0_keeping_1 (by decide) (by decide) rfl (by decide) ?_
      refine J_iload_n E dX0_keeping_45 rfl 1 rfl ?_
      refine J_iconst E dX0_keeping_46 ic_2 ?_
      refine J_idiv E dX0_keeping_47 (by decide) ?_
      refine J_iload_n E dX0_keeping_48 rfl 2 rfl ?_
      refine J_iadd E dX0_keeping_49 ?_
      exact ret _ _ _ _ ⟨by simp [keepF, i_1], rfl⟩ rfl dX0_keeping_50
    · refine J_top i_1 ?_
      refine J_tabIn E (tgt := 51) (off := 50) dX0_keeping_1 (by decide) (by decide) rfl (by decide) ?_
      refine J_iload_n E dX0_keeping_51 rfl 1 rfl ?_
      exact ret _ _ _ _ ⟨by simp [keepF, i_1], rfl⟩ rfl dX0_keeping_52
    · refine J_top i_1 ?_
      refine J_tabIn E (tgt := 36) (off := 35) dX0_keeping_1 (by decide) (by decide) rfl (by decide) ?_
      refine J_iload_n E dX0_keeping_36 rfl 1 rfl ?_
      refine J_bipush E dX0_keeping_37 bp_10 ?_
      refine J_iadd E dX0_keeping_39 ?_
      exact ret _ _ _ _ ⟨by simp [keepF, i_1], rfl⟩ rfl dX0_keeping_40

set_option maxHeartbeats 4000000 in
set_option maxRecDepth 20000 in
theorem c_X0_losing (l : Launch) (G : GB) (k : Int32) : CI l yX0_losing cX0_losing 1 .int 0 0 G [.int k] ([]) (fun v w' => v = loseK k ∧ w' = []) := by
  refine CI.mk (own := RX0) (by decide) rfl (Nat.le_of_ble_eq_true rfl) ?_
  intro X E ret
  show J X G 1 0 0 ([]) [(0, .int k)] 0 []
  refine J_iload_n E dX0_losing_0 rfl 0 rfl ?_
  by_cases c_1 : (k).toInt < 2 ∨ 5 < (k).toInt
  · refine J_tabOut E (tgt := 36) dX0_losing_1 c_1 (by decide) ?_
    have n_1_2 : ¬ k = 2 := ne_out c_1 (by decide)
    have n_1_3 : ¬ k = 3 := ne_out c_1 (by decide)
    have n_1_4 : ¬ k = 4 := ne_out c_1 (by decide)
    have n_1_5 : ¬ k = 5 := ne_out c_1 (by decide)
    refine J_iconst E dX0_losing_36 ic_0 ?_
    exact ret _ _ _ _ ⟨by simp [loseK, n_1_2, n_1_3, n_1_4, n_1_5], rfl⟩ rfl dX0_losing_37
  · rcases sw_2_5 c_1 with i_1 | i_1 | i_1 | i_1
    · refine J_top i_1 ?_
      refine J_tabIn E (tgt := 34) (off := 33) dX0_losing_1 (by decide) (by decide) rfl (by decide) ?_
      refine J_iconst E dX0_losing_34 ic_1 ?_
      exact ret _ _ _ _ ⟨by simp [loseK, i_1], rfl⟩ rfl dX0_losing_35
    · refine J_top i_1 ?_
      refine J_tabIn E (tgt := 34) (off := 33) dX0_losing_1 (by decide) (by decide) rfl (by decide) ?_
      refine J_iconst E dX0_losing_34 ic_1 ?_
      exact ret _ _ _ _ ⟨by simp [loseK, i_1], rfl⟩ rfl dX0_losing_35
    · refine J_top i_1 ?_
      refine J_tabIn E (tgt := 34) (off := 33) dX0_losing_1 (by decide) (by decide) rfl (by decide) ?_
      refine J_iconst E dX0_losing_34 ic_1 ?_
      exact ret _ _ _ _ ⟨by simp [loseK, i_1], rfl⟩ rfl dX0_losing_35
    · refine J_top i_1 ?_
      refine J_tabIn E (tgt := 32) (off := 31) dX0_losing_1 (by decide) (by decide) rfl (by decide) ?_
      refine J_iconst E dX0_losing_32 ic_5 ?_
      exact ret _ _ _ _ ⟨by simp [loseK, i_1], rfl⟩ rfl dX0_losing_33

set_option maxHeartbeats 4000000 in
set_option maxRecDepth 20000 in
theorem c_X1_usesOf (l : Launch) (G : GB) (h : Nat → Nat) (q : Q2) (j : Nat) (hj : j < 11) : CI l yX1_usesOf cX1_usesOf 2 .int 2 45 G [.ref (h 0), .int (nI j)] (wQ G h q) (fun v w' => v = useF (q 0 j) (q 2 j) (q 7 0) ∧ w' = wQ G h q) := by
  refine CI.mk (own := RX1) (by decide) rfl (Nat.le_of_ble_eq_true rfl) ?_
  intro X E ret
  show J X G 2 0 0 (wQ G h q) [(0, .ref (h 0)), (1, .int (nI j))] 0 []
  refine J_aload_n E dX1_usesOf_0 rfl 0 rfl ?_
  refine gQ0_X1_9 E dX1_usesOf_1 ?_
  refine J_iload_n E dX1_usesOf_4 rfl 1 rfl ?_
  refine lQ_1 E (j := j) dX1_usesOf_5 (by omega) ?_
  refine J_aload_n E dX1_usesOf_6 rfl 0 rfl ?_
  refine gQ0_X1_18 E dX1_usesOf_7 ?_
  refine J_iload_n E dX1_usesOf_10 rfl 1 rfl ?_
  refine lQ_3 E (j := j) dX1_usesOf_11 (by omega) ?_
  refine J_aload_n E dX1_usesOf_12 rfl 0 rfl ?_
  refine gQ0_X1_58 E dX1_usesOf_13 ?_
  refine J_cSiN E (As := [.int (q 0 j), .int (q 2 j), .int (q 7 0)]) (c_X0_using l G (q 0 j) (q 2 j) (q 7 0) ) cl_X1_61 yo_X0_using dX1_usesOf_16 rfl (Nat.le_of_ble_eq_true rfl) (Nat.le_of_ble_eq_true rfl) rfl (Nat.le_of_ble_eq_true rfl) ⟨Nat.zero_le _, Nat.zero_le _⟩ ?_
  exact ret _ _ _ _ ⟨rfl, (congrArg (wQ G h) (rfl))⟩ rfl dX1_usesOf_19

set_option maxHeartbeats 4000000 in
set_option maxRecDepth 20000 in
theorem c_X1_keepsOf (l : Launch) (G : GB) (h : Nat → Nat) (q : Q2) (j : Nat) (hj : j < 11) : CI l yX1_keepsOf cX1_keepsOf 2 .int 1 22 G [.ref (h 0), .int (nI j)] (wQ G h q) (fun v w' => v = keepF (q 0 j) (q 3 j) (q 2 j) ∧ w' = wQ G h q) := by
  refine CI.mk (own := RX1) (by decide) rfl (Nat.le_of_ble_eq_true rfl) ?_
  intro X E ret
  show J X G 2 0 0 (wQ G h q) [(0, .ref (h 0)), (1, .int (nI j))] 0 []
  refine J_aload_n E dX1_keepsOf_0 rfl 0 rfl ?_
  refine gQ0_X1_9 E dX1_keepsOf_1 ?_
  refine J_iload_n E dX1_keepsOf_4 rfl 1 rfl ?_
  refine lQ_1 E (j := j) dX1_keepsOf_5 (by omega) ?_
  refine J_aload_n E dX1_keepsOf_6 rfl 0 rfl ?_
  refine gQ0_X1_21 E dX1_keepsOf_7 ?_
  refine J_iload_n E dX1_keepsOf_10 rfl 1 rfl ?_
  refine lQ_4 E (j := j) dX1_keepsOf_11 (by omega) ?_
  refine J_aload_n E dX1_keepsOf_12 rfl 0 rfl ?_
  refine gQ0_X1_18 E dX1_keepsOf_13 ?_
  refine J_iload_n E dX1_keepsOf_16 rfl 1 rfl ?_
  refine lQ_3 E (j := j) dX1_keepsOf_17 (by omega) ?_
  refine J_cSiN E (As := [.int (q 0 j), .int (q 3 j), .int (q 2 j)]) (c_X0_keeping l G (q 0 j) (q 3 j) (q 2 j) ) cl_X1_67 yo_X0_keeping dX1_keepsOf_18 rfl (Nat.le_of_ble_eq_true rfl) (Nat.le_of_ble_eq_true rfl) rfl (Nat.le_of_ble_eq_true rfl) ⟨Nat.zero_le _, Nat.zero_le _⟩ ?_
  exact ret _ _ _ _ ⟨rfl, (congrArg (wQ G h) (rfl))⟩ rfl dX1_keepsOf_21

set_option maxHeartbeats 4000000 in
set_option maxRecDepth 20000 in
theorem c_X1_leadsTo (l : Launch) (G : GB) (h : Nat → Nat) (q : Q2) (j : Nat) (hj : j < 11) : CI l yX1_leadsTo cX1_leadsTo 3 .int 0 0 G [.ref (h 0), .int (nI j)] (wQ G h q) (fun v w' => v = leadF q j ∧ w' = wQ G h q) := by
  refine CI.mk (own := RX1) (by decide) rfl (Nat.le_of_ble_eq_true rfl) ?_
  intro X E ret
  show J X G 3 0 0 (wQ G h q) [(0, .ref (h 0)), (1, .int (nI j))] 0 []
  refine J_iload_n E dX1_leadsTo_0 rfl 1 rfl ?_
  refine J_iconst E dX1_leadsTo_1 ic_1 ?_
  refine J_iadd E dX1_leadsTo_2 ?_
  refine J_aload_n E dX1_leadsTo_3 rfl 0 rfl ?_
  refine gQ0_X1_24 E dX1_leadsTo_4 ?_
  refine J_iload_n E dX1_leadsTo_7 rfl 1 rfl ?_
  refine lQ_5 E (j := j) dX1_leadsTo_8 (by omega) ?_
  refine J_iadd E dX1_leadsTo_9 ?_
  refine J_istore_n E (lv' := [(2, .int (((nI j) + 1) + (q 4 j))), (0, .ref (h 0)), (1, .int (nI j))]) dX1_leadsTo_10 rfl (by decide) rfl ?_
  refine J_iload_n E dX1_leadsTo_11 rfl 0 rfl ?_
  refine J_bipush E dX1_leadsTo_12 bp_10 ?_
  refine J_icmp_gt E (tgt := 21) dX1_leadsTo_14 (by decide) (fun c_14 => ?_) (fun c_14 => ?_)
  · skip
    refine J_iconst E dX1_leadsTo_21 ic_m1 ?_
    exact ret _ _ _ _ ⟨by first | (simp [leadF, c_14]; done) | rw [leadF, if_neg (Int32.not_le.mpr c_14)], (congrArg (wQ G h) (rfl))⟩ rfl dX1_leadsTo_22
  · skip
    refine J_iload_n E dX1_leadsTo_17 rfl 0 rfl ?_
    refine J_goto E (tgt := 22) dX1_leadsTo_18 (by decide) ?_
    exact ret _ _ _ _ ⟨by first | (simp [leadF, c_14]; done) | rw [leadF, if_neg (Int32.not_le.mpr c_14)], (congrArg (wQ G h) (rfl))⟩ rfl dX1_leadsTo_22

set_option maxHeartbeats 4000000 in
set_option maxRecDepth 20000 in
theorem c_X1_draw (l : Launch) (G : GB) (h : Nat → Nat) (q : Q2)  : CI l yX1_draw cX1_draw 1 .int 0 0 G [.ref (h 0)] (wQ G h q) (fun v w' => v = ((drawF (q 7 1)).toUInt32 >>> ((8 : Int32).toUInt32 &&& Int32.toUInt32 31)).toInt32 ∧ w' = wQ G h (up2 q 7 1 (drawF (q 7 1)))) := by
  refine CI.mk (own := RX1) (by decide) rfl (Nat.le_of_ble_eq_true rfl) ?_
  intro X E ret
  show J X G 1 0 0 (wQ G h q) [(0, .ref (h 0))] 0 []
  refine J_aload_n E dX1_draw_0 rfl 0 rfl ?_
  refine J_aload_n E dX1_draw_1 rfl 0 rfl ?_
  refine gQ0_X1_37 E dX1_draw_2 ?_
  refine J_ldc E kn_X1_70 dX1_draw_5 ?_
  refine J_imul E dX1_draw_7 ?_
  refine J_sipush E dX1_draw_8 sp_12345 ?_
  refine J_iadd E dX1_draw_11 ?_
  refine pQ0_X1_37 E dX1_draw_12 ?_
  refine J_aload_n E dX1_draw_15 rfl 0 rfl ?_
  refine gQ0_X1_37 E dX1_draw_16 ?_
  refine J_top (x' := ((q 7 1) * 1103515245) + 12345) up2_s ?_
  refine J_bipush E dX1_draw_19 bp_8 ?_
  refine J_iushr E dX1_draw_21 rfl ?_
  exact ret _ _ _ _ ⟨rfl, (congrArg (wQ G h) (rfl))⟩ rfl dX1_draw_22

set_option maxHeartbeats 4000000 in
set_option maxRecDepth 20000 in
theorem c_X1_lose (l : Launch) (G : GB) (h : Nat → Nat) (q : Q2) (v : Int32) : CV l yX1_lose cX1_lose 2 1 21 0 0 G [.ref (h 0), .int v] (wQ G h q) (fun w' => w' = wQ G h (loseF q v)) := by
  refine CV.mk (own := RX1) (by decide) rfl (Nat.le_of_ble_eq_true rfl) ?_
  intro X E _ _ _ ret
  show J X G 2 0 0 (wQ G h q) [(0, .ref (h 0)), (1, .int v)] 0 []
  refine J_aload_n E dX1_lose_0 rfl 0 rfl ?_
  refine J_ldc E kn_X1_71 dX1_lose_1 ?_
  refine J_aload_n E dX1_lose_3 rfl 0 rfl ?_
  refine gQ0_X1_55 E dX1_lose_4 ?_
  refine J_iload_n E dX1_lose_7 rfl 1 rfl ?_
  refine J_iadd E dX1_lose_8 ?_
  refine J_mmin E ml_X1_72 st_mmin ini_J9 co_mmin dX1_lose_9 (by decide) (Nat.le_of_ble_eq_true rfl) ⟨Nat.zero_le _, Nat.zero_le _⟩ ?_
  refine pQ0_X1_55 E dX1_lose_12 ?_
  exact ret _ _ _ (congrArg (wQ G h) (rfl)) dX1_lose_15

set_option maxHeartbeats 4000000 in
set_option maxRecDepth 20000 in
theorem c_X1_bring (l : Launch) (G : GB) (h : Nat → Nat) (q : Q2) (x v : Int32) (hin : x = -1 ∨ vp_in x 11) : CV l yX1_bring cX1_bring 4 2 42 0 0 G [.ref (h 0), .int x, .int v] (wQ G h q) (fun w' => w' = wQ G h (bringF q x v)) := by
  refine CV.mk (own := RX1) (by decide) rfl (Nat.le_of_ble_eq_true rfl) ?_
  intro X E _ _ _ ret
  show J X G 4 0 0 (wQ G h q) [(0, .ref (h 0)), (1, .int x), (2, .int v)] 0 []
  refine J_iload_n E dX1_bring_0 rfl 1 rfl ?_
  refine J_iconst E dX1_bring_1 ic_m1 ?_
  refine J_icmp_ne E (tgt := 21) dX1_bring_2 (by decide) (fun c_2 => ?_) (fun c_2 => ?_)
  · skip
    have hin : vp_in x 11 := hin.resolve_left c_2
    refine J_aload_n E dX1_bring_21 rfl 0 rfl ?_
    refine gQ0_X1_15 E dX1_bring_22 ?_
    refine J_iload_n E dX1_bring_25 rfl 1 rfl ?_
    refine liQ_2 E dX1_bring_26 hin ?_
    refine J_iload_n E dX1_bring_27 rfl 2 rfl ?_
    refine J_iadd E dX1_bring_28 ?_
    refine J_istore_n E (lv' := [(3, .int ((q 1 x.toNatClampNeg) + v)), (0, .ref (h 0)), (1, .int x), (2, .int v)]) dX1_bring_29 rfl (by decide) rfl ?_
    refine J_aload_n E dX1_bring_30 rfl 1 rfl ?_
    refine gQ0_X1_15 E dX1_bring_31 ?_
    refine J_iload_n E dX1_bring_34 rfl 2 rfl ?_
    refine J_sipush E dX1_bring_35 sp_9999 ?_
    refine J_iload_n E dX1_bring_38 rfl 0 rfl ?_
    refine J_mmin E ml_X1_72 st_mmin ini_J9 co_mmin dX1_bring_39 (by decide) (Nat.le_of_ble_eq_true rfl) ⟨Nat.zero_le _, Nat.zero_le _⟩ ?_
    refine siQ_2 E dX1_bring_42 hin ?_
    refine J_aload_n E dX1_bring_43 rfl 1 rfl ?_
    refine J_iload_n E dX1_bring_44 rfl 0 rfl ?_
    refine J_aload_n E dX1_bring_45 rfl 1 rfl ?_
    refine gQ0_X1_15 E dX1_bring_46 ?_
    refine J_iload_n E dX1_bring_49 rfl 2 rfl ?_
    refine liQ_2 E dX1_bring_50 hin ?_
    refine J_top (x' := mn 9999 ((q 1 x.toNatClampNeg) + v)) up2_s ?_
    refine J_isub E dX1_bring_51 ?_
    refine J_cVv0 E (As := [.int (((q 1 x.toNatClampNeg) + v) - (mn 9999 ((q 1 x.toNatClampNeg) + v)))]) (c_X1_lose l G h (up2 q 1 x.toNatClampNeg (mn 9999 ((q 1 x.toNatClampNeg) + v))) (((q 1 x.toNatClampNeg) + v) - (mn 9999 ((q 1 x.toNatClampNeg) + v))) ) cl_X1_78 yo_X1_lose dX1_bring_52 rfl rfl rfl (Nat.le_of_ble_eq_true rfl) (Nat.le_of_ble_eq_true rfl) rfl (Nat.le_of_ble_eq_true rfl) ⟨Nat.zero_le _, Nat.zero_le _⟩ ?_
    exact ret _ _ _ (congrArg (wQ G h) (by simp [bringF, c_2])) dX1_bring_55
  · skip
    refine J_aload_n E dX1_bring_5 rfl 0 rfl ?_
    refine J_ldc E kn_X1_71 dX1_bring_6 ?_
    refine J_aload_n E dX1_bring_8 rfl 0 rfl ?_
    refine gQ0_X1_52 E dX1_bring_9 ?_
    refine J_iload_n E dX1_bring_12 rfl 2 rfl ?_
    refine J_iadd E dX1_bring_13 ?_
    refine J_mmin E ml_X1_72 st_mmin ini_J9 co_mmin dX1_bring_14 (by decide) (Nat.le_of_ble_eq_true rfl) ⟨Nat.zero_le _, Nat.zero_le _⟩ ?_
    refine pQ0_X1_52 E dX1_bring_17 ?_
    exact ret _ _ _ (congrArg (wQ G h) (by simp [bringF, c_2])) dX1_bring_20
