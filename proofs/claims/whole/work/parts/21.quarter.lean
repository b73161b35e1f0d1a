def sumF (f : Nat → Int32) : Nat → Int32
  | 0 => 0
  | n + 1 => sumF f n + f n
def bitI (j : Nat) : Int32 := 1 <<< (nI j &&& 31)
/-- the set of those below n that p names -/
def setF (p : Nat → Bool) : Nat → Int32
  | 0 => 0
  | n + 1 => if p n then setF p n ||| bitI n else setF p n
def cntF (p : Nat → Bool) : Nat → Int32
  | 0 => 0
  | n + 1 => if p n then cntF p n + 1 else cntF p n
def spoF (q : Q2) : Nat → Int32
  | 0 => 0
  | n + 1 => spoF q n ||| q 4 n <<< (nI n &&& 31)
/-- one HOUSE of AN HOUR, as the class goes through it -/
def leftF (q : Q2) (j : Nat) : Int32 := q 1 j - useF (q 0 j) (q 2 j) (q 7 0)
def stepB (q : Q2) (j : Nat) (left kp lk ld : Int32) : Q2 := bringF (loseF (up2 q 1 j (mn left kp)) (mn (left - mn left kp) lk)) ld (left - mn left kp - mn (left - mn left kp) lk)
def stepS (q : Q2) (j : Nat) : Q2 := if leftF q j < 0 then stepB (up2 q 5 j (mn 9999 (q 5 j + 1))) j 0 (keepF (q 0 j) (q 3 j) (q 2 j)) (loseK (q 0 j)) (leadF q j) else stepB q j (leftF q j) (keepF (q 0 j) (q 3 j) (q 2 j)) (loseK (q 0 j)) (leadF q j)
def stepD (q : Q2) (j : Nat) (d : Int32) : Int32 := if leftF q j < 0 then d ||| bitI j else d
/-- behind k of the HOUSES last, last - 1, .. -/
def phS (q : Q2) (last : Nat) : Nat → Q2
  | 0 => bringF q 0 (q 7 2)
  | k + 1 => stepS (phS q last k) (last - k)
def phD (q : Q2) (last : Nat) : Nat → Int32
  | 0 => 0
  | k + 1 => stepD (phS q last k) (last - k) (phD q last k)
def hourM (q : Q2) (last : Nat) : Q2 := up2 (phS q last (last + 1)) 7 0 (mn 99999 ((phS q last (last + 1)) 7 0 + 1))
def dryM (q : Q2) (last : Nat) : Int32 := phD q last (last + 1)
def hoursM (q : Q2) (last : Nat) : Nat → Q2
  | 0 => q
  | k + 1 => hourM (hoursM q last k) last
def drysM (q : Q2) (last : Nat) : Nat → Int32
  | 0 => 0
  | k + 1 => drysM q last k ||| dryM (hoursM q last k) last
def wetR (hs : Int32) (last : Nat) : Nat → Q2 → Int32
  | 0, _ => 1
  | k + 1, q => if dryM q last &&& hs = 0 then wetR hs last k (hourM q last) else 0
def wetS (hs : Int32) (last : Nat) : Nat → Q2 → Q2
  | 0, q => q
  | k + 1, q => if dryM q last &&& hs = 0 then wetS hs last k (hourM q last) else hourM q last
def spOk (q : Q2) : Prop := ∀ j, j < 11 → q 4 j = 0 ∨ q 4 j = 1
theorem bringF_4 (q : Q2) (x v : Int32) : bringF q x v 4 = q 4 := by
  unfold bringF loseF
  split <;> simp [up2]
theorem loseF_4 (q : Q2) (v : Int32) : loseF q v 4 = q 4 := by simp [loseF, up2]
theorem stepB_4 (q : Q2) (j : Nat) (l a b c : Int32) : stepB q j l a b c 4 = q 4 := by simp [stepB, bringF_4, loseF_4, up2]
theorem stepS_4 (q : Q2) (j : Nat) : stepS q j 4 = q 4 := by
  unfold stepS
  split <;> simp [stepB_4, up2]
theorem phS_4 (q : Q2) (last k : Nat) : phS q last k 4 = q 4 := by
  induction k with
  | zero => simp [phS, bringF_4]
  | succ k ih => simp [phS, stepS_4, ih]
theorem hourM_4 (q : Q2) (last : Nat) : hourM q last 4 = q 4 := by simp [hourM, up2, phS_4]
theorem hoursM_4 (q : Q2) (last k : Nat) : hoursM q last k 4 = q 4 := by
  induction k with
  | zero => rfl
  | succ k ih => simp [hoursM, hourM_4, ih]
theorem hoursM_sp {q : Q2} (h : spOk q) (last k : Nat) : spOk (hoursM q last k) := by
  intro j hj
  rw [hoursM_4]
  exact h j hj
theorem hourM_sp {q : Q2} (h : spOk q) (last : Nat) : spOk (hourM q last) := by
  intro j hj
  rw [hourM_4]
  exact h j hj
theorem leadF_in {q : Q2} (h : spOk q) {j : Nat} (hj : j < 11) : leadF q j = -1 ∨ vp_in (leadF q j) 11 := by
  unfold leadF
  split
  · rename_i hle
    right
    rcases h j hj with e | e
    · rw [e] at hle ⊢
      have e1 : nI j + 1 + 0 = nI (j + 1) := by rw [nI_1, Int32.add_zero]
      rw [e1] at hle ⊢
      have := cmp_le (a := j + 1) (b := 10) (by omega) (by omega) hle
      exact vp_in_nI (by omega) (by decide)
    · rw [e] at hle ⊢
      rw [nI_1, nI_1] at hle ⊢
      have := cmp_le (a := j + 1 + 1) (b := 10) (by omega) (by omega) hle
      exact vp_in_nI (by omega) (by decide)
  · left; rfl
theorem leadF_c {q q' : Q2} (h : q' 4 = q 4) (j : Nat) : leadF q' j = leadF q j := by simp [leadF, h]
theorem stepS_t {q : Q2} {j : Nat} (h : leftF q j < 0) : stepS q j = stepB (up2 q 5 j (mn 9999 (q 5 j + 1))) j 0 (keepF (q 0 j) (q 3 j) (q 2 j)) (loseK (q 0 j)) (leadF q j) := if_pos h
theorem stepS_f {q : Q2} {j : Nat} (h : ¬ leftF q j < 0) : stepS q j = stepB q j (leftF q j) (keepF (q 0 j) (q 3 j) (q 2 j)) (loseK (q 0 j)) (leadF q j) := if_neg h
theorem dec_pos {x : Int32} {i : Nat} (hx : x = nI i + (-1)) (hi : i < 2 ^ 31) (h : ¬ x < 0) : ∃ j, i = j + 1 ∧ x = nI j := by
  cases i with
  | zero => exact absurd (by rw [hx]; decide) h
  | succ j => exact ⟨j, rfl, by rw [hx, pk_m1]⟩
theorem dec_neg {x : Int32} {i : Nat} (hx : x = nI i + (-1)) (hi : i < 2 ^ 31) (h : x < 0) : i = 0 := by
  cases i with
  | zero => rfl
  | succ j =>
    rw [hx, pk_m1] at h
    exact absurd h (nI_pos (by omega))

set_option maxHeartbeats 4000000 in
set_option maxRecDepth 20000 in
theorem c_X1_row (l : Launch) (G : GB) (h : Nat → Nat) (q : Q2) (k : Nat) (hk : k < 6) : CR l yX1_row cX1_row 2 (.array .int) 0 0 G [.ref (h 0), .int (nI k)] (wQ G h q) (fun v w' => v = h (k + 1) ∧ w' = wQ G h q) := by
  refine CR.mk (own := RX1) (by decide) rfl (Nat.le_of_ble_eq_true rfl) ?_
  intro X E ret
  show J X G 2 0 0 (wQ G h q) [(0, .ref (h 0)), (1, .int (nI k))] 0 []
  rcases (show k = 0 ∨ k = 1 ∨ k = 2 ∨ k = 3 ∨ k = 4 ∨ k = 5 by omega) with rfl | rfl | rfl | rfl | rfl | rfl
  · skip
    refine J_iload_n E dX1_row_0 rfl 1 rfl ?_
    refine J_tabIn E (tgt := 36) (off := 35) dX1_row_1 (by decide) (by decide) rfl (by decide) ?_
    refine J_aload_n E dX1_row_36 rfl 0 rfl ?_
    refine gQ0_X1_9 E dX1_row_37 ?_
    exact ret _ _ _ _ ⟨rfl, (congrArg (wQ G h) (rfl))⟩ (Or.inr ⟨_, rfl⟩) dX1_row_40
  · skip
    refine J_iload_n E dX1_row_0 rfl 1 rfl ?_
    refine J_tabIn E (tgt := 41) (off := 40) dX1_row_1 (by decide) (by decide) rfl (by decide) ?_
    refine J_aload_n E dX1_row_41 rfl 0 rfl ?_
    refine gQ0_X1_15 E dX1_row_42 ?_
    exact ret _ _ _ _ ⟨rfl, (congrArg (wQ G h) (rfl))⟩ (Or.inr ⟨_, rfl⟩) dX1_row_45
  · skip
    refine J_iload_n E dX1_row_0 rfl 1 rfl ?_
    refine J_tabIn E (tgt := 46) (off := 45) dX1_row_1 (by decide) (by decide) rfl (by decide) ?_
    refine J_aload_n E dX1_row_46 rfl 0 rfl ?_
    refine gQ0_X1_18 E dX1_row_47 ?_
    exact ret _ _ _ _ ⟨rfl, (congrArg (wQ G h) (rfl))⟩ (Or.inr ⟨_, rfl⟩) dX1_row_50
  · skip
    refine J_iload_n E dX1_row_0 rfl 1 rfl ?_
    refine J_tabIn E (tgt := 51) (off := 50) dX1_row_1 (by decide) (by decide) rfl (by decide) ?_
    refine J_aload_n E dX1_row_51 rfl 0 rfl ?_
    refine gQ0_X1_21 E dX1_row_52 ?_
    exact ret _ _ _ _ ⟨rfl, (congrArg (wQ G h) (rfl))⟩ (Or.inr ⟨_, rfl⟩) dX1_row_55
  · skip
    refine J_iload_n E dX1_row_0 rfl 1 rfl ?_
    refine J_tabIn E (tgt := 56) (off := 55) dX1_row_1 (by decide) (by decide) rfl (by decide) ?_
    refine J_aload_n E dX1_row_56 rfl 0 rfl ?_
    refine gQ0_X1_24 E dX1_row_57 ?_
    exact ret _ _ _ _ ⟨rfl, (congrArg (wQ G h) (rfl))⟩ (Or.inr ⟨_, rfl⟩) dX1_row_60
  · skip
    refine J_iload_n E dX1_row_0 rfl 1 rfl ?_
    refine J_tabOut E (tgt := 61) dX1_row_1 (by decide) (by decide) ?_
    refine J_aload_n E dX1_row_61 rfl 0 rfl ?_
    refine gQ0_X1_27 E dX1_row_62 ?_
    exact ret _ _ _ _ ⟨rfl, (congrArg (wQ G h) (rfl))⟩ (Or.inr ⟨_, rfl⟩) dX1_row_65

set_option maxHeartbeats 4000000 in
set_option maxRecDepth 20000 in
theorem c_X1_become (l : Launch) (G : GB) (h g : Nat → Nat) (q q2 : Q2) : CV l yX1_become cX1_become 2 1 26 0 0 G [.ref (h 0), .ref (g 0)] (wQ G h q ++ wQ G g q2) (fun w' => w' = wQ G h q2 ++ wQ G g q2) := by
  refine CV.mk (own := RX1) (by decide) rfl (Nat.le_of_ble_eq_true rfl) ?_
  intro X E _ _ _ ret
  refine J_w (ws' := wQQ G h g (q22 q q2)) rfl ?_
  show J X G 2 0 0 (wQQ G h g (q22 q q2)) [(0, .ref (h 0)), (1, .ref (g 0))] 0 []
  refine J_aload_n E dX1_become_0 rfl 1 rfl ?_
  refine gQQ8_X1_9 E dX1_become_1 ?_
  refine J_iconst E dX1_become_4 ic_0 ?_
  refine J_aload_n E dX1_become_5 rfl 0 rfl ?_
  refine gQQ0_X1_9 E dX1_become_6 ?_
  refine J_iconst E dX1_become_9 ic_0 ?_
  refine J_bipush E dX1_become_10 bp_11 ?_
  refine J_copyAll E (m := 11) 9 1 ml_X1_46 na_acopy st_acopy ini_J10 dX1_become_12 rfl rfl (by decide) (by decide) (Nat.le_of_ble_eq_true rfl) ?_
  refine J_w (ws' := wQQ G h g (up3R (q22 q q2) 0 0 ((q22 q q2) 1 0))) rfl ?_
  refine J_aload_n E dX1_become_15 rfl 1 rfl ?_
  refine gQQ8_X1_15 E dX1_become_16 ?_
  refine J_iconst E dX1_become_19 ic_0 ?_
  refine J_aload_n E dX1_become_20 rfl 0 rfl ?_
  refine gQQ0_X1_15 E dX1_become_21 ?_
  refine J_iconst E dX1_become_24 ic_0 ?_
  refine J_bipush E dX1_become_25 bp_11 ?_
  refine J_copyAll E (m := 11) 10 2 ml_X1_46 na_acopy st_acopy ini_J10 dX1_become_27 rfl rfl (by decide) (by decide) (Nat.le_of_ble_eq_true rfl) ?_
  refine J_w (ws' := wQQ G h g (up3R (up3R (q22 q q2) 0 0 ((q22 q q2) 1 0)) 0 1 ((q22 q q2) 1 1))) rfl ?_
  refine J_aload_n E dX1_become_30 rfl 1 rfl ?_
  refine gQQ8_X1_18 E dX1_become_31 ?_
  refine J_iconst E dX1_become_34 ic_0 ?_
  refine J_aload_n E dX1_become_35 rfl 0 rfl ?_
  refine gQQ0_X1_18 E dX1_become_36 ?_
  refine J_iconst E dX1_become_39 ic_0 ?_
  refine J_bipush E dX1_become_40 bp_11 ?_
  refine J_copyAll E (m := 11) 11 3 ml_X1_46 na_acopy st_acopy ini_J10 dX1_become_42 rfl rfl (by decide) (by decide) (Nat.le_of_ble_eq_true rfl) ?_
  refine J_w (ws' := wQQ G h g (up3R (up3R (up3R (q22 q q2) 0 0 ((q22 q q2) 1 0)) 0 1 ((q22 q q2) 1 1)) 0 2 ((q22 q q2) 1 2))) rfl ?_
  refine J_aload_n E dX1_become_45 rfl 1 rfl ?_
  refine gQQ8_X1_21 E dX1_become_46 ?_
  refine J_iconst E dX1_become_49 ic_0 ?_
  refine J_aload_n E dX1_become_50 rfl 0 rfl ?_
  refine gQQ0_X1_21 E dX1_become_51 ?_
  refine J_iconst E dX1_become_54 ic_0 ?_
  refine J_bipush E dX1_become_55 bp_11 ?_
  refine J_copyAll E (m := 11) 12 4 ml_X1_46 na_acopy st_acopy ini_J10 dX1_become_57 rfl rfl (by decide) (by decide) (Nat.le_of_ble_eq_true rfl) ?_
  refine J_w (ws' := wQQ G h g (up3R (up3R (up3R (up3R (q22 q q2) 0 0 ((q22 q q2) 1 0)) 0 1 ((q22 q q2) 1 1)) 0 2 ((q22 q q2) 1 2)) 0 3 ((q22 q q2) 1 3))) rfl ?_
  refine J_aload_n E dX1_become_60 rfl 1 rfl ?_
  refine gQQ8_X1_24 E dX1_become_61 ?_
  refine J_iconst E dX1_become_64 ic_0 ?_
  refine J_aload_n E dX1_become_65 rfl 0 rfl ?_
  refine gQQ0_X1_24 E dX1_become_66 ?_
  refine J_iconst E dX1_become_69 ic_0 ?_
  refine J_bipush E dX1_become_70 bp_11 ?_
  refine J_copyAll E (m := 11) 13 5 ml_X1_46 na_acopy st_acopy ini_J10 dX1_become_72 rfl rfl (by decide) (by decide) (Nat.le_of_ble_eq_true rfl) ?_
  refine J_w (ws' := wQQ G h g (up3R (up3R (up3R (up3R (up3R (q22 q q2) 0 0 ((q22 q q2) 1 0)) 0 1 ((q22 q q2) 1 1)) 0 2 ((q22 q q2) 1 2)) 0 3 ((q22 q q2) 1 3)) 0 4 ((q22 q q2) 1 4))) rfl ?_
  refine J_aload_n E dX1_become_75 rfl 1 rfl ?_
  refine gQQ8_X1_27 E dX1_become_76 ?_
  refine J_iconst E dX1_become_79 ic_0 ?_
  refine J_aload_n E dX1_become_80 rfl 0 rfl ?_
  refine gQQ0_X1_27 E dX1_become_81 ?_
  refine J_iconst E dX1_become_84 ic_0 ?_
  refine J_bipush E dX1_become_85 bp_11 ?_
  refine J_copyAll E (m := 11) 14 6 ml_X1_46 na_acopy st_acopy ini_J10 dX1_become_87 rfl rfl (by decide) (by decide) (Nat.le_of_ble_eq_true rfl) ?_
  refine J_w (ws' := wQQ G h g (up3R (up3R (up3R (up3R (up3R (up3R (q22 q q2) 0 0 ((q22 q q2) 1 0)) 0 1 ((q22 q q2) 1 1)) 0 2 ((q22 q q2) 1 2)) 0 3 ((q22 q q2) 1 3)) 0 4 ((q22 q q2) 1 4)) 0 5 ((q22 q q2) 1 5))) rfl ?_
  refine J_aload_n E dX1_become_90 rfl 1 rfl ?_
  refine gQQ8_X1_30 E dX1_become_91 ?_
  refine J_iconst E dX1_become_94 ic_0 ?_
  refine J_aload_n E dX1_become_95 rfl 0 rfl ?_
  refine gQQ0_X1_30 E dX1_become_96 ?_
  refine J_iconst E dX1_become_99 ic_0 ?_
  refine J_bipush E dX1_become_100 bp_10 ?_
  refine J_copyAll E (m := 10) 15 7 ml_X1_46 na_acopy st_acopy ini_J10 dX1_become_102 rfl rfl (by decide) (by decide) (Nat.le_of_ble_eq_true rfl) ?_
  refine J_w (ws' := wQQ G h g (up3R (up3R (up3R (up3R (up3R (up3R (up3R (q22 q q2) 0 0 ((q22 q q2) 1 0)) 0 1 ((q22 q q2) 1 1)) 0 2 ((q22 q q2) 1 2)) 0 3 ((q22 q q2) 1 3)) 0 4 ((q22 q q2) 1 4)) 0 5 ((q22 q q2) 1 5)) 0 6 ((q22 q q2) 1 6))) rfl ?_
  refine J_aload_n E dX1_become_105 rfl 0 rfl ?_
  refine J_aload_n E dX1_become_106 rfl 1 rfl ?_
  refine gQQ8_X1_33 E dX1_become_107 ?_
  refine J_top (x' := (q22 q q2) 1 7 2) (Eq.trans (up3R_n (by decide)) (Eq.trans (up3R_n (by decide)) (Eq.trans (up3R_n (by decide)) (Eq.trans (up3R_n (by decide)) (Eq.trans (up3R_n (by decide)) (Eq.trans (up3R_n (by decide)) (up3R_n (by decide)))))))) ?_
  refine pQQ0_X1_33 E dX1_become_110 ?_
  refine J_aload_n E dX1_become_113 rfl 0 rfl ?_
  refine J_aload_n E dX1_become_114 rfl 1 rfl ?_
  refine gQQ8_X1_52 E dX1_become_115 ?_
  refine J_top (x' := (q22 q q2) 1 7 3) (Eq.trans (up3_row (by decide)) (Eq.trans (up3R_n (by decide)) (Eq.trans (up3R_n (by decide)) (Eq.trans (up3R_n (by decide)) (Eq.trans (up3R_n (by decide)) (Eq.trans (up3R_n (by decide)) (Eq.trans (up3R_n (by decide)) (up3R_n (by decide))))))))) ?_
  refine pQQ0_X1_52 E dX1_become_118 ?_
  refine J_aload_n E dX1_become_121 rfl 0 rfl ?_
  refine J_aload_n E dX1_become_122 rfl 1 rfl ?_
  refine gQQ8_X1_55 E dX1_become_123 ?_
  refine J_top (x' := (q22 q q2) 1 7 4) (Eq.trans (up3_row (by decide)) (Eq.trans (up3_row (by decide)) (Eq.trans (up3R_n (by decide)) (Eq.trans (up3R_n (by decide)) (Eq.trans (up3R_n (by decide)) (Eq.trans (up3R_n (by decide)) (Eq.trans (up3R_n (by decide)) (Eq.trans (up3R_n (by decide)) (up3R_n (by decide)))))))))) ?_
  refine pQQ0_X1_55 E dX1_become_126 ?_
  refine J_aload_n E dX1_become_129 rfl 0 rfl ?_
  refine J_aload_n E dX1_become_130 rfl 1 rfl ?_
  refine gQQ8_X1_58 E dX1_become_131 ?_
  refine J_top (x' := (q22 q q2) 1 7 0) (Eq.trans (up3_row (by decide)) (Eq.trans (up3_row (by decide)) (Eq.trans (up3_row (by decide)) (Eq.trans (up3R_n (by decide)) (Eq.trans (up3R_n (by decide)) (Eq.trans (up3R_n (by decide)) (Eq.trans (up3R_n (by decide)) (Eq.trans (up3R_n (by decide)) (Eq.trans (up3R_n (by decide)) (up3R_n (by decide))))))))))) ?_
  refine pQQ0_X1_58 E dX1_become_134 ?_
  refine J_aload_n E dX1_become_137 rfl 0 rfl ?_
  refine J_aload_n E dX1_become_138 rfl 1 rfl ?_
  refine gQQ8_X1_37 E dX1_become_139 ?_
  refine J_top (x' := (q22 q q2) 1 7 1) (Eq.trans (up3_row (by decide)) (Eq.trans (up3_row (by decide)) (Eq.trans (up3_row (by decide)) (Eq.trans (up3_row (by decide)) (Eq.trans (up3R_n (by decide)) (Eq.trans (up3R_n (by decide)) (Eq.trans (up3R_n (by decide)) (Eq.trans (up3R_n (by decide)) (Eq.trans (up3R_n (by decide)) (Eq.trans (up3R_n (by decide)) (up3R_n (by decide)))))))))))) ?_
  refine pQQ0_X1_37 E dX1_become_142 ?_
  exact ret _ _ _ rfl dX1_become_145

set_option maxHeartbeats 4000000 in
set_option maxRecDepth 20000 in
theorem c_X1_waterOfAll (l : Launch) (G : GB) (h : Nat → Nat) (q : Q2)  : CI l yX1_waterOfAll cX1_waterOfAll 3 .int 0 0 G [.ref (h 0)] (wQ G h q) (fun v w' => v = sumF (q 1) 11 ∧ w' = wQ G h q) := by
  refine CI.mk (own := RX1) (by decide) rfl (Nat.le_of_ble_eq_true rfl) ?_
  intro X E ret
  show J X G 3 0 0 (wQ G h q) [(0, .ref (h 0))] 0 []
  refine J_iconst E dX1_waterOfAll_0 ic_0 ?_
  refine J_istore_n E (lv' := [(1, .int 0), (0, .ref (h 0))]) dX1_waterOfAll_1 rfl (by decide) rfl ?_
  refine J_iconst E dX1_waterOfAll_2 ic_0 ?_
  refine J_istore_n E (lv' := [(2, .int 0), (1, .int 0), (0, .ref (h 0))]) dX1_waterOfAll_3 rfl (by decide) rfl ?_
  have lp4 : ∀ (n : Nat) (i : Nat) (a : Int32), i ≤ 11 → a = sumF (q 1) i → 11 - i < n → J X G 3 0 0 (wQ G h q) [(0, .ref (h 0)), (1, .int a), (2, .int (nI i))] 4 [] := by
    intro n
    induction n with
    | zero => intro i a hi ha hm; exact absurd hm (Nat.not_lt_zero _)
    | succ n ih4 =>
      intro i a hi ha hm
      refine J_iload_n E dX1_waterOfAll_4 rfl 2 rfl ?_
      refine J_bipush E dX1_waterOfAll_5 bp_11 ?_
      refine J_icmp_ge E (tgt := 25) dX1_waterOfAll_7 (by decide) (fun c_7 => ?_) (fun c_7 => ?_)
      · skip
        have n_7 : 11 ≤ i := cmp_le (a := 11) (b := i) (by omega) (by omega) c_7
        refine J_iload_n E dX1_waterOfAll_25 rfl 1 rfl ?_
        exact ret _ _ _ _ ⟨by rw [ha, show i = 11 by omega], (congrArg (wQ G h) (rfl))⟩ rfl dX1_waterOfAll_26
      · skip
        have n_7 : ¬ 11 ≤ i := cmp_nle (a := 11) (b := i) (by omega) (by omega) c_7
        refine J_iload_n E dX1_waterOfAll_10 rfl 1 rfl ?_
        refine J_aload_n E dX1_waterOfAll_11 rfl 0 rfl ?_
        refine gQ0_X1_15 E dX1_waterOfAll_12 ?_
        refine J_iload_n E dX1_waterOfAll_15 rfl 2 rfl ?_
        refine lQ_2 E (j := i) dX1_waterOfAll_16 (by omega) ?_
        refine J_iadd E dX1_waterOfAll_17 ?_
        refine J_istore_n E (lv' := [(1, .int (a + (q 1 i))), (0, .ref (h 0)), (2, .int (nI i))]) dX1_waterOfAll_18 rfl (by decide) rfl ?_
        refine J_iinc E (lv' := [(2, .int (nI (i + 1))), (1, .int (a + (q 1 i))), (0, .ref (h 0))]) dX1_waterOfAll_19 2 rfl (nI_inc _) (by decide) rfl ?_
        refine J_goto E (tgt := 4) dX1_waterOfAll_22 (by decide) ?_
        refine J_lv [2, 1, 0] rfl ?_
        exact ih4 (i + 1) (a + (q 1 i)) (by omega) (by rw [ha]; rfl) (by omega)
  refine J_lv [2, 1, 0] rfl ?_
  exact lp4 _ 0 0 (by omega) rfl (Nat.lt_succ_self _)

set_option maxHeartbeats 4000000 in
set_option maxRecDepth 20000 in
theorem c_X1_everDry (l : Launch) (G : GB) (h : Nat → Nat) (q : Q2)  : CI l yX1_everDry cX1_everDry 3 .int 0 0 G [.ref (h 0)] (wQ G h q) (fun v w' => v = setF (fun j => decide (0 < q 5 j)) 11 ∧ w' = wQ G h q) := by
  refine CI.mk (own := RX1) (by decide) rfl (Nat.le_of_ble_eq_true rfl) ?_
  intro X E ret
  show J X G 3 0 0 (wQ G h q) [(0, .ref (h 0))] 0 []
  refine J_iconst E dX1_everDry_0 ic_0 ?_
  refine J_istore_n E (lv' := [(1, .int 0), (0, .ref (h 0))]) dX1_everDry_1 rfl (by decide) rfl ?_
  refine J_iconst E dX1_everDry_2 ic_0 ?_
  refine J_istore_n E (lv' := [(2, .int 0), (1, .int 0), (0, .ref (h 0))]) dX1_everDry_3 rfl (by decide) rfl ?_
  have lp4 : ∀ (n : Nat) (i : Nat) (a : Int32), i ≤ 11 → a = setF (fun j => decide (0 < q 5 j)) i → 11 - i < n → J X G 3 0 0 (wQ G h q) [(0, .ref (h 0)), (1, .int a), (2, .int (nI i))] 4 [] := by
    intro n
    induction n with
    | zero => intro i a hi ha hm; exact absurd hm (Nat.not_lt_zero _)
    | succ n ih4 =>
      intro i a hi ha hm
      refine J_iload_n E dX1_everDry_4 rfl 2 rfl ?_
      refine J_bipush E dX1_everDry_5 bp_11 ?_
      refine J_icmp_ge E (tgt := 31) dX1_everDry_7 (by decide) (fun c_7 => ?_) (fun c_7 => ?_)
      · skip
        have n_7 : 11 ≤ i := cmp_le (a := 11) (b := i) (by omega) (by omega) c_7
        refine J_iload_n E dX1_everDry_31 rfl 1 rfl ?_
        exact ret _ _ _ _ ⟨by rw [ha, show i = 11 by omega], (congrArg (wQ G h) (rfl))⟩ rfl dX1_everDry_32
      · skip
        have n_7 : ¬ 11 ≤ i := cmp_nle (a := 11) (b := i) (by omega) (by omega) c_7
        refine J_aload_n E dX1_everDry_10 rfl 0 rfl ?_
        refine gQ0_X1_27 E dX1_everDry_11 ?_
        refine J_iload_n E dX1_everDry_14 rfl 2 rfl ?_
        refine lQ_6 E (j := i) dX1_everDry_15 (by omega) ?_
        refine J_if_le E (tgt := 25) dX1_everDry_16 (by decide) (fun c_16 => ?_) (fun c_16 => ?_)
        · skip
          refine J_iinc E (lv' := [(2, .int (nI (i + 1))), (0, .ref (h 0)), (1, .int a)]) dX1_everDry_25 2 rfl (nI_inc _) (by decide) rfl ?_
          refine J_goto E (tgt := 4) dX1_everDry_28 (by decide) ?_
          refine J_lv [1, 2, 0] rfl ?_
          exact ih4 (i + 1) a (by omega) (by rw [ha]; first | (simp [setF, c_16, bitI]; done) | simp [setF, Int32.not_lt.mpr c_16]) (by omega)
        · skip
          refine J_iload_n E dX1_everDry_19 rfl 1 rfl ?_
          refine J_iconst E dX1_everDry_20 ic_1 ?_
          refine J_iload_n E dX1_everDry_21 rfl 2 rfl ?_
          refine J_ishl E dX1_everDry_22 ?_
          refine J_ior E dX1_everDry_23 ?_
          refine J_istore_n E (lv' := [(1, .int (a ||| (1 <<< ((nI i) &&& 31)))), (0, .ref (h 0)), (2, .int (nI i))]) dX1_everDry_24 rfl (by decide) rfl ?_
          refine J_iinc E (lv' := [(2, .int (nI (i + 1))), (1, .int (a ||| (1 <<< ((nI i) &&& 31)))), (0, .ref (h 0))]) dX1_everDry_25 2 rfl (nI_inc _) (by decide) rfl ?_
          refine J_goto E (tgt := 4) dX1_everDry_28 (by decide) ?_
          refine J_lv [2, 1, 0] rfl ?_
          exact ih4 (i + 1) (a ||| (1 <<< ((nI i) &&& 31))) (by omega) (by rw [ha]; first | (simp [setF, c_16, bitI]; done) | simp [setF, Int32.not_lt.mpr c_16]) (by omega)
  refine J_lv [2, 1, 0] rfl ?_
  exact lp4 _ 0 0 (by omega) rfl (Nat.lt_succ_self _)

set_option maxHeartbeats 4000000 in
set_option maxRecDepth 20000 in
theorem c_X1_turnedSpouts (l : Launch) (G : GB) (h : Nat → Nat) (q : Q2)  : CI l yX1_turnedSpouts cX1_turnedSpouts 3 .int 0 0 G [.ref (h 0)] (wQ G h q) (fun v w' => v = spoF q 11 ∧ w' = wQ G h q) := by
  refine CI.mk (own := RX1) (by decide) rfl (Nat.le_of_ble_eq_true rfl) ?_
  intro X E ret
  show J X G 3 0 0 (wQ G h q) [(0, .ref (h 0))] 0 []
  refine J_iconst E dX1_turnedSpouts_0 ic_0 ?_
  refine J_istore_n E (lv' := [(1, .int 0), (0, .ref (h 0))]) dX1_turnedSpouts_1 rfl (by decide) rfl ?_
  refine J_iconst E dX1_turnedSpouts_2 ic_0 ?_
  refine J_istore_n E (lv' := [(2, .int 0), (1, .int 0), (0, .ref (h 0))]) dX1_turnedSpouts_3 rfl (by decide) rfl ?_
  have lp4 : ∀ (n : Nat) (i : Nat) (a : Int32), i ≤ 11 → a = spoF q i → 11 - i < n → J X G 3 0 0 (wQ G h q) [(0, .ref (h 0)), (1, .int a), (2, .int (nI i))] 4 [] := by
    intro n
    induction n with
    | zero => intro i a hi ha hm; exact absurd hm (Nat.not_lt_zero _)
    | succ n ih4 =>
      intro i a hi ha hm
      refine J_iload_n E dX1_turnedSpouts_4 rfl 2 rfl ?_
      refine J_bipush E dX1_turnedSpouts_5 bp_11 ?_
      refine J_icmp_ge E (tgt := 27) dX1_turnedSpouts_7 (by decide) (fun c_7 => ?_) (fun c_7 => ?_)
      · skip
        have n_7 : 11 ≤ i := cmp_le (a := 11) (b := i) (by omega) (by omega) c_7
        refine J_iload_n E dX1_turnedSpouts_27 rfl 1 rfl ?_
        exact ret _ _ _ _ ⟨by rw [ha, show i = 11 by omega], (congrArg (wQ G h) (rfl))⟩ rfl dX1_turnedSpouts_28
      · skip
        have n_7 : ¬ 11 ≤ i := cmp_nle (a := 11) (b := i) (by omega) (by omega) c_7
        refine J_iload_n E dX1_turnedSpouts_10 rfl 1 rfl ?_
        refine J_aload_n E dX1_turnedSpouts_11 rfl 0 rfl ?_
        refine gQ0_X1_24 E dX1_turnedSpouts_12 ?_
        refine J_iload_n E dX1_turnedSpouts_15 rfl 2 rfl ?_
        refine lQ_5 E (j := i) dX1_turnedSpouts_16 (by omega) ?_
        refine J_iload_n E dX1_turnedSpouts_17 rfl 2 rfl ?_
        refine J_ishl E dX1_turnedSpouts_18 ?_
        refine J_ior E dX1_turnedSpouts_19 ?_
        refine J_istore_n E (lv' := [(1, .int (a ||| ((q 4 i) <<< ((nI i) &&& 31)))), (0, .ref (h 0)), (2, .int (nI i))]) dX1_turnedSpouts_20 rfl (by decide) rfl ?_
        refine J_iinc E (lv' := [(2, .int (nI (i + 1))), (1, .int (a ||| ((q 4 i) <<< ((nI i) &&& 31)))), (0, .ref (h 0))]) dX1_turnedSpouts_21 2 rfl (nI_inc _) (by decide) rfl ?_
        refine J_goto E (tgt := 4) dX1_turnedSpouts_24 (by decide) ?_
        refine J_lv [2, 1, 0] rfl ?_
        exact ih4 (i + 1) (a ||| ((q 4 i) <<< ((nI i) &&& 31))) (by omega) (by rw [ha]; rfl) (by omega)
  refine J_lv [2, 1, 0] rfl ?_
  exact lp4 _ 0 0 (by omega) rfl (Nat.lt_succ_self _)

set_option maxHeartbeats 4000000 in
set_option maxRecDepth 20000 in
theorem c_X1_housesOfOtherKinds (l : Launch) (G : GB) (h : Nat → Nat) (q : Q2)  : CI l yX1_housesOfOtherKinds cX1_housesOfOtherKinds 3 .int 0 0 G [.ref (h 0)] (wQ G h q) (fun v w' => v = cntF (fun j => decide (¬ q 0 j = 0)) 11 ∧ w' = wQ G h q) := by
  refine CI.mk (own := RX1) (by decide) rfl (Nat.le_of_ble_eq_true rfl) ?_
  intro X E ret
  show J X G 3 0 0 (wQ G h q) [(0, .ref (h 0))] 0 []
  refine J_iconst E dX1_housesOfOtherKinds_0 ic_0 ?_
  refine J_istore_n E (lv' := [(1, .int 0), (0, .ref (h 0))]) dX1_housesOfOtherKinds_1 rfl (by decide) rfl ?_
  refine J_iconst E dX1_housesOfOtherKinds_2 ic_0 ?_
  refine J_istore_n E (lv' := [(2, .int 0), (1, .int 0), (0, .ref (h 0))]) dX1_housesOfOtherKinds_3 rfl (by decide) rfl ?_
  have lp4 : ∀ (n : Nat) (i : Nat) (a : Int32), i ≤ 11 → a = cntF (fun j => decide (¬ q 0 j = 0)) i → 11 - i < n → J X G 3 0 0 (wQ G h q) [(0, .ref (h 0)), (1, .int a), (2, .int (nI i))] 4 [] := by
    intro n
    induction n with
    | zero => intro i a hi ha hm; exact absurd hm (Nat.not_lt_zero _)
    | succ n ih4 =>
      intro i a hi ha hm
      refine J_iload_n E dX1_housesOfOtherKinds_4 rfl 2 rfl ?_
      refine J_bipush E dX1_housesOfOtherKinds_5 bp_11 ?_
      refine J_icmp_ge E (tgt := 28) dX1_housesOfOtherKinds_7 (by decide) (fun c_7 => ?_) (fun c_7 => ?_)
      · skip
        have n_7 : 11 ≤ i := cmp_le (a := 11) (b := i) (by omega) (by omega) c_7
        refine J_iload_n E dX1_housesOfOtherKinds_28 rfl 1 rfl ?_
        exact ret _ _ _ _ ⟨by rw [ha, show i = 11 by omega], (congrArg (wQ G h) (rfl))⟩ rfl dX1_housesOfOtherKinds_29
      · skip
        have n_7 : ¬ 11 ≤ i := cmp_nle (a := 11) (b := i) (by omega) (by omega) c_7
        refine J_aload_n E dX1_housesOfOtherKinds_10 rfl 0 rfl ?_
        refine gQ0_X1_9 E dX1_housesOfOtherKinds_11 ?_
        refine J_iload_n E dX1_housesOfOtherKinds_14 rfl 2 rfl ?_
        refine lQ_1 E (j := i) dX1_housesOfOtherKinds_15 (by omega) ?_
        refine J_if_eq E (tgt := 22) dX1_housesOfOtherKinds_16 (by decide) (fun c_16 => ?_) (fun c_16 => ?_)
        · skip
          refine J_iinc E (lv' := [(2, .int (nI (i + 1))), (0, .ref (h 0)), (1, .int a)]) dX1_housesOfOtherKinds_22 2 rfl (nI_inc _) (by decide) rfl ?_
          refine J_goto E (tgt := 4) dX1_housesOfOtherKinds_25 (by decide) ?_
          refine J_lv [1, 2, 0] rfl ?_
          exact ih4 (i + 1) a (by omega) (by rw [ha]; simp [cntF, c_16]) (by omega)
        · skip
          refine J_iinc E (lv' := [(1, .int (a + 1)), (0, .ref (h 0)), (2, .int (nI i))]) dX1_housesOfOtherKinds_19 1 rfl (i_inc _) (by decide) rfl ?_
          refine J_iinc E (lv' := [(2, .int (nI (i + 1))), (1, .int (a + 1)), (0, .ref (h 0))]) dX1_housesOfOtherKinds_22 2 rfl (nI_inc _) (by decide) rfl ?_
          refine J_goto E (tgt := 4) dX1_housesOfOtherKinds_25 (by decide) ?_
          refine J_lv [2, 1, 0] rfl ?_
          exact ih4 (i + 1) (a + 1) (by omega) (by rw [ha]; simp [cntF, c_16]) (by omega)
  refine J_lv [2, 1, 0] rfl ?_
  exact lp4 _ 0 0 (by omega) rfl (Nat.lt_succ_self _)

set_option maxHeartbeats 4000000 in
set_option maxRecDepth 20000 in
theorem c_X1_spotsHeld (l : Launch) (G : GB) (h : Nat → Nat) (q : Q2)  : CI l yX1_spotsHeld cX1_spotsHeld 3 .int 0 0 G [.ref (h 0)] (wQ G h q) (fun v w' => v = cntF (fun j => decide (¬ q 6 j = -1)) 10 ∧ w' = wQ G h q) := by
  refine CI.mk (own := RX1) (by decide) rfl (Nat.le_of_ble_eq_true rfl) ?_
  intro X E ret
  show J X G 3 0 0 (wQ G h q) [(0, .ref (h 0))] 0 []
  refine J_iconst E dX1_spotsHeld_0 ic_0 ?_
  refine J_istore_n E (lv' := [(1, .int 0), (0, .ref (h 0))]) dX1_spotsHeld_1 rfl (by decide) rfl ?_
  refine J_iconst E dX1_spotsHeld_2 ic_0 ?_
  refine J_istore_n E (lv' := [(2, .int 0), (1, .int 0), (0, .ref (h 0))]) dX1_spotsHeld_3 rfl (by decide) rfl ?_
  have lp4 : ∀ (n : Nat) (i : Nat) (a : Int32), i ≤ 10 → a = cntF (fun j => decide (¬ q 6 j = -1)) i → 10 - i < n → J X G 3 0 0 (wQ G h q) [(0, .ref (h 0)), (1, .int a), (2, .int (nI i))] 4 [] := by
    intro n
    induction n with
    | zero => intro i a hi ha hm; exact absurd hm (Nat.not_lt_zero _)
    | succ n ih4 =>
      intro i a hi ha hm
      refine J_iload_n E dX1_spotsHeld_4 rfl 2 rfl ?_
      refine J_bipush E dX1_spotsHeld_5 bp_10 ?_
      refine J_icmp_ge E (tgt := 29) dX1_spotsHeld_7 (by decide) (fun c_7 => ?_) (fun c_7 => ?_)
      · skip
        have n_7 : 10 ≤ i := cmp_le (a := 10) (b := i) (by omega) (by omega) c_7
        refine J_iload_n E dX1_spotsHeld_29 rfl 1 rfl ?_
        exact ret _ _ _ _ ⟨by rw [ha, show i = 10 by omega], (congrArg (wQ G h) (rfl))⟩ rfl dX1_spotsHeld_30
      · skip
        have n_7 : ¬ 10 ≤ i := cmp_nle (a := 10) (b := i) (by omega) (by omega) c_7
        refine J_aload_n E dX1_spotsHeld_10 rfl 0 rfl ?_
        refine gQ0_X1_30 E dX1_spotsHeld_11 ?_
        refine J_iload_n E dX1_spotsHeld_14 rfl 2 rfl ?_
        refine lQ_7 E (j := i) dX1_spotsHeld_15 (by omega) ?_
        refine J_iconst E dX1_spotsHeld_16 ic_m1 ?_
        refine J_icmp_eq E (tgt := 23) dX1_spotsHeld_17 (by decide) (fun c_17 => ?_) (fun c_17 => ?_)
        · skip
          refine J_iinc E (lv' := [(2, .int (nI (i + 1))), (0, .ref (h 0)), (1, .int a)]) dX1_spotsHeld_23 2 rfl (nI_inc _) (by decide) rfl ?_
          refine J_goto E (tgt := 4) dX1_spotsHeld_26 (by decide) ?_
          refine J_lv [1, 2, 0] rfl ?_
          exact ih4 (i + 1) a (by omega) (by rw [ha]; simp [cntF, c_17]) (by omega)
        · skip
          refine J_iinc E (lv' := [(1, .int (a + 1)), (0, .ref (h 0)), (2, .int (nI i))]) dX1_spotsHeld_20 1 rfl (i_inc _) (by decide) rfl ?_
          refine J_iinc E (lv' := [(2, .int (nI (i + 1))), (1, .int (a + 1)), (0, .ref (h 0))]) dX1_spotsHeld_23 2 rfl (nI_inc _) (by decide) rfl ?_
          refine J_goto E (tgt := 4) dX1_spotsHeld_26 (by decide) ?_
          refine J_lv [2, 1, 0] rfl ?_
          exact ih4 (i + 1) (a + 1) (by omega) (by rw [ha]; simp [cntF, c_17]) (by omega)
  refine J_lv [2, 1, 0] rfl ?_
  exact lp4 _ 0 0 (by omega) rfl (Nat.lt_succ_self _)

set_option maxHeartbeats 4000000 in
set_option maxRecDepth 20000 in
theorem c_X1_passHour (l : Launch) (G : GB) (h : Nat → Nat) (q : Q2) (last : Nat) (hla : last < 11) (hsp : spOk q) : CI l yX1_passHour cX1_passHour 7 .int 3 66 G [.ref (h 0), .int (nI last)] (wQ G h q) (fun v w' => v = dryM q last ∧ w' = wQ G h (hourM q last)) := by
  refine CI.mk (own := RX1) (by decide) rfl (Nat.le_of_ble_eq_true rfl) ?_
  intro X E ret
  show J X G 7 0 0 (wQ G h q) [(0, .ref (h 0)), (1, .int (nI last))] 0 []
  refine J_iconst E dX1_passHour_0 ic_0 ?_
  refine J_istore_n E (lv' := [(2, .int 0), (0, .ref (h 0)), (1, .int (nI last))]) dX1_passHour_1 rfl (by decide) rfl ?_
  refine J_aload_n E dX1_passHour_2 rfl 1 rfl ?_
  refine J_iconst E dX1_passHour_3 ic_0 ?_
  refine J_aload_n E dX1_passHour_4 rfl 1 rfl ?_
  refine gQ0_X1_33 E dX1_passHour_5 ?_
  refine J_cVv0 E (As := [.int 0, .int (q 7 2)]) (c_X1_bring l G h q 0 (q 7 2) (Or.inr (vp_in_nI (n := 0) (by decide) (by decide)))) cl_X1_82 yo_X1_bring dX1_passHour_8 rfl rfl rfl (Nat.le_of_ble_eq_true rfl) (Nat.le_of_ble_eq_true rfl) rfl (Nat.le_of_ble_eq_true rfl) ⟨Nat.zero_le _, Nat.zero_le _⟩ ?_
  refine J_iload_n E dX1_passHour_11 rfl 2 rfl ?_
  refine J_istore_n E (lv' := [(3, .int (nI last)), (2, .int 0), (0, .ref (h 0)), (1, .int (nI last))]) dX1_passHour_12 rfl (by decide) rfl ?_
  have lp13 : ∀ (n : Nat) (i : Nat) (xh : Int32) (d : Int32) (S : Q2), xh = nI i + (-1) → i ≤ last + 1 → S = phS q last (last + 1 - i) → d = phD q last (last + 1 - i) → i < n → J X G 7 0 0 (wQ G h S) [(0, .ref (h 0)), (1, .int (nI last)), (2, .int d), (3, .int xh)] 13 [] := by
    intro n
    induction n with
    | zero => intro i xh d S hxh hi hS hd hm; exact absurd hm (Nat.not_lt_zero _)
    | succ n ih13 =>
      intro i xh d S hxh hi hS hd hm
      refine J_iload_n E dX1_passHour_13 rfl 3 rfl ?_
      refine J_if_lt E (tgt := 134) dX1_passHour_14 (by decide) (fun c_14 => ?_) (fun c_14 => ?_)
      · skip
        have hi0 := dec_neg hxh (by omega) c_14
        subst hi0
        refine J_aload_n E dX1_passHour_134 rfl 0 rfl ?_
        refine J_ldc E kn_X1_99 dX1_passHour_135 ?_
        refine J_aload_n E dX1_passHour_137 rfl 0 rfl ?_
        refine gQ0_X1_58 E dX1_passHour_138 ?_
        refine J_iconst E dX1_passHour_141 ic_1 ?_
        refine J_iadd E dX1_passHour_142 ?_
        refine J_mmin E ml_X1_72 st_mmin ini_J9 co_mmin dX1_passHour_143 (by decide) (Nat.le_of_ble_eq_true rfl) ⟨Nat.zero_le _, Nat.zero_le _⟩ ?_
        refine pQ0_X1_58 E dX1_passHour_146 ?_
        refine J_iload_n E dX1_passHour_149 rfl 2 rfl ?_
        exact ret _ _ _ _ ⟨by rw [hd]; rfl, (congrArg (wQ G h) (by rw [hS]; rfl))⟩ rfl dX1_passHour_150
      · skip
        obtain ⟨j, rfl, rfl⟩ := dec_pos hxh (by omega) c_14
        have hS4 : spOk S := by rw [hS]; intro y hy; rw [phS_4]; exact hsp y hy
        refine J_aload_n E dX1_passHour_17 rfl 0 rfl ?_
        refine gQ0_X1_15 E dX1_passHour_18 ?_
        refine J_iload_n E dX1_passHour_21 rfl 3 rfl ?_
        refine lQ_2 E (j := j) dX1_passHour_22 (by omega) ?_
        refine J_aload_n E dX1_passHour_23 rfl 0 rfl ?_
        refine J_iload_n E dX1_passHour_24 rfl 3 rfl ?_
        refine J_cVi0 E (As := [.int (nI j)]) (c_X1_usesOf l G h S j (by omega)) cl_X1_86 yo_X1_usesOf dX1_passHour_25 rfl rfl rfl (Nat.le_of_ble_eq_true rfl) (Nat.le_of_ble_eq_true rfl) rfl (Nat.le_of_ble_eq_true rfl) ⟨Nat.zero_le _, Nat.zero_le _⟩ ?_
        refine J_isub E dX1_passHour_28 ?_
        refine J_istore E (lv' := [(4, .int ((S 1 j) - (useF (S 0 j) (S 2 j) (S 7 0)))), (0, .ref (h 0)), (1, .int (nI last)), (2, .int d), (3, .int (nI j))]) dX1_passHour_29 (by decide) rfl ?_
        refine J_iload E dX1_passHour_31 0 rfl ?_
        refine J_if_ge E (tgt := 65) dX1_passHour_33 (by decide) (fun c_33 => ?_) (fun c_33 => ?_)
        · skip
          have c_33 : ¬ leftF S j < 0 := Int32.not_lt.mpr c_33
          refine J_aload_n E dX1_passHour_65 rfl 1 rfl ?_
          refine gQ0_X1_15 E dX1_passHour_66 ?_
          refine J_iload_n E dX1_passHour_69 rfl 4 rfl ?_
          refine J_iload E dX1_passHour_70 0 rfl ?_
          refine J_aload_n E dX1_passHour_72 rfl 1 rfl ?_
          refine J_iload_n E dX1_passHour_73 rfl 4 rfl ?_
          refine J_cVi0 E (As := [.int (nI j)]) (c_X1_keepsOf l G h S j (by omega)) cl_X1_90 yo_X1_keepsOf dX1_passHour_74 rfl rfl rfl (Nat.le_of_ble_eq_true rfl) (Nat.le_of_ble_eq_true rfl) rfl (Nat.le_of_ble_eq_true rfl) ⟨Nat.zero_le _, Nat.zero_le _⟩ ?_
          refine J_mmin E ml_X1_72 st_mmin ini_J9 co_mmin dX1_passHour_77 (by decide) (Nat.le_of_ble_eq_true rfl) ⟨Nat.zero_le _, Nat.zero_le _⟩ ?_
          refine sQ_2 E (j := j) dX1_passHour_80 (by omega) ?_
          refine J_iload E dX1_passHour_81 0 rfl ?_
          refine J_aload_n E dX1_passHour_83 rfl 1 rfl ?_
          refine gQ0_X1_15 E dX1_passHour_84 ?_
          refine J_iload_n E dX1_passHour_87 rfl 4 rfl ?_
          refine lQ_2 E (j := j) dX1_passHour_88 (by omega) ?_
          refine J_top (x' := mn ((S 1 j) - (useF (S 0 j) (S 2 j) (S 7 0))) (keepF (S 0 j) (S 3 j) (S 2 j))) up2_s ?_
          refine J_isub E dX1_passHour_89 ?_
          refine J_istore E (lv' := [(5, .int (((S 1 j) - (useF (S 0 j) (S 2 j) (S 7 0))) - (mn ((S 1 j) - (useF (S 0 j) (S 2 j) (S 7 0))) (keepF (S 0 j) (S 3 j) (S 2 j))))), (4, .int ((S 1 j) - (useF (S 0 j) (S 2 j) (S 7 0)))), (0, .ref (h 0)), (1, .int (nI last)), (2, .int d), (3, .int (nI j))]) dX1_passHour_90 (by decide) rfl ?_
          refine J_iload E dX1_passHour_92 0 rfl ?_
          refine J_aload_n E dX1_passHour_94 rfl 2 rfl ?_
          refine gQ0_X1_9 E dX1_passHour_95 ?_
          refine J_iload_n E dX1_passHour_98 rfl 5 rfl ?_
          refine lQ_1 E (j := j) dX1_passHour_99 (by omega) ?_
          refine J_top (x' := S 0 j) (up2_row (by decide)) ?_
          refine J_cSiN E (As := [.int (S 0 j)]) (c_X0_losing l G (S 0 j) ) cl_X1_93 yo_X0_losing dX1_passHour_100 rfl (Nat.le_of_ble_eq_true rfl) (Nat.le_of_ble_eq_true rfl) rfl (Nat.le_of_ble_eq_true rfl) ⟨Nat.zero_le _, Nat.zero_le _⟩ ?_
          refine J_mmin E ml_X1_72 st_mmin ini_J9 co_mmin dX1_passHour_103 (by decide) (Nat.le_of_ble_eq_true rfl) ⟨Nat.zero_le _, Nat.zero_le _⟩ ?_
          refine J_istore E (lv' := [(6, .int (mn (((S 1 j) - (useF (S 0 j) (S 2 j) (S 7 0))) - (mn ((S 1 j) - (useF (S 0 j) (S 2 j) (S 7 0))) (keepF (S 0 j) (S 3 j) (S 2 j)))) (loseK (S 0 j)))), (5, .int (((S 1 j) - (useF (S 0 j) (S 2 j) (S 7 0))) - (mn ((S 1 j) - (useF (S 0 j) (S 2 j) (S 7 0))) (keepF (S 0 j) (S 3 j) (S 2 j))))), (4, .int ((S 1 j) - (useF (S 0 j) (S 2 j) (S 7 0)))), (0, .ref (h 0)), (1, .int (nI last)), (2, .int d), (3, .int (nI j))]) dX1_passHour_106 (by decide) rfl ?_
          refine J_aload_n E dX1_passHour_108 rfl 3 rfl ?_
          refine J_iload E dX1_passHour_109 0 rfl ?_
          refine J_cVv0 E (As := [.int (mn (((S 1 j) - (useF (S 0 j) (S 2 j) (S 7 0))) - (mn ((S 1 j) - (useF (S 0 j) (S 2 j) (S 7 0))) (keepF (S 0 j) (S 3 j) (S 2 j)))) (loseK (S 0 j)))]) (c_X1_lose l G h (up2 S 1 j (mn ((S 1 j) - (useF (S 0 j) (S 2 j) (S 7 0))) (keepF (S 0 j) (S 3 j) (S 2 j)))) (mn (((S 1 j) - (useF (S 0 j) (S 2 j) (S 7 0))) - (mn ((S 1 j) - (useF (S 0 j) (S 2 j) (S 7 0))) (keepF (S 0 j) (S 3 j) (S 2 j)))) (loseK (S 0 j))) ) cl_X1_78 yo_X1_lose dX1_passHour_111 rfl rfl rfl (Nat.le_of_ble_eq_true rfl) (Nat.le_of_ble_eq_true rfl) rfl (Nat.le_of_ble_eq_true rfl) ⟨Nat.zero_le _, Nat.zero_le _⟩ ?_
          refine J_aload_n E dX1_passHour_114 rfl 3 rfl ?_
          refine J_aload_n E dX1_passHour_115 rfl 3 rfl ?_
          refine J_iload_n E dX1_passHour_116 rfl 6 rfl ?_
          refine J_cVi0 E (As := [.int (nI j)]) (c_X1_leadsTo l G h (loseF (up2 S 1 j (mn ((S 1 j) - (useF (S 0 j) (S 2 j) (S 7 0))) (keepF (S 0 j) (S 3 j) (S 2 j)))) (mn (((S 1 j) - (useF (S 0 j) (S 2 j) (S 7 0))) - (mn ((S 1 j) - (useF (S 0 j) (S 2 j) (S 7 0))) (keepF (S 0 j) (S 3 j) (S 2 j)))) (loseK (S 0 j)))) j (by omega)) cl_X1_96 yo_X1_leadsTo dX1_passHour_117 rfl rfl rfl (Nat.le_of_ble_eq_true rfl) (Nat.le_of_ble_eq_true rfl) rfl (Nat.le_of_ble_eq_true rfl) ⟨Nat.zero_le _, Nat.zero_le _⟩ ?_
          refine J_top (x' := leadF S j) (leadF_c (by simp [loseF_4, up2]) j) ?_
          refine J_iload E dX1_passHour_120 1 rfl ?_
          refine J_iload E dX1_passHour_122 0 rfl ?_
          refine J_isub E dX1_passHour_124 ?_
          refine J_cVv0 E (As := [.int (leadF S j), .int ((((S 1 j) - (useF (S 0 j) (S 2 j) (S 7 0))) - (mn ((S 1 j) - (useF (S 0 j) (S 2 j) (S 7 0))) (keepF (S 0 j) (S 3 j) (S 2 j)))) - (mn (((S 1 j) - (useF (S 0 j) (S 2 j) (S 7 0))) - (mn ((S 1 j) - (useF (S 0 j) (S 2 j) (S 7 0))) (keepF (S 0 j) (S 3 j) (S 2 j)))) (loseK (S 0 j))))]) (c_X1_bring l G h (loseF (up2 S 1 j (mn ((S 1 j) - (useF (S 0 j) (S 2 j) (S 7 0))) (keepF (S 0 j) (S 3 j) (S 2 j)))) (mn (((S 1 j) - (useF (S 0 j) (S 2 j) (S 7 0))) - (mn ((S 1 j) - (useF (S 0 j) (S 2 j) (S 7 0))) (keepF (S 0 j) (S 3 j) (S 2 j)))) (loseK (S 0 j)))) (leadF S j) ((((S 1 j) - (useF (S 0 j) (S 2 j) (S 7 0))) - (mn ((S 1 j) - (useF (S 0 j) (S 2 j) (S 7 0))) (keepF (S 0 j) (S 3 j) (S 2 j)))) - (mn (((S 1 j) - (useF (S 0 j) (S 2 j) (S 7 0))) - (mn ((S 1 j) - (useF (S 0 j) (S 2 j) (S 7 0))) (keepF (S 0 j) (S 3 j) (S 2 j)))) (loseK (S 0 j)))) (leadF_in hS4 (by omega))) cl_X1_82 yo_X1_bring dX1_passHour_125 rfl rfl rfl (Nat.le_of_ble_eq_true rfl) (Nat.le_of_ble_eq_true rfl) rfl (Nat.le_of_ble_eq_true rfl) ⟨Nat.zero_le _, Nat.zero_le _⟩ ?_
          refine J_iinc E (lv' := [(3, .int ((nI j) + (-1))), (6, .int (mn (((S 1 j) - (useF (S 0 j) (S 2 j) (S 7 0))) - (mn ((S 1 j) - (useF (S 0 j) (S 2 j) (S 7 0))) (keepF (S 0 j) (S 3 j) (S 2 j)))) (loseK (S 0 j)))), (5, .int (((S 1 j) - (useF (S 0 j) (S 2 j) (S 7 0))) - (mn ((S 1 j) - (useF (S 0 j) (S 2 j) (S 7 0))) (keepF (S 0 j) (S 3 j) (S 2 j))))), (4, .int ((S 1 j) - (useF (S 0 j) (S 2 j) (S 7 0)))), (0, .ref (h 0)), (1, .int (nI last)), (2, .int d)]) dX1_passHour_128 6 rfl (i_dec _) (by decide) rfl ?_
          refine J_goto E (tgt := 13) dX1_passHour_131 (by decide) ?_
          refine J_lv [4, 5, 6, 0] rfl ?_
          exact ih13 j ((nI j) + (-1)) d (bringF (loseF (up2 S 1 j (mn ((S 1 j) - (useF (S 0 j) (S 2 j) (S 7 0))) (keepF (S 0 j) (S 3 j) (S 2 j)))) (mn (((S 1 j) - (useF (S 0 j) (S 2 j) (S 7 0))) - (mn ((S 1 j) - (useF (S 0 j) (S 2 j) (S 7 0))) (keepF (S 0 j) (S 3 j) (S 2 j)))) (loseK (S 0 j)))) (leadF S j) ((((S 1 j) - (useF (S 0 j) (S 2 j) (S 7 0))) - (mn ((S 1 j) - (useF (S 0 j) (S 2 j) (S 7 0))) (keepF (S 0 j) (S 3 j) (S 2 j)))) - (mn (((S 1 j) - (useF (S 0 j) (S 2 j) (S 7 0))) - (mn ((S 1 j) - (useF (S 0 j) (S 2 j) (S 7 0))) (keepF (S 0 j) (S 3 j) (S 2 j)))) (loseK (S 0 j))))) rfl (by omega) (by rw [show last + 1 - j = (last + 1 - (j + 1)) + 1 by omega, phS, ← hS, show last - (last + 1 - (j + 1)) = j by omega]; first | (rw [stepS_t c_33]; rfl) | (rw [stepS_f c_33]; rfl)) (by rw [show last + 1 - j = (last + 1 - (j + 1)) + 1 by omega, phD, ← hS, ← hd, show last - (last + 1 - (j + 1)) = j by omega, stepD]; first | rw [if_pos c_33]; rfl | rw [if_neg c_33]) (by omega)
        · skip
          have c_33 : leftF S j < 0 := Int32.not_le.mp c_33
          refine J_iconst E dX1_passHour_36 ic_0 ?_
          refine J_istore E (lv' := [(4, .int 0), (0, .ref (h 0)), (1, .int (nI last)), (2, .int d), (3, .int (nI j))]) dX1_passHour_37 (by decide) rfl ?_
          refine J_iload_n E dX1_passHour_39 rfl 3 rfl ?_
          refine J_iconst E dX1_passHour_40 ic_1 ?_
          refine J_iload_n E dX1_passHour_41 rfl 4 rfl ?_
          refine J_ishl E dX1_passHour_42 ?_
          refine J_ior E dX1_passHour_43 ?_
          refine J_istore_n E (lv' := [(2, .int (d ||| (1 <<< ((nI j) &&& 31)))), (4, .int 0), (0, .ref (h 0)), (1, .int (nI last)), (3, .int (nI j))]) dX1_passHour_44 rfl (by decide) rfl ?_
          refine J_aload_n E dX1_passHour_45 rfl 2 rfl ?_
          refine gQ0_X1_27 E dX1_passHour_46 ?_
          refine J_iload_n E dX1_passHour_49 rfl 4 rfl ?_
          refine J_sipush E dX1_passHour_50 sp_9999 ?_
          refine J_aload_n E dX1_passHour_53 rfl 2 rfl ?_
          refine gQ0_X1_27 E dX1_passHour_54 ?_
          refine J_iload_n E dX1_passHour_57 rfl 4 rfl ?_
          refine lQ_6 E (j := j) dX1_passHour_58 (by omega) ?_
          refine J_iconst E dX1_passHour_59 ic_1 ?_
          refine J_iadd E dX1_passHour_60 ?_
          refine J_mmin E ml_X1_72 st_mmin ini_J9 co_mmin dX1_passHour_61 (by decide) (Nat.le_of_ble_eq_true rfl) ⟨Nat.zero_le _, Nat.zero_le _⟩ ?_
          refine sQ_6 E (j := j) dX1_passHour_64 (by omega) ?_
          refine J_aload_n E dX1_passHour_65 rfl 2 rfl ?_
          refine gQ0_X1_15 E dX1_passHour_66 ?_
          refine J_iload_n E dX1_passHour_69 rfl 4 rfl ?_
          refine J_iload E dX1_passHour_70 1 rfl ?_
          refine J_aload_n E dX1_passHour_72 rfl 2 rfl ?_
          refine J_iload_n E dX1_passHour_73 rfl 4 rfl ?_
          refine J_cVi0 E (As := [.int (nI j)]) (c_X1_keepsOf l G h (up2 S 5 j (mn 9999 ((S 5 j) + 1))) j (by omega)) cl_X1_90 yo_X1_keepsOf dX1_passHour_74 rfl rfl rfl (Nat.le_of_ble_eq_true rfl) (Nat.le_of_ble_eq_true rfl) rfl (Nat.le_of_ble_eq_true rfl) ⟨Nat.zero_le _, Nat.zero_le _⟩ ?_
          refine J_top (x' := keepF (S 0 j) (S 3 j) (S 2 j)) (congr3 keepF ((up2_row (by decide))) ((up2_row (by decide))) ((up2_row (by decide)))) ?_
          refine J_mmin E ml_X1_72 st_mmin ini_J9 co_mmin dX1_passHour_77 (by decide) (Nat.le_of_ble_eq_true rfl) ⟨Nat.zero_le _, Nat.zero_le _⟩ ?_
          refine sQ_2 E (j := j) dX1_passHour_80 (by omega) ?_
          refine J_iload E dX1_passHour_81 1 rfl ?_
          refine J_aload_n E dX1_passHour_83 rfl 2 rfl ?_
          refine gQ0_X1_15 E dX1_passHour_84 ?_
          refine J_iload_n E dX1_passHour_87 rfl 4 rfl ?_
          refine lQ_2 E (j := j) dX1_passHour_88 (by omega) ?_
          refine J_top (x' := mn 0 (keepF (S 0 j) (S 3 j) (S 2 j))) up2_s ?_
          refine J_isub E dX1_passHour_89 ?_
          refine J_istore E (lv' := [(5, .int (0 - (mn 0 (keepF (S 0 j) (S 3 j) (S 2 j))))), (2, .int (d ||| (1 <<< ((nI j) &&& 31)))), (4, .int 0), (0, .ref (h 0)), (1, .int (nI last)), (3, .int (nI j))]) dX1_passHour_90 (by decide) rfl ?_
          refine J_iload E dX1_passHour_92 0 rfl ?_
          refine J_aload_n E dX1_passHour_94 rfl 3 rfl ?_
          refine gQ0_X1_9 E dX1_passHour_95 ?_
          refine J_iload_n E dX1_passHour_98 rfl 5 rfl ?_
          refine lQ_1 E (j := j) dX1_passHour_99 (by omega) ?_
          refine J_top (x' := S 0 j) (Eq.trans (up2_row (by decide)) (up2_row (by decide))) ?_
          refine J_cSiN E (As := [.int (S 0 j)]) (c_X0_losing l G (S 0 j) ) cl_X1_93 yo_X0_losing dX1_passHour_100 rfl (Nat.le_of_ble_eq_true rfl) (Nat.le_of_ble_eq_true rfl) rfl (Nat.le_of_ble_eq_true rfl) ⟨Nat.zero_le _, Nat.zero_le _⟩ ?_
          refine J_mmin E ml_X1_72 st_mmin ini_J9 co_mmin dX1_passHour_103 (by decide) (Nat.le_of_ble_eq_true rfl) ⟨Nat.zero_le _, Nat.zero_le _⟩ ?_
          refine J_istore E (lv' := [(6, .int (mn (0 - (mn 0 (keepF (S 0 j) (S 3 j) (S 2 j)))) (loseK (S 0 j)))), (5, .int (0 - (mn 0 (keepF (S 0 j) (S 3 j) (S 2 j))))), (2, .int (d ||| (1 <<< ((nI j) &&& 31)))), (4, .int 0), (0, .ref (h 0)), (1, .int (nI last)), (3, .int (nI j))]) dX1_passHour_106 (by decide) rfl ?_
          refine J_aload_n E dX1_passHour_108 rfl 4 rfl ?_
          refine J_iload E dX1_passHour_109 0 rfl ?_
          refine J_cVv0 E (As := [.int (mn (0 - (mn 0 (keepF (S 0 j) (S 3 j) (S 2 j)))) (loseK (S 0 j)))]) (c_X1_lose l G h (up2 (up2 S 5 j (mn 9999 ((S 5 j) + 1))) 1 j (mn 0 (keepF (S 0 j) (S 3 j) (S 2 j)))) (mn (0 - (mn 0 (keepF (S 0 j) (S 3 j) (S 2 j)))) (loseK (S 0 j))) ) cl_X1_78 yo_X1_lose dX1_passHour_111 rfl rfl rfl (Nat.le_of_ble_eq_true rfl) (Nat.le_of_ble_eq_true rfl) rfl (Nat.le_of_ble_eq_true rfl) ⟨Nat.zero_le _, Nat.zero_le _⟩ ?_
          refine J_aload_n E dX1_passHour_114 rfl 4 rfl ?_
          refine J_aload_n E dX1_passHour_115 rfl 4 rfl ?_
          refine J_iload_n E dX1_passHour_116 rfl 6 rfl ?_
          refine J_cVi0 E (As := [.int (nI j)]) (c_X1_leadsTo l G h (loseF (up2 (up2 S 5 j (mn 9999 ((S 5 j) + 1))) 1 j (mn 0 (keepF (S 0 j) (S 3 j) (S 2 j)))) (mn (0 - (mn 0 (keepF (S 0 j) (S 3 j) (S 2 j)))) (loseK (S 0 j)))) j (by omega)) cl_X1_96 yo_X1_leadsTo dX1_passHour_117 rfl rfl rfl (Nat.le_of_ble_eq_true rfl) (Nat.le_of_ble_eq_true rfl) rfl (Nat.le_of_ble_eq_true rfl) ⟨Nat.zero_le _, Nat.zero_le _⟩ ?_
          refine J_top (x' := leadF S j) (leadF_c (by simp [loseF_4, up2]) j) ?_
          refine J_iload E dX1_passHour_120 1 rfl ?_
          refine J_iload E dX1_passHour_122 0 rfl ?_
          refine J_isub E dX1_passHour_124 ?_
          refine J_cVv0 E (As := [.int (leadF S j), .int ((0 - (mn 0 (keepF (S 0 j) (S 3 j) (S 2 j)))) - (mn (0 - (mn 0 (keepF (S 0 j) (S 3 j) (S 2 j)))) (loseK (S 0 j))))]) (c_X1_bring l G h (loseF (up2 (up2 S 5 j (mn 9999 ((S 5 j) + 1))) 1 j (mn 0 (keepF (S 0 j) (S 3 j) (S 2 j)))) (mn (0 - (mn 0 (keepF (S 0 j) (S 3 j) (S 2 j)))) (loseK (S 0 j)))) (leadF S j) ((0 - (mn 0 (keepF (S 0 j) (S 3 j) (S 2 j)))) - (mn (0 - (mn 0 (keepF (S 0 j) (S 3 j) (S 2 j)))) (loseK (S 0 j)))) (leadF_in hS4 (by omega))) cl_X1_82 yo_X1_bring dX1_passHour_125 rfl rfl rfl (Nat.le_of_ble_eq_true rfl) (Nat.le_of_ble_eq_true rfl) rfl (Nat.le_of_ble_eq_true rfl) ⟨Nat.zero_le _, Nat.zero_le _⟩ ?_
          refine J_iinc E (lv' := [(3, .int ((nI j) + (-1))), (6, .int (mn (0 - (mn 0 (keepF (S 0 j) (S 3 j) (S 2 j)))) (loseK (S 0 j)))), (5, .int (0 - (mn 0 (keepF (S 0 j) (S 3 j) (S 2 j))))), (2, .int (d ||| (1 <<< ((nI j) &&& 31)))), (4, .int 0), (0, .ref (h 0)), (1, .int (nI last))]) dX1_passHour_128 6 rfl (i_dec _) (by decide) rfl ?_
          refine J_goto E (tgt := 13) dX1_passHour_131 (by decide) ?_
          refine J_lv [5, 6, 3, 0] rfl ?_
          exact ih13 j ((nI j) + (-1)) (d ||| (1 <<< ((nI j) &&& 31))) (bringF (loseF (up2 (up2 S 5 j (mn 9999 ((S 5 j) + 1))) 1 j (mn 0 (keepF (S 0 j) (S 3 j) (S 2 j)))) (mn (0 - (mn 0 (keepF (S 0 j) (S 3 j) (S 2 j)))) (loseK (S 0 j)))) (leadF S j) ((0 - (mn 0 (keepF (S 0 j) (S 3 j) (S 2 j)))) - (mn (0 - (mn 0 (keepF (S 0 j) (S 3 j) (S 2 j)))) (loseK (S 0 j))))) rfl (by omega) (by rw [show last + 1 - j = (last + 1 - (j + 1)) + 1 by omega, phS, ← hS, show last - (last + 1 - (j + 1)) = j by omega]; first | (rw [stepS_t c_33]; rfl) | (rw [stepS_f c_33]; rfl)) (by rw [show last + 1 - j = (last + 1 - (j + 1)) + 1 by omega, phD, ← hS, ← hd, show last - (last + 1 - (j + 1)) = j by omega, stepD]; first | rw [if_pos c_33]; rfl | rw [if_neg c_33]) (by omega)
  refine J_lv [2, 3, 1, 0] rfl ?_
  exact lp13 _ (last + 1) (nI last) 0 (bringF q 0 (q 7 2)) (by rw [pk_m1]) (by omega) (by rw [Nat.sub_self]; rfl) (by rw [Nat.sub_self]; rfl) (Nat.lt_succ_self _)
