/-- RAIN by a draw, an HOUR: so many times -/
def rainD (q : Q2) : Q2 := up2 (up2 q 7 1 (drawF (q 7 1))) 7 2 (us (drawF (q 7 1)) 8 - us (drawF (q 7 1)) 8 / 100 * 100)
def showQ (q : Q2) : Nat → Q2
  | 0 => q
  | n + 1 => hourM (rainD (showQ q n)) 10
def showN (q : Q2) : Nat → Int32
  | 0 => 0
  | n + 1 => if dryM (rainD (showQ q n)) 10 = 0 then showN q n else showN q n + 1
theorem rainD_4 (q : Q2) : rainD q 4 = q 4 := by simp [rainD, up2]
theorem showQ_4 (q : Q2) (n : Nat) : showQ q n 4 = q 4 := by
  induction n with
  | zero => rfl
  | succ n ih => rw [showQ, hourM_4, rainD_4, ih]
theorem showQ_sp {q : Q2} (h : spOk q) (n : Nat) : spOk (rainD (showQ q n)) := by
  intro y hy
  rw [rainD_4, showQ_4]
  exact h y hy
/-- the greatest of those up to c that divide both -/
def comF (ab : Nat) : Nat → Nat
  | 0 => 1
  | c + 1 => if c + 1 ≤ 1 then 1 else if ab % (c + 1) = 0 ∧ 100 % (c + 1) = 0 then c + 1 else comF ab c
theorem comF_pos (ab : Nat) : ∀ c, 1 ≤ comF ab c
  | 0 => Nat.le_refl _
  | c + 1 => by
    unfold comF
    split
    · exact Nat.le_refl _
    · split
      · omega
      · exact comF_pos ab c
def powF (b : Int64) : Nat → Int64
  | 0 => 1
  | n + 1 => powF b n * b
/-- so many bytes of a number behind the tape, the highest first -/
def feedT (t : Q2) (b : Int32) : Nat → Q2
  | 0 => t
  | n + 1 => feedT (addT t (b >>> (nI (8 * n) &&& 31) &&& 255)) b n
theorem addT_sz {t : Q2} {k : Nat} (h : t 1 0 = nI k) (v : Int32) : addT t v 1 0 = nI (k + 1) := by
  rw [addT, up2_s, h]
  exact nI_1 k
def undF (k : Nat) : Nat → Bool := fun o => match k with
  | 0 => o == 0
  | 1 => o == 1 || o == 0
  | 2 => o == 2 || o == 0
  | 3 => o == 3 || o == 2 || o == 0
  | 4 => o == 4 || o == 3 || o == 2 || o == 0
  | 5 => o == 5 || o == 0
  | _ => o == 6 || o == 1 || o == 0
def loadQ (q : Q2) (f : Nat → Int32) : Nat → Q2
  | 0 => q
  | n + 1 => up2 (loadQ q f n) 2 n (f n)
/-- how many come: from i on, of so many more -/
def loadN (f : Nat → Int32) : Nat → Nat → Nat
  | 0, i => i
  | n + 1, i => if 0 ≤ f i ∧ f i ≤ 99 then loadN f n (i + 1) else i
def judgP (q : Q2) (f : Nat → Int32) (i : Nat) : Bool := decide (okH (f i) ∧ (i = 0 ∨ leadF q (f (i - 1)).toNatClampNeg = f i))
def judgR (q : Q2) (f : Nat → Int32) : Nat → Nat → Int32
  | 0, _ => 0
  | n + 1, i => if judgP q f i then judgR q f n (i + 1) else 1 + nI i
def countF (x : Q3) (k : Nat) : Int32 := if k = 0 then x 0 7 0 else if k = 1 then cntF (fun j => decide (¬ x 0 0 j = 0)) 11 else if k = 2 then bcF (setF (fun j => decide (0 < x 0 5 j)) 11) else if k = 3 then sumF (x 0 1) 11 else if k = 4 then x 0 7 3 else if k = 5 then x 7 1 0 else if k = 6 then x 0 7 1 else cntF (fun j => decide (¬ x 0 6 j = -1)) 10
theorem okH_of {v : Int32} (h : okH v) : ∃ j : Nat, j < 11 ∧ v = nI j := by
  obtain ⟨j, hj, e⟩ := inU_of (n := 10) rfl h
  exact ⟨j, by omega, e⟩
theorem pred1 (i : Nat) : nI (i + 1) - 1 = nI i := nI_pred i

set_option maxHeartbeats 4000000 in
set_option maxRecDepth 20000 in
theorem c_X5_turned_out (l : Launch) (G : GB) (a : Nat → Nat) (x : Q3) (s : Int32) (h : Int32) (hs : ¬ (0 ≤ s ∧ s ≤ 3)) : CI l yX5_turned cX5_turned 6 .int 3 62 G [.ref (a 0), .int s, .int h] (wC G a x) (fun vR w' => vR = tellR 0 ∧ PubC G a (tellX x 0) w') := by
  refine CI.mk (own := RX5) (by decide) rfl (Nat.le_of_ble_eq_true rfl) ?_
  intro X E ret
  show J X G 6 0 0 (wC G a x) [(0, .ref (a 0)), (1, .int s), (2, .int h)] 0 []
  refine J_aload_n E dX5_turned_0 rfl 0 rfl ?_
  refine J_iload_n E dX5_turned_1 rfl 1 rfl ?_
  refine J_cVi0 E (As := [.int s]) (c_X5_seekSheet_out l G a x s hs ) cl_X5_170 yo_X5_seekSheet dX5_turned_2 rfl rfl rfl (Nat.le_of_ble_eq_true rfl) (Nat.le_of_ble_eq_true rfl) rfl (Nat.le_of_ble_eq_true rfl) ⟨Nat.zero_le _, Nat.zero_le _⟩ ?_
  refine J_istore_n E (lv' := [(3, .int (tellR 0)), (0, .ref (a 0)), (1, .int s), (2, .int h)]) dX5_turned_5 rfl (by decide) rfl ?_
  refine J_iload_n E dX5_turned_6 rfl 0 rfl ?_
  refine J_if_eq E (tgt := 12) dX5_turned_7 (by decide) (fun c_7 => ?_) (fun c_7 => ?_)
  · skip
    exact absurd c_7 (tellR_ne (by decide))
  · skip
    refine J_iload_n E dX5_turned_10 rfl 0 rfl ?_
    exact ret _ _ _ _ ⟨rfl, _, rfl, by intro g h2 h6; simp [upG, up3, up3R, h2, h6]⟩ rfl dX5_turned_11

set_option maxHeartbeats 4000000 in
set_option maxRecDepth 20000 in
theorem c_X5_turned_miss_0 (l : Launch) (G : GB) (a : Nat → Nat) (x : Q3) (h : Int32) (hb : x 8 1 0 = 0) : CI l yX5_turned cX5_turned 6 .int 3 62 G [.ref (a 0), .int (nI 0), .int h] (wC G a x) (fun vR w' => vR = tellR 5 ∧ PubC G a (tellX x 5) w') := by
  refine CI.mk (own := RX5) (by decide) rfl (Nat.le_of_ble_eq_true rfl) ?_
  intro X E ret
  show J X G 6 0 0 (wC G a x) [(0, .ref (a 0)), (1, .int (nI 0)), (2, .int h)] 0 []
  refine J_aload_n E dX5_turned_0 rfl 0 rfl ?_
  refine J_iload_n E dX5_turned_1 rfl 1 rfl ?_
  refine J_cVi0 E (As := [.int (nI 0)]) (c_X5_seekSheet_0_0 l G a x hb ) cl_X5_170 yo_X5_seekSheet dX5_turned_2 rfl rfl rfl (Nat.le_of_ble_eq_true rfl) (Nat.le_of_ble_eq_true rfl) rfl (Nat.le_of_ble_eq_true rfl) ⟨Nat.zero_le _, Nat.zero_le _⟩ ?_
  refine J_istore_n E (lv' := [(3, .int (tellR 5)), (0, .ref (a 0)), (1, .int (nI 0)), (2, .int h)]) dX5_turned_5 rfl (by decide) rfl ?_
  refine J_iload_n E dX5_turned_6 rfl 0 rfl ?_
  refine J_if_eq E (tgt := 12) dX5_turned_7 (by decide) (fun c_7 => ?_) (fun c_7 => ?_)
  · skip
    exact absurd c_7 (tellR_ne (by decide))
  · skip
    refine J_iload_n E dX5_turned_10 rfl 0 rfl ?_
    exact ret _ _ _ _ ⟨rfl, _, rfl, by intro g h2 h6; simp [upG, up3, up3R, h2, h6]⟩ rfl dX5_turned_11

set_option maxHeartbeats 4000000 in
set_option maxRecDepth 20000 in
theorem c_X5_turned_miss_1 (l : Launch) (G : GB) (a : Nat → Nat) (x : Q3) (h : Int32) (hb : x 9 1 0 = 0) : CI l yX5_turned cX5_turned 6 .int 3 62 G [.ref (a 0), .int (nI 1), .int h] (wC G a x) (fun vR w' => vR = tellR 5 ∧ PubC G a (tellX x 5) w') := by
  refine CI.mk (own := RX5) (by decide) rfl (Nat.le_of_ble_eq_true rfl) ?_
  intro X E ret
  show J X G 6 0 0 (wC G a x) [(0, .ref (a 0)), (1, .int (nI 1)), (2, .int h)] 0 []
  refine J_aload_n E dX5_turned_0 rfl 0 rfl ?_
  refine J_iload_n E dX5_turned_1 rfl 1 rfl ?_
  refine J_cVi0 E (As := [.int (nI 1)]) (c_X5_seekSheet_1_0 l G a x hb ) cl_X5_170 yo_X5_seekSheet dX5_turned_2 rfl rfl rfl (Nat.le_of_ble_eq_true rfl) (Nat.le_of_ble_eq_true rfl) rfl (Nat.le_of_ble_eq_true rfl) ⟨Nat.zero_le _, Nat.zero_le _⟩ ?_
  refine J_istore_n E (lv' := [(3, .int (tellR 5)), (0, .ref (a 0)), (1, .int (nI 1)), (2, .int h)]) dX5_turned_5 rfl (by decide) rfl ?_
  refine J_iload_n E dX5_turned_6 rfl 0 rfl ?_
  refine J_if_eq E (tgt := 12) dX5_turned_7 (by decide) (fun c_7 => ?_) (fun c_7 => ?_)
  · skip
    exact absurd c_7 (tellR_ne (by decide))
  · skip
    refine J_iload_n E dX5_turned_10 rfl 0 rfl ?_
    exact ret _ _ _ _ ⟨rfl, _, rfl, by intro g h2 h6; simp [upG, up3, up3R, h2, h6]⟩ rfl dX5_turned_11

set_option maxHeartbeats 4000000 in
set_option maxRecDepth 20000 in
theorem c_X5_turned_miss_2 (l : Launch) (G : GB) (a : Nat → Nat) (x : Q3) (h : Int32) (hb : x 10 1 0 = 0) : CI l yX5_turned cX5_turned 6 .int 3 62 G [.ref (a 0), .int (nI 2), .int h] (wC G a x) (fun vR w' => vR = tellR 5 ∧ PubC G a (tellX x 5) w') := by
  refine CI.mk (own := RX5) (by decide) rfl (Nat.le_of_ble_eq_true rfl) ?_
  intro X E ret
  show J X G 6 0 0 (wC G a x) [(0, .ref (a 0)), (1, .int (nI 2)), (2, .int h)] 0 []
  refine J_aload_n E dX5_turned_0 rfl 0 rfl ?_
  refine J_iload_n E dX5_turned_1 rfl 1 rfl ?_
  refine J_cVi0 E (As := [.int (nI 2)]) (c_X5_seekSheet_2_0 l G a x hb ) cl_X5_170 yo_X5_seekSheet dX5_turned_2 rfl rfl rfl (Nat.le_of_ble_eq_true rfl) (Nat.le_of_ble_eq_true rfl) rfl (Nat.le_of_ble_eq_true rfl) ⟨Nat.zero_le _, Nat.zero_le _⟩ ?_
  refine J_istore_n E (lv' := [(3, .int (tellR 5)), (0, .ref (a 0)), (1, .int (nI 2)), (2, .int h)]) dX5_turned_5 rfl (by decide) rfl ?_
  refine J_iload_n E dX5_turned_6 rfl 0 rfl ?_
  refine J_if_eq E (tgt := 12) dX5_turned_7 (by decide) (fun c_7 => ?_) (fun c_7 => ?_)
  · skip
    exact absurd c_7 (tellR_ne (by decide))
  · skip
    refine J_iload_n E dX5_turned_10 rfl 0 rfl ?_
    exact ret _ _ _ _ ⟨rfl, _, rfl, by intro g h2 h6; simp [upG, up3, up3R, h2, h6]⟩ rfl dX5_turned_11

set_option maxHeartbeats 4000000 in
set_option maxRecDepth 20000 in
theorem c_X5_turned_miss_3 (l : Launch) (G : GB) (a : Nat → Nat) (x : Q3) (h : Int32) (hb : x 11 1 0 = 0) : CI l yX5_turned cX5_turned 6 .int 3 62 G [.ref (a 0), .int (nI 3), .int h] (wC G a x) (fun vR w' => vR = tellR 5 ∧ PubC G a (tellX x 5) w') := by
  refine CI.mk (own := RX5) (by decide) rfl (Nat.le_of_ble_eq_true rfl) ?_
  intro X E ret
  show J X G 6 0 0 (wC G a x) [(0, .ref (a 0)), (1, .int (nI 3)), (2, .int h)] 0 []
  refine J_aload_n E dX5_turned_0 rfl 0 rfl ?_
  refine J_iload_n E dX5_turned_1 rfl 1 rfl ?_
  refine J_cVi0 E (As := [.int (nI 3)]) (c_X5_seekSheet_3_0 l G a x hb ) cl_X5_170 yo_X5_seekSheet dX5_turned_2 rfl rfl rfl (Nat.le_of_ble_eq_true rfl) (Nat.le_of_ble_eq_true rfl) rfl (Nat.le_of_ble_eq_true rfl) ⟨Nat.zero_le _, Nat.zero_le _⟩ ?_
  refine J_istore_n E (lv' := [(3, .int (tellR 5)), (0, .ref (a 0)), (1, .int (nI 3)), (2, .int h)]) dX5_turned_5 rfl (by decide) rfl ?_
  refine J_iload_n E dX5_turned_6 rfl 0 rfl ?_
  refine J_if_eq E (tgt := 12) dX5_turned_7 (by decide) (fun c_7 => ?_) (fun c_7 => ?_)
  · skip
    exact absurd c_7 (tellR_ne (by decide))
  · skip
    refine J_iload_n E dX5_turned_10 rfl 0 rfl ?_
    exact ret _ _ _ _ ⟨rfl, _, rfl, by intro g h2 h6; simp [upG, up3, up3R, h2, h6]⟩ rfl dX5_turned_11

set_option maxHeartbeats 4000000 in
set_option maxRecDepth 20000 in
theorem c_X5_turned_bad_0 (l : Launch) (G : GB) (a : Nat → Nat) (x : Q3) (h : Int32) (hb : ¬ x 8 1 0 = 0) (hh : ¬ okH h) : CI l yX5_turned cX5_turned 6 .int 3 62 G [.ref (a 0), .int (nI 0), .int h] (wC G a x) (fun vR w' => vR = tellR 0 ∧ PubC G a (tellX x 0) w') := by
  refine CI.mk (own := RX5) (by decide) rfl (Nat.le_of_ble_eq_true rfl) ?_
  intro X E ret
  show J X G 6 0 0 (wC G a x) [(0, .ref (a 0)), (1, .int (nI 0)), (2, .int h)] 0 []
  refine J_aload_n E dX5_turned_0 rfl 0 rfl ?_
  refine J_iload_n E dX5_turned_1 rfl 1 rfl ?_
  refine J_cVi0 E (As := [.int (nI 0)]) (c_X5_seekSheet_0_1 l G a x hb ) cl_X5_170 yo_X5_seekSheet dX5_turned_2 rfl rfl rfl (Nat.le_of_ble_eq_true rfl) (Nat.le_of_ble_eq_true rfl) rfl (Nat.le_of_ble_eq_true rfl) ⟨Nat.zero_le _, Nat.zero_le _⟩ ?_
  refine J_istore_n E (lv' := [(3, .int 0), (0, .ref (a 0)), (1, .int (nI 0)), (2, .int h)]) dX5_turned_5 rfl (by decide) rfl ?_
  refine J_iload_n E dX5_turned_6 rfl 0 rfl ?_
  refine J_if_eq E (tgt := 12) dX5_turned_7 (by decide) (fun c_7 => ?_) (fun c_7 => ?_)
  · skip
    have n_7 : 0 = 0 := cmp_eq (a := 0) (b := 0) (by omega) (by omega) c_7
    refine J_iload_n E dX5_turned_12 rfl 3 rfl ?_
    refine J_cSiN E (As := [.int h]) (c_X5_isHouse l G h ) cl_X5_52 yo_X5_isHouse dX5_turned_13 rfl (Nat.le_of_ble_eq_true rfl) (Nat.le_of_ble_eq_true rfl) rfl (Nat.le_of_ble_eq_true rfl) ⟨Nat.zero_le _, Nat.zero_le _⟩ ?_
    refine J_if_ne E (tgt := 25) dX5_turned_16 (by decide) (fun c_16 => ?_) (fun c_16 => ?_)
    · skip
      have c_16 := bI_1 c_16
      exact absurd c_16 hh
    · skip
      have c_16 := bI_0 c_16
      refine J_aload_n E dX5_turned_19 rfl 1 rfl ?_
      refine J_iconst E dX5_turned_20 ic_0 ?_
      refine J_cVi0 E (As := [.int 0]) (c_X5_tell l G a x 0 (by omega)) cl_X5_64 yo_X5_tell dX5_turned_21 rfl rfl rfl (Nat.le_of_ble_eq_true rfl) (Nat.le_of_ble_eq_true rfl) rfl (Nat.le_of_ble_eq_true rfl) ⟨Nat.zero_le _, Nat.zero_le _⟩ ?_
      exact ret _ _ _ _ ⟨rfl, _, rfl, by intro g h2 h6; simp [upG, up3, up3R, h2, h6]⟩ rfl dX5_turned_24
  · skip
    have n_7 : ¬ 0 = 0 := cmp_ne (a := 0) (b := 0) (by omega) (by omega) c_7
    exact absurd n_7 (by decide)

set_option maxHeartbeats 4000000 in
set_option maxRecDepth 20000 in
theorem c_X5_turned_ok_0 (l : Launch) (G : GB) (a : Nat → Nat) (x : Q3) (j n : Nat) (hb : ¬ x 8 1 0 = 0) (hj : j < 11) (hn : x 8 1 1 = nI n) (hn2 : n ≤ 40) (hsp : spOk (x 0)) : CI l yX5_turned cX5_turned 6 .int 5 115 G [.ref (a 0), .int (nI 0), .int (nI j)] (wC G a x) (fun vR w' => vR = setF (fun o => decide (¬ seenR (x 8 0) j n 0 (turnQ (x 0) (bitI o)) = 0)) 11 ∧ PubC G a x w') := by
  refine CI.mk (own := RX5) (by decide) rfl (Nat.le_of_ble_eq_true rfl) ?_
  intro X E ret
  show J X G 6 0 0 (wC G a x) [(0, .ref (a 0)), (1, .int (nI 0)), (2, .int (nI j))] 0 []
  refine J_aload_n E dX5_turned_0 rfl 0 rfl ?_
  refine J_iload_n E dX5_turned_1 rfl 1 rfl ?_
  refine J_cVi0 E (As := [.int (nI 0)]) (c_X5_seekSheet_0_1 l G a x hb ) cl_X5_170 yo_X5_seekSheet dX5_turned_2 rfl rfl rfl (Nat.le_of_ble_eq_true rfl) (Nat.le_of_ble_eq_true rfl) rfl (Nat.le_of_ble_eq_true rfl) ⟨Nat.zero_le _, Nat.zero_le _⟩ ?_
  refine J_istore_n E (lv' := [(3, .int 0), (0, .ref (a 0)), (1, .int (nI 0)), (2, .int (nI j))]) dX5_turned_5 rfl (by decide) rfl ?_
  refine J_iload_n E dX5_turned_6 rfl 0 rfl ?_
  refine J_if_eq E (tgt := 12) dX5_turned_7 (by decide) (fun c_7 => ?_) (fun c_7 => ?_)
  · skip
    have n_7 : 0 = 0 := cmp_eq (a := 0) (b := 0) (by omega) (by omega) c_7
    refine J_iload_n E dX5_turned_12 rfl 3 rfl ?_
    refine J_cSiN E (As := [.int (nI j)]) (c_X5_isHouse l G (nI j) ) cl_X5_52 yo_X5_isHouse dX5_turned_13 rfl (Nat.le_of_ble_eq_true rfl) (Nat.le_of_ble_eq_true rfl) rfl (Nat.le_of_ble_eq_true rfl) ⟨Nat.zero_le _, Nat.zero_le _⟩ ?_
    refine J_if_ne E (tgt := 25) dX5_turned_16 (by decide) (fun c_16 => ?_) (fun c_16 => ?_)
    · skip
      have c_16 := bI_1 c_16
      refine J_iconst E dX5_turned_25 ic_0 ?_
      refine J_istore E (lv' := [(4, .int 0), (3, .int 0), (0, .ref (a 0)), (1, .int (nI 0)), (2, .int (nI j))]) dX5_turned_26 (by decide) rfl ?_
      refine J_iconst E dX5_turned_28 ic_0 ?_
      refine J_istore E (lv' := [(5, .int 0), (4, .int 0), (3, .int 0), (0, .ref (a 0)), (1, .int (nI 0)), (2, .int (nI j))]) dX5_turned_29 (by decide) rfl ?_
      refine J_w (ws' := wC G a (upG x 2 (x 2))) (congrArg (wC G a) upG_id.symm) ?_
      have lp31 : ∀ (fu : Nat) (o : Nat) (s : Int32) (r : Q2), (o ≤ 11) → (s = setF (fun o => decide (¬ seenR (x 8 0) j n 0 (turnQ (x 0) (bitI o)) = 0)) o) → 11 - o < fu → J X G 6 0 0 (wC G a (upG x 2 r)) [(0, .ref (a 0)), (1, .int (nI 0)), (2, .int (nI j)), (4, .int s), (5, .int (nI o))] 31 [] := by
        intro fu
        induction fu with
        | zero => intro o s r hi h1 hm; exact absurd hm (Nat.not_lt_zero _)
        | succ fu ih31 =>
          intro o s r hi h1 hm
          refine J_iload E dX5_turned_31 4 rfl ?_
          refine J_bipush E dX5_turned_33 bp_11 ?_
          refine J_icmp_ge E (tgt := 75) dX5_turned_35 (by decide) (fun c_35 => ?_) (fun c_35 => ?_)
          · skip
            have n_35 : 11 ≤ o := cmp_le (a := 11) (b := o) (by omega) (by omega) c_35
            refine J_iload E dX5_turned_75 3 rfl ?_
            exact ret _ _ _ _ ⟨by rw [h1, show o = 11 by omega], _, rfl, by intro g h2 h6; simp [upG, up3, up3R, h2, h6]⟩ rfl dX5_turned_77
          · skip
            have n_35 : ¬ 11 ≤ o := cmp_nle (a := 11) (b := o) (by omega) (by omega) c_35
            refine J_aload_n E dX5_turned_38 rfl 0 rfl ?_
            refine J_iconst E dX5_turned_39 ic_1 ?_
            refine J_iload E dX5_turned_40 4 rfl ?_
            refine J_ishl E dX5_turned_42 ?_
            refine J_top (x' := bitI o) (rfl) ?_
            refine J_cVv0 E (As := [.int (bitI o)]) (c_X5_tryTurned l G a (upG x 2 r) (bitI o) ) cl_X5_166 yo_X5_tryTurned dX5_turned_43 rfl rfl rfl (Nat.le_of_ble_eq_true rfl) (Nat.le_of_ble_eq_true rfl) rfl (Nat.le_of_ble_eq_true rfl) ⟨Nat.zero_le _, Nat.zero_le _⟩ ?_
            refine J_aload_n E dX5_turned_46 rfl 0 rfl ?_
            refine J_aload_n E dX5_turned_47 rfl 0 rfl ?_
            refine gC0_X5_44 E dX5_turned_48 ?_
            refine J_iload_n E dX5_turned_51 rfl 1 rfl ?_
            refine laC_30_0 E dX5_turned_52 ?_
            refine J_iload_n E dX5_turned_53 rfl 2 rfl ?_
            refine J_cVi0 E (As := [.ref (a 31), .int (nI j)]) (c_X5_isTrialAsSeen_0 l G a (upG (upG x 2 r) 2 (turnQ (x 0) (bitI o))) j _ hj hn hn2 (turnQ_sp hsp _)) cl_X5_173 yo_X5_isTrialAsSeen dX5_turned_54 rfl rfl rfl (Nat.le_of_ble_eq_true rfl) (Nat.le_of_ble_eq_true rfl) rfl (Nat.le_of_ble_eq_true rfl) ⟨Nat.zero_le _, Nat.zero_le _⟩ ?_
            refine J_if_eq E (tgt := 69) dX5_turned_57 (by decide) (fun c_57 => ?_) (fun c_57 => ?_)
            · skip
              have c_57 : seenR (x 8 0) j n 0 (turnQ (x 0) (bitI o)) = 0 := c_57
              refine J_iinc E (lv' := [(5, .int (nI (o + 1))), (0, .ref (a 0)), (1, .int (nI 0)), (2, .int (nI j)), (4, .int s)]) dX5_turned_69 4 rfl (nI_inc _) (by decide) rfl ?_
              refine J_goto E (tgt := 31) dX5_turned_72 (by decide) ?_
              refine J_lv [1, 2, 3, 4, 0] rfl ?_
              exact ih31 (o + 1) s (seenS (x 8 0) j n 0 (turnQ (x 0) (bitI o))) (by omega) (by rw [h1, setF]; first | (rw [if_pos (decide_eq_true c_57)]; rfl) | rw [if_neg (c := decide (¬ seenR (x 8 0) j n 0 (turnQ (x 0) (bitI o)) = 0) = true) (fun z => absurd c_57 (of_decide_eq_true z))]) (by omega)
            · skip
              have c_57 : ¬ seenR (x 8 0) j n 0 (turnQ (x 0) (bitI o)) = 0 := c_57
              refine J_iload E dX5_turned_60 3 rfl ?_
              refine J_iconst E dX5_turned_62 ic_1 ?_
              refine J_iload E dX5_turned_63 4 rfl ?_
              refine J_ishl E dX5_turned_65 ?_
              refine J_ior E dX5_turned_66 ?_
              refine J_istore E (lv' := [(4, .int (s ||| (1 <<< ((nI o) &&& 31)))), (0, .ref (a 0)), (1, .int (nI 0)), (2, .int (nI j)), (5, .int (nI o))]) dX5_turned_67 (by decide) rfl ?_
              refine J_iinc E (lv' := [(5, .int (nI (o + 1))), (4, .int (s ||| (1 <<< ((nI o) &&& 31)))), (0, .ref (a 0)), (1, .int (nI 0)), (2, .int (nI j))]) dX5_turned_69 4 rfl (nI_inc _) (by decide) rfl ?_
              refine J_goto E (tgt := 31) dX5_turned_72 (by decide) ?_
              refine J_lv [2, 3, 4, 1, 0] rfl ?_
              exact ih31 (o + 1) (s ||| (1 <<< ((nI o) &&& 31))) (seenS (x 8 0) j n 0 (turnQ (x 0) (bitI o))) (by omega) (by rw [h1, setF]; first | (rw [if_pos (decide_eq_true c_57)]; rfl) | rw [if_neg (c := decide (¬ seenR (x 8 0) j n 0 (turnQ (x 0) (bitI o)) = 0) = true) (fun z => absurd c_57 (of_decide_eq_true z))]) (by omega)
      refine J_lv [3, 4, 5, 1, 0] rfl ?_
      exact lp31 _ 0 0 (x 2) (by omega) rfl (Nat.lt_succ_self _)
    · skip
      have c_16 := bI_0 c_16
      exact absurd (inB (a := j) (b := 10) (by omega) (by decide)) c_16
  · skip
    have n_7 : ¬ 0 = 0 := cmp_ne (a := 0) (b := 0) (by omega) (by omega) c_7
    exact absurd n_7 (by decide)

set_option maxHeartbeats 4000000 in
set_option maxRecDepth 20000 in
theorem c_X5_turned_bad_1 (l : Launch) (G : GB) (a : Nat → Nat) (x : Q3) (h : Int32) (hb : ¬ x 9 1 0 = 0) (hh : ¬ okH h) : CI l yX5_turned cX5_turned 6 .int 3 62 G [.ref (a 0), .int (nI 1), .int h] (wC G a x) (fun vR w' => vR = tellR 0 ∧ PubC G a (tellX x 0) w') := by
  refine CI.mk (own := RX5) (by decide) rfl (Nat.le_of_ble_eq_true rfl) ?_
  intro X E ret
  show J X G 6 0 0 (wC G a x) [(0, .ref (a 0)), (1, .int (nI 1)), (2, .int h)] 0 []
  refine J_aload_n E dX5_turned_0 rfl 0 rfl ?_
  refine J_iload_n E dX5_turned_1 rfl 1 rfl ?_
  refine J_cVi0 E (As := [.int (nI 1)]) (c_X5_seekSheet_1_1 l G a x hb ) cl_X5_170 yo_X5_seekSheet dX5_turned_2 rfl rfl rfl (Nat.le_of_ble_eq_true rfl) (Nat.le_of_ble_eq_true rfl) rfl (Nat.le_of_ble_eq_true rfl) ⟨Nat.zero_le _, Nat.zero_le _⟩ ?_
  refine J_istore_n E (lv' := [(3, .int 0), (0, .ref (a 0)), (1, .int (nI 1)), (2, .int h)]) dX5_turned_5 rfl (by decide) rfl ?_
  refine J_iload_n E dX5_turned_6 rfl 0 rfl ?_
  refine J_if_eq E (tgt := 12) dX5_turned_7 (by decide) (fun c_7 => ?_) (fun c_7 => ?_)
  · skip
    have n_7 : 0 = 0 := cmp_eq (a := 0) (b := 0) (by omega) (by omega) c_7
    refine J_iload_n E dX5_turned_12 rfl 3 rfl ?_
    refine J_cSiN E (As := [.int h]) (c_X5_isHouse l G h ) cl_X5_52 yo_X5_isHouse dX5_turned_13 rfl (Nat.le_of_ble_eq_true rfl) (Nat.le_of_ble_eq_true rfl) rfl (Nat.le_of_ble_eq_true rfl) ⟨Nat.zero_le _, Nat.zero_le _⟩ ?_
    refine J_if_ne E (tgt := 25) dX5_turned_16 (by decide) (fun c_16 => ?_) (fun c_16 => ?_)
    · skip
      have c_16 := bI_1 c_16
      exact absurd c_16 hh
    · skip
      have c_16 := bI_0 c_16
      refine J_aload_n E dX5_turned_19 rfl 1 rfl ?_
      refine J_iconst E dX5_turned_20 ic_0 ?_
      refine J_cVi0 E (As := [.int 0]) (c_X5_tell l G a x 0 (by omega)) cl_X5_64 yo_X5_tell dX5_turned_21 rfl rfl rfl (Nat.le_of_ble_eq_true rfl) (Nat.le_of_ble_eq_true rfl) rfl (Nat.le_of_ble_eq_true rfl) ⟨Nat.zero_le _, Nat.zero_le _⟩ ?_
      exact ret _ _ _ _ ⟨rfl, _, rfl, by intro g h2 h6; simp [upG, up3, up3R, h2, h6]⟩ rfl dX5_turned_24
  · skip
    have n_7 : ¬ 0 = 0 := cmp_ne (a := 0) (b := 0) (by omega) (by omega) c_7
    exact absurd n_7 (by decide)

set_option maxHeartbeats 4000000 in
set_option maxRecDepth 20000 in
theorem c_X5_turned_ok_1 (l : Launch) (G : GB) (a : Nat → Nat) (x : Q3) (j n : Nat) (hb : ¬ x 9 1 0 = 0) (hj : j < 11) (hn : x 9 1 1 = nI n) (hn2 : n ≤ 40) (hsp : spOk (x 0)) : CI l yX5_turned cX5_turned 6 .int 5 115 G [.ref (a 0), .int (nI 1), .int (nI j)] (wC G a x) (fun vR w' => vR = setF (fun o => decide (¬ seenR (x 9 0) j n 0 (turnQ (x 0) (bitI o)) = 0)) 11 ∧ PubC G a x w') := by
  refine CI.mk (own := RX5) (by decide) rfl (Nat.le_of_ble_eq_true rfl) ?_
  intro X E ret
  show J X G 6 0 0 (wC G a x) [(0, .ref (a 0)), (1, .int (nI 1)), (2, .int (nI j))] 0 []
  refine J_aload_n E dX5_turned_0 rfl 0 rfl ?_
  refine J_iload_n E dX5_turned_1 rfl 1 rfl ?_
  refine J_cVi0 E (As := [.int (nI 1)]) (c_X5_seekSheet_1_1 l G a x hb ) cl_X5_170 yo_X5_seekSheet dX5_turned_2 rfl rfl rfl (Nat.le_of_ble_eq_true rfl) (Nat.le_of_ble_eq_true rfl) rfl (Nat.le_of_ble_eq_true rfl) ⟨Nat.zero_le _, Nat.zero_le _⟩ ?_
  refine J_istore_n E (lv' := [(3, .int 0), (0, .ref (a 0)), (1, .int (nI 1)), (2, .int (nI j))]) dX5_turned_5 rfl (by decide) rfl ?_
  refine J_iload_n E dX5_turned_6 rfl 0 rfl ?_
  refine J_if_eq E (tgt := 12) dX5_turned_7 (by decide) (fun c_7 => ?_) (fun c_7 => ?_)
  · skip
    have n_7 : 0 = 0 := cmp_eq (a := 0) (b := 0) (by omega) (by omega) c_7
    refine J_iload_n E dX5_turned_12 rfl 3 rfl ?_
    refine J_cSiN E (As := [.int (nI j)]) (c_X5_isHouse l G (nI j) ) cl_X5_52 yo_X5_isHouse dX5_turned_13 rfl (Nat.le_of_ble_eq_true rfl) (Nat.le_of_ble_eq_true rfl) rfl (Nat.le_of_ble_eq_true rfl) ⟨Nat.zero_le _, Nat.zero_le _⟩ ?_
    refine J_if_ne E (tgt := 25) dX5_turned_16 (by decide) (fun c_16 => ?_) (fun c_16 => ?_)
    · skip
      have c_16 := bI_1 c_16
      refine J_iconst E dX5_turned_25 ic_0 ?_
      refine J_istore E (lv' := [(4, .int 0), (3, .int 0), (0, .ref (a 0)), (1, .int (nI 1)), (2, .int (nI j))]) dX5_turned_26 (by decide) rfl ?_
      refine J_iconst E dX5_turned_28 ic_0 ?_
      refine J_istore E (lv' := [(5, .int 0), (4, .int 0), (3, .int 0), (0, .ref (a 0)), (1, .int (nI 1)), (2, .int (nI j))]) dX5_turned_29 (by decide) rfl ?_
      refine J_w (ws' := wC G a (upG x 2 (x 2))) (congrArg (wC G a) upG_id.symm) ?_
      have lp31 : ∀ (fu : Nat) (o : Nat) (s : Int32) (r : Q2), (o ≤ 11) → (s = setF (fun o => decide (¬ seenR (x 9 0) j n 0 (turnQ (x 0) (bitI o)) = 0)) o) → 11 - o < fu → J X G 6 0 0 (wC G a (upG x 2 r)) [(0, .ref (a 0)), (1, .int (nI 1)), (2, .int (nI j)), (4, .int s), (5, .int (nI o))] 31 [] := by
        intro fu
        induction fu with
        | zero => intro o s r hi h1 hm; exact absurd hm (Nat.not_lt_zero _)
        | succ fu ih31 =>
          intro o s r hi h1 hm
          refine J_iload E dX5_turned_31 4 rfl ?_
          refine J_bipush E dX5_turned_33 bp_11 ?_
          refine J_icmp_ge E (tgt := 75) dX5_turned_35 (by decide) (fun c_35 => ?_) (fun c_35 => ?_)
          · skip
            have n_35 : 11 ≤ o := cmp_le (a := 11) (b := o) (by omega) (by omega) c_35
            refine J_iload E dX5_turned_75 3 rfl ?_
            exact ret _ _ _ _ ⟨by rw [h1, show o = 11 by omega], _, rfl, by intro g h2 h6; simp [upG, up3, up3R, h2, h6]⟩ rfl dX5_turned_77
          · skip
            have n_35 : ¬ 11 ≤ o := cmp_nle (a := 11) (b := o) (by omega) (by omega) c_35
            refine J_aload_n E dX5_turned_38 rfl 0 rfl ?_
            refine J_iconst E dX5_turned_39 ic_1 ?_
            refine J_iload E dX5_turned_40 4 rfl ?_
            refine J_ishl E dX5_turned_42 ?_
            refine J_top (x' := bitI o) (rfl) ?_
            refine J_cVv0 E (As := [.int (bitI o)]) (c_X5_tryTurned l G a (upG x 2 r) (bitI o) ) cl_X5_166 yo_X5_tryTurned dX5_turned_43 rfl rfl rfl (Nat.le_of_ble_eq_true rfl) (Nat.le_of_ble_eq_true rfl) rfl (Nat.le_of_ble_eq_true rfl) ⟨Nat.zero_le _, Nat.zero_le _⟩ ?_
            refine J_aload_n E dX5_turned_46 rfl 0 rfl ?_
            refine J_aload_n E dX5_turned_47 rfl 0 rfl ?_
            refine gC0_X5_44 E dX5_turned_48 ?_
            refine J_iload_n E dX5_turned_51 rfl 1 rfl ?_
            refine laC_30_1 E dX5_turned_52 ?_
            refine J_iload_n E dX5_turned_53 rfl 2 rfl ?_
            refine J_cVi0 E (As := [.ref (a 33), .int (nI j)]) (c_X5_isTrialAsSeen_1 l G a (upG (upG x 2 r) 2 (turnQ (x 0) (bitI o))) j _ hj hn hn2 (turnQ_sp hsp _)) cl_X5_173 yo_X5_isTrialAsSeen dX5_turned_54 rfl rfl rfl (Nat.le_of_ble_eq_true rfl) (Nat.le_of_ble_eq_true rfl) rfl (Nat.le_of_ble_eq_true rfl) ⟨Nat.zero_le _, Nat.zero_le _⟩ ?_
            refine J_if_eq E (tgt := 69) dX5_turned_57 (by decide) (fun c_57 => ?_) (fun c_57 => ?_)
            · skip
              have c_57 : seenR (x 9 0) j n 0 (turnQ (x 0) (bitI o)) = 0 := c_57
              refine J_iinc E (lv' := [(5, .int (nI (o + 1))), (0, .ref (a 0)), (1, .int (nI 1)), (2, .int (nI j)), (4, .int s)]) dX5_turned_69 4 rfl (nI_inc _) (by decide) rfl ?_
              refine J_goto E (tgt := 31) dX5_turned_72 (by decide) ?_
              refine J_lv [1, 2, 3, 4, 0] rfl ?_
              exact ih31 (o + 1) s (seenS (x 9 0) j n 0 (turnQ (x 0) (bitI o))) (by omega) (by rw [h1, setF]; first | (rw [if_pos (decide_eq_true c_57)]; rfl) | rw [if_neg (c := decide (¬ seenR (x 9 0) j n 0 (turnQ (x 0) (bitI o)) = 0) = true) (fun z => absurd c_57 (of_decide_eq_true z))]) (by omega)
            · skip
              have c_57 : ¬ seenR (x 9 0) j n 0 (turnQ (x 0) (bitI o)) = 0 := c_57
              refine J_iload E dX5_turned_60 3 rfl ?_
              refine J_iconst E dX5_turned_62 ic_1 ?_
              refine J_iload E dX5_turned_63 4 rfl ?_
              refine J_ishl E dX5_turned_65 ?_
              refine J_ior E dX5_turned_66 ?_
              refine J_istore E (lv' := [(4, .int (s ||| (1 <<< ((nI o) &&& 31)))), (0, .ref (a 0)), (1, .int (nI 1)), (2, .int (nI j)), (5, .int (nI o))]) dX5_turned_67 (by decide) rfl ?_
              refine J_iinc E (lv' := [(5, .int (nI (o + 1))), (4, .int (s ||| (1 <<< ((nI o) &&& 31)))), (0, .ref (a 0)), (1, .int (nI 1)), (2, .int (nI j))]) dX5_turned_69 4 rfl (nI_inc _) (by decide) rfl ?_
              refine J_goto E (tgt := 31) dX5_turned_72 (by decide) ?_
              refine J_lv [2, 3, 4, 1, 0] rfl ?_
              exact ih31 (o + 1) (s ||| (1 <<< ((nI o) &&& 31))) (seenS (x 9 0) j n 0 (turnQ (x 0) (bitI o))) (by omega) (by rw [h1, setF]; first | (rw [if_pos (decide_eq_true c_57)]; rfl) | rw [if_neg (c := decide (¬ seenR (x 9 0) j n 0 (turnQ (x 0) (bitI o)) = 0) = true) (fun z => absurd c_57 (of_decide_eq_true z))]) (by omega)
      refine J_lv [3, 4, 5, 1, 0] rfl ?_
      exact lp31 _ 0 0 (x 2) (by omega) rfl (Nat.lt_succ_self _)
    · skip
      have c_16 := bI_0 c_16
      exact absurd (inB (a := j) (b := 10) (by omega) (by decide)) c_16
  · skip
    have n_7 : ¬ 0 = 0 := cmp_ne (a := 0) (b := 0) (by omega) (by omega) c_7
    exact absurd n_7 (by decide)

set_option maxHeartbeats 4000000 in
set_option maxRecDepth 20000 in
theorem c_X5_turned_bad_2 (l : Launch) (G : GB) (a : Nat → Nat) (x : Q3) (h : Int32) (hb : ¬ x 10 1 0 = 0) (hh : ¬ okH h) : CI l yX5_turned cX5_turned 6 .int 3 62 G [.ref (a 0), .int (nI 2), .int h] (wC G a x) (fun vR w' => vR = tellR 0 ∧ PubC G a (tellX x 0) w') := by
  refine CI.mk (own := RX5) (by decide) rfl (Nat.le_of_ble_eq_true rfl) ?_
  intro X E ret
  show J X G 6 0 0 (wC G a x) [(0, .ref (a 0)), (1, .int (nI 2)), (2, .int h)] 0 []
  refine J_aload_n E dX5_turned_0 rfl 0 rfl ?_
  refine J_iload_n E dX5_turned_1 rfl 1 rfl ?_
  refine J_cVi0 E (As := [.int (nI 2)]) (c_X5_seekSheet_2_1 l G a x hb ) cl_X5_170 yo_X5_seekSheet dX5_turned_2 rfl rfl rfl (Nat.le_of_ble_eq_true rfl) (Nat.le_of_ble_eq_true rfl) rfl (Nat.le_of_ble_eq_true rfl) ⟨Nat.zero_le _, Nat.zero_le _⟩ ?_
  refine J_istore_n E (lv' := [(3, .int 0), (0, .ref (a 0)), (1, .int (nI 2)), (2, .int h)]) dX5_turned_5 rfl (by decide) rfl ?_
  refine J_iload_n E dX5_turned_6 rfl 0 rfl ?_
  refine J_if_eq E (tgt := 12) dX5_turned_7 (by decide) (fun c_7 => ?_) (fun c_7 => ?_)
  · skip
    have n_7 : 0 = 0 := cmp_eq (a := 0) (b := 0) (by omega) (by omega) c_7
    refine J_iload_n E dX5_turned_12 rfl 3 rfl ?_
    refine J_cSiN E (As := [.int h]) (c_X5_isHouse l G h ) cl_X5_52 yo_X5_isHouse dX5_turned_13 rfl (Nat.le_of_ble_eq_true rfl) (Nat.le_of_ble_eq_true rfl) rfl (Nat.le_of_ble_eq_true rfl) ⟨Nat.zero_le _, Nat.zero_le _⟩ ?_
    refine J_if_ne E (tgt := 25) dX5_turned_16 (by decide) (fun c_16 => ?_) (fun c_16 => ?_)
    · skip
      have c_16 := bI_1 c_16
      exact absurd c_16 hh
    · skip
      have c_16 := bI_0 c_16
      refine J_aload_n E dX5_turned_19 rfl 1 rfl ?_
      refine J_iconst E dX5_turned_20 ic_0 ?_
      refine J_cVi0 E (As := [.int 0]) (c_X5_tell l G a x 0 (by omega)) cl_X5_64 yo_X5_tell dX5_turned_21 rfl rfl rfl (Nat.le_of_ble_eq_true rfl) (Nat.le_of_ble_eq_true rfl) rfl (Nat.le_of_ble_eq_true rfl) ⟨Nat.zero_le _, Nat.zero_le _⟩ ?_
      exact ret _ _ _ _ ⟨rfl, _, rfl, by intro g h2 h6; simp [upG, up3, up3R, h2, h6]⟩ rfl dX5_turned_24
  · skip
    have n_7 : ¬ 0 = 0 := cmp_ne (a := 0) (b := 0) (by omega) (by omega) c_7
    exact absurd n_7 (by decide)

set_option maxHeartbeats 4000000 in
set_option maxRecDepth 20000 in
theorem c_X5_turned_ok_2 (l : Launch) (G : GB) (a : Nat → Nat) (x : Q3) (j n : Nat) (hb : ¬ x 10 1 0 = 0) (hj : j < 11) (hn : x 10 1 1 = nI n) (hn2 : n ≤ 40) (hsp : spOk (x 0)) : CI l yX5_turned cX5_turned 6 .int 5 115 G [.ref (a 0), .int (nI 2), .int (nI j)] (wC G a x) (fun vR w' => vR = setF (fun o => decide (¬ seenR (x 10 0) j n 0 (turnQ (x 0) (bitI o)) = 0)) 11 ∧ PubC G a x w') := by
  refine CI.mk (own := RX5) (by decide) rfl (Nat.le_of_ble_eq_true rfl) ?_
  intro X E ret
  show J X G 6 0 0 (wC G a x) [(0, .ref (a 0)), (1, .int (nI 2)), (2, .int (nI j))] 0 []
  refine J_aload_n E dX5_turned_0 rfl 0 rfl ?_
  refine J_iload_n E dX5_turned_1 rfl 1 rfl ?_
  refine J_cVi0 E (As := [.int (nI 2)]) (c_X5_seekSheet_2_1 l G a x hb ) cl_X5_170 yo_X5_seekSheet dX5_turned_2 rfl rfl rfl (Nat.le_of_ble_eq_true rfl) (Nat.le_of_ble_eq_true rfl) rfl (Nat.le_of_ble_eq_true rfl) ⟨Nat.zero_le _, Nat.zero_le _⟩ ?_
  refine J_istore_n E (lv' := [(3, .int 0), (0, .ref (a 0)), (1, .int (nI 2)), (2, .int (nI j))]) dX5_turned_5 rfl (by decide) rfl ?_
  refine J_iload_n E dX5_turned_6 rfl 0 rfl ?_
  refine J_if_eq E (tgt := 12) dX5_turned_7 (by decide) (fun c_7 => ?_) (fun c_7 => ?_)
  · skip
    have n_7 : 0 = 0 := cmp_eq (a := 0) (b := 0) (by omega) (by omega) c_7
    refine J_iload_n E dX5_turned_12 rfl 3 rfl ?_
    refine J_cSiN E (As := [.int (nI j)]) (c_X5_isHouse l G (nI j) ) cl_X5_52 yo_X5_isHouse dX5_turned_13 rfl (Nat.le_of_ble_eq_true rfl) (Nat.le_of_ble_eq_true rfl) rfl (Nat.le_of_ble_eq_true rfl) ⟨Nat.zero_le _, Nat.zero_le _⟩ ?_
    refine J_if_ne E (tgt := 25) dX5_turned_16 (by decide) (fun c_16 => ?_) (fun c_16 => ?_)
    · skip
      have c_16 := bI_1 c_16
      refine J_iconst E dX5_turned_25 ic_0 ?_
      refine J_istore E (lv' := [(4, .int 0), (3, .int 0), (0, .ref (a 0)), (1, .int (nI 2)), (2, .int (nI j))]) dX5_turned_26 (by decide) rfl ?_
      refine J_iconst E dX5_turned_28 ic_0 ?_
      refine J_istore E (lv' := [(5, .int 0), (4, .int 0), (3, .int 0), (0, .ref (a 0)), (1, .int (nI 2)), (2, .int (nI j))]) dX5_turned_29 (by decide) rfl ?_
      refine J_w (ws' := wC G a (upG x 2 (x 2))) (congrArg (wC G a) upG_id.symm) ?_
      have lp31 : ∀ (fu : Nat) (o : Nat) (s : Int32) (r : Q2), (o ≤ 11) → (s = setF (fun o => decide (¬ seenR (x 10 0) j n 0 (turnQ (x 0) (bitI o)) = 0)) o) → 11 - o < fu → J X G 6 0 0 (wC G a (upG x 2 r)) [(0, .ref (a 0)), (1, .int (nI 2)), (2, .int (nI j)), (4, .int s), (5, .int (nI o))] 31 [] := by
        intro fu
        induction fu with
        | zero => intro o s r hi h1 hm; exact absurd hm (Nat.not_lt_zero _)
        | succ fu ih31 =>
          intro o s r hi h1 hm
          refine J_iload E dX5_turned_31 4 rfl ?_
          refine J_bipush E dX5_turned_33 bp_11 ?_
          refine J_icmp_ge E (tgt := 75) dX5_turned_35 (by decide) (fun c_35 => ?_) (fun c_35 => ?_)
          · skip
            have n_35 : 11 ≤ o := cmp_le (a := 11) (b := o) (by omega) (by omega) c_35
            refine J_iload E dX5_turned_75 3 rfl ?_
            exact ret _ _ _ _ ⟨by rw [h1, show o = 11 by omega], _, rfl, by intro g h2 h6; simp [upG, up3, up3R, h2, h6]⟩ rfl dX5_turned_77
          · skip
            have n_35 : ¬ 11 ≤ o := cmp_nle (a := 11) (b := o) (by omega) (by omega) c_35
            refine J_aload_n E dX5_turned_38 rfl 0 rfl ?_
            refine J_iconst E dX5_turned_39 ic_1 ?_
            refine J_iload E dX5_turned_40 4 rfl ?_
            refine J_ishl E dX5_turned_42 ?_
            refine J_top (x' := bitI o) (rfl) ?_
            refine J_cVv0 E (As := [.int (bitI o)]) (c_X5_tryTurned l G a (upG x 2 r) (bitI o) ) cl_X5_166 yo_X5_tryTurned dX5_turned_43 rfl rfl rfl (Nat.le_of_ble_eq_true rfl) (Nat.le_of_ble_eq_true rfl) rfl (Nat.le_of_ble_eq_true rfl) ⟨Nat.zero_le _, Nat.zero_le _⟩ ?_
            refine J_aload_n E dX5_turned_46 rfl 0 rfl ?_
            refine J_aload_n E dX5_turned_47 rfl 0 rfl ?_
            refine gC0_X5_44 E dX5_turned_48 ?_
            refine J_iload_n E dX5_turned_51 rfl 1 rfl ?_
            refine laC_30_2 E dX5_turned_52 ?_
            refine J_iload_n E dX5_turned_53 rfl 2 rfl ?_
            refine J_cVi0 E (As := [.ref (a 35), .int (nI j)]) (c_X5_isTrialAsSeen_2 l G a (upG (upG x 2 r) 2 (turnQ (x 0) (bitI o))) j _ hj hn hn2 (turnQ_sp hsp _)) cl_X5_173 yo_X5_isTrialAsSeen dX5_turned_54 rfl rfl rfl (Nat.le_of_ble_eq_true rfl) (Nat.le_of_ble_eq_true rfl) rfl (Nat.le_of_ble_eq_true rfl) ⟨Nat.zero_le _, Nat.zero_le _⟩ ?_
            refine J_if_eq E (tgt := 69) dX5_turned_57 (by decide) (fun c_57 => ?_) (fun c_57 => ?_)
            · skip
              have c_57 : seenR (x 10 0) j n 0 (turnQ (x 0) (bitI o)) = 0 := c_57
              refine J_iinc E (lv' := [(5, .int (nI (o + 1))), (0, .ref (a 0)), (1, .int (nI 2)), (2, .int (nI j)), (4, .int s)]) dX5_turned_69 4 rfl (nI_inc _) (by decide) rfl ?_
              refine J_goto E (tgt := 31) dX5_turned_72 (by decide) ?_
              refine J_lv [1, 2, 3, 4, 0] rfl ?_
              exact ih31 (o + 1) s (seenS (x 10 0) j n 0 (turnQ (x 0) (bitI o))) (by omega) (by rw [h1, setF]; first | (rw [if_pos (decide_eq_true c_57)]; rfl) | rw [if_neg (c := decide (¬ seenR (x 10 0) j n 0 (turnQ (x 0) (bitI o)) = 0) = true) (fun z => absurd c_57 (of_decide_eq_true z))]) (by omega)
            · skip
              have c_57 : ¬ seenR (x 10 0) j n 0 (turnQ (x 0) (bitI o)) = 0 := c_57
              refine J_iload E dX5_turned_60 3 rfl ?_
              refine J_iconst E dX5_turned_62 ic_1 ?_
              refine J_iload E dX5_turned_63 4 rfl ?_
              refine J_ishl E dX5_turned_65 ?_
              refine J_ior E dX5_turned_66 ?_
              refine J_istore E (lv' := [(4, .int (s ||| (1 <<< ((nI o) &&& 31)))), (0, .ref (a 0)), (1, .int (nI 2)), (2, .int (nI j)), (5, .int (nI o))]) dX5_turned_67 (by decide) rfl ?_
              refine J_iinc E (lv' := [(5, .int (nI (o + 1))), (4, .int (s ||| (1 <<< ((nI o) &&& 31)))), (0, .ref (a 0)), (1, .int (nI 2)), (2, .int (nI j))]) dX5_turned_69 4 rfl (nI_inc _) (by decide) rfl ?_
              refine J_goto E (tgt := 31) dX5_turned_72 (by decide) ?_
              refine J_lv [2, 3, 4, 1, 0] rfl ?_
              exact ih31 (o + 1) (s ||| (1 <<< ((nI o) &&& 31))) (seenS (x 10 0) j n 0 (turnQ (x 0) (bitI o))) (by omega) (by rw [h1, setF]; first | (rw [if_pos (decide_eq_true c_57)]; rfl) | rw [if_neg (c := decide (¬ seenR (x 10 0) j n 0 (turnQ (x 0) (bitI o)) = 0) = true) (fun z => absurd c_57 (of_decide_eq_true z))]) (by omega)
      refine J_lv [3, 4, 5, 1, 0] rfl ?_
      exact lp31 _ 0 0 (x 2) (by omega) rfl (Nat.lt_succ_self _)
    · skip
      have c_16 := bI_0 c_16
      exact absurd (inB (a := j) (b := 10) (by omega) (by decide)) c_16
  · skip
    have n_7 : ¬ 0 = 0 := cmp_ne (a := 0) (b := 0) (by omega) (by omega) c_7
    exact absurd n_7 (by decide)

set_option maxHeartbeats 4000000 in
set_option maxRecDepth 20000 in
theorem c_X5_turned_bad_3 (l : Launch) (G : GB) (a : Nat → Nat) (x : Q3) (h : Int32) (hb : ¬ x 11 1 0 = 0) (hh : ¬ okH h) : CI l yX5_turned cX5_turned 6 .int 3 62 G [.ref (a 0), .int (nI 3), .int h] (wC G a x) (fun vR w' => vR = tellR 0 ∧ PubC G a (tellX x 0) w') := by
  refine CI.mk (own := RX5) (by decide) rfl (Nat.le_of_ble_eq_true rfl) ?_
  intro X E ret
  show J X G 6 0 0 (wC G a x) [(0, .ref (a 0)), (1, .int (nI 3)), (2, .int h)] 0 []
  refine J_aload_n E dX5_turned_0 rfl 0 rfl ?_
  refine J_iload_n E dX5_turned_1 rfl 1 rfl ?_
  refine J_cVi0 E (As := [.int (nI 3)]) (c_X5_seekSheet_3_1 l G a x hb ) cl_X5_170 yo_X5_seekSheet dX5_turned_2 rfl rfl rfl (Nat.le_of_ble_eq_true rfl) (Nat.le_of_ble_eq_true rfl) rfl (Nat.le_of_ble_eq_true rfl) ⟨Nat.zero_le _, Nat.zero_le _⟩ ?_
  refine J_istore_n E (lv' := [(3, .int 0), (0, .ref (a 0)), (1, .int (nI 3)), (2, .int h)]) dX5_turned_5 rfl (by decide) rfl ?_
  refine J_iload_n E dX5_turned_6 rfl 0 rfl ?_
  refine J_if_eq E (tgt := 12) dX5_turned_7 (by decide) (fun c_7 => ?_) (fun c_7 => ?_)
  · skip
    have n_7 : 0 = 0 := cmp_eq (a := 0) (b := 0) (by omega) (by omega) c_7
    refine J_iload_n E dX5_turned_12 rfl 3 rfl ?_
    refine J_cSiN E (As := [.int h]) (c_X5_isHouse l G h ) cl_X5_52 yo_X5_isHouse dX5_turned_13 rfl (Nat.le_of_ble_eq_true rfl) (Nat.le_of_ble_eq_true rfl) rfl (Nat.le_of_ble_eq_true rfl) ⟨Nat.zero_le _, Nat.zero_le _⟩ ?_
    refine J_if_ne E (tgt := 25) dX5_turned_16 (by decide) (fun c_16 => ?_) (fun c_16 => ?_)
    · skip
      have c_16 := bI_1 c_16
      exact absurd c_16 hh
    · skip
      have c_16 := bI_0 c_16
      refine J_aload_n E dX5_turned_19 rfl 1 rfl ?_
      refine J_iconst E dX5_turned_20 ic_0 ?_
      refine J_cVi0 E (As := [.int 0]) (c_X5_tell l G a x 0 (by omega)) cl_X5_64 yo_X5_tell dX5_turned_21 rfl rfl rfl (Nat.le_of_ble_eq_true rfl) (Nat.le_of_ble_eq_true rfl) rfl (Nat.le_of_ble_eq_true rfl) ⟨Nat.zero_le _, Nat.zero_le _⟩ ?_
      exact ret _ _ _ _ ⟨rfl, _, rfl, by intro g h2 h6; simp [upG, up3, up3R, h2, h6]⟩ rfl dX5_turned_24
  · skip
    have n_7 : ¬ 0 = 0 := cmp_ne (a := 0) (b := 0) (by omega) (by omega) c_7
    exact absurd n_7 (by decide)

set_option maxHeartbeats 4000000 in
set_option maxRecDepth 20000 in
theorem c_X5_turned_ok_3 (l : Launch) (G : GB) (a : Nat → Nat) (x : Q3) (j n : Nat) (hb : ¬ x 11 1 0 = 0) (hj : j < 11) (hn : x 11 1 1 = nI n) (hn2 : n ≤ 40) (hsp : spOk (x 0)) : CI l yX5_turned cX5_turned 6 .int 5 115 G [.ref (a 0), .int (nI 3), .int (nI j)] (wC G a x) (fun vR w' => vR = setF (fun o => decide (¬ seenR (x 11 0) j n 0 (turnQ (x 0) (bitI o)) = 0)) 11 ∧ PubC G a x w') := by
  refine CI.mk (own := RX5) (by decide) rfl (Nat.le_of_ble_eq_true rfl) ?_
  intro X E ret
  show J X G 6 0 0 (wC G a x) [(0, .ref (a 0)), (1, .int (nI 3)), (2, .int (nI j))] 0 []
  refine J_aload_n E dX5_turned_0 rfl 0 rfl ?_
  refine J_iload_n E dX5_turned_1 rfl 1 rfl ?_
  refine J_cVi0 E (As := [.int (nI 3)]) (c_X5_seekSheet_3_1 l G a x hb ) cl_X5_170 yo_X5_seekSheet dX5_turned_2 rfl rfl rfl (Nat.le_of_ble_eq_true rfl) (Nat.le_of_ble_eq_true rfl) rfl (Nat.le_of_ble_eq_true rfl) ⟨Nat.zero_le _, Nat.zero_le _⟩ ?_
  refine J_istore_n E (lv' := [(3, .int 0), (0, .ref (a 0)), (1, .int (nI 3)), (2, .int (nI j))]) dX5_turned_5 rfl (by decide) rfl ?_
  refine J_iload_n E dX5_turned_6 rfl 0 rfl ?_
  refine J_if_eq E (tgt := 12) dX5_turned_7 (by decide) (fun c_7 => ?_) (fun c_7 => ?_)
  · skip
    have n_7 : 0 = 0 := cmp_eq (a := 0) (b := 0) (by omega) (by omega) c_7
    refine J_iload_n E dX5_turned_12 rfl 3 rfl ?_
    refine J_cSiN E (As := [.int (nI j)]) (c_X5_isHouse l G (nI j) ) cl_X5_52 yo_X5_isHouse dX5_turned_13 rfl (Nat.le_of_ble_eq_true rfl) (Nat.le_of_ble_eq_true rfl) rfl (Nat.le_of_ble_eq_true rfl) ⟨Nat.zero_le _, Nat.zero_le _⟩ ?_
    refine J_if_ne E (tgt := 25) dX5_turned_16 (by decide) (fun c_16 => ?_) (fun c_16 => ?_)
    · skip
      have c_16 := bI_1 c_16
      refine J_iconst E dX5_turned_25 ic_0 ?_
      refine J_istore E (lv' := [(4, .int 0), (3, .int 0), (0, .ref (a 0)), (1, .int (nI 3)), (2, .int (nI j))]) dX5_turned_26 (by decide) rfl ?_
      refine J_iconst E dX5_turned_28 ic_0 ?_
      refine J_istore E (lv' := [(5, .int 0), (4, .int 0), (3, .int 0), (0, .ref (a 0)), (1, .int (nI 3)), (2, .int (nI j))]) dX5_turned_29 (by decide) rfl ?_
      refine J_w (ws' := wC G a (upG x 2 (x 2))) (congrArg (wC G a) upG_id.symm) ?_
      have lp31 : ∀ (fu : Nat) (o : Nat) (s : Int32) (r : Q2), (o ≤ 11) → (s = setF (fun o => decide (¬ seenR (x 11 0) j n 0 (turnQ (x 0) (bitI o)) = 0)) o) → 11 - o < fu → J X G 6 0 0 (wC G a (upG x 2 r)) [(0, .ref (a 0)), (1, .int (nI 3)), (2, .int (nI j)), (4, .int s), (5, .int (nI o))] 31 [] := by
        intro fu
        induction fu with
        | zero => intro o s r hi h1 hm; exact absurd hm (Nat.not_lt_zero _)
        | succ fu ih31 =>
          intro o s r hi h1 hm
          refine J_iload E dX5_turned_31 4 rfl ?_
          refine J_bipush E dX5_turned_33 bp_11 ?_
          refine J_icmp_ge E (tgt := 75) dX5_turned_35 (by decide) (fun c_35 => ?_) (fun c_35 => ?_)
          · skip
            have n_35 : 11 ≤ o := cmp_le (a := 11) (b := o) (by omega) (by omega) c_35
            refine J_iload E dX5_turned_75 3 rfl ?_
            exact ret _ _ _ _ ⟨by rw [h1, show o = 11 by omega], _, rfl, by intro g h2 h6; simp [upG, up3, up3R, h2, h6]⟩ rfl dX5_turned_77
          · skip
            have n_35 : ¬ 11 ≤ o := cmp_nle (a := 11) (b := o) (by omega) (by omega) c_35
            refine J_aload_n E dX5_turned_38 rfl 0 rfl ?_
            refine J_iconst E dX5_turned_39 ic_1 ?_
            refine J_iload E dX5_turned_40 4 rfl ?_
            refine J_ishl E dX5_turned_42 ?_
            refine J_top (x' := bitI o) (rfl) ?_
            refine J_cVv0 E (As := [.int (bitI o)]) (c_X5_tryTurned l G a (upG x 2 r) (bitI o) ) cl_X5_166 yo_X5_tryTurned dX5_turned_43 rfl rfl rfl (Nat.le_of_ble_eq_true rfl) (Nat.le_of_ble_eq_true rfl) rfl (Nat.le_of_ble_eq_true rfl) ⟨Nat.zero_le _, Nat.zero_le _⟩ ?_
            refine J_aload_n E dX5_turned_46 rfl 0 rfl ?_
            refine J_aload_n E dX5_turned_47 rfl 0 rfl ?_
            refine gC0_X5_44 E dX5_turned_48 ?_
            refine J_iload_n E dX5_turned_51 rfl 1 rfl ?_
            refine laC_30_3 E dX5_turned_52 ?_
            refine J_iload_n E dX5_turned_53 rfl 2 rfl ?_
            refine J_cVi0 E (As := [.ref (a 37), .int (nI j)]) (c_X5_isTrialAsSeen_3 l G a (upG (upG x 2 r) 2 (turnQ (x 0) (bitI o))) j _ hj hn hn2 (turnQ_sp hsp _)) cl_X5_173 yo_X5_isTrialAsSeen dX5_turned_54 rfl rfl rfl (Nat.le_of_ble_eq_true rfl) (Nat.le_of_ble_eq_true rfl) rfl (Nat.le_of_ble_eq_true rfl) ⟨Nat.zero_le _, Nat.zero_le _⟩ ?_
            refine J_if_eq E (tgt := 69) dX5_turned_57 (by decide) (fun c_57 => ?_) (fun c_57 => ?_)
            · skip
              have c_57 : seenR (x 11 0) j n 0 (turnQ (x 0) (bitI o)) = 0 := c_57
              refine J_iinc E (lv' := [(5, .int (nI (o + 1))), (0, .ref (a 0)), (1, .int (nI 3)), (2, .int (nI j)), (4, .int s)]) dX5_turned_69 4 rfl (nI_inc _) (by decide) rfl ?_
              refine J_goto E (tgt := 31) dX5_turned_72 (by decide) ?_
              refine J_lv [1, 2, 3, 4, 0] rfl ?_
              exact ih31 (o + 1) s (seenS (x 11 0) j n 0 (turnQ (x 0) (bitI o))) (by omega) (by rw [h1, setF]; first | (rw [if_pos (decide_eq_true c_57)]; rfl) | rw [if_neg (c := decide (¬ seenR (x 11 0) j n 0 (turnQ (x 0) (bitI o)) = 0) = true) (fun z => absurd c_57 (of_decide_eq_true z))]) (by omega)
            · skip
              have c_57 : ¬ seenR (x 11 0) j n 0 (turnQ (x 0) (bitI o)) = 0 := c_57
              refine J_iload E dX5_turned_60 3 rfl ?_
              refine J_iconst E dX5_turned_62 ic_1 ?_
              refine J_iload E dX5_turned_63 4 rfl ?_
              refine J_ishl E dX5_turned_65 ?_
              refine J_ior E dX5_turned_66 ?_
              refine J_istore E (lv' := [(4, .int (s ||| (1 <<< ((nI o) &&& 31)))), (0, .ref (a 0)), (1, .int (nI 3)), (2, .int (nI j)), (5, .int (nI o))]) dX5_turned_67 (by decide) rfl ?_
              refine J_iinc E (lv' := [(5, .int (nI (o + 1))), (4, .int (s ||| (1 <<< ((nI o) &&& 31)))), (0, .ref (a 0)), (1, .int (nI 3)), (2, .int (nI j))]) dX5_turned_69 4 rfl (nI_inc _) (by decide) rfl ?_
              refine J_goto E (tgt := 31) dX5_turned_72 (by decide) ?_
              refine J_lv [2, 3, 4, 1, 0] rfl ?_
              exact ih31 (o + 1) (s ||| (1 <<< ((nI o) &&& 31))) (seenS (x 11 0) j n 0 (turnQ (x 0) (bitI o))) (by omega) (by rw [h1, setF]; first | (rw [if_pos (decide_eq_true c_57)]; rfl) | rw [if_neg (c := decide (¬ seenR (x 11 0) j n 0 (turnQ (x 0) (bitI o)) = 0) = true) (fun z => absurd c_57 (of_decide_eq_true z))]) (by omega)
      refine J_lv [3, 4, 5, 1, 0] rfl ?_
      exact lp31 _ 0 0 (x 2) (by omega) rfl (Nat.lt_succ_self _)
    · skip
      have c_16 := bI_0 c_16
      exact absurd (inB (a := j) (b := 10) (by omega) (by decide)) c_16
  · skip
    have n_7 : ¬ 0 = 0 := cmp_ne (a := 0) (b := 0) (by omega) (by omega) c_7
    exact absurd n_7 (by decide)

set_option maxHeartbeats 4000000 in
set_option maxRecDepth 20000 in
theorem c_X5_kinds_out (l : Launch) (G : GB) (a : Nat → Nat) (x : Q3) (s : Int32) (h : Int32) (hs : ¬ (0 ≤ s ∧ s ≤ 3)) : CI l yX5_kinds cX5_kinds 6 .int 3 62 G [.ref (a 0), .int s, .int h] (wC G a x) (fun vR w' => vR = tellR 0 ∧ PubC G a (tellX x 0) w') := by
  refine CI.mk (own := RX5) (by decide) rfl (Nat.le_of_ble_eq_true rfl) ?_
  intro X E ret
  show J X G 6 0 0 (wC G a x) [(0, .ref (a 0)), (1, .int s), (2, .int h)] 0 []
  refine J_aload_n E dX5_kinds_0 rfl 0 rfl ?_
  refine J_iload_n E dX5_kinds_1 rfl 1 rfl ?_
  refine J_cVi0 E (As := [.int s]) (c_X5_seekSheet_out l G a x s hs ) cl_X5_170 yo_X5_seekSheet dX5_kinds_2 rfl rfl rfl (Nat.le_of_ble_eq_true rfl) (Nat.le_of_ble_eq_true rfl) rfl (Nat.le_of_ble_eq_true rfl) ⟨Nat.zero_le _, Nat.zero_le _⟩ ?_
  refine J_istore_n E (lv' := [(3, .int (tellR 0)), (0, .ref (a 0)), (1, .int s), (2, .int h)]) dX5_kinds_5 rfl (by decide) rfl ?_
  refine J_iload_n E dX5_kinds_6 rfl 0 rfl ?_
  refine J_if_eq E (tgt := 12) dX5_kinds_7 (by decide) (fun c_7 => ?_) (fun c_7 => ?_)
  · skip
    exact absurd c_7 (tellR_ne (by decide))
  · skip
    refine J_iload_n E dX5_kinds_10 rfl 0 rfl ?_
    exact ret _ _ _ _ ⟨rfl, _, rfl, by intro g h2 h6; simp [upG, up3, up3R, h2, h6]⟩ rfl dX5_kinds_11

set_option maxHeartbeats 4000000 in
set_option maxRecDepth 20000 in
theorem c_X5_kinds_miss_0 (l : Launch) (G : GB) (a : Nat → Nat) (x : Q3) (h : Int32) (hb : x 8 1 0 = 0) : CI l yX5_kinds cX5_kinds 6 .int 3 62 G [.ref (a 0), .int (nI 0), .int h] (wC G a x) (fun vR w' => vR = tellR 5 ∧ PubC G a (tellX x 5) w') := by
  refine CI.mk (own := RX5) (by decide) rfl (Nat.le_of_ble_eq_true rfl) ?_
  intro X E ret
  show J X G 6 0 0 (wC G a x) [(0, .ref (a 0)), (1, .int (nI 0)), (2, .int h)] 0 []
  refine J_aload_n E dX5_kinds_0 rfl 0 rfl ?_
  refine J_iload_n E dX5_kinds_1 rfl 1 rfl ?_
  refine J_cVi0 E (As := [.int (nI 0)]) (c_X5_seekSheet_0_0 l G a x hb ) cl_X5_170 yo_X5_seekSheet dX5_kinds_2 rfl rfl rfl (Nat.le_of_ble_eq_true rfl) (Nat.le_of_ble_eq_true rfl) rfl (Nat.le_of_ble_eq_true rfl) ⟨Nat.zero_le _, Nat.zero_le _⟩ ?_
  refine J_istore_n E (lv' := [(3, .int (tellR 5)), (0, .ref (a 0)), (1, .int (nI 0)), (2, .int h)]) dX5_kinds_5 rfl (by decide) rfl ?_
  refine J_iload_n E dX5_kinds_6 rfl 0 rfl ?_
  refine J_if_eq E (tgt := 12) dX5_kinds_7 (by decide) (fun c_7 => ?_) (fun c_7 => ?_)
  · skip
    exact absurd c_7 (tellR_ne (by decide))
  · skip
    refine J_iload_n E dX5_kinds_10 rfl 0 rfl ?_
    exact ret _ _ _ _ ⟨rfl, _, rfl, by intro g h2 h6; simp [upG, up3, up3R, h2, h6]⟩ rfl dX5_kinds_11

set_option maxHeartbeats 4000000 in
set_option maxRecDepth 20000 in
theorem c_X5_kinds_miss_1 (l : Launch) (G : GB) (a : Nat → Nat) (x : Q3) (h : Int32) (hb : x 9 1 0 = 0) : CI l yX5_kinds cX5_kinds 6 .int 3 62 G [.ref (a 0), .int (nI 1), .int h] (wC G a x) (fun vR w' => vR = tellR 5 ∧ PubC G a (tellX x 5) w') := by
  refine CI.mk (own := RX5) (by decide) rfl (Nat.le_of_ble_eq_true rfl) ?_
  intro X E ret
  show J X G 6 0 0 (wC G a x) [(0, .ref (a 0)), (1, .int (nI 1)), (2, .int h)] 0 []
  refine J_aload_n E dX5_kinds_0 rfl 0 rfl ?_
  refine J_iload_n E dX5_kinds_1 rfl 1 rfl ?_
  refine J_cVi0 E (As := [.int (nI 1)]) (c_X5_seekSheet_1_0 l G a x hb ) cl_X5_170 yo_X5_seekSheet dX5_kinds_2 rfl rfl rfl (Nat.le_of_ble_eq_true rfl) (Nat.le_of_ble_eq_true rfl) rfl (Nat.le_of_ble_eq_true rfl) ⟨Nat.zero_le _, Nat.zero_le _⟩ ?_
  refine J_istore_n E (lv' := [(3, .int (tellR 5)), (0, .ref (a 0)), (1, .int (nI 1)), (2, .int h)]) dX5_kinds_5 rfl (by decide) rfl ?_
  refine J_iload_n E dX5_kinds_6 rfl 0 rfl ?_
  refine J_if_eq E (tgt := 12) dX5_kinds_7 (by decide) (fun c_7 => ?_) (fun c_7 => ?_)
  · skip
    exact absurd c_7 (tellR_ne (by decide))
  · skip
    refine J_iload_n E dX5_kinds_10 rfl 0 rfl ?_
    exact ret _ _ _ _ ⟨rfl, _, rfl, by intro g h2 h6; simp [upG, up3, up3R, h2, h6]⟩ rfl dX5_kinds_11

set_option maxHeartbeats 4000000 in
set_option maxRecDepth 20000 in
theorem c_X5_kinds_miss_2 (l : Launch) (G : GB) (a : Nat → Nat) (x : Q3) (h : Int32) (hb : x 10 1 0 = 0) : CI l yX5_kinds cX5_kinds 6 .int 3 62 G [.ref (a 0), .int (nI 2), .int h] (wC G a x) (fun vR w' => vR = tellR 5 ∧ PubC G a (tellX x 5) w') := by
  refine CI.mk (own := RX5) (by decide) rfl (Nat.le_of_ble_eq_true rfl) ?_
  intro X E ret
  show J X G 6 0 0 (wC G a x) [(0, .ref (a 0)), (1, .int (nI 2)), (2, .int h)] 0 []
  refine J_aload_n E dX5_kinds_0 rfl 0 rfl ?_
  refine J_iload_n E dX5_kinds_1 rfl 1 rfl ?_
  refine J_cVi0 E (As := [.int (nI 2)]) (c_X5_seekSheet_2_0 l G a x hb ) cl_X5_170 yo_X5_seekSheet dX5_kinds_2 rfl rfl rfl (Nat.le_of_ble_eq_true rfl) (Nat.le_of_ble_eq_true rfl) rfl (Nat.le_of_ble_eq_true rfl) ⟨Nat.zero_le _, Nat.zero_le _⟩ ?_
  refine J_istore_n E (lv' := [(3, .int (tellR 5)), (0, .ref (a 0)), (1, .int (nI 2)), (2, .int h)]) dX5_kinds_5 rfl (by decide) rfl ?_
  refine J_iload_n E dX5_kinds_6 rfl 0 rfl ?_
  refine J_if_eq E (tgt := 12) dX5_kinds_7 (by decide) (fun c_7 => ?_) (fun c_7 => ?_)
  · skip
    exact absurd c_7 (tellR_ne (by decide))
  · skip
    refine J_iload_n E dX5_kinds_10 rfl 0 rfl ?_
    exact ret _ _ _ _ ⟨rfl, _, rfl, by intro g h2 h6; simp [upG, up3, up3R, h2, h6]⟩ rfl dX5_kinds_11

set_option maxHeartbeats 4000000 in
set_option maxRecDepth 20000 in
theorem c_X5_kinds_miss_3 (l : Launch) (G : GB) (a : Nat → Nat) (x : Q3) (h : Int32) (hb : x 11 1 0 = 0) : CI l yX5_kinds cX5_kinds 6 .int 3 62 G [.ref (a 0), .int (nI 3), .int h] (wC G a x) (fun vR w' => vR = tellR 5 ∧ PubC G a (tellX x 5) w') := by
  refine CI.mk (own := RX5) (by decide) rfl (Nat.le_of_ble_eq_true rfl) ?_
  intro X E ret
  show J X G 6 0 0 (wC G a x) [(0, .ref (a 0)), (1, .int (nI 3)), (2, .int h)] 0 []
  refine J_aload_n E dX5_kinds_0 rfl 0 rfl ?_
  refine J_iload_n E dX5_kinds_1 rfl 1 rfl ?_
  refine J_cVi0 E (As := [.int (nI 3)]) (c_X5_seekSheet_3_0 l G a x hb ) cl_X5_170 yo_X5_seekSheet dX5_kinds_2 rfl rfl rfl (Nat.le_of_ble_eq_true rfl) (Nat.le_of_ble_eq_true rfl) rfl (Nat.le_of_ble_eq_true rfl) ⟨Nat.zero_le _, Nat.zero_le _⟩ ?_
  refine J_istore_n E (lv' := [(3, .int (tellR 5)), (0, .ref (a 0)), (1, .int (nI 3)), (2, .int h)]) dX5_kinds_5 rfl (by decide) rfl ?_
  refine J_iload_n E dX5_kinds_6 rfl 0 rfl ?_
  refine J_if_eq E (tgt := 12) dX5_kinds_7 (by decide) (fun c_7 => ?_) (fun c_7 => ?_)
  · skip
    exact absurd c_7 (tellR_ne (by decide))
  · skip
    refine J_iload_n E dX5_kinds_10 rfl 0 rfl ?_
    exact ret _ _ _ _ ⟨rfl, _, rfl, by intro g h2 h6; simp [upG, up3, up3R, h2, h6]⟩ rfl dX5_kinds_11

set_option maxHeartbeats 4000000 in
set_option maxRecDepth 20000 in
theorem c_X5_kinds_bad_0 (l : Launch) (G : GB) (a : Nat → Nat) (x : Q3) (h : Int32) (hb : ¬ x 8 1 0 = 0) (hh : ¬ okH h) : CI l yX5_kinds cX5_kinds 6 .int 3 62 G [.ref (a 0), .int (nI 0), .int h] (wC G a x) (fun vR w' => vR = tellR 0 ∧ PubC G a (tellX x 0) w') := by
  refine CI.mk (own := RX5) (by decide) rfl (Nat.le_of_ble_eq_true rfl) ?_
  intro X E ret
  show J X G 6 0 0 (wC G a x) [(0, .ref (a 0)), (1, .int (nI 0)), (2, .int h)] 0 []
  refine J_aload_n E dX5_kinds_0 rfl 0 rfl ?_
  refine J_iload_n E dX5_kinds_1 rfl 1 rfl ?_
  refine J_cVi0 E (As := [.int (nI 0)]) (c_X5_seekSheet_0_1 l G a x hb ) cl_X5_170 yo_X5_seekSheet dX5_kinds_2 rfl rfl rfl (Nat.le_of_ble_eq_true rfl) (Nat.le_of_ble_eq_true rfl) rfl (Nat.le_of_ble_eq_true rfl) ⟨Nat.zero_le _, Nat.zero_le _⟩ ?_
  refine J_istore_n E (lv' := [(3, .int 0), (0, .ref (a 0)), (1, .int (nI 0)), (2, .int h)]) dX5_kinds_5 rfl (by decide) rfl ?_
  refine J_iload_n E dX5_kinds_6 rfl 0 rfl ?_
  refine J_if_eq E (tgt := 12) dX5_kinds_7 (by decide) (fun c_7 => ?_) (fun c_7 => ?_)
  · skip
    have n_7 : 0 = 0 := cmp_eq (a := 0) (b := 0) (by omega) (by omega) c_7
    refine J_iload_n E dX5_kinds_12 rfl 3 rfl ?_
    refine J_cSiN E (As := [.int h]) (c_X5_isHouse l G h ) cl_X5_52 yo_X5_isHouse dX5_kinds_13 rfl (Nat.le_of_ble_eq_true rfl) (Nat.le_of_ble_eq_true rfl) rfl (Nat.le_of_ble_eq_true rfl) ⟨Nat.zero_le _, Nat.zero_le _⟩ ?_
    refine J_if_ne E (tgt := 25) dX5_kinds_16 (by decide) (fun c_16 => ?_) (fun c_16 => ?_)
    · skip
      have c_16 := bI_1 c_16
      exact absurd c_16 hh
    · skip
      have c_16 := bI_0 c_16
      refine J_aload_n E dX5_kinds_19 rfl 1 rfl ?_
      refine J_iconst E dX5_kinds_20 ic_0 ?_
      refine J_cVi0 E (As := [.int 0]) (c_X5_tell l G a x 0 (by omega)) cl_X5_64 yo_X5_tell dX5_kinds_21 rfl rfl rfl (Nat.le_of_ble_eq_true rfl) (Nat.le_of_ble_eq_true rfl) rfl (Nat.le_of_ble_eq_true rfl) ⟨Nat.zero_le _, Nat.zero_le _⟩ ?_
      exact ret _ _ _ _ ⟨rfl, _, rfl, by intro g h2 h6; simp [upG, up3, up3R, h2, h6]⟩ rfl dX5_kinds_24
  · skip
    have n_7 : ¬ 0 = 0 := cmp_ne (a := 0) (b := 0) (by omega) (by omega) c_7
    exact absurd n_7 (by decide)

set_option maxHeartbeats 4000000 in
set_option maxRecDepth 20000 in
theorem c_X5_kinds_ok_0 (l : Launch) (G : GB) (a : Nat → Nat) (x : Q3) (j n : Nat) (hb : ¬ x 8 1 0 = 0) (hj : j < 11) (hn : x 8 1 1 = nI n) (hn2 : n ≤ 40) (hsp : spOk (x 0)) : CI l yX5_kinds cX5_kinds 6 .int 5 115 G [.ref (a 0), .int (nI 0), .int (nI j)] (wC G a x) (fun vR w' => vR = setF (fun o => decide (¬ seenR (x 8 0) j n 0 (withQ (x 0) 0 (nI o) j) = 0)) 7 ∧ PubC G a x w') := by
  refine CI.mk (own := RX5) (by decide) rfl (Nat.le_of_ble_eq_true rfl) ?_
  intro X E ret
  show J X G 6 0 0 (wC G a x) [(0, .ref (a 0)), (1, .int (nI 0)), (2, .int (nI j))] 0 []
  refine J_aload_n E dX5_kinds_0 rfl 0 rfl ?_
  refine J_iload_n E dX5_kinds_1 rfl 1 rfl ?_
  refine J_cVi0 E (As := [.int (nI 0)]) (c_X5_seekSheet_0_1 l G a x hb ) cl_X5_170 yo_X5_seekSheet dX5_kinds_2 rfl rfl rfl (Nat.le_of_ble_eq_true rfl) (Nat.le_of_ble_eq_true rfl) rfl (Nat.le_of_ble_eq_true rfl) ⟨Nat.zero_le _, Nat.zero_le _⟩ ?_
  refine J_istore_n E (lv' := [(3, .int 0), (0, .ref (a 0)), (1, .int (nI 0)), (2, .int (nI j))]) dX5_kinds_5 rfl (by decide) rfl ?_
  refine J_iload_n E dX5_kinds_6 rfl 0 rfl ?_
  refine J_if_eq E (tgt := 12) dX5_kinds_7 (by decide) (fun c_7 => ?_) (fun c_7 => ?_)
  · skip
    have n_7 : 0 = 0 := cmp_eq (a := 0) (b := 0) (by omega) (by omega) c_7
    refine J_iload_n E dX5_kinds_12 rfl 3 rfl ?_
    refine J_cSiN E (As := [.int (nI j)]) (c_X5_isHouse l G (nI j) ) cl_X5_52 yo_X5_isHouse dX5_kinds_13 rfl (Nat.le_of_ble_eq_true rfl) (Nat.le_of_ble_eq_true rfl) rfl (Nat.le_of_ble_eq_true rfl) ⟨Nat.zero_le _, Nat.zero_le _⟩ ?_
    refine J_if_ne E (tgt := 25) dX5_kinds_16 (by decide) (fun c_16 => ?_) (fun c_16 => ?_)
    · skip
      have c_16 := bI_1 c_16
      refine J_iconst E dX5_kinds_25 ic_0 ?_
      refine J_istore E (lv' := [(4, .int 0), (3, .int 0), (0, .ref (a 0)), (1, .int (nI 0)), (2, .int (nI j))]) dX5_kinds_26 (by decide) rfl ?_
      refine J_iconst E dX5_kinds_28 ic_0 ?_
      refine J_istore E (lv' := [(5, .int 0), (4, .int 0), (3, .int 0), (0, .ref (a 0)), (1, .int (nI 0)), (2, .int (nI j))]) dX5_kinds_29 (by decide) rfl ?_
      refine J_w (ws' := wC G a (upG x 2 (x 2))) (congrArg (wC G a) upG_id.symm) ?_
      have lp31 : ∀ (fu : Nat) (o : Nat) (s : Int32) (r : Q2), (o ≤ 7) → (s = setF (fun o => decide (¬ seenR (x 8 0) j n 0 (withQ (x 0) 0 (nI o) j) = 0)) o) → 7 - o < fu → J X G 6 0 0 (wC G a (upG x 2 r)) [(0, .ref (a 0)), (1, .int (nI 0)), (2, .int (nI j)), (4, .int s), (5, .int (nI o))] 31 [] := by
        intro fu
        induction fu with
        | zero => intro o s r hi h1 hm; exact absurd hm (Nat.not_lt_zero _)
        | succ fu ih31 =>
          intro o s r hi h1 hm
          refine J_iload E dX5_kinds_31 4 rfl ?_
          refine J_bipush E dX5_kinds_33 bp_7 ?_
          refine J_icmp_ge E (tgt := 75) dX5_kinds_35 (by decide) (fun c_35 => ?_) (fun c_35 => ?_)
          · skip
            have n_35 : 7 ≤ o := cmp_le (a := 7) (b := o) (by omega) (by omega) c_35
            refine J_iload E dX5_kinds_75 3 rfl ?_
            exact ret _ _ _ _ ⟨by rw [h1, show o = 7 by omega], _, rfl, by intro g h2 h6; simp [upG, up3, up3R, h2, h6]⟩ rfl dX5_kinds_77
          · skip
            have n_35 : ¬ 7 ≤ o := cmp_nle (a := 7) (b := o) (by omega) (by omega) c_35
            refine J_aload_n E dX5_kinds_38 rfl 0 rfl ?_
            refine J_iconst E dX5_kinds_39 ic_0 ?_
            refine J_iload E dX5_kinds_40 4 rfl ?_
            refine J_iload_n E dX5_kinds_42 rfl 2 rfl ?_
            refine J_cVv0 E (As := [.int 0, .int (nI o), .int (nI j)]) (c_X5_tryWith l G a (upG x 2 r) 0 (nI o) j (by decide) hj) cl_X5_151 yo_X5_tryWith dX5_kinds_43 rfl rfl rfl (Nat.le_of_ble_eq_true rfl) (Nat.le_of_ble_eq_true rfl) rfl (Nat.le_of_ble_eq_true rfl) ⟨Nat.zero_le _, Nat.zero_le _⟩ ?_
            refine J_aload_n E dX5_kinds_46 rfl 0 rfl ?_
            refine J_aload_n E dX5_kinds_47 rfl 0 rfl ?_
            refine gC0_X5_44 E dX5_kinds_48 ?_
            refine J_iload_n E dX5_kinds_51 rfl 1 rfl ?_
            refine laC_30_0 E dX5_kinds_52 ?_
            refine J_iload_n E dX5_kinds_53 rfl 2 rfl ?_
            refine J_cVi0 E (As := [.ref (a 31), .int (nI j)]) (c_X5_isTrialAsSeen_0 l G a (upG (upG x 2 r) 2 (withQ (x 0) 0 (nI o) j)) j _ hj hn hn2 (show spOk (withQ (x 0) 0 (nI o) j) from withQ_sp hsp (by decide) _ _)) cl_X5_173 yo_X5_isTrialAsSeen dX5_kinds_54 rfl rfl rfl (Nat.le_of_ble_eq_true rfl) (Nat.le_of_ble_eq_true rfl) rfl (Nat.le_of_ble_eq_true rfl) ⟨Nat.zero_le _, Nat.zero_le _⟩ ?_
            refine J_if_eq E (tgt := 69) dX5_kinds_57 (by decide) (fun c_57 => ?_) (fun c_57 => ?_)
            · skip
              have c_57 : seenR (x 8 0) j n 0 (withQ (x 0) 0 (nI o) j) = 0 := c_57
              refine J_iinc E (lv' := [(5, .int (nI (o + 1))), (0, .ref (a 0)), (1, .int (nI 0)), (2, .int (nI j)), (4, .int s)]) dX5_kinds_69 4 rfl (nI_inc _) (by decide) rfl ?_
              refine J_goto E (tgt := 31) dX5_kinds_72 (by decide) ?_
              refine J_lv [1, 2, 3, 4, 0] rfl ?_
              exact ih31 (o + 1) s (seenS (x 8 0) j n 0 (withQ (x 0) 0 (nI o) j)) (by omega) (by rw [h1, setF]; first | (rw [if_pos (decide_eq_true c_57)]; rfl) | rw [if_neg (c := decide (¬ seenR (x 8 0) j n 0 (withQ (x 0) 0 (nI o) j) = 0) = true) (fun z => absurd c_57 (of_decide_eq_true z))]) (by omega)
            · skip
              have c_57 : ¬ seenR (x 8 0) j n 0 (withQ (x 0) 0 (nI o) j) = 0 := c_57
              refine J_iload E dX5_kinds_60 3 rfl ?_
              refine J_iconst E dX5_kinds_62 ic_1 ?_
              refine J_iload E dX5_kinds_63 4 rfl ?_
              refine J_ishl E dX5_kinds_65 ?_
              refine J_ior E dX5_kinds_66 ?_
              refine J_istore E (lv' := [(4, .int (s ||| (1 <<< ((nI o) &&& 31)))), (0, .ref (a 0)), (1, .int (nI 0)), (2, .int (nI j)), (5, .int (nI o))]) dX5_kinds_67 (by decide) rfl ?_
              refine J_iinc E (lv' := [(5, .int (nI (o + 1))), (4, .int (s ||| (1 <<< ((nI o) &&& 31)))), (0, .ref (a 0)), (1, .int (nI 0)), (2, .int (nI j))]) dX5_kinds_69 4 rfl (nI_inc _) (by decide) rfl ?_
              refine J_goto E (tgt := 31) dX5_kinds_72 (by decide) ?_
              refine J_lv [2, 3, 4, 1, 0] rfl ?_
              exact ih31 (o + 1) (s ||| (1 <<< ((nI o) &&& 31))) (seenS (x 8 0) j n 0 (withQ (x 0) 0 (nI o) j)) (by omega) (by rw [h1, setF]; first | (rw [if_pos (decide_eq_true c_57)]; rfl) | rw [if_neg (c := decide (¬ seenR (x 8 0) j n 0 (withQ (x 0) 0 (nI o) j) = 0) = true) (fun z => absurd c_57 (of_decide_eq_true z))]) (by omega)
      refine J_lv [3, 4, 5, 1, 0] rfl ?_
      exact lp31 _ 0 0 (x 2) (by omega) rfl (Nat.lt_succ_self _)
    · skip
      have c_16 := bI_0 c_16
      exact absurd (inB (a := j) (b := 10) (by omega) (by decide)) c_16
  · skip
    have n_7 : ¬ 0 = 0 := cmp_ne (a := 0) (b := 0) (by omega) (by omega) c_7
    exact absurd n_7 (by decide)

set_option maxHeartbeats 4000000 in
set_option maxRecDepth 20000 in
theorem c_X5_kinds_bad_1 (l : Launch) (G : GB) (a : Nat → Nat) (x : Q3) (h : Int32) (hb : ¬ x 9 1 0 = 0) (hh : ¬ okH h) : CI l yX5_kinds cX5_kinds 6 .int 3 62 G [.ref (a 0), .int (nI 1), .int h] (wC G a x) (fun vR w' => vR = tellR 0 ∧ PubC G a (tellX x 0) w') := by
  refine CI.mk (own := RX5) (by decide) rfl (Nat.le_of_ble_eq_true rfl) ?_
  intro X E ret
  show J X G 6 0 0 (wC G a x) [(0, .ref (a 0)), (1, .int (nI 1)), (2, .int h)] 0 []
  refine J_aload_n E dX5_kinds_0 rfl 0 rfl ?_
  refine J_iload_n E dX5_kinds_1 rfl 1 rfl ?_
  refine J_cVi0 E (As := [.int (nI 1)]) (c_X5_seekSheet_1_1 l G a x hb ) cl_X5_170 yo_X5_seekSheet dX5_kinds_2 rfl rfl rfl (Nat.le_of_ble_eq_true rfl) (Nat.le_of_ble_eq_true rfl) rfl (Nat.le_of_ble_eq_true rfl) ⟨Nat.zero_le _, Nat.zero_le _⟩ ?_
  refine J_istore_n E (lv' := [(3, .int 0), (0, .ref (a 0)), (1, .int (nI 1)), (2, .int h)]) dX5_kinds_5 rfl (by decide) rfl ?_
  refine J_iload_n E dX5_kinds_6 rfl 0 rfl ?_
  refine J_if_eq E (tgt := 12) dX5_kinds_7 (by decide) (fun c_7 => ?_) (fun c_7 => ?_)
  · skip
    have n_7 : 0 = 0 := cmp_eq (a := 0) (b := 0) (by omega) (by omega) c_7
    refine J_iload_n E dX5_kinds_12 rfl 3 rfl ?_
    refine J_cSiN E (As := [.int h]) (c_X5_isHouse l G h ) cl_X5_52 yo_X5_isHouse dX5_kinds_13 rfl (Nat.le_of_ble_eq_true rfl) (Nat.le_of_ble_eq_true rfl) rfl (Nat.le_of_ble_eq_true rfl) ⟨Nat.zero_le _, Nat.zero_le _⟩ ?_
    refine J_if_ne E (tgt := 25) dX5_kinds_16 (by decide) (fun c_16 => ?_) (fun c_16 => ?_)
    · skip
      have c_16 := bI_1 c_16
      exact absurd c_16 hh
    · skip
      have c_16 := bI_0 c_16
      refine J_aload_n E dX5_kinds_19 rfl 1 rfl ?_
      refine J_iconst E dX5_kinds_20 ic_0 ?_
      refine J_cVi0 E (As := [.int 0]) (c_X5_tell l G a x 0 (by omega)) cl_X5_64 yo_X5_tell dX5_kinds_21 rfl rfl rfl (Nat.le_of_ble_eq_true rfl) (Nat.le_of_ble_eq_true rfl) rfl (Nat.le_of_ble_eq_true rfl) ⟨Nat.zero_le _, Nat.zero_le _⟩ ?_
      exact ret _ _ _ _ ⟨rfl, _, rfl, by intro g h2 h6; simp [upG, up3, up3R, h2, h6]⟩ rfl dX5_kinds_24
  · skip
    have n_7 : ¬ 0 = 0 := cmp_ne (a := 0) (b := 0) (by omega) (by omega) c_7
    exact absurd n_7 (by decide)

set_option maxHeartbeats 4000000 in
set_option maxRecDepth 20000 in
theorem c_X5_kinds_ok_1 (l : Launch) (G : GB) (a : Nat → Nat) (x : Q3) (j n : Nat) (hb : ¬ x 9 1 0 = 0) (hj : j < 11) (hn : x 9 1 1 = nI n) (hn2 : n ≤ 40) (hsp : spOk (x 0)) : CI l yX5_kinds cX5_kinds 6 .int 5 115 G [.ref (a 0), .int (nI 1), .int (nI j)] (wC G a x) (fun vR w' => vR = setF (fun o => decide (¬ seenR (x 9 0) j n 0 (withQ (x 0) 0 (nI o) j) = 0)) 7 ∧ PubC G a x w') := by
  refine CI.mk (own := RX5) (by decide) rfl (Nat.le_of_ble_eq_true rfl) ?_
  intro X E ret
  show J X G 6 0 0 (wC G a x) [(0, .ref (a 0)), (1, .int (nI 1)), (2, .int (nI j))] 0 []
  refine J_aload_n E dX5_kinds_0 rfl 0 rfl ?_
  refine J_iload_n E dX5_kinds_1 rfl 1 rfl ?_
  refine J_cVi0 E (As := [.int (nI 1)]) (c_X5_seekSheet_1_1 l G a x hb ) cl_X5_170 yo_X5_seekSheet dX5_kinds_2 rfl rfl rfl (Nat.le_of_ble_eq_true rfl) (Nat.le_of_ble_eq_true rfl) rfl (Nat.le_of_ble_eq_true rfl) ⟨Nat.zero_le _, Nat.zero_le _⟩ ?_
  refine J_istore_n E (lv' := [(3, .int 0), (0, .ref (a 0)), (1, .int (nI 1)), (2, .int (nI j))]) dX5_kinds_5 rfl (by decide) rfl ?_
  refine J_iload_n E dX5_kinds_6 rfl 0 rfl ?_
  refine J_if_eq E (tgt := 12) dX5_kinds_7 (by decide) (fun c_7 => ?_) (fun c_7 => ?_)
  · skip
    have n_7 : 0 = 0 := cmp_eq (a := 0) (b := 0) (by omega) (by omega) c_7
    refine J_iload_n E dX5_kinds_12 rfl 3 rfl ?_
    refine J_cSiN E (As := [.int (nI j)]) (c_X5_isHouse l G (nI j) ) cl_X5_52 yo_X5_isHouse dX5_kinds_13 rfl (Nat.le_of_ble_eq_true rfl) (Nat.le_of_ble_eq_true rfl) rfl (Nat.le_of_ble_eq_true rfl) ⟨Nat.zero_le _, Nat.zero_le _⟩ ?_
    refine J_if_ne E (tgt := 25) dX5_kinds_16 (by decide) (fun c_16 => ?_) (fun c_16 => ?_)
    · skip
      have c_16 := bI_1 c_16
      refine J_iconst E dX5_kinds_25 ic_0 ?_
      refine J_istore E (lv' := [(4, .int 0), (3, .int 0), (0, .ref (a 0)), (1, .int (nI 1)), (2, .int (nI j))]) dX5_kinds_26 (by decide) rfl ?_
      refine J_iconst E dX5_kinds_28 ic_0 ?_
      refine J_istore E (lv' := [(5, .int 0), (4, .int 0), (3, .int 0), (0, .ref (a 0)), (1, .int (nI 1)), (2, .int (nI j))]) dX5_kinds_29 (by decide) rfl ?_
      refine J_w (ws' := wC G a (upG x 2 (x 2))) (congrArg (wC G a) upG_id.symm) ?_
      have lp31 : ∀ (fu : Nat) (o : Nat) (s : Int32) (r : Q2), (o ≤ 7) → (s = setF (fun o => decide (¬ seenR (x 9 0) j n 0 (withQ (x 0) 0 (nI o) j) = 0)) o) → 7 - o < fu → J X G 6 0 0 (wC G a (upG x 2 r)) [(0, .ref (a 0)), (1, .int (nI 1)), (2, .int (nI j)), (4, .int s), (5, .int (nI o))] 31 [] := by
        intro fu
        induction fu with
        | zero => intro o s r hi h1 hm; exact absurd hm (Nat.not_lt_zero _)
        | succ fu ih31 =>
          intro o s r hi h1 hm
          refine J_iload E dX5_kinds_31 4 rfl ?_
          refine J_bipush E dX5_kinds_33 bp_7 ?_
          refine J_icmp_ge E (tgt := 75) dX5_kinds_35 (by decide) (fun c_35 => ?_) (fun c_35 => ?_)
          · skip
            have n_35 : 7 ≤ o := cmp_le (a := 7) (b := o) (by omega) (by omega) c_35
            refine J_iload E dX5_kinds_75 3 rfl ?_
            exact ret _ _ _ _ ⟨by rw [h1, show o = 7 by omega], _, rfl, by intro g h2 h6; simp [upG, up3, up3R, h2, h6]⟩ rfl dX5_kinds_77
          · skip
            have n_35 : ¬ 7 ≤ o := cmp_nle (a := 7) (b := o) (by omega) (by omega) c_35
            refine J_aload_n E dX5_kinds_38 rfl 0 rfl ?_
            refine J_iconst E dX5_kinds_39 ic_0 ?_
            refine J_iload E dX5_kinds_40 4 rfl ?_
            refine J_iload_n E dX5_kinds_42 rfl 2 rfl ?_
            refine J_cVv0 E (As := [.int 0, .int (nI o), .int (nI j)]) (c_X5_tryWith l G a (upG x 2 r) 0 (nI o) j (by decide) hj) cl_X5_151 yo_X5_tryWith dX5_kinds_43 rfl rfl rfl (Nat.le_of_ble_eq_true rfl) (Nat.le_of_ble_eq_true rfl) rfl (Nat.le_of_ble_eq_true rfl) ⟨Nat.zero_le _, Nat.zero_le _⟩ ?_
            refine J_aload_n E dX5_kinds_46 rfl 0 rfl ?_
            refine J_aload_n E dX5_kinds_47 rfl 0 rfl ?_
            refine gC0_X5_44 E dX5_kinds_48 ?_
            refine J_iload_n E dX5_kinds_51 rfl 1 rfl ?_
            refine laC_30_1 E dX5_kinds_52 ?_
            refine J_iload_n E dX5_kinds_53 rfl 2 rfl ?_
            refine J_cVi0 E (As := [.ref (a 33), .int (nI j)]) (c_X5_isTrialAsSeen_1 l G a (upG (upG x 2 r) 2 (withQ (x 0) 0 (nI o) j)) j _ hj hn hn2 (show spOk (withQ (x 0) 0 (nI o) j) from withQ_sp hsp (by decide) _ _)) cl_X5_173 yo_X5_isTrialAsSeen dX5_kinds_54 rfl rfl rfl (Nat.le_of_ble_eq_true rfl) (Nat.le_of_ble_eq_true rfl) rfl (Nat.le_of_ble_eq_true rfl) ⟨Nat.zero_le _, Nat.zero_le _⟩ ?_
            refine J_if_eq E (tgt := 69) dX5_kinds_57 (by decide) (fun c_57 => ?_) (fun c_57 => ?_)
            · skip
              have c_57 : seenR (x 9 0) j n 0 (withQ (x 0) 0 (nI o) j) = 0 := c_57
              refine J_iinc E (lv' := [(5, .int (nI (o + 1))), (0, .ref (a 0)), (1, .int (nI 1)), (2, .int (nI j)), (4, .int s)]) dX5_kinds_69 4 rfl (nI_inc _) (by decide) rfl ?_
              refine J_goto E (tgt := 31) dX5_kinds_72 (by decide) ?_
              refine J_lv [1, 2, 3, 4, 0] rfl ?_
              exact ih31 (o + 1) s (seenS (x 9 0) j n 0 (withQ (x 0) 0 (nI o) j)) (by omega) (by rw [h1, setF]; first | (rw [if_pos (decide_eq_true c_57)]; rfl) | rw [if_neg (c := decide (¬ seenR (x 9 0) j n 0 (withQ (x 0) 0 (nI o) j) = 0) = true) (fun z => absurd c_57 (of_decide_eq_true z))]) (by omega)
            · skip
              have c_57 : ¬ seenR (x 9 0) j n 0 (withQ (x 0) 0 (nI o) j) = 0 := c_57
              refine J_iload E dX5_kinds_60 3 rfl ?_
              refine J_iconst E dX5_kinds_62 ic_1 ?_
              refine J_iload E dX5_kinds_63 4 rfl ?_
              refine J_ishl E dX5_kinds_65 ?_
              refine J_ior E dX5_kinds_66 ?_
              refine J_istore E (lv' := [(4, .int (s ||| (1 <<< ((nI o) &&& 31)))), (0, .ref (a 0)), (1, .int (nI 1)), (2, .int (nI j)), (5, .int (nI o))]) dX5_kinds_67 (by decide) rfl ?_
              refine J_iinc E (lv' := [(5, .int (nI (o + 1))), (4, .int (s ||| (1 <<< ((nI o) &&& 31)))), (0, .ref (a 0)), (1, .int (nI 1)), (2, .int (nI j))]) dX5_kinds_69 4 rfl (nI_inc _) (by decide) rfl ?_
              refine J_goto E (tgt := 31) dX5_kinds_72 (by decide) ?_
              refine J_lv [2, 3, 4, 1, 0] rfl ?_
              exact ih31 (o + 1) (s ||| (1 <<< ((nI o) &&& 31))) (seenS (x 9 0) j n 0 (withQ (x 0) 0 (nI o) j)) (by omega) (by rw [h1, setF]; first | (rw [if_pos (decide_eq_true c_57)]; rfl) | rw [if_neg (c := decide (¬ seenR (x 9 0) j n 0 (withQ (x 0) 0 (nI o) j) = 0) = true) (fun z => absurd c_57 (of_decide_eq_true z))]) (by omega)
      refine J_lv [3, 4, 5, 1, 0] rfl ?_
      exact lp31 _ 0 0 (x 2) (by omega) rfl (Nat.lt_succ_self _)
    · skip
      have c_16 := bI_0 c_16
      exact absurd (inB (a := j) (b := 10) (by omega) (by decide)) c_16
  · skip
    have n_7 : ¬ 0 = 0 := cmp_ne (a := 0) (b := 0) (by omega) (by omega) c_7
    exact absurd n_7 (by decide)

set_option maxHeartbeats 4000000 in
set_option maxRecDepth 20000 in
theorem c_X5_kinds_bad_2 (l : Launch) (G : GB) (a : Nat → Nat) (x : Q3) (h : Int32) (hb : ¬ x 10 1 0 = 0) (hh : ¬ okH h) : CI l yX5_kinds cX5_kinds 6 .int 3 62 G [.ref (a 0), .int (nI 2), .int h] (wC G a x) (fun vR w' => vR = tellR 0 ∧ PubC G a (tellX x 0) w') := by
  refine CI.mk (own := RX5) (by decide) rfl (Nat.le_of_ble_eq_true rfl) ?_
  intro X E ret
  show J X G 6 0 0 (wC G a x) [(0, .ref (a 0)), (1, .int (nI 2)), (2, .int h)] 0 []
  refine J_aload_n E dX5_kinds_0 rfl 0 rfl ?_
  refine J_iload_n E dX5_kinds_1 rfl 1 rfl ?_
  refine J_cVi0 E (As := [.int (nI 2)]) (c_X5_seekSheet_2_1 l G a x hb ) cl_X5_170 yo_X5_seekSheet dX5_kinds_2 rfl rfl rfl (Nat.le_of_ble_eq_true rfl) (Nat.le_of_ble_eq_true rfl) rfl (Nat.le_of_ble_eq_true rfl) ⟨Nat.zero_le _, Nat.zero_le _⟩ ?_
  refine J_istore_n E (lv' := [(3, .int 0), (0, .ref (a 0)), (1, .int (nI 2)), (2, .int h)]) dX5_kinds_5 rfl (by decide) rfl ?_
  refine J_iload_n E dX5_kinds_6 rfl 0 rfl ?_
  refine J_if_eq E (tgt := 12) dX5_kinds_7 (by decide) (fun c_7 => ?_) (fun c_7 => ?_)
  · skip
    have n_7 : 0 = 0 := cmp_eq (a := 0) (b := 0) (by omega) (by omega) c_7
    refine J_iload_n E dX5_kinds_12 rfl 3 rfl ?_
    refine J_cSiN E (As := [.int h]) (c_X5_isHouse l G h ) cl_X5_52 yo_X5_isHouse dX5_kinds_13 rfl (Nat.le_of_ble_eq_true rfl) (Nat.le_of_ble_eq_true rfl) rfl (Nat.le_of_ble_eq_true rfl) ⟨Nat.zero_le _, Nat.zero_le _⟩ ?_
    refine J_if_ne E (tgt := 25) dX5_kinds_16 (by decide) (fun c_16 => ?_) (fun c_16 => ?_)
    · skip
      have c_16 := bI_1 c_16
      exact absurd c_16 hh
    · skip
      have c_16 := bI_0 c_16
      refine J_aload_n E dX5_kinds_19 rfl 1 rfl ?_
      refine J_iconst E dX5_kinds_20 ic_0 ?_
      refine J_cVi0 E (As := [.int 0]) (c_X5_tell l G a x 0 (by omega)) cl_X5_64 yo_X5_tell dX5_kinds_21 rfl rfl rfl (Nat.le_of_ble_eq_true rfl) (Nat.le_of_ble_eq_true rfl) rfl (Nat.le_of_ble_eq_true rfl) ⟨Nat.zero_le _, Nat.zero_le _⟩ ?_
      exact ret _ _ _ _ ⟨rfl, _, rfl, by intro g h2 h6; simp [upG, up3, up3R, h2, h6]⟩ rfl dX5_kinds_24
  · skip
    have n_7 : ¬ 0 = 0 := cmp_ne (a := 0) (b := 0) (by omega) (by omega) c_7
    exact absurd n_7 (by decide)

set_option maxHeartbeats 4000000 in
set_option maxRecDepth 20000 in
theorem c_X5_kinds_ok_2 (l : Launch) (G : GB) (a : Nat → Nat) (x : Q3) (j n : Nat) (hb : ¬ x 10 1 0 = 0) (hj : j < 11) (hn : x 10 1 1 = nI n) (hn2 : n ≤ 40) (hsp : spOk (x 0)) : CI l yX5_kinds cX5_kinds 6 .int 5 115 G [.ref (a 0), .int (nI 2), .int (nI j)] (wC G a x) (fun vR w' => vR = setF (fun o => decide (¬ seenR (x 10 0) j n 0 (withQ (x 0) 0 (nI o) j) = 0)) 7 ∧ PubC G a x w') := by
  refine CI.mk (own := RX5) (by decide) rfl (Nat.le_of_ble_eq_true rfl) ?_
  intro X E ret
  show J X G 6 0 0 (wC G a x) [(0, .ref (a 0)), (1, .int (nI 2)), (2, .int (nI j))] 0 []
  refine J_aload_n E dX5_kinds_0 rfl 0 rfl ?_
  refine J_iload_n E dX5_kinds_1 rfl 1 rfl ?_
  refine J_cVi0 E (As := [.int (nI 2)]) (c_X5_seekSheet_2_1 l G a x hb ) cl_X5_170 yo_X5_seekSheet dX5_kinds_2 rfl rfl rfl (Nat.le_of_ble_eq_true rfl) (Nat.le_of_ble_eq_true rfl) rfl (Nat.le_of_ble_eq_true rfl) ⟨Nat.zero_le _, Nat.zero_le _⟩ ?_
  refine J_istore_n E (lv' := [(3, .int 0), (0, .ref (a 0)), (1, .int (nI 2)), (2, .int (nI j))]) dX5_kinds_5 rfl (by decide) rfl ?_
  refine J_iload_n E dX5_kinds_6 rfl 0 rfl ?_
  refine J_if_eq E (tgt := 12) dX5_kinds_7 (by decide) (fun c_7 => ?_) (fun c_7 => ?_)
  · skip
    have n_7 : 0 = 0 := cmp_eq (a := 0) (b := 0) (by omega) (by omega) c_7
    refine J_iload_n E dX5_kinds_12 rfl 3 rfl ?_
    refine J_cSiN E (As := [.int (nI j)]) (c_X5_isHouse l G (nI j) ) cl_X5_52 yo_X5_isHouse dX5_kinds_13 rfl (Nat.le_of_ble_eq_true rfl) (Nat.le_of_ble_eq_true rfl) rfl (Nat.le_of_ble_eq_true rfl) ⟨Nat.zero_le _, Nat.zero_le _⟩ ?_
    refine J_if_ne E (tgt := 25) dX5_kinds_16 (by decide) (fun c_16 => ?_) (fun c_16 => ?_)
    · skip
      have c_16 := bI_1 c_16
      refine J_iconst E dX5_kinds_25 ic_0 ?_
      refine J_istore E (lv' := [(4, .int 0), (3, .int 0), (0, .ref (a 0)), (1, .int (nI 2)), (2, .int (nI j))]) dX5_kinds_26 (by decide) rfl ?_
      refine J_iconst E dX5_kinds_28 ic_0 ?_
      refine J_istore E (lv' := [(5, .int 0), (4, .int 0), (3, .int 0), (0, .ref (a 0)), (1, .int (nI 2)), (2, .int (nI j))]) dX5_kinds_29 (by decide) rfl ?_
      refine J_w (ws' := wC G a (upG x 2 (x 2))) (congrArg (wC G a) upG_id.symm) ?_
      have lp31 : ∀ (fu : Nat) (o : Nat) (s : Int32) (r : Q2), (o ≤ 7) → (s = setF (fun o => decide (¬ seenR (x 10 0) j n 0 (withQ (x 0) 0 (nI o) j) = 0)) o) → 7 - o < fu → J X G 6 0 0 (wC G a (upG x 2 r)) [(0, .ref (a 0)), (1, .int (nI 2)), (2, .int (nI j)), (4, .int s), (5, .int (nI o))] 31 [] := by
        intro fu
        induction fu with
        | zero => intro o s r hi h1 hm; exact absurd hm (Nat.not_lt_zero _)
        | succ fu ih31 =>
          intro o s r hi h1 hm
          refine J_iload E dX5_kinds_31 4 rfl ?_
          refine J_bipush E dX5_kinds_33 bp_7 ?_
          refine J_icmp_ge E (tgt := 75) dX5_kinds_35 (by decide) (fun c_35 => ?_) (fun c_35 => ?_)
          · skip
            have n_35 : 7 ≤ o := cmp_le (a := 7) (b := o) (by omega) (by omega) c_35
            refine J_iload E dX5_kinds_75 3 rfl ?_
            exact ret _ _ _ _ ⟨by rw [h1, show o = 7 by omega], _, rfl, by intro g h2 h6; simp [upG, up3, up3R, h2, h6]⟩ rfl dX5_kinds_77
          · skip
            have n_35 : ¬ 7 ≤ o := cmp_nle (a := 7) (b := o) (by omega) (by omega) c_35
            refine J_aload_n E dX5_kinds_38 rfl 0 rfl ?_
            refine J_iconst E dX5_kinds_39 ic_0 ?_
            refine J_iload E dX5_kinds_40 4 rfl ?_
            refine J_iload_n E dX5_kinds_42 rfl 2 rfl ?_
            refine J_cVv0 E (As := [.int 0, .int (nI o), .int (nI j)]) (c_X5_tryWith l G a (upG x 2 r) 0 (nI o) j (by decide) hj) cl_X5_151 yo_X5_tryWith dX5_kinds_43 rfl rfl rfl (Nat.le_of_ble_eq_true rfl) (Nat.le_of_ble_eq_true rfl) rfl (Nat.le_of_ble_eq_true rfl) ⟨Nat.zero_le _, Nat.zero_le _⟩ ?_
            refine J_aload_n E dX5_kinds_46 rfl 0 rfl ?_
            refine J_aload_n E dX5_kinds_47 rfl 0 rfl ?_
            refine gC0_X5_44 E dX5_kinds_48 ?_
            refine J_iload_n E dX5_kinds_51 rfl 1 rfl ?_
            refine laC_30_2 E dX5_kinds_52 ?_
            refine J_iload_n E dX5_kinds_53 rfl 2 rfl ?_
            refine J_cVi0 E (As := [.ref (a 35), .int (nI j)]) (c_X5_isTrialAsSeen_2 l G a (upG (upG x 2 r) 2 (withQ (x 0) 0 (nI o) j)) j _ hj hn hn2 (show spOk (withQ (x 0) 0 (nI o) j) from withQ_sp hsp (by decide) _ _)) cl_X5_173 yo_X5_isTrialAsSeen dX5_kinds_54 rfl rfl rfl (Nat.le_of_ble_eq_true rfl) (Nat.le_of_ble_eq_true rfl) rfl (Nat.le_of_ble_eq_true rfl) ⟨Nat.zero_le _, Nat.zero_le _⟩ ?_
            refine J_if_eq E (tgt := 69) dX5_kinds_57 (by decide) (fun c_57 => ?_) (fun c_57 => ?_)
            · skip
              have c_57 : seenR (x 10 0) j n 0 (withQ (x 0) 0 (nI o) j) = 0 := c_57
              refine J_iinc E (lv' := [(5, .int (nI (o + 1))), (0, .ref (a 0)), (1, .int (nI 2)), (2, .int (nI j)), (4, .int s)]) dX5_kinds_69 4 rfl (nI_inc _) (by decide) rfl ?_
              refine J_goto E (tgt := 31) dX5_kinds_72 (by decide) ?_
              refine J_lv [1, 2, 3, 4, 0] rfl ?_
              exact ih31 (o + 1) s (seenS (x 10 0) j n 0 (withQ (x 0) 0 (nI o) j)) (by omega) (by rw [h1, setF]; first | (rw [if_pos (decide_eq_true c_57)]; rfl) | rw [if_neg (c := decide (¬ seenR (x 10 0) j n 0 (withQ (x 0) 0 (nI o) j) = 0) = true) (fun z => absurd c_57 (of_decide_eq_true z))]) (by omega)
            · skip
              have c_57 : ¬ seenR (x 10 0) j n 0 (withQ (x 0) 0 (nI o) j) = 0 := c_57
              refine J_iload E dX5_kinds_60 3 rfl ?_
              refine J_iconst E dX5_kinds_62 ic_1 ?_
              refine J_iload E dX5_kinds_63 4 rfl ?_
              refine J_ishl E dX5_kinds_65 ?_
              refine J_ior E dX5_kinds_66 ?_
              refine J_istore E (lv' := [(4, .int (s ||| (1 <<< ((nI o) &&& 31)))), (0, .ref (a 0)), (1, .int (nI 2)), (2, .int (nI j)), (5, .int (nI o))]) dX5_kinds_67 (by decide) rfl ?_
              refine J_iinc E (lv' := [(5, .int (nI (o + 1))), (4, .int (s ||| (1 <<< ((nI o) &&& 31)))), (0, .ref (a 0)), (1, .int (nI 2)), (2, .int (nI j))]) dX5_kinds_69 4 rfl (nI_inc _) (by decide) rfl ?_
              refine J_goto E (tgt := 31) dX5_kinds_72 (by decide) ?_
              refine J_lv [2, 3, 4, 1, 0] rfl ?_
              exact ih31 (o + 1) (s ||| (1 <<< ((nI o) &&& 31))) (seenS (x 10 0) j n 0 (withQ (x 0) 0 (nI o) j)) (by omega) (by rw [h1, setF]; first | (rw [if_pos (decide_eq_true c_57)]; rfl) | rw [if_neg (c := decide (¬ seenR (x 10 0) j n 0 (withQ (x 0) 0 (nI o) j) = 0) = true) (fun z => absurd c_57 (of_decide_eq_true z))]) (by omega)
      refine J_lv [3, 4, 5, 1, 0] rfl ?_
      exact lp31 _ 0 0 (x 2) (by omega) rfl (Nat.lt_succ_self _)
    · skip
      have c_16 := bI_0 c_16
      exact absurd (inB (a := j) (b := 10) (by omega) (by decide)) c_16
  · skip
    have n_7 : ¬ 0 = 0 := cmp_ne (a := 0) (b := 0) (by omega) (by omega) c_7
    exact absurd n_7 (by decide)

set_option maxHeartbeats 4000000 in
set_option maxRecDepth 20000 in
theorem c_X5_kinds_bad_3 (l : Launch) (G : GB) (a : Nat → Nat) (x : Q3) (h : Int32) (hb : ¬ x 11 1 0 = 0) (hh : ¬ okH h) : CI l yX5_kinds cX5_kinds 6 .int 3 62 G [.ref (a 0), .int (nI 3), .int h] (wC G a x) (fun vR w' => vR = tellR 0 ∧ PubC G a (tellX x 0) w') := by
  refine CI.mk (own := RX5) (by decide) rfl (Nat.le_of_ble_eq_true rfl) ?_
  intro X E ret
  show J X G 6 0 0 (wC G a x) [(0, .ref (a 0)), (1, .int (nI 3)), (2, .int h)] 0 []
  refine J_aload_n E dX5_kinds_0 rfl 0 rfl ?_
  refine J_iload_n E dX5_kinds_1 rfl 1 rfl ?_
  refine J_cVi0 E (As := [.int (nI 3)]) (c_X5_seekSheet_3_1 l G a x hb ) cl_X5_170 yo_X5_seekSheet dX5_kinds_2 rfl rfl rfl (Nat.le_of_ble_eq_true rfl) (Nat.le_of_ble_eq_true rfl) rfl (Nat.le_of_ble_eq_true rfl) ⟨Nat.zero_le _, Nat.zero_le _⟩ ?_
  refine J_istore_n E (lv' := [(3, .int 0), (0, .ref (a 0)), (1, .int (nI 3)), (2, .int h)]) dX5_kinds_5 rfl (by decide) rfl ?_
  refine J_iload_n E dX5_kinds_6 rfl 0 rfl ?_
  refine J_if_eq E (tgt := 12) dX5_kinds_7 (by decide) (fun c_7 => ?_) (fun c_7 => ?_)
  · skip
    have n_7 : 0 = 0 := cmp_eq (a := 0) (b := 0) (by omega) (by omega) c_7
    refine J_iload_n E dX5_kinds_12 rfl 3 rfl ?_
    refine J_cSiN E (As := [.int h]) (c_X5_isHouse l G h ) cl_X5_52 yo_X5_isHouse dX5_kinds_13 rfl (Nat.le_of_ble_eq_true rfl) (Nat.le_of_ble_eq_true rfl) rfl (Nat.le_of_ble_eq_true rfl) ⟨Nat.zero_le _, Nat.zero_le _⟩ ?_
    refine J_if_ne E (tgt := 25) dX5_kinds_16 (by decide) (fun c_16 => ?_) (fun c_16 => ?_)
    · skip
      have c_16 := bI_1 c_16
      exact absurd c_16 hh
    · skip
      have c_16 := bI_0 c_16
      refine J_aload_n E dX5_kinds_19 rfl 1 rfl ?_
      refine J_iconst E dX5_kinds_20 ic_0 ?_
      refine J_cVi0 E (As := [.int 0]) (c_X5_tell l G a x 0 (by omega)) cl_X5_64 yo_X5_tell dX5_kinds_21 rfl rfl rfl (Nat.le_of_ble_eq_true rfl) (Nat.le_of_ble_eq_true rfl) rfl (Nat.le_of_ble_eq_true rfl) ⟨Nat.zero_le _, Nat.zero_le _⟩ ?_
      exact ret _ _ _ _ ⟨rfl, _, rfl, by intro g h2 h6; simp [upG, up3, up3R, h2, h6]⟩ rfl dX5_kinds_24
  · skip
    have n_7 : ¬ 0 = 0 := cmp_ne (a := 0) (b := 0) (by omega) (by omega) c_7
    exact absurd n_7 (by decide)

set_option maxHeartbeats 4000000 in
set_option maxRecDepth 20000 in
theorem c_X5_kinds_ok_3 (l : Launch) (G : GB) (a : Nat → Nat) (x : Q3) (j n : Nat) (hb : ¬ x 11 1 0 = 0) (hj : j < 11) (hn : x 11 1 1 = nI n) (hn2 : n ≤ 40) (hsp : spOk (x 0)) : CI l yX5_kinds cX5_kinds 6 .int 5 115 G [.ref (a 0), .int (nI 3), .int (nI j)] (wC G a x) (fun vR w' => vR = setF (fun o => decide (¬ seenR (x 11 0) j n 0 (withQ (x 0) 0 (nI o) j) = 0)) 7 ∧ PubC G a x w') := by
  refine CI.mk (own := RX5) (by decide) rfl (Nat.le_of_ble_eq_true rfl) ?_
  intro X E ret
  show J X G 6 0 0 (wC G a x) [(0, .ref (a 0)), (1, .int (nI 3)), (2, .int (nI j))] 0 []
  refine J_aload_n E dX5_kinds_0 rfl 0 rfl ?_
  refine J_iload_n E dX5_kinds_1 rfl 1 rfl ?_
  refine J_cVi0 E (As := [.int (nI 3)]) (c_X5_seekSheet_3_1 l G a x hb ) cl_X5_170 yo_X5_seekSheet dX5_kinds_2 rfl rfl rfl (Nat.le_of_ble_eq_true rfl) (Nat.le_of_ble_eq_true rfl) rfl (Nat.le_of_ble_eq_true rfl) ⟨Nat.zero_le _, Nat.zero_le _⟩ ?_
  refine J_istore_n E (lv' := [(3, .int 0), (0, .ref (a 0)), (1, .int (nI 3)), (2, .int (nI j))]) dX5_kinds_5 rfl (by decide) rfl ?_
  refine J_iload_n E dX5_kinds_6 rfl 0 rfl ?_
  refine J_if_eq E (tgt := 12) dX5_kinds_7 (by decide) (fun c_7 => ?_) (fun c_7 => ?_)
  · skip
    have n_7 : 0 = 0 := cmp_eq (a := 0) (b := 0) (by omega) (by omega) c_7
    refine J_iload_n E dX5_kinds_12 rfl 3 rfl ?_
    refine J_cSiN E (As := [.int (nI j)]) (c_X5_isHouse l G (nI j) ) cl_X5_52 yo_X5_isHouse dX5_kinds_13 rfl (Nat.le_of_ble_eq_true rfl) (Nat.le_of_ble_eq_true rfl) rfl (Nat.le_of_ble_eq_true rfl) ⟨Nat.zero_le _, Nat.zero_le _⟩ ?_
    refine J_if_ne E (tgt := 25) dX5_kinds_16 (by decide) (fun c_16 => ?_) (fun c_16 => ?_)
    · skip
      have c_16 := bI_1 c_16
      refine J_iconst E dX5_kinds_25 ic_0 ?_
      refine J_istore E (lv' := [(4, .int 0), (3, .int 0), (0, .ref (a 0)), (1, .int (nI 3)), (2, .int (nI j))]) dX5_kinds_26 (by decide) rfl ?_
      refine J_iconst E dX5_kinds_28 ic_0 ?_
      refine J_istore E (lv' := [(5, .int 0), (4, .int 0), (3, .int 0), (0, .ref (a 0)), (1, .int (nI 3)), (2, .int (nI j))]) dX5_kinds_29 (by decide) rfl ?_
      refine J_w (ws' := wC G a (upG x 2 (x 2))) (congrArg (wC G a) upG_id.symm) ?_
      have lp31 : ∀ (fu : Nat) (o : Nat) (s : Int32) (r : Q2), (o ≤ 7) → (s = setF (fun o => decide (¬ seenR (x 11 0) j n 0 (withQ (x 0) 0 (nI o) j) = 0)) o) → 7 - o < fu → J X G 6 0 0 (wC G a (upG x 2 r)) [(0, .ref (a 0)), (1, .int (nI 3)), (2, .int (nI j)), (4, .int s), (5, .int (nI o))] 31 [] := by
        intro fu
        induction fu with
        | zero => intro o s r hi h1 hm; exact absurd hm (Nat.not_lt_zero _)
        | succ fu ih31 =>
          intro o s r hi h1 hm
          refine J_iload E dX5_kinds_31 4 rfl ?_
          refine J_bipush E dX5_kinds_33 bp_7 ?_
          refine J_icmp_ge E (tgt := 75) dX5_kinds_35 (by decide) (fun c_35 => ?_) (fun c_35 => ?_)
          · skip
            have n_35 : 7 ≤ o := cmp_le (a := 7) (b := o) (by omega) (by omega) c_35
            refine J_iload E dX5_kinds_75 3 rfl ?_
            exact ret _ _ _ _ ⟨by rw [h1, show o = 7 by omega], _, rfl, by intro g h2 h6; simp [upG, up3, up3R, h2, h6]⟩ rfl dX5_kinds_77
          · skip
            have n_35 : ¬ 7 ≤ o := cmp_nle (a := 7) (b := o) (by omega) (by omega) c_35
            refine J_aload_n E dX5_kinds_38 rfl 0 rfl ?_
            refine J_iconst E dX5_kinds_39 ic_0 ?_
            refine J_iload E dX5_kinds_40 4 rfl ?_
            refine J_iload_n E dX5_kinds_42 rfl 2 rfl ?_
            refine J_cVv0 E (As := [.int 0, .int (nI o), .int (nI j)]) (c_X5_tryWith l G a (upG x 2 r) 0 (nI o) j (by decide) hj) cl_X5_151 yo_X5_tryWith dX5_kinds_43 rfl rfl rfl (Nat.le_of_ble_eq_true rfl) (Nat.le_of_ble_eq_true rfl) rfl (Nat.le_of_ble_eq_true rfl) ⟨Nat.zero_le _, Nat.zero_le _⟩ ?_
            refine J_aload_n E dX5_kinds_46 rfl 0 rfl ?_
            refine J_aload_n E dX5_kinds_47 rfl 0 rfl ?_
            refine gC0_X5_44 E dX5_kinds_48 ?_
            refine J_iload_n E dX5_kinds_51 rfl 1 rfl ?_
            refine laC_30_3 E dX5_kinds_52 ?_
            refine J_iload_n E dX5_kinds_53 rfl 2 rfl ?_
            refine J_cVi0 E (As := [.ref (a 37), .int (nI j)]) (c_X5_isTrialAsSeen_3 l G a (upG (upG x 2 r) 2 (withQ (x 0) 0 (nI o) j)) j _ hj hn hn2 (show spOk (withQ (x 0) 0 (nI o) j) from withQ_sp hsp (by decide) _ _)) cl_X5_173 yo_X5_isTrialAsSeen dX5_kinds_54 rfl rfl rfl (Nat.le_of_ble_eq_true rfl) (Nat.le_of_ble_eq_true rfl) rfl (Nat.le_of_ble_eq_true rfl) ⟨Nat.zero_le _, Nat.zero_le _⟩ ?_
            refine J_if_eq E (tgt := 69) dX5_kinds_57 (by decide) (fun c_57 => ?_) (fun c_57 => ?_)
            · skip
              have c_57 : seenR (x 11 0) j n 0 (withQ (x 0) 0 (nI o) j) = 0 := c_57
              refine J_iinc E (lv' := [(5, .int (nI (o + 1))), (0, .ref (a 0)), (1, .int (nI 3)), (2, .int (nI j)), (4, .int s)]) dX5_kinds_69 4 rfl (nI_inc _) (by decide) rfl ?_
              refine J_goto E (tgt := 31) dX5_kinds_72 (by decide) ?_
              refine J_lv [1, 2, 3, 4, 0] rfl ?_
              exact ih31 (o + 1) s (seenS (x 11 0) j n 0 (withQ (x 0) 0 (nI o) j)) (by omega) (by rw [h1, setF]; first | (rw [if_pos (decide_eq_true c_57)]; rfl) | rw [if_neg (c := decide (¬ seenR (x 11 0) j n 0 (withQ (x 0) 0 (nI o) j) = 0) = true) (fun z => absurd c_57 (of_decide_eq_true z))]) (by omega)
            · skip
              have c_57 : ¬ seenR (x 11 0) j n 0 (withQ (x 0) 0 (nI o) j) = 0 := c_57
              refine J_iload E dX5_kinds_60 3 rfl ?_
              refine J_iconst E dX5_kinds_62 ic_1 ?_
              refine J_iload E dX5_kinds_63 4 rfl ?_
              refine J_ishl E dX5_kinds_65 ?_
              refine J_ior E dX5_kinds_66 ?_
              refine J_istore E (lv' := [(4, .int (s ||| (1 <<< ((nI o) &&& 31)))), (0, .ref (a 0)), (1, .int (nI 3)), (2, .int (nI j)), (5, .int (nI o))]) dX5_kinds_67 (by decide) rfl ?_
              refine J_iinc E (lv' := [(5, .int (nI (o + 1))), (4, .int (s ||| (1 <<< ((nI o) &&& 31)))), (0, .ref (a 0)), (1, .int (nI 3)), (2, .int (nI j))]) dX5_kinds_69 4 rfl (nI_inc _) (by decide) rfl ?_
              refine J_goto E (tgt := 31) dX5_kinds_72 (by decide) ?_
              refine J_lv [2, 3, 4, 1, 0] rfl ?_
              exact ih31 (o + 1) (s ||| (1 <<< ((nI o) &&& 31))) (seenS (x 11 0) j n 0 (withQ (x 0) 0 (nI o) j)) (by omega) (by rw [h1, setF]; first | (rw [if_pos (decide_eq_true c_57)]; rfl) | rw [if_neg (c := decide (¬ seenR (x 11 0) j n 0 (withQ (x 0) 0 (nI o) j) = 0) = true) (fun z => absurd c_57 (of_decide_eq_true z))]) (by omega)
      refine J_lv [3, 4, 5, 1, 0] rfl ?_
      exact lp31 _ 0 0 (x 2) (by omega) rfl (Nat.lt_succ_self _)
    · skip
      have c_16 := bI_0 c_16
      exact absurd (inB (a := j) (b := 10) (by omega) (by decide)) c_16
  · skip
    have n_7 : ¬ 0 = 0 := cmp_ne (a := 0) (b := 0) (by omega) (by omega) c_7
    exact absurd n_7 (by decide)

set_option maxHeartbeats 4000000 in
set_option maxRecDepth 20000 in
theorem c_X5_showers_bad (l : Launch) (G : GB) (a : Nat → Nat) (x : Q3) (n : Int32) (hb : ¬ (1 ≤ n ∧ n ≤ 20)) : CI l yX5_showers cX5_showers 4 .int 1 21 G [.ref (a 0), .int n] (wC G a x) (fun vR w' => vR = tellR 0 ∧ PubC G a (tellX x 0) w') := by
  refine CI.mk (own := RX5) (by decide) rfl (Nat.le_of_ble_eq_true rfl) ?_
  intro X E ret
  show J X G 4 0 0 (wC G a x) [(0, .ref (a 0)), (1, .int n)] 0 []
  refine J_iload_n E dX5_showers_0 rfl 1 rfl ?_
  refine J_iconst E dX5_showers_1 ic_1 ?_
  refine J_icmp_lt E (tgt := 11) dX5_showers_2 (by decide) (fun c_2 => ?_) (fun c_2 => ?_)
  · skip
    refine J_aload_n E dX5_showers_11 rfl 0 rfl ?_
    refine J_iconst E dX5_showers_12 ic_0 ?_
    refine J_cVi0 E (As := [.int 0]) (c_X5_tell l G a x 0 (by omega)) cl_X5_64 yo_X5_tell dX5_showers_13 rfl rfl rfl (Nat.le_of_ble_eq_true rfl) (Nat.le_of_ble_eq_true rfl) rfl (Nat.le_of_ble_eq_true rfl) ⟨Nat.zero_le _, Nat.zero_le _⟩ ?_
    exact ret _ _ _ _ ⟨rfl, _, rfl, by intro g h2 h6; simp [upG, up3, up3R, h2, h6]⟩ rfl dX5_showers_16
  · skip
    refine J_iload_n E dX5_showers_5 rfl 1 rfl ?_
    refine J_bipush E dX5_showers_6 bp_20 ?_
    refine J_icmp_le E (tgt := 17) dX5_showers_8 (by decide) (fun c_8 => ?_) (fun c_8 => ?_)
    · skip
      exact absurd ⟨Int32.not_lt.mp c_2, c_8⟩ hb
    · skip
      refine J_aload_n E dX5_showers_11 rfl 0 rfl ?_
      refine J_iconst E dX5_showers_12 ic_0 ?_
      refine J_cVi0 E (As := [.int 0]) (c_X5_tell l G a x 0 (by omega)) cl_X5_64 yo_X5_tell dX5_showers_13 rfl rfl rfl (Nat.le_of_ble_eq_true rfl) (Nat.le_of_ble_eq_true rfl) rfl (Nat.le_of_ble_eq_true rfl) ⟨Nat.zero_le _, Nat.zero_le _⟩ ?_
      exact ret _ _ _ _ ⟨rfl, _, rfl, by intro g h2 h6; simp [upG, up3, up3R, h2, h6]⟩ rfl dX5_showers_16

set_option maxHeartbeats 4000000 in
set_option maxRecDepth 20000 in
theorem c_X5_showers_state (l : Launch) (G : GB) (a : Nat → Nat) (x : Q3) (n : Nat) (h1 : 1 ≤ n) (h2 : n ≤ 20) (hh : ¬ x 0 7 0 + nI n ≤ 99999) : CI l yX5_showers cX5_showers 4 .int 1 21 G [.ref (a 0), .int (nI n)] (wC G a x) (fun vR w' => vR = tellR 4 ∧ PubC G a (tellX x 4) w') := by
  refine CI.mk (own := RX5) (by decide) rfl (Nat.le_of_ble_eq_true rfl) ?_
  intro X E ret
  show J X G 4 0 0 (wC G a x) [(0, .ref (a 0)), (1, .int (nI n))] 0 []
  refine J_iload_n E dX5_showers_0 rfl 1 rfl ?_
  refine J_iconst E dX5_showers_1 ic_1 ?_
  refine J_icmp_lt E (tgt := 11) dX5_showers_2 (by decide) (fun c_2 => ?_) (fun c_2 => ?_)
  · skip
    have n_2 : n < 1 := cmp_lt (a := n) (b := 1) (by omega) (by omega) c_2
    exact absurd n_2 (by omega)
  · skip
    have n_2 : ¬ n < 1 := cmp_nlt (a := n) (b := 1) (by omega) (by omega) c_2
    refine J_iload_n E dX5_showers_5 rfl 1 rfl ?_
    refine J_bipush E dX5_showers_6 bp_20 ?_
    refine J_icmp_le E (tgt := 17) dX5_showers_8 (by decide) (fun c_8 => ?_) (fun c_8 => ?_)
    · skip
      have n_8 : n ≤ 20 := cmp_le (a := n) (b := 20) (by omega) (by omega) c_8
      refine J_aload_n E dX5_showers_17 rfl 0 rfl ?_
      refine gC0_X5_10 E dX5_showers_18 ?_
      refine gC1_X5_106 E dX5_showers_21 ?_
      refine J_iload_n E dX5_showers_24 rfl 1 rfl ?_
      refine J_iadd E dX5_showers_25 ?_
      refine J_ldc E kn_X5_109 dX5_showers_26 ?_
      refine J_icmp_le E (tgt := 37) dX5_showers_28 (by decide) (fun c_28 => ?_) (fun c_28 => ?_)
      · skip
        exact absurd c_28 hh
      · skip
        refine J_aload_n E dX5_showers_31 rfl 0 rfl ?_
        refine J_iconst E dX5_showers_32 ic_4 ?_
        refine J_cVi0 E (As := [.int 4]) (c_X5_tell l G a x 4 (by omega)) cl_X5_64 yo_X5_tell dX5_showers_33 rfl rfl rfl (Nat.le_of_ble_eq_true rfl) (Nat.le_of_ble_eq_true rfl) rfl (Nat.le_of_ble_eq_true rfl) ⟨Nat.zero_le _, Nat.zero_le _⟩ ?_
        exact ret _ _ _ _ ⟨rfl, _, rfl, by intro g h2 h6; simp [upG, up3, up3R, h2, h6]⟩ rfl dX5_showers_36
    · skip
      have n_8 : ¬ n ≤ 20 := cmp_nle (a := n) (b := 20) (by omega) (by omega) c_8
      exact absurd h2 n_8

set_option maxHeartbeats 4000000 in
set_option maxRecDepth 20000 in
theorem c_X5_showers_ok (l : Launch) (G : GB) (a : Nat → Nat) (x : Q3) (n : Nat) (h1 : 1 ≤ n) (h2 : n ≤ 20) (hh : x 0 7 0 + nI n ≤ 99999) (hsp : spOk (x 0)) : CI l yX5_showers cX5_showers 4 .int 4 92 G [.ref (a 0), .int (nI n)] (wC G a x) (fun vR w' => vR = showN (x 0) n ∧ PubC G a (upG x 0 (showQ (x 0) n)) w') := by
  refine CI.mk (own := RX5) (by decide) rfl (Nat.le_of_ble_eq_true rfl) ?_
  intro X E ret
  show J X G 4 0 0 (wC G a x) [(0, .ref (a 0)), (1, .int (nI n))] 0 []
  refine J_iload_n E dX5_showers_0 rfl 1 rfl ?_
  refine J_iconst E dX5_showers_1 ic_1 ?_
  refine J_icmp_lt E (tgt := 11) dX5_showers_2 (by decide) (fun c_2 => ?_) (fun c_2 => ?_)
  · skip
    have n_2 : n < 1 := cmp_lt (a := n) (b := 1) (by omega) (by omega) c_2
    exact absurd n_2 (by omega)
  · skip
    have n_2 : ¬ n < 1 := cmp_nlt (a := n) (b := 1) (by omega) (by omega) c_2
    refine J_iload_n E dX5_showers_5 rfl 1 rfl ?_
    refine J_bipush E dX5_showers_6 bp_20 ?_
    refine J_icmp_le E (tgt := 17) dX5_showers_8 (by decide) (fun c_8 => ?_) (fun c_8 => ?_)
    · skip
      have n_8 : n ≤ 20 := cmp_le (a := n) (b := 20) (by omega) (by omega) c_8
      refine J_aload_n E dX5_showers_17 rfl 0 rfl ?_
      refine gC0_X5_10 E dX5_showers_18 ?_
      refine gC1_X5_106 E dX5_showers_21 ?_
      refine J_iload_n E dX5_showers_24 rfl 1 rfl ?_
      refine J_iadd E dX5_showers_25 ?_
      refine J_ldc E kn_X5_109 dX5_showers_26 ?_
      refine J_icmp_le E (tgt := 37) dX5_showers_28 (by decide) (fun c_28 => ?_) (fun c_28 => ?_)
      · skip
        refine J_iconst E dX5_showers_37 ic_0 ?_
        refine J_istore_n E (lv' := [(2, .int 0), (0, .ref (a 0)), (1, .int (nI n))]) dX5_showers_38 rfl (by decide) rfl ?_
        refine J_iconst E dX5_showers_39 ic_0 ?_
        refine J_istore_n E (lv' := [(3, .int 0), (2, .int 0), (0, .ref (a 0)), (1, .int (nI n))]) dX5_showers_40 rfl (by decide) rfl ?_
        refine J_w (ws' := wC G a (upG x 0 (x 0))) (congrArg (wC G a) upG_id.symm) ?_
        have lp41 : ∀ (fu : Nat) (i : Nat) (d : Int32) (r : Q2), (i ≤ n) → (r = showQ (x 0) i) → (d = showN (x 0) i) → n - i < fu → J X G 4 0 0 (wC G a (upG x 0 r)) [(0, .ref (a 0)), (1, .int (nI n)), (2, .int d), (3, .int (nI i))] 41 [] := by
          intro fu
          induction fu with
          | zero => intro i d r hi hr hd hm; exact absurd hm (Nat.not_lt_zero _)
          | succ fu ih41 =>
            intro i d r hi hr hd hm
            refine J_iload_n E dX5_showers_41 rfl 3 rfl ?_
            refine J_iload_n E dX5_showers_42 rfl 1 rfl ?_
            refine J_icmp_ge E (tgt := 84) dX5_showers_43 (by decide) (fun c_43 => ?_) (fun c_43 => ?_)
            · skip
              have n_43 : n ≤ i := cmp_le (a := n) (b := i) (by omega) (by omega) c_43
              refine J_iload_n E dX5_showers_84 rfl 2 rfl ?_
              exact ret _ _ _ _ ⟨by rw [hd, show i = n by omega], _, rfl, by rw [hr, show i = n by omega]; exact ShC.rfl'⟩ rfl dX5_showers_85
            · skip
              have n_43 : ¬ n ≤ i := cmp_nle (a := n) (b := i) (by omega) (by omega) c_43
              refine J_aload_n E dX5_showers_46 rfl 0 rfl ?_
              refine gC0_X5_10 E dX5_showers_47 ?_
              refine J_aload_n E dX5_showers_50 rfl 0 rfl ?_
              refine gC0_X5_10 E dX5_showers_51 ?_
              refine J_si0 E (As := []) (c_X1_draw l G (sh a 1) r ) cl_X5_177 yo_X1_draw dX5_showers_54 rfl (Nat.le_of_ble_eq_true rfl) (Nat.le_of_ble_eq_true rfl) rfl (Nat.le_of_ble_eq_true rfl) ⟨Nat.zero_le _, Nat.zero_le _⟩ ?_
              refine J_bipush E dX5_showers_57 bp_100 ?_
              refine J_irem E dX5_showers_59 (by decide) ?_
              refine pC1_X5_88 E dX5_showers_60 ?_
              refine J_w (ws' := wC G a (upG x 0 (rainD r))) (congrArg (wC G a) (by rw [up3_upG, upG_upG]; rfl)) ?_
              refine J_aload_n E dX5_showers_63 rfl 0 rfl ?_
              refine gC0_X5_10 E dX5_showers_64 ?_
              refine J_bipush E dX5_showers_67 bp_10 ?_
              refine J_si0 E (As := [.int 10]) (c_X1_passHour l G (sh a 1) (rainD r) 10 (by decide) (by rw [hr]; exact showQ_sp hsp i)) cl_X5_130 yo_X1_passHour dX5_showers_69 rfl (Nat.le_of_ble_eq_true rfl) (Nat.le_of_ble_eq_true rfl) rfl (Nat.le_of_ble_eq_true rfl) ⟨Nat.zero_le _, Nat.zero_le _⟩ ?_
              refine J_if_eq E (tgt := 78) dX5_showers_72 (by decide) (fun c_72 => ?_) (fun c_72 => ?_)
              · skip
                refine J_iinc E (lv' := [(3, .int (nI (i + 1))), (0, .ref (a 0)), (1, .int (nI n)), (2, .int d)]) dX5_showers_78 3 rfl (nI_inc _) (by decide) rfl ?_
                refine J_goto E (tgt := 41) dX5_showers_81 (by decide) ?_
                refine J_lv [1, 2, 3, 0] rfl ?_
                exact ih41 (i + 1) d (hourM (rainD r) 10) (by omega) (by rw [hr]; rfl) (by rw [hd, showN, ← hr]; first | rw [if_pos c_72] | rw [if_neg c_72]) (by omega)
              · skip
                refine J_iinc E (lv' := [(2, .int (d + 1)), (0, .ref (a 0)), (1, .int (nI n)), (3, .int (nI i))]) dX5_showers_75 2 rfl (i_inc _) (by decide) rfl ?_
                refine J_iinc E (lv' := [(3, .int (nI (i + 1))), (2, .int (d + 1)), (0, .ref (a 0)), (1, .int (nI n))]) dX5_showers_78 3 rfl (nI_inc _) (by decide) rfl ?_
                refine J_goto E (tgt := 41) dX5_showers_81 (by decide) ?_
                refine J_lv [2, 3, 1, 0] rfl ?_
                exact ih41 (i + 1) (d + 1) (hourM (rainD r) 10) (by omega) (by rw [hr]; rfl) (by rw [hd, showN, ← hr]; first | rw [if_pos c_72] | rw [if_neg c_72]) (by omega)
        refine J_lv [2, 3, 1, 0] rfl ?_
        exact lp41 _ 0 0 (x 0) (by omega) rfl rfl (Nat.lt_succ_self _)
      · skip
        exact absurd hh c_28
    · skip
      have n_8 : ¬ n ≤ 20 := cmp_nle (a := n) (b := 20) (by omega) (by omega) c_8
      exact absurd h2 n_8

set_option maxHeartbeats 4000000 in
set_option maxRecDepth 20000 in
theorem c_X5_seed (l : Launch) (G : GB) (a : Nat → Nat) (x : Q3) (v : Int32) : CI l yX5_seed cX5_seed 3 .int 0 0 G [.ref (a 0), .int v] (wC G a x) (fun vR w' => vR = x 0 7 1 ∧ PubC G a (up3 x 0 7 1 v) w') := by
  refine CI.mk (own := RX5) (by decide) rfl (Nat.le_of_ble_eq_true rfl) ?_
  intro X E ret
  show J X G 3 0 0 (wC G a x) [(0, .ref (a 0)), (1, .int v)] 0 []
  refine J_aload_n E dX5_seed_0 rfl 0 rfl ?_
  refine gC0_X5_10 E dX5_seed_1 ?_
  refine gC1_X5_180 E dX5_seed_4 ?_
  refine J_istore_n E (lv' := [(2, .int (x 0 7 1)), (0, .ref (a 0)), (1, .int v)]) dX5_seed_7 rfl (by decide) rfl ?_
  refine J_aload_n E dX5_seed_8 rfl 1 rfl ?_
  refine gC0_X5_10 E dX5_seed_9 ?_
  refine J_iload_n E dX5_seed_12 rfl 2 rfl ?_
  refine pC1_X5_180 E dX5_seed_13 ?_
  refine J_iload_n E dX5_seed_16 rfl 0 rfl ?_
  exact ret _ _ _ _ ⟨rfl, _, rfl, by intro g h2 h6; simp [upG, up3, up3R, h2, h6]⟩ rfl dX5_seed_17

set_option maxHeartbeats 4000000 in
set_option maxRecDepth 20000 in
theorem c_X5_wipe (l : Launch) (G : GB) (a : Nat → Nat) (x : Q3)  : CI l yX5_wipe cX5_wipe 2 .int 0 0 G [.ref (a 0)] (wC G a x) (fun vR w' => vR = x 7 1 0 ∧ PubC G a (up3 x 7 1 0 0) w') := by
  refine CI.mk (own := RX5) (by decide) rfl (Nat.le_of_ble_eq_true rfl) ?_
  intro X E ret
  show J X G 2 0 0 (wC G a x) [(0, .ref (a 0))] 0 []
  refine J_aload_n E dX5_wipe_0 rfl 0 rfl ?_
  refine gC0_X5_29 E dX5_wipe_1 ?_
  refine gC27_X5_183 E dX5_wipe_4 ?_
  refine J_istore_n E (lv' := [(1, .int (x 7 1 0)), (0, .ref (a 0))]) dX5_wipe_7 rfl (by decide) rfl ?_
  refine J_aload_n E dX5_wipe_8 rfl 1 rfl ?_
  refine gC0_X5_29 E dX5_wipe_9 ?_
  refine J_iconst E dX5_wipe_12 ic_0 ?_
  refine pC27_X5_183 E dX5_wipe_13 ?_
  refine J_iload_n E dX5_wipe_16 rfl 0 rfl ?_
  exact ret _ _ _ _ ⟨rfl, _, rfl, by intro g h2 h6; simp [upG, up3, up3R, h2, h6]⟩ rfl dX5_wipe_17

set_option maxHeartbeats 4000000 in
set_option maxRecDepth 20000 in
theorem c_X5_hold_bad (l : Launch) (G : GB) (a : Nat → Nat) (x : Q3) (s h : Int32) (hb : ¬ ((0 ≤ s ∧ s ≤ 9) ∧ (h = -1 ∨ okH h))) : CI l yX5_hold cX5_hold 3 .int 2 41 G [.ref (a 0), .int s, .int h] (wC G a x) (fun vR w' => vR = tellR 0 ∧ PubC G a (tellX x 0) w') := by
  refine CI.mk (own := RX5) (by decide) rfl (Nat.le_of_ble_eq_true rfl) ?_
  intro X E ret
  show J X G 3 0 0 (wC G a x) [(0, .ref (a 0)), (1, .int s), (2, .int h)] 0 []
  refine J_iload_n E dX5_hold_0 rfl 1 rfl ?_
  refine J_cSiN E (As := [.int s]) (c_X5_isSpot l G s ) cl_X5_193 yo_X5_isSpot dX5_hold_1 rfl (Nat.le_of_ble_eq_true rfl) (Nat.le_of_ble_eq_true rfl) rfl (Nat.le_of_ble_eq_true rfl) ⟨Nat.zero_le _, Nat.zero_le _⟩ ?_
  refine J_if_eq E (tgt := 19) dX5_hold_4 (by decide) (fun c_4 => ?_) (fun c_4 => ?_)
  · skip
    have c_4 := bI_0 c_4
    refine J_aload_n E dX5_hold_19 rfl 0 rfl ?_
    refine J_iconst E dX5_hold_20 ic_0 ?_
    refine J_cVi0 E (As := [.int 0]) (c_X5_tell l G a x 0 (by omega)) cl_X5_64 yo_X5_tell dX5_hold_21 rfl rfl rfl (Nat.le_of_ble_eq_true rfl) (Nat.le_of_ble_eq_true rfl) rfl (Nat.le_of_ble_eq_true rfl) ⟨Nat.zero_le _, Nat.zero_le _⟩ ?_
    exact ret _ _ _ _ ⟨rfl, _, rfl, by intro g h2 h6; simp [upG, up3, up3R, h2, h6]⟩ rfl dX5_hold_24
  · skip
    have c_4 := bI_1 c_4
    refine J_iload_n E dX5_hold_7 rfl 2 rfl ?_
    refine J_iconst E dX5_hold_8 ic_m1 ?_
    refine J_icmp_eq E (tgt := 25) dX5_hold_9 (by decide) (fun c_9 => ?_) (fun c_9 => ?_)
    · skip
      have hw : h = -1 ∨ okH h := Or.inl c_9
      exact absurd ⟨c_4, hw⟩ hb
    · skip
      refine J_iload_n E dX5_hold_12 rfl 2 rfl ?_
      refine J_cSiN E (As := [.int h]) (c_X5_isHouse l G h ) cl_X5_52 yo_X5_isHouse dX5_hold_13 rfl (Nat.le_of_ble_eq_true rfl) (Nat.le_of_ble_eq_true rfl) rfl (Nat.le_of_ble_eq_true rfl) ⟨Nat.zero_le _, Nat.zero_le _⟩ ?_
      refine J_if_ne E (tgt := 25) dX5_hold_16 (by decide) (fun c_16 => ?_) (fun c_16 => ?_)
      · skip
        have c_16 := bI_1 c_16
        have hw : h = -1 ∨ okH h := Or.inr c_16
        exact absurd ⟨c_4, hw⟩ hb
      · skip
        have c_16 := bI_0 c_16
        refine J_aload_n E dX5_hold_19 rfl 0 rfl ?_
        refine J_iconst E dX5_hold_20 ic_0 ?_
        refine J_cVi0 E (As := [.int 0]) (c_X5_tell l G a x 0 (by omega)) cl_X5_64 yo_X5_tell dX5_hold_21 rfl rfl rfl (Nat.le_of_ble_eq_true rfl) (Nat.le_of_ble_eq_true rfl) rfl (Nat.le_of_ble_eq_true rfl) ⟨Nat.zero_le _, Nat.zero_le _⟩ ?_
        exact ret _ _ _ _ ⟨rfl, _, rfl, by intro g h2 h6; simp [upG, up3, up3R, h2, h6]⟩ rfl dX5_hold_24

set_option maxHeartbeats 4000000 in
set_option maxRecDepth 20000 in
theorem c_X5_hold_ok (l : Launch) (G : GB) (a : Nat → Nat) (x : Q3) (s : Nat) (h : Int32) (hs : s < 10) (hh : h = -1 ∨ okH h) : CI l yX5_hold cX5_hold 3 .int 2 41 G [.ref (a 0), .int (nI s), .int h] (wC G a x) (fun vR w' => vR = 1 ∧ PubC G a (up3 x 0 6 s h) w') := by
  refine CI.mk (own := RX5) (by decide) rfl (Nat.le_of_ble_eq_true rfl) ?_
  intro X E ret
  show J X G 3 0 0 (wC G a x) [(0, .ref (a 0)), (1, .int (nI s)), (2, .int h)] 0 []
  refine J_iload_n E dX5_hold_0 rfl 1 rfl ?_
  refine J_cSiN E (As := [.int (nI s)]) (c_X5_isSpot l G (nI s) ) cl_X5_193 yo_X5_isSpot dX5_hold_1 rfl (Nat.le_of_ble_eq_true rfl) (Nat.le_of_ble_eq_true rfl) rfl (Nat.le_of_ble_eq_true rfl) ⟨Nat.zero_le _, Nat.zero_le _⟩ ?_
  refine J_if_eq E (tgt := 19) dX5_hold_4 (by decide) (fun c_4 => ?_) (fun c_4 => ?_)
  · skip
    have c_4 := bI_0 c_4
    exact absurd (inB (a := s) (b := 9) (by omega) (by decide)) c_4
  · skip
    have c_4 := bI_1 c_4
    refine J_iload_n E dX5_hold_7 rfl 2 rfl ?_
    refine J_iconst E dX5_hold_8 ic_m1 ?_
    refine J_icmp_eq E (tgt := 25) dX5_hold_9 (by decide) (fun c_9 => ?_) (fun c_9 => ?_)
    · skip
      refine J_aload_n E dX5_hold_25 rfl 0 rfl ?_
      refine gC0_X5_10 E dX5_hold_26 ?_
      refine gC1_X5_196 E dX5_hold_29 ?_
      refine J_iload_n E dX5_hold_32 rfl 1 rfl ?_
      refine J_iload_n E dX5_hold_33 rfl 2 rfl ?_
      refine sC_8 E (j := s) dX5_hold_34 (by omega) ?_
      refine J_iconst E dX5_hold_35 ic_1 ?_
      exact ret _ _ _ _ ⟨rfl, _, rfl, by intro g h2 h6; simp [upG, up3, up3R, h2, h6]⟩ rfl dX5_hold_36
    · skip
      refine J_iload_n E dX5_hold_12 rfl 2 rfl ?_
      refine J_cSiN E (As := [.int h]) (c_X5_isHouse l G h ) cl_X5_52 yo_X5_isHouse dX5_hold_13 rfl (Nat.le_of_ble_eq_true rfl) (Nat.le_of_ble_eq_true rfl) rfl (Nat.le_of_ble_eq_true rfl) ⟨Nat.zero_le _, Nat.zero_le _⟩ ?_
      refine J_if_ne E (tgt := 25) dX5_hold_16 (by decide) (fun c_16 => ?_) (fun c_16 => ?_)
      · skip
        have c_16 := bI_1 c_16
        refine J_aload_n E dX5_hold_25 rfl 0 rfl ?_
        refine gC0_X5_10 E dX5_hold_26 ?_
        refine gC1_X5_196 E dX5_hold_29 ?_
        refine J_iload_n E dX5_hold_32 rfl 1 rfl ?_
        refine J_iload_n E dX5_hold_33 rfl 2 rfl ?_
        refine sC_8 E (j := s) dX5_hold_34 (by omega) ?_
        refine J_iconst E dX5_hold_35 ic_1 ?_
        exact ret _ _ _ _ ⟨rfl, _, rfl, by intro g h2 h6; simp [upG, up3, up3R, h2, h6]⟩ rfl dX5_hold_36
      · skip
        have c_16 := bI_0 c_16
        exact absurd (hh.resolve_left c_9) c_16

set_option maxHeartbeats 4000000 in
theorem J_abv {X : JX} {l : Launch} {G : GB} {cc : ByteArray} {nL fr lo kc ks pc : Nat} {ws : va_W} {lv : List (Nat × Value)} {st : List Value} (E : JE X l G cc RX0 nL fr lo) (hd : decode cc pc = .ok (.getstatic 9, 3)) (K : J X G nL kc ks ws lv (pc + 3) (.ref G.2.2.2.1 :: st)) : J X G nL kc ks ws lv pc st := fun H locs ls hP hD hS hl =>
  va_gets E.1 E.2.1 E.2.2.2.2.2.2.2.2.1.1 hS E.2.2.2.1 (E.2.2.2.2.1 _ fl_X0_9) (fun _ h => h) hd (K H locs ls hP hD hS hl)
theorem J_abvl {X : JX} {l : Launch} {G : GB} {cc : ByteArray} {own : String} {nL fr lo kc ks pc j : Nat} {ws : va_W} {lv : List (Nat × Value)} {st : List Value} (E : JE X l G cc own nL fr lo) (hd : decode cc pc = .ok (.iaload, 1)) (hj : j < 7) (K : J X G nL kc ks ws lv (pc + 1) (.int (abvT j) :: st)) : J X G nL kc ks ws lv pc (.int (nI j) :: .ref G.2.2.2.1 :: st) := fun H locs ls hP hD hS hl =>
  va_ti E.1 E.2.1 E.2.2.2.2.2.2.2.2.1.2.1 hS (vp_in_nI hj (by decide)) (by rw [nI_clamp (by omega)]) hd (K H locs ls hP hD hS hl)
