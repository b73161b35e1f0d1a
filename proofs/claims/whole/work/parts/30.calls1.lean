theorem inB {a b : Nat} (h : a ≤ b) (hb : b < 2 ^ 31) : 0 ≤ nI a ∧ nI a ≤ nI b := ⟨nI_pos' (by omega), nI_le h hb⟩
theorem upG_id {x : Q3} {g : Nat} : upG x g (x g) = x := by
  funext g'
  unfold upG
  by_cases h : g' = g
  · simp [h]
  · simp [h]
abbrev okH (v : Int32) : Prop := 0 ≤ v ∧ v ≤ 10
def ofF (q : Q2) (j k : Nat) : Int32 := if k = 6 then useF (q 0 j) (q 2 j) (q 7 0) else if k = 7 then keepF (q 0 j) (q 3 j) (q 2 j) else if k = 8 then loseK (q 0 j) else if k = 9 then leadF q j else q k j
def sputS (q : Q2) (hs : Int32) : Nat → Q2
  | 0 => q
  | n + 1 => up2 (sputS q hs n) 4 n (hs >>> (nI n &&& 31) &&& 1)
def nowF (q : Q2) (k : Nat) : Int32 := if k = 0 then q 7 0 else if k = 1 then sumF (q 1) 11 else if k = 2 then q 7 3 else if k = 3 then q 7 4 else if k = 4 then setF (fun j => decide (0 < q 5 j)) 11 else if k = 5 then spoF q 11 else q 7 2
/-- the first from i on, of so many -/
def upF (p : Nat → Bool) : Nat → Nat → Option Nat
  | 0, _ => none
  | f + 1, i => if p i then some i else upF p f (i + 1)
/-- the last below n -/
def topF (p : Nat → Bool) : Nat → Option Nat
  | 0 => none
  | n + 1 => if p n then some n else topF p n
def optR (o : Option Nat) : Int32 := match o with
  | some v => nI v
  | none => tellR 3
def optX (x : Q3) (o : Option Nat) : Q3 := match o with
  | some _ => x
  | none => tellX x 3
def belowF (q : Q2) : Nat → Int32 → Int32 → Int32
  | 0, _, s => s
  | n + 1, at_, s => if at_ = -1 then s else belowF q n (leadF q at_.toNatClampNeg) (s ||| 1 <<< (at_ &&& 31))
theorem upF_t {p : Nat → Bool} {f i : Nat} (h : p i = true) : upF p (f + 1) i = some i := if_pos h
theorem upF_f {p : Nat → Bool} {f i : Nat} (h : ¬ p i = true) : upF p (f + 1) i = upF p f (i + 1) := if_neg h
theorem topF_t {p : Nat → Bool} {n : Nat} (h : p n = true) : topF p (n + 1) = some n := if_pos h
theorem topF_f {p : Nat → Bool} {n : Nat} (h : ¬ p n = true) : topF p (n + 1) = topF p n := if_neg h
theorem belowF_t {q : Q2} {n : Nat} {v s : Int32} (h : v = -1) : belowF q n v s = s := by
  cases n with
  | zero => rfl
  | succ n => rw [belowF, if_pos h]
theorem belowF_f {q : Q2} {n : Nat} {v s : Int32} (h : ¬ v = -1) : belowF q (n + 1) v s = belowF q n (leadF q v.toNatClampNeg) (s ||| 1 <<< (v &&& 31)) := if_neg h

set_option maxHeartbeats 4000000 in
set_option maxRecDepth 20000 in
theorem c_X5_change_bad (l : Launch) (G : GB) (a : Nat → Nat) (x : Q3) (h w v : Int32) (hb : ¬ (okH h ∧ (0 ≤ w ∧ w ≤ 5) ∧ 0 ≤ v ∧ v ≤ mostF w)) : CI l yX5_change cX5_change 6 .int 2 41 G [.ref (a 0), .int h, .int w, .int v] (wC G a x) (fun vR w' => vR = tellR 0 ∧ PubC G a (tellX x 0) w') := by
  refine CI.mk (own := RX5) (by decide) rfl (Nat.le_of_ble_eq_true rfl) ?_
  intro X E ret
  show J X G 6 0 0 (wC G a x) [(0, .ref (a 0)), (1, .int h), (2, .int w), (3, .int v)] 0 []
  refine J_iload_n E dX5_change_0 rfl 1 rfl ?_
  refine J_cSiN E (As := [.int h]) (c_X5_isHouse l G h ) cl_X5_52 yo_X5_isHouse dX5_change_1 rfl (Nat.le_of_ble_eq_true rfl) (Nat.le_of_ble_eq_true rfl) rfl (Nat.le_of_ble_eq_true rfl) ⟨Nat.zero_le _, Nat.zero_le _⟩ ?_
  refine J_if_eq E (tgt := 26) dX5_change_4 (by decide) (fun c_4 => ?_) (fun c_4 => ?_)
  · skip
    have c_4 := bI_0 c_4
    refine J_aload_n E dX5_change_26 rfl 0 rfl ?_
    refine J_iconst E dX5_change_27 ic_0 ?_
    refine J_cVi0 E (As := [.int 0]) (c_X5_tell l G a x 0 (by omega)) cl_X5_64 yo_X5_tell dX5_change_28 rfl rfl rfl (Nat.le_of_ble_eq_true rfl) (Nat.le_of_ble_eq_true rfl) rfl (Nat.le_of_ble_eq_true rfl) ⟨Nat.zero_le _, Nat.zero_le _⟩ ?_
    exact ret _ _ _ _ ⟨rfl, _, rfl, by intro g h2 h6; simp [upG, up3, up3R, h2, h6]⟩ rfl dX5_change_31
  · skip
    have c_4 := bI_1 c_4
    refine J_iload_n E dX5_change_7 rfl 2 rfl ?_
    refine J_iconst E dX5_change_8 ic_5 ?_
    refine J_cSiN E (As := [.int w, .int 5]) (c_X5_isUpTo l G w 5 ) cl_X5_56 yo_X5_isUpTo dX5_change_9 rfl (Nat.le_of_ble_eq_true rfl) (Nat.le_of_ble_eq_true rfl) rfl (Nat.le_of_ble_eq_true rfl) ⟨Nat.zero_le _, Nat.zero_le _⟩ ?_
    refine J_if_eq E (tgt := 26) dX5_change_12 (by decide) (fun c_12 => ?_) (fun c_12 => ?_)
    · skip
      have c_12 := bI_0 c_12
      refine J_aload_n E dX5_change_26 rfl 0 rfl ?_
      refine J_iconst E dX5_change_27 ic_0 ?_
      refine J_cVi0 E (As := [.int 0]) (c_X5_tell l G a x 0 (by omega)) cl_X5_64 yo_X5_tell dX5_change_28 rfl rfl rfl (Nat.le_of_ble_eq_true rfl) (Nat.le_of_ble_eq_true rfl) rfl (Nat.le_of_ble_eq_true rfl) ⟨Nat.zero_le _, Nat.zero_le _⟩ ?_
      exact ret _ _ _ _ ⟨rfl, _, rfl, by intro g h2 h6; simp [upG, up3, up3R, h2, h6]⟩ rfl dX5_change_31
    · skip
      have c_12 := bI_1 c_12
      refine J_iload_n E dX5_change_15 rfl 3 rfl ?_
      refine J_iload_n E dX5_change_16 rfl 2 rfl ?_
      refine J_cSiN E (As := [.int w]) (c_X5_mostOf l G w ) cl_X5_60 yo_X5_mostOf dX5_change_17 rfl (Nat.le_of_ble_eq_true rfl) (Nat.le_of_ble_eq_true rfl) rfl (Nat.le_of_ble_eq_true rfl) ⟨Nat.zero_le _, Nat.zero_le _⟩ ?_
      refine J_cSiN E (As := [.int v, .int (mostF w)]) (c_X5_isUpTo l G v (mostF w) ) cl_X5_56 yo_X5_isUpTo dX5_change_20 rfl (Nat.le_of_ble_eq_true rfl) (Nat.le_of_ble_eq_true rfl) rfl (Nat.le_of_ble_eq_true rfl) ⟨Nat.zero_le _, Nat.zero_le _⟩ ?_
      refine J_if_ne E (tgt := 32) dX5_change_23 (by decide) (fun c_23 => ?_) (fun c_23 => ?_)
      · skip
        have c_23 := bI_1 c_23
        exact absurd ⟨c_4, c_12, c_23⟩ hb
      · skip
        have c_23 := bI_0 c_23
        refine J_aload_n E dX5_change_26 rfl 0 rfl ?_
        refine J_iconst E dX5_change_27 ic_0 ?_
        refine J_cVi0 E (As := [.int 0]) (c_X5_tell l G a x 0 (by omega)) cl_X5_64 yo_X5_tell dX5_change_28 rfl rfl rfl (Nat.le_of_ble_eq_true rfl) (Nat.le_of_ble_eq_true rfl) rfl (Nat.le_of_ble_eq_true rfl) ⟨Nat.zero_le _, Nat.zero_le _⟩ ?_
        exact ret _ _ _ _ ⟨rfl, _, rfl, by intro g h2 h6; simp [upG, up3, up3R, h2, h6]⟩ rfl dX5_change_31

set_option maxHeartbeats 4000000 in
set_option maxRecDepth 20000 in
theorem c_X5_change_ok (l : Launch) (G : GB) (a : Nat → Nat) (x : Q3) (j k : Nat) (v : Int32) (hj : j < 11) (hk : k < 6) (hv : 0 ≤ v ∧ v ≤ mostF (nI k)) : CI l yX5_change cX5_change 6 .int 2 41 G [.ref (a 0), .int (nI j), .int (nI k), .int v] (wC G a x) (fun vR w' => vR = x 0 k j ∧ PubC G a (up3 x 0 k j v) w') := by
  refine CI.mk (own := RX5) (by decide) rfl (Nat.le_of_ble_eq_true rfl) ?_
  intro X E ret
  show J X G 6 0 0 (wC G a x) [(0, .ref (a 0)), (1, .int (nI j)), (2, .int (nI k)), (3, .int v)] 0 []
  rcases (show k = 0 ∨ k = 1 ∨ k = 2 ∨ k = 3 ∨ k = 4 ∨ k = 5 by omega) with rfl | rfl | rfl | rfl | rfl | rfl
  · skip
    refine J_iload_n E dX5_change_0 rfl 1 rfl ?_
    refine J_cSiN E (As := [.int (nI j)]) (c_X5_isHouse l G (nI j) ) cl_X5_52 yo_X5_isHouse dX5_change_1 rfl (Nat.le_of_ble_eq_true rfl) (Nat.le_of_ble_eq_true rfl) rfl (Nat.le_of_ble_eq_true rfl) ⟨Nat.zero_le _, Nat.zero_le _⟩ ?_
    refine J_if_eq E (tgt := 26) dX5_change_4 (by decide) (fun c_4 => ?_) (fun c_4 => ?_)
    · skip
      have c_4 := bI_0 c_4
      exact absurd (inB (a := j) (b := 10) (by omega) (by decide)) c_4
    · skip
      have c_4 := bI_1 c_4
      refine J_iload_n E dX5_change_7 rfl 2 rfl ?_
      refine J_iconst E dX5_change_8 ic_5 ?_
      refine J_cSiN E (As := [.int (nI 0), .int 5]) (c_X5_isUpTo l G (nI 0) 5 ) cl_X5_56 yo_X5_isUpTo dX5_change_9 rfl (Nat.le_of_ble_eq_true rfl) (Nat.le_of_ble_eq_true rfl) rfl (Nat.le_of_ble_eq_true rfl) ⟨Nat.zero_le _, Nat.zero_le _⟩ ?_
      refine J_if_eq E (tgt := 26) dX5_change_12 (by decide) (fun c_12 => ?_) (fun c_12 => ?_)
      · skip
        have c_12 := bI_0 c_12
        exact absurd (inB (a := 0) (b := 5) (by omega) (by decide)) c_12
      · skip
        have c_12 := bI_1 c_12
        refine J_iload_n E dX5_change_15 rfl 3 rfl ?_
        refine J_iload_n E dX5_change_16 rfl 2 rfl ?_
        refine J_cSiN E (As := [.int (nI 0)]) (c_X5_mostOf l G (nI 0) ) cl_X5_60 yo_X5_mostOf dX5_change_17 rfl (Nat.le_of_ble_eq_true rfl) (Nat.le_of_ble_eq_true rfl) rfl (Nat.le_of_ble_eq_true rfl) ⟨Nat.zero_le _, Nat.zero_le _⟩ ?_
        refine J_cSiN E (As := [.int v, .int (mostF (nI 0))]) (c_X5_isUpTo l G v (mostF (nI 0)) ) cl_X5_56 yo_X5_isUpTo dX5_change_20 rfl (Nat.le_of_ble_eq_true rfl) (Nat.le_of_ble_eq_true rfl) rfl (Nat.le_of_ble_eq_true rfl) ⟨Nat.zero_le _, Nat.zero_le _⟩ ?_
        refine J_if_ne E (tgt := 32) dX5_change_23 (by decide) (fun c_23 => ?_) (fun c_23 => ?_)
        · skip
          have c_23 := bI_1 c_23
          refine J_aload_n E dX5_change_32 rfl 0 rfl ?_
          refine gC0_X5_10 E dX5_change_33 ?_
          refine J_iload_n E dX5_change_36 rfl 2 rfl ?_
          refine J_sr0r E (As := [.int (nI 0)]) (c_X1_row l G (sh a 1) (x 0) 0 (by omega)) cl_X5_67 yo_X1_row dX5_change_37 rfl (Nat.le_of_ble_eq_true rfl) (Nat.le_of_ble_eq_true rfl) rfl (Nat.le_of_ble_eq_true rfl) ⟨Nat.zero_le _, Nat.zero_le _⟩ ?_
          refine J_st (st' := [.ref (a 2)]) rfl ?_
          refine J_astore E (lv' := [(4, .ref (a 2)), (0, .ref (a 0)), (1, .int (nI j)), (2, .int (nI 0)), (3, .int v)]) dX5_change_40 (by decide) rfl ?_
          refine J_aload E dX5_change_42 0 rfl ?_
          refine J_iload_n E dX5_change_44 rfl 2 rfl ?_
          refine lC_2 E (j := j) dX5_change_45 (by omega) ?_
          refine J_istore E (lv' := [(5, .int (x 0 0 j)), (4, .ref (a 2)), (0, .ref (a 0)), (1, .int (nI j)), (2, .int (nI 0)), (3, .int v)]) dX5_change_46 (by decide) rfl ?_
          refine J_aload E dX5_change_48 1 rfl ?_
          refine J_iload_n E dX5_change_50 rfl 3 rfl ?_
          refine J_iload_n E dX5_change_51 rfl 5 rfl ?_
          refine sC_2 E (j := j) dX5_change_52 (by omega) ?_
          refine J_iload E dX5_change_53 0 rfl ?_
          exact ret _ _ _ _ ⟨rfl, _, rfl, by intro g h2 h6; simp [upG, up3, up3R, h2, h6]⟩ rfl dX5_change_55
        · skip
          have c_23 := bI_0 c_23
          exact absurd (by assumption) c_23
  · skip
    refine J_iload_n E dX5_change_0 rfl 1 rfl ?_
    refine J_cSiN E (As := [.int (nI j)]) (c_X5_isHouse l G (nI j) ) cl_X5_52 yo_X5_isHouse dX5_change_1 rfl (Nat.le_of_ble_eq_true rfl) (Nat.le_of_ble_eq_true rfl) rfl (Nat.le_of_ble_eq_true rfl) ⟨Nat.zero_le _, Nat.zero_le _⟩ ?_
    refine J_if_eq E (tgt := 26) dX5_change_4 (by decide) (fun c_4 => ?_) (fun c_4 => ?_)
    · skip
      have c_4 := bI_0 c_4
      exact absurd (inB (a := j) (b := 10) (by omega) (by decide)) c_4
    · skip
      have c_4 := bI_1 c_4
      refine J_iload_n E dX5_change_7 rfl 2 rfl ?_
      refine J_iconst E dX5_change_8 ic_5 ?_
      refine J_cSiN E (As := [.int (nI 1), .int 5]) (c_X5_isUpTo l G (nI 1) 5 ) cl_X5_56 yo_X5_isUpTo dX5_change_9 rfl (Nat.le_of_ble_eq_true rfl) (Nat.le_of_ble_eq_true rfl) rfl (Nat.le_of_ble_eq_true rfl) ⟨Nat.zero_le _, Nat.zero_le _⟩ ?_
      refine J_if_eq E (tgt := 26) dX5_change_12 (by decide) (fun c_12 => ?_) (fun c_12 => ?_)
      · skip
        have c_12 := bI_0 c_12
        exact absurd (inB (a := 1) (b := 5) (by omega) (by decide)) c_12
      · skip
        have c_12 := bI_1 c_12
        refine J_iload_n E dX5_change_15 rfl 3 rfl ?_
        refine J_iload_n E dX5_change_16 rfl 2 rfl ?_
        refine J_cSiN E (As := [.int (nI 1)]) (c_X5_mostOf l G (nI 1) ) cl_X5_60 yo_X5_mostOf dX5_change_17 rfl (Nat.le_of_ble_eq_true rfl) (Nat.le_of_ble_eq_true rfl) rfl (Nat.le_of_ble_eq_true rfl) ⟨Nat.zero_le _, Nat.zero_le _⟩ ?_
        refine J_cSiN E (As := [.int v, .int (mostF (nI 1))]) (c_X5_isUpTo l G v (mostF (nI 1)) ) cl_X5_56 yo_X5_isUpTo dX5_change_20 rfl (Nat.le_of_ble_eq_true rfl) (Nat.le_of_ble_eq_true rfl) rfl (Nat.le_of_ble_eq_true rfl) ⟨Nat.zero_le _, Nat.zero_le _⟩ ?_
        refine J_if_ne E (tgt := 32) dX5_change_23 (by decide) (fun c_23 => ?_) (fun c_23 => ?_)
        · skip
          have c_23 := bI_1 c_23
          refine J_aload_n E dX5_change_32 rfl 0 rfl ?_
          refine gC0_X5_10 E dX5_change_33 ?_
          refine J_iload_n E dX5_change_36 rfl 2 rfl ?_
          refine J_sr0r E (As := [.int (nI 1)]) (c_X1_row l G (sh a 1) (x 0) 1 (by omega)) cl_X5_67 yo_X1_row dX5_change_37 rfl (Nat.le_of_ble_eq_true rfl) (Nat.le_of_ble_eq_true rfl) rfl (Nat.le_of_ble_eq_true rfl) ⟨Nat.zero_le _, Nat.zero_le _⟩ ?_
          refine J_st (st' := [.ref (a 3)]) rfl ?_
          refine J_astore E (lv' := [(4, .ref (a 3)), (0, .ref (a 0)), (1, .int (nI j)), (2, .int (nI 1)), (3, .int v)]) dX5_change_40 (by decide) rfl ?_
          refine J_aload E dX5_change_42 0 rfl ?_
          refine J_iload_n E dX5_change_44 rfl 2 rfl ?_
          refine lC_3 E (j := j) dX5_change_45 (by omega) ?_
          refine J_istore E (lv' := [(5, .int (x 0 1 j)), (4, .ref (a 3)), (0, .ref (a 0)), (1, .int (nI j)), (2, .int (nI 1)), (3, .int v)]) dX5_change_46 (by decide) rfl ?_
          refine J_aload E dX5_change_48 1 rfl ?_
          refine J_iload_n E dX5_change_50 rfl 3 rfl ?_
          refine J_iload_n E dX5_change_51 rfl 5 rfl ?_
          refine sC_3 E (j := j) dX5_change_52 (by omega) ?_
          refine J_iload E dX5_change_53 0 rfl ?_
          exact ret _ _ _ _ ⟨rfl, _, rfl, by intro g h2 h6; simp [upG, up3, up3R, h2, h6]⟩ rfl dX5_change_55
        · skip
          have c_23 := bI_0 c_23
          exact absurd (by assumption) c_23
  · skip
    refine J_iload_n E dX5_change_0 rfl 1 rfl ?_
    refine J_cSiN E (As := [.int (nI j)]) (c_X5_isHouse l G (nI j) ) cl_X5_52 yo_X5_isHouse dX5_change_1 rfl (Nat.le_of_ble_eq_true rfl) (Nat.le_of_ble_eq_true rfl) rfl (Nat.le_of_ble_eq_true rfl) ⟨Nat.zero_le _, Nat.zero_le _⟩ ?_
    refine J_if_eq E (tgt := 26) dX5_change_4 (by decide) (fun c_4 => ?_) (fun c_4 => ?_)
    · skip
      have c_4 := bI_0 c_4
      exact absurd (inB (a := j) (b := 10) (by omega) (by decide)) c_4
    · skip
      have c_4 := bI_1 c_4
      refine J_iload_n E dX5_change_7 rfl 2 rfl ?_
      refine J_iconst E dX5_change_8 ic_5 ?_
      refine J_cSiN E (As := [.int (nI 2), .int 5]) (c_X5_isUpTo l G (nI 2) 5 ) cl_X5_56 yo_X5_isUpTo dX5_change_9 rfl (Nat.le_of_ble_eq_true rfl) (Nat.le_of_ble_eq_true rfl) rfl (Nat.le_of_ble_eq_true rfl) ⟨Nat.zero_le _, Nat.zero_le _⟩ ?_
      refine J_if_eq E (tgt := 26) dX5_change_12 (by decide) (fun c_12 => ?_) (fun c_12 => ?_)
      · skip
        have c_12 := bI_0 c_12
        exact absurd (inB (a := 2) (b := 5) (by omega) (by decide)) c_12
      · skip
        have c_12 := bI_1 c_12
        refine J_iload_n E dX5_change_15 rfl 3 rfl ?_
        refine J_iload_n E dX5_change_16 rfl 2 rfl ?_
        refine J_cSiN E (As := [.int (nI 2)]) (c_X5_mostOf l G (nI 2) ) cl_X5_60 yo_X5_mostOf dX5_change_17 rfl (Nat.le_of_ble_eq_true rfl) (Nat.le_of_ble_eq_true rfl) rfl (Nat.le_of_ble_eq_true rfl) ⟨Nat.zero_le _, Nat.zero_le _⟩ ?_
        refine J_cSiN E (As := [.int v, .int (mostF (nI 2))]) (c_X5_isUpTo l G v (mostF (nI 2)) ) cl_X5_56 yo_X5_isUpTo dX5_change_20 rfl (Nat.le_of_ble_eq_true rfl) (Nat.le_of_ble_eq_true rfl) rfl (Nat.le_of_ble_eq_true rfl) ⟨Nat.zero_le _, Nat.zero_le _⟩ ?_
        refine J_if_ne E (tgt := 32) dX5_change_23 (by decide) (fun c_23 => ?_) (fun c_23 => ?_)
        · skip
          have c_23 := bI_1 c_23
          refine J_aload_n E dX5_change_32 rfl 0 rfl ?_
          refine gC0_X5_10 E dX5_change_33 ?_
          refine J_iload_n E dX5_change_36 rfl 2 rfl ?_
          refine J_sr0r E (As := [.int (nI 2)]) (c_X1_row l G (sh a 1) (x 0) 2 (by omega)) cl_X5_67 yo_X1_row dX5_change_37 rfl (Nat.le_of_ble_eq_true rfl) (Nat.le_of_ble_eq_true rfl) rfl (Nat.le_of_ble_eq_true rfl) ⟨Nat.zero_le _, Nat.zero_le _⟩ ?_
          refine J_st (st' := [.ref (a 4)]) rfl ?_
          refine J_astore E (lv' := [(4, .ref (a 4)), (0, .ref (a 0)), (1, .int (nI j)), (2, .int (nI 2)), (3, .int v)]) dX5_change_40 (by decide) rfl ?_
          refine J_aload E dX5_change_42 0 rfl ?_
          refine J_iload_n E dX5_change_44 rfl 2 rfl ?_
          refine lC_4 E (j := j) dX5_change_45 (by omega) ?_
          refine J_istore E (lv' := [(5, .int (x 0 2 j)), (4, .ref (a 4)), (0, .ref (a 0)), (1, .int (nI j)), (2, .int (nI 2)), (3, .int v)]) dX5_change_46 (by decide) rfl ?_
          refine J_aload E dX5_change_48 1 rfl ?_
          refine J_iload_n E dX5_change_50 rfl 3 rfl ?_
          refine J_iload_n E dX5_change_51 rfl 5 rfl ?_
          refine sC_4 E (j := j) dX5_change_52 (by omega) ?_
          refine J_iload E dX5_change_53 0 rfl ?_
          exact ret _ _ _ _ ⟨rfl, _, rfl, by intro g h2 h6; simp [upG, up3, up3R, h2, h6]⟩ rfl dX5_change_55
        · skip
          have c_23 := bI_0 c_23
          exact absurd (by assumption) c_23
  · skip
    refine J_iload_n E dX5_change_0 rfl 1 rfl ?_
    refine J_cSiN E (As := [.int (nI j)]) (c_X5_isHouse l G (nI j) ) cl_X5_52 yo_X5_isHouse dX5_change_1 rfl (Nat.le_of_ble_eq_true rfl) (Nat.le_of_ble_eq_true rfl) rfl (Nat.le_of_ble_eq_true rfl) ⟨Nat.zero_le _, Nat.zero_le _⟩ ?_
    refine J_if_eq E (tgt := 26) dX5_change_4 (by decide) (fun c_4 => ?_) (fun c_4 => ?_)
    · skip
      have c_4 := bI_0 c_4
      exact absurd (inB (a := j) (b := 10) (by omega) (by decide)) c_4
    · skip
      have c_4 := bI_1 c_4
      refine J_iload_n E dX5_change_7 rfl 2 rfl ?_
      refine J_iconst E dX5_change_8 ic_5 ?_
      refine J_cSiN E (As := [.int (nI 3), .int 5]) (c_X5_isUpTo l G (nI 3) 5 ) cl_X5_56 yo_X5_isUpTo dX5_change_9 rfl (Nat.le_of_ble_eq_true rfl) (Nat.le_of_ble_eq_true rfl) rfl (Nat.le_of_ble_eq_true rfl) ⟨Nat.zero_le _, Nat.zero_le _⟩ ?_
      refine J_if_eq E (tgt := 26) dX5_change_12 (by decide) (fun c_12 => ?_) (fun c_12 => ?_)
      · skip
        have c_12 := bI_0 c_12
        exact absurd (inB (a := 3) (b := 5) (by omega) (by decide)) c_12
      · skip
        have c_12 := bI_1 c_12
        refine J_iload_n E dX5_change_15 rfl 3 rfl ?_
        refine J_iload_n E dX5_change_16 rfl 2 rfl ?_
        refine J_cSiN E (As := [.int (nI 3)]) (c_X5_mostOf l G (nI 3) ) cl_X5_60 yo_X5_mostOf dX5_change_17 rfl (Nat.le_of_ble_eq_true rfl) (Nat.le_of_ble_eq_true rfl) rfl (Nat.le_of_ble_eq_true rfl) ⟨Nat.zero_le _, Nat.zero_le _⟩ ?_
        refine J_cSiN E (As := [.int v, .int (mostF (nI 3))]) (c_X5_isUpTo l G v (mostF (nI 3)) ) cl_X5_56 yo_X5_isUpTo dX5_change_20 rfl (Nat.le_of_ble_eq_true rfl) (Nat.le_of_ble_eq_true rfl) rfl (Nat.le_of_ble_eq_true rfl) ⟨Nat.zero_le _, Nat.zero_le _⟩ ?_
        refine J_if_ne E (tgt := 32) dX5_change_23 (by decide) (fun c_23 => ?_) (fun c_23 => ?_)
        · skip
          have c_23 := bI_1 c_23
          refine J_aload_n E dX5_change_32 rfl 0 rfl ?_
          refine gC0_X5_10 E dX5_change_33 ?_
          refine J_iload_n E dX5_change_36 rfl 2 rfl ?_
          refine J_sr0r E (As := [.int (nI 3)]) (c_X1_row l G (sh a 1) (x 0) 3 (by omega)) cl_X5_67 yo_X1_row dX5_change_37 rfl (Nat.le_of_ble_eq_true rfl) (Nat.le_of_ble_eq_true rfl) rfl (Nat.le_of_ble_eq_true rfl) ⟨Nat.zero_le _, Nat.zero_le _⟩ ?_
          refine J_st (st' := [.ref (a 5)]) rfl ?_
          refine J_astore E (lv' := [(4, .ref (a 5)), (0, .ref (a 0)), (1, .int (nI j)), (2, .int (nI 3)), (3, .int v)]) dX5_change_40 (by decide) rfl ?_
          refine J_aload E dX5_change_42 0 rfl ?_
          refine J_iload_n E dX5_change_44 rfl 2 rfl ?_
          refine lC_5 E (j := j) dX5_change_45 (by omega) ?_
          refine J_istore E (lv' := [(5, .int (x 0 3 j)), (4, .ref (a 5)), (0, .ref (a 0)), (1, .int (nI j)), (2, .int (nI 3)), (3, .int v)]) dX5_change_46 (by decide) rfl ?_
          refine J_aload E dX5_change_48 1 rfl ?_
          refine J_iload_n E dX5_change_50 rfl 3 rfl ?_
          refine J_iload_n E dX5_change_51 rfl 5 rfl ?_
          refine sC_5 E (j := j) dX5_change_52 (by omega) ?_
          refine J_iload E dX5_change_53 0 rfl ?_
          exact ret _ _ _ _ ⟨rfl, _, rfl, by intro g h2 h6; simp [upG, up3, up3R, h2, h6]⟩ rfl dX5_change_55
        · skip
          have c_23 := bI_0 c_23
          exact absurd (by assumption) c_23
  · skip
    refine J_iload_n E dX5_change_0 rfl 1 rfl ?_
    refine J_cSiN E (As := [.int (nI j)]) (c_X5_isHouse l G (nI j) ) cl_X5_52 yo_X5_isHouse dX5_change_1 rfl (Nat.le_of_ble_eq_true rfl) (Nat.le_of_ble_eq_true rfl) rfl (Nat.le_of_ble_eq_true rfl) ⟨Nat.zero_le _, Nat.zero_le _⟩ ?_
    refine J_if_eq E (tgt := 26) dX5_change_4 (by decide) (fun c_4 => ?_) (fun c_4 => ?_)
    · skip
      have c_4 := bI_0 c_4
      exact absurd (inB (a := j) (b := 10) (by omega) (by decide)) c_4
    · skip
      have c_4 := bI_1 c_4
      refine J_iload_n E dX5_change_7 rfl 2 rfl ?_
      refine J_iconst E dX5_change_8 ic_5 ?_
      refine J_cSiN E (As := [.int (nI 4), .int 5]) (c_X5_isUpTo l G (nI 4) 5 ) cl_X5_56 yo_X5_isUpTo dX5_change_9 rfl (Nat.le_of_ble_eq_true rfl) (Nat.le_of_ble_eq_true rfl) rfl (Nat.le_of_ble_eq_true rfl) ⟨Nat.zero_le _, Nat.zero_le _⟩ ?_
      refine J_if_eq E (tgt := 26) dX5_change_12 (by decide) (fun c_12 => ?_) (fun c_12 => ?_)
      · skip
        have c_12 := bI_0 c_12
        exact absurd (inB (a := 4) (b := 5) (by omega) (by decide)) c_12
      · skip
        have c_12 := bI_1 c_12
        refine J_iload_n E dX5_change_15 rfl 3 rfl ?_
        refine J_iload_n E dX5_change_16 rfl 2 rfl ?_
        refine J_cSiN E (As := [.int (nI 4)]) (c_X5_mostOf l G (nI 4) ) cl_X5_60 yo_X5_mostOf dX5_change_17 rfl (Nat.le_of_ble_eq_true rfl) (Nat.le_of_ble_eq_true rfl) rfl (Nat.le_of_ble_eq_true rfl) ⟨Nat.zero_le _, Nat.zero_le _⟩ ?_
        refine J_cSiN E (As := [.int v, .int (mostF (nI 4))]) (c_X5_isUpTo l G v (mostF (nI 4)) ) cl_X5_56 yo_X5_isUpTo dX5_change_20 rfl (Nat.le_of_ble_eq_true rfl) (Nat.le_of_ble_eq_true rfl) rfl (Nat.le_of_ble_eq_true rfl) ⟨Nat.zero_le _, Nat.zero_le _⟩ ?_
        refine J_if_ne E (tgt := 32) dX5_change_23 (by decide) (fun c_23 => ?_) (fun c_23 => ?_)
        · skip
          have c_23 := bI_1 c_23
          refine J_aload_n E dX5_change_32 rfl 0 rfl ?_
          refine gC0_X5_10 E dX5_change_33 ?_
          refine J_iload_n E dX5_change_36 rfl 2 rfl ?_
          refine J_sr0r E (As := [.int (nI 4)]) (c_X1_row l G (sh a 1) (x 0) 4 (by omega)) cl_X5_67 yo_X1_row dX5_change_37 rfl (Nat.le_of_ble_eq_true rfl) (Nat.le_of_ble_eq_true rfl) rfl (Nat.le_of_ble_eq_true rfl) ⟨Nat.zero_le _, Nat.zero_le _⟩ ?_
          refine J_st (st' := [.ref (a 6)]) rfl ?_
          refine J_astore E (lv' := [(4, .ref (a 6)), (0, .ref (a 0)), (1, .int (nI j)), (2, .int (nI 4)), (3, .int v)]) dX5_change_40 (by decide) rfl ?_
          refine J_aload E dX5_change_42 0 rfl ?_
          refine J_iload_n E dX5_change_44 rfl 2 rfl ?_
          refine lC_6 E (j := j) dX5_change_45 (by omega) ?_
          refine J_istore E (lv' := [(5, .int (x 0 4 j)), (4, .ref (a 6)), (0, .ref (a 0)), (1, .int (nI j)), (2, .int (nI 4)), (3, .int v)]) dX5_change_46 (by decide) rfl ?_
          refine J_aload E dX5_change_48 1 rfl ?_
          refine J_iload_n E dX5_change_50 rfl 3 rfl ?_
          refine J_iload_n E dX5_change_51 rfl 5 rfl ?_
          refine sC_6 E (j := j) dX5_change_52 (by omega) ?_
          refine J_iload E dX5_change_53 0 rfl ?_
          exact ret _ _ _ _ ⟨rfl, _, rfl, by intro g h2 h6; simp [upG, up3, up3R, h2, h6]⟩ rfl dX5_change_55
        · skip
          have c_23 := bI_0 c_23
          exact absurd (by assumption) c_23
  · skip
    refine J_iload_n E dX5_change_0 rfl 1 rfl ?_
    refine J_cSiN E (As := [.int (nI j)]) (c_X5_isHouse l G (nI j) ) cl_X5_52 yo_X5_isHouse dX5_change_1 rfl (Nat.le_of_ble_eq_true rfl) (Nat.le_of_ble_eq_true rfl) rfl (Nat.le_of_ble_eq_true rfl) ⟨Nat.zero_le _, Nat.zero_le _⟩ ?_
    refine J_if_eq E (tgt := 26) dX5_change_4 (by decide) (fun c_4 => ?_) (fun c_4 => ?_)
    · skip
      have c_4 := bI_0 c_4
      exact absurd (inB (a := j) (b := 10) (by omega) (by decide)) c_4
    · skip
      have c_4 := bI_1 c_4
      refine J_iload_n E dX5_change_7 rfl 2 rfl ?_
      refine J_iconst E dX5_change_8 ic_5 ?_
      refine J_cSiN E (As := [.int (nI 5), .int 5]) (c_X5_isUpTo l G (nI 5) 5 ) cl_X5_56 yo_X5_isUpTo dX5_change_9 rfl (Nat.le_of_ble_eq_true rfl) (Nat.le_of_ble_eq_true rfl) rfl (Nat.le_of_ble_eq_true rfl) ⟨Nat.zero_le _, Nat.zero_le _⟩ ?_
      refine J_if_eq E (tgt := 26) dX5_change_12 (by decide) (fun c_12 => ?_) (fun c_12 => ?_)
      · skip
        have c_12 := bI_0 c_12
        exact absurd (inB (a := 5) (b := 5) (by omega) (by decide)) c_12
      · skip
        have c_12 := bI_1 c_12
        refine J_iload_n E dX5_change_15 rfl 3 rfl ?_
        refine J_iload_n E dX5_change_16 rfl 2 rfl ?_
        refine J_cSiN E (As := [.int (nI 5)]) (c_X5_mostOf l G (nI 5) ) cl_X5_60 yo_X5_mostOf dX5_change_17 rfl (Nat.le_of_ble_eq_true rfl) (Nat.le_of_ble_eq_true rfl) rfl (Nat.le_of_ble_eq_true rfl) ⟨Nat.zero_le _, Nat.zero_le _⟩ ?_
        refine J_cSiN E (As := [.int v, .int (mostF (nI 5))]) (c_X5_isUpTo l G v (mostF (nI 5)) ) cl_X5_56 yo_X5_isUpTo dX5_change_20 rfl (Nat.le_of_ble_eq_true rfl) (Nat.le_of_ble_eq_true rfl) rfl (Nat.le_of_ble_eq_true rfl) ⟨Nat.zero_le _, Nat.zero_le _⟩ ?_
        refine J_if_ne E (tgt := 32) dX5_change_23 (by decide) (fun c_23 => ?_) (fun c_23 => ?_)
        · skip
          have c_23 := bI_1 c_23
          refine J_aload_n E dX5_change_32 rfl 0 rfl ?_
          refine gC0_X5_10 E dX5_change_33 ?_
          refine J_iload_n E dX5_change_36 rfl 2 rfl ?_
          refine J_sr0r E (As := [.int (nI 5)]) (c_X1_row l G (sh a 1) (x 0) 5 (by omega)) cl_X5_67 yo_X1_row dX5_change_37 rfl (Nat.le_of_ble_eq_true rfl) (Nat.le_of_ble_eq_true rfl) rfl (Nat.le_of_ble_eq_true rfl) ⟨Nat.zero_le _, Nat.zero_le _⟩ ?_
          refine J_st (st' := [.ref (a 7)]) rfl ?_
          refine J_astore E (lv' := [(4, .ref (a 7)), (0, .ref (a 0)), (1, .int (nI j)), (2, .int (nI 5)), (3, .int v)]) dX5_change_40 (by decide) rfl ?_
          refine J_aload E dX5_change_42 0 rfl ?_
          refine J_iload_n E dX5_change_44 rfl 2 rfl ?_
          refine lC_7 E (j := j) dX5_change_45 (by omega) ?_
          refine J_istore E (lv' := [(5, .int (x 0 5 j)), (4, .ref (a 7)), (0, .ref (a 0)), (1, .int (nI j)), (2, .int (nI 5)), (3, .int v)]) dX5_change_46 (by decide) rfl ?_
          refine J_aload E dX5_change_48 1 rfl ?_
          refine J_iload_n E dX5_change_50 rfl 3 rfl ?_
          refine J_iload_n E dX5_change_51 rfl 5 rfl ?_
          refine sC_7 E (j := j) dX5_change_52 (by omega) ?_
          refine J_iload E dX5_change_53 0 rfl ?_
          exact ret _ _ _ _ ⟨rfl, _, rfl, by intro g h2 h6; simp [upG, up3, up3R, h2, h6]⟩ rfl dX5_change_55
        · skip
          have c_23 := bI_0 c_23
          exact absurd (by assumption) c_23

set_option maxHeartbeats 4000000 in
set_option maxRecDepth 20000 in
theorem c_X5_of_bad (l : Launch) (G : GB) (a : Nat → Nat) (x : Q3) (h w : Int32) (hb : ¬ (okH h ∧ 0 ≤ w ∧ w ≤ 9)) : CI l yX5_of cX5_of 3 .int 2 41 G [.ref (a 0), .int h, .int w] (wC G a x) (fun vR w' => vR = tellR 0 ∧ PubC G a (tellX x 0) w') := by
  refine CI.mk (own := RX5) (by decide) rfl (Nat.le_of_ble_eq_true rfl) ?_
  intro X E ret
  show J X G 3 0 0 (wC G a x) [(0, .ref (a 0)), (1, .int h), (2, .int w)] 0 []
  refine J_iload_n E dX5_of_0 rfl 1 rfl ?_
  refine J_cSiN E (As := [.int h]) (c_X5_isHouse l G h ) cl_X5_52 yo_X5_isHouse dX5_of_1 rfl (Nat.le_of_ble_eq_true rfl) (Nat.le_of_ble_eq_true rfl) rfl (Nat.le_of_ble_eq_true rfl) ⟨Nat.zero_le _, Nat.zero_le _⟩ ?_
  refine J_if_eq E (tgt := 16) dX5_of_4 (by decide) (fun c_4 => ?_) (fun c_4 => ?_)
  · skip
    have c_4 := bI_0 c_4
    refine J_aload_n E dX5_of_16 rfl 0 rfl ?_
    refine J_iconst E dX5_of_17 ic_0 ?_
    refine J_cVi0 E (As := [.int 0]) (c_X5_tell l G a x 0 (by omega)) cl_X5_64 yo_X5_tell dX5_of_18 rfl rfl rfl (Nat.le_of_ble_eq_true rfl) (Nat.le_of_ble_eq_true rfl) rfl (Nat.le_of_ble_eq_true rfl) ⟨Nat.zero_le _, Nat.zero_le _⟩ ?_
    exact ret _ _ _ _ ⟨rfl, _, rfl, by intro g h2 h6; simp [upG, up3, up3R, h2, h6]⟩ rfl dX5_of_21
  · skip
    have c_4 := bI_1 c_4
    refine J_iload_n E dX5_of_7 rfl 2 rfl ?_
    refine J_bipush E dX5_of_8 bp_9 ?_
    refine J_cSiN E (As := [.int w, .int 9]) (c_X5_isUpTo l G w 9 ) cl_X5_56 yo_X5_isUpTo dX5_of_10 rfl (Nat.le_of_ble_eq_true rfl) (Nat.le_of_ble_eq_true rfl) rfl (Nat.le_of_ble_eq_true rfl) ⟨Nat.zero_le _, Nat.zero_le _⟩ ?_
    refine J_if_ne E (tgt := 22) dX5_of_13 (by decide) (fun c_13 => ?_) (fun c_13 => ?_)
    · skip
      have c_13 := bI_1 c_13
      exact absurd ⟨c_4, c_13⟩ hb
    · skip
      have c_13 := bI_0 c_13
      refine J_aload_n E dX5_of_16 rfl 0 rfl ?_
      refine J_iconst E dX5_of_17 ic_0 ?_
      refine J_cVi0 E (As := [.int 0]) (c_X5_tell l G a x 0 (by omega)) cl_X5_64 yo_X5_tell dX5_of_18 rfl rfl rfl (Nat.le_of_ble_eq_true rfl) (Nat.le_of_ble_eq_true rfl) rfl (Nat.le_of_ble_eq_true rfl) ⟨Nat.zero_le _, Nat.zero_le _⟩ ?_
      exact ret _ _ _ _ ⟨rfl, _, rfl, by intro g h2 h6; simp [upG, up3, up3R, h2, h6]⟩ rfl dX5_of_21

set_option maxHeartbeats 4000000 in
set_option maxRecDepth 20000 in
theorem c_X5_of_ok (l : Launch) (G : GB) (a : Nat → Nat) (x : Q3) (j k : Nat) (hj : j < 11) (hk : k < 10) : CI l yX5_of cX5_of 3 .int 3 66 G [.ref (a 0), .int (nI j), .int (nI k)] (wC G a x) (fun vR w' => vR = ofF (x 0) j k ∧ PubC G a x w') := by
  refine CI.mk (own := RX5) (by decide) rfl (Nat.le_of_ble_eq_true rfl) ?_
  intro X E ret
  show J X G 3 0 0 (wC G a x) [(0, .ref (a 0)), (1, .int (nI j)), (2, .int (nI k))] 0 []
  rcases (show k = 0 ∨ k = 1 ∨ k = 2 ∨ k = 3 ∨ k = 4 ∨ k = 5 ∨ k = 6 ∨ k = 7 ∨ k = 8 ∨ k = 9 by omega) with rfl | rfl | rfl | rfl | rfl | rfl | rfl | rfl | rfl | rfl
  · skip
    refine J_iload_n E dX5_of_0 rfl 1 rfl ?_
    refine J_cSiN E (As := [.int (nI j)]) (c_X5_isHouse l G (nI j) ) cl_X5_52 yo_X5_isHouse dX5_of_1 rfl (Nat.le_of_ble_eq_true rfl) (Nat.le_of_ble_eq_true rfl) rfl (Nat.le_of_ble_eq_true rfl) ⟨Nat.zero_le _, Nat.zero_le _⟩ ?_
    refine J_if_eq E (tgt := 16) dX5_of_4 (by decide) (fun c_4 => ?_) (fun c_4 => ?_)
    · skip
      have c_4 := bI_0 c_4
      exact absurd (inB (a := j) (b := 10) (by omega) (by decide)) c_4
    · skip
      have c_4 := bI_1 c_4
      refine J_iload_n E dX5_of_7 rfl 2 rfl ?_
      refine J_bipush E dX5_of_8 bp_9 ?_
      refine J_cSiN E (As := [.int (nI 0), .int 9]) (c_X5_isUpTo l G (nI 0) 9 ) cl_X5_56 yo_X5_isUpTo dX5_of_10 rfl (Nat.le_of_ble_eq_true rfl) (Nat.le_of_ble_eq_true rfl) rfl (Nat.le_of_ble_eq_true rfl) ⟨Nat.zero_le _, Nat.zero_le _⟩ ?_
      refine J_if_ne E (tgt := 22) dX5_of_13 (by decide) (fun c_13 => ?_) (fun c_13 => ?_)
      · skip
        have c_13 := bI_1 c_13
        refine J_iload_n E dX5_of_22 rfl 2 rfl ?_
        refine J_tabOut E (tgt := 92) dX5_of_23 (by decide) (by decide) ?_
        refine J_aload_n E dX5_of_92 rfl 0 rfl ?_
        refine gC0_X5_10 E dX5_of_93 ?_
        refine J_iload_n E dX5_of_96 rfl 2 rfl ?_
        refine J_sr0r E (As := [.int (nI 0)]) (c_X1_row l G (sh a 1) (x 0) 0 (by omega)) cl_X5_67 yo_X1_row dX5_of_97 rfl (Nat.le_of_ble_eq_true rfl) (Nat.le_of_ble_eq_true rfl) rfl (Nat.le_of_ble_eq_true rfl) ⟨Nat.zero_le _, Nat.zero_le _⟩ ?_
        refine J_st (st' := [.ref (a 2)]) rfl ?_
        refine J_iload_n E dX5_of_100 rfl 1 rfl ?_
        refine lC_2 E (j := j) dX5_of_101 (by omega) ?_
        exact ret _ _ _ _ ⟨by simp [ofF], _, rfl, by intro g h2 h6; simp [upG, up3, up3R, h2, h6]⟩ rfl dX5_of_102
      · skip
        have c_13 := bI_0 c_13
        exact absurd (inB (a := 0) (b := 9) (by omega) (by decide)) c_13
  · skip
    refine J_iload_n E dX5_of_0 rfl 1 rfl ?_
    refine J_cSiN E (As := [.int (nI j)]) (c_X5_isHouse l G (nI j) ) cl_X5_52 yo_X5_isHouse dX5_of_1 rfl (Nat.le_of_ble_eq_true rfl) (Nat.le_of_ble_eq_true rfl) rfl (Nat.le_of_ble_eq_true rfl) ⟨Nat.zero_le _, Nat.zero_le _⟩ ?_
    refine J_if_eq E (tgt := 16) dX5_of_4 (by decide) (fun c_4 => ?_) (fun c_4 => ?_)
    · skip
      have c_4 := bI_0 c_4
      exact absurd (inB (a := j) (b := 10) (by omega) (by decide)) c_4
    · skip
      have c_4 := bI_1 c_4
      refine J_iload_n E dX5_of_7 rfl 2 rfl ?_
      refine J_bipush E dX5_of_8 bp_9 ?_
      refine J_cSiN E (As := [.int (nI 1), .int 9]) (c_X5_isUpTo l G (nI 1) 9 ) cl_X5_56 yo_X5_isUpTo dX5_of_10 rfl (Nat.le_of_ble_eq_true rfl) (Nat.le_of_ble_eq_true rfl) rfl (Nat.le_of_ble_eq_true rfl) ⟨Nat.zero_le _, Nat.zero_le _⟩ ?_
      refine J_if_ne E (tgt := 22) dX5_of_13 (by decide) (fun c_13 => ?_) (fun c_13 => ?_)
      · skip
        have c_13 := bI_1 c_13
        refine J_iload_n E dX5_of_22 rfl 2 rfl ?_
        refine J_tabOut E (tgt := 92) dX5_of_23 (by decide) (by decide) ?_
        refine J_aload_n E dX5_of_92 rfl 0 rfl ?_
        refine gC0_X5_10 E dX5_of_93 ?_
        refine J_iload_n E dX5_of_96 rfl 2 rfl ?_
        refine J_sr0r E (As := [.int (nI 1)]) (c_X1_row l G (sh a 1) (x 0) 1 (by omega)) cl_X5_67 yo_X1_row dX5_of_97 rfl (Nat.le_of_ble_eq_true rfl) (Nat.le_of_ble_eq_true rfl) rfl (Nat.le_of_ble_eq_true rfl) ⟨Nat.zero_le _, Nat.zero_le _⟩ ?_
        refine J_st (st' := [.ref (a 3)]) rfl ?_
        refine J_iload_n E dX5_of_100 rfl 1 rfl ?_
        refine lC_3 E (j := j) dX5_of_101 (by omega) ?_
        exact ret _ _ _ _ ⟨by simp [ofF], _, rfl, by intro g h2 h6; simp [upG, up3, up3R, h2, h6]⟩ rfl dX5_of_102
      · skip
        have c_13 := bI_0 c_13
        exact absurd (inB (a := 1) (b := 9) (by omega) (by decide)) c_13
  · skip
    refine J_iload_n E dX5_of_0 rfl 1 rfl ?_
    refine J_cSiN E (As := [.int (nI j)]) (c_X5_isHouse l G (nI j) ) cl_X5_52 yo_X5_isHouse dX5_of_1 rfl (Nat.le_of_ble_eq_true rfl) (Nat.le_of_ble_eq_true rfl) rfl (Nat.le_of_ble_eq_true rfl) ⟨Nat.zero_le _, Nat.zero_le _⟩ ?_
    refine J_if_eq E (tgt := 16) dX5_of_4 (by decide) (fun c_4 => ?_) (fun c_4 => ?_)
    · skip
      have c_4 := bI_0 c_4
      exact absurd (inB (a := j) (b := 10) (by omega) (by decide)) c_4
    · skip
      have c_4 := bI_1 c_4
      refine J_iload_n E dX5_of_7 rfl 2 rfl ?_
      refine J_bipush E dX5_of_8 bp_9 ?_
      refine J_cSiN E (As := [.int (nI 2), .int 9]) (c_X5_isUpTo l G (nI 2) 9 ) cl_X5_56 yo_X5_isUpTo dX5_of_10 rfl (Nat.le_of_ble_eq_true rfl) (Nat.le_of_ble_eq_true rfl) rfl (Nat.le_of_ble_eq_true rfl) ⟨Nat.zero_le _, Nat.zero_le _⟩ ?_
      refine J_if_ne E (tgt := 22) dX5_of_13 (by decide) (fun c_13 => ?_) (fun c_13 => ?_)
      · skip
        have c_13 := bI_1 c_13
        refine J_iload_n E dX5_of_22 rfl 2 rfl ?_
        refine J_tabOut E (tgt := 92) dX5_of_23 (by decide) (by decide) ?_
        refine J_aload_n E dX5_of_92 rfl 0 rfl ?_
        refine gC0_X5_10 E dX5_of_93 ?_
        refine J_iload_n E dX5_of_96 rfl 2 rfl ?_
        refine J_sr0r E (As := [.int (nI 2)]) (c_X1_row l G (sh a 1) (x 0) 2 (by omega)) cl_X5_67 yo_X1_row dX5_of_97 rfl (Nat.le_of_ble_eq_true rfl) (Nat.le_of_ble_eq_true rfl) rfl (Nat.le_of_ble_eq_true rfl) ⟨Nat.zero_le _, Nat.zero_le _⟩ ?_
        refine J_st (st' := [.ref (a 4)]) rfl ?_
        refine J_iload_n E dX5_of_100 rfl 1 rfl ?_
        refine lC_4 E (j := j) dX5_of_101 (by omega) ?_
        exact ret _ _ _ _ ⟨by simp [ofF], _, rfl, by intro g h2 h6; simp [upG, up3, up3R, h2, h6]⟩ rfl dX5_of_102
      · skip
        have c_13 := bI_0 c_13
        exact absurd (inB (a := 2) (b := 9) (by omega) (by decide)) c_13
  · skip
    refine J_iload_n E dX5_of_0 rfl 1 rfl ?_
    refine J_cSiN E (As := [.int (nI j)]) (c_X5_isHouse l G (nI j) ) cl_X5_52 yo_X5_isHouse dX5_of_1 rfl (Nat.le_of_ble_eq_true rfl) (Nat.le_of_ble_eq_true rfl) rfl (Nat.le_of_ble_eq_true rfl) ⟨Nat.zero_le _, Nat.zero_le _⟩ ?_
    refine J_if_eq E (tgt := 16) dX5_of_4 (by decide) (fun c_4 => ?_) (fun c_4 => ?_)
    · skip
      have c_4 := bI_0 c_4
      exact absurd (inB (a := j) (b := 10) (by omega) (by decide)) c_4
    · skip
      have c_4 := bI_1 c_4
      refine J_iload_n E dX5_of_7 rfl 2 rfl ?_
      refine J_bipush E dX5_of_8 bp_9 ?_
      refine J_cSiN E (As := [.int (nI 3), .int 9]) (c_X5_isUpTo l G (nI 3) 9 ) cl_X5_56 yo_X5_isUpTo dX5_of_10 rfl (Nat.le_of_ble_eq_true rfl) (Nat.le_of_ble_eq_true rfl) rfl (Nat.le_of_ble_eq_true rfl) ⟨Nat.zero_le _, Nat.zero_le _⟩ ?_
      refine J_if_ne E (tgt := 22) dX5_of_13 (by decide) (fun c_13 => ?_) (fun c_13 => ?_)
      · skip
        have c_13 := bI_1 c_13
        refine J_iload_n E dX5_of_22 rfl 2 rfl ?_
        refine J_tabOut E (tgt := 92) dX5_of_23 (by decide) (by decide) ?_
        refine J_aload_n E dX5_of_92 rfl 0 rfl ?_
        refine gC0_X5_10 E dX5_of_93 ?_
        refine J_iload_n E dX5_of_96 rfl 2 rfl ?_
        refine J_sr0r E (As := [.int (nI 3)]) (c_X1_row l G (sh a 1) (x 0) 3 (by omega)) cl_X5_67 yo_X1_row dX5_of_97 rfl (Nat.le_of_ble_eq_true rfl) (Nat.le_of_ble_eq_true rfl) rfl (Nat.le_of_ble_eq_true rfl) ⟨Nat.zero_le _, Nat.zero_le _⟩ ?_
        refine J_st (st' := [.ref (a 5)]) rfl ?_
        refine J_iload_n E dX5_of_100 rfl 1 rfl ?_
        refine lC_5 E (j := j) dX5_of_101 (by omega) ?_
        exact ret _ _ _ _ ⟨by simp [ofF], _, rfl, by intro g h2 h6; simp [upG, up3, up3R, h2, h6]⟩ rfl dX5_of_102
      · skip
        have c_13 := bI_0 c_13
        exact absurd (inB (a := 3) (b := 9) (by omega) (by decide)) c_13
  · skip
    refine J_iload_n E dX5_of_0 rfl 1 rfl ?_
    refine J_cSiN E (As := [.int (nI j)]) (c_X5_isHouse l G (nI j) ) cl_X5_52 yo_X5_isHouse dX5_of_1 rfl (Nat.le_of_ble_eq_true rfl) (Nat.le_of_ble_eq_true rfl) rfl (Nat.le_of_ble_eq_true rfl) ⟨Nat.zero_le _, Nat.zero_le _⟩ ?_
    refine J_if_eq E (tgt := 16) dX5_of_4 (by decide) (fun c_4 => ?_) (fun c_4 => ?_)
    · skip
      have c_4 := bI_0 c_4
      exact absurd (inB (a := j) (b := 10) (by omega) (by decide)) c_4
    · skip
      have c_4 := bI_1 c_4
      refine J_iload_n E dX5_of_7 rfl 2 rfl ?_
      refine J_bipush E dX5_of_8 bp_9 ?_
      refine J_cSiN E (As := [.int (nI 4), .int 9]) (c_X5_isUpTo l G (nI 4) 9 ) cl_X5_56 yo_X5_isUpTo dX5_of_10 rfl (Nat.le_of_ble_eq_true rfl) (Nat.le_of_ble_eq_true rfl) rfl (Nat.le_of_ble_eq_true rfl) ⟨Nat.zero_le _, Nat.zero_le _⟩ ?_
      refine J_if_ne E (tgt := 22) dX5_of_13 (by decide) (fun c_13 => ?_) (fun c_13 => ?_)
      · skip
        have c_13 := bI_1 c_13
        refine J_iload_n E dX5_of_22 rfl 2 rfl ?_
        refine J_tabOut E (tgt := 92) dX5_of_23 (by decide) (by decide) ?_
        refine J_aload_n E dX5_of_92 rfl 0 rfl ?_
        refine gC0_X5_10 E dX5_of_93 ?_
        refine J_iload_n E dX5_of_96 rfl 2 rfl ?_
        refine J_sr0r E (As := [.int (nI 4)]) (c_X1_row l G (sh a 1) (x 0) 4 (by omega)) cl_X5_67 yo_X1_row dX5_of_97 rfl (Nat.le_of_ble_eq_true rfl) (Nat.le_of_ble_eq_true rfl) rfl (Nat.le_of_ble_eq_true rfl) ⟨Nat.zero_le _, Nat.zero_le _⟩ ?_
        refine J_st (st' := [.ref (a 6)]) rfl ?_
        refine J_iload_n E dX5_of_100 rfl 1 rfl ?_
        refine lC_6 E (j := j) dX5_of_101 (by omega) ?_
        exact ret _ _ _ _ ⟨by simp [ofF], _, rfl, by intro g h2 h6; simp [upG, up3, up3R, h2, h6]⟩ rfl dX5_of_102
      · skip
        have c_13 := bI_0 c_13
        exact absurd (inB (a := 4) (b := 9) (by omega) (by decide)) c_13
  · skip
    refine J_iload_n E dX5_of_0 rfl 1 rfl ?_
    refine J_cSiN E (As := [.int (nI j)]) (c_X5_isHouse l G (nI j) ) cl_X5_52 yo_X5_isHouse dX5_of_1 rfl (Nat.le_of_ble_eq_true rfl) (Nat.le_of_ble_eq_true rfl) rfl (Nat.le_of_ble_eq_true rfl) ⟨Nat.zero_le _, Nat.zero_le _⟩ ?_
    refine J_if_eq E (tgt := 16) dX5_of_4 (by decide) (fun c_4 => ?_) (fun c_4 => ?_)
    · skip
      have c_4 := bI_0 c_4
      exact absurd (inB (a := j) (b := 10) (by omega) (by decide)) c_4
    · skip
      have c_4 := bI_1 c_4
      refine J_iload_n E dX5_of_7 rfl 2 rfl ?_
      refine J_bipush E dX5_of_8 bp_9 ?_
      refine J_cSiN E (As := [.int (nI 5), .int 9]) (c_X5_isUpTo l G (nI 5) 9 ) cl_X5_56 yo_X5_isUpTo dX5_of_10 rfl (Nat.le_of_ble_eq_true rfl) (Nat.le_of_ble_eq_true rfl) rfl (Nat.le_of_ble_eq_true rfl) ⟨Nat.zero_le _, Nat.zero_le _⟩ ?_
      refine J_if_ne E (tgt := 22) dX5_of_13 (by decide) (fun c_13 => ?_) (fun c_13 => ?_)
      · skip
        have c_13 := bI_1 c_13
        refine J_iload_n E dX5_of_22 rfl 2 rfl ?_
        refine J_tabOut E (tgt := 92) dX5_of_23 (by decide) (by decide) ?_
        refine J_aload_n E dX5_of_92 rfl 0 rfl ?_
        refine gC0_X5_10 E dX5_of_93 ?_
        refine J_iload_n E dX5_of_96 rfl 2 rfl ?_
        refine J_sr0r E (As := [.int (nI 5)]) (c_X1_row l G (sh a 1) (x 0) 5 (by omega)) cl_X5_67 yo_X1_row dX5_of_97 rfl (Nat.le_of_ble_eq_true rfl) (Nat.le_of_ble_eq_true rfl) rfl (Nat.le_of_ble_eq_true rfl) ⟨Nat.zero_le _, Nat.zero_le _⟩ ?_
        refine J_st (st' := [.ref (a 7)]) rfl ?_
        refine J_iload_n E dX5_of_100 rfl 1 rfl ?_
        refine lC_7 E (j := j) dX5_of_101 (by omega) ?_
        exact ret _ _ _ _ ⟨by simp [ofF], _, rfl, by intro g h2 h6; simp [upG, up3, up3R, h2, h6]⟩ rfl dX5_of_102
      · skip
        have c_13 := bI_0 c_13
        exact absurd (inB (a := 5) (b := 9) (by omega) (by decide)) c_13
  · skip
    refine J_iload_n E dX5_of_0 rfl 1 rfl ?_
    refine J_cSiN E (As := [.int (nI j)]) (c_X5_isHouse l G (nI j) ) cl_X5_52 yo_X5_isHouse dX5_of_1 rfl (Nat.le_of_ble_eq_true rfl) (Nat.le_of_ble_eq_true rfl) rfl (Nat.le_of_ble_eq_true rfl) ⟨Nat.zero_le _, Nat.zero_le _⟩ ?_
    refine J_if_eq E (tgt := 16) dX5_of_4 (by decide) (fun c_4 => ?_) (fun c_4 => ?_)
    · skip
      have c_4 := bI_0 c_4
      exact absurd (inB (a := j) (b := 10) (by omega) (by decide)) c_4
    · skip
      have c_4 := bI_1 c_4
      refine J_iload_n E dX5_of_7 rfl 2 rfl ?_
      refine J_bipush E dX5_of_8 bp_9 ?_
      refine J_cSiN E (As := [.int (nI 6), .int 9]) (c_X5_isUpTo l G (nI 6) 9 ) cl_X5_56 yo_X5_isUpTo dX5_of_10 rfl (Nat.le_of_ble_eq_true rfl) (Nat.le_of_ble_eq_true rfl) rfl (Nat.le_of_ble_eq_true rfl) ⟨Nat.zero_le _, Nat.zero_le _⟩ ?_
      refine J_if_ne E (tgt := 22) dX5_of_13 (by decide) (fun c_13 => ?_) (fun c_13 => ?_)
      · skip
        have c_13 := bI_1 c_13
        refine J_iload_n E dX5_of_22 rfl 2 rfl ?_
        refine J_tabIn E (tgt := 52) (off := 29) dX5_of_23 (by decide) (by decide) rfl (by decide) ?_
        refine J_aload_n E dX5_of_52 rfl 0 rfl ?_
        refine gC0_X5_10 E dX5_of_53 ?_
        refine J_iload_n E dX5_of_56 rfl 1 rfl ?_
        refine J_si0r E (As := [.int (nI j)]) (c_X1_usesOf l G (sh a 1) (x 0) j (by omega)) cl_X5_71 yo_X1_usesOf dX5_of_57 rfl (Nat.le_of_ble_eq_true rfl) (Nat.le_of_ble_eq_true rfl) rfl (Nat.le_of_ble_eq_true rfl) ⟨Nat.zero_le _, Nat.zero_le _⟩ ?_
        exact ret _ _ _ _ ⟨by simp [ofF], _, rfl, by intro g h2 h6; simp [upG, up3, up3R, h2, h6]⟩ rfl dX5_of_60
      · skip
        have c_13 := bI_0 c_13
        exact absurd (inB (a := 6) (b := 9) (by omega) (by decide)) c_13
  · skip
    refine J_iload_n E dX5_of_0 rfl 1 rfl ?_
    refine J_cSiN E (As := [.int (nI j)]) (c_X5_isHouse l G (nI j) ) cl_X5_52 yo_X5_isHouse dX5_of_1 rfl (Nat.le_of_ble_eq_true rfl) (Nat.le_of_ble_eq_true rfl) rfl (Nat.le_of_ble_eq_true rfl) ⟨Nat.zero_le _, Nat.zero_le _⟩ ?_
    refine J_if_eq E (tgt := 16) dX5_of_4 (by decide) (fun c_4 => ?_) (fun c_4 => ?_)
    · skip
      have c_4 := bI_0 c_4
      exact absurd (inB (a := j) (b := 10) (by omega) (by decide)) c_4
    · skip
      have c_4 := bI_1 c_4
      refine J_iload_n E dX5_of_7 rfl 2 rfl ?_
      refine J_bipush E dX5_of_8 bp_9 ?_
      refine J_cSiN E (As := [.int (nI 7), .int 9]) (c_X5_isUpTo l G (nI 7) 9 ) cl_X5_56 yo_X5_isUpTo dX5_of_10 rfl (Nat.le_of_ble_eq_true rfl) (Nat.le_of_ble_eq_true rfl) rfl (Nat.le_of_ble_eq_true rfl) ⟨Nat.zero_le _, Nat.zero_le _⟩ ?_
      refine J_if_ne E (tgt := 22) dX5_of_13 (by decide) (fun c_13 => ?_) (fun c_13 => ?_)
      · skip
        have c_13 := bI_1 c_13
        refine J_iload_n E dX5_of_22 rfl 2 rfl ?_
        refine J_tabIn E (tgt := 61) (off := 38) dX5_of_23 (by decide) (by decide) rfl (by decide) ?_
        refine J_aload_n E dX5_of_61 rfl 0 rfl ?_
        refine gC0_X5_10 E dX5_of_62 ?_
        refine J_iload_n E dX5_of_65 rfl 1 rfl ?_
        refine J_si0r E (As := [.int (nI j)]) (c_X1_keepsOf l G (sh a 1) (x 0) j (by omega)) cl_X5_74 yo_X1_keepsOf dX5_of_66 rfl (Nat.le_of_ble_eq_true rfl) (Nat.le_of_ble_eq_true rfl) rfl (Nat.le_of_ble_eq_true rfl) ⟨Nat.zero_le _, Nat.zero_le _⟩ ?_
        exact ret _ _ _ _ ⟨by simp [ofF], _, rfl, by intro g h2 h6; simp [upG, up3, up3R, h2, h6]⟩ rfl dX5_of_69
      · skip
        have c_13 := bI_0 c_13
        exact absurd (inB (a := 7) (b := 9) (by omega) (by decide)) c_13
  · skip
    refine J_iload_n E dX5_of_0 rfl 1 rfl ?_
    refine J_cSiN E (As := [.int (nI j)]) (c_X5_isHouse l G (nI j) ) cl_X5_52 yo_X5_isHouse dX5_of_1 rfl (Nat.le_of_ble_eq_true rfl) (Nat.le_of_ble_eq_true rfl) rfl (Nat.le_of_ble_eq_true rfl) ⟨Nat.zero_le _, Nat.zero_le _⟩ ?_
    refine J_if_eq E (tgt := 16) dX5_of_4 (by decide) (fun c_4 => ?_) (fun c_4 => ?_)
    · skip
      have c_4 := bI_0 c_4
      exact absurd (inB (a := j) (b := 10) (by omega) (by decide)) c_4
    · skip
      have c_4 := bI_1 c_4
      refine J_iload_n E dX5_of_7 rfl 2 rfl ?_
      refine J_bipush E dX5_of_8 bp_9 ?_
      refine J_cSiN E (As := [.int (nI 8), .int 9]) (c_X5_isUpTo l G (nI 8) 9 ) cl_X5_56 yo_X5_isUpTo dX5_of_10 rfl (Nat.le_of_ble_eq_true rfl) (Nat.le_of_ble_eq_true rfl) rfl (Nat.le_of_ble_eq_true rfl) ⟨Nat.zero_le _, Nat.zero_le _⟩ ?_
      refine J_if_ne E (tgt := 22) dX5_of_13 (by decide) (fun c_13 => ?_) (fun c_13 => ?_)
      · skip
        have c_13 := bI_1 c_13
        refine J_iload_n E dX5_of_22 rfl 2 rfl ?_
        refine J_tabIn E (tgt := 70) (off := 47) dX5_of_23 (by decide) (by decide) rfl (by decide) ?_
        refine J_aload_n E dX5_of_70 rfl 0 rfl ?_
        refine gC0_X5_10 E dX5_of_71 ?_
        refine gC1_X5_77 E dX5_of_74 ?_
        refine J_iload_n E dX5_of_77 rfl 1 rfl ?_
        refine lC_2 E (j := j) dX5_of_78 (by omega) ?_
        refine J_cSiN E (As := [.int (x 0 0 j)]) (c_X0_losing l G (x 0 0 j) ) cl_X5_80 yo_X0_losing dX5_of_79 rfl (Nat.le_of_ble_eq_true rfl) (Nat.le_of_ble_eq_true rfl) rfl (Nat.le_of_ble_eq_true rfl) ⟨Nat.zero_le _, Nat.zero_le _⟩ ?_
        exact ret _ _ _ _ ⟨by simp [ofF], _, rfl, by intro g h2 h6; simp [upG, up3, up3R, h2, h6]⟩ rfl dX5_of_82
      · skip
        have c_13 := bI_0 c_13
        exact absurd (inB (a := 8) (b := 9) (by omega) (by decide)) c_13
  · skip
    refine J_iload_n E dX5_of_0 rfl 1 rfl ?_
    refine J_cSiN E (As := [.int (nI j)]) (c_X5_isHouse l G (nI j) ) cl_X5_52 yo_X5_isHouse dX5_of_1 rfl (Nat.le_of_ble_eq_true rfl) (Nat.le_of_ble_eq_true rfl) rfl (Nat.le_of_ble_eq_true rfl) ⟨Nat.zero_le _, Nat.zero_le _⟩ ?_
    refine J_if_eq E (tgt := 16) dX5_of_4 (by decide) (fun c_4 => ?_) (fun c_4 => ?_)
    · skip
      have c_4 := bI_0 c_4
      exact absurd (inB (a := j) (b := 10) (by omega) (by decide)) c_4
    · skip
      have c_4 := bI_1 c_4
      refine J_iload_n E dX5_of_7 rfl 2 rfl ?_
      refine J_bipush E dX5_of_8 bp_9 ?_
      refine J_cSiN E (As := [.int (nI 9), .int 9]) (c_X5_isUpTo l G (nI 9) 9 ) cl_X5_56 yo_X5_isUpTo dX5_of_10 rfl (Nat.le_of_ble_eq_true rfl) (Nat.le_of_ble_eq_true rfl) rfl (Nat.le_of_ble_eq_true rfl) ⟨Nat.zero_le _, Nat.zero_le _⟩ ?_
      refine J_if_ne E (tgt := 22) dX5_of_13 (by decide) (fun c_13 => ?_) (fun c_13 => ?_)
      · skip
        have c_13 := bI_1 c_13
        refine J_iload_n E dX5_of_22 rfl 2 rfl ?_
        refine J_tabIn E (tgt := 83) (off := 60) dX5_of_23 (by decide) (by decide) rfl (by decide) ?_
        refine J_aload_n E dX5_of_83 rfl 0 rfl ?_
        refine gC0_X5_10 E dX5_of_84 ?_
        refine J_iload_n E dX5_of_87 rfl 1 rfl ?_
        refine J_si0r E (As := [.int (nI j)]) (c_X1_leadsTo l G (sh a 1) (x 0) j (by omega)) cl_X5_85 yo_X1_leadsTo dX5_of_88 rfl (Nat.le_of_ble_eq_true rfl) (Nat.le_of_ble_eq_true rfl) rfl (Nat.le_of_ble_eq_true rfl) ⟨Nat.zero_le _, Nat.zero_le _⟩ ?_
        exact ret _ _ _ _ ⟨by simp [ofF], _, rfl, by intro g h2 h6; simp [upG, up3, up3R, h2, h6]⟩ rfl dX5_of_91
      · skip
        have c_13 := bI_0 c_13
        exact absurd (inB (a := 9) (b := 9) (by omega) (by decide)) c_13

set_option maxHeartbeats 4000000 in
set_option maxRecDepth 20000 in
theorem c_X5_rain_bad (l : Launch) (G : GB) (a : Nat → Nat) (x : Q3) (v : Int32) (hb : ¬ (0 ≤ v ∧ v ≤ 999)) : CI l yX5_rain cX5_rain 3 .int 1 21 G [.ref (a 0), .int v] (wC G a x) (fun vR w' => vR = tellR 0 ∧ PubC G a (tellX x 0) w') := by
  refine CI.mk (own := RX5) (by decide) rfl (Nat.le_of_ble_eq_true rfl) ?_
  intro X E ret
  show J X G 3 0 0 (wC G a x) [(0, .ref (a 0)), (1, .int v)] 0 []
  refine J_iload_n E dX5_rain_0 rfl 1 rfl ?_
  refine J_sipush E dX5_rain_1 sp_999 ?_
  refine J_cSiN E (As := [.int v, .int 999]) (c_X5_isUpTo l G v 999 ) cl_X5_56 yo_X5_isUpTo dX5_rain_4 rfl (Nat.le_of_ble_eq_true rfl) (Nat.le_of_ble_eq_true rfl) rfl (Nat.le_of_ble_eq_true rfl) ⟨Nat.zero_le _, Nat.zero_le _⟩ ?_
  refine J_if_ne E (tgt := 16) dX5_rain_7 (by decide) (fun c_7 => ?_) (fun c_7 => ?_)
  · skip
    have c_7 := bI_1 c_7
    exact absurd c_7 hb
  · skip
    have c_7 := bI_0 c_7
    refine J_aload_n E dX5_rain_10 rfl 0 rfl ?_
    refine J_iconst E dX5_rain_11 ic_0 ?_
    refine J_cVi0 E (As := [.int 0]) (c_X5_tell l G a x 0 (by omega)) cl_X5_64 yo_X5_tell dX5_rain_12 rfl rfl rfl (Nat.le_of_ble_eq_true rfl) (Nat.le_of_ble_eq_true rfl) rfl (Nat.le_of_ble_eq_true rfl) ⟨Nat.zero_le _, Nat.zero_le _⟩ ?_
    exact ret _ _ _ _ ⟨rfl, _, rfl, by intro g h2 h6; simp [upG, up3, up3R, h2, h6]⟩ rfl dX5_rain_15

set_option maxHeartbeats 4000000 in
set_option maxRecDepth 20000 in
theorem c_X5_rain_ok (l : Launch) (G : GB) (a : Nat → Nat) (x : Q3) (v : Int32) (hv : 0 ≤ v ∧ v ≤ 999) : CI l yX5_rain cX5_rain 3 .int 1 21 G [.ref (a 0), .int v] (wC G a x) (fun vR w' => vR = x 0 7 2 ∧ PubC G a (up3 x 0 7 2 v) w') := by
  refine CI.mk (own := RX5) (by decide) rfl (Nat.le_of_ble_eq_true rfl) ?_
  intro X E ret
  show J X G 3 0 0 (wC G a x) [(0, .ref (a 0)), (1, .int v)] 0 []
  refine J_iload_n E dX5_rain_0 rfl 1 rfl ?_
  refine J_sipush E dX5_rain_1 sp_999 ?_
  refine J_cSiN E (As := [.int v, .int 999]) (c_X5_isUpTo l G v 999 ) cl_X5_56 yo_X5_isUpTo dX5_rain_4 rfl (Nat.le_of_ble_eq_true rfl) (Nat.le_of_ble_eq_true rfl) rfl (Nat.le_of_ble_eq_true rfl) ⟨Nat.zero_le _, Nat.zero_le _⟩ ?_
  refine J_if_ne E (tgt := 16) dX5_rain_7 (by decide) (fun c_7 => ?_) (fun c_7 => ?_)
  · skip
    have c_7 := bI_1 c_7
    refine J_aload_n E dX5_rain_16 rfl 0 rfl ?_
    refine gC0_X5_10 E dX5_rain_17 ?_
    refine gC1_X5_88 E dX5_rain_20 ?_
    refine J_istore_n E (lv' := [(2, .int (x 0 7 2)), (0, .ref (a 0)), (1, .int v)]) dX5_rain_23 rfl (by decide) rfl ?_
    refine J_aload_n E dX5_rain_24 rfl 1 rfl ?_
    refine gC0_X5_10 E dX5_rain_25 ?_
    refine J_iload_n E dX5_rain_28 rfl 2 rfl ?_
    refine pC1_X5_88 E dX5_rain_29 ?_
    refine J_iload_n E dX5_rain_32 rfl 0 rfl ?_
    exact ret _ _ _ _ ⟨rfl, _, rfl, by intro g h2 h6; simp [upG, up3, up3R, h2, h6]⟩ rfl dX5_rain_33
  · skip
    have c_7 := bI_0 c_7
    exact absurd (by assumption) c_7

set_option maxHeartbeats 4000000 in
set_option maxRecDepth 20000 in
theorem c_X5_spouts_bad (l : Launch) (G : GB) (a : Nat → Nat) (x : Q3) (v : Int32) (hb : ¬ (0 ≤ v ∧ v ≤ 2047)) : CI l yX5_spouts cX5_spouts 4 .int 1 21 G [.ref (a 0), .int v] (wC G a x) (fun vR w' => vR = tellR 0 ∧ PubC G a (tellX x 0) w') := by
  refine CI.mk (own := RX5) (by decide) rfl (Nat.le_of_ble_eq_true rfl) ?_
  intro X E ret
  show J X G 4 0 0 (wC G a x) [(0, .ref (a 0)), (1, .int v)] 0 []
  refine J_iload_n E dX5_spouts_0 rfl 1 rfl ?_
  refine J_sipush E dX5_spouts_1 sp_2047 ?_
  refine J_cSiN E (As := [.int v, .int 2047]) (c_X5_isUpTo l G v 2047 ) cl_X5_56 yo_X5_isUpTo dX5_spouts_4 rfl (Nat.le_of_ble_eq_true rfl) (Nat.le_of_ble_eq_true rfl) rfl (Nat.le_of_ble_eq_true rfl) ⟨Nat.zero_le _, Nat.zero_le _⟩ ?_
  refine J_if_ne E (tgt := 16) dX5_spouts_7 (by decide) (fun c_7 => ?_) (fun c_7 => ?_)
  · skip
    have c_7 := bI_1 c_7
    exact absurd c_7 hb
  · skip
    have c_7 := bI_0 c_7
    refine J_aload_n E dX5_spouts_10 rfl 0 rfl ?_
    refine J_iconst E dX5_spouts_11 ic_0 ?_
    refine J_cVi0 E (As := [.int 0]) (c_X5_tell l G a x 0 (by omega)) cl_X5_64 yo_X5_tell dX5_spouts_12 rfl rfl rfl (Nat.le_of_ble_eq_true rfl) (Nat.le_of_ble_eq_true rfl) rfl (Nat.le_of_ble_eq_true rfl) ⟨Nat.zero_le _, Nat.zero_le _⟩ ?_
    exact ret _ _ _ _ ⟨rfl, _, rfl, by intro g h2 h6; simp [upG, up3, up3R, h2, h6]⟩ rfl dX5_spouts_15

set_option maxHeartbeats 4000000 in
set_option maxRecDepth 20000 in
theorem c_X5_spouts_ok (l : Launch) (G : GB) (a : Nat → Nat) (x : Q3) (v : Int32) (hv : 0 ≤ v ∧ v ≤ 2047) : CI l yX5_spouts cX5_spouts 4 .int 1 22 G [.ref (a 0), .int v] (wC G a x) (fun vR w' => vR = spoF (x 0) 11 ∧ PubC G a (upG x 0 (sputS (x 0) v 11)) w') := by
  refine CI.mk (own := RX5) (by decide) rfl (Nat.le_of_ble_eq_true rfl) ?_
  intro X E ret
  show J X G 4 0 0 (wC G a x) [(0, .ref (a 0)), (1, .int v)] 0 []
  refine J_iload_n E dX5_spouts_0 rfl 1 rfl ?_
  refine J_sipush E dX5_spouts_1 sp_2047 ?_
  refine J_cSiN E (As := [.int v, .int 2047]) (c_X5_isUpTo l G v 2047 ) cl_X5_56 yo_X5_isUpTo dX5_spouts_4 rfl (Nat.le_of_ble_eq_true rfl) (Nat.le_of_ble_eq_true rfl) rfl (Nat.le_of_ble_eq_true rfl) ⟨Nat.zero_le _, Nat.zero_le _⟩ ?_
  refine J_if_ne E (tgt := 16) dX5_spouts_7 (by decide) (fun c_7 => ?_) (fun c_7 => ?_)
  · skip
    have c_7 := bI_1 c_7
    refine J_aload_n E dX5_spouts_16 rfl 0 rfl ?_
    refine gC0_X5_10 E dX5_spouts_17 ?_
    refine J_si0r E (As := []) (c_X1_turnedSpouts l G (sh a 1) (x 0) ) cl_X5_92 yo_X1_turnedSpouts dX5_spouts_20 rfl (Nat.le_of_ble_eq_true rfl) (Nat.le_of_ble_eq_true rfl) rfl (Nat.le_of_ble_eq_true rfl) ⟨Nat.zero_le _, Nat.zero_le _⟩ ?_
    refine J_istore_n E (lv' := [(2, .int (spoF (x 0) 11)), (0, .ref (a 0)), (1, .int v)]) dX5_spouts_23 rfl (by decide) rfl ?_
    refine J_iconst E dX5_spouts_24 ic_0 ?_
    refine J_istore_n E (lv' := [(3, .int 0), (2, .int (spoF (x 0) 11)), (0, .ref (a 0)), (1, .int v)]) dX5_spouts_25 rfl (by decide) rfl ?_
    refine J_w (ws' := wC G a (upG x 0 (x 0))) (congrArg (wC G a) upG_id.symm) ?_
    have lp26 : ∀ (fu : Nat) (i : Nat) (r : Q2), (i ≤ 11) → (r = sputS (x 0) v i) → 11 - i < fu → J X G 4 0 0 (wC G a (upG x 0 r)) [(0, .ref (a 0)), (1, .int v), (2, .int (spoF (x 0) 11)), (3, .int (nI i))] 26 [] := by
      intro fu
      induction fu with
      | zero => intro i r hi hr hm; exact absurd hm (Nat.not_lt_zero _)
      | succ fu ih26 =>
        intro i r hi hr hm
        refine J_iload_n E dX5_spouts_26 rfl 3 rfl ?_
        refine J_bipush E dX5_spouts_27 bp_11 ?_
        refine J_icmp_ge E (tgt := 52) dX5_spouts_29 (by decide) (fun c_29 => ?_) (fun c_29 => ?_)
        · skip
          have n_29 : 11 ≤ i := cmp_le (a := 11) (b := i) (by omega) (by omega) c_29
          refine J_iload_n E dX5_spouts_52 rfl 2 rfl ?_
          exact ret _ _ _ _ ⟨rfl, _, rfl, by rw [hr, show i = 11 by omega]; exact ShC.rfl'⟩ rfl dX5_spouts_53
        · skip
          have n_29 : ¬ 11 ≤ i := cmp_nle (a := 11) (b := i) (by omega) (by omega) c_29
          refine J_aload_n E dX5_spouts_32 rfl 0 rfl ?_
          refine gC0_X5_10 E dX5_spouts_33 ?_
          refine gC1_X5_96 E dX5_spouts_36 ?_
          refine J_iload_n E dX5_spouts_39 rfl 3 rfl ?_
          refine J_iload_n E dX5_spouts_40 rfl 1 rfl ?_
          refine J_iload_n E dX5_spouts_41 rfl 3 rfl ?_
          refine J_ishr E dX5_spouts_42 ?_
          refine J_iconst E dX5_spouts_43 ic_1 ?_
          refine J_iand E dX5_spouts_44 ?_
          refine sC_6 E (j := i) dX5_spouts_45 (by omega) ?_
          refine J_iinc E (lv' := [(3, .int (nI (i + 1))), (0, .ref (a 0)), (1, .int v), (2, .int (spoF (x 0) 11))]) dX5_spouts_46 3 rfl (nI_inc _) (by decide) rfl ?_
          refine J_goto E (tgt := 26) dX5_spouts_49 (by decide) ?_
          refine J_lv [1, 2, 3, 0] rfl ?_
          exact ih26 (i + 1) ((up3 (upG x 0 r) 0 4 i ((v >>> ((nI i) &&& 31)) &&& 1)) 0) (by omega) (by rw [hr]; rfl) (by omega)
    refine J_lv [2, 3, 1, 0] rfl ?_
    exact lp26 _ 0 (x 0) (by omega) rfl (Nat.lt_succ_self _)
  · skip
    have c_7 := bI_0 c_7
    exact absurd (by assumption) c_7

set_option maxHeartbeats 4000000 in
set_option maxRecDepth 20000 in
theorem c_X5_pour_bad (l : Launch) (G : GB) (a : Nat → Nat) (x : Q3) (h v : Int32) (hb : ¬ (okH h ∧ 0 ≤ v ∧ v ≤ 9999)) : CI l yX5_pour cX5_pour 3 .int 2 41 G [.ref (a 0), .int h, .int v] (wC G a x) (fun vR w' => vR = tellR 0 ∧ PubC G a (tellX x 0) w') := by
  refine CI.mk (own := RX5) (by decide) rfl (Nat.le_of_ble_eq_true rfl) ?_
  intro X E ret
  show J X G 3 0 0 (wC G a x) [(0, .ref (a 0)), (1, .int h), (2, .int v)] 0 []
  refine J_iload_n E dX5_pour_0 rfl 1 rfl ?_
  refine J_cSiN E (As := [.int h]) (c_X5_isHouse l G h ) cl_X5_52 yo_X5_isHouse dX5_pour_1 rfl (Nat.le_of_ble_eq_true rfl) (Nat.le_of_ble_eq_true rfl) rfl (Nat.le_of_ble_eq_true rfl) ⟨Nat.zero_le _, Nat.zero_le _⟩ ?_
  refine J_if_eq E (tgt := 17) dX5_pour_4 (by decide) (fun c_4 => ?_) (fun c_4 => ?_)
  · skip
    have c_4 := bI_0 c_4
    refine J_aload_n E dX5_pour_17 rfl 0 rfl ?_
    refine J_iconst E dX5_pour_18 ic_0 ?_
    refine J_cVi0 E (As := [.int 0]) (c_X5_tell l G a x 0 (by omega)) cl_X5_64 yo_X5_tell dX5_pour_19 rfl rfl rfl (Nat.le_of_ble_eq_true rfl) (Nat.le_of_ble_eq_true rfl) rfl (Nat.le_of_ble_eq_true rfl) ⟨Nat.zero_le _, Nat.zero_le _⟩ ?_
    exact ret _ _ _ _ ⟨rfl, _, rfl, by intro g h2 h6; simp [upG, up3, up3R, h2, h6]⟩ rfl dX5_pour_22
  · skip
    have c_4 := bI_1 c_4
    refine J_iload_n E dX5_pour_7 rfl 2 rfl ?_
    refine J_sipush E dX5_pour_8 sp_9999 ?_
    refine J_cSiN E (As := [.int v, .int 9999]) (c_X5_isUpTo l G v 9999 ) cl_X5_56 yo_X5_isUpTo dX5_pour_11 rfl (Nat.le_of_ble_eq_true rfl) (Nat.le_of_ble_eq_true rfl) rfl (Nat.le_of_ble_eq_true rfl) ⟨Nat.zero_le _, Nat.zero_le _⟩ ?_
    refine J_if_ne E (tgt := 23) dX5_pour_14 (by decide) (fun c_14 => ?_) (fun c_14 => ?_)
    · skip
      have c_14 := bI_1 c_14
      exact absurd ⟨c_4, c_14⟩ hb
    · skip
      have c_14 := bI_0 c_14
      refine J_aload_n E dX5_pour_17 rfl 0 rfl ?_
      refine J_iconst E dX5_pour_18 ic_0 ?_
      refine J_cVi0 E (As := [.int 0]) (c_X5_tell l G a x 0 (by omega)) cl_X5_64 yo_X5_tell dX5_pour_19 rfl rfl rfl (Nat.le_of_ble_eq_true rfl) (Nat.le_of_ble_eq_true rfl) rfl (Nat.le_of_ble_eq_true rfl) ⟨Nat.zero_le _, Nat.zero_le _⟩ ?_
      exact ret _ _ _ _ ⟨rfl, _, rfl, by intro g h2 h6; simp [upG, up3, up3R, h2, h6]⟩ rfl dX5_pour_22

set_option maxHeartbeats 4000000 in
set_option maxRecDepth 20000 in
theorem c_X5_pour_ok (l : Launch) (G : GB) (a : Nat → Nat) (x : Q3) (j : Nat) (v : Int32) (hj : j < 11) (hv : 0 ≤ v ∧ v ≤ 9999) : CI l yX5_pour cX5_pour 3 .int 3 65 G [.ref (a 0), .int (nI j), .int v] (wC G a x) (fun vR w' => vR = bringF (x 0) (nI j) v 1 j ∧ PubC G a (upG x 0 (bringF (x 0) (nI j) v)) w') := by
  refine CI.mk (own := RX5) (by decide) rfl (Nat.le_of_ble_eq_true rfl) ?_
  intro X E ret
  show J X G 3 0 0 (wC G a x) [(0, .ref (a 0)), (1, .int (nI j)), (2, .int v)] 0 []
  refine J_iload_n E dX5_pour_0 rfl 1 rfl ?_
  refine J_cSiN E (As := [.int (nI j)]) (c_X5_isHouse l G (nI j) ) cl_X5_52 yo_X5_isHouse dX5_pour_1 rfl (Nat.le_of_ble_eq_true rfl) (Nat.le_of_ble_eq_true rfl) rfl (Nat.le_of_ble_eq_true rfl) ⟨Nat.zero_le _, Nat.zero_le _⟩ ?_
  refine J_if_eq E (tgt := 17) dX5_pour_4 (by decide) (fun c_4 => ?_) (fun c_4 => ?_)
  · skip
    have c_4 := bI_0 c_4
    exact absurd (inB (a := j) (b := 10) (by omega) (by decide)) c_4
  · skip
    have c_4 := bI_1 c_4
    refine J_iload_n E dX5_pour_7 rfl 2 rfl ?_
    refine J_sipush E dX5_pour_8 sp_9999 ?_
    refine J_cSiN E (As := [.int v, .int 9999]) (c_X5_isUpTo l G v 9999 ) cl_X5_56 yo_X5_isUpTo dX5_pour_11 rfl (Nat.le_of_ble_eq_true rfl) (Nat.le_of_ble_eq_true rfl) rfl (Nat.le_of_ble_eq_true rfl) ⟨Nat.zero_le _, Nat.zero_le _⟩ ?_
    refine J_if_ne E (tgt := 23) dX5_pour_14 (by decide) (fun c_14 => ?_) (fun c_14 => ?_)
    · skip
      have c_14 := bI_1 c_14
      refine J_aload_n E dX5_pour_23 rfl 0 rfl ?_
      refine gC0_X5_10 E dX5_pour_24 ?_
      refine J_iload_n E dX5_pour_27 rfl 1 rfl ?_
      refine J_iload_n E dX5_pour_28 rfl 2 rfl ?_
      refine J_sv0 E (As := [.int (nI j), .int v]) (c_X1_bring l G (sh a 1) (x 0) (nI j) v (Or.inr (vp_in_nI hj (by decide)))) cl_X5_99 yo_X1_bring dX5_pour_29 rfl (Nat.le_of_ble_eq_true rfl) (Nat.le_of_ble_eq_true rfl) rfl (Nat.le_of_ble_eq_true rfl) ⟨Nat.zero_le _, Nat.zero_le _⟩ ?_
      refine J_aload_n E dX5_pour_32 rfl 0 rfl ?_
      refine gC0_X5_10 E dX5_pour_33 ?_
      refine gC1_X5_103 E dX5_pour_36 ?_
      refine J_iload_n E dX5_pour_39 rfl 1 rfl ?_
      refine lC_3 E (j := j) dX5_pour_40 (by omega) ?_
      refine J_top (x' := (bringF (x 0) (nI j) v) 1 j) upG_s ?_
      exact ret _ _ _ _ ⟨rfl, _, rfl, by intro g h2 h6; simp [upG, up3, up3R, h2, h6]⟩ rfl dX5_pour_41
    · skip
      have c_14 := bI_0 c_14
      exact absurd (by assumption) c_14

set_option maxHeartbeats 4000000 in
set_option maxRecDepth 20000 in
theorem c_X5_go_bad (l : Launch) (G : GB) (a : Nat → Nat) (x : Q3) (n : Int32) (hb : ¬ (1 ≤ n ∧ n ≤ 60)) : CI l yX5_go cX5_go 2 .int 1 21 G [.ref (a 0), .int n] (wC G a x) (fun vR w' => vR = tellR 0 ∧ PubC G a (tellX x 0) w') := by
  refine CI.mk (own := RX5) (by decide) rfl (Nat.le_of_ble_eq_true rfl) ?_
  intro X E ret
  show J X G 2 0 0 (wC G a x) [(0, .ref (a 0)), (1, .int n)] 0 []
  refine J_iload_n E dX5_go_0 rfl 1 rfl ?_
  refine J_iconst E dX5_go_1 ic_1 ?_
  refine J_icmp_lt E (tgt := 11) dX5_go_2 (by decide) (fun c_2 => ?_) (fun c_2 => ?_)
  · skip
    refine J_aload_n E dX5_go_11 rfl 0 rfl ?_
    refine J_iconst E dX5_go_12 ic_0 ?_
    refine J_cVi0 E (As := [.int 0]) (c_X5_tell l G a x 0 (by omega)) cl_X5_64 yo_X5_tell dX5_go_13 rfl rfl rfl (Nat.le_of_ble_eq_true rfl) (Nat.le_of_ble_eq_true rfl) rfl (Nat.le_of_ble_eq_true rfl) ⟨Nat.zero_le _, Nat.zero_le _⟩ ?_
    exact ret _ _ _ _ ⟨rfl, _, rfl, by intro g h2 h6; simp [upG, up3, up3R, h2, h6]⟩ rfl dX5_go_16
  · skip
    refine J_iload_n E dX5_go_5 rfl 1 rfl ?_
    refine J_bipush E dX5_go_6 bp_60 ?_
    refine J_icmp_le E (tgt := 17) dX5_go_8 (by decide) (fun c_8 => ?_) (fun c_8 => ?_)
    · skip
      exact absurd ⟨Int32.not_lt.mp c_2, c_8⟩ hb
    · skip
      refine J_aload_n E dX5_go_11 rfl 0 rfl ?_
      refine J_iconst E dX5_go_12 ic_0 ?_
      refine J_cVi0 E (As := [.int 0]) (c_X5_tell l G a x 0 (by omega)) cl_X5_64 yo_X5_tell dX5_go_13 rfl rfl rfl (Nat.le_of_ble_eq_true rfl) (Nat.le_of_ble_eq_true rfl) rfl (Nat.le_of_ble_eq_true rfl) ⟨Nat.zero_le _, Nat.zero_le _⟩ ?_
      exact ret _ _ _ _ ⟨rfl, _, rfl, by intro g h2 h6; simp [upG, up3, up3R, h2, h6]⟩ rfl dX5_go_16

set_option maxHeartbeats 4000000 in
set_option maxRecDepth 20000 in
theorem c_X5_go_state (l : Launch) (G : GB) (a : Nat → Nat) (x : Q3) (n : Nat) (h1 : 1 ≤ n) (h2 : n ≤ 60) (hh : ¬ x 0 7 0 + nI n ≤ 99999) : CI l yX5_go cX5_go 2 .int 1 21 G [.ref (a 0), .int (nI n)] (wC G a x) (fun vR w' => vR = tellR 4 ∧ PubC G a (tellX x 4) w') := by
  refine CI.mk (own := RX5) (by decide) rfl (Nat.le_of_ble_eq_true rfl) ?_
  intro X E ret
  show J X G 2 0 0 (wC G a x) [(0, .ref (a 0)), (1, .int (nI n))] 0 []
  refine J_iload_n E dX5_go_0 rfl 1 rfl ?_
  refine J_iconst E dX5_go_1 ic_1 ?_
  refine J_icmp_lt E (tgt := 11) dX5_go_2 (by decide) (fun c_2 => ?_) (fun c_2 => ?_)
  · skip
    have n_2 : n < 1 := cmp_lt (a := n) (b := 1) (by omega) (by omega) c_2
    exact absurd n_2 (by omega)
  · skip
    have n_2 : ¬ n < 1 := cmp_nlt (a := n) (b := 1) (by omega) (by omega) c_2
    refine J_iload_n E dX5_go_5 rfl 1 rfl ?_
    refine J_bipush E dX5_go_6 bp_60 ?_
    refine J_icmp_le E (tgt := 17) dX5_go_8 (by decide) (fun c_8 => ?_) (fun c_8 => ?_)
    · skip
      have n_8 : n ≤ 60 := cmp_le (a := n) (b := 60) (by omega) (by omega) c_8
      refine J_aload_n E dX5_go_17 rfl 0 rfl ?_
      refine gC0_X5_10 E dX5_go_18 ?_
      refine gC1_X5_106 E dX5_go_21 ?_
      refine J_iload_n E dX5_go_24 rfl 1 rfl ?_
      refine J_iadd E dX5_go_25 ?_
      refine J_ldc E kn_X5_109 dX5_go_26 ?_
      refine J_icmp_le E (tgt := 37) dX5_go_28 (by decide) (fun c_28 => ?_) (fun c_28 => ?_)
      · skip
        exact absurd c_28 hh
      · skip
        refine J_aload_n E dX5_go_31 rfl 0 rfl ?_
        refine J_iconst E dX5_go_32 ic_4 ?_
        refine J_cVi0 E (As := [.int 4]) (c_X5_tell l G a x 4 (by omega)) cl_X5_64 yo_X5_tell dX5_go_33 rfl rfl rfl (Nat.le_of_ble_eq_true rfl) (Nat.le_of_ble_eq_true rfl) rfl (Nat.le_of_ble_eq_true rfl) ⟨Nat.zero_le _, Nat.zero_le _⟩ ?_
        exact ret _ _ _ _ ⟨rfl, _, rfl, by intro g h2 h6; simp [upG, up3, up3R, h2, h6]⟩ rfl dX5_go_36
    · skip
      have n_8 : ¬ n ≤ 60 := cmp_nle (a := n) (b := 60) (by omega) (by omega) c_8
      exact absurd h2 n_8

set_option maxHeartbeats 4000000 in
set_option maxRecDepth 20000 in
theorem c_X5_go_ok (l : Launch) (G : GB) (a : Nat → Nat) (x : Q3) (n : Nat) (h1 : 1 ≤ n) (h2 : n ≤ 60) (hh : x 0 7 0 + nI n ≤ 99999) (hsp : spOk (x 0)) : CI l yX5_go cX5_go 2 .int 5 116 G [.ref (a 0), .int (nI n)] (wC G a x) (fun vR w' => vR = hoursM (x 0) 10 n 7 3 ∧ PubC G a (upG x 0 (hoursM (x 0) 10 n)) w') := by
  refine CI.mk (own := RX5) (by decide) rfl (Nat.le_of_ble_eq_true rfl) ?_
  intro X E ret
  show J X G 2 0 0 (wC G a x) [(0, .ref (a 0)), (1, .int (nI n))] 0 []
  refine J_iload_n E dX5_go_0 rfl 1 rfl ?_
  refine J_iconst E dX5_go_1 ic_1 ?_
  refine J_icmp_lt E (tgt := 11) dX5_go_2 (by decide) (fun c_2 => ?_) (fun c_2 => ?_)
  · skip
    have n_2 : n < 1 := cmp_lt (a := n) (b := 1) (by omega) (by omega) c_2
    exact absurd n_2 (by omega)
  · skip
    have n_2 : ¬ n < 1 := cmp_nlt (a := n) (b := 1) (by omega) (by omega) c_2
    refine J_iload_n E dX5_go_5 rfl 1 rfl ?_
    refine J_bipush E dX5_go_6 bp_60 ?_
    refine J_icmp_le E (tgt := 17) dX5_go_8 (by decide) (fun c_8 => ?_) (fun c_8 => ?_)
    · skip
      have n_8 : n ≤ 60 := cmp_le (a := n) (b := 60) (by omega) (by omega) c_8
      refine J_aload_n E dX5_go_17 rfl 0 rfl ?_
      refine gC0_X5_10 E dX5_go_18 ?_
      refine gC1_X5_106 E dX5_go_21 ?_
      refine J_iload_n E dX5_go_24 rfl 1 rfl ?_
      refine J_iadd E dX5_go_25 ?_
      refine J_ldc E kn_X5_109 dX5_go_26 ?_
      refine J_icmp_le E (tgt := 37) dX5_go_28 (by decide) (fun c_28 => ?_) (fun c_28 => ?_)
      · skip
        refine J_aload_n E dX5_go_37 rfl 0 rfl ?_
        refine gC0_X5_10 E dX5_go_38 ?_
        refine J_iload_n E dX5_go_41 rfl 1 rfl ?_
        refine J_bipush E dX5_go_42 bp_10 ?_
        refine J_si0 E (As := [.int (nI n), .int 10]) (c_X1_passHours l G (sh a 1) (x 0) n 10 (by omega) (by omega) hsp) cl_X5_110 yo_X1_passHours dX5_go_44 rfl (Nat.le_of_ble_eq_true rfl) (Nat.le_of_ble_eq_true rfl) rfl (Nat.le_of_ble_eq_true rfl) ⟨Nat.zero_le _, Nat.zero_le _⟩ ?_
        refine J_pop E dX5_go_47 rfl ?_
        refine J_aload_n E dX5_go_48 rfl 0 rfl ?_
        refine gC0_X5_10 E dX5_go_49 ?_
        refine gC1_X5_114 E dX5_go_52 ?_
        refine J_top (x' := (hoursM (x 0) 10 n) 7 3) upG_s ?_
        exact ret _ _ _ _ ⟨rfl, _, rfl, by intro g h2 h6; simp [upG, up3, up3R, h2, h6]⟩ rfl dX5_go_55
      · skip
        exact absurd hh c_28
    · skip
      have n_8 : ¬ n ≤ 60 := cmp_nle (a := n) (b := 60) (by omega) (by omega) c_8
      exact absurd h2 n_8

set_option maxHeartbeats 4000000 in
set_option maxRecDepth 20000 in
theorem c_X5_now_bad (l : Launch) (G : GB) (a : Nat → Nat) (x : Q3) (k : Int32) (hb : ¬ (0 ≤ k ∧ k ≤ 6)) : CI l yX5_now cX5_now 2 .int 1 21 G [.ref (a 0), .int k] (wC G a x) (fun vR w' => vR = tellR 0 ∧ PubC G a (tellX x 0) w') := by
  refine CI.mk (own := RX5) (by decide) rfl (Nat.le_of_ble_eq_true rfl) ?_
  intro X E ret
  show J X G 2 0 0 (wC G a x) [(0, .ref (a 0)), (1, .int k)] 0 []
  refine J_iload_n E dX5_now_0 rfl 1 rfl ?_
  by_cases c_1 : (k).toInt < 0 ∨ 6 < (k).toInt
  · refine J_tabOut E (tgt := 100) dX5_now_1 c_1 (by decide) ?_
    have n_1_0 : ¬ k = 0 := ne_out c_1 (by decide)
    have n_1_1 : ¬ k = 1 := ne_out c_1 (by decide)
    have n_1_2 : ¬ k = 2 := ne_out c_1 (by decide)
    have n_1_3 : ¬ k = 3 := ne_out c_1 (by decide)
    have n_1_4 : ¬ k = 4 := ne_out c_1 (by decide)
    have n_1_5 : ¬ k = 5 := ne_out c_1 (by decide)
    have n_1_6 : ¬ k = 6 := ne_out c_1 (by decide)
    refine J_aload_n E dX5_now_100 rfl 0 rfl ?_
    refine J_iconst E dX5_now_101 ic_0 ?_
    refine J_cVi0 E (As := [.int 0]) (c_X5_tell l G a x 0 (by omega)) cl_X5_64 yo_X5_tell dX5_now_102 rfl rfl rfl (Nat.le_of_ble_eq_true rfl) (Nat.le_of_ble_eq_true rfl) rfl (Nat.le_of_ble_eq_true rfl) ⟨Nat.zero_le _, Nat.zero_le _⟩ ?_
    exact ret _ _ _ _ ⟨rfl, _, rfl, by intro g h2 h6; simp [upG, up3, up3R, h2, h6]⟩ rfl dX5_now_105
  · rcases sw_0_6 c_1 with i_1 | i_1 | i_1 | i_1 | i_1 | i_1 | i_1
    · refine J_top i_1 ?_
      refine J_tabIn E (tgt := 44) (off := 43) dX5_now_1 (by decide) (by decide) rfl (by decide) ?_
      exact absurd (by rw [i_1]; decide) hb
    · refine J_top i_1 ?_
      refine J_tabIn E (tgt := 52) (off := 51) dX5_now_1 (by decide) (by decide) rfl (by decide) ?_
      exact absurd (by rw [i_1]; decide) hb
    · refine J_top i_1 ?_
      refine J_tabIn E (tgt := 60) (off := 59) dX5_now_1 (by decide) (by decide) rfl (by decide) ?_
      exact absurd (by rw [i_1]; decide) hb
    · refine J_top i_1 ?_
      refine J_tabIn E (tgt := 68) (off := 67) dX5_now_1 (by decide) (by decide) rfl (by decide) ?_
      exact absurd (by rw [i_1]; decide) hb
    · refine J_top i_1 ?_
      refine J_tabIn E (tgt := 76) (off := 75) dX5_now_1 (by decide) (by decide) rfl (by decide) ?_
      exact absurd (by rw [i_1]; decide) hb
    · refine J_top i_1 ?_
      refine J_tabIn E (tgt := 84) (off := 83) dX5_now_1 (by decide) (by decide) rfl (by decide) ?_
      exact absurd (by rw [i_1]; decide) hb
    · refine J_top i_1 ?_
      refine J_tabIn E (tgt := 92) (off := 91) dX5_now_1 (by decide) (by decide) rfl (by decide) ?_
      exact absurd (by rw [i_1]; decide) hb

set_option maxHeartbeats 4000000 in
set_option maxRecDepth 20000 in
theorem c_X5_now_ok (l : Launch) (G : GB) (a : Nat → Nat) (x : Q3) (k : Nat) (hk : k < 7) : CI l yX5_now cX5_now 2 .int 1 22 G [.ref (a 0), .int (nI k)] (wC G a x) (fun vR w' => vR = nowF (x 0) k ∧ PubC G a x w') := by
  refine CI.mk (own := RX5) (by decide) rfl (Nat.le_of_ble_eq_true rfl) ?_
  intro X E ret
  show J X G 2 0 0 (wC G a x) [(0, .ref (a 0)), (1, .int (nI k))] 0 []
  rcases (show k = 0 ∨ k = 1 ∨ k = 2 ∨ k = 3 ∨ k = 4 ∨ k = 5 ∨ k = 6 by omega) with rfl | rfl | rfl | rfl | rfl | rfl | rfl
  · skip
    refine J_iload_n E dX5_now_0 rfl 1 rfl ?_
    refine J_tabIn E (tgt := 44) (off := 43) dX5_now_1 (by decide) (by decide) rfl (by decide) ?_
    refine J_aload_n E dX5_now_44 rfl 0 rfl ?_
    refine gC0_X5_10 E dX5_now_45 ?_
    refine gC1_X5_106 E dX5_now_48 ?_
    exact ret _ _ _ _ ⟨by simp [nowF], _, rfl, by intro g h2 h6; simp [upG, up3, up3R, h2, h6]⟩ rfl dX5_now_51
  · skip
    refine J_iload_n E dX5_now_0 rfl 1 rfl ?_
    refine J_tabIn E (tgt := 52) (off := 51) dX5_now_1 (by decide) (by decide) rfl (by decide) ?_
    refine J_aload_n E dX5_now_52 rfl 0 rfl ?_
    refine gC0_X5_10 E dX5_now_53 ?_
    refine J_si0r E (As := []) (c_X1_waterOfAll l G (sh a 1) (x 0) ) cl_X5_117 yo_X1_waterOfAll dX5_now_56 rfl (Nat.le_of_ble_eq_true rfl) (Nat.le_of_ble_eq_true rfl) rfl (Nat.le_of_ble_eq_true rfl) ⟨Nat.zero_le _, Nat.zero_le _⟩ ?_
    exact ret _ _ _ _ ⟨by simp [nowF], _, rfl, by intro g h2 h6; simp [upG, up3, up3R, h2, h6]⟩ rfl dX5_now_59
  · skip
    refine J_iload_n E dX5_now_0 rfl 1 rfl ?_
    refine J_tabIn E (tgt := 60) (off := 59) dX5_now_1 (by decide) (by decide) rfl (by decide) ?_
    refine J_aload_n E dX5_now_60 rfl 0 rfl ?_
    refine gC0_X5_10 E dX5_now_61 ?_
    refine gC1_X5_114 E dX5_now_64 ?_
    exact ret _ _ _ _ ⟨by simp [nowF], _, rfl, by intro g h2 h6; simp [upG, up3, up3R, h2, h6]⟩ rfl dX5_now_67
  · skip
    refine J_iload_n E dX5_now_0 rfl 1 rfl ?_
    refine J_tabIn E (tgt := 68) (off := 67) dX5_now_1 (by decide) (by decide) rfl (by decide) ?_
    refine J_aload_n E dX5_now_68 rfl 0 rfl ?_
    refine gC0_X5_10 E dX5_now_69 ?_
    refine gC1_X5_120 E dX5_now_72 ?_
    exact ret _ _ _ _ ⟨by simp [nowF], _, rfl, by intro g h2 h6; simp [upG, up3, up3R, h2, h6]⟩ rfl dX5_now_75
  · skip
    refine J_iload_n E dX5_now_0 rfl 1 rfl ?_
    refine J_tabIn E (tgt := 76) (off := 75) dX5_now_1 (by decide) (by decide) rfl (by decide) ?_
    refine J_aload_n E dX5_now_76 rfl 0 rfl ?_
    refine gC0_X5_10 E dX5_now_77 ?_
    refine J_si0r E (As := []) (c_X1_everDry l G (sh a 1) (x 0) ) cl_X5_123 yo_X1_everDry dX5_now_80 rfl (Nat.le_of_ble_eq_true rfl) (Nat.le_of_ble_eq_true rfl) rfl (Nat.le_of_ble_eq_true rfl) ⟨Nat.zero_le _, Nat.zero_le _⟩ ?_
    exact ret _ _ _ _ ⟨by simp [nowF], _, rfl, by intro g h2 h6; simp [upG, up3, up3R, h2, h6]⟩ rfl dX5_now_83
  · skip
    refine J_iload_n E dX5_now_0 rfl 1 rfl ?_
    refine J_tabIn E (tgt := 84) (off := 83) dX5_now_1 (by decide) (by decide) rfl (by decide) ?_
    refine J_aload_n E dX5_now_84 rfl 0 rfl ?_
    refine gC0_X5_10 E dX5_now_85 ?_
    refine J_si0r E (As := []) (c_X1_turnedSpouts l G (sh a 1) (x 0) ) cl_X5_92 yo_X1_turnedSpouts dX5_now_88 rfl (Nat.le_of_ble_eq_true rfl) (Nat.le_of_ble_eq_true rfl) rfl (Nat.le_of_ble_eq_true rfl) ⟨Nat.zero_le _, Nat.zero_le _⟩ ?_
    exact ret _ _ _ _ ⟨by simp [nowF], _, rfl, by intro g h2 h6; simp [upG, up3, up3R, h2, h6]⟩ rfl dX5_now_91
  · skip
    refine J_iload_n E dX5_now_0 rfl 1 rfl ?_
    refine J_tabIn E (tgt := 92) (off := 91) dX5_now_1 (by decide) (by decide) rfl (by decide) ?_
    refine J_aload_n E dX5_now_92 rfl 0 rfl ?_
    refine gC0_X5_10 E dX5_now_93 ?_
    refine gC1_X5_88 E dX5_now_96 ?_
    exact ret _ _ _ _ ⟨by simp [nowF], _, rfl, by intro g h2 h6; simp [upG, up3, up3R, h2, h6]⟩ rfl dX5_now_99

set_option maxHeartbeats 4000000 in
set_option maxRecDepth 20000 in
theorem c_X5_ahead_bad (l : Launch) (G : GB) (a : Nat → Nat) (x : Q3) (h w n : Int32) (hb : ¬ (okH h ∧ (w = 1 ∨ w = 5) ∧ 0 ≤ n ∧ n ≤ 100)) : CI l yX5_ahead cX5_ahead 4 .int 2 41 G [.ref (a 0), .int h, .int w, .int n] (wC G a x) (fun vR w' => vR = tellR 0 ∧ PubC G a (tellX x 0) w') := by
  refine CI.mk (own := RX5) (by decide) rfl (Nat.le_of_ble_eq_true rfl) ?_
  intro X E ret
  show J X G 4 0 0 (wC G a x) [(0, .ref (a 0)), (1, .int h), (2, .int w), (3, .int n)] 0 []
  refine J_iload_n E dX5_ahead_0 rfl 1 rfl ?_
  refine J_cSiN E (As := [.int h]) (c_X5_isHouse l G h ) cl_X5_52 yo_X5_isHouse dX5_ahead_1 rfl (Nat.le_of_ble_eq_true rfl) (Nat.le_of_ble_eq_true rfl) rfl (Nat.le_of_ble_eq_true rfl) ⟨Nat.zero_le _, Nat.zero_le _⟩ ?_
  refine J_if_eq E (tgt := 26) dX5_ahead_4 (by decide) (fun c_4 => ?_) (fun c_4 => ?_)
  · skip
    have c_4 := bI_0 c_4
    refine J_aload_n E dX5_ahead_26 rfl 0 rfl ?_
    refine J_iconst E dX5_ahead_27 ic_0 ?_
    refine J_cVi0 E (As := [.int 0]) (c_X5_tell l G a x 0 (by omega)) cl_X5_64 yo_X5_tell dX5_ahead_28 rfl rfl rfl (Nat.le_of_ble_eq_true rfl) (Nat.le_of_ble_eq_true rfl) rfl (Nat.le_of_ble_eq_true rfl) ⟨Nat.zero_le _, Nat.zero_le _⟩ ?_
    exact ret _ _ _ _ ⟨rfl, _, rfl, by intro g h2 h6; simp [upG, up3, up3R, h2, h6]⟩ rfl dX5_ahead_31
  · skip
    have c_4 := bI_1 c_4
    refine J_iload_n E dX5_ahead_7 rfl 2 rfl ?_
    refine J_iconst E dX5_ahead_8 ic_1 ?_
    refine J_icmp_eq E (tgt := 17) dX5_ahead_9 (by decide) (fun c_9 => ?_) (fun c_9 => ?_)
    · skip
      have hw : w = 1 ∨ w = 5 := Or.inl c_9
      refine J_iload_n E dX5_ahead_17 rfl 3 rfl ?_
      refine J_bipush E dX5_ahead_18 bp_100 ?_
      refine J_cSiN E (As := [.int n, .int 100]) (c_X5_isUpTo l G n 100 ) cl_X5_56 yo_X5_isUpTo dX5_ahead_20 rfl (Nat.le_of_ble_eq_true rfl) (Nat.le_of_ble_eq_true rfl) rfl (Nat.le_of_ble_eq_true rfl) ⟨Nat.zero_le _, Nat.zero_le _⟩ ?_
      refine J_if_ne E (tgt := 32) dX5_ahead_23 (by decide) (fun c_23 => ?_) (fun c_23 => ?_)
      · skip
        have c_23 := bI_1 c_23
        exact absurd ⟨c_4, hw, c_23⟩ hb
      · skip
        have c_23 := bI_0 c_23
        refine J_aload_n E dX5_ahead_26 rfl 0 rfl ?_
        refine J_iconst E dX5_ahead_27 ic_0 ?_
        refine J_cVi0 E (As := [.int 0]) (c_X5_tell l G a x 0 (by omega)) cl_X5_64 yo_X5_tell dX5_ahead_28 rfl rfl rfl (Nat.le_of_ble_eq_true rfl) (Nat.le_of_ble_eq_true rfl) rfl (Nat.le_of_ble_eq_true rfl) ⟨Nat.zero_le _, Nat.zero_le _⟩ ?_
        exact ret _ _ _ _ ⟨rfl, _, rfl, by intro g h2 h6; simp [upG, up3, up3R, h2, h6]⟩ rfl dX5_ahead_31
    · skip
      refine J_iload_n E dX5_ahead_12 rfl 2 rfl ?_
      refine J_iconst E dX5_ahead_13 ic_5 ?_
      refine J_icmp_ne E (tgt := 26) dX5_ahead_14 (by decide) (fun c_14 => ?_) (fun c_14 => ?_)
      · skip
        refine J_aload_n E dX5_ahead_26 rfl 0 rfl ?_
        refine J_iconst E dX5_ahead_27 ic_0 ?_
        refine J_cVi0 E (As := [.int 0]) (c_X5_tell l G a x 0 (by omega)) cl_X5_64 yo_X5_tell dX5_ahead_28 rfl rfl rfl (Nat.le_of_ble_eq_true rfl) (Nat.le_of_ble_eq_true rfl) rfl (Nat.le_of_ble_eq_true rfl) ⟨Nat.zero_le _, Nat.zero_le _⟩ ?_
        exact ret _ _ _ _ ⟨rfl, _, rfl, by intro g h2 h6; simp [upG, up3, up3R, h2, h6]⟩ rfl dX5_ahead_31
      · skip
        have hw : w = 1 ∨ w = 5 := Or.inr c_14
        refine J_iload_n E dX5_ahead_17 rfl 3 rfl ?_
        refine J_bipush E dX5_ahead_18 bp_100 ?_
        refine J_cSiN E (As := [.int n, .int 100]) (c_X5_isUpTo l G n 100 ) cl_X5_56 yo_X5_isUpTo dX5_ahead_20 rfl (Nat.le_of_ble_eq_true rfl) (Nat.le_of_ble_eq_true rfl) rfl (Nat.le_of_ble_eq_true rfl) ⟨Nat.zero_le _, Nat.zero_le _⟩ ?_
        refine J_if_ne E (tgt := 32) dX5_ahead_23 (by decide) (fun c_23 => ?_) (fun c_23 => ?_)
        · skip
          have c_23 := bI_1 c_23
          exact absurd ⟨c_4, hw, c_23⟩ hb
        · skip
          have c_23 := bI_0 c_23
          refine J_aload_n E dX5_ahead_26 rfl 0 rfl ?_
          refine J_iconst E dX5_ahead_27 ic_0 ?_
          refine J_cVi0 E (As := [.int 0]) (c_X5_tell l G a x 0 (by omega)) cl_X5_64 yo_X5_tell dX5_ahead_28 rfl rfl rfl (Nat.le_of_ble_eq_true rfl) (Nat.le_of_ble_eq_true rfl) rfl (Nat.le_of_ble_eq_true rfl) ⟨Nat.zero_le _, Nat.zero_le _⟩ ?_
          exact ret _ _ _ _ ⟨rfl, _, rfl, by intro g h2 h6; simp [upG, up3, up3R, h2, h6]⟩ rfl dX5_ahead_31

set_option maxHeartbeats 4000000 in
set_option maxRecDepth 20000 in
theorem c_X5_ahead_ok (l : Launch) (G : GB) (a : Nat → Nat) (x : Q3) (j k n : Nat) (hj : j < 11) (hk : k = 1 ∨ k = 5) (hn : n ≤ 100) (hsp : spOk (x 0)) : CI l yX5_ahead cX5_ahead 4 .int 5 116 G [.ref (a 0), .int (nI j), .int (nI k), .int (nI n)] (wC G a x) (fun vR w' => vR = hoursM (x 0) j n k j ∧ PubC G a x w') := by
  refine CI.mk (own := RX5) (by decide) rfl (Nat.le_of_ble_eq_true rfl) ?_
  intro X E ret
  show J X G 4 0 0 (wC G a x) [(0, .ref (a 0)), (1, .int (nI j)), (2, .int (nI k)), (3, .int (nI n))] 0 []
  rcases hk with rfl | rfl
  · skip
    refine J_iload_n E dX5_ahead_0 rfl 1 rfl ?_
    refine J_cSiN E (As := [.int (nI j)]) (c_X5_isHouse l G (nI j) ) cl_X5_52 yo_X5_isHouse dX5_ahead_1 rfl (Nat.le_of_ble_eq_true rfl) (Nat.le_of_ble_eq_true rfl) rfl (Nat.le_of_ble_eq_true rfl) ⟨Nat.zero_le _, Nat.zero_le _⟩ ?_
    refine J_if_eq E (tgt := 26) dX5_ahead_4 (by decide) (fun c_4 => ?_) (fun c_4 => ?_)
    · skip
      have c_4 := bI_0 c_4
      exact absurd (inB (a := j) (b := 10) (by omega) (by decide)) c_4
    · skip
      have c_4 := bI_1 c_4
      refine J_iload_n E dX5_ahead_7 rfl 2 rfl ?_
      refine J_iconst E dX5_ahead_8 ic_1 ?_
      refine J_icmp_eq E (tgt := 17) dX5_ahead_9 (by decide) (fun c_9 => ?_) (fun c_9 => ?_)
      · skip
        have n_9 : 1 = 1 := cmp_eq (a := 1) (b := 1) (by omega) (by omega) c_9
        refine J_iload_n E dX5_ahead_17 rfl 3 rfl ?_
        refine J_bipush E dX5_ahead_18 bp_100 ?_
        refine J_cSiN E (As := [.int (nI n), .int 100]) (c_X5_isUpTo l G (nI n) 100 ) cl_X5_56 yo_X5_isUpTo dX5_ahead_20 rfl (Nat.le_of_ble_eq_true rfl) (Nat.le_of_ble_eq_true rfl) rfl (Nat.le_of_ble_eq_true rfl) ⟨Nat.zero_le _, Nat.zero_le _⟩ ?_
        refine J_if_ne E (tgt := 32) dX5_ahead_23 (by decide) (fun c_23 => ?_) (fun c_23 => ?_)
        · skip
          have c_23 := bI_1 c_23
          refine J_aload_n E dX5_ahead_32 rfl 0 rfl ?_
          refine gC0_X5_19 E dX5_ahead_33 ?_
          refine J_aload_n E dX5_ahead_36 rfl 0 rfl ?_
          refine gC0_X5_10 E dX5_ahead_37 ?_
          refine J_b20 E dX5_ahead_40 (Nat.le_of_ble_eq_true rfl) (Nat.le_of_ble_eq_true rfl) (Nat.le_of_ble_eq_true rfl) ⟨Nat.zero_le _, Nat.zero_le _⟩ ?_
          refine J_aload_n E dX5_ahead_43 rfl 0 rfl ?_
          refine gC0_X5_19 E dX5_ahead_44 ?_
          refine J_iload_n E dX5_ahead_47 rfl 3 rfl ?_
          refine J_iload_n E dX5_ahead_48 rfl 1 rfl ?_
          refine J_si2 E (As := [.int (nI n), .int (nI j)]) (c_X1_passHours l G (sh a 17) (x 0) n j (by omega) (by omega) hsp) cl_X5_110 yo_X1_passHours dX5_ahead_49 rfl (Nat.le_of_ble_eq_true rfl) (Nat.le_of_ble_eq_true rfl) rfl (Nat.le_of_ble_eq_true rfl) ⟨Nat.zero_le _, Nat.zero_le _⟩ ?_
          refine J_pop E dX5_ahead_52 rfl ?_
          refine J_aload_n E dX5_ahead_53 rfl 0 rfl ?_
          refine gC0_X5_19 E dX5_ahead_54 ?_
          refine J_iload_n E dX5_ahead_57 rfl 2 rfl ?_
          refine J_sr2r E (As := [.int (nI 1)]) (c_X1_row l G (sh a 17) (hoursM (x 0) j n) 1 (by omega)) cl_X5_67 yo_X1_row dX5_ahead_58 rfl (Nat.le_of_ble_eq_true rfl) (Nat.le_of_ble_eq_true rfl) rfl (Nat.le_of_ble_eq_true rfl) ⟨Nat.zero_le _, Nat.zero_le _⟩ ?_
          refine J_st (st' := [.ref (a 19)]) rfl ?_
          refine J_iload_n E dX5_ahead_61 rfl 1 rfl ?_
          refine lC_19 E (j := j) dX5_ahead_62 (by omega) ?_
          refine J_top (x' := (hoursM (x 0) j n) 1 j) upG_s ?_
          exact ret _ _ _ _ ⟨rfl, _, rfl, by intro g h2 h6; simp [upG, up3, up3R, h2, h6]⟩ rfl dX5_ahead_63
        · skip
          have c_23 := bI_0 c_23
          exact absurd (inB (a := n) (b := 100) (by omega) (by decide)) c_23
      · skip
        have n_9 : ¬ 1 = 1 := cmp_ne (a := 1) (b := 1) (by omega) (by omega) c_9
        exact absurd n_9 (by decide)
  · skip
    refine J_iload_n E dX5_ahead_0 rfl 1 rfl ?_
    refine J_cSiN E (As := [.int (nI j)]) (c_X5_isHouse l G (nI j) ) cl_X5_52 yo_X5_isHouse dX5_ahead_1 rfl (Nat.le_of_ble_eq_true rfl) (Nat.le_of_ble_eq_true rfl) rfl (Nat.le_of_ble_eq_true rfl) ⟨Nat.zero_le _, Nat.zero_le _⟩ ?_
    refine J_if_eq E (tgt := 26) dX5_ahead_4 (by decide) (fun c_4 => ?_) (fun c_4 => ?_)
    · skip
      have c_4 := bI_0 c_4
      exact absurd (inB (a := j) (b := 10) (by omega) (by decide)) c_4
    · skip
      have c_4 := bI_1 c_4
      refine J_iload_n E dX5_ahead_7 rfl 2 rfl ?_
      refine J_iconst E dX5_ahead_8 ic_1 ?_
      refine J_icmp_eq E (tgt := 17) dX5_ahead_9 (by decide) (fun c_9 => ?_) (fun c_9 => ?_)
      · skip
        have n_9 : 5 = 1 := cmp_eq (a := 5) (b := 1) (by omega) (by omega) c_9
        exact absurd n_9 (by decide)
      · skip
        have n_9 : ¬ 5 = 1 := cmp_ne (a := 5) (b := 1) (by omega) (by omega) c_9
        refine J_iload_n E dX5_ahead_12 rfl 2 rfl ?_
        refine J_iconst E dX5_ahead_13 ic_5 ?_
        refine J_icmp_ne E (tgt := 26) dX5_ahead_14 (by decide) (fun c_14 => ?_) (fun c_14 => ?_)
        · skip
          have n_14 : ¬ 5 = 5 := cmp_ne (a := 5) (b := 5) (by omega) (by omega) c_14
          exact absurd n_14 (by decide)
        · skip
          have n_14 : 5 = 5 := cmp_eq (a := 5) (b := 5) (by omega) (by omega) c_14
          refine J_iload_n E dX5_ahead_17 rfl 3 rfl ?_
          refine J_bipush E dX5_ahead_18 bp_100 ?_
          refine J_cSiN E (As := [.int (nI n), .int 100]) (c_X5_isUpTo l G (nI n) 100 ) cl_X5_56 yo_X5_isUpTo dX5_ahead_20 rfl (Nat.le_of_ble_eq_true rfl) (Nat.le_of_ble_eq_true rfl) rfl (Nat.le_of_ble_eq_true rfl) ⟨Nat.zero_le _, Nat.zero_le _⟩ ?_
          refine J_if_ne E (tgt := 32) dX5_ahead_23 (by decide) (fun c_23 => ?_) (fun c_23 => ?_)
          · skip
            have c_23 := bI_1 c_23
            refine J_aload_n E dX5_ahead_32 rfl 0 rfl ?_
            refine gC0_X5_19 E dX5_ahead_33 ?_
            refine J_aload_n E dX5_ahead_36 rfl 0 rfl ?_
            refine gC0_X5_10 E dX5_ahead_37 ?_
            refine J_b20 E dX5_ahead_40 (Nat.le_of_ble_eq_true rfl) (Nat.le_of_ble_eq_true rfl) (Nat.le_of_ble_eq_true rfl) ⟨Nat.zero_le _, Nat.zero_le _⟩ ?_
            refine J_aload_n E dX5_ahead_43 rfl 0 rfl ?_
            refine gC0_X5_19 E dX5_ahead_44 ?_
            refine J_iload_n E dX5_ahead_47 rfl 3 rfl ?_
            refine J_iload_n E dX5_ahead_48 rfl 1 rfl ?_
            refine J_si2 E (As := [.int (nI n), .int (nI j)]) (c_X1_passHours l G (sh a 17) (x 0) n j (by omega) (by omega) hsp) cl_X5_110 yo_X1_passHours dX5_ahead_49 rfl (Nat.le_of_ble_eq_true rfl) (Nat.le_of_ble_eq_true rfl) rfl (Nat.le_of_ble_eq_true rfl) ⟨Nat.zero_le _, Nat.zero_le _⟩ ?_
            refine J_pop E dX5_ahead_52 rfl ?_
            refine J_aload_n E dX5_ahead_53 rfl 0 rfl ?_
            refine gC0_X5_19 E dX5_ahead_54 ?_
            refine J_iload_n E dX5_ahead_57 rfl 2 rfl ?_
            refine J_sr2r E (As := [.int (nI 5)]) (c_X1_row l G (sh a 17) (hoursM (x 0) j n) 5 (by omega)) cl_X5_67 yo_X1_row dX5_ahead_58 rfl (Nat.le_of_ble_eq_true rfl) (Nat.le_of_ble_eq_true rfl) rfl (Nat.le_of_ble_eq_true rfl) ⟨Nat.zero_le _, Nat.zero_le _⟩ ?_
            refine J_st (st' := [.ref (a 23)]) rfl ?_
            refine J_iload_n E dX5_ahead_61 rfl 1 rfl ?_
            refine lC_23 E (j := j) dX5_ahead_62 (by omega) ?_
            refine J_top (x' := (hoursM (x 0) j n) 5 j) upG_s ?_
            exact ret _ _ _ _ ⟨rfl, _, rfl, by intro g h2 h6; simp [upG, up3, up3R, h2, h6]⟩ rfl dX5_ahead_63
          · skip
            have c_23 := bI_0 c_23
            exact absurd (inB (a := n) (b := 100) (by omega) (by decide)) c_23

set_option maxHeartbeats 4000000 in
set_option maxRecDepth 20000 in
theorem c_X5_alley_bad (l : Launch) (G : GB) (a : Nat → Nat) (x : Q3) (n : Int32) (hb : ¬ (0 ≤ n ∧ n ≤ 100)) : CI l yX5_alley cX5_alley 2 .int 1 21 G [.ref (a 0), .int n] (wC G a x) (fun vR w' => vR = tellR 0 ∧ PubC G a (tellX x 0) w') := by
  refine CI.mk (own := RX5) (by decide) rfl (Nat.le_of_ble_eq_true rfl) ?_
  intro X E ret
  show J X G 2 0 0 (wC G a x) [(0, .ref (a 0)), (1, .int n)] 0 []
  refine J_iload_n E dX5_alley_0 rfl 1 rfl ?_
  refine J_bipush E dX5_alley_1 bp_100 ?_
  refine J_cSiN E (As := [.int n, .int 100]) (c_X5_isUpTo l G n 100 ) cl_X5_56 yo_X5_isUpTo dX5_alley_3 rfl (Nat.le_of_ble_eq_true rfl) (Nat.le_of_ble_eq_true rfl) rfl (Nat.le_of_ble_eq_true rfl) ⟨Nat.zero_le _, Nat.zero_le _⟩ ?_
  refine J_if_ne E (tgt := 15) dX5_alley_6 (by decide) (fun c_6 => ?_) (fun c_6 => ?_)
  · skip
    have c_6 := bI_1 c_6
    exact absurd c_6 hb
  · skip
    have c_6 := bI_0 c_6
    refine J_aload_n E dX5_alley_9 rfl 0 rfl ?_
    refine J_iconst E dX5_alley_10 ic_0 ?_
    refine J_cVi0 E (As := [.int 0]) (c_X5_tell l G a x 0 (by omega)) cl_X5_64 yo_X5_tell dX5_alley_11 rfl rfl rfl (Nat.le_of_ble_eq_true rfl) (Nat.le_of_ble_eq_true rfl) rfl (Nat.le_of_ble_eq_true rfl) ⟨Nat.zero_le _, Nat.zero_le _⟩ ?_
    exact ret _ _ _ _ ⟨rfl, _, rfl, by intro g h2 h6; simp [upG, up3, up3R, h2, h6]⟩ rfl dX5_alley_14

set_option maxHeartbeats 4000000 in
set_option maxRecDepth 20000 in
theorem c_X5_alley_ok (l : Launch) (G : GB) (a : Nat → Nat) (x : Q3) (n : Nat) (hn : n ≤ 100) (hsp : spOk (x 0)) : CI l yX5_alley cX5_alley 2 .int 5 116 G [.ref (a 0), .int (nI n)] (wC G a x) (fun vR w' => vR = hoursM (x 0) 10 n 7 3 ∧ PubC G a x w') := by
  refine CI.mk (own := RX5) (by decide) rfl (Nat.le_of_ble_eq_true rfl) ?_
  intro X E ret
  show J X G 2 0 0 (wC G a x) [(0, .ref (a 0)), (1, .int (nI n))] 0 []
  refine J_iload_n E dX5_alley_0 rfl 1 rfl ?_
  refine J_bipush E dX5_alley_1 bp_100 ?_
  refine J_cSiN E (As := [.int (nI n), .int 100]) (c_X5_isUpTo l G (nI n) 100 ) cl_X5_56 yo_X5_isUpTo dX5_alley_3 rfl (Nat.le_of_ble_eq_true rfl) (Nat.le_of_ble_eq_true rfl) rfl (Nat.le_of_ble_eq_true rfl) ⟨Nat.zero_le _, Nat.zero_le _⟩ ?_
  refine J_if_ne E (tgt := 15) dX5_alley_6 (by decide) (fun c_6 => ?_) (fun c_6 => ?_)
  · skip
    have c_6 := bI_1 c_6
    refine J_aload_n E dX5_alley_15 rfl 0 rfl ?_
    refine gC0_X5_19 E dX5_alley_16 ?_
    refine J_aload_n E dX5_alley_19 rfl 0 rfl ?_
    refine gC0_X5_10 E dX5_alley_20 ?_
    refine J_b20 E dX5_alley_23 (Nat.le_of_ble_eq_true rfl) (Nat.le_of_ble_eq_true rfl) (Nat.le_of_ble_eq_true rfl) ⟨Nat.zero_le _, Nat.zero_le _⟩ ?_
    refine J_aload_n E dX5_alley_26 rfl 0 rfl ?_
    refine gC0_X5_19 E dX5_alley_27 ?_
    refine J_iload_n E dX5_alley_30 rfl 1 rfl ?_
    refine J_bipush E dX5_alley_31 bp_10 ?_
    refine J_si2 E (As := [.int (nI n), .int 10]) (c_X1_passHours l G (sh a 17) (x 0) n 10 (by omega) (by omega) hsp) cl_X5_110 yo_X1_passHours dX5_alley_33 rfl (Nat.le_of_ble_eq_true rfl) (Nat.le_of_ble_eq_true rfl) rfl (Nat.le_of_ble_eq_true rfl) ⟨Nat.zero_le _, Nat.zero_le _⟩ ?_
    refine J_pop E dX5_alley_36 rfl ?_
    refine J_aload_n E dX5_alley_37 rfl 0 rfl ?_
    refine gC0_X5_19 E dX5_alley_38 ?_
    refine gC17_X5_114 E dX5_alley_41 ?_
    refine J_top (x' := (hoursM (x 0) 10 n) 7 3) upG_s ?_
    exact ret _ _ _ _ ⟨rfl, _, rfl, by intro g h2 h6; simp [upG, up3, up3R, h2, h6]⟩ rfl dX5_alley_44
  · skip
    have c_6 := bI_0 c_6
    exact absurd (inB (a := n) (b := 100) (by omega) (by decide)) c_6

set_option maxHeartbeats 4000000 in
set_option maxRecDepth 20000 in
theorem c_X5_dry_bad (l : Launch) (G : GB) (a : Nat → Nat) (x : Q3) (n : Int32) (hb : ¬ (0 ≤ n ∧ n ≤ 100)) : CI l yX5_dry cX5_dry 2 .int 1 21 G [.ref (a 0), .int n] (wC G a x) (fun vR w' => vR = tellR 0 ∧ PubC G a (tellX x 0) w') := by
  refine CI.mk (own := RX5) (by decide) rfl (Nat.le_of_ble_eq_true rfl) ?_
  intro X E ret
  show J X G 2 0 0 (wC G a x) [(0, .ref (a 0)), (1, .int n)] 0 []
  refine J_iload_n E dX5_dry_0 rfl 1 rfl ?_
  refine J_bipush E dX5_dry_1 bp_100 ?_
  refine J_cSiN E (As := [.int n, .int 100]) (c_X5_isUpTo l G n 100 ) cl_X5_56 yo_X5_isUpTo dX5_dry_3 rfl (Nat.le_of_ble_eq_true rfl) (Nat.le_of_ble_eq_true rfl) rfl (Nat.le_of_ble_eq_true rfl) ⟨Nat.zero_le _, Nat.zero_le _⟩ ?_
  refine J_if_ne E (tgt := 15) dX5_dry_6 (by decide) (fun c_6 => ?_) (fun c_6 => ?_)
  · skip
    have c_6 := bI_1 c_6
    exact absurd c_6 hb
  · skip
    have c_6 := bI_0 c_6
    refine J_aload_n E dX5_dry_9 rfl 0 rfl ?_
    refine J_iconst E dX5_dry_10 ic_0 ?_
    refine J_cVi0 E (As := [.int 0]) (c_X5_tell l G a x 0 (by omega)) cl_X5_64 yo_X5_tell dX5_dry_11 rfl rfl rfl (Nat.le_of_ble_eq_true rfl) (Nat.le_of_ble_eq_true rfl) rfl (Nat.le_of_ble_eq_true rfl) ⟨Nat.zero_le _, Nat.zero_le _⟩ ?_
    exact ret _ _ _ _ ⟨rfl, _, rfl, by intro g h2 h6; simp [upG, up3, up3R, h2, h6]⟩ rfl dX5_dry_14

set_option maxHeartbeats 4000000 in
set_option maxRecDepth 20000 in
theorem c_X5_dry_ok (l : Launch) (G : GB) (a : Nat → Nat) (x : Q3) (n : Nat) (hn : n ≤ 100) (hsp : spOk (x 0)) : CI l yX5_dry cX5_dry 2 .int 5 116 G [.ref (a 0), .int (nI n)] (wC G a x) (fun vR w' => vR = drysM (x 0) 10 n ∧ PubC G a x w') := by
  refine CI.mk (own := RX5) (by decide) rfl (Nat.le_of_ble_eq_true rfl) ?_
  intro X E ret
  show J X G 2 0 0 (wC G a x) [(0, .ref (a 0)), (1, .int (nI n))] 0 []
  refine J_iload_n E dX5_dry_0 rfl 1 rfl ?_
  refine J_bipush E dX5_dry_1 bp_100 ?_
  refine J_cSiN E (As := [.int (nI n), .int 100]) (c_X5_isUpTo l G (nI n) 100 ) cl_X5_56 yo_X5_isUpTo dX5_dry_3 rfl (Nat.le_of_ble_eq_true rfl) (Nat.le_of_ble_eq_true rfl) rfl (Nat.le_of_ble_eq_true rfl) ⟨Nat.zero_le _, Nat.zero_le _⟩ ?_
  refine J_if_ne E (tgt := 15) dX5_dry_6 (by decide) (fun c_6 => ?_) (fun c_6 => ?_)
  · skip
    have c_6 := bI_1 c_6
    refine J_aload_n E dX5_dry_15 rfl 0 rfl ?_
    refine gC0_X5_19 E dX5_dry_16 ?_
    refine J_aload_n E dX5_dry_19 rfl 0 rfl ?_
    refine gC0_X5_10 E dX5_dry_20 ?_
    refine J_b20 E dX5_dry_23 (Nat.le_of_ble_eq_true rfl) (Nat.le_of_ble_eq_true rfl) (Nat.le_of_ble_eq_true rfl) ⟨Nat.zero_le _, Nat.zero_le _⟩ ?_
    refine J_aload_n E dX5_dry_26 rfl 0 rfl ?_
    refine gC0_X5_19 E dX5_dry_27 ?_
    refine J_iload_n E dX5_dry_30 rfl 1 rfl ?_
    refine J_bipush E dX5_dry_31 bp_10 ?_
    refine J_si2 E (As := [.int (nI n), .int 10]) (c_X1_passHours l G (sh a 17) (x 0) n 10 (by omega) (by omega) hsp) cl_X5_110 yo_X1_passHours dX5_dry_33 rfl (Nat.le_of_ble_eq_true rfl) (Nat.le_of_ble_eq_true rfl) rfl (Nat.le_of_ble_eq_true rfl) ⟨Nat.zero_le _, Nat.zero_le _⟩ ?_
    exact ret _ _ _ _ ⟨rfl, _, rfl, by intro g h2 h6; simp [upG, up3, up3R, h2, h6]⟩ rfl dX5_dry_36
  · skip
    have c_6 := bI_0 c_6
    exact absurd (inB (a := n) (b := 100) (by omega) (by decide)) c_6

set_option maxHeartbeats 4000000 in
set_option maxRecDepth 20000 in
theorem c_X5_when_bad (l : Launch) (G : GB) (a : Nat → Nat) (x : Q3) (h v : Int32) (hb : ¬ (okH h ∧ 0 ≤ v ∧ v ≤ 9999)) : CI l yX5_when cX5_when 4 .int 2 41 G [.ref (a 0), .int h, .int v] (wC G a x) (fun vR w' => vR = tellR 0 ∧ PubC G a (tellX x 0) w') := by
  refine CI.mk (own := RX5) (by decide) rfl (Nat.le_of_ble_eq_true rfl) ?_
  intro X E ret
  show J X G 4 0 0 (wC G a x) [(0, .ref (a 0)), (1, .int h), (2, .int v)] 0 []
  refine J_iload_n E dX5_when_0 rfl 1 rfl ?_
  refine J_cSiN E (As := [.int h]) (c_X5_isHouse l G h ) cl_X5_52 yo_X5_isHouse dX5_when_1 rfl (Nat.le_of_ble_eq_true rfl) (Nat.le_of_ble_eq_true rfl) rfl (Nat.le_of_ble_eq_true rfl) ⟨Nat.zero_le _, Nat.zero_le _⟩ ?_
  refine J_if_eq E (tgt := 17) dX5_when_4 (by decide) (fun c_4 => ?_) (fun c_4 => ?_)
  · skip
    have c_4 := bI_0 c_4
    refine J_aload_n E dX5_when_17 rfl 0 rfl ?_
    refine J_iconst E dX5_when_18 ic_0 ?_
    refine J_cVi0 E (As := [.int 0]) (c_X5_tell l G a x 0 (by omega)) cl_X5_64 yo_X5_tell dX5_when_19 rfl rfl rfl (Nat.le_of_ble_eq_true rfl) (Nat.le_of_ble_eq_true rfl) rfl (Nat.le_of_ble_eq_true rfl) ⟨Nat.zero_le _, Nat.zero_le _⟩ ?_
    exact ret _ _ _ _ ⟨rfl, _, rfl, by intro g h2 h6; simp [upG, up3, up3R, h2, h6]⟩ rfl dX5_when_22
  · skip
    have c_4 := bI_1 c_4
    refine J_iload_n E dX5_when_7 rfl 2 rfl ?_
    refine J_sipush E dX5_when_8 sp_9999 ?_
    refine J_cSiN E (As := [.int v, .int 9999]) (c_X5_isUpTo l G v 9999 ) cl_X5_56 yo_X5_isUpTo dX5_when_11 rfl (Nat.le_of_ble_eq_true rfl) (Nat.le_of_ble_eq_true rfl) rfl (Nat.le_of_ble_eq_true rfl) ⟨Nat.zero_le _, Nat.zero_le _⟩ ?_
    refine J_if_ne E (tgt := 23) dX5_when_14 (by decide) (fun c_14 => ?_) (fun c_14 => ?_)
    · skip
      have c_14 := bI_1 c_14
      exact absurd ⟨c_4, c_14⟩ hb
    · skip
      have c_14 := bI_0 c_14
      refine J_aload_n E dX5_when_17 rfl 0 rfl ?_
      refine J_iconst E dX5_when_18 ic_0 ?_
      refine J_cVi0 E (As := [.int 0]) (c_X5_tell l G a x 0 (by omega)) cl_X5_64 yo_X5_tell dX5_when_19 rfl rfl rfl (Nat.le_of_ble_eq_true rfl) (Nat.le_of_ble_eq_true rfl) rfl (Nat.le_of_ble_eq_true rfl) ⟨Nat.zero_le _, Nat.zero_le _⟩ ?_
      exact ret _ _ _ _ ⟨rfl, _, rfl, by intro g h2 h6; simp [upG, up3, up3R, h2, h6]⟩ rfl dX5_when_22

set_option maxHeartbeats 4000000 in
set_option maxRecDepth 20000 in
theorem c_X5_when_ok (l : Launch) (G : GB) (a : Nat → Nat) (x : Q3) (j : Nat) (v : Int32) (hj : j < 11) (hv : 0 ≤ v ∧ v ≤ 9999) (hsp : spOk (x 0)) : CI l yX5_when cX5_when 4 .int 4 92 G [.ref (a 0), .int (nI j), .int v] (wC G a x) (fun vR w' => vR = optR (upF (fun i => decide (v ≤ hoursM (x 0) j i 1 j)) 101 0) ∧ PubC G a (optX x (upF (fun i => decide (v ≤ hoursM (x 0) j i 1 j)) 101 0)) w') := by
  refine CI.mk (own := RX5) (by decide) rfl (Nat.le_of_ble_eq_true rfl) ?_
  intro X E ret
  show J X G 4 0 0 (wC G a x) [(0, .ref (a 0)), (1, .int (nI j)), (2, .int v)] 0 []
  refine J_iload_n E dX5_when_0 rfl 1 rfl ?_
  refine J_cSiN E (As := [.int (nI j)]) (c_X5_isHouse l G (nI j) ) cl_X5_52 yo_X5_isHouse dX5_when_1 rfl (Nat.le_of_ble_eq_true rfl) (Nat.le_of_ble_eq_true rfl) rfl (Nat.le_of_ble_eq_true rfl) ⟨Nat.zero_le _, Nat.zero_le _⟩ ?_
  refine J_if_eq E (tgt := 17) dX5_when_4 (by decide) (fun c_4 => ?_) (fun c_4 => ?_)
  · skip
    have c_4 := bI_0 c_4
    exact absurd (inB (a := j) (b := 10) (by omega) (by decide)) c_4
  · skip
    have c_4 := bI_1 c_4
    refine J_iload_n E dX5_when_7 rfl 2 rfl ?_
    refine J_sipush E dX5_when_8 sp_9999 ?_
    refine J_cSiN E (As := [.int v, .int 9999]) (c_X5_isUpTo l G v 9999 ) cl_X5_56 yo_X5_isUpTo dX5_when_11 rfl (Nat.le_of_ble_eq_true rfl) (Nat.le_of_ble_eq_true rfl) rfl (Nat.le_of_ble_eq_true rfl) ⟨Nat.zero_le _, Nat.zero_le _⟩ ?_
    refine J_if_ne E (tgt := 23) dX5_when_14 (by decide) (fun c_14 => ?_) (fun c_14 => ?_)
    · skip
      have c_14 := bI_1 c_14
      refine J_aload_n E dX5_when_23 rfl 0 rfl ?_
      refine gC0_X5_19 E dX5_when_24 ?_
      refine J_aload_n E dX5_when_27 rfl 0 rfl ?_
      refine gC0_X5_10 E dX5_when_28 ?_
      refine J_b20 E dX5_when_31 (Nat.le_of_ble_eq_true rfl) (Nat.le_of_ble_eq_true rfl) (Nat.le_of_ble_eq_true rfl) ⟨Nat.zero_le _, Nat.zero_le _⟩ ?_
      refine J_iconst E dX5_when_34 ic_0 ?_
      refine J_istore_n E (lv' := [(3, .int 0), (0, .ref (a 0)), (1, .int (nI j)), (2, .int v)]) dX5_when_35 rfl (by decide) rfl ?_
      have lp36 : ∀ (fu : Nat) (i : Nat) (r : Q2), (i ≤ 101) → (r = hoursM (x 0) j i) → (upF (fun i => decide (v ≤ hoursM (x 0) j i 1 j)) 101 0 = upF (fun i => decide (v ≤ hoursM (x 0) j i 1 j)) (101 - i) i) → 101 - i < fu → J X G 4 0 0 (wC G a (upG x 2 r)) [(0, .ref (a 0)), (1, .int (nI j)), (2, .int v), (3, .int (nI i))] 36 [] := by
        intro fu
        induction fu with
        | zero => intro i r hi hr h1 hm; exact absurd hm (Nat.not_lt_zero _)
        | succ fu ih36 =>
          intro i r hi hr h1 hm
          refine J_iload_n E dX5_when_36 rfl 3 rfl ?_
          refine J_bipush E dX5_when_37 bp_100 ?_
          refine J_icmp_gt E (tgt := 72) dX5_when_39 (by decide) (fun c_39 => ?_) (fun c_39 => ?_)
          · skip
            have n_39 : 100 < i := cmp_lt (a := 100) (b := i) (by omega) (by omega) c_39
            have h2 : upF (fun i => decide (v ≤ hoursM (x 0) j i 1 j)) 101 0 = none := by rw [h1, show 101 - i = 0 by omega]; rfl
            refine J_aload_n E dX5_when_72 rfl 0 rfl ?_
            refine J_iconst E dX5_when_73 ic_3 ?_
            refine J_cVi0 E (As := [.int 3]) (c_X5_tell l G a (upG x 2 r) 3 (by omega)) cl_X5_64 yo_X5_tell dX5_when_74 rfl rfl rfl (Nat.le_of_ble_eq_true rfl) (Nat.le_of_ble_eq_true rfl) rfl (Nat.le_of_ble_eq_true rfl) ⟨Nat.zero_le _, Nat.zero_le _⟩ ?_
            exact ret _ _ _ _ ⟨by rw [h2]; rfl, _, rfl, by rw [h2]; intro g h2 h6; simp [optX, tellX, upG, up3, h2]; try (intro e; subst e; rfl)⟩ rfl dX5_when_77
          · skip
            have n_39 : ¬ 100 < i := cmp_nlt (a := 100) (b := i) (by omega) (by omega) c_39
            refine J_aload_n E dX5_when_42 rfl 0 rfl ?_
            refine gC0_X5_19 E dX5_when_43 ?_
            refine gC17_X5_103 E dX5_when_46 ?_
            refine J_iload_n E dX5_when_49 rfl 1 rfl ?_
            refine lC_19 E (j := j) dX5_when_50 (by omega) ?_
            refine J_top (x' := r 1 j) upG_s ?_
            refine J_iload_n E dX5_when_51 rfl 2 rfl ?_
            refine J_icmp_lt E (tgt := 57) dX5_when_52 (by decide) (fun c_52 => ?_) (fun c_52 => ?_)
            · skip
              refine J_aload_n E dX5_when_57 rfl 0 rfl ?_
              refine gC0_X5_19 E dX5_when_58 ?_
              refine J_iload_n E dX5_when_61 rfl 1 rfl ?_
              refine J_si2 E (As := [.int (nI j)]) (c_X1_passHour l G (sh a 17) r j hj (by rw [hr]; exact hoursM_sp hsp j i)) cl_X5_130 yo_X1_passHour dX5_when_62 rfl (Nat.le_of_ble_eq_true rfl) (Nat.le_of_ble_eq_true rfl) rfl (Nat.le_of_ble_eq_true rfl) ⟨Nat.zero_le _, Nat.zero_le _⟩ ?_
              refine J_pop E dX5_when_65 rfl ?_
              refine J_iinc E (lv' := [(3, .int (nI (i + 1))), (0, .ref (a 0)), (1, .int (nI j)), (2, .int v)]) dX5_when_66 3 rfl (nI_inc _) (by decide) rfl ?_
              refine J_goto E (tgt := 36) dX5_when_69 (by decide) ?_
              refine J_lv [1, 2, 3, 0] rfl ?_
              exact ih36 (i + 1) (hourM r j) (by omega) (by rw [hr]; rfl) (by rw [h1, show 101 - i = (101 - (i + 1)) + 1 by omega, upF_f (by rw [hr] at c_52; exact fun z => absurd (of_decide_eq_true z) (Int32.not_le.mpr c_52))]) (by omega)
            · skip
              have h2 : upF (fun i => decide (v ≤ hoursM (x 0) j i 1 j)) 101 0 = some i := by rw [h1, show 101 - i = (100 - i) + 1 by omega]; exact upF_t (by rw [hr] at c_52; exact decide_eq_true (Int32.not_lt.mp c_52))
              refine J_iload_n E dX5_when_55 rfl 3 rfl ?_
              exact ret _ _ _ _ ⟨by rw [h2]; rfl, _, rfl, by rw [h2]; intro g h2 h6; simp [optX, upG, h2]⟩ rfl dX5_when_56
      refine J_lv [1, 2, 3, 0] rfl ?_
      exact lp36 _ 0 (x 0) (by omega) rfl rfl (Nat.lt_succ_self _)
    · skip
      have c_14 := bI_0 c_14
      exact absurd (by assumption) c_14

set_option maxHeartbeats 4000000 in
set_option maxRecDepth 20000 in
theorem c_X5_settles (l : Launch) (G : GB) (a : Nat → Nat) (x : Q3) (hsp : spOk (x 0)) : CI l yX5_settles cX5_settles 2 .int 4 92 G [.ref (a 0)] (wC G a x) (fun vR w' => vR = optR (upF (fun i => allF (fun y => decide (hoursM (x 0) 10 (i + 1) 1 y = hoursM (x 0) 10 i 1 y)) 11) 101 0) ∧ PubC G a (optX x (upF (fun i => allF (fun y => decide (hoursM (x 0) 10 (i + 1) 1 y = hoursM (x 0) 10 i 1 y)) 11) 101 0)) w') := by
  refine CI.mk (own := RX5) (by decide) rfl (Nat.le_of_ble_eq_true rfl) ?_
  intro X E ret
  show J X G 2 0 0 (wC G a x) [(0, .ref (a 0))] 0 []
  refine J_aload_n E dX5_settles_0 rfl 0 rfl ?_
  refine gC0_X5_19 E dX5_settles_1 ?_
  refine J_aload_n E dX5_settles_4 rfl 0 rfl ?_
  refine gC0_X5_10 E dX5_settles_5 ?_
  refine J_b20 E dX5_settles_8 (Nat.le_of_ble_eq_true rfl) (Nat.le_of_ble_eq_true rfl) (Nat.le_of_ble_eq_true rfl) ⟨Nat.zero_le _, Nat.zero_le _⟩ ?_
  refine J_iconst E dX5_settles_11 ic_0 ?_
  refine J_istore_n E (lv' := [(1, .int 0), (0, .ref (a 0))]) dX5_settles_12 rfl (by decide) rfl ?_
  have lp13 : ∀ (fu : Nat) (i : Nat) (r : Q2) (b : Q2), (i ≤ 101) → (r = hoursM (x 0) 10 i) → (upF (fun i => allF (fun y => decide (hoursM (x 0) 10 (i + 1) 1 y = hoursM (x 0) 10 i 1 y)) 11) 101 0 = upF (fun i => allF (fun y => decide (hoursM (x 0) 10 (i + 1) 1 y = hoursM (x 0) 10 i 1 y)) 11) (101 - i) i) → 101 - i < fu → J X G 2 0 0 (wC G a (upG (upG x 2 r) 6 b)) [(0, .ref (a 0)), (1, .int (nI i))] 13 [] := by
    intro fu
    induction fu with
    | zero => intro i r b hi hr h1 hm; exact absurd hm (Nat.not_lt_zero _)
    | succ fu ih13 =>
      intro i r b hi hr h1 hm
      refine J_iload_n E dX5_settles_13 rfl 1 rfl ?_
      refine J_bipush E dX5_settles_14 bp_100 ?_
      refine J_icmp_gt E (tgt := 62) dX5_settles_16 (by decide) (fun c_16 => ?_) (fun c_16 => ?_)
      · skip
        have n_16 : 100 < i := cmp_lt (a := 100) (b := i) (by omega) (by omega) c_16
        have h2 : upF (fun i => allF (fun y => decide (hoursM (x 0) 10 (i + 1) 1 y = hoursM (x 0) 10 i 1 y)) 11) 101 0 = none := by rw [h1, show 101 - i = 0 by omega]; rfl
        refine J_aload_n E dX5_settles_62 rfl 0 rfl ?_
        refine J_iconst E dX5_settles_63 ic_3 ?_
        refine J_cVi0 E (As := [.int 3]) (c_X5_tell l G a (upG (upG x 2 r) 6 b) 3 (by omega)) cl_X5_64 yo_X5_tell dX5_settles_64 rfl rfl rfl (Nat.le_of_ble_eq_true rfl) (Nat.le_of_ble_eq_true rfl) rfl (Nat.le_of_ble_eq_true rfl) ⟨Nat.zero_le _, Nat.zero_le _⟩ ?_
        exact ret _ _ _ _ ⟨by rw [h2]; rfl, _, rfl, by rw [h2]; intro g h2 h6; simp [optX, tellX, upG, up3, up3R, h2, h6]; try (intro e; subst e; rfl)⟩ rfl dX5_settles_67
      · skip
        have n_16 : ¬ 100 < i := cmp_nlt (a := 100) (b := i) (by omega) (by omega) c_16
        refine J_aload_n E dX5_settles_19 rfl 0 rfl ?_
        refine gC0_X5_19 E dX5_settles_20 ?_
        refine gC17_X5_103 E dX5_settles_23 ?_
        refine J_iconst E dX5_settles_26 ic_0 ?_
        refine J_aload_n E dX5_settles_27 rfl 0 rfl ?_
        refine gC0_X5_22 E dX5_settles_28 ?_
        refine J_iconst E dX5_settles_31 ic_0 ?_
        refine J_bipush E dX5_settles_32 bp_11 ?_
        refine J_copyAll E (m := 11) 19 25 ml_X5_133 na_acopy st_acopy ini_J10 dX5_settles_34 rfl rfl (by decide) (by decide) (Nat.le_of_ble_eq_true rfl) ?_
        refine J_w (ws' := wC G a (up3R (upG (upG x 2 r) 6 b) 6 0 (r 1))) rfl ?_
        refine J_aload_n E dX5_settles_37 rfl 0 rfl ?_
        refine gC0_X5_19 E dX5_settles_38 ?_
        refine J_bipush E dX5_settles_41 bp_10 ?_
        refine J_si2 E (As := [.int 10]) (c_X1_passHour l G (sh a 17) r 10 (by decide) (by rw [hr]; exact hoursM_sp hsp 10 i)) cl_X5_130 yo_X1_passHour dX5_settles_43 rfl (Nat.le_of_ble_eq_true rfl) (Nat.le_of_ble_eq_true rfl) rfl (Nat.le_of_ble_eq_true rfl) ⟨Nat.zero_le _, Nat.zero_le _⟩ ?_
        refine J_pop E dX5_settles_46 rfl ?_
        refine J_aload_n E dX5_settles_47 rfl 0 rfl ?_
        refine J_cVi0 E (As := []) (c_X5_isWaterAsBefore l G a (upG (up3R (upG (upG x 2 r) 6 b) 6 0 (r 1)) 2 (hourM r 10)) ) cl_X5_139 yo_X5_isWaterAsBefore dX5_settles_48 rfl rfl rfl (Nat.le_of_ble_eq_true rfl) (Nat.le_of_ble_eq_true rfl) rfl (Nat.le_of_ble_eq_true rfl) ⟨Nat.zero_le _, Nat.zero_le _⟩ ?_
        refine J_top (x' := bI (allF (fun j => decide (hourM r 10 1 j = r 1 j)) 11 = true)) (by simp only [upG_s, upG_n (show ¬ 6 = 2 by decide), up3R_s]) ?_
        refine J_if_eq E (tgt := 56) dX5_settles_51 (by decide) (fun c_51 => ?_) (fun c_51 => ?_)
        · skip
          have c_51 := bI_0 c_51
          refine J_iinc E (lv' := [(1, .int (nI (i + 1))), (0, .ref (a 0))]) dX5_settles_56 1 rfl (nI_inc _) (by decide) rfl ?_
          refine J_goto E (tgt := 13) dX5_settles_59 (by decide) ?_
          refine J_lv [1, 0] rfl ?_
          exact ih13 (i + 1) (hourM r 10) ((up3R (upG (upG x 2 r) 6 b) 6 0 (r 1)) 6) (by omega) (by rw [hr]; rfl) (by rw [h1, show 101 - i = (101 - (i + 1)) + 1 by omega, upF_f (by rw [hr] at c_51; exact c_51)]) (by omega)
        · skip
          have c_51 := bI_1 c_51
          have h2 : upF (fun i => allF (fun y => decide (hoursM (x 0) 10 (i + 1) 1 y = hoursM (x 0) 10 i 1 y)) 11) 101 0 = some i := by rw [h1, show 101 - i = (100 - i) + 1 by omega]; exact upF_t (by rw [hr] at c_51; exact c_51)
          refine J_iload_n E dX5_settles_54 rfl 1 rfl ?_
          exact ret _ _ _ _ ⟨by rw [h2]; rfl, _, rfl, by rw [h2]; intro g h2 h6; simp [optX, upG, up3R, h2, h6]⟩ rfl dX5_settles_55
  refine J_lv [1, 0] rfl ?_
  exact lp13 _ 0 (x 0) (x 6) (by omega) rfl rfl (Nat.lt_succ_self _)

set_option maxHeartbeats 4000000 in
set_option maxRecDepth 20000 in
theorem c_X5_below_bad (l : Launch) (G : GB) (a : Nat → Nat) (x : Q3) (h : Int32) (hb : ¬ okH h) : CI l yX5_below cX5_below 5 .int 2 41 G [.ref (a 0), .int h] (wC G a x) (fun vR w' => vR = tellR 0 ∧ PubC G a (tellX x 0) w') := by
  refine CI.mk (own := RX5) (by decide) rfl (Nat.le_of_ble_eq_true rfl) ?_
  intro X E ret
  show J X G 5 0 0 (wC G a x) [(0, .ref (a 0)), (1, .int h)] 0 []
  refine J_iload_n E dX5_below_0 rfl 1 rfl ?_
  refine J_cSiN E (As := [.int h]) (c_X5_isHouse l G h ) cl_X5_52 yo_X5_isHouse dX5_below_1 rfl (Nat.le_of_ble_eq_true rfl) (Nat.le_of_ble_eq_true rfl) rfl (Nat.le_of_ble_eq_true rfl) ⟨Nat.zero_le _, Nat.zero_le _⟩ ?_
  refine J_if_ne E (tgt := 13) dX5_below_4 (by decide) (fun c_4 => ?_) (fun c_4 => ?_)
  · skip
    have c_4 := bI_1 c_4
    exact absurd c_4 hb
  · skip
    have c_4 := bI_0 c_4
    refine J_aload_n E dX5_below_7 rfl 0 rfl ?_
    refine J_iconst E dX5_below_8 ic_0 ?_
    refine J_cVi0 E (As := [.int 0]) (c_X5_tell l G a x 0 (by omega)) cl_X5_64 yo_X5_tell dX5_below_9 rfl rfl rfl (Nat.le_of_ble_eq_true rfl) (Nat.le_of_ble_eq_true rfl) rfl (Nat.le_of_ble_eq_true rfl) ⟨Nat.zero_le _, Nat.zero_le _⟩ ?_
    exact ret _ _ _ _ ⟨rfl, _, rfl, by intro g h2 h6; simp [upG, up3, up3R, h2, h6]⟩ rfl dX5_below_12

set_option maxHeartbeats 4000000 in
set_option maxRecDepth 20000 in
theorem c_X5_below_ok (l : Launch) (G : GB) (a : Nat → Nat) (x : Q3) (j : Nat) (hj : j < 11) (hsp : spOk (x 0)) : CI l yX5_below cX5_below 5 .int 2 41 G [.ref (a 0), .int (nI j)] (wC G a x) (fun vR w' => vR = belowF (x 0) 11 (nI j) 0 ∧ PubC G a x w') := by
  refine CI.mk (own := RX5) (by decide) rfl (Nat.le_of_ble_eq_true rfl) ?_
  intro X E ret
  show J X G 5 0 0 (wC G a x) [(0, .ref (a 0)), (1, .int (nI j))] 0 []
  refine J_iload_n E dX5_below_0 rfl 1 rfl ?_
  refine J_cSiN E (As := [.int (nI j)]) (c_X5_isHouse l G (nI j) ) cl_X5_52 yo_X5_isHouse dX5_below_1 rfl (Nat.le_of_ble_eq_true rfl) (Nat.le_of_ble_eq_true rfl) rfl (Nat.le_of_ble_eq_true rfl) ⟨Nat.zero_le _, Nat.zero_le _⟩ ?_
  refine J_if_ne E (tgt := 13) dX5_below_4 (by decide) (fun c_4 => ?_) (fun c_4 => ?_)
  · skip
    have c_4 := bI_1 c_4
    refine J_iconst E dX5_below_13 ic_0 ?_
    refine J_istore_n E (lv' := [(2, .int 0), (0, .ref (a 0)), (1, .int (nI j))]) dX5_below_14 rfl (by decide) rfl ?_
    refine J_iload_n E dX5_below_15 rfl 2 rfl ?_
    refine J_istore_n E (lv' := [(3, .int (nI j)), (2, .int 0), (0, .ref (a 0)), (1, .int (nI j))]) dX5_below_16 rfl (by decide) rfl ?_
    refine J_iconst E dX5_below_17 ic_0 ?_
    refine J_istore E (lv' := [(4, .int 0), (3, .int (nI j)), (2, .int 0), (0, .ref (a 0)), (1, .int (nI j))]) dX5_below_18 (by decide) rfl ?_
    have lp20 : ∀ (fu : Nat) (i : Nat) (v : Int32) (s : Int32), (i ≤ 11) → (v = -1 ∨ vp_in v 11) → (belowF (x 0) 11 (nI j) 0 = belowF (x 0) (11 - i) v s) → 11 - i < fu → J X G 5 0 0 (wC G a x) [(0, .ref (a 0)), (1, .int (nI j)), (2, .int s), (3, .int v), (4, .int (nI i))] 20 [] := by
      intro fu
      induction fu with
      | zero => intro i v s hi hv h1 hm; exact absurd hm (Nat.not_lt_zero _)
      | succ fu ih20 =>
        intro i v s hi hv h1 hm
        refine J_iload E dX5_below_20 4 rfl ?_
        refine J_bipush E dX5_below_22 bp_11 ?_
        refine J_icmp_ge E (tgt := 53) dX5_below_24 (by decide) (fun c_24 => ?_) (fun c_24 => ?_)
        · skip
          have n_24 : 11 ≤ i := cmp_le (a := 11) (b := i) (by omega) (by omega) c_24
          refine J_iload_n E dX5_below_53 rfl 2 rfl ?_
          exact ret _ _ _ _ ⟨by first | rw [h1, belowF_t c_29] | (rw [h1, show 11 - i = 0 by omega]; rfl), _, rfl, by intro g h2 h6; simp [upG, up3, up3R, h2, h6]⟩ rfl dX5_below_54
        · skip
          have n_24 : ¬ 11 ≤ i := cmp_nle (a := 11) (b := i) (by omega) (by omega) c_24
          refine J_iload_n E dX5_below_27 rfl 3 rfl ?_
          refine J_iconst E dX5_below_28 ic_m1 ?_
          refine J_icmp_eq E (tgt := 53) dX5_below_29 (by decide) (fun c_29 => ?_) (fun c_29 => ?_)
          · skip
            refine J_iload_n E dX5_below_53 rfl 2 rfl ?_
            exact ret _ _ _ _ ⟨by first | rw [h1, belowF_t c_29] | (rw [h1, show 11 - i = 0 by omega]; rfl), _, rfl, by intro g h2 h6; simp [upG, up3, up3R, h2, h6]⟩ rfl dX5_below_54
          · skip
            obtain ⟨y, hy, rfl⟩ := vp_in_of (hv.resolve_left c_29) (by decide)
            refine J_iload_n E dX5_below_32 rfl 2 rfl ?_
            refine J_iconst E dX5_below_33 ic_1 ?_
            refine J_iload_n E dX5_below_34 rfl 3 rfl ?_
            refine J_ishl E dX5_below_35 ?_
            refine J_ior E dX5_below_36 ?_
            refine J_istore_n E (lv' := [(2, .int (s ||| (1 <<< ((nI y) &&& 31)))), (0, .ref (a 0)), (1, .int (nI j)), (3, .int (nI y)), (4, .int (nI i))]) dX5_below_37 rfl (by decide) rfl ?_
            refine J_aload_n E dX5_below_38 rfl 1 rfl ?_
            refine gC0_X5_10 E dX5_below_39 ?_
            refine J_iload_n E dX5_below_42 rfl 3 rfl ?_
            refine J_si0r E (As := [.int (nI y)]) (c_X1_leadsTo l G (sh a 1) (x 0) y (by omega)) cl_X5_85 yo_X1_leadsTo dX5_below_43 rfl (Nat.le_of_ble_eq_true rfl) (Nat.le_of_ble_eq_true rfl) rfl (Nat.le_of_ble_eq_true rfl) ⟨Nat.zero_le _, Nat.zero_le _⟩ ?_
            refine J_istore_n E (lv' := [(3, .int (leadF (x 0) y)), (2, .int (s ||| (1 <<< ((nI y) &&& 31)))), (0, .ref (a 0)), (1, .int (nI j)), (4, .int (nI i))]) dX5_below_46 rfl (by decide) rfl ?_
            refine J_iinc E (lv' := [(4, .int (nI (i + 1))), (3, .int (leadF (x 0) y)), (2, .int (s ||| (1 <<< ((nI y) &&& 31)))), (0, .ref (a 0)), (1, .int (nI j))]) dX5_below_47 4 rfl (nI_inc _) (by decide) rfl ?_
            refine J_goto E (tgt := 20) dX5_below_50 (by decide) ?_
            refine J_lv [3, 4, 2, 1, 0] rfl ?_
            exact ih20 (i + 1) (leadF (x 0) y) (s ||| (1 <<< ((nI y) &&& 31))) (by omega) (leadF_in hsp (by omega)) (by rw [h1, show 11 - i = (11 - (i + 1)) + 1 by omega, belowF_f c_29, nI_clamp (by omega)]) (by omega)
    refine J_lv [3, 4, 2, 1, 0] rfl ?_
    exact lp20 _ 0 (nI j) 0 (by omega) (Or.inr (vp_in_nI hj (by decide))) rfl (Nat.lt_succ_self _)
  · skip
    have c_4 := bI_0 c_4
    exact absurd (inB (a := j) (b := 10) (by omega) (by decide)) c_4
