theorem J_ldcw {X : JX} {l : Launch} {G : GB} {cc : ByteArray} {own : String} {nL fr lo kc ks pc : Nat} {ws : va_W} {lv : List (Nat × Value)} {st : List Value} (E : JE X l G cc own nL fr lo) {idx : Nat} {v : Int32} (hw : Cond.constant own idx v ∈ lw_T) (hd : decode cc pc = .ok (.ldc_w idx, 3)) (K : J X G nL kc ks ws lv (pc + 3) (.int v :: st)) : J X G nL kc ks ws lv pc st := fun H locs ls hP hD hS hl => lv_ldcw E.1 E.2.1 E.2.2.2.1 (E.2.2.2.2.1 _ hw) hd (K H locs ls hP hD hS hl)
def us (x k : Int32) : Int32 := (x.toUInt32 >>> (k.toUInt32 &&& Int32.toUInt32 31)).toInt32
def bc1 (i : Int32) : Int32 := i - (us i 1 &&& 1431655765)
def bc2 (i : Int32) : Int32 := (i &&& 858993459) + (us i 2 &&& 858993459)
def bc3 (i : Int32) : Int32 := (i + us i 4) &&& 252645135
def bcF (i : Int32) : Int32 := (bc3 (bc2 (bc1 i)) + us (bc3 (bc2 (bc1 i))) 8 + us (bc3 (bc2 (bc1 i)) + us (bc3 (bc2 (bc1 i))) 8) 16) &&& 63
theorem and1 (z : Int32) : z &&& 1 = 0 ∨ z &&& 1 = 1 := by
  obtain ⟨j, hj, e⟩ := pk_andE z (m := 1) 1 rfl
  rcases (show j = 0 ∨ j = 1 by omega) with rfl | rfl
  · exact Or.inl e
  · exact Or.inr e
theorem turnS_sp {q : Q2} (h : spOk q) (hs : Int32) : ∀ n, spOk (turnS q hs n)
  | 0 => h
  | n + 1 => by
    intro y hy
    rw [turnS]
    by_cases e : y = n
    · subst e
      rw [up2_s]
      rcases turnS_sp h hs y y hy with a | a <;> rcases and1 (hs >>> (nI y &&& 31)) with b | b <;> rw [a, b] <;> decide
    · rw [up2_d e]
      exact turnS_sp h hs n y hy
theorem turnQ_sp {q : Q2} (h : spOk q) (hs : Int32) : spOk (turnQ q hs) := turnS_sp h hs 11
theorem bringF_sp {q : Q2} (h : spOk q) (x v : Int32) : spOk (bringF q x v) := by
  intro y hy
  rw [bringF_4]
  exact h y hy
/-- the first with most -/
def argF (f : Nat → Int32) : Nat → Int32 × Nat
  | 0 => (-1, 0)
  | n + 1 => if (argF f n).1 < f n then (f n, n) else argF f n
/-- the first with fewest -/
def minF (f : Nat → Int32) : Nat → Int32 × Nat
  | 0 => (12, 0)
  | n + 1 => if f n < (minF f n).1 then (f n, n) else minF f n
theorem argF_t {f : Nat → Int32} {n : Nat} (h : (argF f n).1 < f n) : argF f (n + 1) = (f n, n) := if_pos h
theorem argF_f {f : Nat → Int32} {n : Nat} (h : ¬ (argF f n).1 < f n) : argF f (n + 1) = argF f n := if_neg h
theorem minF_t {f : Nat → Int32} {n : Nat} (h : f n < (minF f n).1) : minF f (n + 1) = (f n, n) := if_pos h
theorem minF_f {f : Nat → Int32} {n : Nat} (h : ¬ f n < (minF f n).1) : minF f (n + 1) = minF f n := if_neg h
theorem argF_le (f : Nat → Int32) : ∀ n, (argF f n).2 ≤ n
  | 0 => Nat.le_refl _
  | n + 1 => by
    rw [argF]
    split
    · exact Nat.le_succ n
    · exact Nat.le_succ_of_le (argF_le f n)
theorem minF_le (f : Nat → Int32) : ∀ n, (minF f n).2 ≤ n
  | 0 => Nat.le_refl _
  | n + 1 => by
    rw [minF]
    split
    · exact Nat.le_succ n
    · exact Nat.le_succ_of_le (minF_le f n)
theorem shl1 {k : Nat} (h : k ≤ 10) : (1 : Int32) <<< (nI k &&& 31) = nI (2 ^ k) := by
  rcases (show k = 0 ∨ k = 1 ∨ k = 2 ∨ k = 3 ∨ k = 4 ∨ k = 5 ∨ k = 6 ∨ k = 7 ∨ k = 8 ∨ k = 9 ∨ k = 10 by omega) with rfl | rfl | rfl | rfl | rfl | rfl | rfl | rfl | rfl | rfl | rfl <;> decide
theorem pow10 {k : Nat} (h : k ≤ 10) : 2 ^ k ≤ 1024 := by
  have := Nat.pow_le_pow_right (n := 2) (by decide) h
  omega
/-- sizes of sets, and the sets -/
def tnF (p : Nat → Nat → Bool) (P : Nat) : Nat → Nat → Option Nat
  | 0, _ => none
  | f + 1, sz => match upF (p sz) P 0 with
    | some s => some s
    | none => tnF p P f (sz + 1)
theorem tnF_s {p : Nat → Nat → Bool} {P f sz s : Nat} (h : upF (p sz) P 0 = some s) : tnF p P (f + 1) sz = some s := by rw [tnF, h]
theorem tnF_n {p : Nat → Nat → Bool} {P f sz : Nat} (h : upF (p sz) P 0 = none) : tnF p P (f + 1) sz = tnF p P f (sz + 1) := by rw [tnF, h]
def tnP (q : Q2) (v : Int32) (m : Nat) (sz set : Nat) : Bool := decide (bcF (nI set) = nI sz ∧ ¬ wetR v (lastF v 10) m (turnQ q (nI set)) = 0)
theorem wetW_eq (q : Q2) (k j m v : Nat) : wetR (bitI j) j m (withQ q k (nI v) j) = wetW q k j m v := rfl

set_option maxHeartbeats 4000000 in
set_option maxRecDepth 20000 in
theorem c_J6_bitCount_0f7a4 (l : Launch) (G : GB) (i : Int32) : CI l yJ6_bitCount_0f7a4 cJ6_bitCount_0f7a4 1 .int 0 0 G [.int i] ([]) (fun vR w' => vR = bcF i ∧ w' = []) := by
  refine CI.mk (own := RJ6) (by decide) rfl (Nat.le_of_ble_eq_true rfl) ?_
  intro X E ret
  show J X G 1 0 0 ([]) [(0, .int i)] 0 []
  refine J_iload_n E dJ6_bitCount_0f7a4_0 rfl 0 rfl ?_
  refine J_iload_n E dJ6_bitCount_0f7a4_1 rfl 0 rfl ?_
  refine J_iconst E dJ6_bitCount_0f7a4_2 ic_1 ?_
  refine J_iushr E dJ6_bitCount_0f7a4_3 rfl ?_
  refine J_ldcw E kn_J6_265 dJ6_bitCount_0f7a4_4 ?_
  refine J_iand E dJ6_bitCount_0f7a4_7 ?_
  refine J_isub E dJ6_bitCount_0f7a4_8 ?_
  refine J_top (x' := bc1 i) (rfl) ?_
  refine J_istore_n E (lv' := [(0, .int (bc1 i))]) dJ6_bitCount_0f7a4_9 rfl (by decide) rfl ?_
  refine J_iload_n E dJ6_bitCount_0f7a4_10 rfl 0 rfl ?_
  refine J_ldcw E kn_J6_266 dJ6_bitCount_0f7a4_11 ?_
  refine J_iand E dJ6_bitCount_0f7a4_14 ?_
  refine J_iload_n E dJ6_bitCount_0f7a4_15 rfl 0 rfl ?_
  refine J_iconst E dJ6_bitCount_0f7a4_16 ic_2 ?_
  refine J_iushr E dJ6_bitCount_0f7a4_17 rfl ?_
  refine J_ldcw E kn_J6_266 dJ6_bitCount_0f7a4_18 ?_
  refine J_iand E dJ6_bitCount_0f7a4_21 ?_
  refine J_iadd E dJ6_bitCount_0f7a4_22 ?_
  refine J_top (x' := bc2 (bc1 i)) (rfl) ?_
  refine J_istore_n E (lv' := [(0, .int (bc2 (bc1 i)))]) dJ6_bitCount_0f7a4_23 rfl (by decide) rfl ?_
  refine J_iload_n E dJ6_bitCount_0f7a4_24 rfl 0 rfl ?_
  refine J_iload_n E dJ6_bitCount_0f7a4_25 rfl 0 rfl ?_
  refine J_iconst E dJ6_bitCount_0f7a4_26 ic_4 ?_
  refine J_iushr E dJ6_bitCount_0f7a4_27 rfl ?_
  refine J_iadd E dJ6_bitCount_0f7a4_28 ?_
  refine J_ldcw E kn_J6_267 dJ6_bitCount_0f7a4_29 ?_
  refine J_iand E dJ6_bitCount_0f7a4_32 ?_
  refine J_top (x' := bc3 (bc2 (bc1 i))) (rfl) ?_
  refine J_istore_n E (lv' := [(0, .int (bc3 (bc2 (bc1 i))))]) dJ6_bitCount_0f7a4_33 rfl (by decide) rfl ?_
  refine J_iload_n E dJ6_bitCount_0f7a4_34 rfl 0 rfl ?_
  refine J_iload_n E dJ6_bitCount_0f7a4_35 rfl 0 rfl ?_
  refine J_bipush E dJ6_bitCount_0f7a4_36 bp_8 ?_
  refine J_iushr E dJ6_bitCount_0f7a4_38 rfl ?_
  refine J_iadd E dJ6_bitCount_0f7a4_39 ?_
  refine J_istore_n E (lv' := [(0, .int ((bc3 (bc2 (bc1 i))) + (((bc3 (bc2 (bc1 i))).toUInt32 >>> ((8 : Int32).toUInt32 &&& Int32.toUInt32 31)).toInt32)))]) dJ6_bitCount_0f7a4_40 rfl (by decide) rfl ?_
  refine J_iload_n E dJ6_bitCount_0f7a4_41 rfl 0 rfl ?_
  refine J_iload_n E dJ6_bitCount_0f7a4_42 rfl 0 rfl ?_
  refine J_bipush E dJ6_bitCount_0f7a4_43 bp_16 ?_
  refine J_iushr E dJ6_bitCount_0f7a4_45 rfl ?_
  refine J_iadd E dJ6_bitCount_0f7a4_46 ?_
  refine J_istore_n E (lv' := [(0, .int (((bc3 (bc2 (bc1 i))) + (((bc3 (bc2 (bc1 i))).toUInt32 >>> ((8 : Int32).toUInt32 &&& Int32.toUInt32 31)).toInt32)) + ((((bc3 (bc2 (bc1 i))) + (((bc3 (bc2 (bc1 i))).toUInt32 >>> ((8 : Int32).toUInt32 &&& Int32.toUInt32 31)).toInt32)).toUInt32 >>> ((16 : Int32).toUInt32 &&& Int32.toUInt32 31)).toInt32)))]) dJ6_bitCount_0f7a4_47 rfl (by decide) rfl ?_
  refine J_iload_n E dJ6_bitCount_0f7a4_48 rfl 0 rfl ?_
  refine J_bipush E dJ6_bitCount_0f7a4_49 bp_63 ?_
  refine J_iand E dJ6_bitCount_0f7a4_51 ?_
  exact ret _ _ _ _ ⟨rfl, rfl⟩ rfl dJ6_bitCount_0f7a4_52

set_option maxHeartbeats 4000000 in
set_option maxRecDepth 20000 in
theorem c_X5_rainFor_bad (l : Launch) (G : GB) (a : Nat → Nat) (x : Q3) (h n : Int32) (hb : ¬ (okH h ∧ 0 ≤ n ∧ n ≤ 40)) : CI l yX5_rainFor cX5_rainFor 3 .int 2 41 G [.ref (a 0), .int h, .int n] (wC G a x) (fun vR w' => vR = tellR 0 ∧ PubC G a (tellX x 0) w') := by
  refine CI.mk (own := RX5) (by decide) rfl (Nat.le_of_ble_eq_true rfl) ?_
  intro X E ret
  show J X G 3 0 0 (wC G a x) [(0, .ref (a 0)), (1, .int h), (2, .int n)] 0 []
  refine J_iload_n E dX5_rainFor_0 rfl 1 rfl ?_
  refine J_cSiN E (As := [.int h]) (c_X5_isHouse l G h ) cl_X5_52 yo_X5_isHouse dX5_rainFor_1 rfl (Nat.le_of_ble_eq_true rfl) (Nat.le_of_ble_eq_true rfl) rfl (Nat.le_of_ble_eq_true rfl) ⟨Nat.zero_le _, Nat.zero_le _⟩ ?_
  refine J_if_eq E (tgt := 16) dX5_rainFor_4 (by decide) (fun c_4 => ?_) (fun c_4 => ?_)
  · skip
    have c_4 := bI_0 c_4
    refine J_aload_n E dX5_rainFor_16 rfl 0 rfl ?_
    refine J_iconst E dX5_rainFor_17 ic_0 ?_
    refine J_cVi0 E (As := [.int 0]) (c_X5_tell l G a x 0 (by omega)) cl_X5_64 yo_X5_tell dX5_rainFor_18 rfl rfl rfl (Nat.le_of_ble_eq_true rfl) (Nat.le_of_ble_eq_true rfl) rfl (Nat.le_of_ble_eq_true rfl) ⟨Nat.zero_le _, Nat.zero_le _⟩ ?_
    exact ret _ _ _ _ ⟨rfl, _, rfl, by intro g h2 h6; simp [upG, up3, up3R, h2, h6]⟩ rfl dX5_rainFor_21
  · skip
    have c_4 := bI_1 c_4
    refine J_iload_n E dX5_rainFor_7 rfl 2 rfl ?_
    refine J_bipush E dX5_rainFor_8 bp_40 ?_
    refine J_cSiN E (As := [.int n, .int 40]) (c_X5_isUpTo l G n 40 ) cl_X5_56 yo_X5_isUpTo dX5_rainFor_10 rfl (Nat.le_of_ble_eq_true rfl) (Nat.le_of_ble_eq_true rfl) rfl (Nat.le_of_ble_eq_true rfl) ⟨Nat.zero_le _, Nat.zero_le _⟩ ?_
    refine J_if_ne E (tgt := 22) dX5_rainFor_13 (by decide) (fun c_13 => ?_) (fun c_13 => ?_)
    · skip
      have c_13 := bI_1 c_13
      exact absurd ⟨c_4, c_13⟩ hb
    · skip
      have c_13 := bI_0 c_13
      refine J_aload_n E dX5_rainFor_16 rfl 0 rfl ?_
      refine J_iconst E dX5_rainFor_17 ic_0 ?_
      refine J_cVi0 E (As := [.int 0]) (c_X5_tell l G a x 0 (by omega)) cl_X5_64 yo_X5_tell dX5_rainFor_18 rfl rfl rfl (Nat.le_of_ble_eq_true rfl) (Nat.le_of_ble_eq_true rfl) rfl (Nat.le_of_ble_eq_true rfl) ⟨Nat.zero_le _, Nat.zero_le _⟩ ?_
      exact ret _ _ _ _ ⟨rfl, _, rfl, by intro g h2 h6; simp [upG, up3, up3R, h2, h6]⟩ rfl dX5_rainFor_21

set_option maxHeartbeats 4000000 in
set_option maxRecDepth 20000 in
theorem c_X5_rainFor_ok (l : Launch) (G : GB) (a : Nat → Nat) (x : Q3) (j m : Nat) (hj : j < 11) (hm : m ≤ 40) (hsp : spOk (x 0)) : CI l yX5_rainFor cX5_rainFor 3 .int 7 168 G [.ref (a 0), .int (nI j), .int (nI m)] (wC G a x) (fun vR w' => vR = leastRes (x 0) 6 999 j m ∧ PubC G a (leastX x 6 999 j m) w') := by
  refine CI.mk (own := RX5) (by decide) rfl (Nat.le_of_ble_eq_true rfl) ?_
  intro X E ret
  show J X G 3 0 0 (wC G a x) [(0, .ref (a 0)), (1, .int (nI j)), (2, .int (nI m))] 0 []
  refine J_iload_n E dX5_rainFor_0 rfl 1 rfl ?_
  refine J_cSiN E (As := [.int (nI j)]) (c_X5_isHouse l G (nI j) ) cl_X5_52 yo_X5_isHouse dX5_rainFor_1 rfl (Nat.le_of_ble_eq_true rfl) (Nat.le_of_ble_eq_true rfl) rfl (Nat.le_of_ble_eq_true rfl) ⟨Nat.zero_le _, Nat.zero_le _⟩ ?_
  refine J_if_eq E (tgt := 16) dX5_rainFor_4 (by decide) (fun c_4 => ?_) (fun c_4 => ?_)
  · skip
    have c_4 := bI_0 c_4
    exact absurd (inB (a := j) (b := 10) (by omega) (by decide)) c_4
  · skip
    have c_4 := bI_1 c_4
    refine J_iload_n E dX5_rainFor_7 rfl 2 rfl ?_
    refine J_bipush E dX5_rainFor_8 bp_40 ?_
    refine J_cSiN E (As := [.int (nI m), .int 40]) (c_X5_isUpTo l G (nI m) 40 ) cl_X5_56 yo_X5_isUpTo dX5_rainFor_10 rfl (Nat.le_of_ble_eq_true rfl) (Nat.le_of_ble_eq_true rfl) rfl (Nat.le_of_ble_eq_true rfl) ⟨Nat.zero_le _, Nat.zero_le _⟩ ?_
    refine J_if_ne E (tgt := 22) dX5_rainFor_13 (by decide) (fun c_13 => ?_) (fun c_13 => ?_)
    · skip
      have c_13 := bI_1 c_13
      refine J_aload_n E dX5_rainFor_22 rfl 0 rfl ?_
      refine J_bipush E dX5_rainFor_23 bp_6 ?_
      refine J_sipush E dX5_rainFor_25 sp_999 ?_
      refine J_iload_n E dX5_rainFor_28 rfl 1 rfl ?_
      refine J_iload_n E dX5_rainFor_29 rfl 2 rfl ?_
      refine J_callVi E (As := [.int 6, .int 999, .int (nI j), .int (nI m)]) (q0 := 0) (ci := 4) [] [] (c_X5_leastFor l G a x 6 999 j m (by decide) (by decide) (by decide) hj (by omega) hsp) cl_X5_143 yo_X5_leastFor dX5_rainFor_30 rfl rfl rfl (Nat.le_of_ble_eq_true rfl) (Nat.le_of_ble_eq_true rfl) rfl (Nat.le_of_ble_eq_true rfl) (by simp) ⟨Nat.zero_le _, Nat.zero_le _⟩ (fun vR w' hp => ?_)
      obtain ⟨rfl, x'1, rfl, hsh1⟩ := hp
      refine J_w (ws' := wC G a x'1) (by simp) ?_
      exact ret _ _ _ _ ⟨rfl, _, rfl, hsh1⟩ rfl dX5_rainFor_33
    · skip
      have c_13 := bI_0 c_13
      exact absurd (inB (a := m) (b := 40) (by omega) (by decide)) c_13

set_option maxHeartbeats 4000000 in
set_option maxRecDepth 20000 in
theorem c_X5_holdsFor_bad (l : Launch) (G : GB) (a : Nat → Nat) (x : Q3) (h n : Int32) (hb : ¬ (okH h ∧ 0 ≤ n ∧ n ≤ 40)) : CI l yX5_holdsFor cX5_holdsFor 3 .int 2 41 G [.ref (a 0), .int h, .int n] (wC G a x) (fun vR w' => vR = tellR 0 ∧ PubC G a (tellX x 0) w') := by
  refine CI.mk (own := RX5) (by decide) rfl (Nat.le_of_ble_eq_true rfl) ?_
  intro X E ret
  show J X G 3 0 0 (wC G a x) [(0, .ref (a 0)), (1, .int h), (2, .int n)] 0 []
  refine J_iload_n E dX5_holdsFor_0 rfl 1 rfl ?_
  refine J_cSiN E (As := [.int h]) (c_X5_isHouse l G h ) cl_X5_52 yo_X5_isHouse dX5_holdsFor_1 rfl (Nat.le_of_ble_eq_true rfl) (Nat.le_of_ble_eq_true rfl) rfl (Nat.le_of_ble_eq_true rfl) ⟨Nat.zero_le _, Nat.zero_le _⟩ ?_
  refine J_if_eq E (tgt := 16) dX5_holdsFor_4 (by decide) (fun c_4 => ?_) (fun c_4 => ?_)
  · skip
    have c_4 := bI_0 c_4
    refine J_aload_n E dX5_holdsFor_16 rfl 0 rfl ?_
    refine J_iconst E dX5_holdsFor_17 ic_0 ?_
    refine J_cVi0 E (As := [.int 0]) (c_X5_tell l G a x 0 (by omega)) cl_X5_64 yo_X5_tell dX5_holdsFor_18 rfl rfl rfl (Nat.le_of_ble_eq_true rfl) (Nat.le_of_ble_eq_true rfl) rfl (Nat.le_of_ble_eq_true rfl) ⟨Nat.zero_le _, Nat.zero_le _⟩ ?_
    exact ret _ _ _ _ ⟨rfl, _, rfl, by intro g h2 h6; simp [upG, up3, up3R, h2, h6]⟩ rfl dX5_holdsFor_21
  · skip
    have c_4 := bI_1 c_4
    refine J_iload_n E dX5_holdsFor_7 rfl 2 rfl ?_
    refine J_bipush E dX5_holdsFor_8 bp_40 ?_
    refine J_cSiN E (As := [.int n, .int 40]) (c_X5_isUpTo l G n 40 ) cl_X5_56 yo_X5_isUpTo dX5_holdsFor_10 rfl (Nat.le_of_ble_eq_true rfl) (Nat.le_of_ble_eq_true rfl) rfl (Nat.le_of_ble_eq_true rfl) ⟨Nat.zero_le _, Nat.zero_le _⟩ ?_
    refine J_if_ne E (tgt := 22) dX5_holdsFor_13 (by decide) (fun c_13 => ?_) (fun c_13 => ?_)
    · skip
      have c_13 := bI_1 c_13
      exact absurd ⟨c_4, c_13⟩ hb
    · skip
      have c_13 := bI_0 c_13
      refine J_aload_n E dX5_holdsFor_16 rfl 0 rfl ?_
      refine J_iconst E dX5_holdsFor_17 ic_0 ?_
      refine J_cVi0 E (As := [.int 0]) (c_X5_tell l G a x 0 (by omega)) cl_X5_64 yo_X5_tell dX5_holdsFor_18 rfl rfl rfl (Nat.le_of_ble_eq_true rfl) (Nat.le_of_ble_eq_true rfl) rfl (Nat.le_of_ble_eq_true rfl) ⟨Nat.zero_le _, Nat.zero_le _⟩ ?_
      exact ret _ _ _ _ ⟨rfl, _, rfl, by intro g h2 h6; simp [upG, up3, up3R, h2, h6]⟩ rfl dX5_holdsFor_21

set_option maxHeartbeats 4000000 in
set_option maxRecDepth 20000 in
theorem c_X5_holdsFor_ok (l : Launch) (G : GB) (a : Nat → Nat) (x : Q3) (j m : Nat) (hj : j < 11) (hm : m ≤ 40) (hsp : spOk (x 0)) : CI l yX5_holdsFor cX5_holdsFor 3 .int 7 168 G [.ref (a 0), .int (nI j), .int (nI m)] (wC G a x) (fun vR w' => vR = leastRes (x 0) 3 200 j m ∧ PubC G a (leastX x 3 200 j m) w') := by
  refine CI.mk (own := RX5) (by decide) rfl (Nat.le_of_ble_eq_true rfl) ?_
  intro X E ret
  show J X G 3 0 0 (wC G a x) [(0, .ref (a 0)), (1, .int (nI j)), (2, .int (nI m))] 0 []
  refine J_iload_n E dX5_holdsFor_0 rfl 1 rfl ?_
  refine J_cSiN E (As := [.int (nI j)]) (c_X5_isHouse l G (nI j) ) cl_X5_52 yo_X5_isHouse dX5_holdsFor_1 rfl (Nat.le_of_ble_eq_true rfl) (Nat.le_of_ble_eq_true rfl) rfl (Nat.le_of_ble_eq_true rfl) ⟨Nat.zero_le _, Nat.zero_le _⟩ ?_
  refine J_if_eq E (tgt := 16) dX5_holdsFor_4 (by decide) (fun c_4 => ?_) (fun c_4 => ?_)
  · skip
    have c_4 := bI_0 c_4
    exact absurd (inB (a := j) (b := 10) (by omega) (by decide)) c_4
  · skip
    have c_4 := bI_1 c_4
    refine J_iload_n E dX5_holdsFor_7 rfl 2 rfl ?_
    refine J_bipush E dX5_holdsFor_8 bp_40 ?_
    refine J_cSiN E (As := [.int (nI m), .int 40]) (c_X5_isUpTo l G (nI m) 40 ) cl_X5_56 yo_X5_isUpTo dX5_holdsFor_10 rfl (Nat.le_of_ble_eq_true rfl) (Nat.le_of_ble_eq_true rfl) rfl (Nat.le_of_ble_eq_true rfl) ⟨Nat.zero_le _, Nat.zero_le _⟩ ?_
    refine J_if_ne E (tgt := 22) dX5_holdsFor_13 (by decide) (fun c_13 => ?_) (fun c_13 => ?_)
    · skip
      have c_13 := bI_1 c_13
      refine J_aload_n E dX5_holdsFor_22 rfl 0 rfl ?_
      refine J_iconst E dX5_holdsFor_23 ic_3 ?_
      refine J_sipush E dX5_holdsFor_24 sp_200 ?_
      refine J_iload_n E dX5_holdsFor_27 rfl 1 rfl ?_
      refine J_iload_n E dX5_holdsFor_28 rfl 2 rfl ?_
      refine J_callVi E (As := [.int 3, .int 200, .int (nI j), .int (nI m)]) (q0 := 0) (ci := 4) [] [] (c_X5_leastFor l G a x 3 200 j m (by decide) (by decide) (by decide) hj (by omega) hsp) cl_X5_143 yo_X5_leastFor dX5_holdsFor_29 rfl rfl rfl (Nat.le_of_ble_eq_true rfl) (Nat.le_of_ble_eq_true rfl) rfl (Nat.le_of_ble_eq_true rfl) (by simp) ⟨Nat.zero_le _, Nat.zero_le _⟩ (fun vR w' hp => ?_)
      obtain ⟨rfl, x'1, rfl, hsh1⟩ := hp
      refine J_w (ws' := wC G a x'1) (by simp) ?_
      exact ret _ _ _ _ ⟨rfl, _, rfl, hsh1⟩ rfl dX5_holdsFor_32
    · skip
      have c_13 := bI_0 c_13
      exact absurd (inB (a := m) (b := 40) (by omega) (by decide)) c_13

set_option maxHeartbeats 4000000 in
set_option maxRecDepth 20000 in
theorem c_X5_needFor_bad (l : Launch) (G : GB) (a : Nat → Nat) (x : Q3) (h n : Int32) (hb : ¬ (okH h ∧ 0 ≤ n ∧ n ≤ 40)) : CI l yX5_needFor cX5_needFor 4 .int 2 41 G [.ref (a 0), .int h, .int n] (wC G a x) (fun vR w' => vR = tellR 0 ∧ PubC G a (tellX x 0) w') := by
  refine CI.mk (own := RX5) (by decide) rfl (Nat.le_of_ble_eq_true rfl) ?_
  intro X E ret
  show J X G 4 0 0 (wC G a x) [(0, .ref (a 0)), (1, .int h), (2, .int n)] 0 []
  refine J_iload_n E dX5_needFor_0 rfl 1 rfl ?_
  refine J_cSiN E (As := [.int h]) (c_X5_isHouse l G h ) cl_X5_52 yo_X5_isHouse dX5_needFor_1 rfl (Nat.le_of_ble_eq_true rfl) (Nat.le_of_ble_eq_true rfl) rfl (Nat.le_of_ble_eq_true rfl) ⟨Nat.zero_le _, Nat.zero_le _⟩ ?_
  refine J_if_eq E (tgt := 16) dX5_needFor_4 (by decide) (fun c_4 => ?_) (fun c_4 => ?_)
  · skip
    have c_4 := bI_0 c_4
    refine J_aload_n E dX5_needFor_16 rfl 0 rfl ?_
    refine J_iconst E dX5_needFor_17 ic_0 ?_
    refine J_cVi0 E (As := [.int 0]) (c_X5_tell l G a x 0 (by omega)) cl_X5_64 yo_X5_tell dX5_needFor_18 rfl rfl rfl (Nat.le_of_ble_eq_true rfl) (Nat.le_of_ble_eq_true rfl) rfl (Nat.le_of_ble_eq_true rfl) ⟨Nat.zero_le _, Nat.zero_le _⟩ ?_
    exact ret _ _ _ _ ⟨rfl, _, rfl, by intro g h2 h6; simp [upG, up3, up3R, h2, h6]⟩ rfl dX5_needFor_21
  · skip
    have c_4 := bI_1 c_4
    refine J_iload_n E dX5_needFor_7 rfl 2 rfl ?_
    refine J_bipush E dX5_needFor_8 bp_40 ?_
    refine J_cSiN E (As := [.int n, .int 40]) (c_X5_isUpTo l G n 40 ) cl_X5_56 yo_X5_isUpTo dX5_needFor_10 rfl (Nat.le_of_ble_eq_true rfl) (Nat.le_of_ble_eq_true rfl) rfl (Nat.le_of_ble_eq_true rfl) ⟨Nat.zero_le _, Nat.zero_le _⟩ ?_
    refine J_if_ne E (tgt := 22) dX5_needFor_13 (by decide) (fun c_13 => ?_) (fun c_13 => ?_)
    · skip
      have c_13 := bI_1 c_13
      exact absurd ⟨c_4, c_13⟩ hb
    · skip
      have c_13 := bI_0 c_13
      refine J_aload_n E dX5_needFor_16 rfl 0 rfl ?_
      refine J_iconst E dX5_needFor_17 ic_0 ?_
      refine J_cVi0 E (As := [.int 0]) (c_X5_tell l G a x 0 (by omega)) cl_X5_64 yo_X5_tell dX5_needFor_18 rfl rfl rfl (Nat.le_of_ble_eq_true rfl) (Nat.le_of_ble_eq_true rfl) rfl (Nat.le_of_ble_eq_true rfl) ⟨Nat.zero_le _, Nat.zero_le _⟩ ?_
      exact ret _ _ _ _ ⟨rfl, _, rfl, by intro g h2 h6; simp [upG, up3, up3R, h2, h6]⟩ rfl dX5_needFor_21

set_option maxHeartbeats 4000000 in
set_option maxRecDepth 20000 in
theorem c_X5_needFor_ok (l : Launch) (G : GB) (a : Nat → Nat) (x : Q3) (j m : Nat) (hj : j < 11) (hm : m ≤ 40) (hsp : spOk (x 0)) : CI l yX5_needFor cX5_needFor 4 .int 6 140 G [.ref (a 0), .int (nI j), .int (nI m)] (wC G a x) (fun vR w' => vR = optR (topF (fun v => decide (¬ wetW (x 0) 2 j m v = 0)) 100) ∧ PubC G a (optX x (topF (fun v => decide (¬ wetW (x 0) 2 j m v = 0)) 100)) w') := by
  refine CI.mk (own := RX5) (by decide) rfl (Nat.le_of_ble_eq_true rfl) ?_
  intro X E ret
  show J X G 4 0 0 (wC G a x) [(0, .ref (a 0)), (1, .int (nI j)), (2, .int (nI m))] 0 []
  refine J_iload_n E dX5_needFor_0 rfl 1 rfl ?_
  refine J_cSiN E (As := [.int (nI j)]) (c_X5_isHouse l G (nI j) ) cl_X5_52 yo_X5_isHouse dX5_needFor_1 rfl (Nat.le_of_ble_eq_true rfl) (Nat.le_of_ble_eq_true rfl) rfl (Nat.le_of_ble_eq_true rfl) ⟨Nat.zero_le _, Nat.zero_le _⟩ ?_
  refine J_if_eq E (tgt := 16) dX5_needFor_4 (by decide) (fun c_4 => ?_) (fun c_4 => ?_)
  · skip
    have c_4 := bI_0 c_4
    exact absurd (inB (a := j) (b := 10) (by omega) (by decide)) c_4
  · skip
    have c_4 := bI_1 c_4
    refine J_iload_n E dX5_needFor_7 rfl 2 rfl ?_
    refine J_bipush E dX5_needFor_8 bp_40 ?_
    refine J_cSiN E (As := [.int (nI m), .int 40]) (c_X5_isUpTo l G (nI m) 40 ) cl_X5_56 yo_X5_isUpTo dX5_needFor_10 rfl (Nat.le_of_ble_eq_true rfl) (Nat.le_of_ble_eq_true rfl) rfl (Nat.le_of_ble_eq_true rfl) ⟨Nat.zero_le _, Nat.zero_le _⟩ ?_
    refine J_if_ne E (tgt := 22) dX5_needFor_13 (by decide) (fun c_13 => ?_) (fun c_13 => ?_)
    · skip
      have c_13 := bI_1 c_13
      refine J_bipush E dX5_needFor_22 bp_99 ?_
      refine J_istore_n E (lv' := [(3, .int 99), (0, .ref (a 0)), (1, .int (nI j)), (2, .int (nI m))]) dX5_needFor_24 rfl (by decide) rfl ?_
      refine J_w (ws' := wC G a (upG x 2 (x 2))) (congrArg (wC G a) upG_id.symm) ?_
      have lp25 : ∀ (fu : Nat) (i : Nat) (xh : Int32) (r : Q2), (xh = nI i + (-1)) → (i ≤ 100) → (topF (fun v => decide (¬ wetW (x 0) 2 j m v = 0)) 100 = topF (fun v => decide (¬ wetW (x 0) 2 j m v = 0)) i) → i < fu → J X G 4 0 0 (wC G a (upG x 2 r)) [(0, .ref (a 0)), (1, .int (nI j)), (2, .int (nI m)), (3, .int xh)] 25 [] := by
        intro fu
        induction fu with
        | zero => intro i xh r hxh hi h1 hm; exact absurd hm (Nat.not_lt_zero _)
        | succ fu ih25 =>
          intro i xh r hxh hi h1 hm
          refine J_iload_n E dX5_needFor_25 rfl 3 rfl ?_
          refine J_if_lt E (tgt := 48) dX5_needFor_26 (by decide) (fun c_26 => ?_) (fun c_26 => ?_)
          · skip
            have hi0 := dec_neg hxh (by omega) c_26
            have h2 : topF (fun v => decide (¬ wetW (x 0) 2 j m v = 0)) 100 = none := by rw [h1, hi0]; rfl
            refine J_aload_n E dX5_needFor_48 rfl 0 rfl ?_
            refine J_iconst E dX5_needFor_49 ic_3 ?_
            refine J_cVi0 E (As := [.int 3]) (c_X5_tell l G a (upG x 2 r) 3 (by omega)) cl_X5_64 yo_X5_tell dX5_needFor_50 rfl rfl rfl (Nat.le_of_ble_eq_true rfl) (Nat.le_of_ble_eq_true rfl) rfl (Nat.le_of_ble_eq_true rfl) ⟨Nat.zero_le _, Nat.zero_le _⟩ ?_
            exact ret _ _ _ _ ⟨by rw [h2]; rfl, _, rfl, by rw [h2]; intro g h2 h6; simp [optX, tellX, upG, up3, h2]; try (intro e; subst e; rfl)⟩ rfl dX5_needFor_53
          · skip
            obtain ⟨y, rfl, rfl⟩ := dec_pos hxh (by omega) c_26
            refine J_aload_n E dX5_needFor_29 rfl 0 rfl ?_
            refine J_iconst E dX5_needFor_30 ic_2 ?_
            refine J_iload_n E dX5_needFor_31 rfl 3 rfl ?_
            refine J_iload_n E dX5_needFor_32 rfl 1 rfl ?_
            refine J_iload_n E dX5_needFor_33 rfl 2 rfl ?_
            refine J_cVi0 E (As := [.int 2, .int (nI y), .int (nI j), .int (nI m)]) (c_X5_staysWetWith l G a (upG x 2 r) 2 (nI y) j m (by decide) hj (by omega) (withQ_sp hsp (by decide) _ _)) cl_X5_147 yo_X5_staysWetWith dX5_needFor_34 rfl rfl rfl (Nat.le_of_ble_eq_true rfl) (Nat.le_of_ble_eq_true rfl) rfl (Nat.le_of_ble_eq_true rfl) ⟨Nat.zero_le _, Nat.zero_le _⟩ ?_
            refine J_if_eq E (tgt := 42) dX5_needFor_37 (by decide) (fun c_37 => ?_) (fun c_37 => ?_)
            · skip
              have c_37 : wetW (x 0) 2 j m y = 0 := c_37
              refine J_iinc E (lv' := [(3, .int ((nI y) + (-1))), (0, .ref (a 0)), (1, .int (nI j)), (2, .int (nI m))]) dX5_needFor_42 3 rfl (i_dec _) (by decide) rfl ?_
              refine J_goto E (tgt := 25) dX5_needFor_45 (by decide) ?_
              refine J_lv [1, 2, 3, 0] rfl ?_
              exact ih25 y ((nI y) + (-1)) (wetS (bitI j) j m (withQ (x 0) 2 (nI y) j)) rfl (by omega) (by rw [h1, topF_f (fun z => absurd c_37 (of_decide_eq_true z))]) (by omega)
            · skip
              have h2 : topF (fun v => decide (¬ wetW (x 0) 2 j m v = 0)) 100 = some y := by rw [h1]; exact topF_t (decide_eq_true c_37)
              refine J_iload_n E dX5_needFor_40 rfl 3 rfl ?_
              exact ret _ _ _ _ ⟨by rw [h2]; rfl, _, rfl, by rw [h2]; intro g h2 h6; simp [optX, upG, h2]⟩ rfl dX5_needFor_41
      refine J_lv [1, 2, 3, 0] rfl ?_
      exact lp25 _ 100 99 (x 2) (by decide) (by decide) rfl (Nat.lt_succ_self _)
    · skip
      have c_13 := bI_0 c_13
      exact absurd (inB (a := m) (b := 40) (by omega) (by decide)) c_13

set_option maxHeartbeats 4000000 in
set_option maxRecDepth 20000 in
theorem c_X5_kindsFor_bad (l : Launch) (G : GB) (a : Nat → Nat) (x : Q3) (h n : Int32) (hb : ¬ (okH h ∧ 0 ≤ n ∧ n ≤ 40)) : CI l yX5_kindsFor cX5_kindsFor 5 .int 2 41 G [.ref (a 0), .int h, .int n] (wC G a x) (fun vR w' => vR = tellR 0 ∧ PubC G a (tellX x 0) w') := by
  refine CI.mk (own := RX5) (by decide) rfl (Nat.le_of_ble_eq_true rfl) ?_
  intro X E ret
  show J X G 5 0 0 (wC G a x) [(0, .ref (a 0)), (1, .int h), (2, .int n)] 0 []
  refine J_iload_n E dX5_kindsFor_0 rfl 1 rfl ?_
  refine J_cSiN E (As := [.int h]) (c_X5_isHouse l G h ) cl_X5_52 yo_X5_isHouse dX5_kindsFor_1 rfl (Nat.le_of_ble_eq_true rfl) (Nat.le_of_ble_eq_true rfl) rfl (Nat.le_of_ble_eq_true rfl) ⟨Nat.zero_le _, Nat.zero_le _⟩ ?_
  refine J_if_eq E (tgt := 16) dX5_kindsFor_4 (by decide) (fun c_4 => ?_) (fun c_4 => ?_)
  · skip
    have c_4 := bI_0 c_4
    refine J_aload_n E dX5_kindsFor_16 rfl 0 rfl ?_
    refine J_iconst E dX5_kindsFor_17 ic_0 ?_
    refine J_cVi0 E (As := [.int 0]) (c_X5_tell l G a x 0 (by omega)) cl_X5_64 yo_X5_tell dX5_kindsFor_18 rfl rfl rfl (Nat.le_of_ble_eq_true rfl) (Nat.le_of_ble_eq_true rfl) rfl (Nat.le_of_ble_eq_true rfl) ⟨Nat.zero_le _, Nat.zero_le _⟩ ?_
    exact ret _ _ _ _ ⟨rfl, _, rfl, by intro g h2 h6; simp [upG, up3, up3R, h2, h6]⟩ rfl dX5_kindsFor_21
  · skip
    have c_4 := bI_1 c_4
    refine J_iload_n E dX5_kindsFor_7 rfl 2 rfl ?_
    refine J_bipush E dX5_kindsFor_8 bp_40 ?_
    refine J_cSiN E (As := [.int n, .int 40]) (c_X5_isUpTo l G n 40 ) cl_X5_56 yo_X5_isUpTo dX5_kindsFor_10 rfl (Nat.le_of_ble_eq_true rfl) (Nat.le_of_ble_eq_true rfl) rfl (Nat.le_of_ble_eq_true rfl) ⟨Nat.zero_le _, Nat.zero_le _⟩ ?_
    refine J_if_ne E (tgt := 22) dX5_kindsFor_13 (by decide) (fun c_13 => ?_) (fun c_13 => ?_)
    · skip
      have c_13 := bI_1 c_13
      exact absurd ⟨c_4, c_13⟩ hb
    · skip
      have c_13 := bI_0 c_13
      refine J_aload_n E dX5_kindsFor_16 rfl 0 rfl ?_
      refine J_iconst E dX5_kindsFor_17 ic_0 ?_
      refine J_cVi0 E (As := [.int 0]) (c_X5_tell l G a x 0 (by omega)) cl_X5_64 yo_X5_tell dX5_kindsFor_18 rfl rfl rfl (Nat.le_of_ble_eq_true rfl) (Nat.le_of_ble_eq_true rfl) rfl (Nat.le_of_ble_eq_true rfl) ⟨Nat.zero_le _, Nat.zero_le _⟩ ?_
      exact ret _ _ _ _ ⟨rfl, _, rfl, by intro g h2 h6; simp [upG, up3, up3R, h2, h6]⟩ rfl dX5_kindsFor_21

set_option maxHeartbeats 4000000 in
set_option maxRecDepth 20000 in
theorem c_X5_kindsFor_ok (l : Launch) (G : GB) (a : Nat → Nat) (x : Q3) (j m : Nat) (hj : j < 11) (hm : m ≤ 40) (hsp : spOk (x 0)) : CI l yX5_kindsFor cX5_kindsFor 5 .int 6 140 G [.ref (a 0), .int (nI j), .int (nI m)] (wC G a x) (fun vR w' => vR = setF (fun v => decide (¬ wetW (x 0) 0 j m v = 0)) 7 ∧ PubC G a x w') := by
  refine CI.mk (own := RX5) (by decide) rfl (Nat.le_of_ble_eq_true rfl) ?_
  intro X E ret
  show J X G 5 0 0 (wC G a x) [(0, .ref (a 0)), (1, .int (nI j)), (2, .int (nI m))] 0 []
  refine J_iload_n E dX5_kindsFor_0 rfl 1 rfl ?_
  refine J_cSiN E (As := [.int (nI j)]) (c_X5_isHouse l G (nI j) ) cl_X5_52 yo_X5_isHouse dX5_kindsFor_1 rfl (Nat.le_of_ble_eq_true rfl) (Nat.le_of_ble_eq_true rfl) rfl (Nat.le_of_ble_eq_true rfl) ⟨Nat.zero_le _, Nat.zero_le _⟩ ?_
  refine J_if_eq E (tgt := 16) dX5_kindsFor_4 (by decide) (fun c_4 => ?_) (fun c_4 => ?_)
  · skip
    have c_4 := bI_0 c_4
    exact absurd (inB (a := j) (b := 10) (by omega) (by decide)) c_4
  · skip
    have c_4 := bI_1 c_4
    refine J_iload_n E dX5_kindsFor_7 rfl 2 rfl ?_
    refine J_bipush E dX5_kindsFor_8 bp_40 ?_
    refine J_cSiN E (As := [.int (nI m), .int 40]) (c_X5_isUpTo l G (nI m) 40 ) cl_X5_56 yo_X5_isUpTo dX5_kindsFor_10 rfl (Nat.le_of_ble_eq_true rfl) (Nat.le_of_ble_eq_true rfl) rfl (Nat.le_of_ble_eq_true rfl) ⟨Nat.zero_le _, Nat.zero_le _⟩ ?_
    refine J_if_ne E (tgt := 22) dX5_kindsFor_13 (by decide) (fun c_13 => ?_) (fun c_13 => ?_)
    · skip
      have c_13 := bI_1 c_13
      refine J_iconst E dX5_kindsFor_22 ic_0 ?_
      refine J_istore_n E (lv' := [(3, .int 0), (0, .ref (a 0)), (1, .int (nI j)), (2, .int (nI m))]) dX5_kindsFor_23 rfl (by decide) rfl ?_
      refine J_iconst E dX5_kindsFor_24 ic_0 ?_
      refine J_istore E (lv' := [(4, .int 0), (3, .int 0), (0, .ref (a 0)), (1, .int (nI j)), (2, .int (nI m))]) dX5_kindsFor_25 (by decide) rfl ?_
      refine J_w (ws' := wC G a (upG x 2 (x 2))) (congrArg (wC G a) upG_id.symm) ?_
      have lp27 : ∀ (fu : Nat) (i : Nat) (s : Int32) (r : Q2), (i ≤ 7) → (s = setF (fun v => decide (¬ wetW (x 0) 0 j m v = 0)) i) → 7 - i < fu → J X G 5 0 0 (wC G a (upG x 2 r)) [(0, .ref (a 0)), (1, .int (nI j)), (2, .int (nI m)), (3, .int s), (4, .int (nI i))] 27 [] := by
        intro fu
        induction fu with
        | zero => intro i s r hi h1 hm; exact absurd hm (Nat.not_lt_zero _)
        | succ fu ih27 =>
          intro i s r hi h1 hm
          refine J_iload E dX5_kindsFor_27 4 rfl ?_
          refine J_bipush E dX5_kindsFor_29 bp_7 ?_
          refine J_icmp_ge E (tgt := 59) dX5_kindsFor_31 (by decide) (fun c_31 => ?_) (fun c_31 => ?_)
          · skip
            have n_31 : 7 ≤ i := cmp_le (a := 7) (b := i) (by omega) (by omega) c_31
            refine J_iload_n E dX5_kindsFor_59 rfl 3 rfl ?_
            exact ret _ _ _ _ ⟨by rw [h1, show i = 7 by omega], _, rfl, by intro g h2 h6; simp [upG, up3, up3R, h2, h6]⟩ rfl dX5_kindsFor_60
          · skip
            have n_31 : ¬ 7 ≤ i := cmp_nle (a := 7) (b := i) (by omega) (by omega) c_31
            refine J_aload_n E dX5_kindsFor_34 rfl 0 rfl ?_
            refine J_iconst E dX5_kindsFor_35 ic_0 ?_
            refine J_iload E dX5_kindsFor_36 4 rfl ?_
            refine J_iload_n E dX5_kindsFor_38 rfl 1 rfl ?_
            refine J_iload_n E dX5_kindsFor_39 rfl 2 rfl ?_
            refine J_cVi0 E (As := [.int 0, .int (nI i), .int (nI j), .int (nI m)]) (c_X5_staysWetWith l G a (upG x 2 r) 0 (nI i) j m (by decide) hj (by omega) (withQ_sp hsp (by decide) _ _)) cl_X5_147 yo_X5_staysWetWith dX5_kindsFor_40 rfl rfl rfl (Nat.le_of_ble_eq_true rfl) (Nat.le_of_ble_eq_true rfl) rfl (Nat.le_of_ble_eq_true rfl) ⟨Nat.zero_le _, Nat.zero_le _⟩ ?_
            refine J_if_eq E (tgt := 53) dX5_kindsFor_43 (by decide) (fun c_43 => ?_) (fun c_43 => ?_)
            · skip
              have c_43 : wetW (x 0) 0 j m i = 0 := c_43
              refine J_iinc E (lv' := [(4, .int (nI (i + 1))), (0, .ref (a 0)), (1, .int (nI j)), (2, .int (nI m)), (3, .int s)]) dX5_kindsFor_53 4 rfl (nI_inc _) (by decide) rfl ?_
              refine J_goto E (tgt := 27) dX5_kindsFor_56 (by decide) ?_
              refine J_lv [1, 2, 3, 4, 0] rfl ?_
              exact ih27 (i + 1) s (wetS (bitI j) j m (withQ (x 0) 0 (nI i) j)) (by omega) (by rw [h1, setF]; first | (rw [if_pos (decide_eq_true c_43)]; rfl) | rw [if_neg (c := decide (¬ wetW (x 0) 0 j m i = 0) = true) (fun z => absurd c_43 (of_decide_eq_true z))]) (by omega)
            · skip
              have c_43 : ¬ wetW (x 0) 0 j m i = 0 := c_43
              refine J_iload_n E dX5_kindsFor_46 rfl 3 rfl ?_
              refine J_iconst E dX5_kindsFor_47 ic_1 ?_
              refine J_iload E dX5_kindsFor_48 4 rfl ?_
              refine J_ishl E dX5_kindsFor_50 ?_
              refine J_ior E dX5_kindsFor_51 ?_
              refine J_istore_n E (lv' := [(3, .int (s ||| (1 <<< ((nI i) &&& 31)))), (0, .ref (a 0)), (1, .int (nI j)), (2, .int (nI m)), (4, .int (nI i))]) dX5_kindsFor_52 rfl (by decide) rfl ?_
              refine J_iinc E (lv' := [(4, .int (nI (i + 1))), (3, .int (s ||| (1 <<< ((nI i) &&& 31)))), (0, .ref (a 0)), (1, .int (nI j)), (2, .int (nI m))]) dX5_kindsFor_53 4 rfl (nI_inc _) (by decide) rfl ?_
              refine J_goto E (tgt := 27) dX5_kindsFor_56 (by decide) ?_
              refine J_lv [2, 3, 4, 1, 0] rfl ?_
              exact ih27 (i + 1) (s ||| (1 <<< ((nI i) &&& 31))) (wetS (bitI j) j m (withQ (x 0) 0 (nI i) j)) (by omega) (by rw [h1, setF]; first | (rw [if_pos (decide_eq_true c_43)]; rfl) | rw [if_neg (c := decide (¬ wetW (x 0) 0 j m i = 0) = true) (fun z => absurd c_43 (of_decide_eq_true z))]) (by omega)
      refine J_lv [2, 3, 4, 1, 0] rfl ?_
      exact lp27 _ 0 0 (x 2) (by omega) rfl (Nat.lt_succ_self _)
    · skip
      have c_13 := bI_0 c_13
      exact absurd (inB (a := m) (b := 40) (by omega) (by decide)) c_13

set_option maxHeartbeats 4000000 in
set_option maxRecDepth 20000 in
theorem c_X5_kindFor_bad (l : Launch) (G : GB) (a : Nat → Nat) (x : Q3) (h n : Int32) (hb : ¬ (okH h ∧ 0 ≤ n ∧ n ≤ 40)) : CI l yX5_kindFor cX5_kindFor 6 .int 2 41 G [.ref (a 0), .int h, .int n] (wC G a x) (fun vR w' => vR = tellR 0 ∧ PubC G a (tellX x 0) w') := by
  refine CI.mk (own := RX5) (by decide) rfl (Nat.le_of_ble_eq_true rfl) ?_
  intro X E ret
  show J X G 6 0 0 (wC G a x) [(0, .ref (a 0)), (1, .int h), (2, .int n)] 0 []
  refine J_iload_n E dX5_kindFor_0 rfl 1 rfl ?_
  refine J_cSiN E (As := [.int h]) (c_X5_isHouse l G h ) cl_X5_52 yo_X5_isHouse dX5_kindFor_1 rfl (Nat.le_of_ble_eq_true rfl) (Nat.le_of_ble_eq_true rfl) rfl (Nat.le_of_ble_eq_true rfl) ⟨Nat.zero_le _, Nat.zero_le _⟩ ?_
  refine J_if_eq E (tgt := 16) dX5_kindFor_4 (by decide) (fun c_4 => ?_) (fun c_4 => ?_)
  · skip
    have c_4 := bI_0 c_4
    refine J_aload_n E dX5_kindFor_16 rfl 0 rfl ?_
    refine J_iconst E dX5_kindFor_17 ic_0 ?_
    refine J_cVi0 E (As := [.int 0]) (c_X5_tell l G a x 0 (by omega)) cl_X5_64 yo_X5_tell dX5_kindFor_18 rfl rfl rfl (Nat.le_of_ble_eq_true rfl) (Nat.le_of_ble_eq_true rfl) rfl (Nat.le_of_ble_eq_true rfl) ⟨Nat.zero_le _, Nat.zero_le _⟩ ?_
    exact ret _ _ _ _ ⟨rfl, _, rfl, by intro g h2 h6; simp [upG, up3, up3R, h2, h6]⟩ rfl dX5_kindFor_21
  · skip
    have c_4 := bI_1 c_4
    refine J_iload_n E dX5_kindFor_7 rfl 2 rfl ?_
    refine J_bipush E dX5_kindFor_8 bp_40 ?_
    refine J_cSiN E (As := [.int n, .int 40]) (c_X5_isUpTo l G n 40 ) cl_X5_56 yo_X5_isUpTo dX5_kindFor_10 rfl (Nat.le_of_ble_eq_true rfl) (Nat.le_of_ble_eq_true rfl) rfl (Nat.le_of_ble_eq_true rfl) ⟨Nat.zero_le _, Nat.zero_le _⟩ ?_
    refine J_if_ne E (tgt := 22) dX5_kindFor_13 (by decide) (fun c_13 => ?_) (fun c_13 => ?_)
    · skip
      have c_13 := bI_1 c_13
      exact absurd ⟨c_4, c_13⟩ hb
    · skip
      have c_13 := bI_0 c_13
      refine J_aload_n E dX5_kindFor_16 rfl 0 rfl ?_
      refine J_iconst E dX5_kindFor_17 ic_0 ?_
      refine J_cVi0 E (As := [.int 0]) (c_X5_tell l G a x 0 (by omega)) cl_X5_64 yo_X5_tell dX5_kindFor_18 rfl rfl rfl (Nat.le_of_ble_eq_true rfl) (Nat.le_of_ble_eq_true rfl) rfl (Nat.le_of_ble_eq_true rfl) ⟨Nat.zero_le _, Nat.zero_le _⟩ ?_
      exact ret _ _ _ _ ⟨rfl, _, rfl, by intro g h2 h6; simp [upG, up3, up3R, h2, h6]⟩ rfl dX5_kindFor_21

set_option maxHeartbeats 4000000 in
set_option maxRecDepth 20000 in
theorem c_X5_kindFor_ok (l : Launch) (G : GB) (a : Nat → Nat) (x : Q3) (j m : Nat) (hj : j < 11) (hm : m ≤ 40) (hsp : spOk (x 0)) : CI l yX5_kindFor cX5_kindFor 6 .int 5 116 G [.ref (a 0), .int (nI j), .int (nI m)] (wC G a x) (fun vR w' => vR = nI (argF (fun k => hoursM (withQ (x 0) 0 (nI k) j) 10 m 7 3) 7).2 ∧ PubC G a x w') := by
  refine CI.mk (own := RX5) (by decide) rfl (Nat.le_of_ble_eq_true rfl) ?_
  intro X E ret
  show J X G 6 0 0 (wC G a x) [(0, .ref (a 0)), (1, .int (nI j)), (2, .int (nI m))] 0 []
  refine J_iload_n E dX5_kindFor_0 rfl 1 rfl ?_
  refine J_cSiN E (As := [.int (nI j)]) (c_X5_isHouse l G (nI j) ) cl_X5_52 yo_X5_isHouse dX5_kindFor_1 rfl (Nat.le_of_ble_eq_true rfl) (Nat.le_of_ble_eq_true rfl) rfl (Nat.le_of_ble_eq_true rfl) ⟨Nat.zero_le _, Nat.zero_le _⟩ ?_
  refine J_if_eq E (tgt := 16) dX5_kindFor_4 (by decide) (fun c_4 => ?_) (fun c_4 => ?_)
  · skip
    have c_4 := bI_0 c_4
    exact absurd (inB (a := j) (b := 10) (by omega) (by decide)) c_4
  · skip
    have c_4 := bI_1 c_4
    refine J_iload_n E dX5_kindFor_7 rfl 2 rfl ?_
    refine J_bipush E dX5_kindFor_8 bp_40 ?_
    refine J_cSiN E (As := [.int (nI m), .int 40]) (c_X5_isUpTo l G (nI m) 40 ) cl_X5_56 yo_X5_isUpTo dX5_kindFor_10 rfl (Nat.le_of_ble_eq_true rfl) (Nat.le_of_ble_eq_true rfl) rfl (Nat.le_of_ble_eq_true rfl) ⟨Nat.zero_le _, Nat.zero_le _⟩ ?_
    refine J_if_ne E (tgt := 22) dX5_kindFor_13 (by decide) (fun c_13 => ?_) (fun c_13 => ?_)
    · skip
      have c_13 := bI_1 c_13
      refine J_iconst E dX5_kindFor_22 ic_m1 ?_
      refine J_istore_n E (lv' := [(3, .int (-1)), (0, .ref (a 0)), (1, .int (nI j)), (2, .int (nI m))]) dX5_kindFor_23 rfl (by decide) rfl ?_
      refine J_iconst E dX5_kindFor_24 ic_0 ?_
      refine J_istore E (lv' := [(4, .int 0), (3, .int (-1)), (0, .ref (a 0)), (1, .int (nI j)), (2, .int (nI m))]) dX5_kindFor_25 (by decide) rfl ?_
      refine J_iconst E dX5_kindFor_27 ic_0 ?_
      refine J_istore E (lv' := [(5, .int 0), (4, .int 0), (3, .int (-1)), (0, .ref (a 0)), (1, .int (nI j)), (2, .int (nI m))]) dX5_kindFor_28 (by decide) rfl ?_
      refine J_w (ws' := wC G a (upG x 2 (x 2))) (congrArg (wC G a) upG_id.symm) ?_
      have lp30 : ∀ (fu : Nat) (i : Nat) (mo : Int32) (b : Nat) (r : Q2), (i ≤ 7) → (mo = (argF (fun k => hoursM (withQ (x 0) 0 (nI k) j) 10 m 7 3) i).1) → (b = (argF (fun k => hoursM (withQ (x 0) 0 (nI k) j) 10 m 7 3) i).2) → 7 - i < fu → J X G 6 0 0 (wC G a (upG x 2 r)) [(0, .ref (a 0)), (1, .int (nI j)), (2, .int (nI m)), (3, .int mo), (4, .int (nI b)), (5, .int (nI i))] 30 [] := by
        intro fu
        induction fu with
        | zero => intro i mo b r hi hmo hbb hm; exact absurd hm (Nat.not_lt_zero _)
        | succ fu ih30 =>
          intro i mo b r hi hmo hbb hm
          refine J_iload E dX5_kindFor_30 5 rfl ?_
          refine J_bipush E dX5_kindFor_32 bp_7 ?_
          refine J_icmp_ge E (tgt := 85) dX5_kindFor_34 (by decide) (fun c_34 => ?_) (fun c_34 => ?_)
          · skip
            have n_34 : 7 ≤ i := cmp_le (a := 7) (b := i) (by omega) (by omega) c_34
            refine J_iload E dX5_kindFor_85 4 rfl ?_
            exact ret _ _ _ _ ⟨by rw [hbb, show i = 7 by omega], _, rfl, by intro g h2 h6; simp [upG, up3, up3R, h2, h6]⟩ rfl dX5_kindFor_87
          · skip
            have n_34 : ¬ 7 ≤ i := cmp_nle (a := 7) (b := i) (by omega) (by omega) c_34
            refine J_aload_n E dX5_kindFor_37 rfl 0 rfl ?_
            refine J_iconst E dX5_kindFor_38 ic_0 ?_
            refine J_iload E dX5_kindFor_39 5 rfl ?_
            refine J_iload_n E dX5_kindFor_41 rfl 1 rfl ?_
            refine J_cVv0 E (As := [.int 0, .int (nI i), .int (nI j)]) (c_X5_tryWith l G a (upG x 2 r) 0 (nI i) j (by decide) hj) cl_X5_151 yo_X5_tryWith dX5_kindFor_42 rfl rfl rfl (Nat.le_of_ble_eq_true rfl) (Nat.le_of_ble_eq_true rfl) rfl (Nat.le_of_ble_eq_true rfl) ⟨Nat.zero_le _, Nat.zero_le _⟩ ?_
            refine J_aload_n E dX5_kindFor_45 rfl 0 rfl ?_
            refine gC0_X5_19 E dX5_kindFor_46 ?_
            refine J_iload_n E dX5_kindFor_49 rfl 2 rfl ?_
            refine J_bipush E dX5_kindFor_50 bp_10 ?_
            refine J_si2 E (As := [.int (nI m), .int 10]) (c_X1_passHours l G (sh a 17) (withQ (x 0) 0 (nI i) j) m 10 (by omega) (by decide) (withQ_sp hsp (by decide) _ _)) cl_X5_110 yo_X1_passHours dX5_kindFor_52 rfl (Nat.le_of_ble_eq_true rfl) (Nat.le_of_ble_eq_true rfl) rfl (Nat.le_of_ble_eq_true rfl) ⟨Nat.zero_le _, Nat.zero_le _⟩ ?_
            refine J_pop E dX5_kindFor_55 rfl ?_
            refine J_aload_n E dX5_kindFor_56 rfl 0 rfl ?_
            refine gC0_X5_19 E dX5_kindFor_57 ?_
            refine gC17_X5_114 E dX5_kindFor_60 ?_
            refine J_top (x' := (hoursM (withQ (x 0) 0 (nI i) j) 10 m) 7 3) upG_s ?_
            refine J_iload_n E dX5_kindFor_63 rfl 3 rfl ?_
            refine J_icmp_le E (tgt := 79) dX5_kindFor_64 (by decide) (fun c_64 => ?_) (fun c_64 => ?_)
            · skip
              refine J_iinc E (lv' := [(5, .int (nI (i + 1))), (0, .ref (a 0)), (1, .int (nI j)), (2, .int (nI m)), (3, .int mo), (4, .int (nI b))]) dX5_kindFor_79 5 rfl (nI_inc _) (by decide) rfl ?_
              refine J_goto E (tgt := 30) dX5_kindFor_82 (by decide) ?_
              refine J_lv [1, 2, 3, 4, 5, 0] rfl ?_
              exact ih30 (i + 1) mo b (hoursM (withQ (x 0) 0 (nI i) j) 10 m) (by omega) (by first | rw [argF_t (by rw [← hmo]; exact Int32.not_le.mp c_64)] | (rw [argF_f (by rw [← hmo]; exact Int32.not_lt.mpr c_64)]; exact hmo)) (by first | rw [argF_t (by rw [← hmo]; exact Int32.not_le.mp c_64)] | (rw [argF_f (by rw [← hmo]; exact Int32.not_lt.mpr c_64)]; exact hbb)) (by omega)
            · skip
              refine J_aload_n E dX5_kindFor_67 rfl 0 rfl ?_
              refine gC0_X5_19 E dX5_kindFor_68 ?_
              refine gC17_X5_114 E dX5_kindFor_71 ?_
              refine J_top (x' := (hoursM (withQ (x 0) 0 (nI i) j) 10 m) 7 3) upG_s ?_
              refine J_istore_n E (lv' := [(3, .int ((hoursM (withQ (x 0) 0 (nI i) j) 10 m) 7 3)), (0, .ref (a 0)), (1, .int (nI j)), (2, .int (nI m)), (4, .int (nI b)), (5, .int (nI i))]) dX5_kindFor_74 rfl (by decide) rfl ?_
              refine J_iload E dX5_kindFor_75 5 rfl ?_
              refine J_istore E (lv' := [(4, .int (nI i)), (3, .int ((hoursM (withQ (x 0) 0 (nI i) j) 10 m) 7 3)), (0, .ref (a 0)), (1, .int (nI j)), (2, .int (nI m)), (5, .int (nI i))]) dX5_kindFor_77 (by decide) rfl ?_
              refine J_iinc E (lv' := [(5, .int (nI (i + 1))), (4, .int (nI i)), (3, .int ((hoursM (withQ (x 0) 0 (nI i) j) 10 m) 7 3)), (0, .ref (a 0)), (1, .int (nI j)), (2, .int (nI m))]) dX5_kindFor_79 5 rfl (nI_inc _) (by decide) rfl ?_
              refine J_goto E (tgt := 30) dX5_kindFor_82 (by decide) ?_
              refine J_lv [3, 4, 5, 2, 1, 0] rfl ?_
              exact ih30 (i + 1) ((hoursM (withQ (x 0) 0 (nI i) j) 10 m) 7 3) i (hoursM (withQ (x 0) 0 (nI i) j) 10 m) (by omega) (by first | rw [argF_t (by rw [← hmo]; exact Int32.not_le.mp c_64)] | (rw [argF_f (by rw [← hmo]; exact Int32.not_lt.mpr c_64)]; exact hmo)) (by first | rw [argF_t (by rw [← hmo]; exact Int32.not_le.mp c_64)] | (rw [argF_f (by rw [← hmo]; exact Int32.not_lt.mpr c_64)]; exact hbb)) (by omega)
      refine J_lv [3, 4, 5, 2, 1, 0] rfl ?_
      exact lp30 _ 0 (-1) 0 (x 2) (by omega) rfl rfl (Nat.lt_succ_self _)
    · skip
      have c_13 := bI_0 c_13
      exact absurd (inB (a := m) (b := 40) (by omega) (by decide)) c_13

set_option maxHeartbeats 4000000 in
set_option maxRecDepth 20000 in
theorem c_X5_best_bad (l : Launch) (G : GB) (a : Nat → Nat) (x : Q3) (n : Int32) (hb : ¬ (0 ≤ n ∧ n ≤ 40)) : CI l yX5_best cX5_best 6 .int 1 21 G [.ref (a 0), .int n] (wC G a x) (fun vR w' => vR = tellR 0 ∧ PubC G a (tellX x 0) w') := by
  refine CI.mk (own := RX5) (by decide) rfl (Nat.le_of_ble_eq_true rfl) ?_
  intro X E ret
  show J X G 6 0 0 (wC G a x) [(0, .ref (a 0)), (1, .int n)] 0 []
  refine J_iload_n E dX5_best_0 rfl 1 rfl ?_
  refine J_bipush E dX5_best_1 bp_40 ?_
  refine J_cSiN E (As := [.int n, .int 40]) (c_X5_isUpTo l G n 40 ) cl_X5_56 yo_X5_isUpTo dX5_best_3 rfl (Nat.le_of_ble_eq_true rfl) (Nat.le_of_ble_eq_true rfl) rfl (Nat.le_of_ble_eq_true rfl) ⟨Nat.zero_le _, Nat.zero_le _⟩ ?_
  refine J_if_ne E (tgt := 15) dX5_best_6 (by decide) (fun c_6 => ?_) (fun c_6 => ?_)
  · skip
    have c_6 := bI_1 c_6
    exact absurd c_6 hb
  · skip
    have c_6 := bI_0 c_6
    refine J_aload_n E dX5_best_9 rfl 0 rfl ?_
    refine J_iconst E dX5_best_10 ic_0 ?_
    refine J_cVi0 E (As := [.int 0]) (c_X5_tell l G a x 0 (by omega)) cl_X5_64 yo_X5_tell dX5_best_11 rfl rfl rfl (Nat.le_of_ble_eq_true rfl) (Nat.le_of_ble_eq_true rfl) rfl (Nat.le_of_ble_eq_true rfl) ⟨Nat.zero_le _, Nat.zero_le _⟩ ?_
    exact ret _ _ _ _ ⟨rfl, _, rfl, by intro g h2 h6; simp [upG, up3, up3R, h2, h6]⟩ rfl dX5_best_14

set_option maxHeartbeats 4000000 in
set_option maxRecDepth 20000 in
theorem c_X5_best_ok (l : Launch) (G : GB) (a : Nat → Nat) (x : Q3) (m : Nat) (hm : m ≤ 40) (hsp : spOk (x 0)) : CI l yX5_best cX5_best 6 .int 5 116 G [.ref (a 0), .int (nI m)] (wC G a x) (fun vR w' => vR = nI (minF (fun o => bcF (drysM (turnQ (x 0) (bitI o)) 10 m)) 11).2 ∧ PubC G a x w') := by
  refine CI.mk (own := RX5) (by decide) rfl (Nat.le_of_ble_eq_true rfl) ?_
  intro X E ret
  show J X G 6 0 0 (wC G a x) [(0, .ref (a 0)), (1, .int (nI m))] 0 []
  refine J_iload_n E dX5_best_0 rfl 1 rfl ?_
  refine J_bipush E dX5_best_1 bp_40 ?_
  refine J_cSiN E (As := [.int (nI m), .int 40]) (c_X5_isUpTo l G (nI m) 40 ) cl_X5_56 yo_X5_isUpTo dX5_best_3 rfl (Nat.le_of_ble_eq_true rfl) (Nat.le_of_ble_eq_true rfl) rfl (Nat.le_of_ble_eq_true rfl) ⟨Nat.zero_le _, Nat.zero_le _⟩ ?_
  refine J_if_ne E (tgt := 15) dX5_best_6 (by decide) (fun c_6 => ?_) (fun c_6 => ?_)
  · skip
    have c_6 := bI_1 c_6
    refine J_bipush E dX5_best_15 bp_12 ?_
    refine J_istore_n E (lv' := [(2, .int 12), (0, .ref (a 0)), (1, .int (nI m))]) dX5_best_17 rfl (by decide) rfl ?_
    refine J_iconst E dX5_best_18 ic_0 ?_
    refine J_istore_n E (lv' := [(3, .int 0), (2, .int 12), (0, .ref (a 0)), (1, .int (nI m))]) dX5_best_19 rfl (by decide) rfl ?_
    refine J_iconst E dX5_best_20 ic_0 ?_
    refine J_istore E (lv' := [(4, .int 0), (3, .int 0), (2, .int 12), (0, .ref (a 0)), (1, .int (nI m))]) dX5_best_21 (by decide) rfl ?_
    refine J_w (ws' := wC G a (upG x 2 (x 2))) (congrArg (wC G a) upG_id.symm) ?_
    have lp23 : ∀ (fu : Nat) (i : Nat) (mo : Int32) (b : Nat) (r : Q2), (i ≤ 11) → (mo = (minF (fun o => bcF (drysM (turnQ (x 0) (bitI o)) 10 m)) i).1) → (b = (minF (fun o => bcF (drysM (turnQ (x 0) (bitI o)) 10 m)) i).2) → 11 - i < fu → J X G 6 0 0 (wC G a (upG x 2 r)) [(0, .ref (a 0)), (1, .int (nI m)), (2, .int mo), (3, .int (nI b)), (4, .int (nI i))] 23 [] := by
      intro fu
      induction fu with
      | zero => intro i mo b r hi hmo hbb hm; exact absurd hm (Nat.not_lt_zero _)
      | succ fu ih23 =>
        intro i mo b r hi hmo hbb hm
        refine J_iload E dX5_best_23 4 rfl ?_
        refine J_bipush E dX5_best_25 bp_11 ?_
        refine J_icmp_ge E (tgt := 71) dX5_best_27 (by decide) (fun c_27 => ?_) (fun c_27 => ?_)
        · skip
          have n_27 : 11 ≤ i := cmp_le (a := 11) (b := i) (by omega) (by omega) c_27
          refine J_iload_n E dX5_best_71 rfl 3 rfl ?_
          exact ret _ _ _ _ ⟨by rw [hbb, show i = 11 by omega], _, rfl, by intro g h2 h6; simp [upG, up3, up3R, h2, h6]⟩ rfl dX5_best_72
        · skip
          have n_27 : ¬ 11 ≤ i := cmp_nle (a := 11) (b := i) (by omega) (by omega) c_27
          refine J_aload_n E dX5_best_30 rfl 0 rfl ?_
          refine J_iconst E dX5_best_31 ic_1 ?_
          refine J_iload E dX5_best_32 4 rfl ?_
          refine J_ishl E dX5_best_34 ?_
          refine J_top (x' := bitI i) (rfl) ?_
          refine J_cVv0 E (As := [.int (bitI i)]) (c_X5_tryTurned l G a (upG x 2 r) (bitI i) ) cl_X5_166 yo_X5_tryTurned dX5_best_35 rfl rfl rfl (Nat.le_of_ble_eq_true rfl) (Nat.le_of_ble_eq_true rfl) rfl (Nat.le_of_ble_eq_true rfl) ⟨Nat.zero_le _, Nat.zero_le _⟩ ?_
          refine J_aload_n E dX5_best_38 rfl 0 rfl ?_
          refine gC0_X5_19 E dX5_best_39 ?_
          refine J_iload_n E dX5_best_42 rfl 1 rfl ?_
          refine J_bipush E dX5_best_43 bp_10 ?_
          refine J_si2 E (As := [.int (nI m), .int 10]) (c_X1_passHours l G (sh a 17) (turnQ (x 0) (bitI i)) m 10 (by omega) (by decide) (turnQ_sp hsp _)) cl_X5_110 yo_X1_passHours dX5_best_45 rfl (Nat.le_of_ble_eq_true rfl) (Nat.le_of_ble_eq_true rfl) rfl (Nat.le_of_ble_eq_true rfl) ⟨Nat.zero_le _, Nat.zero_le _⟩ ?_
          refine J_cSiN E (As := [.int (drysM (turnQ (x 0) (bitI i)) 10 m)]) (c_J6_bitCount_0f7a4 l G (drysM (turnQ (x 0) (bitI i)) 10 m) ) cl_X5_158 yo_J6_bitCount_0f7a4 dX5_best_48 rfl (Nat.le_of_ble_eq_true rfl) (Nat.le_of_ble_eq_true rfl) rfl (Nat.le_of_ble_eq_true rfl) ⟨Nat.zero_le _, Nat.zero_le _⟩ ?_
          refine J_istore E (lv' := [(5, .int (bcF (drysM (turnQ (x 0) (bitI i)) 10 m))), (0, .ref (a 0)), (1, .int (nI m)), (2, .int mo), (3, .int (nI b)), (4, .int (nI i))]) dX5_best_51 (by decide) rfl ?_
          refine J_iload E dX5_best_53 0 rfl ?_
          refine J_iload_n E dX5_best_55 rfl 3 rfl ?_
          refine J_icmp_ge E (tgt := 65) dX5_best_56 (by decide) (fun c_56 => ?_) (fun c_56 => ?_)
          · skip
            refine J_iinc E (lv' := [(4, .int (nI (i + 1))), (5, .int (bcF (drysM (turnQ (x 0) (bitI i)) 10 m))), (0, .ref (a 0)), (1, .int (nI m)), (2, .int mo), (3, .int (nI b))]) dX5_best_65 5 rfl (nI_inc _) (by decide) rfl ?_
            refine J_goto E (tgt := 23) dX5_best_68 (by decide) ?_
            refine J_lv [2, 3, 4, 5, 0] rfl ?_
            exact ih23 (i + 1) mo b (hoursM (turnQ (x 0) (bitI i)) 10 m) (by omega) (by first | rw [minF_t (by rw [← hmo]; exact Int32.not_le.mp c_56)] | (rw [minF_f (by rw [← hmo]; exact Int32.not_lt.mpr c_56)]; exact hmo)) (by first | rw [minF_t (by rw [← hmo]; exact Int32.not_le.mp c_56)] | (rw [minF_f (by rw [← hmo]; exact Int32.not_lt.mpr c_56)]; exact hbb)) (by omega)
          · skip
            refine J_iload E dX5_best_59 0 rfl ?_
            refine J_istore_n E (lv' := [(2, .int (bcF (drysM (turnQ (x 0) (bitI i)) 10 m))), (5, .int (bcF (drysM (turnQ (x 0) (bitI i)) 10 m))), (0, .ref (a 0)), (1, .int (nI m)), (3, .int (nI b)), (4, .int (nI i))]) dX5_best_61 rfl (by decide) rfl ?_
            refine J_iload E dX5_best_62 5 rfl ?_
            refine J_istore_n E (lv' := [(3, .int (nI i)), (2, .int (bcF (drysM (turnQ (x 0) (bitI i)) 10 m))), (5, .int (bcF (drysM (turnQ (x 0) (bitI i)) 10 m))), (0, .ref (a 0)), (1, .int (nI m)), (4, .int (nI i))]) dX5_best_64 rfl (by decide) rfl ?_
            refine J_iinc E (lv' := [(4, .int (nI (i + 1))), (3, .int (nI i)), (2, .int (bcF (drysM (turnQ (x 0) (bitI i)) 10 m))), (5, .int (bcF (drysM (turnQ (x 0) (bitI i)) 10 m))), (0, .ref (a 0)), (1, .int (nI m))]) dX5_best_65 5 rfl (nI_inc _) (by decide) rfl ?_
            refine J_goto E (tgt := 23) dX5_best_68 (by decide) ?_
            refine J_lv [4, 5, 2, 1, 0] rfl ?_
            exact ih23 (i + 1) (bcF (drysM (turnQ (x 0) (bitI i)) 10 m)) i (hoursM (turnQ (x 0) (bitI i)) 10 m) (by omega) (by first | rw [minF_t (by rw [← hmo]; exact Int32.not_le.mp c_56)] | (rw [minF_f (by rw [← hmo]; exact Int32.not_lt.mpr c_56)]; exact hmo)) (by first | rw [minF_t (by rw [← hmo]; exact Int32.not_le.mp c_56)] | (rw [minF_f (by rw [← hmo]; exact Int32.not_lt.mpr c_56)]; exact hbb)) (by omega)
    refine J_lv [3, 4, 2, 1, 0] rfl ?_
    exact lp23 _ 0 12 0 (x 2) (by omega) rfl rfl (Nat.lt_succ_self _)
  · skip
    have c_6 := bI_0 c_6
    exact absurd (inB (a := m) (b := 40) (by omega) (by decide)) c_6

set_option maxHeartbeats 4000000 in
set_option maxRecDepth 20000 in
theorem c_X5_love_bad (l : Launch) (G : GB) (a : Nat → Nat) (x : Q3) (h n : Int32) (hb : ¬ (okH h ∧ 0 ≤ n ∧ n ≤ 40)) : CI l yX5_love cX5_love 6 .int 2 41 G [.ref (a 0), .int h, .int n] (wC G a x) (fun vR w' => vR = tellR 0 ∧ PubC G a (tellX x 0) w') := by
  refine CI.mk (own := RX5) (by decide) rfl (Nat.le_of_ble_eq_true rfl) ?_
  intro X E ret
  show J X G 6 0 0 (wC G a x) [(0, .ref (a 0)), (1, .int h), (2, .int n)] 0 []
  refine J_iload_n E dX5_love_0 rfl 1 rfl ?_
  refine J_cSiN E (As := [.int h]) (c_X5_isHouse l G h ) cl_X5_52 yo_X5_isHouse dX5_love_1 rfl (Nat.le_of_ble_eq_true rfl) (Nat.le_of_ble_eq_true rfl) rfl (Nat.le_of_ble_eq_true rfl) ⟨Nat.zero_le _, Nat.zero_le _⟩ ?_
  refine J_if_eq E (tgt := 16) dX5_love_4 (by decide) (fun c_4 => ?_) (fun c_4 => ?_)
  · skip
    have c_4 := bI_0 c_4
    refine J_aload_n E dX5_love_16 rfl 0 rfl ?_
    refine J_iconst E dX5_love_17 ic_0 ?_
    refine J_cVi0 E (As := [.int 0]) (c_X5_tell l G a x 0 (by omega)) cl_X5_64 yo_X5_tell dX5_love_18 rfl rfl rfl (Nat.le_of_ble_eq_true rfl) (Nat.le_of_ble_eq_true rfl) rfl (Nat.le_of_ble_eq_true rfl) ⟨Nat.zero_le _, Nat.zero_le _⟩ ?_
    exact ret _ _ _ _ ⟨rfl, _, rfl, by intro g h2 h6; simp [upG, up3, up3R, h2, h6]⟩ rfl dX5_love_21
  · skip
    have c_4 := bI_1 c_4
    refine J_iload_n E dX5_love_7 rfl 2 rfl ?_
    refine J_bipush E dX5_love_8 bp_40 ?_
    refine J_cSiN E (As := [.int n, .int 40]) (c_X5_isUpTo l G n 40 ) cl_X5_56 yo_X5_isUpTo dX5_love_10 rfl (Nat.le_of_ble_eq_true rfl) (Nat.le_of_ble_eq_true rfl) rfl (Nat.le_of_ble_eq_true rfl) ⟨Nat.zero_le _, Nat.zero_le _⟩ ?_
    refine J_if_ne E (tgt := 22) dX5_love_13 (by decide) (fun c_13 => ?_) (fun c_13 => ?_)
    · skip
      have c_13 := bI_1 c_13
      exact absurd ⟨c_4, c_13⟩ hb
    · skip
      have c_13 := bI_0 c_13
      refine J_aload_n E dX5_love_16 rfl 0 rfl ?_
      refine J_iconst E dX5_love_17 ic_0 ?_
      refine J_cVi0 E (As := [.int 0]) (c_X5_tell l G a x 0 (by omega)) cl_X5_64 yo_X5_tell dX5_love_18 rfl rfl rfl (Nat.le_of_ble_eq_true rfl) (Nat.le_of_ble_eq_true rfl) rfl (Nat.le_of_ble_eq_true rfl) ⟨Nat.zero_le _, Nat.zero_le _⟩ ?_
      exact ret _ _ _ _ ⟨rfl, _, rfl, by intro g h2 h6; simp [upG, up3, up3R, h2, h6]⟩ rfl dX5_love_21

set_option maxHeartbeats 4000000 in
set_option maxRecDepth 20000 in
theorem c_X5_love_ok (l : Launch) (G : GB) (a : Nat → Nat) (x : Q3) (j m : Nat) (hj : j < 11) (hm : m ≤ 40) (hsp : spOk (x 0)) : CI l yX5_love cX5_love 6 .int 5 116 G [.ref (a 0), .int (nI j), .int (nI m)] (wC G a x) (fun vR w' => vR = nI (argF (fun o => hoursM (turnQ (x 0) (bitI o)) j m 1 j) 11).2 ∧ PubC G a x w') := by
  refine CI.mk (own := RX5) (by decide) rfl (Nat.le_of_ble_eq_true rfl) ?_
  intro X E ret
  show J X G 6 0 0 (wC G a x) [(0, .ref (a 0)), (1, .int (nI j)), (2, .int (nI m))] 0 []
  refine J_iload_n E dX5_love_0 rfl 1 rfl ?_
  refine J_cSiN E (As := [.int (nI j)]) (c_X5_isHouse l G (nI j) ) cl_X5_52 yo_X5_isHouse dX5_love_1 rfl (Nat.le_of_ble_eq_true rfl) (Nat.le_of_ble_eq_true rfl) rfl (Nat.le_of_ble_eq_true rfl) ⟨Nat.zero_le _, Nat.zero_le _⟩ ?_
  refine J_if_eq E (tgt := 16) dX5_love_4 (by decide) (fun c_4 => ?_) (fun c_4 => ?_)
  · skip
    have c_4 := bI_0 c_4
    exact absurd (inB (a := j) (b := 10) (by omega) (by decide)) c_4
  · skip
    have c_4 := bI_1 c_4
    refine J_iload_n E dX5_love_7 rfl 2 rfl ?_
    refine J_bipush E dX5_love_8 bp_40 ?_
    refine J_cSiN E (As := [.int (nI m), .int 40]) (c_X5_isUpTo l G (nI m) 40 ) cl_X5_56 yo_X5_isUpTo dX5_love_10 rfl (Nat.le_of_ble_eq_true rfl) (Nat.le_of_ble_eq_true rfl) rfl (Nat.le_of_ble_eq_true rfl) ⟨Nat.zero_le _, Nat.zero_le _⟩ ?_
    refine J_if_ne E (tgt := 22) dX5_love_13 (by decide) (fun c_13 => ?_) (fun c_13 => ?_)
    · skip
      have c_13 := bI_1 c_13
      refine J_iconst E dX5_love_22 ic_m1 ?_
      refine J_istore_n E (lv' := [(3, .int (-1)), (0, .ref (a 0)), (1, .int (nI j)), (2, .int (nI m))]) dX5_love_23 rfl (by decide) rfl ?_
      refine J_iconst E dX5_love_24 ic_0 ?_
      refine J_istore E (lv' := [(4, .int 0), (3, .int (-1)), (0, .ref (a 0)), (1, .int (nI j)), (2, .int (nI m))]) dX5_love_25 (by decide) rfl ?_
      refine J_iconst E dX5_love_27 ic_0 ?_
      refine J_istore E (lv' := [(5, .int 0), (4, .int 0), (3, .int (-1)), (0, .ref (a 0)), (1, .int (nI j)), (2, .int (nI m))]) dX5_love_28 (by decide) rfl ?_
      refine J_w (ws' := wC G a (upG x 2 (x 2))) (congrArg (wC G a) upG_id.symm) ?_
      have lp30 : ∀ (fu : Nat) (i : Nat) (mo : Int32) (b : Nat) (r : Q2), (i ≤ 11) → (mo = (argF (fun o => hoursM (turnQ (x 0) (bitI o)) j m 1 j) i).1) → (b = (argF (fun o => hoursM (turnQ (x 0) (bitI o)) j m 1 j) i).2) → 11 - i < fu → J X G 6 0 0 (wC G a (upG x 2 r)) [(0, .ref (a 0)), (1, .int (nI j)), (2, .int (nI m)), (3, .int mo), (4, .int (nI b)), (5, .int (nI i))] 30 [] := by
        intro fu
        induction fu with
        | zero => intro i mo b r hi hmo hbb hm; exact absurd hm (Nat.not_lt_zero _)
        | succ fu ih30 =>
          intro i mo b r hi hmo hbb hm
          refine J_iload E dX5_love_30 5 rfl ?_
          refine J_bipush E dX5_love_32 bp_11 ?_
          refine J_icmp_ge E (tgt := 88) dX5_love_34 (by decide) (fun c_34 => ?_) (fun c_34 => ?_)
          · skip
            have n_34 : 11 ≤ i := cmp_le (a := 11) (b := i) (by omega) (by omega) c_34
            refine J_iload E dX5_love_88 4 rfl ?_
            exact ret _ _ _ _ ⟨by rw [hbb, show i = 11 by omega], _, rfl, by intro g h2 h6; simp [upG, up3, up3R, h2, h6]⟩ rfl dX5_love_90
          · skip
            have n_34 : ¬ 11 ≤ i := cmp_nle (a := 11) (b := i) (by omega) (by omega) c_34
            refine J_aload_n E dX5_love_37 rfl 0 rfl ?_
            refine J_iconst E dX5_love_38 ic_1 ?_
            refine J_iload E dX5_love_39 5 rfl ?_
            refine J_ishl E dX5_love_41 ?_
            refine J_top (x' := bitI i) (rfl) ?_
            refine J_cVv0 E (As := [.int (bitI i)]) (c_X5_tryTurned l G a (upG x 2 r) (bitI i) ) cl_X5_166 yo_X5_tryTurned dX5_love_42 rfl rfl rfl (Nat.le_of_ble_eq_true rfl) (Nat.le_of_ble_eq_true rfl) rfl (Nat.le_of_ble_eq_true rfl) ⟨Nat.zero_le _, Nat.zero_le _⟩ ?_
            refine J_aload_n E dX5_love_45 rfl 0 rfl ?_
            refine gC0_X5_19 E dX5_love_46 ?_
            refine J_iload_n E dX5_love_49 rfl 2 rfl ?_
            refine J_iload_n E dX5_love_50 rfl 1 rfl ?_
            refine J_si2 E (As := [.int (nI m), .int (nI j)]) (c_X1_passHours l G (sh a 17) (turnQ (x 0) (bitI i)) m j (by omega) hj (turnQ_sp hsp _)) cl_X5_110 yo_X1_passHours dX5_love_51 rfl (Nat.le_of_ble_eq_true rfl) (Nat.le_of_ble_eq_true rfl) rfl (Nat.le_of_ble_eq_true rfl) ⟨Nat.zero_le _, Nat.zero_le _⟩ ?_
            refine J_pop E dX5_love_54 rfl ?_
            refine J_aload_n E dX5_love_55 rfl 0 rfl ?_
            refine gC0_X5_19 E dX5_love_56 ?_
            refine gC17_X5_103 E dX5_love_59 ?_
            refine J_iload_n E dX5_love_62 rfl 1 rfl ?_
            refine lC_19 E (j := j) dX5_love_63 (by omega) ?_
            refine J_top (x' := (hoursM (turnQ (x 0) (bitI i)) j m) 1 j) upG_s ?_
            refine J_iload_n E dX5_love_64 rfl 3 rfl ?_
            refine J_icmp_le E (tgt := 82) dX5_love_65 (by decide) (fun c_65 => ?_) (fun c_65 => ?_)
            · skip
              refine J_iinc E (lv' := [(5, .int (nI (i + 1))), (0, .ref (a 0)), (1, .int (nI j)), (2, .int (nI m)), (3, .int mo), (4, .int (nI b))]) dX5_love_82 5 rfl (nI_inc _) (by decide) rfl ?_
              refine J_goto E (tgt := 30) dX5_love_85 (by decide) ?_
              refine J_lv [1, 2, 3, 4, 5, 0] rfl ?_
              exact ih30 (i + 1) mo b (hoursM (turnQ (x 0) (bitI i)) j m) (by omega) (by first | rw [argF_t (by rw [← hmo]; exact Int32.not_le.mp c_65)] | (rw [argF_f (by rw [← hmo]; exact Int32.not_lt.mpr c_65)]; exact hmo)) (by first | rw [argF_t (by rw [← hmo]; exact Int32.not_le.mp c_65)] | (rw [argF_f (by rw [← hmo]; exact Int32.not_lt.mpr c_65)]; exact hbb)) (by omega)
            · skip
              refine J_aload_n E dX5_love_68 rfl 0 rfl ?_
              refine gC0_X5_19 E dX5_love_69 ?_
              refine gC17_X5_103 E dX5_love_72 ?_
              refine J_iload_n E dX5_love_75 rfl 1 rfl ?_
              refine lC_19 E (j := j) dX5_love_76 (by omega) ?_
              refine J_top (x' := (hoursM (turnQ (x 0) (bitI i)) j m) 1 j) upG_s ?_
              refine J_istore_n E (lv' := [(3, .int ((hoursM (turnQ (x 0) (bitI i)) j m) 1 j)), (0, .ref (a 0)), (1, .int (nI j)), (2, .int (nI m)), (4, .int (nI b)), (5, .int (nI i))]) dX5_love_77 rfl (by decide) rfl ?_
              refine J_iload E dX5_love_78 5 rfl ?_
              refine J_istore E (lv' := [(4, .int (nI i)), (3, .int ((hoursM (turnQ (x 0) (bitI i)) j m) 1 j)), (0, .ref (a 0)), (1, .int (nI j)), (2, .int (nI m)), (5, .int (nI i))]) dX5_love_80 (by decide) rfl ?_
              refine J_iinc E (lv' := [(5, .int (nI (i + 1))), (4, .int (nI i)), (3, .int ((hoursM (turnQ (x 0) (bitI i)) j m) 1 j)), (0, .ref (a 0)), (1, .int (nI j)), (2, .int (nI m))]) dX5_love_82 5 rfl (nI_inc _) (by decide) rfl ?_
              refine J_goto E (tgt := 30) dX5_love_85 (by decide) ?_
              refine J_lv [3, 4, 5, 2, 1, 0] rfl ?_
              exact ih30 (i + 1) ((hoursM (turnQ (x 0) (bitI i)) j m) 1 j) i (hoursM (turnQ (x 0) (bitI i)) j m) (by omega) (by first | rw [argF_t (by rw [← hmo]; exact Int32.not_le.mp c_65)] | (rw [argF_f (by rw [← hmo]; exact Int32.not_lt.mpr c_65)]; exact hmo)) (by first | rw [argF_t (by rw [← hmo]; exact Int32.not_le.mp c_65)] | (rw [argF_f (by rw [← hmo]; exact Int32.not_lt.mpr c_65)]; exact hbb)) (by omega)
      refine J_lv [3, 4, 5, 2, 1, 0] rfl ?_
      exact lp30 _ 0 (-1) 0 (x 2) (by omega) rfl rfl (Nat.lt_succ_self _)
    · skip
      have c_13 := bI_0 c_13
      exact absurd (inB (a := m) (b := 40) (by omega) (by decide)) c_13

set_option maxHeartbeats 4000000 in
set_option maxRecDepth 20000 in
theorem c_X5_burst_bad (l : Launch) (G : GB) (a : Nat → Nat) (x : Q3) (h v n : Int32) (hb : ¬ (okH h ∧ (0 ≤ v ∧ v ≤ 9999) ∧ 0 ≤ n ∧ n ≤ 40)) : CI l yX5_burst cX5_burst 5 .int 2 41 G [.ref (a 0), .int h, .int v, .int n] (wC G a x) (fun vR w' => vR = tellR 0 ∧ PubC G a (tellX x 0) w') := by
  refine CI.mk (own := RX5) (by decide) rfl (Nat.le_of_ble_eq_true rfl) ?_
  intro X E ret
  show J X G 5 0 0 (wC G a x) [(0, .ref (a 0)), (1, .int h), (2, .int v), (3, .int n)] 0 []
  refine J_iload_n E dX5_burst_0 rfl 1 rfl ?_
  refine J_cSiN E (As := [.int h]) (c_X5_isHouse l G h ) cl_X5_52 yo_X5_isHouse dX5_burst_1 rfl (Nat.le_of_ble_eq_true rfl) (Nat.le_of_ble_eq_true rfl) rfl (Nat.le_of_ble_eq_true rfl) ⟨Nat.zero_le _, Nat.zero_le _⟩ ?_
  refine J_if_eq E (tgt := 26) dX5_burst_4 (by decide) (fun c_4 => ?_) (fun c_4 => ?_)
  · skip
    have c_4 := bI_0 c_4
    refine J_aload_n E dX5_burst_26 rfl 0 rfl ?_
    refine J_iconst E dX5_burst_27 ic_0 ?_
    refine J_cVi0 E (As := [.int 0]) (c_X5_tell l G a x 0 (by omega)) cl_X5_64 yo_X5_tell dX5_burst_28 rfl rfl rfl (Nat.le_of_ble_eq_true rfl) (Nat.le_of_ble_eq_true rfl) rfl (Nat.le_of_ble_eq_true rfl) ⟨Nat.zero_le _, Nat.zero_le _⟩ ?_
    exact ret _ _ _ _ ⟨rfl, _, rfl, by intro g h2 h6; simp [upG, up3, up3R, h2, h6]⟩ rfl dX5_burst_31
  · skip
    have c_4 := bI_1 c_4
    refine J_iload_n E dX5_burst_7 rfl 2 rfl ?_
    refine J_sipush E dX5_burst_8 sp_9999 ?_
    refine J_cSiN E (As := [.int v, .int 9999]) (c_X5_isUpTo l G v 9999 ) cl_X5_56 yo_X5_isUpTo dX5_burst_11 rfl (Nat.le_of_ble_eq_true rfl) (Nat.le_of_ble_eq_true rfl) rfl (Nat.le_of_ble_eq_true rfl) ⟨Nat.zero_le _, Nat.zero_le _⟩ ?_
    refine J_if_eq E (tgt := 26) dX5_burst_14 (by decide) (fun c_14 => ?_) (fun c_14 => ?_)
    · skip
      have c_14 := bI_0 c_14
      refine J_aload_n E dX5_burst_26 rfl 0 rfl ?_
      refine J_iconst E dX5_burst_27 ic_0 ?_
      refine J_cVi0 E (As := [.int 0]) (c_X5_tell l G a x 0 (by omega)) cl_X5_64 yo_X5_tell dX5_burst_28 rfl rfl rfl (Nat.le_of_ble_eq_true rfl) (Nat.le_of_ble_eq_true rfl) rfl (Nat.le_of_ble_eq_true rfl) ⟨Nat.zero_le _, Nat.zero_le _⟩ ?_
      exact ret _ _ _ _ ⟨rfl, _, rfl, by intro g h2 h6; simp [upG, up3, up3R, h2, h6]⟩ rfl dX5_burst_31
    · skip
      have c_14 := bI_1 c_14
      refine J_iload_n E dX5_burst_17 rfl 3 rfl ?_
      refine J_bipush E dX5_burst_18 bp_40 ?_
      refine J_cSiN E (As := [.int n, .int 40]) (c_X5_isUpTo l G n 40 ) cl_X5_56 yo_X5_isUpTo dX5_burst_20 rfl (Nat.le_of_ble_eq_true rfl) (Nat.le_of_ble_eq_true rfl) rfl (Nat.le_of_ble_eq_true rfl) ⟨Nat.zero_le _, Nat.zero_le _⟩ ?_
      refine J_if_ne E (tgt := 32) dX5_burst_23 (by decide) (fun c_23 => ?_) (fun c_23 => ?_)
      · skip
        have c_23 := bI_1 c_23
        exact absurd ⟨c_4, c_14, c_23⟩ hb
      · skip
        have c_23 := bI_0 c_23
        refine J_aload_n E dX5_burst_26 rfl 0 rfl ?_
        refine J_iconst E dX5_burst_27 ic_0 ?_
        refine J_cVi0 E (As := [.int 0]) (c_X5_tell l G a x 0 (by omega)) cl_X5_64 yo_X5_tell dX5_burst_28 rfl rfl rfl (Nat.le_of_ble_eq_true rfl) (Nat.le_of_ble_eq_true rfl) rfl (Nat.le_of_ble_eq_true rfl) ⟨Nat.zero_le _, Nat.zero_le _⟩ ?_
        exact ret _ _ _ _ ⟨rfl, _, rfl, by intro g h2 h6; simp [upG, up3, up3R, h2, h6]⟩ rfl dX5_burst_31

set_option maxHeartbeats 4000000 in
set_option maxRecDepth 20000 in
theorem c_X5_burst_ok (l : Launch) (G : GB) (a : Nat → Nat) (x : Q3) (j : Nat) (v : Int32) (m : Nat) (hj : j < 11) (hv : 0 ≤ v ∧ v ≤ 9999) (hm : m ≤ 40) (hsp : spOk (x 0)) : CI l yX5_burst cX5_burst 5 .int 5 116 G [.ref (a 0), .int (nI j), .int v, .int (nI m)] (wC G a x) (fun vR w' => vR = hoursM (bringF (x 0) (nI j) v) 10 m 7 3 - hoursM (x 0) 10 m 7 3 ∧ PubC G a x w') := by
  refine CI.mk (own := RX5) (by decide) rfl (Nat.le_of_ble_eq_true rfl) ?_
  intro X E ret
  show J X G 5 0 0 (wC G a x) [(0, .ref (a 0)), (1, .int (nI j)), (2, .int v), (3, .int (nI m))] 0 []
  refine J_iload_n E dX5_burst_0 rfl 1 rfl ?_
  refine J_cSiN E (As := [.int (nI j)]) (c_X5_isHouse l G (nI j) ) cl_X5_52 yo_X5_isHouse dX5_burst_1 rfl (Nat.le_of_ble_eq_true rfl) (Nat.le_of_ble_eq_true rfl) rfl (Nat.le_of_ble_eq_true rfl) ⟨Nat.zero_le _, Nat.zero_le _⟩ ?_
  refine J_if_eq E (tgt := 26) dX5_burst_4 (by decide) (fun c_4 => ?_) (fun c_4 => ?_)
  · skip
    have c_4 := bI_0 c_4
    exact absurd (inB (a := j) (b := 10) (by omega) (by decide)) c_4
  · skip
    have c_4 := bI_1 c_4
    refine J_iload_n E dX5_burst_7 rfl 2 rfl ?_
    refine J_sipush E dX5_burst_8 sp_9999 ?_
    refine J_cSiN E (As := [.int v, .int 9999]) (c_X5_isUpTo l G v 9999 ) cl_X5_56 yo_X5_isUpTo dX5_burst_11 rfl (Nat.le_of_ble_eq_true rfl) (Nat.le_of_ble_eq_true rfl) rfl (Nat.le_of_ble_eq_true rfl) ⟨Nat.zero_le _, Nat.zero_le _⟩ ?_
    refine J_if_eq E (tgt := 26) dX5_burst_14 (by decide) (fun c_14 => ?_) (fun c_14 => ?_)
    · skip
      have c_14 := bI_0 c_14
      exact absurd (by assumption) c_14
    · skip
      have c_14 := bI_1 c_14
      refine J_iload_n E dX5_burst_17 rfl 3 rfl ?_
      refine J_bipush E dX5_burst_18 bp_40 ?_
      refine J_cSiN E (As := [.int (nI m), .int 40]) (c_X5_isUpTo l G (nI m) 40 ) cl_X5_56 yo_X5_isUpTo dX5_burst_20 rfl (Nat.le_of_ble_eq_true rfl) (Nat.le_of_ble_eq_true rfl) rfl (Nat.le_of_ble_eq_true rfl) ⟨Nat.zero_le _, Nat.zero_le _⟩ ?_
      refine J_if_ne E (tgt := 32) dX5_burst_23 (by decide) (fun c_23 => ?_) (fun c_23 => ?_)
      · skip
        have c_23 := bI_1 c_23
        refine J_aload_n E dX5_burst_32 rfl 0 rfl ?_
        refine gC0_X5_19 E dX5_burst_33 ?_
        refine J_aload_n E dX5_burst_36 rfl 0 rfl ?_
        refine gC0_X5_10 E dX5_burst_37 ?_
        refine J_b20 E dX5_burst_40 (Nat.le_of_ble_eq_true rfl) (Nat.le_of_ble_eq_true rfl) (Nat.le_of_ble_eq_true rfl) ⟨Nat.zero_le _, Nat.zero_le _⟩ ?_
        refine J_aload_n E dX5_burst_43 rfl 0 rfl ?_
        refine gC0_X5_19 E dX5_burst_44 ?_
        refine J_iload_n E dX5_burst_47 rfl 3 rfl ?_
        refine J_bipush E dX5_burst_48 bp_10 ?_
        refine J_si2 E (As := [.int (nI m), .int 10]) (c_X1_passHours l G (sh a 17) (x 0) m 10 (by omega) (by omega) hsp) cl_X5_110 yo_X1_passHours dX5_burst_50 rfl (Nat.le_of_ble_eq_true rfl) (Nat.le_of_ble_eq_true rfl) rfl (Nat.le_of_ble_eq_true rfl) ⟨Nat.zero_le _, Nat.zero_le _⟩ ?_
        refine J_pop E dX5_burst_53 rfl ?_
        refine J_aload_n E dX5_burst_54 rfl 0 rfl ?_
        refine gC0_X5_19 E dX5_burst_55 ?_
        refine gC17_X5_114 E dX5_burst_58 ?_
        refine J_top (x' := (hoursM (x 0) 10 m) 7 3) upG_s ?_
        refine J_istore E (lv' := [(4, .int ((hoursM (x 0) 10 m) 7 3)), (0, .ref (a 0)), (1, .int (nI j)), (2, .int v), (3, .int (nI m))]) dX5_burst_61 (by decide) rfl ?_
        refine J_aload_n E dX5_burst_63 rfl 1 rfl ?_
        refine gC0_X5_19 E dX5_burst_64 ?_
        refine J_aload_n E dX5_burst_67 rfl 1 rfl ?_
        refine gC0_X5_10 E dX5_burst_68 ?_
        refine J_b20 E dX5_burst_71 (Nat.le_of_ble_eq_true rfl) (Nat.le_of_ble_eq_true rfl) (Nat.le_of_ble_eq_true rfl) ⟨Nat.zero_le _, Nat.zero_le _⟩ ?_
        refine J_aload_n E dX5_burst_74 rfl 1 rfl ?_
        refine gC0_X5_19 E dX5_burst_75 ?_
        refine J_iload_n E dX5_burst_78 rfl 2 rfl ?_
        refine J_iload_n E dX5_burst_79 rfl 3 rfl ?_
        refine J_sv2 E (As := [.int (nI j), .int v]) (c_X1_bring l G (sh a 17) (x 0) (nI j) v (Or.inr (vp_in_nI hj (by decide)))) cl_X5_99 yo_X1_bring dX5_burst_80 rfl (Nat.le_of_ble_eq_true rfl) (Nat.le_of_ble_eq_true rfl) rfl (Nat.le_of_ble_eq_true rfl) ⟨Nat.zero_le _, Nat.zero_le _⟩ ?_
        refine J_aload_n E dX5_burst_83 rfl 1 rfl ?_
        refine gC0_X5_19 E dX5_burst_84 ?_
        refine J_iload_n E dX5_burst_87 rfl 4 rfl ?_
        refine J_bipush E dX5_burst_88 bp_10 ?_
        refine J_si2 E (As := [.int (nI m), .int 10]) (c_X1_passHours l G (sh a 17) (bringF (x 0) (nI j) v) m 10 (by omega) (by decide) (bringF_sp hsp _ _)) cl_X5_110 yo_X1_passHours dX5_burst_90 rfl (Nat.le_of_ble_eq_true rfl) (Nat.le_of_ble_eq_true rfl) rfl (Nat.le_of_ble_eq_true rfl) ⟨Nat.zero_le _, Nat.zero_le _⟩ ?_
        refine J_pop E dX5_burst_93 rfl ?_
        refine J_aload_n E dX5_burst_94 rfl 1 rfl ?_
        refine gC0_X5_19 E dX5_burst_95 ?_
        refine gC17_X5_114 E dX5_burst_98 ?_
        refine J_top (x' := (hoursM (bringF (x 0) (nI j) v) 10 m) 7 3) upG_s ?_
        refine J_iload E dX5_burst_101 0 rfl ?_
        refine J_isub E dX5_burst_103 ?_
        exact ret _ _ _ _ ⟨rfl, _, rfl, by intro g h2 h6; simp [upG, up3, up3R, h2, h6]⟩ rfl dX5_burst_104
      · skip
        have c_23 := bI_0 c_23
        exact absurd (inB (a := m) (b := 40) (by omega) (by decide)) c_23

set_option maxHeartbeats 4000000 in
set_option maxRecDepth 20000 in
theorem c_X5_turn_bad (l : Launch) (G : GB) (a : Nat → Nat) (x : Q3) (v n : Int32) (hb : ¬ ((0 ≤ v ∧ v ≤ 2047) ∧ 0 ≤ n ∧ n ≤ 12)) : CI l yX5_turn cX5_turn 6 .int 1 21 G [.ref (a 0), .int v, .int n] (wC G a x) (fun vR w' => vR = tellR 0 ∧ PubC G a (tellX x 0) w') := by
  refine CI.mk (own := RX5) (by decide) rfl (Nat.le_of_ble_eq_true rfl) ?_
  intro X E ret
  show J X G 6 0 0 (wC G a x) [(0, .ref (a 0)), (1, .int v), (2, .int n)] 0 []
  refine J_iload_n E dX5_turn_0 rfl 1 rfl ?_
  refine J_sipush E dX5_turn_1 sp_2047 ?_
  refine J_cSiN E (As := [.int v, .int 2047]) (c_X5_isUpTo l G v 2047 ) cl_X5_56 yo_X5_isUpTo dX5_turn_4 rfl (Nat.le_of_ble_eq_true rfl) (Nat.le_of_ble_eq_true rfl) rfl (Nat.le_of_ble_eq_true rfl) ⟨Nat.zero_le _, Nat.zero_le _⟩ ?_
  refine J_if_eq E (tgt := 19) dX5_turn_7 (by decide) (fun c_7 => ?_) (fun c_7 => ?_)
  · skip
    have c_7 := bI_0 c_7
    refine J_aload_n E dX5_turn_19 rfl 0 rfl ?_
    refine J_iconst E dX5_turn_20 ic_0 ?_
    refine J_cVi0 E (As := [.int 0]) (c_X5_tell l G a x 0 (by omega)) cl_X5_64 yo_X5_tell dX5_turn_21 rfl rfl rfl (Nat.le_of_ble_eq_true rfl) (Nat.le_of_ble_eq_true rfl) rfl (Nat.le_of_ble_eq_true rfl) ⟨Nat.zero_le _, Nat.zero_le _⟩ ?_
    exact ret _ _ _ _ ⟨rfl, _, rfl, by intro g h2 h6; simp [upG, up3, up3R, h2, h6]⟩ rfl dX5_turn_24
  · skip
    have c_7 := bI_1 c_7
    refine J_iload_n E dX5_turn_10 rfl 2 rfl ?_
    refine J_bipush E dX5_turn_11 bp_12 ?_
    refine J_cSiN E (As := [.int n, .int 12]) (c_X5_isUpTo l G n 12 ) cl_X5_56 yo_X5_isUpTo dX5_turn_13 rfl (Nat.le_of_ble_eq_true rfl) (Nat.le_of_ble_eq_true rfl) rfl (Nat.le_of_ble_eq_true rfl) ⟨Nat.zero_le _, Nat.zero_le _⟩ ?_
    refine J_if_ne E (tgt := 25) dX5_turn_16 (by decide) (fun c_16 => ?_) (fun c_16 => ?_)
    · skip
      have c_16 := bI_1 c_16
      exact absurd ⟨c_7, c_16⟩ hb
    · skip
      have c_16 := bI_0 c_16
      refine J_aload_n E dX5_turn_19 rfl 0 rfl ?_
      refine J_iconst E dX5_turn_20 ic_0 ?_
      refine J_cVi0 E (As := [.int 0]) (c_X5_tell l G a x 0 (by omega)) cl_X5_64 yo_X5_tell dX5_turn_21 rfl rfl rfl (Nat.le_of_ble_eq_true rfl) (Nat.le_of_ble_eq_true rfl) rfl (Nat.le_of_ble_eq_true rfl) ⟨Nat.zero_le _, Nat.zero_le _⟩ ?_
      exact ret _ _ _ _ ⟨rfl, _, rfl, by intro g h2 h6; simp [upG, up3, up3R, h2, h6]⟩ rfl dX5_turn_24

set_option maxHeartbeats 4000000 in
set_option maxRecDepth 20000 in
theorem c_X5_turn_ok (l : Launch) (G : GB) (a : Nat → Nat) (x : Q3) (v : Int32) (m : Nat) (hv : 0 ≤ v ∧ v ≤ 2047) (hm : m ≤ 12) (hsp : spOk (x 0)) : CI l yX5_turn cX5_turn 6 .int 6 140 G [.ref (a 0), .int v, .int (nI m)] (wC G a x) (fun vR w' => vR = optR (tnF (tnP (x 0) v m) (2 ^ lastF v 10) (lastF v 10 + 1) 0) ∧ PubC G a (optX x (tnF (tnP (x 0) v m) (2 ^ lastF v 10) (lastF v 10 + 1) 0)) w') := by
  refine CI.mk (own := RX5) (by decide) rfl (Nat.le_of_ble_eq_true rfl) ?_
  intro X E ret
  show J X G 6 0 0 (wC G a x) [(0, .ref (a 0)), (1, .int v), (2, .int (nI m))] 0 []
  refine J_iload_n E dX5_turn_0 rfl 1 rfl ?_
  refine J_sipush E dX5_turn_1 sp_2047 ?_
  refine J_cSiN E (As := [.int v, .int 2047]) (c_X5_isUpTo l G v 2047 ) cl_X5_56 yo_X5_isUpTo dX5_turn_4 rfl (Nat.le_of_ble_eq_true rfl) (Nat.le_of_ble_eq_true rfl) rfl (Nat.le_of_ble_eq_true rfl) ⟨Nat.zero_le _, Nat.zero_le _⟩ ?_
  refine J_if_eq E (tgt := 19) dX5_turn_7 (by decide) (fun c_7 => ?_) (fun c_7 => ?_)
  · skip
    have c_7 := bI_0 c_7
    exact absurd (by assumption) c_7
  · skip
    have c_7 := bI_1 c_7
    refine J_iload_n E dX5_turn_10 rfl 2 rfl ?_
    refine J_bipush E dX5_turn_11 bp_12 ?_
    refine J_cSiN E (As := [.int (nI m), .int 12]) (c_X5_isUpTo l G (nI m) 12 ) cl_X5_56 yo_X5_isUpTo dX5_turn_13 rfl (Nat.le_of_ble_eq_true rfl) (Nat.le_of_ble_eq_true rfl) rfl (Nat.le_of_ble_eq_true rfl) ⟨Nat.zero_le _, Nat.zero_le _⟩ ?_
    refine J_if_ne E (tgt := 25) dX5_turn_16 (by decide) (fun c_16 => ?_) (fun c_16 => ?_)
    · skip
      have c_16 := bI_1 c_16
      refine J_iload_n E dX5_turn_25 rfl 1 rfl ?_
      refine J_cSiN E (As := [.int v]) (c_X5_lastIn l G v ) cl_X5_155 yo_X5_lastIn dX5_turn_26 rfl (Nat.le_of_ble_eq_true rfl) (Nat.le_of_ble_eq_true rfl) rfl (Nat.le_of_ble_eq_true rfl) ⟨Nat.zero_le _, Nat.zero_le _⟩ ?_
      refine J_istore_n E (lv' := [(3, .int (nI (lastF v 10))), (0, .ref (a 0)), (1, .int v), (2, .int (nI m))]) dX5_turn_29 rfl (by decide) rfl ?_
      have hla := lastF_le v 10
      obtain ⟨P, hPe⟩ : ∃ P, P = 2 ^ lastF v 10 := ⟨_, rfl⟩
      have hP : P ≤ 1024 := by rw [hPe]; exact pow10 hla
      rw [← hPe] at ret
      refine J_iconst E dX5_turn_30 ic_0 ?_
      refine J_istore E (lv' := [(4, .int 0), (3, .int (nI (lastF v 10))), (0, .ref (a 0)), (1, .int v), (2, .int (nI m))]) dX5_turn_31 (by decide) rfl ?_
      refine J_w (ws' := wC G a (upG x 2 (x 2))) (congrArg (wC G a) upG_id.symm) ?_
      have lp33 : ∀ (fu : Nat) (sz : Nat) (r : Q2), (sz ≤ lastF v 10 + 1) → (tnF (tnP (x 0) v m) P (lastF v 10 + 1) 0 = tnF (tnP (x 0) v m) P (lastF v 10 + 1 - sz) sz) → lastF v 10 + 1 - sz < fu → J X G 6 0 0 (wC G a (upG x 2 r)) [(0, .ref (a 0)), (1, .int v), (2, .int (nI m)), (3, .int (nI (lastF v 10))), (4, .int (nI sz))] 33 [] := by
        intro fu
        induction fu with
        | zero => intro sz r hs h1 hm; exact absurd hm (Nat.not_lt_zero _)
        | succ fu ih33 =>
          intro sz r hs h1 hm
          refine J_iload E dX5_turn_33 4 rfl ?_
          refine J_iload_n E dX5_turn_35 rfl 3 rfl ?_
          refine J_icmp_gt E (tgt := 87) dX5_turn_36 (by decide) (fun c_36 => ?_) (fun c_36 => ?_)
          · skip
            have n_36 : (lastF v 10) < sz := cmp_lt (a := (lastF v 10)) (b := sz) (by omega) (by omega) c_36
            have h2 : tnF (tnP (x 0) v m) P (lastF v 10 + 1) 0 = none := by rw [h1, show lastF v 10 + 1 - sz = 0 by omega]; rfl
            refine J_aload_n E dX5_turn_87 rfl 0 rfl ?_
            refine J_iconst E dX5_turn_88 ic_3 ?_
            refine J_cVi0 E (As := [.int 3]) (c_X5_tell l G a (upG x 2 r) 3 (by omega)) cl_X5_64 yo_X5_tell dX5_turn_89 rfl rfl rfl (Nat.le_of_ble_eq_true rfl) (Nat.le_of_ble_eq_true rfl) rfl (Nat.le_of_ble_eq_true rfl) ⟨Nat.zero_le _, Nat.zero_le _⟩ ?_
            exact ret _ _ _ _ ⟨by rw [h2]; rfl, _, rfl, by rw [h2]; intro g h2 h6; simp [optX, tellX, upG, up3, h2]; try (intro e; subst e; rfl)⟩ rfl dX5_turn_92
          · skip
            have n_36 : ¬ (lastF v 10) < sz := cmp_nlt (a := (lastF v 10)) (b := sz) (by omega) (by omega) c_36
            refine J_iconst E dX5_turn_39 ic_0 ?_
            refine J_istore E (lv' := [(5, .int 0), (0, .ref (a 0)), (1, .int v), (2, .int (nI m)), (3, .int (nI (lastF v 10))), (4, .int (nI sz))]) dX5_turn_40 (by decide) rfl ?_
            have lp42 : ∀ (fu : Nat) (se : Nat) (r2 : Q2), (se ≤ P) → (upF (tnP (x 0) v m sz) P 0 = upF (tnP (x 0) v m sz) (P - se) se) → P - se < fu → J X G 6 0 0 (wC G a (upG x 2 r2)) [(0, .ref (a 0)), (1, .int v), (2, .int (nI m)), (3, .int (nI (lastF v 10))), (4, .int (nI sz)), (5, .int (nI se))] 42 [] := by
              intro fu
              induction fu with
              | zero => intro se r2 he h3 hm; exact absurd hm (Nat.not_lt_zero _)
              | succ fu ih42 =>
                intro se r2 he h3 hm
                refine J_iload E dX5_turn_42 5 rfl ?_
                refine J_iconst E dX5_turn_44 ic_1 ?_
                refine J_iload_n E dX5_turn_45 rfl 3 rfl ?_
                refine J_ishl E dX5_turn_46 ?_
                refine J_top (x' := nI P) (by rw [hPe]; exact shl1 hla) ?_
                refine J_icmp_ge E (tgt := 81) dX5_turn_47 (by decide) (fun c_47 => ?_) (fun c_47 => ?_)
                · skip
                  have n_47 : P ≤ se := cmp_le (a := P) (b := se) (by omega) (by omega) c_47
                  refine J_iinc E (lv' := [(4, .int (nI (sz + 1))), (0, .ref (a 0)), (1, .int v), (2, .int (nI m)), (3, .int (nI (lastF v 10))), (5, .int (nI se))]) dX5_turn_81 4 rfl (nI_inc _) (by decide) rfl ?_
                  refine J_goto E (tgt := 33) dX5_turn_84 (by decide) ?_
                  refine J_lv [1, 2, 3, 4, 0] rfl ?_
                  exact ih33 (sz + 1) r2 (by omega) (by rw [h1, show lastF v 10 + 1 - sz = (lastF v 10 + 1 - (sz + 1)) + 1 by omega, tnF_n (by rw [h3, show P - se = 0 by omega]; rfl)]) (by omega)
                · skip
                  have n_47 : ¬ P ≤ se := cmp_nle (a := P) (b := se) (by omega) (by omega) c_47
                  refine J_iload E dX5_turn_50 5 rfl ?_
                  refine J_cSiN E (As := [.int (nI se)]) (c_J6_bitCount_0f7a4 l G (nI se) ) cl_X5_158 yo_J6_bitCount_0f7a4 dX5_turn_52 rfl (Nat.le_of_ble_eq_true rfl) (Nat.le_of_ble_eq_true rfl) rfl (Nat.le_of_ble_eq_true rfl) ⟨Nat.zero_le _, Nat.zero_le _⟩ ?_
                  refine J_iload E dX5_turn_55 4 rfl ?_
                  refine J_icmp_ne E (tgt := 75) dX5_turn_57 (by decide) (fun c_57 => ?_) (fun c_57 => ?_)
                  · skip
                    refine J_iinc E (lv' := [(5, .int (nI (se + 1))), (0, .ref (a 0)), (1, .int v), (2, .int (nI m)), (3, .int (nI (lastF v 10))), (4, .int (nI sz))]) dX5_turn_75 5 rfl (nI_inc _) (by decide) rfl ?_
                    refine J_goto E (tgt := 42) dX5_turn_78 (by decide) ?_
                    refine J_lv [1, 2, 3, 4, 5, 0] rfl ?_
                    exact ih42 (se + 1) r2 (by omega) (by rw [h3, show P - se = (P - (se + 1)) + 1 by omega, upF_f (fun z => by have z := of_decide_eq_true z; first | exact c_57 z.1 | exact z.2 c_69)]) (by omega)
                  · skip
                    refine J_aload_n E dX5_turn_60 rfl 0 rfl ?_
                    refine J_iload E dX5_turn_61 5 rfl ?_
                    refine J_iload_n E dX5_turn_63 rfl 1 rfl ?_
                    refine J_iload_n E dX5_turn_64 rfl 3 rfl ?_
                    refine J_iload_n E dX5_turn_65 rfl 2 rfl ?_
                    refine J_cVi0 E (As := [.int (nI se), .int v, .int (nI (lastF v 10)), .int (nI m)]) (c_X5_staysWetTurned l G a (upG x 2 r2) (nI se) v (lastF v 10) m (by omega) (by omega) (turnQ_sp hsp _)) cl_X5_163 yo_X5_staysWetTurned dX5_turn_66 rfl rfl rfl (Nat.le_of_ble_eq_true rfl) (Nat.le_of_ble_eq_true rfl) rfl (Nat.le_of_ble_eq_true rfl) ⟨Nat.zero_le _, Nat.zero_le _⟩ ?_
                    refine J_if_eq E (tgt := 75) dX5_turn_69 (by decide) (fun c_69 => ?_) (fun c_69 => ?_)
                    · skip
                      refine J_iinc E (lv' := [(5, .int (nI (se + 1))), (0, .ref (a 0)), (1, .int v), (2, .int (nI m)), (3, .int (nI (lastF v 10))), (4, .int (nI sz))]) dX5_turn_75 5 rfl (nI_inc _) (by decide) rfl ?_
                      refine J_goto E (tgt := 42) dX5_turn_78 (by decide) ?_
                      refine J_lv [1, 2, 3, 4, 5, 0] rfl ?_
                      exact ih42 (se + 1) (wetS v (lastF v 10) m (turnQ (x 0) (nI se))) (by omega) (by rw [h3, show P - se = (P - (se + 1)) + 1 by omega, upF_f (fun z => by have z := of_decide_eq_true z; first | exact c_57 z.1 | exact z.2 c_69)]) (by omega)
                    · skip
                      have h2 : tnF (tnP (x 0) v m) P (lastF v 10 + 1) 0 = some se := by rw [h1, show lastF v 10 + 1 - sz = (lastF v 10 - sz) + 1 by omega]; exact tnF_s (by rw [h3, show P - se = (P - se - 1) + 1 by omega]; exact upF_t (decide_eq_true ⟨c_57, c_69⟩))
                      refine J_iload E dX5_turn_72 5 rfl ?_
                      exact ret _ _ _ _ ⟨by rw [h2]; rfl, _, rfl, by rw [h2]; intro g h2 h6; simp [optX, upG, h2]⟩ rfl dX5_turn_74
            refine J_lv [1, 2, 3, 4, 5, 0] rfl ?_
            exact lp42 _ 0 r (Nat.zero_le _) rfl (Nat.lt_succ_self _)
      refine J_lv [2, 3, 4, 1, 0] rfl ?_
      exact lp33 _ 0 (x 2) (Nat.zero_le _) rfl (Nat.lt_succ_self _)
    · skip
      have c_16 := bI_0 c_16
      exact absurd (inB (a := m) (b := 12) (by omega) (by decide)) c_16
