def kwF (q : Q3) : Int32 := if isW q 7 then 0 else if isW q 1 then 1 else if isW q 2 then 2 else if isW q 3 then 3 else if isW q 4 then 4 else if isW q 5 then 5 else if isW q 6 then 6 else -1
def rrB (q : Q3) : Bool := isN (nextX q) 999
def rrX (q : Q3) : Q3 := if isN (nextX q) 999 then nextX (up3 (nextX q) 0 7 2 (nextX q 6 1 3)) else nextX q
def rpB (q : Q3) (i : Nat) (m : Int32) : Bool := !isW q i || isN (nextX q) m
def rpX (q : Q3) (i r j : Nat) (m : Int32) : Q3 := if isW q i then (if isN (nextX q) m then nextX (up3 (nextX q) 0 r j (nextX q 6 1 3)) else nextX q) else q
def rsX (q : Q3) (j : Nat) : Q3 := if isW q 11 then nextX (up3 q 0 4 j 0) else if isW q 12 then nextX (up3 q 0 4 j 1) else q
def riA (q : Q3) (j : Nat) : Q3 := nextX (up3 (nextX q) 0 0 j (kwF q))
def ripB (a : Q3) (j : Nat) : Bool := rpB a 8 9999 && (rpB (rpX a 8 1 j 9999) 9 99 && rpB (rpX (rpX a 8 1 j 9999) 9 2 j 99) 10 999)
def ripX (a : Q3) (j : Nat) : Q3 := if rpB a 8 9999 then (if rpB (rpX a 8 1 j 9999) 9 99 then (if rpB (rpX (rpX a 8 1 j 9999) 9 2 j 99) 10 999 then rsX (rpX (rpX (rpX a 8 1 j 9999) 9 2 j 99) 10 3 j 999) j else rpX (rpX (rpX a 8 1 j 9999) 9 2 j 99) 10 3 j 999) else rpX (rpX a 8 1 j 9999) 9 2 j 99) else rpX a 8 1 j 9999
def numN (q : Q3) : Nat := (nextX q 6 1 3).toNatClampNeg
def riB (q : Q3) : Bool := if isW q 0 then rrB q else if kwF q < 0 then false else if isN (nextX q) 10 then ripB (riA q (numN q)) (numN q) else false
def riX (q : Q3) : Q3 := if isW q 0 then rrX q else if kwF q < 0 then q else if isN (nextX q) 10 then ripX (riA q (numN q)) (numN q) else nextX q
def tlF : Nat → Bool → Q3 → Nat → Bool × Q3 × Nat
  | 0, b, q, n => (b, q, n)
  | f + 1, b, q, n => if b = true ∧ q 6 1 2 = 3 then tlF f (riB (nextX q)) (riX (nextX q)) (n + 1) else (b, q, n)
theorem tlF_end {f n : Nat} {b : Bool} {q : Q3} (h : ¬ (b = true ∧ q 6 1 2 = 3)) : tlF f b q n = (b, q, n) := by
  cases f with
  | zero => rfl
  | succ f => rw [tlF, if_neg h]
def tl0 (q : Q3) : Bool × Q3 × Nat := tlF 119 (riB (nextX (up3 q 6 1 1 0))) (riX (nextX (up3 q 6 1 1 0))) 1
def tlR (t : Bool × Q3 × Nat) : Int32 := if t.1 = true ∧ t.2.1 6 1 2 = 0 then nI t.2.2 else -1 - t.2.1 6 1 0
theorem mn_le (x y : Int32) : mn x y ≤ x := by
  unfold mn
  split
  · rename_i h; exact Int32.le_of_lt h
  · exact Int32.le_refl _
theorem i32_le {x y : Int32} : x ≤ y ↔ x.toInt ≤ y.toInt := Int32.le_iff_toInt_le
theorem numF_in {f : Nat → Int32} {s : Nat} : ∀ k, (∀ i, i < k → 48 ≤ f (s + i) ∧ f (s + i) ≤ 57) → ∃ v : Nat, v ≤ 10000 ∧ numF f s k = nI v
  | 0, _ => ⟨0, by decide, rfl⟩
  | k + 1, h => by
    obtain ⟨v, hv, e⟩ := numF_in k (fun i hi => h i (by omega))
    obtain ⟨h1, h2⟩ := h k (by omega)
    obtain ⟨d, hd, e2⟩ := nI_of2 (x := f (s + k)) (M := 57) (n := 57) rfl (fun z => absurd (i32_le.mp h1) (by have := Int32.lt_iff_toInt_lt.mp z; have a0 : (0 : Int32).toInt = 0 := (by decide); have a1 : (48 : Int32).toInt = 48 := (by decide); omega)) h2
    rw [e2] at h1
    have hd2 : 48 ≤ d := cmp_le (a := 48) (b := d) (by decide) (by omega) h1
    have e3 : numF f s (k + 1) = mn 10000 (nI (v * 10 + (d - 48))) := by
      rw [numF, e, e2, show (10 : Int32) = nI 10 from rfl, pk_mul, nI_add, show (48 : Int32) = nI 48 from rfl, pk_sub (by omega), show v * 10 + d - 48 = v * 10 + (d - 48) by omega]
    rw [e3, mn]
    split
    · rename_i h3
      have := cmp_lt (a := v * 10 + (d - 48)) (b := 10000) (by omega) (by decide) h3
      exact ⟨v * 10 + (d - 48), by omega, rfl⟩
    · exact ⟨10000, by decide, rfl⟩
theorem tokK_2 {f : Nat → Int32} {n s : Nat} (h : tokK f n s = 2) : ¬ bet f n 97 122 s = true ∧ bet f n 48 57 s = true := by
  unfold tokK at h
  split at h
  · exact absurd h (by decide)
  · split at h
    · exact absurd h (by decide)
    · split at h
      · rename_i a b; exact ⟨a, b⟩
      · split at h <;> exact absurd h (by decide)
theorem nextX_num {q : Q3} (hq : okN q) (h : nextX q 6 1 2 = 2) : ∃ v : Nat, v ≤ 10000 ∧ nextX q 6 1 3 = nI v := by
  obtain ⟨n, e, hn, hn2, he, he2⟩ := hq
  have hx := nextX_eq hn hn2 he he2 rfl rfl rfl rfl
  rw [← hx] at h ⊢
  have h : tokK (q 7 0) n (tokS (q 7 0) n e) = 2 := h
  show ∃ v : Nat, v ≤ 10000 ∧ (if tokK (q 7 0) n (tokS (q 7 0) n e) = 2 then numF (q 7 0) (tokS (q 7 0) n e) (tokE (q 7 0) n (tokS (q 7 0) n e) - tokS (q 7 0) n e) else q 6 1 3) = nI v
  rw [if_pos h]
  obtain ⟨h1, h2⟩ := tokK_2 h
  refine numF_in _ (fun i hi => ?_)
  have e1 : tokE (q 7 0) n (tokS (q 7 0) n e) = endF (bet (q 7 0) n 48 57) (tokS (q 7 0) n e) := by rw [tokE, if_neg h1, if_pos h2]
  rw [e1] at hi
  have := endF_all (p := bet (q 7 0) n 48 57) (i := tokS (q 7 0) n e) (j := tokS (q 7 0) n e + i) (by omega) (by omega)
  exact (of_decide_eq_true this).2
theorem isN_num {q : Q3} {m : Nat} (hm : m < 10000) (hq : okN q) (h : isN (nextX q) (nI m) = true) : ∃ v : Nat, v ≤ m ∧ nextX q 6 1 3 = nI v ∧ numN q = v := by
  obtain ⟨h1, h2⟩ := of_decide_eq_true h
  obtain ⟨v, hv, e⟩ := nextX_num hq h1
  rw [e] at h2
  exact ⟨v, cmp_le (by omega) (by omega) h2, e, by rw [numN, e, nI_clamp (by omega)]⟩
theorem okT_rr {q : Q3} (h : okT q) : okT (rrX q) := by
  unfold rrX
  split
  · exact okT_next (okT_up (okT_next h.n) _ _ _).n
  · exact okT_next h.n
theorem okT_rp {q : Q3} (h : okT q) (i r j : Nat) (m : Int32) : okT (rpX q i r j m) := by
  unfold rpX
  split
  · split
    · exact okT_next (okT_up (okT_next h.n) _ _ _).n
    · exact okT_next h.n
  · exact h
theorem okT_rs {q : Q3} (h : okT q) (j : Nat) : okT (rsX q j) := by
  unfold rsX
  split
  · exact okT_next (okT_up h _ _ _).n
  · split
    · exact okT_next (okT_up h _ _ _).n
    · exact h
theorem okT_rip {q : Q3} (h : okT q) (j : Nat) : okT (ripX q j) := by
  unfold ripX
  split
  · split
    · split
      · exact okT_rs (okT_rp (okT_rp (okT_rp h _ _ _ _) _ _ _ _) _ _ _ _) _
      · exact okT_rp (okT_rp (okT_rp h _ _ _ _) _ _ _ _) _ _ _ _
    · exact okT_rp (okT_rp h _ _ _ _) _ _ _ _
  · exact okT_rp h _ _ _ _
theorem okT_ri {q : Q3} (h : okT q) : okT (riX q) := by
  unfold riX
  split
  · exact okT_rr h
  · split
    · exact h
    · split
      · exact okT_rip (okT_next (okT_up (okT_next h.n) _ _ _).n) _
      · exact okT_next h.n
theorem nextX_7 (q : Q3) : nextX q 7 = q 7 := by simp [nextX, upG]
theorem up0_7 (q : Q3) (r j : Nat) (v : Int32) : up3 q 0 r j v 7 = q 7 := by simp [up3]
theorem rr_7 (q : Q3) : rrX q 7 = q 7 := by unfold rrX; split <;> simp [nextX_7, up0_7]
theorem rp_7 (q : Q3) (i r j : Nat) (m : Int32) : rpX q i r j m 7 = q 7 := by
  unfold rpX
  split
  · split <;> simp [nextX_7, up0_7]
  · rfl
theorem rs_7 (q : Q3) (j : Nat) : rsX q j 7 = q 7 := by
  unfold rsX
  split
  · simp [nextX_7, up0_7]
  · split <;> simp [nextX_7, up0_7]
theorem rip_7 (q : Q3) (j : Nat) : ripX q j 7 = q 7 := by
  unfold ripX
  split
  · split
    · split
      · rw [rs_7, rp_7, rp_7, rp_7]
      · rw [rp_7, rp_7, rp_7]
    · rw [rp_7, rp_7]
  · rw [rp_7]
theorem ri_7 (q : Q3) : riX q 7 = q 7 := by
  unfold riX
  split
  · exact rr_7 q
  · split
    · rfl
    · split
      · rw [rip_7, riA, nextX_7, up0_7, nextX_7]
      · exact nextX_7 q
theorem tlF_7 : ∀ (f : Nat) (b : Bool) (q : Q3) (n : Nat), (tlF f b q n).2.1 7 = q 7
  | 0, _, _, _ => rfl
  | f + 1, b, q, n => by
    rw [tlF]
    split
    · rw [tlF_7, ri_7, nextX_7]
    · rfl
theorem tl0_7 (q : Q3) : (tl0 q).2.1 7 = q 7 := by
  rw [tl0, tlF_7, ri_7, nextX_7]; simp [up3]

set_option maxHeartbeats 4000000 in
set_option maxRecDepth 20000 in
theorem c_X4_isWord (l : Launch) (G : GB) (h : Nat → Nat) (q : Q3) (i : Nat) (hi : i < 27) (hq : okT q) : CI l yX4_isWord cX4_isWord 3 .boolean 4 85 G [.ref (h 0), .ref (G.2.2.2.2.1 i)] (wTQ G h q) (fun vR w' => vR = bI (isW q i = true) ∧ w' = wTQ G h q) := by
  refine CI.mk (own := RX4) (by decide) rfl (Nat.le_of_ble_eq_true rfl) ?_
  intro X E ret
  show J X G 3 0 0 (wTQ G h q) [(0, .ref (h 0)), (1, .ref (G.2.2.2.2.1 i))] 0 []
  obtain ⟨n, s, e, ⟨hn, hn2⟩, hs, he, hse, hen⟩ := hq
  have hL := byS_len i hi
  refine J_aload_n E dX4_isWord_0 rfl 0 rfl ?_
  refine gTQ0_X4_26 E dX4_isWord_1 ?_
  refine J_iconst E dX4_isWord_4 ic_1 ?_
  refine J_icmp_ne E (tgt := 24) dX4_isWord_5 (by decide) (fun c_5 => ?_) (fun c_5 => ?_)
  · skip
    refine J_iconst E dX4_isWord_24 ic_0 ?_
    exact ret _ _ _ _ ⟨by rw [bI_f]; intro z; have z := (isW_iff hn2 hs he hse hen).mp z; first | exact absurd z.1 c_5 | exact absurd z.2.1 n_21, (congrArg (wTQ G h) (rfl))⟩ rfl dX4_isWord_25
  · skip
    refine J_aload_n E dX4_isWord_8 rfl 0 rfl ?_
    refine gTQ0_X4_15 E dX4_isWord_9 ?_
    refine J_top (x' := nI e) (he) ?_
    refine J_aload_n E dX4_isWord_12 rfl 0 rfl ?_
    refine gTQ0_X4_31 E dX4_isWord_13 ?_
    refine J_top (x' := nI s) (hs) ?_
    refine J_isub E dX4_isWord_16 ?_
    refine J_top (x' := nI (e - s)) (pk_sub hse) ?_
    refine J_aload_n E dX4_isWord_17 rfl 1 rfl ?_
    refine J_callKi E (As := []) (i := i) hi (c_J0_length_8abf5 l G i hi) cl_X4_111 yo_J0_length_8abf5 dX4_isWord_18 rfl (Nat.le_of_ble_eq_true rfl) (Nat.le_of_ble_eq_true rfl) rfl (Nat.le_of_ble_eq_true rfl) ⟨Nat.zero_le _, Nat.zero_le _⟩ ?_
    refine J_icmp_eq E (tgt := 26) dX4_isWord_21 (by decide) (fun c_21 => ?_) (fun c_21 => ?_)
    · skip
      have n_21 : (e - s) = ((byS i).length) := cmp_eq (a := (e - s)) (b := ((byS i).length)) (by omega) (by omega) c_21
      refine J_iconst E dX4_isWord_26 ic_0 ?_
      refine J_istore_n E (lv' := [(2, .int 0), (0, .ref (h 0)), (1, .ref (G.2.2.2.2.1 i))]) dX4_isWord_27 rfl (by decide) rfl ?_
      have lp28 : ∀ (fu : Nat) (j : Nat), (j ≤ (byS i).length) → (∀ y, y < j → q 7 0 (s + y) = (byS i).getD y 0) → (byS i).length - j < fu → J X G 3 0 0 (wTQ G h q) [(0, .ref (h 0)), (1, .ref (G.2.2.2.2.1 i)), (2, .int (nI j))] 28 [] := by
        intro fu
        induction fu with
        | zero => intro j hj h1 hm; exact absurd hm (Nat.not_lt_zero _)
        | succ fu ih28 =>
          intro j hj h1 hm
          refine J_iload_n E dX4_isWord_28 rfl 2 rfl ?_
          refine J_aload_n E dX4_isWord_29 rfl 1 rfl ?_
          refine J_callKi E (As := []) (i := i) hi (c_J0_length_8abf5 l G i hi) cl_X4_111 yo_J0_length_8abf5 dX4_isWord_30 rfl (Nat.le_of_ble_eq_true rfl) (Nat.le_of_ble_eq_true rfl) rfl (Nat.le_of_ble_eq_true rfl) ⟨Nat.zero_le _, Nat.zero_le _⟩ ?_
          refine J_icmp_ge E (tgt := 66) dX4_isWord_33 (by decide) (fun c_33 => ?_) (fun c_33 => ?_)
          · skip
            have n_33 : ((byS i).length) ≤ j := cmp_le (a := ((byS i).length)) (b := j) (by omega) (by omega) c_33
            refine J_iconst E dX4_isWord_66 ic_1 ?_
            exact ret _ _ _ _ ⟨by rw [bI_t]; exact (isW_iff hn2 hs he hse hen).mpr ⟨c_5, n_21, fun y hy => h1 y (by omega)⟩, (congrArg (wTQ G h) (rfl))⟩ rfl dX4_isWord_67
          · skip
            have n_33 : ¬ ((byS i).length) ≤ j := cmp_nle (a := ((byS i).length)) (b := j) (by omega) (by omega) c_33
            refine J_aload_n E dX4_isWord_36 rfl 0 rfl ?_
            refine gTQ0_X4_9 E dX4_isWord_37 ?_
            refine gTQ1_X4_116 E dX4_isWord_40 ?_
            refine J_aload_n E dX4_isWord_43 rfl 0 rfl ?_
            refine gTQ0_X4_31 E dX4_isWord_44 ?_
            refine J_top (x' := nI s) (hs) ?_
            refine J_iload_n E dX4_isWord_47 rfl 2 rfl ?_
            refine J_iadd E dX4_isWord_48 ?_
            refine J_top (x' := nI (s + j)) (nI_add s j) ?_
            refine lTQ_2 E (j := (s + j)) dX4_isWord_49 (by omega) ?_
            refine J_aload_n E dX4_isWord_50 rfl 1 rfl ?_
            refine J_iload_n E dX4_isWord_51 rfl 2 rfl ?_
            refine J_callKi E (As := [.int (nI j)]) (i := i) hi (c_J0_charAt_5068e l G i j hi (by omega)) cl_X4_119 yo_J0_charAt_5068e dX4_isWord_52 rfl (Nat.le_of_ble_eq_true rfl) (Nat.le_of_ble_eq_true rfl) rfl (Nat.le_of_ble_eq_true rfl) ⟨Nat.zero_le _, Nat.zero_le _⟩ ?_
            refine J_icmp_eq E (tgt := 60) dX4_isWord_55 (by decide) (fun c_55 => ?_) (fun c_55 => ?_)
            · skip
              refine J_iinc E (lv' := [(2, .int (nI (j + 1))), (0, .ref (h 0)), (1, .ref (G.2.2.2.2.1 i))]) dX4_isWord_60 2 rfl (nI_inc _) (by decide) rfl ?_
              refine J_goto E (tgt := 28) dX4_isWord_63 (by decide) ?_
              refine J_lv [1, 2, 0] rfl ?_
              exact ih28 (j + 1) (by omega) (fun y hy => by rcases Nat.lt_succ_iff_lt_or_eq.mp hy with z | rfl; exact h1 y z; exact c_55) (by omega)
            · skip
              refine J_iconst E dX4_isWord_58 ic_0 ?_
              exact ret _ _ _ _ ⟨by rw [bI_f]; intro z; have z := (isW_iff hn2 hs he hse hen).mp z; exact c_55 (z.2.2 j (by omega)), (congrArg (wTQ G h) (rfl))⟩ rfl dX4_isWord_59
      refine J_lv [1, 2, 0] rfl ?_
      exact lp28 _ 0 (Nat.zero_le _) (fun y hy => absurd hy (Nat.not_lt_zero y)) (Nat.lt_succ_self _)
    · skip
      have n_21 : ¬ (e - s) = ((byS i).length) := cmp_ne (a := (e - s)) (b := ((byS i).length)) (by omega) (by omega) c_21
      refine J_iconst E dX4_isWord_24 ic_0 ?_
      exact ret _ _ _ _ ⟨by rw [bI_f]; intro z; have z := (isW_iff hn2 hs he hse hen).mp z; first | exact absurd z.1 c_5 | exact absurd z.2.1 n_21, (congrArg (wTQ G h) (rfl))⟩ rfl dX4_isWord_25

set_option maxHeartbeats 4000000 in
set_option maxRecDepth 20000 in
theorem c_X4_isNumber (l : Launch) (G : GB) (h : Nat → Nat) (q : Q3) (m : Int32) : CI l yX4_isNumber cX4_isNumber 2 .boolean 0 0 G [.ref (h 0), .int m] (wTQ G h q) (fun vR w' => vR = bI (isN q m = true) ∧ w' = wTQ G h q) := by
  refine CI.mk (own := RX4) (by decide) rfl (Nat.le_of_ble_eq_true rfl) ?_
  intro X E ret
  show J X G 2 0 0 (wTQ G h q) [(0, .ref (h 0)), (1, .int m)] 0 []
  refine J_aload_n E dX4_isNumber_0 rfl 0 rfl ?_
  refine gTQ0_X4_26 E dX4_isNumber_1 ?_
  refine J_iconst E dX4_isNumber_4 ic_2 ?_
  refine J_icmp_ne E (tgt := 20) dX4_isNumber_5 (by decide) (fun c_5 => ?_) (fun c_5 => ?_)
  · skip
    refine J_iconst E dX4_isNumber_20 ic_0 ?_
    exact ret _ _ _ _ ⟨by first | (rw [bI_t]; exact decide_eq_true ⟨c_5, Int32.not_lt.mp c_13⟩) | (rw [bI_f]; intro z; have z := of_decide_eq_true z; first | exact absurd z.1 c_5 | exact absurd z.2 (Int32.not_le.mpr c_13)), (congrArg (wTQ G h) (rfl))⟩ rfl dX4_isNumber_21
  · skip
    refine J_aload_n E dX4_isNumber_8 rfl 0 rfl ?_
    refine gTQ0_X4_51 E dX4_isNumber_9 ?_
    refine J_iload_n E dX4_isNumber_12 rfl 1 rfl ?_
    refine J_icmp_gt E (tgt := 20) dX4_isNumber_13 (by decide) (fun c_13 => ?_) (fun c_13 => ?_)
    · skip
      refine J_iconst E dX4_isNumber_20 ic_0 ?_
      exact ret _ _ _ _ ⟨by first | (rw [bI_t]; exact decide_eq_true ⟨c_5, Int32.not_lt.mp c_13⟩) | (rw [bI_f]; intro z; have z := of_decide_eq_true z; first | exact absurd z.1 c_5 | exact absurd z.2 (Int32.not_le.mpr c_13)), (congrArg (wTQ G h) (rfl))⟩ rfl dX4_isNumber_21
    · skip
      refine J_iconst E dX4_isNumber_16 ic_1 ?_
      refine J_goto E (tgt := 21) dX4_isNumber_17 (by decide) ?_
      exact ret _ _ _ _ ⟨by first | (rw [bI_t]; exact decide_eq_true ⟨c_5, Int32.not_lt.mp c_13⟩) | (rw [bI_f]; intro z; have z := of_decide_eq_true z; first | exact absurd z.1 c_5 | exact absurd z.2 (Int32.not_le.mpr c_13)), (congrArg (wTQ G h) (rfl))⟩ rfl dX4_isNumber_21

set_option maxHeartbeats 4000000 in
set_option maxRecDepth 20000 in
theorem c_X4_nameOf_0 (l : Launch) (G : GB)  : CR l yX4_nameOf cX4_nameOf 1 (.object "java/lang/String") 0 0 G [.int (nI 0)] ([]) (fun vR w' => vR = G.2.2.2.2.1 7 ∧ w' = []) := by
  refine CR.mk (own := RX4) (by decide) rfl (Nat.le_of_ble_eq_true rfl) ?_
  intro X E ret
  show J X G 1 0 0 ([]) [(0, .int (nI 0))] 0 []
  refine J_iload_n E dX4_nameOf_0 rfl 0 rfl ?_
  refine J_tabOut E (tgt := 58) dX4_nameOf_1 (by decide) (by decide) ?_
  refine J_ldcS E (q := 7) rfl dX4_nameOf_58 ?_
  exact ret _ _ _ _ ⟨rfl, rfl⟩ (Or.inl ⟨_, rfl⟩) dX4_nameOf_60

set_option maxHeartbeats 4000000 in
set_option maxRecDepth 20000 in
theorem c_X4_nameOf_1 (l : Launch) (G : GB)  : CR l yX4_nameOf cX4_nameOf 1 (.object "java/lang/String") 0 0 G [.int (nI 1)] ([]) (fun vR w' => vR = G.2.2.2.2.1 1 ∧ w' = []) := by
  refine CR.mk (own := RX4) (by decide) rfl (Nat.le_of_ble_eq_true rfl) ?_
  intro X E ret
  show J X G 1 0 0 ([]) [(0, .int (nI 1))] 0 []
  refine J_iload_n E dX4_nameOf_0 rfl 0 rfl ?_
  refine J_tabIn E (tgt := 40) (off := 39) dX4_nameOf_1 (by decide) (by decide) rfl (by decide) ?_
  refine J_ldcS E (q := 1) rfl dX4_nameOf_40 ?_
  exact ret _ _ _ _ ⟨rfl, rfl⟩ (Or.inl ⟨_, rfl⟩) dX4_nameOf_42

set_option maxHeartbeats 4000000 in
set_option maxRecDepth 20000 in
theorem c_X4_nameOf_2 (l : Launch) (G : GB)  : CR l yX4_nameOf cX4_nameOf 1 (.object "java/lang/String") 0 0 G [.int (nI 2)] ([]) (fun vR w' => vR = G.2.2.2.2.1 2 ∧ w' = []) := by
  refine CR.mk (own := RX4) (by decide) rfl (Nat.le_of_ble_eq_true rfl) ?_
  intro X E ret
  show J X G 1 0 0 ([]) [(0, .int (nI 2))] 0 []
  refine J_iload_n E dX4_nameOf_0 rfl 0 rfl ?_
  refine J_tabIn E (tgt := 43) (off := 42) dX4_nameOf_1 (by decide) (by decide) rfl (by decide) ?_
  refine J_ldcS E (q := 2) rfl dX4_nameOf_43 ?_
  exact ret _ _ _ _ ⟨rfl, rfl⟩ (Or.inl ⟨_, rfl⟩) dX4_nameOf_45

set_option maxHeartbeats 4000000 in
set_option maxRecDepth 20000 in
theorem c_X4_nameOf_3 (l : Launch) (G : GB)  : CR l yX4_nameOf cX4_nameOf 1 (.object "java/lang/String") 0 0 G [.int (nI 3)] ([]) (fun vR w' => vR = G.2.2.2.2.1 3 ∧ w' = []) := by
  refine CR.mk (own := RX4) (by decide) rfl (Nat.le_of_ble_eq_true rfl) ?_
  intro X E ret
  show J X G 1 0 0 ([]) [(0, .int (nI 3))] 0 []
  refine J_iload_n E dX4_nameOf_0 rfl 0 rfl ?_
  refine J_tabIn E (tgt := 46) (off := 45) dX4_nameOf_1 (by decide) (by decide) rfl (by decide) ?_
  refine J_ldcS E (q := 3) rfl dX4_nameOf_46 ?_
  exact ret _ _ _ _ ⟨rfl, rfl⟩ (Or.inl ⟨_, rfl⟩) dX4_nameOf_48

set_option maxHeartbeats 4000000 in
set_option maxRecDepth 20000 in
theorem c_X4_nameOf_4 (l : Launch) (G : GB)  : CR l yX4_nameOf cX4_nameOf 1 (.object "java/lang/String") 0 0 G [.int (nI 4)] ([]) (fun vR w' => vR = G.2.2.2.2.1 4 ∧ w' = []) := by
  refine CR.mk (own := RX4) (by decide) rfl (Nat.le_of_ble_eq_true rfl) ?_
  intro X E ret
  show J X G 1 0 0 ([]) [(0, .int (nI 4))] 0 []
  refine J_iload_n E dX4_nameOf_0 rfl 0 rfl ?_
  refine J_tabIn E (tgt := 49) (off := 48) dX4_nameOf_1 (by decide) (by decide) rfl (by decide) ?_
  refine J_ldcS E (q := 4) rfl dX4_nameOf_49 ?_
  exact ret _ _ _ _ ⟨rfl, rfl⟩ (Or.inl ⟨_, rfl⟩) dX4_nameOf_51

set_option maxHeartbeats 4000000 in
set_option maxRecDepth 20000 in
theorem c_X4_nameOf_5 (l : Launch) (G : GB)  : CR l yX4_nameOf cX4_nameOf 1 (.object "java/lang/String") 0 0 G [.int (nI 5)] ([]) (fun vR w' => vR = G.2.2.2.2.1 5 ∧ w' = []) := by
  refine CR.mk (own := RX4) (by decide) rfl (Nat.le_of_ble_eq_true rfl) ?_
  intro X E ret
  show J X G 1 0 0 ([]) [(0, .int (nI 5))] 0 []
  refine J_iload_n E dX4_nameOf_0 rfl 0 rfl ?_
  refine J_tabIn E (tgt := 52) (off := 51) dX4_nameOf_1 (by decide) (by decide) rfl (by decide) ?_
  refine J_ldcS E (q := 5) rfl dX4_nameOf_52 ?_
  exact ret _ _ _ _ ⟨rfl, rfl⟩ (Or.inl ⟨_, rfl⟩) dX4_nameOf_54

set_option maxHeartbeats 4000000 in
set_option maxRecDepth 20000 in
theorem c_X4_nameOf_6 (l : Launch) (G : GB)  : CR l yX4_nameOf cX4_nameOf 1 (.object "java/lang/String") 0 0 G [.int (nI 6)] ([]) (fun vR w' => vR = G.2.2.2.2.1 6 ∧ w' = []) := by
  refine CR.mk (own := RX4) (by decide) rfl (Nat.le_of_ble_eq_true rfl) ?_
  intro X E ret
  show J X G 1 0 0 ([]) [(0, .int (nI 6))] 0 []
  refine J_iload_n E dX4_nameOf_0 rfl 0 rfl ?_
  refine J_tabIn E (tgt := 55) (off := 54) dX4_nameOf_1 (by decide) (by decide) rfl (by decide) ?_
  refine J_ldcS E (q := 6) rfl dX4_nameOf_55 ?_
  exact ret _ _ _ _ ⟨rfl, rfl⟩ (Or.inl ⟨_, rfl⟩) dX4_nameOf_57

set_option maxHeartbeats 4000000 in
set_option maxRecDepth 20000 in
theorem c_X4_kindOfWord (l : Launch) (G : GB) (h : Nat → Nat) (q : Q3) (hq : okT q)  : CI l yX4_kindOfWord cX4_kindOfWord 2 .int 5 107 G [.ref (h 0)] (wTQ G h q) (fun vR w' => vR = kwF q ∧ w' = wTQ G h q) := by
  refine CI.mk (own := RX4) (by decide) rfl (Nat.le_of_ble_eq_true rfl) ?_
  intro X E ret
  show J X G 2 0 0 (wTQ G h q) [(0, .ref (h 0))] 0 []
  refine J_iconst E dX4_kindOfWord_0 ic_0 ?_
  refine J_istore_n E (lv' := [(1, .int 0), (0, .ref (h 0))]) dX4_kindOfWord_1 rfl (by decide) rfl ?_
  refine J_iload_n E dX4_kindOfWord_2 rfl 0 rfl ?_
  refine J_bipush E dX4_kindOfWord_3 bp_7 ?_
  refine J_icmp_ge E (tgt := 27) dX4_kindOfWord_5 (by decide) (fun c_5 => ?_) (fun c_5 => ?_)
  · skip
    have n_5 : 7 ≤ 0 := cmp_le (a := 7) (b := 0) (by omega) (by omega) c_5
    exact absurd n_5 (by decide)
  · skip
    have n_5 : ¬ 7 ≤ 0 := cmp_nle (a := 7) (b := 0) (by omega) (by omega) c_5
    refine J_aload_n E dX4_kindOfWord_8 rfl 1 rfl ?_
    refine J_iload_n E dX4_kindOfWord_9 rfl 0 rfl ?_
    refine J_cSrN E (As := [.int 0]) (c_X4_nameOf_0 l G ) cl_X4_93 yo_X4_nameOf dX4_kindOfWord_10 rfl (Nat.le_of_ble_eq_true rfl) (Nat.le_of_ble_eq_true rfl) rfl (Nat.le_of_ble_eq_true rfl) ⟨Nat.zero_le _, Nat.zero_le _⟩ ?_
    refine J_cVi0 E (As := [.ref (G.2.2.2.2.1 7)]) (c_X4_isWord l G h q 7 (by decide) hq) cl_X4_36 yo_X4_isWord dX4_kindOfWord_13 rfl rfl rfl (Nat.le_of_ble_eq_true rfl) (Nat.le_of_ble_eq_true rfl) rfl (Nat.le_of_ble_eq_true rfl) ⟨Nat.zero_le _, Nat.zero_le _⟩ ?_
    refine J_if_eq E (tgt := 21) dX4_kindOfWord_16 (by decide) (fun c_16 => ?_) (fun c_16 => ?_)
    · skip
      have c_16 := bI_0 c_16
      refine J_iinc E (lv' := [(1, .int (nI 1)), (0, .ref (h 0))]) dX4_kindOfWord_21 0 rfl (nI_inc _) (by decide) rfl ?_
      refine J_goto E (tgt := 2) dX4_kindOfWord_24 (by decide) ?_
      refine J_iload_n E dX4_kindOfWord_2 rfl 0 rfl ?_
      refine J_bipush E dX4_kindOfWord_3 bp_7 ?_
      refine J_icmp_ge E (tgt := 27) dX4_kindOfWord_5 (by decide) (fun c_5 => ?_) (fun c_5 => ?_)
      · skip
        have n_5 : 7 ≤ 1 := cmp_le (a := 7) (b := 1) (by omega) (by omega) c_5
        exact absurd n_5 (by decide)
      · skip
        have n_5 : ¬ 7 ≤ 1 := cmp_nle (a := 7) (b := 1) (by omega) (by omega) c_5
        refine J_aload_n E dX4_kindOfWord_8 rfl 1 rfl ?_
        refine J_iload_n E dX4_kindOfWord_9 rfl 0 rfl ?_
        refine J_cSrN E (As := [.int (nI 1)]) (c_X4_nameOf_1 l G ) cl_X4_93 yo_X4_nameOf dX4_kindOfWord_10 rfl (Nat.le_of_ble_eq_true rfl) (Nat.le_of_ble_eq_true rfl) rfl (Nat.le_of_ble_eq_true rfl) ⟨Nat.zero_le _, Nat.zero_le _⟩ ?_
        refine J_cVi0 E (As := [.ref (G.2.2.2.2.1 1)]) (c_X4_isWord l G h q 1 (by decide) hq) cl_X4_36 yo_X4_isWord dX4_kindOfWord_13 rfl rfl rfl (Nat.le_of_ble_eq_true rfl) (Nat.le_of_ble_eq_true rfl) rfl (Nat.le_of_ble_eq_true rfl) ⟨Nat.zero_le _, Nat.zero_le _⟩ ?_
        refine J_if_eq E (tgt := 21) dX4_kindOfWord_16 (by decide) (fun c_16 => ?_) (fun c_16 => ?_)
        · skip
          have c_16 := bI_0 c_16
          refine J_iinc E (lv' := [(1, .int (nI 2)), (0, .ref (h 0))]) dX4_kindOfWord_21 0 rfl (nI_inc _) (by decide) rfl ?_
          refine J_goto E (tgt := 2) dX4_kindOfWord_24 (by decide) ?_
          refine J_iload_n E dX4_kindOfWord_2 rfl 0 rfl ?_
          refine J_bipush E dX4_kindOfWord_3 bp_7 ?_
          refine J_icmp_ge E (tgt := 27) dX4_kindOfWord_5 (by decide) (fun c_5 => ?_) (fun c_5 => ?_)
          · skip
            have n_5 : 7 ≤ 2 := cmp_le (a := 7) (b := 2) (by omega) (by omega) c_5
            exact absurd n_5 (by decide)
          · skip
            have n_5 : ¬ 7 ≤ 2 := cmp_nle (a := 7) (b := 2) (by omega) (by omega) c_5
            refine J_aload_n E dX4_kindOfWord_8 rfl 1 rfl ?_
            refine J_iload_n E dX4_kindOfWord_9 rfl 0 rfl ?_
            refine J_cSrN E (As := [.int (nI 2)]) (c_X4_nameOf_2 l G ) cl_X4_93 yo_X4_nameOf dX4_kindOfWord_10 rfl (Nat.le_of_ble_eq_true rfl) (Nat.le_of_ble_eq_true rfl) rfl (Nat.le_of_ble_eq_true rfl) ⟨Nat.zero_le _, Nat.zero_le _⟩ ?_
            refine J_cVi0 E (As := [.ref (G.2.2.2.2.1 2)]) (c_X4_isWord l G h q 2 (by decide) hq) cl_X4_36 yo_X4_isWord dX4_kindOfWord_13 rfl rfl rfl (Nat.le_of_ble_eq_true rfl) (Nat.le_of_ble_eq_true rfl) rfl (Nat.le_of_ble_eq_true rfl) ⟨Nat.zero_le _, Nat.zero_le _⟩ ?_
            refine J_if_eq E (tgt := 21) dX4_kindOfWord_16 (by decide) (fun c_16 => ?_) (fun c_16 => ?_)
            · skip
              have c_16 := bI_0 c_16
              refine J_iinc E (lv' := [(1, .int (nI 3)), (0, .ref (h 0))]) dX4_kindOfWord_21 0 rfl (nI_inc _) (by decide) rfl ?_
              refine J_goto E (tgt := 2) dX4_kindOfWord_24 (by decide) ?_
              refine J_iload_n E dX4_kindOfWord_2 rfl 0 rfl ?_
              refine J_bipush E dX4_kindOfWord_3 bp_7 ?_
              refine J_icmp_ge E (tgt := 27) dX4_kindOfWord_5 (by decide) (fun c_5 => ?_) (fun c_5 => ?_)
              · skip
                have n_5 : 7 ≤ 3 := cmp_le (a := 7) (b := 3) (by omega) (by omega) c_5
                exact absurd n_5 (by decide)
              · skip
                have n_5 : ¬ 7 ≤ 3 := cmp_nle (a := 7) (b := 3) (by omega) (by omega) c_5
                refine J_aload_n E dX4_kindOfWord_8 rfl 1 rfl ?_
                refine J_iload_n E dX4_kindOfWord_9 rfl 0 rfl ?_
                refine J_cSrN E (As := [.int (nI 3)]) (c_X4_nameOf_3 l G ) cl_X4_93 yo_X4_nameOf dX4_kindOfWord_10 rfl (Nat.le_of_ble_eq_true rfl) (Nat.le_of_ble_eq_true rfl) rfl (Nat.le_of_ble_eq_true rfl) ⟨Nat.zero_le _, Nat.zero_le _⟩ ?_
                refine J_cVi0 E (As := [.ref (G.2.2.2.2.1 3)]) (c_X4_isWord l G h q 3 (by decide) hq) cl_X4_36 yo_X4_isWord dX4_kindOfWord_13 rfl rfl rfl (Nat.le_of_ble_eq_true rfl) (Nat.le_of_ble_eq_true rfl) rfl (Nat.le_of_ble_eq_true rfl) ⟨Nat.zero_le _, Nat.zero_le _⟩ ?_
                refine J_if_eq E (tgt := 21) dX4_kindOfWord_16 (by decide) (fun c_16 => ?_) (fun c_16 => ?_)
                · skip
                  have c_16 := bI_0 c_16
                  refine J_iinc E (lv' := [(1, .int (nI 4)), (0, .ref (h 0))]) dX4_kindOfWord_21 0 rfl (nI_inc _) (by decide) rfl ?_
                  refine J_goto E (tgt := 2) dX4_kindOfWord_24 (by decide) ?_
                  refine J_iload_n E dX4_kindOfWord_2 rfl 0 rfl ?_
                  refine J_bipush E dX4_kindOfWord_3 bp_7 ?_
                  refine J_icmp_ge E (tgt := 27) dX4_kindOfWord_5 (by decide) (fun c_5 => ?_) (fun c_5 => ?_)
                  · skip
                    have n_5 : 7 ≤ 4 := cmp_le (a := 7) (b := 4) (by omega) (by omega) c_5
                    exact absurd n_5 (by decide)
                  · skip
                    have n_5 : ¬ 7 ≤ 4 := cmp_nle (a := 7) (b := 4) (by omega) (by omega) c_5
                    refine J_aload_n E dX4_kindOfWord_8 rfl 1 rfl ?_
                    refine J_iload_n E dX4_kindOfWord_9 rfl 0 rfl ?_
                    refine J_cSrN E (As := [.int (nI 4)]) (c_X4_nameOf_4 l G ) cl_X4_93 yo_X4_nameOf dX4_kindOfWord_10 rfl (Nat.le_of_ble_eq_true rfl) (Nat.le_of_ble_eq_true rfl) rfl (Nat.le_of_ble_eq_true rfl) ⟨Nat.zero_le _, Nat.zero_le _⟩ ?_
                    refine J_cVi0 E (As := [.ref (G.2.2.2.2.1 4)]) (c_X4_isWord l G h q 4 (by decide) hq) cl_X4_36 yo_X4_isWord dX4_kindOfWord_13 rfl rfl rfl (Nat.le_of_ble_eq_true rfl) (Nat.le_of_ble_eq_true rfl) rfl (Nat.le_of_ble_eq_true rfl) ⟨Nat.zero_le _, Nat.zero_le _⟩ ?_
                    refine J_if_eq E (tgt := 21) dX4_kindOfWord_16 (by decide) (fun c_16 => ?_) (fun c_16 => ?_)
                    · skip
                      have c_16 := bI_0 c_16
                      refine J_iinc E (lv' := [(1, .int (nI 5)), (0, .ref (h 0))]) dX4_kindOfWord_21 0 rfl (nI_inc _) (by decide) rfl ?_
                      refine J_goto E (tgt := 2) dX4_kindOfWord_24 (by decide) ?_
                      refine J_iload_n E dX4_kindOfWord_2 rfl 0 rfl ?_
                      refine J_bipush E dX4_kindOfWord_3 bp_7 ?_
                      refine J_icmp_ge E (tgt := 27) dX4_kindOfWord_5 (by decide) (fun c_5 => ?_) (fun c_5 => ?_)
                      · skip
                        have n_5 : 7 ≤ 5 := cmp_le (a := 7) (b := 5) (by omega) (by omega) c_5
                        exact absurd n_5 (by decide)
                      · skip
                        have n_5 : ¬ 7 ≤ 5 := cmp_nle (a := 7) (b := 5) (by omega) (by omega) c_5
                        refine J_aload_n E dX4_kindOfWord_8 rfl 1 rfl ?_
                        refine J_iload_n E dX4_kindOfWord_9 rfl 0 rfl ?_
                        refine J_cSrN E (As := [.int (nI 5)]) (c_X4_nameOf_5 l G ) cl_X4_93 yo_X4_nameOf dX4_kindOfWord_10 rfl (Nat.le_of_ble_eq_true rfl) (Nat.le_of_ble_eq_true rfl) rfl (Nat.le_of_ble_eq_true rfl) ⟨Nat.zero_le _, Nat.zero_le _⟩ ?_
                        refine J_cVi0 E (As := [.ref (G.2.2.2.2.1 5)]) (c_X4_isWord l G h q 5 (by decide) hq) cl_X4_36 yo_X4_isWord dX4_kindOfWord_13 rfl rfl rfl (Nat.le_of_ble_eq_true rfl) (Nat.le_of_ble_eq_true rfl) rfl (Nat.le_of_ble_eq_true rfl) ⟨Nat.zero_le _, Nat.zero_le _⟩ ?_
                        refine J_if_eq E (tgt := 21) dX4_kindOfWord_16 (by decide) (fun c_16 => ?_) (fun c_16 => ?_)
                        · skip
                          have c_16 := bI_0 c_16
                          refine J_iinc E (lv' := [(1, .int (nI 6)), (0, .ref (h 0))]) dX4_kindOfWord_21 0 rfl (nI_inc _) (by decide) rfl ?_
                          refine J_goto E (tgt := 2) dX4_kindOfWord_24 (by decide) ?_
                          refine J_iload_n E dX4_kindOfWord_2 rfl 0 rfl ?_
                          refine J_bipush E dX4_kindOfWord_3 bp_7 ?_
                          refine J_icmp_ge E (tgt := 27) dX4_kindOfWord_5 (by decide) (fun c_5 => ?_) (fun c_5 => ?_)
                          · skip
                            have n_5 : 7 ≤ 6 := cmp_le (a := 7) (b := 6) (by omega) (by omega) c_5
                            exact absurd n_5 (by decide)
                          · skip
                            have n_5 : ¬ 7 ≤ 6 := cmp_nle (a := 7) (b := 6) (by omega) (by omega) c_5
                            refine J_aload_n E dX4_kindOfWord_8 rfl 1 rfl ?_
                            refine J_iload_n E dX4_kindOfWord_9 rfl 0 rfl ?_
                            refine J_cSrN E (As := [.int (nI 6)]) (c_X4_nameOf_6 l G ) cl_X4_93 yo_X4_nameOf dX4_kindOfWord_10 rfl (Nat.le_of_ble_eq_true rfl) (Nat.le_of_ble_eq_true rfl) rfl (Nat.le_of_ble_eq_true rfl) ⟨Nat.zero_le _, Nat.zero_le _⟩ ?_
                            refine J_cVi0 E (As := [.ref (G.2.2.2.2.1 6)]) (c_X4_isWord l G h q 6 (by decide) hq) cl_X4_36 yo_X4_isWord dX4_kindOfWord_13 rfl rfl rfl (Nat.le_of_ble_eq_true rfl) (Nat.le_of_ble_eq_true rfl) rfl (Nat.le_of_ble_eq_true rfl) ⟨Nat.zero_le _, Nat.zero_le _⟩ ?_
                            refine J_if_eq E (tgt := 21) dX4_kindOfWord_16 (by decide) (fun c_16 => ?_) (fun c_16 => ?_)
                            · skip
                              have c_16 := bI_0 c_16
                              refine J_iinc E (lv' := [(1, .int (nI 7)), (0, .ref (h 0))]) dX4_kindOfWord_21 0 rfl (nI_inc _) (by decide) rfl ?_
                              refine J_goto E (tgt := 2) dX4_kindOfWord_24 (by decide) ?_
                              refine J_iload_n E dX4_kindOfWord_2 rfl 0 rfl ?_
                              refine J_bipush E dX4_kindOfWord_3 bp_7 ?_
                              refine J_icmp_ge E (tgt := 27) dX4_kindOfWord_5 (by decide) (fun c_5 => ?_) (fun c_5 => ?_)
                              · skip
                                have n_5 : 7 ≤ 7 := cmp_le (a := 7) (b := 7) (by omega) (by omega) c_5
                                refine J_iconst E dX4_kindOfWord_27 ic_m1 ?_
                                exact ret _ _ _ _ ⟨by unfold kwF; (repeat (first | rw [if_neg (by assumption)] | rw [if_pos (by assumption)])) <;> rfl, (congrArg (wTQ G h) (rfl))⟩ rfl dX4_kindOfWord_28
                              · skip
                                have n_5 : ¬ 7 ≤ 7 := cmp_nle (a := 7) (b := 7) (by omega) (by omega) c_5
                                exact absurd n_5 (by decide)
                            · skip
                              have c_16 := bI_1 c_16
                              refine J_iload_n E dX4_kindOfWord_19 rfl 0 rfl ?_
                              exact ret _ _ _ _ ⟨by unfold kwF; (repeat (first | rw [if_neg (by assumption)] | rw [if_pos (by assumption)])) <;> rfl, (congrArg (wTQ G h) (rfl))⟩ rfl dX4_kindOfWord_20
                        · skip
                          have c_16 := bI_1 c_16
                          refine J_iload_n E dX4_kindOfWord_19 rfl 0 rfl ?_
                          exact ret _ _ _ _ ⟨by unfold kwF; (repeat (first | rw [if_neg (by assumption)] | rw [if_pos (by assumption)])) <;> rfl, (congrArg (wTQ G h) (rfl))⟩ rfl dX4_kindOfWord_20
                    · skip
                      have c_16 := bI_1 c_16
                      refine J_iload_n E dX4_kindOfWord_19 rfl 0 rfl ?_
                      exact ret _ _ _ _ ⟨by unfold kwF; (repeat (first | rw [if_neg (by assumption)] | rw [if_pos (by assumption)])) <;> rfl, (congrArg (wTQ G h) (rfl))⟩ rfl dX4_kindOfWord_20
                · skip
                  have c_16 := bI_1 c_16
                  refine J_iload_n E dX4_kindOfWord_19 rfl 0 rfl ?_
                  exact ret _ _ _ _ ⟨by unfold kwF; (repeat (first | rw [if_neg (by assumption)] | rw [if_pos (by assumption)])) <;> rfl, (congrArg (wTQ G h) (rfl))⟩ rfl dX4_kindOfWord_20
            · skip
              have c_16 := bI_1 c_16
              refine J_iload_n E dX4_kindOfWord_19 rfl 0 rfl ?_
              exact ret _ _ _ _ ⟨by unfold kwF; (repeat (first | rw [if_neg (by assumption)] | rw [if_pos (by assumption)])) <;> rfl, (congrArg (wTQ G h) (rfl))⟩ rfl dX4_kindOfWord_20
        · skip
          have c_16 := bI_1 c_16
          refine J_iload_n E dX4_kindOfWord_19 rfl 0 rfl ?_
          exact ret _ _ _ _ ⟨by unfold kwF; (repeat (first | rw [if_neg (by assumption)] | rw [if_pos (by assumption)])) <;> rfl, (congrArg (wTQ G h) (rfl))⟩ rfl dX4_kindOfWord_20
    · skip
      have c_16 := bI_1 c_16
      refine J_iload_n E dX4_kindOfWord_19 rfl 0 rfl ?_
      exact ret _ _ _ _ ⟨by unfold kwF; (repeat (first | rw [if_neg (by assumption)] | rw [if_pos (by assumption)])) <;> rfl, (congrArg (wTQ G h) (rfl))⟩ rfl dX4_kindOfWord_20

set_option maxHeartbeats 4000000 in
set_option maxRecDepth 20000 in
theorem c_X4_readRain (l : Launch) (G : GB) (h : Nat → Nat) (q : Q3) (hq : okT q)  : CI l yX4_readRain cX4_readRain 2 .boolean 3 63 G [.ref (h 0), .ref (h 3)] (wTQ G h q) (fun vR w' => vR = bI (rrB q = true) ∧ w' = wTQ G h (rrX q)) := by
  refine CI.mk (own := RX4) (by decide) rfl (Nat.le_of_ble_eq_true rfl) ?_
  intro X E ret
  show J X G 2 0 0 (wTQ G h q) [(0, .ref (h 0)), (1, .ref (h 3))] 0 []
  refine J_aload_n E dX4_readRain_0 rfl 0 rfl ?_
  refine J_cVv0 E (As := []) (c_X4_nextToken l G h q hq.n) cl_X4_19 yo_X4_nextToken dX4_readRain_1 rfl rfl rfl (Nat.le_of_ble_eq_true rfl) (Nat.le_of_ble_eq_true rfl) rfl (Nat.le_of_ble_eq_true rfl) ⟨Nat.zero_le _, Nat.zero_le _⟩ ?_
  refine J_aload_n E dX4_readRain_4 rfl 0 rfl ?_
  refine J_sipush E dX4_readRain_5 sp_999 ?_
  refine J_cVi0 E (As := [.int 999]) (c_X4_isNumber l G h (nextX q) 999 ) cl_X4_47 yo_X4_isNumber dX4_readRain_8 rfl rfl rfl (Nat.le_of_ble_eq_true rfl) (Nat.le_of_ble_eq_true rfl) rfl (Nat.le_of_ble_eq_true rfl) ⟨Nat.zero_le _, Nat.zero_le _⟩ ?_
  refine J_if_ne E (tgt := 16) dX4_readRain_11 (by decide) (fun c_11 => ?_) (fun c_11 => ?_)
  · skip
    have c_11 := bI_1 c_11
    refine J_aload_n E dX4_readRain_16 rfl 1 rfl ?_
    refine J_aload_n E dX4_readRain_17 rfl 0 rfl ?_
    refine gTQ0_X4_51 E dX4_readRain_18 ?_
    refine pTQ3_X4_82 E dX4_readRain_21 ?_
    refine J_aload_n E dX4_readRain_24 rfl 0 rfl ?_
    refine J_cVv0 E (As := []) (c_X4_nextToken l G h (up3 (nextX q) 0 7 2 ((nextX q) 6 1 3)) (okT_up (okT_next hq.n) _ _ _).n) cl_X4_19 yo_X4_nextToken dX4_readRain_25 rfl rfl rfl (Nat.le_of_ble_eq_true rfl) (Nat.le_of_ble_eq_true rfl) rfl (Nat.le_of_ble_eq_true rfl) ⟨Nat.zero_le _, Nat.zero_le _⟩ ?_
    refine J_iconst E dX4_readRain_28 ic_1 ?_
    exact ret _ _ _ _ ⟨(bI_t (show rrB q = true from c_11)).symm, (congrArg (wTQ G h) (by rw [rrX, if_pos c_11]))⟩ rfl dX4_readRain_29
  · skip
    have c_11 := bI_0 c_11
    refine J_iconst E dX4_readRain_14 ic_0 ?_
    exact ret _ _ _ _ ⟨(bI_f (show ¬ rrB q = true from c_11)).symm, (congrArg (wTQ G h) (by rw [rrX, if_neg c_11]))⟩ rfl dX4_readRain_15

set_option maxHeartbeats 4000000 in
set_option maxRecDepth 20000 in
theorem c_X4_readPart_1 (l : Launch) (G : GB) (h : Nat → Nat) (q : Q3) (i j : Nat) (m : Int32) (hi : i < 27) (hj : j < 11) (hq : okT q) : CI l yX4_readPart cX4_readPart 5 .boolean 5 107 G [.ref (h 0), .ref (G.2.2.2.2.1 i), .ref (h 5), .int (nI j), .int m] (wTQ G h q) (fun vR w' => vR = bI (rpB q i m = true) ∧ w' = wTQ G h (rpX q i 1 j m)) := by
  refine CI.mk (own := RX4) (by decide) rfl (Nat.le_of_ble_eq_true rfl) ?_
  intro X E ret
  show J X G 5 0 0 (wTQ G h q) [(0, .ref (h 0)), (1, .ref (G.2.2.2.2.1 i)), (2, .ref (h 5)), (3, .int (nI j)), (4, .int m)] 0 []
  refine J_aload_n E dX4_readPart_0 rfl 0 rfl ?_
  refine J_aload_n E dX4_readPart_1 rfl 1 rfl ?_
  refine J_cVi0 E (As := [.ref (G.2.2.2.2.1 i)]) (c_X4_isWord l G h q i hi hq) cl_X4_36 yo_X4_isWord dX4_readPart_2 rfl rfl rfl (Nat.le_of_ble_eq_true rfl) (Nat.le_of_ble_eq_true rfl) rfl (Nat.le_of_ble_eq_true rfl) ⟨Nat.zero_le _, Nat.zero_le _⟩ ?_
  refine J_if_ne E (tgt := 10) dX4_readPart_5 (by decide) (fun c_5 => ?_) (fun c_5 => ?_)
  · skip
    have c_5 := bI_1 c_5
    refine J_aload_n E dX4_readPart_10 rfl 0 rfl ?_
    refine J_cVv0 E (As := []) (c_X4_nextToken l G h q hq.n) cl_X4_19 yo_X4_nextToken dX4_readPart_11 rfl rfl rfl (Nat.le_of_ble_eq_true rfl) (Nat.le_of_ble_eq_true rfl) rfl (Nat.le_of_ble_eq_true rfl) ⟨Nat.zero_le _, Nat.zero_le _⟩ ?_
    refine J_aload_n E dX4_readPart_14 rfl 0 rfl ?_
    refine J_iload E dX4_readPart_15 4 rfl ?_
    refine J_cVi0 E (As := [.int m]) (c_X4_isNumber l G h (nextX q) m ) cl_X4_47 yo_X4_isNumber dX4_readPart_17 rfl rfl rfl (Nat.le_of_ble_eq_true rfl) (Nat.le_of_ble_eq_true rfl) rfl (Nat.le_of_ble_eq_true rfl) ⟨Nat.zero_le _, Nat.zero_le _⟩ ?_
    refine J_if_ne E (tgt := 25) dX4_readPart_20 (by decide) (fun c_20 => ?_) (fun c_20 => ?_)
    · skip
      have c_20 := bI_1 c_20
      refine J_aload_n E dX4_readPart_25 rfl 2 rfl ?_
      refine J_iload_n E dX4_readPart_26 rfl 3 rfl ?_
      refine J_aload_n E dX4_readPart_27 rfl 0 rfl ?_
      refine gTQ0_X4_51 E dX4_readPart_28 ?_
      refine sTQ_5 E (j := j) dX4_readPart_31 (by omega) ?_
      refine J_aload_n E dX4_readPart_32 rfl 0 rfl ?_
      refine J_cVv0 E (As := []) (c_X4_nextToken l G h (up3 (nextX q) 0 1 j ((nextX q) 6 1 3)) (okT_up (okT_next hq.n) _ _ _).n) cl_X4_19 yo_X4_nextToken dX4_readPart_33 rfl rfl rfl (Nat.le_of_ble_eq_true rfl) (Nat.le_of_ble_eq_true rfl) rfl (Nat.le_of_ble_eq_true rfl) ⟨Nat.zero_le _, Nat.zero_le _⟩ ?_
      refine J_iconst E dX4_readPart_36 ic_1 ?_
      exact ret _ _ _ _ ⟨by rw [bI_t]; simp [rpB, c_5, c_20], (congrArg (wTQ G h) (by rw [rpX, if_pos c_5, if_pos c_20]))⟩ rfl dX4_readPart_37
    · skip
      have c_20 := bI_0 c_20
      refine J_iconst E dX4_readPart_23 ic_0 ?_
      exact ret _ _ _ _ ⟨by rw [bI_f]; simp [rpB, c_5, c_20], (congrArg (wTQ G h) (by rw [rpX, if_pos c_5, if_neg c_20]))⟩ rfl dX4_readPart_24
  · skip
    have c_5 := bI_0 c_5
    refine J_iconst E dX4_readPart_8 ic_1 ?_
    exact ret _ _ _ _ ⟨by rw [bI_t]; simp [rpB, c_5], (congrArg (wTQ G h) (by rw [rpX, if_neg c_5]))⟩ rfl dX4_readPart_9

set_option maxHeartbeats 4000000 in
set_option maxRecDepth 20000 in
theorem c_X4_readPart_2 (l : Launch) (G : GB) (h : Nat → Nat) (q : Q3) (i j : Nat) (m : Int32) (hi : i < 27) (hj : j < 11) (hq : okT q) : CI l yX4_readPart cX4_readPart 5 .boolean 5 107 G [.ref (h 0), .ref (G.2.2.2.2.1 i), .ref (h 6), .int (nI j), .int m] (wTQ G h q) (fun vR w' => vR = bI (rpB q i m = true) ∧ w' = wTQ G h (rpX q i 2 j m)) := by
  refine CI.mk (own := RX4) (by decide) rfl (Nat.le_of_ble_eq_true rfl) ?_
  intro X E ret
  show J X G 5 0 0 (wTQ G h q) [(0, .ref (h 0)), (1, .ref (G.2.2.2.2.1 i)), (2, .ref (h 6)), (3, .int (nI j)), (4, .int m)] 0 []
  refine J_aload_n E dX4_readPart_0 rfl 0 rfl ?_
  refine J_aload_n E dX4_readPart_1 rfl 1 rfl ?_
  refine J_cVi0 E (As := [.ref (G.2.2.2.2.1 i)]) (c_X4_isWord l G h q i hi hq) cl_X4_36 yo_X4_isWord dX4_readPart_2 rfl rfl rfl (Nat.le_of_ble_eq_true rfl) (Nat.le_of_ble_eq_true rfl) rfl (Nat.le_of_ble_eq_true rfl) ⟨Nat.zero_le _, Nat.zero_le _⟩ ?_
  refine J_if_ne E (tgt := 10) dX4_readPart_5 (by decide) (fun c_5 => ?_) (fun c_5 => ?_)
  · skip
    have c_5 := bI_1 c_5
    refine J_aload_n E dX4_readPart_10 rfl 0 rfl ?_
    refine J_cVv0 E (As := []) (c_X4_nextToken l G h q hq.n) cl_X4_19 yo_X4_nextToken dX4_readPart_11 rfl rfl rfl (Nat.le_of_ble_eq_true rfl) (Nat.le_of_ble_eq_true rfl) rfl (Nat.le_of_ble_eq_true rfl) ⟨Nat.zero_le _, Nat.zero_le _⟩ ?_
    refine J_aload_n E dX4_readPart_14 rfl 0 rfl ?_
    refine J_iload E dX4_readPart_15 4 rfl ?_
    refine J_cVi0 E (As := [.int m]) (c_X4_isNumber l G h (nextX q) m ) cl_X4_47 yo_X4_isNumber dX4_readPart_17 rfl rfl rfl (Nat.le_of_ble_eq_true rfl) (Nat.le_of_ble_eq_true rfl) rfl (Nat.le_of_ble_eq_true rfl) ⟨Nat.zero_le _, Nat.zero_le _⟩ ?_
    refine J_if_ne E (tgt := 25) dX4_readPart_20 (by decide) (fun c_20 => ?_) (fun c_20 => ?_)
    · skip
      have c_20 := bI_1 c_20
      refine J_aload_n E dX4_readPart_25 rfl 2 rfl ?_
      refine J_iload_n E dX4_readPart_26 rfl 3 rfl ?_
      refine J_aload_n E dX4_readPart_27 rfl 0 rfl ?_
      refine gTQ0_X4_51 E dX4_readPart_28 ?_
      refine sTQ_6 E (j := j) dX4_readPart_31 (by omega) ?_
      refine J_aload_n E dX4_readPart_32 rfl 0 rfl ?_
      refine J_cVv0 E (As := []) (c_X4_nextToken l G h (up3 (nextX q) 0 2 j ((nextX q) 6 1 3)) (okT_up (okT_next hq.n) _ _ _).n) cl_X4_19 yo_X4_nextToken dX4_readPart_33 rfl rfl rfl (Nat.le_of_ble_eq_true rfl) (Nat.le_of_ble_eq_true rfl) rfl (Nat.le_of_ble_eq_true rfl) ⟨Nat.zero_le _, Nat.zero_le _⟩ ?_
      refine J_iconst E dX4_readPart_36 ic_1 ?_
      exact ret _ _ _ _ ⟨by rw [bI_t]; simp [rpB, c_5, c_20], (congrArg (wTQ G h) (by rw [rpX, if_pos c_5, if_pos c_20]))⟩ rfl dX4_readPart_37
    · skip
      have c_20 := bI_0 c_20
      refine J_iconst E dX4_readPart_23 ic_0 ?_
      exact ret _ _ _ _ ⟨by rw [bI_f]; simp [rpB, c_5, c_20], (congrArg (wTQ G h) (by rw [rpX, if_pos c_5, if_neg c_20]))⟩ rfl dX4_readPart_24
  · skip
    have c_5 := bI_0 c_5
    refine J_iconst E dX4_readPart_8 ic_1 ?_
    exact ret _ _ _ _ ⟨by rw [bI_t]; simp [rpB, c_5], (congrArg (wTQ G h) (by rw [rpX, if_neg c_5]))⟩ rfl dX4_readPart_9

set_option maxHeartbeats 4000000 in
set_option maxRecDepth 20000 in
theorem c_X4_readPart_3 (l : Launch) (G : GB) (h : Nat → Nat) (q : Q3) (i j : Nat) (m : Int32) (hi : i < 27) (hj : j < 11) (hq : okT q) : CI l yX4_readPart cX4_readPart 5 .boolean 5 107 G [.ref (h 0), .ref (G.2.2.2.2.1 i), .ref (h 7), .int (nI j), .int m] (wTQ G h q) (fun vR w' => vR = bI (rpB q i m = true) ∧ w' = wTQ G h (rpX q i 3 j m)) := by
  refine CI.mk (own := RX4) (by decide) rfl (Nat.le_of_ble_eq_true rfl) ?_
  intro X E ret
  show J X G 5 0 0 (wTQ G h q) [(0, .ref (h 0)), (1, .ref (G.2.2.2.2.1 i)), (2, .ref (h 7)), (3, .int (nI j)), (4, .int m)] 0 []
  refine J_aload_n E dX4_readPart_0 rfl 0 rfl ?_
  refine J_aload_n E dX4_readPart_1 rfl 1 rfl ?_
  refine J_cVi0 E (As := [.ref (G.2.2.2.2.1 i)]) (c_X4_isWord l G h q i hi hq) cl_X4_36 yo_X4_isWord dX4_readPart_2 rfl rfl rfl (Nat.le_of_ble_eq_true rfl) (Nat.le_of_ble_eq_true rfl) rfl (Nat.le_of_ble_eq_true rfl) ⟨Nat.zero_le _, Nat.zero_le _⟩ ?_
  refine J_if_ne E (tgt := 10) dX4_readPart_5 (by decide) (fun c_5 => ?_) (fun c_5 => ?_)
  · skip
    have c_5 := bI_1 c_5
    refine J_aload_n E dX4_readPart_10 rfl 0 rfl ?_
    refine J_cVv0 E (As := []) (c_X4_nextToken l G h q hq.n) cl_X4_19 yo_X4_nextToken dX4_readPart_11 rfl rfl rfl (Nat.le_of_ble_eq_true rfl) (Nat.le_of_ble_eq_true rfl) rfl (Nat.le_of_ble_eq_true rfl) ⟨Nat.zero_le _, Nat.zero_le _⟩ ?_
    refine J_aload_n E dX4_readPart_14 rfl 0 rfl ?_
    refine J_iload E dX4_readPart_15 4 rfl ?_
    refine J_cVi0 E (As := [.int m]) (c_X4_isNumber l G h (nextX q) m ) cl_X4_47 yo_X4_isNumber dX4_readPart_17 rfl rfl rfl (Nat.le_of_ble_eq_true rfl) (Nat.le_of_ble_eq_true rfl) rfl (Nat.le_of_ble_eq_true rfl) ⟨Nat.zero_le _, Nat.zero_le _⟩ ?_
    refine J_if_ne E (tgt := 25) dX4_readPart_20 (by decide) (fun c_20 => ?_) (fun c_20 => ?_)
    · skip
      have c_20 := bI_1 c_20
      refine J_aload_n E dX4_readPart_25 rfl 2 rfl ?_
      refine J_iload_n E dX4_readPart_26 rfl 3 rfl ?_
      refine J_aload_n E dX4_readPart_27 rfl 0 rfl ?_
      refine gTQ0_X4_51 E dX4_readPart_28 ?_
      refine sTQ_7 E (j := j) dX4_readPart_31 (by omega) ?_
      refine J_aload_n E dX4_readPart_32 rfl 0 rfl ?_
      refine J_cVv0 E (As := []) (c_X4_nextToken l G h (up3 (nextX q) 0 3 j ((nextX q) 6 1 3)) (okT_up (okT_next hq.n) _ _ _).n) cl_X4_19 yo_X4_nextToken dX4_readPart_33 rfl rfl rfl (Nat.le_of_ble_eq_true rfl) (Nat.le_of_ble_eq_true rfl) rfl (Nat.le_of_ble_eq_true rfl) ⟨Nat.zero_le _, Nat.zero_le _⟩ ?_
      refine J_iconst E dX4_readPart_36 ic_1 ?_
      exact ret _ _ _ _ ⟨by rw [bI_t]; simp [rpB, c_5, c_20], (congrArg (wTQ G h) (by rw [rpX, if_pos c_5, if_pos c_20]))⟩ rfl dX4_readPart_37
    · skip
      have c_20 := bI_0 c_20
      refine J_iconst E dX4_readPart_23 ic_0 ?_
      exact ret _ _ _ _ ⟨by rw [bI_f]; simp [rpB, c_5, c_20], (congrArg (wTQ G h) (by rw [rpX, if_pos c_5, if_neg c_20]))⟩ rfl dX4_readPart_24
  · skip
    have c_5 := bI_0 c_5
    refine J_iconst E dX4_readPart_8 ic_1 ?_
    exact ret _ _ _ _ ⟨by rw [bI_t]; simp [rpB, c_5], (congrArg (wTQ G h) (by rw [rpX, if_neg c_5]))⟩ rfl dX4_readPart_9

set_option maxHeartbeats 4000000 in
set_option maxRecDepth 20000 in
theorem c_X4_readSpout (l : Launch) (G : GB) (h : Nat → Nat) (q : Q3) (j : Nat) (hj : j < 11) (hq : okT q) : CI l yX4_readSpout cX4_readSpout 3 .boolean 5 107 G [.ref (h 0), .ref (h 3), .int (nI j)] (wTQ G h q) (fun vR w' => vR = 1 ∧ w' = wTQ G h (rsX q j)) := by
  refine CI.mk (own := RX4) (by decide) rfl (Nat.le_of_ble_eq_true rfl) ?_
  intro X E ret
  show J X G 3 0 0 (wTQ G h q) [(0, .ref (h 0)), (1, .ref (h 3)), (2, .int (nI j))] 0 []
  refine J_aload_n E dX4_readSpout_0 rfl 0 rfl ?_
  refine J_ldcS E (q := 11) rfl dX4_readSpout_1 ?_
  refine J_cVi0 E (As := [.ref (G.2.2.2.2.1 11)]) (c_X4_isWord l G h q 11 (by decide) hq) cl_X4_36 yo_X4_isWord dX4_readSpout_3 rfl rfl rfl (Nat.le_of_ble_eq_true rfl) (Nat.le_of_ble_eq_true rfl) rfl (Nat.le_of_ble_eq_true rfl) ⟨Nat.zero_le _, Nat.zero_le _⟩ ?_
  refine J_if_eq E (tgt := 23) dX4_readSpout_6 (by decide) (fun c_6 => ?_) (fun c_6 => ?_)
  · skip
    have c_6 := bI_0 c_6
    refine J_aload_n E dX4_readSpout_23 rfl 0 rfl ?_
    refine J_ldcS E (q := 12) rfl dX4_readSpout_24 ?_
    refine J_cVi0 E (As := [.ref (G.2.2.2.2.1 12)]) (c_X4_isWord l G h q 12 (by decide) hq) cl_X4_36 yo_X4_isWord dX4_readSpout_26 rfl rfl rfl (Nat.le_of_ble_eq_true rfl) (Nat.le_of_ble_eq_true rfl) rfl (Nat.le_of_ble_eq_true rfl) ⟨Nat.zero_le _, Nat.zero_le _⟩ ?_
    refine J_if_eq E (tgt := 43) dX4_readSpout_29 (by decide) (fun c_29 => ?_) (fun c_29 => ?_)
    · skip
      have c_29 := bI_0 c_29
      refine J_iconst E dX4_readSpout_43 ic_1 ?_
      exact ret _ _ _ _ ⟨rfl, (congrArg (wTQ G h) (by first | rw [rsX, if_pos c_6] | rw [rsX, if_neg c_6, if_pos c_29] | rw [rsX, if_neg c_6, if_neg c_29]))⟩ rfl dX4_readSpout_44
    · skip
      have c_29 := bI_1 c_29
      refine J_aload_n E dX4_readSpout_32 rfl 1 rfl ?_
      refine gTQ3_X4_86 E dX4_readSpout_33 ?_
      refine J_iload_n E dX4_readSpout_36 rfl 2 rfl ?_
      refine J_iconst E dX4_readSpout_37 ic_1 ?_
      refine sTQ_8 E (j := j) dX4_readSpout_38 (by omega) ?_
      refine J_aload_n E dX4_readSpout_39 rfl 0 rfl ?_
      refine J_cVv0 E (As := []) (c_X4_nextToken l G h (up3 q 0 4 j 1) (okT_up hq _ _ _).n) cl_X4_19 yo_X4_nextToken dX4_readSpout_40 rfl rfl rfl (Nat.le_of_ble_eq_true rfl) (Nat.le_of_ble_eq_true rfl) rfl (Nat.le_of_ble_eq_true rfl) ⟨Nat.zero_le _, Nat.zero_le _⟩ ?_
      refine J_iconst E dX4_readSpout_43 ic_1 ?_
      exact ret _ _ _ _ ⟨rfl, (congrArg (wTQ G h) (by first | rw [rsX, if_pos c_6] | rw [rsX, if_neg c_6, if_pos c_29] | rw [rsX, if_neg c_6, if_neg c_29]))⟩ rfl dX4_readSpout_44
  · skip
    have c_6 := bI_1 c_6
    refine J_aload_n E dX4_readSpout_9 rfl 1 rfl ?_
    refine gTQ3_X4_86 E dX4_readSpout_10 ?_
    refine J_iload_n E dX4_readSpout_13 rfl 2 rfl ?_
    refine J_iconst E dX4_readSpout_14 ic_0 ?_
    refine sTQ_8 E (j := j) dX4_readSpout_15 (by omega) ?_
    refine J_aload_n E dX4_readSpout_16 rfl 0 rfl ?_
    refine J_cVv0 E (As := []) (c_X4_nextToken l G h (up3 q 0 4 j 0) (okT_up hq _ _ _).n) cl_X4_19 yo_X4_nextToken dX4_readSpout_17 rfl rfl rfl (Nat.le_of_ble_eq_true rfl) (Nat.le_of_ble_eq_true rfl) rfl (Nat.le_of_ble_eq_true rfl) ⟨Nat.zero_le _, Nat.zero_le _⟩ ?_
    refine J_goto E (tgt := 43) dX4_readSpout_20 (by decide) ?_
    refine J_iconst E dX4_readSpout_43 ic_1 ?_
    exact ret _ _ _ _ ⟨rfl, (congrArg (wTQ G h) (by first | rw [rsX, if_pos c_6] | rw [rsX, if_neg c_6, if_pos c_29] | rw [rsX, if_neg c_6, if_neg c_29]))⟩ rfl dX4_readSpout_44

set_option maxHeartbeats 4000000 in
set_option maxRecDepth 20000 in
theorem c_X4_readItem (l : Launch) (G : GB) (h : Nat → Nat) (q : Q3) (hq : okT q)  : CI l yX4_readItem cX4_readItem 4 .boolean 6 131 G [.ref (h 0), .ref (h 3)] (wTQ G h q) (fun vR w' => vR = bI (riB q = true) ∧ w' = wTQ G h (riX q)) := by
  refine CI.mk (own := RX4) (by decide) rfl (Nat.le_of_ble_eq_true rfl) ?_
  intro X E ret
  show J X G 4 0 0 (wTQ G h q) [(0, .ref (h 0)), (1, .ref (h 3))] 0 []
  refine J_aload_n E dX4_readItem_0 rfl 0 rfl ?_
  refine J_ldcS E (q := 0) rfl dX4_readItem_1 ?_
  refine J_cVi0 E (As := [.ref (G.2.2.2.2.1 0)]) (c_X4_isWord l G h q 0 (by decide) hq) cl_X4_36 yo_X4_isWord dX4_readItem_3 rfl rfl rfl (Nat.le_of_ble_eq_true rfl) (Nat.le_of_ble_eq_true rfl) rfl (Nat.le_of_ble_eq_true rfl) ⟨Nat.zero_le _, Nat.zero_le _⟩ ?_
  refine J_if_eq E (tgt := 15) dX4_readItem_6 (by decide) (fun c_6 => ?_) (fun c_6 => ?_)
  · skip
    have c_6 := bI_0 c_6
    refine J_aload_n E dX4_readItem_15 rfl 0 rfl ?_
    refine J_cVi0 E (As := []) (c_X4_kindOfWord l G h q hq) cl_X4_43 yo_X4_kindOfWord dX4_readItem_16 rfl rfl rfl (Nat.le_of_ble_eq_true rfl) (Nat.le_of_ble_eq_true rfl) rfl (Nat.le_of_ble_eq_true rfl) ⟨Nat.zero_le _, Nat.zero_le _⟩ ?_
    refine J_istore_n E (lv' := [(2, .int (kwF q)), (0, .ref (h 0)), (1, .ref (h 3))]) dX4_readItem_19 rfl (by decide) rfl ?_
    refine J_iload_n E dX4_readItem_20 rfl 0 rfl ?_
    refine J_if_ge E (tgt := 26) dX4_readItem_21 (by decide) (fun c_21 => ?_) (fun c_21 => ?_)
    · skip
      have c_21 : ¬ kwF q < 0 := Int32.not_lt.mpr c_21
      refine J_aload_n E dX4_readItem_26 rfl 1 rfl ?_
      refine J_cVv0 E (As := []) (c_X4_nextToken l G h q hq.n) cl_X4_19 yo_X4_nextToken dX4_readItem_27 rfl rfl rfl (Nat.le_of_ble_eq_true rfl) (Nat.le_of_ble_eq_true rfl) rfl (Nat.le_of_ble_eq_true rfl) ⟨Nat.zero_le _, Nat.zero_le _⟩ ?_
      refine J_aload_n E dX4_readItem_30 rfl 1 rfl ?_
      refine J_bipush E dX4_readItem_31 bp_10 ?_
      refine J_cVi0 E (As := [.int 10]) (c_X4_isNumber l G h (nextX q) 10 ) cl_X4_47 yo_X4_isNumber dX4_readItem_33 rfl rfl rfl (Nat.le_of_ble_eq_true rfl) (Nat.le_of_ble_eq_true rfl) rfl (Nat.le_of_ble_eq_true rfl) ⟨Nat.zero_le _, Nat.zero_le _⟩ ?_
      refine J_if_ne E (tgt := 41) dX4_readItem_36 (by decide) (fun c_36 => ?_) (fun c_36 => ?_)
      · skip
        have c_36 := bI_1 c_36
        refine J_aload_n E dX4_readItem_41 rfl 1 rfl ?_
        refine gTQ0_X4_51 E dX4_readItem_42 ?_
        obtain ⟨j, hj, hjv, hjn⟩ := isN_num (m := 10) (by decide) hq.n c_36
        refine J_top (x' := nI j) (hjv) ?_
        refine J_istore_n E (lv' := [(3, .int (nI j)), (2, .int (kwF q)), (0, .ref (h 0)), (1, .ref (h 3))]) dX4_readItem_45 rfl (by decide) rfl ?_
        refine J_aload_n E dX4_readItem_46 rfl 3 rfl ?_
        refine gTQ3_X4_54 E dX4_readItem_47 ?_
        refine J_iload_n E dX4_readItem_50 rfl 0 rfl ?_
        refine J_iload_n E dX4_readItem_51 rfl 1 rfl ?_
        refine sTQ_4 E (j := j) dX4_readItem_52 (by omega) ?_
        refine J_aload_n E dX4_readItem_53 rfl 2 rfl ?_
        refine J_cVv0 E (As := []) (c_X4_nextToken l G h (up3 (nextX q) 0 0 j (kwF q)) (okT_up (okT_next hq.n) _ _ _).n) cl_X4_19 yo_X4_nextToken dX4_readItem_54 rfl rfl rfl (Nat.le_of_ble_eq_true rfl) (Nat.le_of_ble_eq_true rfl) rfl (Nat.le_of_ble_eq_true rfl) ⟨Nat.zero_le _, Nat.zero_le _⟩ ?_
        refine J_w (ws' := wTQ G h (riA q j)) (congrArg (wTQ G h) (rfl)) ?_
        refine J_aload_n E dX4_readItem_57 rfl 2 rfl ?_
        refine J_ldcS E (q := 8) rfl dX4_readItem_58 ?_
        refine J_aload_n E dX4_readItem_60 rfl 3 rfl ?_
        refine gTQ3_X4_62 E dX4_readItem_61 ?_
        refine J_iload_n E dX4_readItem_64 rfl 0 rfl ?_
        refine J_sipush E dX4_readItem_65 sp_9999 ?_
        refine J_cVi0 E (As := [.ref (G.2.2.2.2.1 8), .ref (h 5), .int (nI j), .int 9999]) (c_X4_readPart_1 l G h (riA q j) 8 j 9999 (by decide) (by omega) (show okT (riA q j) from (okT_next (okT_up (okT_next hq.n) _ _ _).n))) cl_X4_65 yo_X4_readPart dX4_readItem_68 rfl rfl rfl (Nat.le_of_ble_eq_true rfl) (Nat.le_of_ble_eq_true rfl) rfl (Nat.le_of_ble_eq_true rfl) ⟨Nat.zero_le _, Nat.zero_le _⟩ ?_
        refine J_if_eq E (tgt := 120) dX4_readItem_71 (by decide) (fun c_71 => ?_) (fun c_71 => ?_)
        · skip
          have c_71 := bI_0 c_71
          refine J_iconst E dX4_readItem_120 ic_0 ?_
          exact ret _ _ _ _ ⟨by first | exact (bI_f (by unfold riB; rw [if_neg c_6, if_neg c_21, if_pos c_36, hjn]; unfold ripB; first | (simp [c_71]; done) | (simp [c_71, c_87]; done) | (simp [c_71, c_87, c_104]; done))).symm | exact (bI_t (by unfold riB; rw [if_neg c_6, if_neg c_21, if_pos c_36, hjn]; unfold ripB; simp [c_71, c_87, c_104])).symm, (congrArg (wTQ G h) (by first | rw [riX, if_neg c_6, if_neg c_21, if_pos c_36, hjn, ripX, if_neg c_71] | rw [riX, if_neg c_6, if_neg c_21, if_pos c_36, hjn, ripX, if_pos c_71, if_neg c_87] | rw [riX, if_neg c_6, if_neg c_21, if_pos c_36, hjn, ripX, if_pos c_71, if_pos c_87, if_neg c_104] | rw [riX, if_neg c_6, if_neg c_21, if_pos c_36, hjn, ripX, if_pos c_71, if_pos c_87, if_pos c_104]))⟩ rfl dX4_readItem_121
        · skip
          have c_71 := bI_1 c_71
          refine J_aload_n E dX4_readItem_74 rfl 2 rfl ?_
          refine J_ldcS E (q := 9) rfl dX4_readItem_75 ?_
          refine J_aload_n E dX4_readItem_77 rfl 3 rfl ?_
          refine gTQ3_X4_71 E dX4_readItem_78 ?_
          refine J_iload_n E dX4_readItem_81 rfl 0 rfl ?_
          refine J_bipush E dX4_readItem_82 bp_99 ?_
          refine J_cVi0 E (As := [.ref (G.2.2.2.2.1 9), .ref (h 6), .int (nI j), .int 99]) (c_X4_readPart_2 l G h (rpX (riA q j) 8 1 j 9999) 9 j 99 (by decide) (by omega) (okT_rp (show okT (riA q j) from (okT_next (okT_up (okT_next hq.n) _ _ _).n)) _ _ _ _)) cl_X4_65 yo_X4_readPart dX4_readItem_84 rfl rfl rfl (Nat.le_of_ble_eq_true rfl) (Nat.le_of_ble_eq_true rfl) rfl (Nat.le_of_ble_eq_true rfl) ⟨Nat.zero_le _, Nat.zero_le _⟩ ?_
          refine J_if_eq E (tgt := 120) dX4_readItem_87 (by decide) (fun c_87 => ?_) (fun c_87 => ?_)
          · skip
            have c_87 := bI_0 c_87
            refine J_iconst E dX4_readItem_120 ic_0 ?_
            exact ret _ _ _ _ ⟨by first | exact (bI_f (by unfold riB; rw [if_neg c_6, if_neg c_21, if_pos c_36, hjn]; unfold ripB; first | (simp [c_71]; done) | (simp [c_71, c_87]; done) | (simp [c_71, c_87, c_104]; done))).symm | exact (bI_t (by unfold riB; rw [if_neg c_6, if_neg c_21, if_pos c_36, hjn]; unfold ripB; simp [c_71, c_87, c_104])).symm, (congrArg (wTQ G h) (by first | rw [riX, if_neg c_6, if_neg c_21, if_pos c_36, hjn, ripX, if_neg c_71] | rw [riX, if_neg c_6, if_neg c_21, if_pos c_36, hjn, ripX, if_pos c_71, if_neg c_87] | rw [riX, if_neg c_6, if_neg c_21, if_pos c_36, hjn, ripX, if_pos c_71, if_pos c_87, if_neg c_104] | rw [riX, if_neg c_6, if_neg c_21, if_pos c_36, hjn, ripX, if_pos c_71, if_pos c_87, if_pos c_104]))⟩ rfl dX4_readItem_121
          · skip
            have c_87 := bI_1 c_87
            refine J_aload_n E dX4_readItem_90 rfl 2 rfl ?_
            refine J_ldcS E (q := 10) rfl dX4_readItem_91 ?_
            refine J_aload_n E dX4_readItem_93 rfl 3 rfl ?_
            refine gTQ3_X4_76 E dX4_readItem_94 ?_
            refine J_iload_n E dX4_readItem_97 rfl 0 rfl ?_
            refine J_sipush E dX4_readItem_98 sp_999 ?_
            refine J_cVi0 E (As := [.ref (G.2.2.2.2.1 10), .ref (h 7), .int (nI j), .int 999]) (c_X4_readPart_3 l G h (rpX (rpX (riA q j) 8 1 j 9999) 9 2 j 99) 10 j 999 (by decide) (by omega) (okT_rp (okT_rp (show okT (riA q j) from (okT_next (okT_up (okT_next hq.n) _ _ _).n)) _ _ _ _) _ _ _ _)) cl_X4_65 yo_X4_readPart dX4_readItem_101 rfl rfl rfl (Nat.le_of_ble_eq_true rfl) (Nat.le_of_ble_eq_true rfl) rfl (Nat.le_of_ble_eq_true rfl) ⟨Nat.zero_le _, Nat.zero_le _⟩ ?_
            refine J_if_eq E (tgt := 120) dX4_readItem_104 (by decide) (fun c_104 => ?_) (fun c_104 => ?_)
            · skip
              have c_104 := bI_0 c_104
              refine J_iconst E dX4_readItem_120 ic_0 ?_
              exact ret _ _ _ _ ⟨by first | exact (bI_f (by unfold riB; rw [if_neg c_6, if_neg c_21, if_pos c_36, hjn]; unfold ripB; first | (simp [c_71]; done) | (simp [c_71, c_87]; done) | (simp [c_71, c_87, c_104]; done))).symm | exact (bI_t (by unfold riB; rw [if_neg c_6, if_neg c_21, if_pos c_36, hjn]; unfold ripB; simp [c_71, c_87, c_104])).symm, (congrArg (wTQ G h) (by first | rw [riX, if_neg c_6, if_neg c_21, if_pos c_36, hjn, ripX, if_neg c_71] | rw [riX, if_neg c_6, if_neg c_21, if_pos c_36, hjn, ripX, if_pos c_71, if_neg c_87] | rw [riX, if_neg c_6, if_neg c_21, if_pos c_36, hjn, ripX, if_pos c_71, if_pos c_87, if_neg c_104] | rw [riX, if_neg c_6, if_neg c_21, if_pos c_36, hjn, ripX, if_pos c_71, if_pos c_87, if_pos c_104]))⟩ rfl dX4_readItem_121
            · skip
              have c_104 := bI_1 c_104
              refine J_aload_n E dX4_readItem_107 rfl 2 rfl ?_
              refine J_aload_n E dX4_readItem_108 rfl 3 rfl ?_
              refine J_iload_n E dX4_readItem_109 rfl 0 rfl ?_
              refine J_cVi0 E (As := [.ref (h 3), .int (nI j)]) (c_X4_readSpout l G h (rpX (rpX (rpX (riA q j) 8 1 j 9999) 9 2 j 99) 10 3 j 999) j (by omega) (okT_rp (okT_rp (okT_rp (show okT (riA q j) from (okT_next (okT_up (okT_next hq.n) _ _ _).n)) _ _ _ _) _ _ _ _) _ _ _ _)) cl_X4_78 yo_X4_readSpout dX4_readItem_110 rfl rfl rfl (Nat.le_of_ble_eq_true rfl) (Nat.le_of_ble_eq_true rfl) rfl (Nat.le_of_ble_eq_true rfl) ⟨Nat.zero_le _, Nat.zero_le _⟩ ?_
              refine J_if_eq E (tgt := 120) dX4_readItem_113 (by decide) (fun c_113 => ?_) (fun c_113 => ?_)
              · skip
                have n_113 : 1 = 0 := cmp_eq (a := 1) (b := 0) (by omega) (by omega) c_113
                exact absurd n_113 (by decide)
              · skip
                have n_113 : ¬ 1 = 0 := cmp_ne (a := 1) (b := 0) (by omega) (by omega) c_113
                refine J_iconst E dX4_readItem_116 ic_1 ?_
                refine J_goto E (tgt := 121) dX4_readItem_117 (by decide) ?_
                exact ret _ _ _ _ ⟨by first | exact (bI_f (by unfold riB; rw [if_neg c_6, if_neg c_21, if_pos c_36, hjn]; unfold ripB; first | (simp [c_71]; done) | (simp [c_71, c_87]; done) | (simp [c_71, c_87, c_104]; done))).symm | exact (bI_t (by unfold riB; rw [if_neg c_6, if_neg c_21, if_pos c_36, hjn]; unfold ripB; simp [c_71, c_87, c_104])).symm, (congrArg (wTQ G h) (by first | rw [riX, if_neg c_6, if_neg c_21, if_pos c_36, hjn, ripX, if_neg c_71] | rw [riX, if_neg c_6, if_neg c_21, if_pos c_36, hjn, ripX, if_pos c_71, if_neg c_87] | rw [riX, if_neg c_6, if_neg c_21, if_pos c_36, hjn, ripX, if_pos c_71, if_pos c_87, if_neg c_104] | rw [riX, if_neg c_6, if_neg c_21, if_pos c_36, hjn, ripX, if_pos c_71, if_pos c_87, if_pos c_104]))⟩ rfl dX4_readItem_121
      · skip
        have c_36 := bI_0 c_36
        refine J_iconst E dX4_readItem_39 ic_0 ?_
        exact ret _ _ _ _ ⟨(bI_f (by unfold riB; rw [if_neg c_6, if_neg c_21, if_neg c_36]; decide)).symm, (congrArg (wTQ G h) (by rw [riX, if_neg c_6, if_neg c_21, if_neg c_36]))⟩ rfl dX4_readItem_40
    · skip
      have c_21 : kwF q < 0 := Int32.not_le.mp c_21
      refine J_iconst E dX4_readItem_24 ic_0 ?_
      exact ret _ _ _ _ ⟨(bI_f (by unfold riB; rw [if_neg c_6, if_pos c_21]; decide)).symm, (congrArg (wTQ G h) (by rw [riX, if_neg c_6, if_pos c_21]))⟩ rfl dX4_readItem_25
  · skip
    have c_6 := bI_1 c_6
    refine J_aload_n E dX4_readItem_9 rfl 0 rfl ?_
    refine J_aload_n E dX4_readItem_10 rfl 1 rfl ?_
    refine J_cVi0 E (As := [.ref (h 3)]) (c_X4_readRain l G h q hq) cl_X4_40 yo_X4_readRain dX4_readItem_11 rfl rfl rfl (Nat.le_of_ble_eq_true rfl) (Nat.le_of_ble_eq_true rfl) rfl (Nat.le_of_ble_eq_true rfl) ⟨Nat.zero_le _, Nat.zero_le _⟩ ?_
    exact ret _ _ _ _ ⟨by rw [show riB q = rrB q by unfold riB; rw [if_pos c_6]], (congrArg (wTQ G h) (by rw [riX, if_pos c_6]))⟩ bI_nar dX4_readItem_14

set_option maxHeartbeats 4000000 in
set_option maxRecDepth 20000 in
theorem c_X4_readInto (l : Launch) (G : GB) (h : Nat → Nat) (q : Q3) (n : Nat) (hn : q 7 1 0 = nI n) (hn2 : n ≤ 120)  : CI l yX4_readInto cX4_readInto 4 .int 7 154 G [.ref (h 0), .ref (h 3)] (wTQ G h q) (fun vR w' => vR = tlR (tl0 q) ∧ w' = wTQ G h ((tl0 q).2.1)) := by
  refine CI.mk (own := RX4) (by decide) rfl (Nat.le_of_ble_eq_true rfl) ?_
  intro X E ret
  show J X G 4 0 0 (wTQ G h q) [(0, .ref (h 0)), (1, .ref (h 3))] 0 []
  refine J_aload_n E dX4_readInto_0 rfl 0 rfl ?_
  refine J_iconst E dX4_readInto_1 ic_0 ?_
  refine pTQ0_X4_15 E dX4_readInto_2 ?_
  refine J_aload_n E dX4_readInto_5 rfl 0 rfl ?_
  refine J_cVv0 E (As := []) (c_X4_nextToken l G h (up3 q 6 1 1 0) ⟨n, 0, hn, hn2, rfl, Nat.zero_le _⟩) cl_X4_19 yo_X4_nextToken dX4_readInto_6 rfl rfl rfl (Nat.le_of_ble_eq_true rfl) (Nat.le_of_ble_eq_true rfl) rfl (Nat.le_of_ble_eq_true rfl) ⟨Nat.zero_le _, Nat.zero_le _⟩ ?_
  refine J_aload_n E dX4_readInto_9 rfl 0 rfl ?_
  refine J_aload_n E dX4_readInto_10 rfl 1 rfl ?_
  refine J_cVi0 E (As := [.ref (h 3)]) (c_X4_readItem l G h (nextX (up3 q 6 1 1 0)) (okT_next (show okN (up3 q 6 1 1 0) from ⟨n, 0, hn, hn2, rfl, Nat.zero_le _⟩))) cl_X4_22 yo_X4_readItem dX4_readInto_11 rfl rfl rfl (Nat.le_of_ble_eq_true rfl) (Nat.le_of_ble_eq_true rfl) rfl (Nat.le_of_ble_eq_true rfl) ⟨Nat.zero_le _, Nat.zero_le _⟩ ?_
  refine J_istore_n E (lv' := [(2, .int (bI (riB (nextX (up3 q 6 1 1 0)) = true))), (0, .ref (h 0)), (1, .ref (h 3))]) dX4_readInto_14 rfl (by decide) rfl ?_
  refine J_iconst E dX4_readInto_15 ic_1 ?_
  refine J_istore_n E (lv' := [(3, .int 1), (2, .int (bI (riB (nextX (up3 q 6 1 1 0)) = true))), (0, .ref (h 0)), (1, .ref (h 3))]) dX4_readInto_16 rfl (by decide) rfl ?_
  have lp17 : ∀ (fu : Nat) (b : Bool) (i : Nat) (S : Q3), (i ≤ 120) → (1 ≤ i) → (okT S) → (tl0 q = tlF (120 - i) b S i) → 120 - i < fu → J X G 4 0 0 (wTQ G h S) [(0, .ref (h 0)), (1, .ref (h 3)), (2, .int (bI (b = true))), (3, .int (nI i))] 17 [] := by
    intro fu
    induction fu with
    | zero => intro b i S hi h0 hS h1 hm; exact absurd hm (Nat.not_lt_zero _)
    | succ fu ih17 =>
      intro b i S hi h0 hS h1 hm
      refine J_iload_n E dX4_readInto_17 rfl 2 rfl ?_
      refine J_if_eq E (tgt := 51) dX4_readInto_18 (by decide) (fun c_18 => ?_) (fun c_18 => ?_)
      · skip
        have c_18 := bI_0 c_18
        have h2 : tl0 q = (b, S, i) := by rw [h1]; exact tlF_end (fun z => c_18 z.1)
        refine J_iload_n E dX4_readInto_51 rfl 2 rfl ?_
        refine J_if_eq E (tgt := 66) dX4_readInto_52 (by decide) (fun c_52 => ?_) (fun c_52 => ?_)
        · skip
          have c_52 := bI_0 c_52
          have hz : ¬ (b = true ∧ S 6 1 2 = 0) := fun z => c_52 z.1
          refine J_iconst E dX4_readInto_66 ic_m1 ?_
          refine J_aload_n E dX4_readInto_67 rfl 0 rfl ?_
          refine gTQ0_X4_31 E dX4_readInto_68 ?_
          refine J_isub E dX4_readInto_71 ?_
          exact ret _ _ _ _ ⟨by rw [h2]; unfold tlR; first | exact (if_pos hz).symm | exact (if_neg hz).symm, (congrArg (wTQ G h) (by rw [h2]))⟩ rfl dX4_readInto_72
        · skip
          have c_52 := bI_1 c_52
          refine J_aload_n E dX4_readInto_55 rfl 0 rfl ?_
          refine gTQ0_X4_26 E dX4_readInto_56 ?_
          refine J_if_ne E (tgt := 66) dX4_readInto_59 (by decide) (fun c_59 => ?_) (fun c_59 => ?_)
          · skip
            have hz : ¬ (b = true ∧ S 6 1 2 = 0) := fun z => c_59 z.2
            refine J_iconst E dX4_readInto_66 ic_m1 ?_
            refine J_aload_n E dX4_readInto_67 rfl 0 rfl ?_
            refine gTQ0_X4_31 E dX4_readInto_68 ?_
            refine J_isub E dX4_readInto_71 ?_
            exact ret _ _ _ _ ⟨by rw [h2]; unfold tlR; first | exact (if_pos hz).symm | exact (if_neg hz).symm, (congrArg (wTQ G h) (by rw [h2]))⟩ rfl dX4_readInto_72
          · skip
            have hz : b = true ∧ S 6 1 2 = 0 := ⟨c_52, c_59⟩
            refine J_iload_n E dX4_readInto_62 rfl 3 rfl ?_
            refine J_goto E (tgt := 72) dX4_readInto_63 (by decide) ?_
            exact ret _ _ _ _ ⟨by rw [h2]; unfold tlR; first | exact (if_pos hz).symm | exact (if_neg hz).symm, (congrArg (wTQ G h) (by rw [h2]))⟩ rfl dX4_readInto_72
      · skip
        have c_18 := bI_1 c_18
        refine J_aload_n E dX4_readInto_21 rfl 0 rfl ?_
        refine gTQ0_X4_26 E dX4_readInto_22 ?_
        refine J_iconst E dX4_readInto_25 ic_3 ?_
        refine J_icmp_ne E (tgt := 51) dX4_readInto_26 (by decide) (fun c_26 => ?_) (fun c_26 => ?_)
        · skip
          have h2 : tl0 q = (b, S, i) := by rw [h1]; exact tlF_end (fun z => c_26 z.2)
          refine J_iload_n E dX4_readInto_51 rfl 2 rfl ?_
          refine J_if_eq E (tgt := 66) dX4_readInto_52 (by decide) (fun c_52 => ?_) (fun c_52 => ?_)
          · skip
            have c_52 := bI_0 c_52
            have hz : ¬ (b = true ∧ S 6 1 2 = 0) := fun z => c_52 z.1
            refine J_iconst E dX4_readInto_66 ic_m1 ?_
            refine J_aload_n E dX4_readInto_67 rfl 0 rfl ?_
            refine gTQ0_X4_31 E dX4_readInto_68 ?_
            refine J_isub E dX4_readInto_71 ?_
            exact ret _ _ _ _ ⟨by rw [h2]; unfold tlR; first | exact (if_pos hz).symm | exact (if_neg hz).symm, (congrArg (wTQ G h) (by rw [h2]))⟩ rfl dX4_readInto_72
          · skip
            have c_52 := bI_1 c_52
            refine J_aload_n E dX4_readInto_55 rfl 0 rfl ?_
            refine gTQ0_X4_26 E dX4_readInto_56 ?_
            refine J_if_ne E (tgt := 66) dX4_readInto_59 (by decide) (fun c_59 => ?_) (fun c_59 => ?_)
            · skip
              have hz : ¬ (b = true ∧ S 6 1 2 = 0) := fun z => c_59 z.2
              refine J_iconst E dX4_readInto_66 ic_m1 ?_
              refine J_aload_n E dX4_readInto_67 rfl 0 rfl ?_
              refine gTQ0_X4_31 E dX4_readInto_68 ?_
              refine J_isub E dX4_readInto_71 ?_
              exact ret _ _ _ _ ⟨by rw [h2]; unfold tlR; first | exact (if_pos hz).symm | exact (if_neg hz).symm, (congrArg (wTQ G h) (by rw [h2]))⟩ rfl dX4_readInto_72
            · skip
              have hz : b = true ∧ S 6 1 2 = 0 := ⟨c_52, c_59⟩
              refine J_iload_n E dX4_readInto_62 rfl 3 rfl ?_
              refine J_goto E (tgt := 72) dX4_readInto_63 (by decide) ?_
              exact ret _ _ _ _ ⟨by rw [h2]; unfold tlR; first | exact (if_pos hz).symm | exact (if_neg hz).symm, (congrArg (wTQ G h) (by rw [h2]))⟩ rfl dX4_readInto_72
        · skip
          refine J_iload_n E dX4_readInto_29 rfl 3 rfl ?_
          refine J_bipush E dX4_readInto_30 bp_120 ?_
          refine J_icmp_ge E (tgt := 51) dX4_readInto_32 (by decide) (fun c_32 => ?_) (fun c_32 => ?_)
          · skip
            have n_32 : 120 ≤ i := cmp_le (a := 120) (b := i) (by omega) (by omega) c_32
            have h2 : tl0 q = (b, S, i) := by rw [h1, show 120 - i = 0 by omega]; rfl
            refine J_iload_n E dX4_readInto_51 rfl 2 rfl ?_
            refine J_if_eq E (tgt := 66) dX4_readInto_52 (by decide) (fun c_52 => ?_) (fun c_52 => ?_)
            · skip
              have c_52 := bI_0 c_52
              have hz : ¬ (b = true ∧ S 6 1 2 = 0) := fun z => c_52 z.1
              refine J_iconst E dX4_readInto_66 ic_m1 ?_
              refine J_aload_n E dX4_readInto_67 rfl 0 rfl ?_
              refine gTQ0_X4_31 E dX4_readInto_68 ?_
              refine J_isub E dX4_readInto_71 ?_
              exact ret _ _ _ _ ⟨by rw [h2]; unfold tlR; first | exact (if_pos hz).symm | exact (if_neg hz).symm, (congrArg (wTQ G h) (by rw [h2]))⟩ rfl dX4_readInto_72
            · skip
              have c_52 := bI_1 c_52
              refine J_aload_n E dX4_readInto_55 rfl 0 rfl ?_
              refine gTQ0_X4_26 E dX4_readInto_56 ?_
              refine J_if_ne E (tgt := 66) dX4_readInto_59 (by decide) (fun c_59 => ?_) (fun c_59 => ?_)
              · skip
                have hz : ¬ (b = true ∧ S 6 1 2 = 0) := fun z => c_59 z.2
                refine J_iconst E dX4_readInto_66 ic_m1 ?_
                refine J_aload_n E dX4_readInto_67 rfl 0 rfl ?_
                refine gTQ0_X4_31 E dX4_readInto_68 ?_
                refine J_isub E dX4_readInto_71 ?_
                exact ret _ _ _ _ ⟨by rw [h2]; unfold tlR; first | exact (if_pos hz).symm | exact (if_neg hz).symm, (congrArg (wTQ G h) (by rw [h2]))⟩ rfl dX4_readInto_72
              · skip
                have hz : b = true ∧ S 6 1 2 = 0 := ⟨c_52, c_59⟩
                refine J_iload_n E dX4_readInto_62 rfl 3 rfl ?_
                refine J_goto E (tgt := 72) dX4_readInto_63 (by decide) ?_
                exact ret _ _ _ _ ⟨by rw [h2]; unfold tlR; first | exact (if_pos hz).symm | exact (if_neg hz).symm, (congrArg (wTQ G h) (by rw [h2]))⟩ rfl dX4_readInto_72
          · skip
            have n_32 : ¬ 120 ≤ i := cmp_nle (a := 120) (b := i) (by omega) (by omega) c_32
            refine J_aload_n E dX4_readInto_35 rfl 0 rfl ?_
            refine J_cVv0 E (As := []) (c_X4_nextToken l G h S hS.n) cl_X4_19 yo_X4_nextToken dX4_readInto_36 rfl rfl rfl (Nat.le_of_ble_eq_true rfl) (Nat.le_of_ble_eq_true rfl) rfl (Nat.le_of_ble_eq_true rfl) ⟨Nat.zero_le _, Nat.zero_le _⟩ ?_
            refine J_aload_n E dX4_readInto_39 rfl 0 rfl ?_
            refine J_aload_n E dX4_readInto_40 rfl 1 rfl ?_
            refine J_cVi0 E (As := [.ref (h 3)]) (c_X4_readItem l G h (nextX S) (okT_next hS.n)) cl_X4_22 yo_X4_readItem dX4_readInto_41 rfl rfl rfl (Nat.le_of_ble_eq_true rfl) (Nat.le_of_ble_eq_true rfl) rfl (Nat.le_of_ble_eq_true rfl) ⟨Nat.zero_le _, Nat.zero_le _⟩ ?_
            refine J_istore_n E (lv' := [(2, .int (bI (riB (nextX S) = true))), (0, .ref (h 0)), (1, .ref (h 3)), (3, .int (nI i))]) dX4_readInto_44 rfl (by decide) rfl ?_
            refine J_iinc E (lv' := [(3, .int (nI (i + 1))), (2, .int (bI (riB (nextX S) = true))), (0, .ref (h 0)), (1, .ref (h 3))]) dX4_readInto_45 3 rfl (nI_inc _) (by decide) rfl ?_
            refine J_goto E (tgt := 17) dX4_readInto_48 (by decide) ?_
            refine J_lv [2, 3, 1, 0] rfl ?_
            exact ih17 (riB (nextX S)) (i + 1) (riX (nextX S)) (by omega) (by omega) (okT_ri (okT_next hS.n)) (by rw [h1, show 120 - i = (120 - (i + 1)) + 1 by omega, tlF, if_pos ⟨c_18, c_26⟩]) (by omega)
  refine J_lv [2, 3, 1, 0] rfl ?_
  exact lp17 _ (riB (nextX (up3 q 6 1 1 0))) 1 (riX (nextX (up3 q 6 1 1 0))) (by decide) (by decide) (okT_ri (okT_next (show okN (up3 q 6 1 1 0) from ⟨n, 0, hn, hn2, rfl, Nat.zero_le _⟩))) rfl (Nat.lt_succ_self _)

def hTQ (a : Nat → Nat) : Nat → Nat := fun k => if k = 0 then a 29 else if k = 1 then a 27 else if k = 2 then a 28 else a (14 + k)
def tqX (x : Q3) : Q3 := fun g => if g = 0 then x 2 else x g
/-- the object behind a text */ -/
def txX (x q : Q3) : Q3 := fun g => if g = 2 then q 0 else if g = 6 then (fun r => if r = 1 then q 6 1 else x 6 r) else x g
section PT
variable {α : Type} (c A B T F P r s R : List α)
theorem perm_tq : (c ++ (A ++ (B ++ (T ++ (F ++ (P ++ ((r ++ s) ++ R))))))).Perm ([] ++ ((r ++ (P ++ T)) ++ (c ++ (A ++ (B ++ (F ++ (s ++ R))))))) := by
  classical
  rw [List.perm_iff_count]
  intro z
  simp only [List.count_append, List.count_nil]
  omega
end PT
theorem tq_seg {G : GB} {a : Nat → Nat} {x : Q3} : wTQ G (hTQ a) (tqX x) = [(a 29, .inr (3, [.ref (a 27), .int (x 6 1 0), .int (x 6 1 1), .int (x 6 1 2), .int (x 6 1 3)]))] ++ (wT G (sh a 27) (x 7) ++ wQ G (sh a 17) (x 2)) := rfl

set_option maxHeartbeats 4000000 in
theorem J_tx {X : JX} {l : Launch} {G : GB} {cc : ByteArray} {nL fr lo kc ks pc : Nat} {lv : List (Nat × Value)} {rest : List Value} (E : JE X l G cc RX5 nL fr lo) {a : Nat → Nat} {x : Q3} {n : Nat} (hn : x 7 1 0 = nI n) (hn2 : n ≤ 120) (hd : decode cc pc = .ok (.invokevirtual 189, 3)) (hR1 : 8 ≤ fr) (hR2 : 177 ≤ lo) (hrm : (rest.map fun v => v.category).sum ≤ 8) (hk : kc ≤ X.1.2.2.2.1.cells ∧ ks ≤ X.1.2.2.2.1.slots) (K : J X G nL kc ks (wC G a (txX x (tl0 (tqX x)).2.1)) lv (pc + 3) (.int (tlR (tl0 (tqX x))) :: rest)) : J X G nL kc ks (wC G a x) lv pc (.ref (a 17) :: .ref (a 29) :: rest) := by
  have hp1 : List.Perm (wC G a x) ([] ++ (wTQ G (hTQ a) (tqX x) ++ (([(a 0, .inr (4, [.ref (a 1), .ref (a 9), .ref (a 17), .ref (a 25), .ref (a 27), .ref (a 29), .ref (a 30), .ref (a 26), .int (x 3 1 0)]))] ++ (wQ G (sh a 1) (x 0) ++ (wQ G (sh a 9) (x 1) ++ ([(a 25, .inl (G.2.1, 11, .inl (x 6 0))), (a 26, .inl (G.2.1, 7, .inl (x 3 0)))] ++ ([(a 30, .inl (G.2.2.1, 4, .inr (.inr (.inr (.inr (shR a))))))] ++ (wS G (sh a 31) (x 8) ++ (wS G (sh a 33) (x 9) ++ (wS G (sh a 35) (x 10) ++ wS G (sh a 37) (x 11))))))))) : va_W))) := perm_tq ([(a 0, .inr (4, [.ref (a 1), .ref (a 9), .ref (a 17), .ref (a 25), .ref (a 27), .ref (a 29), .ref (a 30), .ref (a 26), .int (x 3 1 0)]))]) (wQ G (sh a 1) (x 0)) (wQ G (sh a 9) (x 1)) (wQ G (sh a 17) (x 2)) ([(a 25, .inl (G.2.1, 11, .inl (x 6 0))), (a 26, .inl (G.2.1, 7, .inl (x 3 0)))]) (wT G (sh a 27) (x 7)) ([(a 29, .inr (3, [.ref (a 27), .int (x 6 1 0), .int (x 6 1 1), .int (x 6 1 2), .int (x 6 1 3)]))]) ([(a 30, .inl (G.2.2.1, 4, .inr (.inr (.inr (.inr (shR a))))))]) (wS G (sh a 31) (x 8) ++ (wS G (sh a 33) (x 9) ++ (wS G (sh a 35) (x 10) ++ wS G (sh a 37) (x 11))))
  refine J_perm hp1 ?_
  refine J_cVi1 E (As := [.ref (a 17)]) [] ([(a 0, .inr (4, [.ref (a 1), .ref (a 9), .ref (a 17), .ref (a 25), .ref (a 27), .ref (a 29), .ref (a 30), .ref (a 26), .int (x 3 1 0)]))] ++ (wQ G (sh a 1) (x 0) ++ (wQ G (sh a 9) (x 1) ++ ([(a 25, .inl (G.2.1, 11, .inl (x 6 0))), (a 26, .inl (G.2.1, 7, .inl (x 3 0)))] ++ ([(a 30, .inl (G.2.2.1, 4, .inr (.inr (.inr (.inr (shR a))))))] ++ (wS G (sh a 31) (x 8) ++ (wS G (sh a 33) (x 9) ++ (wS G (sh a 35) (x 10) ++ wS G (sh a 37) (x 11))))))))) (c_X4_readInto l G (hTQ a) (tqX x) n hn hn2) cl_X5_189 yo_X4_readInto hd rfl rfl rfl (Nat.le_trans (Nat.le_of_ble_eq_true rfl) hR1) (Nat.le_trans (Nat.le_of_ble_eq_true rfl) hR2) rfl hrm rfl hk ?_
  have h7 : (tl0 (tqX x)).2.1 7 = x 7 := tl0_7 (tqX x)
  refine J_perm (ws' := wC G a (txX x (tl0 (tqX x)).2.1)) ?_ K
  have hp := perm_tq ([(a 0, .inr (4, [.ref (a 1), .ref (a 9), .ref (a 17), .ref (a 25), .ref (a 27), .ref (a 29), .ref (a 30), .ref (a 26), .int (x 3 1 0)]))]) (wQ G (sh a 1) (x 0)) (wQ G (sh a 9) (x 1)) (wQ G (sh a 17) ((tl0 (tqX x)).2.1 0)) ([(a 25, .inl (G.2.1, 11, .inl (x 6 0))), (a 26, .inl (G.2.1, 7, .inl (x 3 0)))]) (wT G (sh a 27) ((tl0 (tqX x)).2.1 7)) ([(a 29, .inr (3, [.ref (a 27), .int ((tl0 (tqX x)).2.1 6 1 0), .int ((tl0 (tqX x)).2.1 6 1 1), .int ((tl0 (tqX x)).2.1 6 1 2), .int ((tl0 (tqX x)).2.1 6 1 3)]))]) ([(a 30, .inl (G.2.2.1, 4, .inr (.inr (.inr (.inr (shR a))))))]) (wS G (sh a 31) (x 8) ++ (wS G (sh a 33) (x 9) ++ (wS G (sh a 35) (x 10) ++ wS G (sh a 37) (x 11))))
  have hw : wC G a (txX x (tl0 (tqX x)).2.1) = ([(a 0, .inr (4, [.ref (a 1), .ref (a 9), .ref (a 17), .ref (a 25), .ref (a 27), .ref (a 29), .ref (a 30), .ref (a 26), .int (x 3 1 0)]))]) ++ ((wQ G (sh a 1) (x 0)) ++ ((wQ G (sh a 9) (x 1)) ++ ((wQ G (sh a 17) ((tl0 (tqX x)).2.1 0)) ++ (([(a 25, .inl (G.2.1, 11, .inl (x 6 0))), (a 26, .inl (G.2.1, 7, .inl (x 3 0)))]) ++ (wT G (sh a 27) ((tl0 (tqX x)).2.1 7) ++ ((([(a 29, .inr (3, [.ref (a 27), .int ((tl0 (tqX x)).2.1 6 1 0), .int ((tl0 (tqX x)).2.1 6 1 1), .int ((tl0 (tqX x)).2.1 6 1 2), .int ((tl0 (tqX x)).2.1 6 1 3)]))]) ++ [(a 30, .inl (G.2.2.1, 4, .inr (.inr (.inr (.inr (shR a))))))]) ++ (wS G (sh a 31) (x 8) ++ (wS G (sh a 33) (x 9) ++ (wS G (sh a 35) (x 10) ++ wS G (sh a 37) (x 11)))))))))) := by rw [h7]; rfl
  rw [hw]
  exact hp.symm

set_option maxHeartbeats 4000000 in
set_option maxRecDepth 20000 in
theorem c_X5_text (l : Launch) (G : GB) (a : Nat → Nat) (x : Q3) (n : Nat) (hn : x 7 1 0 = nI n) (hn2 : n ≤ 120) : CI l yX5_text cX5_text 2 .int 8 177 G [.ref (a 0)] (wC G a x) (fun vR w' => vR = tlR (tl0 (tqX (upG x 2 (x 0)))) ∧ PubC G a (up3 (upG x 0 (if tlR (tl0 (tqX (upG x 2 (x 0)))) ≤ 0 then x 0 else (tl0 (tqX (upG x 2 (x 0)))).2.1 0)) 7 1 0 0) w') := by
  refine CI.mk (own := RX5) (by decide) rfl (Nat.le_of_ble_eq_true rfl) ?_
  intro X E ret
  show J X G 2 0 0 (wC G a x) [(0, .ref (a 0))] 0 []
  refine J_aload_n E dX5_text_0 rfl 0 rfl ?_
  refine gC0_X5_19 E dX5_text_1 ?_
  refine J_aload_n E dX5_text_4 rfl 0 rfl ?_
  refine gC0_X5_10 E dX5_text_5 ?_
  refine J_b20 E dX5_text_8 (Nat.le_of_ble_eq_true rfl) (Nat.le_of_ble_eq_true rfl) (Nat.le_of_ble_eq_true rfl) ⟨Nat.zero_le _, Nat.zero_le _⟩ ?_
  refine J_aload_n E dX5_text_11 rfl 0 rfl ?_
  refine gC0_X5_38 E dX5_text_12 ?_
  refine J_aload_n E dX5_text_15 rfl 0 rfl ?_
  refine gC0_X5_19 E dX5_text_16 ?_
  refine J_tx E (n := n) hn hn2 dX5_text_19 (Nat.le_of_ble_eq_true rfl) (Nat.le_of_ble_eq_true rfl) (Nat.le_of_ble_eq_true rfl) ⟨Nat.zero_le _, Nat.zero_le _⟩ ?_
  refine J_istore_n E (lv' := [(1, .int (tlR (tl0 (tqX (upG x 2 (x 0)))))), (0, .ref (a 0))]) dX5_text_22 rfl (by decide) rfl ?_
  refine J_iload_n E dX5_text_23 rfl 0 rfl ?_
  refine J_if_le E (tgt := 38) dX5_text_24 (by decide) (fun c_24 => ?_) (fun c_24 => ?_)
  · skip
    refine J_aload_n E dX5_text_38 rfl 1 rfl ?_
    refine gC0_X5_29 E dX5_text_39 ?_
    refine J_iconst E dX5_text_42 ic_0 ?_
    refine pC27_X5_183 E dX5_text_43 ?_
    refine J_iload_n E dX5_text_46 rfl 0 rfl ?_
    exact ret _ _ _ _ ⟨rfl, _, rfl, by intro g h2 h6; (first | rw [if_neg c_24] | rw [if_pos c_24]); by_cases g0 : g = 0 <;> by_cases g7 : g = 7 <;> simp [upG, up3, txX, h2, h6, g0, g7]⟩ rfl dX5_text_47
  · skip
    refine J_aload_n E dX5_text_27 rfl 1 rfl ?_
    refine gC0_X5_10 E dX5_text_28 ?_
    refine J_aload_n E dX5_text_31 rfl 1 rfl ?_
    refine gC0_X5_19 E dX5_text_32 ?_
    refine J_b02 E dX5_text_35 (Nat.le_of_ble_eq_true rfl) (Nat.le_of_ble_eq_true rfl) (Nat.le_of_ble_eq_true rfl) ⟨Nat.zero_le _, Nat.zero_le _⟩ ?_
    refine J_aload_n E dX5_text_38 rfl 1 rfl ?_
    refine gC0_X5_29 E dX5_text_39 ?_
    refine J_iconst E dX5_text_42 ic_0 ?_
    refine pC27_X5_183 E dX5_text_43 ?_
    refine J_iload_n E dX5_text_46 rfl 0 rfl ?_
    exact ret _ _ _ _ ⟨rfl, _, rfl, by intro g h2 h6; (first | rw [if_neg c_24] | rw [if_pos c_24]); by_cases g0 : g = 0 <;> by_cases g7 : g = 7 <;> simp [upG, up3, txX, h2, h6, g0, g7]⟩ rfl dX5_text_47
