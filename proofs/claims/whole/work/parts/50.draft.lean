def kwF (q : Q3) : Int32 := if isW q 7 then 0 else if isW q 1 then 1 else if isW q 2 then 2 else if isW q 3 then 3 else if isW q 4 then 4 else if isW q 5 then 5 else if isW q 6 then 6 else -1
def rrB (q : Q3) : Bool := isN (nextX q) 999
def rrX (q : Q3) : Q3 := if isN (nextX q) 999 then nextX (up3 (nextX q) 0 7 2 (nextX q 6 1 3)) else nextX q
def rpB (q : Q3) (i : Nat) (m : Int32) : Bool := !isW q i || isN (nextX q) m
def rpX (q : Q3) (i r j : Nat) (m : Int32) : Q3 := if isW q i then (if isN (nextX q) m then nextX (up3 (nextX q) 0 r j (nextX q 6 1 3)) else nextX q) else q
def rsX (q : Q3) (j : Nat) : Q3 := if isW q 11 then nextX (up3 q 0 4 j 0) else if isW q 12 then nextX (up3 q 0 4 j 1) else q
def riA (q : Q3) (j : Nat) : Q3 := nextX (up3 (nextX q) 0 0 j (kwF q))
def ripB (a : Q3) (j : Nat) : Bool := rpB a 8 9999 && (rpB (rpX a 8 1 j 9999) 9 99 && rpB (rpX (rpX a 8 1 j 9999) 9 2 j 99) 10 999)
def ripX (a : Q3) (j : Nat) : Q3 := if rpB a 8 9999 then (if rpB (rpX a 8 1 j 9999) 9 99 then (if rpB (rpX (rpX a 8 1 j 9999) 9 2 j 99) 10 999 then rsX (rpX (rpX (rpX a 8 1 j 9999) 9 2 j 99) 10 3 j 999) j else rpX (rpX (rpX a 8 1 j 9999) 9 2 j 99) 10 3 j 999) else rpX (rpX a 8 1 j 9999) 9 2 j 99) else rpX a 8 1 j 9999
def numN (q : Q3) : Nat := (nextX q 6 1 3).toNatClampNeg
def riB (q : Q3) : Bool := if isW q 0 then rrB q else if kwF q < 0 then false else if isN (nextX q) 10 then ripB (riA q (numN q)) (numN q) else false
def riX (q : Q3) : Q3 := if isW q 0 then rrX q else if kwF q < 0 then q else if isN (nextX q) 10 then ripX (riA q (numN q)) (numN q) else nextX q
def tlF : Nat → Bool → Q3 → Nat → Bool × Q3 × Nat
  | 0, b, q, n => (b, q, n)
  | f + 1, b, q, n => if b = true ∧ q 6 1 2 = 3 then tlF f (riB (nextX q)) (riX (nextX q)) (n + 1) else (b, q, n)
theorem tlF_end {f n : Nat} {b : Bool} {q : Q3} (h : ¬ (b = true ∧ q 6 1 2 = 3)) : tlF f b q n = (b, q, n) := by
  cases f with
  | zero => rfl
  | succ f => rw [tlF, if_neg h]
def tl0 (q : Q3) : Bool × Q3 × Nat := tlF 119 (riB (nextX (up3 q 6 1 1 0))) (riX (nextX (up3 q 6 1 1 0))) 1
def tlR (t : Bool × Q3 × Nat) : Int32 := if t.1 = true ∧ t.2.1 6 1 2 = 0 then nI t.2.2 else -1 - t.2.1 6 1 0
theorem mn_le (x y : Int32) : mn x y ≤ x := by
  unfold mn
  split
  · rename_i h; exact Int32.le_of_lt h
  · exact Int32.le_refl _
theorem i32_le {x y : Int32} : x ≤ y ↔ x.toInt ≤ y.toInt := Int32.le_iff_toInt_le
theorem numF_in {f : Nat → Int32} {s : Nat} : ∀ k, (∀ i, i < k → 48 ≤ f (s + i) ∧ f (s + i) ≤ 57) → ∃ v : Nat, v ≤ 10000 ∧ numF f s k = nI v
  | 0, _ => ⟨0, by decide, rfl⟩
  | k + 1, h => by
    obtain ⟨v, hv, e⟩ := numF_in k (fun i hi => h i (by omega))
    obtain ⟨h1, h2⟩ := h k (by omega)
    obtain ⟨d, hd, e2⟩ := nI_of2 (x := f (s + k)) (M := 57) (n := 57) rfl (fun z => absurd (i32_le.mp h1) (by have := Int32.lt_iff_toInt_lt.mp z; have a0 : (0 : Int32).toInt = 0 := (by decide); have a1 : (48 : Int32).toInt = 48 := (by decide); omega)) h2
    rw [e2] at h1
    have hd2 : 48 ≤ d := cmp_le (a := 48) (b := d) (by decide) (by omega) h1
    have e3 : numF f s (k + 1) = mn 10000 (nI (v * 10 + (d - 48))) := by
      rw [numF, e, e2, show (10 : Int32) = nI 10 from rfl, pk_mul, nI_add, show (48 : Int32) = nI 48 from rfl, pk_sub (by omega), show v * 10 + d - 48 = v * 10 + (d - 48) by omega]
    rw [e3, mn]
    split
    · rename_i h3
      have := cmp_lt (a := v * 10 + (d - 48)) (b := 10000) (by omega) (by decide) h3
      exact ⟨v * 10 + (d - 48), by omega, rfl⟩
    · exact ⟨10000, by decide, rfl⟩
theorem tokK_2 {f : Nat → Int32} {n s : Nat} (h : tokK f n s = 2) : ¬ bet f n 97 122 s = true ∧ bet f n 48 57 s = true := by
  unfold tokK at h
  split at h
  · exact absurd h (by decide)
  · split at h
    · exact absurd h (by decide)
    · split at h
      · rename_i a b; exact ⟨a, b⟩
      · split at h <;> exact absurd h (by decide)
theorem nextX_num {q : Q3} (hq : okN q) (h : nextX q 6 1 2 = 2) : ∃ v : Nat, v ≤ 10000 ∧ nextX q 6 1 3 = nI v := by
  obtain ⟨n, e, hn, hn2, he, he2⟩ := hq
  have hx := nextX_eq hn hn2 he he2 rfl rfl rfl rfl
  rw [← hx] at h ⊢
  have h : tokK (q 7 0) n (tokS (q 7 0) n e) = 2 := h
  show ∃ v : Nat, v ≤ 10000 ∧ (if tokK (q 7 0) n (tokS (q 7 0) n e) = 2 then numF (q 7 0) (tokS (q 7 0) n e) (tokE (q 7 0) n (tokS (q 7 0) n e) - tokS (q 7 0) n e) else q 6 1 3) = nI v
  rw [if_pos h]
  obtain ⟨h1, h2⟩ := tokK_2 h
  refine numF_in _ (fun i hi => ?_)
  have e1 : tokE (q 7 0) n (tokS (q 7 0) n e) = endF (bet (q 7 0) n 48 57) (tokS (q 7 0) n e) := by rw [tokE, if_neg h1, if_pos h2]
  rw [e1] at hi
  have := endF_all (p := bet (q 7 0) n 48 57) (i := tokS (q 7 0) n e) (j := tokS (q 7 0) n e + i) (by omega) (by omega)
  exact (of_decide_eq_true this).2
theorem isN_num {q : Q3} {m : Nat} (hm : m < 10000) (hq : okN q) (h : isN (nextX q) (nI m) = true) : ∃ v : Nat, v ≤ m ∧ nextX q 6 1 3 = nI v ∧ numN q = v := by
  obtain ⟨h1, h2⟩ := of_decide_eq_true h
  obtain ⟨v, hv, e⟩ := nextX_num hq h1
  rw [e] at h2
  exact ⟨v, cmp_le (by omega) (by omega) h2, e, by rw [numN, e, nI_clamp (by omega)]⟩
theorem okT_rr {q : Q3} (h : okT q) : okT (rrX q) := by
  unfold rrX
  split
  · exact okT_next (okT_up (okT_next h.n) _ _ _).n
  · exact okT_next h.n
theorem okT_rp {q : Q3} (h : okT q) (i r j : Nat) (m : Int32) : okT (rpX q i r j m) := by
  unfold rpX
  split
  · split
    · exact okT_next (okT_up (okT_next h.n) _ _ _).n
    · exact okT_next h.n
  · exact h
theorem okT_rs {q : Q3} (h : okT q) (j : Nat) : okT (rsX q j) := by
  unfold rsX
  split
  · exact okT_next (okT_up h _ _ _).n
  · split
    · exact okT_next (okT_up h _ _ _).n
    · exact h
theorem okT_rip {q : Q3} (h : okT q) (j : Nat) : okT (ripX q j) := by
  unfold ripX
  split
  · split
    · split
      · exact okT_rs (okT_rp (okT_rp (okT_rp h _ _ _ _) _ _ _ _) _ _ _ _) _
      · exact okT_rp (okT_rp (okT_rp h _ _ _ _) _ _ _ _) _ _ _ _
    · exact okT_rp (okT_rp h _ _ _ _) _ _ _ _
  · exact okT_rp h _ _ _ _
theorem okT_ri {q : Q3} (h : okT q) : okT (riX q) := by
  unfold riX
  split
  · exact okT_rr h
  · split
    · exact h
    · split
      · exact okT_rip (okT_next (okT_up (okT_next h.n) _ _ _).n) _
      · exact okT_next h.n
theorem nextX_7 (q : Q3) : nextX q 7 = q 7 := by simp [nextX, upG]
theorem up0_7 (q : Q3) (r j : Nat) (v : Int32) : up3 q 0 r j v 7 = q 7 := by simp [up3]
theorem rr_7 (q : Q3) : rrX q 7 = q 7 := by unfold rrX; split <;> simp [nextX_7, up0_7]
theorem rp_7 (q : Q3) (i r j : Nat) (m : Int32) : rpX q i r j m 7 = q 7 := by
  unfold rpX
  split
  · split <;> simp [nextX_7, up0_7]
  · rfl
theorem rs_7 (q : Q3) (j : Nat) : rsX q j 7 = q 7 := by
  unfold rsX
  split
  · simp [nextX_7, up0_7]
  · split <;> simp [nextX_7, up0_7]
theorem rip_7 (q : Q3) (j : Nat) : ripX q j 7 = q 7 := by
  unfold ripX
  split
  · split
    · split
      · rw [rs_7, rp_7, rp_7, rp_7]
      · rw [rp_7, rp_7, rp_7]
    · rw [rp_7, rp_7]
  · rw [rp_7]
theorem ri_7 (q : Q3) : riX q 7 = q 7 := by
  unfold riX
  split
  · exact rr_7 q
  · split
    · rfl
    · split
      · rw [rip_7, riA, nextX_7, up0_7, nextX_7]
      · exact nextX_7 q
theorem tlF_7 : ∀ (f : Nat) (b : Bool) (q : Q3) (n : Nat), (tlF f b q n).2.1 7 = q 7
  | 0, _, _, _ => rfl
  | f + 1, b, q, n => by
    rw [tlF]
    split
    · rw [tlF_7, ri_7, nextX_7]
    · rfl
theorem tl0_7 (q : Q3) : (tl0 q).2.1 7 = q 7 := by
  rw [tl0, tlF_7, ri_7, nextX_7]; simp [up3]

set_option maxHeartbeats 4000000 in
set_option maxRecDepth 20000 in
theorem c_X4_isWord (l : Launch) (G : GB) (h : Nat → Nat) (q : Q3) (i : Nat) (hi : i < 27) (hq : okT q) : CI l yX4_isWord cX4_isWord 3 .boolean 4 85 G [.ref (h 0), .ref (G.2.2.2.2.1 i)] (wTQ G h q) (fun vR w' => vR = bI (isW q i = true) ∧ w' = wTQ G h q) := by
  refine CI.mk (own := RX4) (by decide) rfl (Nat.le_of_ble_eq_true rfl) ?_
  intro X E ret
  show J X G 3 0 0 (wTQ G h q) [(0, .ref (h 0)), (1, .ref (G.2.2.2.2.1 i))] 0 []
  obtain ⟨n, s, e, ⟨hn, hn2⟩, hs, he, hse, hen⟩ := hq
  have hL := byS_len i hi
  refine J_aload_n E dX4_isWord_0 rfl 0 rfl ?_
  refine gTQ0_X4_26 E dX4_isWord_1 ?_
  refine J_iconst E dX4_isWord_4 ic_1 ?_
  refine J_icmp_ne E (tgt := 24) dX4_isWord_5 (by decide) (fun c_5 => ?_) (fun c_5 => ?_)
  · skip
    refine J_iconst E dX4_isWord_24 ic_0 ?_
    exact ret _ _ _ _ ⟨by rw [bI_f]; intro z; have z := (isW_iff hn2 hs he hse hen).mp z; first | exact absurd z.1 c_5 | exact absurd z.2.1 n_21, (congrArg (wTQ G h) (rfl))⟩ rfl dX4_isWord_25
  · skip
    refine J_aload_n E dX4_isWord_8 rfl 0 rfl ?_
    refine gTQ0_X4_15 E dX4_isWord_9 ?_
    refine J_top (x' := nI e) (he) ?_
    refine J_aload_n E dX4_isWord_12 rfl 0 rfl ?_
    refine gTQ0_X4_31 E dX4_isWord_13 ?_
    refine J_top (x' := nI s) (hs) ?_
    refine J_isub E dX4_isWord_16 ?_
    refine J_top (x' := nI (e - s)) (pk_sub hse) ?_
    refine J_aload_n E dX4_isWord_17 rfl 1 rfl ?_
    refine J_callKi E (As := []) (i := i) hi (c_J0_length_8abf5 l G i hi) cl_X4_111 yo_J0_length_8abf5 dX4_isWord_18 rfl (Nat.le_of_ble_eq_true rfl) (Nat.le_of_ble_eq_true rfl) rfl (Nat.le_of_ble_eq_true rfl) ⟨Nat.zero_le _, Nat.zero_le _⟩ ?_
    refine J_icmp_eq E (tgt := 26) dX4_isWord_21 (by decide) (fun c_21 => ?_) (fun c_21 => ?_)
    · skip
      have n_21 : (e - s) = ((byS i).length) := cmp_eq (a := (e - s)) (b := ((byS i).length)) (by omega) (by omega) c_21
      refine J_iconst E dX4_isWord_26 ic_0 ?_
      refine J_istore_n E (lv' := [(2, .int 0), (0, .ref (h 0)), (1, .ref (G.2.2.2.2.1 i))]) dX4_isWord_27 rfl (by decide) rfl ?_
      have lp28 : ∀ (fu : Nat) (j : Nat), (j ≤ (byS i).length) → (∀ y, y < j → q 7 0 (s + y) = (byS i).getD y 0) → (byS i).length - j < fu → J X G 3 0 0 (wTQ G h q) [(0, .ref (h 0)), (1, .ref (G.2.2.2.2.1 i)), (2, .int (nI j))] 28 [] := by
        intro fu
        induction fu with
        | zero => intro j hj h1 hm; exact absurd hm (Nat.not_lt_zero _)
        | succ fu ih28 =>
          intro j hj h1 hm
          refine J_iload_n E dX4_isWord_28 rfl 2 rfl ?_
          refine J_aload_n E dX4_isWord_29 rfl 1 rfl ?_
          refine J_callKi E (As := []) (i := i) hi (c_J0_length_8abf5 l G i hi) cl_X4_111 yo_J0_length_8abf5 dX4_isWord_30 rfl (Nat.le_of_ble_eq_true rfl) (Nat.le_of_ble_eq_true rfl) rfl (Nat.le_of_ble_eq_true rfl) ⟨Nat.zero_le _, Nat.zero_le _⟩ ?_
          refine J_icmp_ge E (tgt := 66) dX4_isWord_33 (by decide) (fun c_33 => ?_) (fun c_33 => ?_)
          · skip
            have n_33 : ((byS i).length) ≤ j := cmp_le (a := ((byS i).length)) (b := j) (by omega) (by omega) c_33
            refine J_iconst E dX4_isWord_66 ic_1 ?_
            exact ret _ _ _ _ ⟨by rw [bI_t]; exact (isW_iff hn2 hs he hse hen).mpr ⟨c_5, n_21, fun y hy => h1 y (by omega)⟩, (congrArg (wTQ G h) (rfl))⟩ rfl dX4_isWord_67
          · skip
            have n_33 : ¬ ((byS i).length) ≤ j := cmp_nle (a := ((byS i).length)) (b := j) (by omega) (by omega) c_33
            refine J_aload_n E dX4_isWord_36 rfl 0 rfl ?_
            refine gTQ0_X4_9 E dX4_isWord_37 ?_
            refine gTQ1_X4_116 E dX4_isWord_40 ?_
            refine J_aload_n E dX4_isWord_43 rfl 0 rfl ?_
            refine gTQ0_X4_31 E dX4_isWord_44 ?_
            refine J_top (x' := nI s) (hs) ?_
            refine J_iload_n E dX4_isWord_47 rfl 2 rfl ?_
            refine J_iadd E dX4_isWord_48 ?_
            refine J_top (x' := nI (s + j)) (nI_add s j) ?_
            refine lTQ_2 E (j := (s + j)) dX4_isWord_49 (by omega) ?_
            refine J_aload_n E dX4_isWord_50 rfl 1 rfl ?_
            refine J_iload_n E dX4_isWord_51 rfl 2 rfl ?_
            refine J_callKi E (As := [.int (nI j)]) (i := i) hi (c_J0_charAt_5068e l G i j hi (by omega)) cl_X4_119 yo_J0_charAt_5068e dX4_isWord_52 rfl (Nat.le_of_ble_eq_true rfl) (Nat.le_of_ble_eq_true rfl) rfl (Nat.le_of_ble_eq_true rfl) ⟨Nat.zero_le _, Nat.zero_le _⟩ ?_
            refine J_icmp_eq E (tgt := 60) dX4_isWord_55 (by decide) (fun c_55 => ?_) (fun c_55 => ?_)
            · skip
              refine J_iinc E (lv' := [(2, .int (nI (j + 1))), (0, .ref (h 0)), (1, .ref (G.2.2.2.2.1 i))]) dX4_isWord_60 2 rfl (nI_inc _) (by decide) rfl ?_
              refine J_goto E (tgt := 28) dX4_isWord_63 (by decide) ?_
              refine J_lv [1, 2, 0] rfl ?_
              exact ih28 (j + 1) (by omega) (fun y hy => by rcases Nat.lt_succ_iff_lt_or_eq.mp hy with z | rfl; exact h1 y z; exact c_55) (by omega)
            · skip
              refine J_iconst E dX4_isWord_58 ic_0 ?_
              exact ret _ _ _ _ ⟨by rw [bI_f]; intro z; have z := (isW_iff hn2 hs he hse hen).mp z; exact c_55 (z.2.2 j (by omega)), (congrArg (wTQ G h) (rfl))⟩ rfl dX4_isWord_59
      refine J_lv [1, 2, 0] rfl ?_
      exact lp28 _ 0 (Nat.zero_le _) (fun y hy => absurd hy (Nat.not_lt_zero y)) (Nat.lt_succ_self _)
    · skip
      have n_21 : ¬ (e - s) = ((byS i).length) := cmp_ne (a := (e - s)) (b := ((byS i).length)) (by omega) (by omega) c_21
      refine J_iconst E dX4_isWord_24 ic_0 ?_
      exact ret _ _ _ _ ⟨by rw [bI_f]; intro z; have z := (isW_iff hn2 hs he hse hen).mp z; first | exact absurd z.1 c_5 | exact absurd z.2.1 n_21, (congrArg (wTQ G h) (rfl))⟩ rfl dX4_isWord_25

set_option maxHeartbeats 4000000 in
set_option maxRecDepth 20000 in
theorem c_X4_isNumber (l : Launch) (G : GB) (h : Nat → Nat) (q : Q3) (m : Int32) : CI l yX4_isNumber cX4_isNumber 2 .boolean 0 0 G [.ref (h 0), .int m] (wTQ G h q) (fun vR w' => vR = bI (isN q m = true) ∧ w' = wTQ G h q) := by
  refine CI.mk (own := RX4) (by decide) rfl (Nat.le_of_ble_eq_true rfl) ?_
  intro X E ret
  show J X G 2 0 0 (wTQ G h q) [(0, .ref (h 0)), (1, .int m)] 0 []
  refine J_aload_n E dX4_isNumber_0 rfl 0 rfl ?_
  refine gTQ0_X4_26 E dX4_isNumber_1 ?_
  refine J_iconst E dX4_isNumber_4 ic_2 ?_
  refine J_icmp_ne E (tgt := 20) dX4_isNumber_5 (by decide) (fun c_5 => ?_) (fun c_5 => ?_)
  · skip
    refine J_iconst E dX4_isNumber_20 ic_0 ?_
    exact ret _ _ _ _ ⟨by first | (rw [bI_t]; exact decide_eq_true ⟨c_5, Int32.not_lt.mp c_13⟩) | (rw [bI_f]; intro z; have z := of_decide_eq_true z; first | exact absurd z.1 c_5 | exact absurd z.2 (Int32.not_le.mpr c_13)), (congrArg (wTQ G h) (rfl))⟩ rfl dX4_isNumber_21
  · skip
    refine J_aload_n E dX4_isNumber_8 rfl 0 rfl ?_
    refine gTQ0_X4_51 E dX4_isNumber_9 ?_
    refine J_iload_n E dX4_isNumber_12 rfl 1 rfl ?_
    refine J_icmp_gt E (tgt := 20) dX4_isNumber_13 (by decide) (fun c_13 => ?_) (fun c_13 => ?_)
    · skip
      refine J_iconst E dX4_isNumber_20 ic_0 ?_
      exact ret _ _ _ _ ⟨by first | (rw [bI_t]; exact decide_eq_true ⟨c_5, Int32.not_lt.mp c_13⟩) | (rw [bI_f]; intro z; have z := of_decide_eq_true z; first | exact absurd z.1 c_5 | exact absurd z.2 (Int32.not_le.mpr c_13)), (congrArg (wTQ G h) (rfl))⟩ rfl dX4_isNumber_21
    · skip
      refine J_iconst E dX4_isNumber_16 ic_1 ?_
      refine J_goto E (tgt := 21) dX4_isNumber_17 (by decide) ?_
      exact ret _ _ _ _ ⟨by first | (rw [bI_t]; exact decide_eq_true ⟨c_5, Int32.not_lt.mp c_13⟩) | (rw [bI_f]; intro z; have z := of_decide_eq_true z; first | exact absurd z.1 c_5 | exact absurd z.2 (Int32.not_le.mpr c_13)), (congrArg (wTQ G h) (rfl))⟩ rfl dX4_isNumber_21

set_option maxHeartbeats 4000000 in
set_option maxRecDepth 20000 in
theorem c_X4_nameOf_0 (l : Launch) (G : GB)  : CR l yX4_nameOf cX4_nameOf 1 (.object "java/lang/String") 0 0 G [.int (nI 0)] ([]) (fun vR w' => vR = G.2.2.2.2.1 7 ∧ w' = []) := by
  refine CR.mk (own := RX4) (by decide) rfl (Nat.le_of_ble_eq_true rfl) ?_
  intro X E ret
  show J X G 1 0 0 ([]) [(0, .int (nI 0))] 0 []
  refine J_iload_n E dX4_nameOf_0 rfl 0 rfl ?_
  refine J_tabOut E (tgt := 58) dX4_nameOf_1 (by decide) (by decide) ?_
  refine J_ldcS E (q := 7) rfl dX4_nameOf_58 ?_
  exact ret _ _ _ _ ⟨rfl, rfl⟩ (Or.inl ⟨_, rfl⟩) dX4_nameOf_60

set_option maxHeartbeats 4000000 in
set_option maxRecDepth 20000 in
theorem c_X4_nameOf_1 (l : Launch) (G : GB)  : CR l yX4_nameOf cX4_nameOf 1 (.object "java/lang/String") 0 0 G [.int (nI 1)] ([]) (fun vR w' => vR = G.2.2.2.2.1 1 ∧ w' = []) := by
  refine CR.mk (own := RX4) (by decide) rfl (Nat.le_of_ble_eq_true rfl) ?_
  intro X E ret
  show J X G 1 0 0 ([]) [(0, .int (nI 1))] 0 []
  refine J_iload_n E dX4_nameOf_0 rfl 0 rfl ?_
  refine J_tabIn E (tgt := 40) (off := 39) dX4_nameOf_1 (by decide) (by decide) rfl (by decide) ?_
  refine J_ldcS E (q := 1) rfl dX4_nameOf_40 ?_
  exact ret _ _ _ _ ⟨rfl, rfl⟩ (Or.inl ⟨_, rfl⟩) dX4_nameOf_42

set_option maxHeartbeats 4000000 in
set_option maxRecDepth 20000 in
theorem c_X4_nameOf_2 (l : Launch) (G : GB)  : CR l yX4_nameOf cX4_nameOf 1 (.object "java/lang/String") 0 0 G [.int (nI 2)] ([]) (fun vR w' => vR = G.2.2.2.2.1 2 ∧ w' = []) := by
  refine CR.mk (own := RX4) (by decide) rfl (Nat.le_of_ble_eq_true rfl) ?_
  intro X E ret
  show J X G 1 0 0 ([]) [(0, .int (nI 2))] 0 []
  refine J_iload_n E dX4_nameOf_0 rfl 0 rfl ?_
  refine J_tabIn E (tgt := 43) (off := 42) dX4_nameOf_1 (by decide) (by decide) rfl (by decide) ?_
  refine J_ldcS E (q := 2) rfl dX4_nameOf_43 ?_
  exact ret _ _ _ _ ⟨rfl, rfl⟩ (Or.inl ⟨_, rfl⟩) dX4_nameOf_45

set_option maxHeartbeats 4000000 in
set_option maxRecDepth 20000 in
theorem c_X4_nameOf_3 (l : Launch) (G : GB)  : CR l yX4_nameOf cX4_nameOf 1 (.object "java/lang/String") 0 0 G [.int (nI 3)] ([]) (fun vR w' => vR = G.2.2.2.2.1 3 ∧ w' = []) := by
  refine CR.mk (own := RX4) (by decide) rfl (Nat.le_of_ble_eq_true rfl) ?_
  intro X E ret
  show J X G 1 0 0 ([]) [(0, .int (nI 3))] 0 []
  refine J_iload_n E dX4_nameOf_0 rfl 0 rfl ?_
  refine J_tabIn E (tgt := 46) (off := 45) dX4_nameOf_1 (by decide) (by decide) rfl (by decide) ?_
  refine J_ldcS E (q := 3) rfl dX4_nameOf_46 ?_
  exact ret _ _ _ _ ⟨rfl, rfl⟩ (Or.inl ⟨_, rfl⟩) dX4_nameOf_48

set_option maxHeartbeats 4000000 in
set_option maxRecDepth 20000 in
theorem c_X4_nameOf_4 (l : Launch) (G : GB)  : CR l yX4_nameOf cX4_nameOf 1 (.object "java/lang/String") 0 0 G [.int (nI 4)] ([]) (fun vR w' => vR = G.2.2.2.2.1 4 ∧ w' = []) := by
  refine CR.mk (own := RX4) (by decide) rfl (Nat.le_of_ble_eq_true rfl) ?_
  intro X E ret
  show J X G 1 0 0 ([]) [(0, .int (nI 4))] 0 []
  refine J_iload_n E dX4_nameOf_0 rfl 0 rfl ?_
  refine J_tabIn E (tgt := 49) (off := 48) dX4_nameOf_1 (by decide) (by decide) rfl (by decide) ?_
  refine J_ldcS E (q := 4) rfl dX4_nameOf_49 ?_
  exact ret _ _ _ _ ⟨rfl, rfl⟩ (Or.inl ⟨_, rfl⟩) dX4_nameOf_51

set_option maxHeartbeats 4000000 in
set_option maxRecDepth 20000 in
theorem c_X4_nameOf_5 (l : Launch) (G : GB)  : CR l yX4_nameOf cX4_nameOf 1 (.object "java/lang/String") 0 0 G [.int (nI 5)] ([]) (fun vR w' => vR = G.2.2.2.2.1 5 ∧ w' = []) := by
  refine CR.mk (own := RX4) (by decide) rfl (Nat.le_of_ble_eq_true rfl) ?_
  intro X E ret
  show J X G 1 0 0 ([]) [(0, .int (nI 5))] 0 []
  refine J_iload_n E dX4_nameOf_0 rfl 0 rfl ?_
  refine J_tabIn E (tgt := 52) (off := 51) dX4_nameOf_1 (by decide) (by decide) rfl (by decide) ?_
  refine J_ldcS E (q := 5) rfl dX4_nameOf_52 ?_
  exact ret _ _ _ _ ⟨rfl, rfl⟩ (Or.inl ⟨_, rfl⟩) dX4_nameOf_54

set_option maxHeartbeats 4000000 in
set_option maxRecDepth 20000 in
theorem c_X4_nameOf_6 (l : Launch) (G : GB)  : CR l yX4_nameOf cX4_nameOf 1 (.object "java/lang/String") 0 0 G [.int (nI 6)] ([]) (fun vR w' => vR = G.2.2.2.2.1 6 ∧ w' = []) := by
  refine CR.mk (own := RX4) (by decide) rfl (Nat.le_of_ble_eq_true rfl) ?_
  intro X E ret
  show J X G 1 0 0 ([]) [(0, .int (nI 6))] 0 []
  refine J_iload_n E dX4_nameOf_0 rfl 0 rfl ?_
  refine J_tabIn E (tgt := 55) (off := 54) dX4_nameOf_1 (by decide) (by decide) rfl (by decide) ?_
  refine J_ldcS E (q := 6) rfl dX4_nameOf_55 ?_
  exact ret _ _ _ _ ⟨rfl, rfl⟩ (Or.inl ⟨_, rfl⟩) dX4_nameOf_57

set_option maxHeartbeats 4000000 in
set_option maxRecDepth 20000 in
theorem c_X4_kindOfWord (l : Launch) (G : GB) (h : Nat → Nat) (q : Q3) (hq : okT q)  : CI l yX4_kindOfWord cX4_kindOfWord 2 .int 5 107 G [.ref (h 0)] (wTQ G h q) (fun vR w' => vR = kwF q ∧ w' = wTQ G h q) := by
  refine CI.mk (own := RX4) (by decide) rfl (Nat.le_of_ble_eq_true rfl) ?_
  intro X E ret
  show J X G 2 0 0 (wTQ G h q) [(0, .ref (h 0))] 0 []
  refine J_iconst E dX4_kindOfWord_0 ic_0 ?_
  refine J_istore_n E (lv' := [(1, .int 0), (0, .ref (h 0))]) dX4_kindOfWord_1 rfl (by decide) rfl ?_
  refine J_iload_n E dX4_kindOfWord_2 rfl 0 rfl ?_
  refine J_bipush E dX4_kindOfWord_3 bp_7 ?_
  refine J_icmp_ge E (tgt := 27) dX4_kindOfWord_5 (by decide) (fun c_5 => ?_) (fun c_5 => ?_)
  · skip
    have n_5 : 7 ≤ 0 := cmp_le (a := 7) (b := 0) (by omega) (by omega) c_5
    exact absurd n_5 (by decide)
  · skip
    have n_5 : ¬ 7 ≤ 0 := cmp_nle (a := 7) (b := 0) (by omega) (by omega) c_5
    refine J_aload_n E dX4_kindOfWord_8 rfl 1 rfl ?_
    refine J_iload_n E dX4_kindOfWord_9 rfl 0 rfl ?_
    refine J_cSrN E (As := [.int 0]) (c_X4_nameOf_0 l G ) cl_X4_93 yo_X4_nameOf dX4_kindOfWord_10 rfl (Nat.le_of_ble_eq_true rfl) (Nat.le_of_ble_eq_true rfl) rfl (Nat.le_of_ble_eq_true rfl) ⟨Nat.zero_le _, Nat.zero_le _⟩ ?_
    refine J_cVi0 E (As := [.ref (G.2.2.2.2.1 7)]) (c_X4_isWord l G h q 7 (by decide) hq) cl_X4_36 yo_X4_isWord dX4_kindOfWord_13 rfl rfl rfl (Nat.le_of_ble_eq_true rfl) (Nat.le_of_ble_eq_true rfl) rfl (Nat.le_of_ble_eq_true rfl) ⟨Nat.zero_le _, Nat.zero_le _⟩ ?_
    refine J_if_eq E (tgt := 21) dX4_kindOfWord_16 (by decide) (fun c_16 => ?_) (fun c_16 => ?_)
    · skip
      have c_16 := bI_0 c_16
      refine J_iinc E (lv' := [(1, .int (nI 1)), (0, .ref (h 0))]) dX4_kindOfWord_21 0 rfl (nI_inc _) (by decide) rfl ?_
      refine J_goto E (tgt := 2) dX4_kindOfWord_24 (by decide) ?_
      refine J_iload_n E dX4_kindOfWord_2 rfl 0 rfl ?_
      refine J_bipush E dX4_kindOfWord_3 bp_7 ?_
      refine J_icmp_ge E (tgt := 27) dX4_kindOfWord_5 (by decide) (fun c_5 => ?_) (fun c_5 => ?_)
      · skip
        have n_5 : 7 ≤ 1 := cmp_le (a := 7) (b := 1) (by omega) (by omega) c_5
        exact absurd n_5 (by decide)
      · skip
        have n_5 : ¬ 7 ≤ 1 := cmp_nle (a := 7) (b := 1) (by omega) (by omega) c_5
        refine J_aload_n E dX4_kindOfWord_8 rfl 1 rfl ?_
        refine J_iload_n E dX4_kindOfWord_9 rfl 0 rfl ?_
        refine J_cSrN E (As := [.int (nI 1)]) (c_X4_nameOf_1 l G ) cl_X4_93 yo_X4_nameOf dX4_kindOfWord_10 rfl (Nat.le_of_ble_eq_true rfl) (Nat.le_of_ble_eq_true rfl) rfl (Nat.le_of_ble_eq_true rfl) ⟨Nat.zero_le _, Nat.zero_le _⟩ ?_
        refine J_cVi0 E (As := [.ref (G.2.2.2.2.1 1)]) (c_X4_isWord l G h q 1 (by decide) hq) cl_X4_36 yo_X4_isWord dX4_kindOfWord_13 rfl rfl rfl (Nat.le_of_ble_eq_true rfl) (Nat.le_of_ble_eq_true rfl) rfl (Nat.le_of_ble_eq_true rfl) ⟨Nat.zero_le _, Nat.zero_le _⟩ ?_
        refine J_if_eq E (tgt := 21) dX4_kindOfWord_16 (by decide) (fun c_16 => ?_) (fun c_16 => ?_)
        · skip
          have c_16 := bI_0 c_16
          refine J_iinc E (lv' := [(1, .int (nI 2)), (0, .ref (h 0))]) dX4_kindOfWord_21 0 rfl (nI_inc _) (by decide) rfl ?_
          refine J_goto E (tgt := 2) dX4_kindOfWord_24 (by decide) ?_
          refine J_iload_n E dX4_kindOfWord_2 rfl 0 rfl ?_
          refine J_bipush E dX4_kindOfWord_3 bp_7 ?_
          refine J_icmp_ge E (tgt := 27) dX4_kindOfWord_5 (by decide) (fun c_5 => ?_) (fun c_5 => ?_)
          · skip
            have n_5 : 7 ≤ 2 := cmp_le (a := 7) (b := 2) (by omega) (by omega) c_5
            exact absurd n_5 (by decide)
          · skip
            have n_5 : ¬ 7 ≤ 2 := cmp_nle (a := 7) (b := 2) (by omega) (by omega) c_5
            refine J_aload_n E dX4_kindOfWord_8 rfl 1 rfl ?_
            refine J_iload_n E dX4_kindOfWord_9 rfl 0 rfl ?_
            refine J_cSrN E (As := [.int (nI 2)]) (c_X4_nameOf_2 l G ) cl_X4_93 yo_X4_nameOf dX4_kindOfWord_10 rfl (Nat.le_of_ble_eq_true rfl) (Nat.le_of_ble_eq_true rfl) rfl (Nat.le_of_ble_eq_true rfl) ⟨Nat.zero_le _, Nat.zero_le _⟩ ?_
            refine J_cVi0 E (As := [.ref (G.2.2.2.2.1 2)]) (c_X4_isWord l G h q 2 (by decide) hq) cl_X4_36 yo_X4_isWord dX4_kindOfWord_13 rfl rfl rfl (Nat.le_of_ble_eq_true rfl) (Nat.le_of_ble_eq_true rfl) rfl (Nat.le_of_ble_eq_true rfl) ⟨Nat.zero_le _, Nat.zero_le _⟩ ?_
            refine J_if_eq E (tgt := 21) dX4_kindOfWord_16 (by decide) (fun c_16 => ?_) (fun c_16 => ?_)
            · skip
              have c_16 := bI_0 c_16
              refine J_iinc E (lv' := [(1, .int (nI 3)), (0, .ref (h 0))]) dX4_kindOfWord_21 0 rfl (nI_inc _) (by decide) rfl ?_
              refine J_goto E (tgt := 2) dX4_kindOfWord_24 (by decide) ?_
              refine J_iload_n E dX4_kindOfWord_2 rfl 0 rfl ?_
              refine J_bipush E dX4_kindOfWord_3 bp_7 ?_
              refine J_icmp_ge E (tgt := 27) dX4_kindOfWord_5 (by decide) (fun c_5 => ?_) (fun c_5 => ?_)
              · skip
                have n_5 : 7 ≤ 3 := cmp_le (a := 7) (b := 3) (by omega) (by omega) c_5
                exact absurd n_5 (by decide)
              · skip
                have n_5 : ¬ 7 ≤ 3 := cmp_nle (a := 7) (b := 3) (by omega) (by omega) c_5
                refine J_aload_n E dX4_kindOfWord_8 rfl 1 rfl ?_
                refine J_iload_n E dX4_kindOfWord_9 rfl 0 rfl ?_
                refine J_cSrN E (As := [.int (nI 3)]) (c_X4_nameOf_3 l G ) cl_X4_93 yo_X4_nameOf dX4_kindOfWord_10 rfl (Nat.le_of_ble_eq_true rfl) (Nat.le_of_ble_eq_true rfl) rfl (Nat.le_of_ble_eq_true rfl) ⟨Nat.zero_le _, Nat.zero_le _⟩ ?_
                refine J_cVi0 E (As := [.ref (G.2.2.2.2.1 3)]) (c_X4_isWord l G h q 3 (by decide) hq) cl_X4_36 yo_X4_isWord dX4_kindOfWord_13 rfl rfl rfl (Nat.le_of_ble_eq_true rfl) (Nat.le_of_ble_eq_true rfl) rfl (Nat.le_of_ble_eq_true rfl) ⟨Nat.zero_le _, Nat.zero_le _⟩ ?_
                refine J_if_eq E (tgt := 21) dX4_kindOfWord_16 (by decide) (fun c_16 => ?_) (fun c_16 => ?_)
                · skip
                  have c_16 := bI_0 c_16
                  refine J_iinc E (lv' := [(1, .int (nI 4)), (0, .ref (h 0))]) dX4_kindOfWord_21 0 rfl (nI_inc _) (by decide) rfl ?_
                  refine J_goto E (tgt := 2) dX4_kindOfWord_24 (by decide) ?_
                  refine J_iload_n E dX4_kindOfWord_2 rfl 0 rfl ?_
                  refine J_bipush E dX4_kindOfWord_3 bp_7 ?_
                  refine J_icmp_ge E (tgt := 27) dX4_kindOfWord_5 (by decide) (fun c_5 => ?_) (fun c_5 => ?_)
                  · skip
                    have n_5 : 7 ≤ 4 := cmp_le (a := 7) (b := 4) (by omega) (by omega) c_5
                    exact absurd n_5 (by decide)
                  · skip
                    have n_5 : ¬ 7 ≤ 4 := cmp_nle (a := 7) (b := 4) (by omega) (by omega) c_5
                    refine J_aload_n E dX4_kindOfWord_8 rfl 1 rfl ?_
                    refine J_iload_n E dX4_kindOfWord_9 rfl 0 rfl ?_
                    refine J_cSrN E (As := [.int (nI 4)]) (c_X4_nameOf_4 l G ) cl_X4_93 yo_X4_nameOf dX4_kindOfWord_10 rfl (Nat.le_of_ble_eq_true rfl) (Nat.le_of_ble_eq_true rfl) rfl (Nat.le_of_ble_eq_true rfl) ⟨Nat.zero_le _, Nat.zero_le _⟩ ?_
                    refine J_cVi0 E (As := [.ref (G.2.2.2.2.1 4)]) (c_X4_isWord l G h q 4 (by decide) hq) cl_X4_36 yo_X4_isWord dX4_kindOfWord_13 rfl rfl rfl (Nat.le_of_ble_eq_true rfl) (Nat.le_of_ble_eq_true rfl) rfl (Nat.le_of_ble_eq_true rfl) ⟨Nat.zero_le _, Nat.zero_le _⟩ ?_
                    refine J_if_eq E (tgt := 21) dX4_kindOfWord_16 (by decide) (fun c_16 => ?_) (fun c_16 => ?_)
                    · skip
                      have c_16 := bI_0 c_16
                      refine J_iinc E (lv' := [(1, .int (nI 5)), (0, .ref (h 0))]) dX4_kindOfWord_21 0 rfl (nI_inc _) (by decide) rfl ?_
                      refine J_goto E (tgt := 2) dX4_kindOfWord_24 (by decide) ?_
                      refine J_iload_n E dX4_kindOfWord_2 rfl 0 rfl ?_
                      refine J_bipush E dX4_kindOfWord_3 bp_7 ?_
                      refine J_icmp_ge E (tgt := 27) dX4_kindOfWord_5 (by decide) (fun c_5 => ?_) (fun c_5 => ?_)
                      · skip
                        have n_5 : 7 ≤ 5 := cmp_le (a := 7) (b := 5) (by omega) (by omega) c_5
                        exact absurd n_5 (by decide)
                      · skip
                        have n_5 : ¬ 7 ≤ 5 := cmp_nle (a := 7) (b := 5) (by omega) (by omega) c_5
                        refine J_aload_n E dX4_kindOfWord_8 rfl 1 rfl ?_
                        refine J_iload_n E dX4_kindOfWord_9 rfl 0 rfl ?_
                        refine J_cSrN E (As := [.int (nI 5)]) (c_X4_nameOf_5 l G ) cl_X4_93 yo_X4_nameOf dX4_kindOfWord_10 rfl (Nat.le_of_ble_eq_true rfl) (Nat.le_of_ble_eq_true rfl) rfl (Nat.le_of_ble_eq_true rfl) ⟨Nat.zero_le _, Nat.zero_le _⟩ ?_
                        refine J_cVi0 E (As := [.ref (G.2.2.2.2.1 5)]) (c_X4_isWord l G h q 5 (by decide) hq) cl_X4_36 yo_X4_isWord dX4_kindOfWord_13 rfl rfl rfl (Nat.le_of_ble_eq_true rfl) (Nat.le_of_ble_eq_true rfl) rfl (Nat.le_of_ble_eq_true rfl) ⟨Nat.zero_le _, Nat.zero_le _⟩ ?_
                        refine J_if_eq E (tgt := 21) dX4_kindOfWord_16 (by decide) (fun c_16 => ?_) (fun c_16 => ?_)
                        · skip
                          have c_16 := bI_0 c_16
                          refine J_iinc E (lv' := [(1, .int (nI 6)), (0, .ref (h 0))]) dX4_kindOfWord_21 0 rfl (nI_inc _) (by decide) rfl ?_
                          refine J_goto E (tgt := 2) dX4_kindOfWord_24 (by decide) ?_
                          refine J_iload_n E dX4_kindOfWord_2 rfl 0 rfl ?_
                          refine J_bipush E dX4_kindOfWord_3 bp_7 ?_
                          refine J_icmp_ge E (tgt := 27) dX4_kindOfWord_5 (by decide) (fun c_5 => ?_) (fun c_5 => ?_)
                          · skip
                            have n_5 : 7 ≤ 6 := cmp_le (a := 7) (b := 6) (by omega) (by omega) c_5
                            exact absurd n_5 (by decide)
                          · skip
                            have n_5 : ¬ 7 ≤ 6 := cmp_nle (a := 7) (b := 6) (by omega) (by omega) c_5
                            refine J_aload_n E dX4_kindOfWord_8 rfl 1 rfl ?_
                            refine J_iload_n E dX4_kindOfWord_9 rfl 0 rfl ?_
                            refine J_cSrN E (As := [.int (nI 6)]) (c_X4_nameOf_6 l G ) cl_X4_93 yo_X4_nameOf dX4_kindOfWord_10 rfl (Nat.le_of_ble_eq_true rfl) (Nat.le_of_ble_eq_true rfl) rfl (Nat.le_of_ble_eq_true rfl) ⟨Nat.zero_le _, Nat.zero_le _⟩ ?_
                            refine J_cVi0 E (As := [.ref (G.2.2.2.2.1 6)]) (c_X4_isWord l G h q 6 (by decide) hq) cl_X4_36 yo_X4_isWord dX4_kindOfWord_13 rfl rfl rfl (Nat.le_of_ble_eq_true rfl) (Nat.le_of_ble_eq_true rfl) rfl (Nat.le_of_ble_eq_true rfl) ⟨Nat.zero_le _, Nat.zero_le _⟩ ?_
                            refine J_if_eq E (tgt := 21) dX4_kindOfWord_16 (by decide) (fun c_16 => ?_) (fun c_16 => ?_)
                            · skip
                              have c_16 := bI_0 c_16
                              refine J_iinc E (lv' := [(1, .int (nI 7)), (0, .ref (h 0))]) dX4_kindOfWord_21 0 rfl (nI_inc _) (by decide) rfl ?_
                              refine J_goto E (tgt := 2) dX4_kindOfWord_24 (by decide) ?_
                              refine J_iload_n E dX4_kindOfWord_2 rfl 0 rfl ?_
                              refine J_bipush E dX4_kindOfWord_3 bp_7 ?_
                              refine J_icmp_ge E (tgt := 27) dX4_kindOfWord_5 (by decide) (fun c_5 => ?_) (fun c_5 => ?_)
                              · skip
                                have n_5 : 7 ≤ 7 := cmp_le (a := 7) (b := 7) (by omega) (by omega) c_5
                                refine J_iconst E dX4_kindOfWord_27 ic_m1 ?_
                                exact ret _ _ _ _ ⟨by unfold kwF; (repeat (first | rw [if_neg (by assumption)] | rw [if_pos (by assumption)])) <;> rfl, (congrArg (wTQ G h) (rfl))⟩ rfl dX4_kindOfWord_28
                              · skip
                                have n_5 : ¬ 7 ≤ 7 := cmp_nle (a := 7) (b := 7) (by omega) (by omega) c_5
                                exact absurd n_5 (by decide)
                            · skip
                              have c_16 := bI_1 c_16
                              refine J_iload_n E dX4_kindOfWord_19 rfl 0 rfl ?_
                              exact ret _ _ _ _ ⟨by unfold kwF; (repeat (first | rw [if_neg (by assumption)] | rw [if_pos (by assumption)])) <;> rfl, (congrArg (wTQ G h) (rfl))⟩ rfl dX4_kindOfWord_20
                        · skip
                          have c_16 := bI_1 c_16
                          refine J_iload_n E dX4_kindOfWord_19 rfl 0 rfl ?_
                          exact ret _ _ _ _ ⟨by unfold kwF; (repeat (first | rw [if_neg (by assumption)] | rw [if_pos (by assumption)])) <;> rfl, (congrArg (wTQ G h) (rfl))⟩ rfl dX4_kindOfWord_20
                    · skip
                      have c_16 := bI_1 c_16
                      refine J_iload_n E dX4_kindOfWord_19 rfl 0 rfl ?_
                      exact ret _ _ _ _ ⟨by unfold kwF; (repeat (first | rw [if_neg (by assumption)] | rw [if_pos (by assumption)])) <;> rfl, (congrArg (wTQ G h) (rfl))⟩ rfl dX4_kindOfWord_20
                · skip
                  have c_16 := bI_1 c_16
                  refine J_iload_n E dX4_kindOfWord_19 rfl 0 rfl ?_
                  exact ret _ _ _ _ ⟨by unfold kwF; (repeat (first | rw [if_neg (by assumption)] | rw [if_pos (by assumption)])) <;> rfl, (congrArg (wTQ G h) (rfl))⟩ rfl dX4_kindOfWord_20
            · skip
              have c_16 := bI_1 c_16
              refine J_iload_n E dX4_kindOfWord_19 rfl 0 rfl ?_
              exact ret _ _ _ _ ⟨by unfold kwF; (repeat (first | rw [if_neg (by assumption)] | rw [if_pos (by assumption)])) <;> rfl, (congrArg (wTQ G h) (rfl))⟩ rfl dX4_kindOfWord_20
        · skip
          have c_16 := bI_1 c_16
          refine J_iload_n E dX4_kindOfWord_19 rfl 0 rfl ?_
          exact ret _ _ _ _ ⟨by unfold kwF; (repeat (first | rw [if_neg (by assumption)] | rw [if_pos (by assumption)])) <;> rfl, (congrArg (wTQ G h) (rfl))⟩ rfl dX4_kindOfWord_20
    · skip
      have c_16 := bI_1 c_16
      refine J_iload_n E dX4_kindOfWord_19 rfl 0 rfl ?_
      exact ret _ _ _ _ ⟨by unfold kwF; (repeat (first | rw [if_neg (by assumption)] | rw [if_pos (by assumption)])) <;> rfl, (congrArg (wTQ G h) (rfl))⟩ rfl dX4_kindOfWord_20

set_option maxHeartbeats 4000000 in
set_option maxRecDepth 20000 in
theorem c_X4_readRain (l : Launch) (G : GB) (h : Nat → Nat) (q : Q3) (hq : okT q)  : CI l yX4_readRain cX4_readRain 2 .boolean 3 63 G [.ref (h 0), .ref (h 3)] (wTQ G h q) (fun vR w' => vR = bI (rrB q = true) ∧ w' = wTQ G h (rrX q)) := by
  refine CI.mk (own := RX4) (by decide) rfl (Nat.le_of_ble_eq_true rfl) ?_
  intro X E ret
  show J X G 2 0 0 (wTQ G h q) [(0, .ref (h 0)), (1, .ref (h 3))] 0 []
  refine J_aload_n E dX4_readRain_0 rfl 0 rfl ?_
  refine J_cVv0 E (As := []) (c_X4_nextToken l G h q hq.n) cl_X4_19 yo_X4_nextToken dX4_readRain_1 rfl rfl rfl (Nat.le_of_ble_eq_true rfl) (Nat.le_of_ble_eq_true rfl) rfl (Nat.le_of_ble_eq_true rfl) ⟨Nat.zero_le _, Nat.zero_le _⟩ ?_
  refine J_aload_n E dX4_readRain_4 rfl 0 rfl ?_
  refine J_sipush E dX4_readRain_5 sp_999 ?_
  refine J_cVi0 E (As := [.int 999]) (c_X4_isNumber l G h (nextX q) 999 ) cl_X4_47 yo_X4_isNumber dX4_readRain_8 rfl rfl rfl (Nat.le_of_ble_eq_true rfl) (Nat.le_of_ble_eq_true rfl) rfl (Nat.le_of_ble_eq_true rfl) ⟨Nat.zero_le _, Nat.zero_le _⟩ ?_
  refine J_if_ne E (tgt := 16) dX4_readRain_11 (by decide) (fun c_11 => ?_) (fun c_11 => ?_)
  · skip
    have c_11 := bI_1 c_11
    refine J_aload_n E dX4_readRain_16 rfl 1 rfl ?_
    refine J_aload_n E dX4_readRain_17 rfl 0 rfl ?_
    refine gTQ0_X4_51 E dX4_readRain_18 ?_
    refine pTQ3_X4_82 E dX4_readRain_21 ?_
    refine J_aload_n E dX4_readRain_24 rfl 0 rfl ?_
    refine J_cVv0 E (As := []) (c_X4_nextToken l G h (up3 (nextX q) 0 7 2 ((nextX q) 6 1 3)) (okT_up (okT_next hq.n) _ _ _).n) cl_X4_19 yo_X4_nextToken dX4_readRain_25 rfl rfl rfl (Nat.le_of_ble_eq_true rfl) (Nat.le_of_ble_eq_true rfl) rfl (Nat.le_of_ble_eq_true rfl) ⟨Nat.zero_le _, Nat.zero_le _⟩ ?_
    refine J_iconst E dX4_readRain_28 ic_1 ?_
    exact ret _ _ _ _ ⟨(bI_t (show rrB q = true from c_11)).symm, (congrArg (wTQ G h) (by rw [rrX, if_pos c_11]))⟩ rfl dX4_readRain_29
  · skip
    have c_11 := bI_0 c_11
    refine J_iconst E dX4_readRain_14 ic_0 ?_
    exact ret _ _ _ _ ⟨(bI_f (show ¬ rrB q = true from c_11)).symm, (congrArg (wTQ G h) (by rw [rrX, if_neg c_11]))⟩ rfl dX4_readRain_15

set_option maxHeartbeats 4000000 in
set_option maxRecDepth 20000 in
theorem c_X4_readPart_1 (l : Launch) (G : GB) (h : Nat → Nat) (q : Q3) (i j : Nat) (m : Int32) (hi : i < 27) (hj : j < 11) (hq : okT q) : CI l yX4_readPart cX4_readPart 5 .boolean 5 107 G [.ref (h 0), .ref (G.2.2.2.2.1 i), .ref (h 5), .int (nI j), .int m] (wTQ G h q) (fun vR w' => vR = bI (rpB q i m = true) ∧ w' = wTQ G h (rpX q i 1 j m)) := by
  refine CI.mk (own := RX4) (by decide) rfl (Nat.le_of_ble_eq_true rfl) ?_
  intro X E ret
  show J X G 5 0 0 (wTQ G h q) [(0, .ref (h 0)), (1, .ref (G.2.2.2.2.1 i)), (2, .ref (h 5)), (3, .int (nI j)), (4, .int m)] 0 []
  refine J_aload_n E dX4_readPart_0 rfl 0 rfl ?_
  refine J_aload_n E dX4_readPart_1 rfl 1 rfl ?_
  refine J_cVi0 E (As := [.ref (G.2.2.2.2.1 i)]) (c_X4_isWord l G h q i hi hq) cl_X4_36 yo_X4_isWord dX4_readPart_2 rfl rfl rfl (Nat.le_of_ble_eq_true rfl) (Nat.le_of_ble_eq_true rfl) rfl (Nat.le_of_ble_eq_true rfl) ⟨Nat.zero_le _, Nat.zero_le _⟩ ?_
  refine J_if_ne E (tgt := 10) dX4_readPart_5 (by decide) (fun c_5 => ?_) (fun c_5 => ?_)
  · skip
    have c_5 := bI_1 c_5
    refine J_aload_n E dX4_readPart_10 rfl 0 rfl ?_
    refine J_cVv0 E (As := []) (c_X4_nextToken l G h q hq.n) cl_X4_19 yo_X4_nextToken dX4_readPart_11 rfl rfl rfl (Nat.le_of_ble_eq_true rfl) (Nat.le_of_ble_eq_true rfl) rfl (Nat.le_of_ble_eq_true rfl) ⟨Nat.zero_le _, Nat.zero_le _⟩ ?_
    refine J_aload_n E dX4_readPart_14 rfl 0 rfl ?_
    refine J_iload E dX4_readPart_15 4 rfl ?_
    refine J_cVi0 E (As := [.int m]) (c_X4_isNumber l G h (nextX q) m ) cl_X4_47 yo_X4_isNumber dX4_readPart_17 rfl rfl rfl (Nat.le_of_ble_eq_true rfl) (Nat.le_of_ble_eq_true rfl) rfl (Nat.le_of_ble_eq_true rfl) ⟨Nat.zero_le _, Nat.zero_le _⟩ ?_
    refine J_if_ne E (tgt := 25) dX4_readPart_20 (by decide) (fun c_20 => ?_) (fun c_20 => ?_)
    · skip
      have c_20 := bI_1 c_20
      refine J_aload_n E dX4_readPart_25 rfl 2 rfl ?_
      refine J_iload_n E dX4_readPart_26 rfl 3 rfl ?_
      refine J_aload_n E dX4_readPart_27 rfl 0 rfl ?_
      refine gTQ0_X4_51 E dX4_readPart_28 ?_
      refine sTQ_5 E (j := j) dX4_readPart_31 (by omega) ?_
      refine J_aload_n E dX4_readPart_32 rfl 0 rfl ?_
      refine J_cVv0 E (As := []) (c_X4_nextToken l G h (up3 (nextX q) 0 1 j ((nextX q) 6 1 3)) (okT_up (okT_next hq.n) _ _ _).n) cl_X4_19 yo_X4_nextToken dX4_readPart_33 rfl rfl rfl (Nat.le_of_ble_eq_true rfl) (Nat.le_of_ble_eq_true rfl) rfl (Nat.le_of_ble_eq_true rfl) ⟨Nat.zero_le _, Nat.zero_le _⟩ ?_
      refine J_iconst E dX4_readPart_36 ic_1 ?_
      exact ret _ _ _ _ ⟨by rw [bI_t]; simp [rpB, c_5, c_20], (congrArg (wTQ G h) (by rw [rpX, if_pos c_5, if_pos c_20]))⟩ rfl dX4_readPart_37
    · skip
      have c_20 := bI_0 c_20
      refine J_iconst E dX4_readPart_23 ic_0 ?_
      exact ret _ _ _ _ ⟨by rw [bI_f]; simp [rpB, c_5, c_20], (congrArg (wTQ G h) (by rw [rpX, if_pos c_5, if_neg c_20]))⟩ rfl dX4_readPart_24
  · skip
    have c_5 := bI_0 c_5
    refine J_iconst E dX4_readPart_8 ic_1 ?_
    exact ret _ _ _ _ ⟨by rw [bI_t]; simp [rpB, c_5], (congrArg (wTQ G h) (by rw [rpX, if_neg c_5]))⟩ rfl dX4_readPart_9

set_option maxHeartbeats 4000000 in
set_option maxRecDepth 20000 in
theorem c_X4_readPart_2 (l : Launch) (G : GB) (h : Nat → Nat) (q : Q3) (i j : Nat) (m : Int32) (hi : i < 27) (hj : j < 11) (hq : okT q) : CI l yX4_readPart cX4_readPart 5 .boolean 5 107 G [.ref (h 0), .ref (G.2.2.2.2.1 i), .ref (h 6), .int (nI j), .int m] (wTQ G h q) (fun vR w' => vR = bI (rpB q i m = true) ∧ w' = wTQ G h (rpX q i 2 j m)) := by
  refine CI.mk (own := RX4) (by decide) rfl (Nat.le_of_ble_eq_true rfl) ?_
  intro X E ret
  show J X G 5 0 0 (wTQ G h q) [(0, .ref (h 0)), (1, .ref (G.2.2.2.2.1 i)), (2, .ref (h 6)), (3, .int (nI j)), (4, .int m)] 0 []
  refine J_aload_n E dX4_readPart_0 rfl 0 rfl ?_
  refine J_aload_n E dX4_readPart_1 rfl 1 rfl ?_
  refine J_cVi0 E (As := [.ref (G.2.2.2.2.1 i)]) (c_X4_isWord l G h q i hi hq) cl_X4_36 yo_X4_isWord dX4_readPart_2 rfl rfl rfl (Nat.le_of_ble_eq_true rfl) (Nat.le_of_ble_eq_true rfl) rfl (Nat.le_of_ble_eq_true rfl) ⟨Nat.zero_le _, Nat.zero_le _⟩ ?_
  refine J_if_ne E (tgt := 10) dX4_readPart_5 (by decide) (fun c_5 => ?_) (fun c_5 => ?_)
  · skip
    have c_5 := bI_1 c_5
    refine J_aload_n E dX4_readPart_10 rfl 0 rfl ?_
    refine J_cVv0 E (As := []) (c_X4_nextToken l G h q hq.n) cl_X4_19 yo_X4_nextToken dX4_readPart_11 rfl rfl rfl (Nat.le_of_ble_eq_true rfl) (Nat.le_of_ble_eq_true rfl) rfl (Nat.le_of_ble_eq_true rfl) ⟨Nat.zero_le _, Nat.zero_le _⟩ ?_
    refine J_aload_n E dX4_readPart_14 rfl 0 rfl ?_
    refine J_iload E dX4_readPart_15 4 rfl ?_
    refine J_cVi0 E (As := [.int m]) (c_X4_isNumber l G h (nextX q) m ) cl_X4_47 yo_X4_isNumber dX4_readPart_17 rfl rfl rfl (Nat.le_of_ble_eq_true rfl) (Nat.le_of_ble_eq_true rfl) rfl (Nat.le_of_ble_eq_true rfl) ⟨Nat.zero_le _, Nat.zero_le _⟩ ?_
    refine J_if_ne E (tgt := 25) dX4_readPart_20 (by decide) (fun c_20 => ?_) (fun c_20 => ?_)
    · skip
      have c_20 := bI_1 c_20
      refine J_aload_n E dX4_readPart_25 rfl 2 rfl ?_
      refine J_iload_n E dX4_readPart_26 rfl 3 rfl ?_
      refine J_aload_n E dX4_readPart_27 rfl 0 rfl ?_
      refine gTQ0_X4_51 E dX4_readPart_28 ?_
      refine sTQ_6 E (j := j) dX4_readPart_31 (by omega) ?_
      refine J_aload_n E dX4_readPart_32 rfl 0 rfl ?_
      refine J_cVv0 E (As := []) (c_X4_nextToken l G h (up3 (nextX q) 0 2 j ((nextX q) 6 1 3)) (okT_up (okT_next hq.n) _ _ _).n) cl_X4_19 yo_X4_nextToken dX4_readPart_33 rfl rfl rfl (Nat.le_of_ble_eq_true rfl) (Nat.le_of_ble_eq_true rfl) rfl (Nat.le_of_ble_eq_true rfl) ⟨Nat.zero_le _, Nat.zero_le _⟩ ?_
      refine J_iconst E dX4_readPart_36 ic_1 ?_
      exact ret _ _ _ _ ⟨by rw [bI_t]; simp [rpB, c_5, c_20], (congrArg (wTQ G h) (by rw [rpX, if_pos c_5, if_pos c_20]))⟩ rfl dX4_readPart_37
    · skip
      have c_20 := bI_0 c_20
      refine J_iconst E dX4_readPart_23 ic_0 ?_
      exact ret _ _ _ _ ⟨by rw [bI_f]; simp [rpB, c_5, c_20], (congrArg (wTQ G h) (by rw [rpX, if_pos c_5, if_neg c_20]))⟩ rfl dX4_readPart_24
  · skip
    have c_5 := bI_0 c_5
    refine J_iconst E dX4_readPart_8 ic_1 ?_
    exact ret _ _ _ _ ⟨by rw [bI_t]; simp [rpB, c_5], (congrArg (wTQ G h) (by rw [rpX, if_neg c_5]))⟩ rfl dX4_readPart_9

set_option maxHeartbeats 4000000 in
set_option maxRecDepth 20000 in
theorem c_X4_readPart_3 (l : Launch) (G : GB) (h : Nat → Nat) (q : Q3) (i j : Nat) (m : Int32) (hi : i < 27) (hj : j < 11) (hq : okT q) : CI l yX4_readPart cX4_readPart 5 .boolean 5 107 G [.ref (h 0), .ref (G.2.2.2.2.1 i), .ref (h 7), .int (nI j), .int m] (wTQ G h q) (fun vR w' => vR = bI (rpB q i m = true) ∧ w' = wTQ G h (rpX q i 3 j m)) := by
  refine CI.mk (own := RX4) (by decide) rfl (Nat.le_of_ble_eq_true rfl) ?_
  intro X E ret
  show J X G 5 0 0 (wTQ G h q) [(0, .ref (h 0)), (1, .ref (G.2.2.2.2.1 i)), (2, .ref (h 7)), (3, .int (nI j)), (4, .int m)] 0 []
  refine J_aload_n E dX4_readPart_0 rfl 0 rfl ?_
  refine J_aload_n E dX4_readPart_1 rfl 1 rfl ?_
  refine J_cVi0 E (As := [.ref (G.2.2.2.2.1 i)]) (c_X4_isWord l G h q i hi hq) cl_X4_36 yo_X4_isWord dX4_readPart_2 rfl rfl rfl (Nat.le_of_ble_eq_true rfl) (Nat.le_of_ble_eq_true rfl) rfl (Nat.le_of_ble_eq_true rfl) ⟨Nat.zero_le _, Nat.zero_le _⟩ ?_
  refine J_if_ne E (tgt := 10) dX4_readPart_5 (by decide) (fun c_5 => ?_) (fun c_5 => ?_)
  · skip
    have c_5 := bI_1 c_5
    refine J_aload_n E dX4_readPart_10 rfl 0 rfl ?_
    refine J_cVv0 E (As := []) (c_X4_nextToken l G h q hq.n) cl_X4_19 yo_X4_nextToken dX4_readPart_11 rfl rfl rfl (Nat.le_of_ble_eq_true rfl) (Nat.le_of_ble_eq_true rfl) rfl (Nat.le_of_ble_eq_true rfl) ⟨Nat.zero_le _, Nat.zero_le _⟩ ?_
    refine J_aload_n E dX4_readPart_14 rfl 0 rfl ?_
    refine J_iload E dX4_readPart_15 4 rfl ?_
    refine J_cVi0 E (As := [.int m]) (c_X4_isNumber l G h (nextX q) m ) cl_X4_47 yo_X4_isNumber dX4_readPart_17 rfl rfl rfl (Nat.le_of_ble_eq_true rfl) (Nat.le_of_ble_eq_true rfl) rfl (Nat.le_of_ble_eq_true rfl) ⟨Nat.zero_le _, Nat.zero_le _⟩ ?_
    refine J_if_ne E (tgt := 25) dX4_readPart_20 (by decide) (fun c_20 => ?_) (fun c_20 => ?_)
    · skip
      have c_20 := bI_1 c_20
      refine J_aload_n E dX4_readPart_25 rfl 2 rfl ?_
      refine J_iload_n E dX4_readPart_26 rfl 3 rfl ?_
      refine J_aload_n E dX4_readPart_27 rfl 0 rfl ?_
      refine gTQ0_X4_51 E dX4_readPart_28 ?_
      refine sTQ_7 E (j := j) dX4_readPart_31 (by omega) ?_
      refine J_aload_n E dX4_readPart_32 rfl 0 rfl ?_
      refine J_cVv0 E (As := []) (c_X4_nextToken l G h (up3 (nextX q) 0 3 j ((nextX q) 6 1 3)) (okT_up (okT_next hq.n) _ _ _).n) cl_X4_19 yo_X4_nextToken dX4_readPart_33 rfl rfl rfl (Nat.le_of_ble_eq_true rfl) (Nat.le_of_ble_eq_true rfl) rfl (Nat.le_of_ble_eq_true rfl) ⟨Nat.zero_le _, Nat.zero_le _⟩ ?_
      refine J_iconst E dX4_readPart_36 ic_1 ?_
      exact ret _ _ _ _ ⟨by rw [bI_t]; simp [rpB, c_5, c_20], (congrArg (wTQ G h) (by rw [rpX, if_pos c_5, if_pos c_20]))⟩ rfl dX4_readPart_37
    · skip
      have c_20 := bI_0 c_20
      refine J_iconst E dX4_readPart_23 ic_0 ?_
      exact ret _ _ _ _ ⟨by rw [bI_f]; simp [rpB, c_5, c_20], (congrArg (wTQ G h) (by rw [rpX, if_pos c_5, if_neg c_20]))⟩ rfl dX4_readPart_24
  · skip
    have c_5 := bI_0 c_5
    refine J_iconst E dX4_readPart_8 ic_1 ?_
    exact ret _ _ _ _ ⟨by rw [bI_t]; simp [rpB, c_5], (congrArg (wTQ G h) (by rw [rpX, if_neg c_5]))⟩ rfl dX4_readPart_9

set_option maxHeartbeats 4000000 in
set_option maxRecDepth 20000 in
theorem c_X4_readSpout (l : Launch) (G : GB) (h : Nat → Nat) (q : Q3) (j : Nat) (hj : j < 11) (hq : okT q) : CI l yX4_readSpout cX4_readSpout 3 .boolean 5 107 G [.ref (h 0), .ref (h 3), .int (nI j)] (wTQ G h q) (fun vR w' => vR = 1 ∧ w' = wTQ G h (rsX q j)) := by
  refine CI.mk (own := RX4) (by decide) rfl (Nat.le_of_ble_eq_true rfl) ?_
  intro X E ret
  show J X G 3 0 0 (wTQ G h q) [(0, .ref (h 0)), (1, .ref (h 3)), (2, .int (nI j))] 0 []
  refine J_aload_n E dX4_readSpout_0 rfl 0 rfl ?_
  refine J_ldcS E (q := 11) rfl dX4_readSpout_1 ?_
  refine J_cVi0 E (As := [.ref (G.2.2.2.2.1 11)]) (c_X4_isWord l G h q 11 (by decide) hq) cl_X4_36 yo_X4_isWord dX4_readSpout_3 rfl rfl rfl (Nat.le_of_ble_eq_true rfl) (Nat.le_of_ble_eq_true rfl) rfl (Nat.le_of_ble_eq_true rfl) ⟨Nat.zero_le _, Nat.zero_le _⟩ ?_
  refine J_if_eq E (tgt := 23) dX4_readSpout_6 (by decide) (fun c_6 => ?_) (fun c_6 => ?_)
  · skip
    have c_6 := bI_0 c_6
    refine J_aload_n E dX4_readSpout_23 rfl 0 rfl ?_
    refine J_ldcS E (q := 12) rfl dX4_readSpout_24 ?_
    refine J_cVi0 E (As := [.ref (G.2.2.2.2.1 12)]) (c_X4_isWord l G h q 12 (by decide) hq) cl_X4_36 yo_X4_isWord dX4_readSpout_26 rfl rfl rfl (Nat.le_of_ble_eq_true rfl) (Nat.le_of_ble_eq_true rfl) rfl (Nat.le_of_ble_eq_true rfl) ⟨Nat.zero_le _, Nat.zero_le _⟩ ?_
    refine J_if_eq E (tgt := 43) dX4_readSpout_29 (by decide) (fun c_29 => ?_) (fun c_29 => ?_)
    · skip
      have c_29 := bI_0 c_29
      refine J_iconst E dX4_readSpout_43 ic_1 ?_
      exact ret _ _ _ _ ⟨rfl, (congrArg (wTQ G h) (by first | rw [rsX, if_pos c_6] | rw [rsX, if_neg c_6, if_pos c_29] | rw [rsX, if_neg c_6, if_neg c_29]))⟩ rfl dX4_readSpout_44
    · skip
      have c_29 := bI_1 c_29
      refine J_aload_n E dX4_readSpout_32 rfl 1 rfl ?_
      refine gTQ3_X4_86 E dX4_readSpout_33 ?_
      refine J_iload_n E dX4_readSpout_36 rfl 2 rfl ?_
      refine J_iconst E dX4_readSpout_37 ic_1 ?_
      refine sTQ_8 E (j := j) dX4_readSpout_38 (by omega) ?_
      refine J_aload_n E dX4_readSpout_39 rfl 0 rfl ?_
      refine J_cVv0 E (As := []) (c_X4_nextToken l G h (up3 q 0 4 j 1) (okT_up hq _ _ _).n) cl_X4_19 yo_X4_nextToken dX4_readSpout_40 rfl rfl rfl (Nat.le_of_ble_eq_true rfl) (Nat.le_of_ble_eq_true rfl) rfl (Nat.le_of_ble_eq_true rfl) ⟨Nat.zero_le _, Nat.zero_le _⟩ ?_
      refine J_iconst E dX4_readSpout_43 ic_1 ?_
      exact ret _ _ _ _ ⟨rfl, (congrArg (wTQ G h) (by first | rw [rsX, if_pos c_6] | rw [rsX, if_neg c_6, if_pos c_29] | rw [rsX, if_neg c_6, if_neg c_29]))⟩ rfl dX4_readSpout_44
  · skip
    have c_6 := bI_1 c_6
    refine J_aload_n E dX4_readSpout_9 rfl 1 rfl ?_
    refine gTQ3_X4_86 E dX4_readSpout_10 ?_
    refine J_iload_n E dX4_readSpout_13 rfl 2 rfl ?_
    refine J_iconst E dX4_readSpout_14 ic_0 ?_
    refine sTQ_8 E (j := j) dX4_readSpout_15 (by omega) ?_
    refine J_aload_n E dX4_readSpout_16 rfl 0 rfl ?_
    refine J_cVv0 E (As := []) (c_X4_nextToken l G h (up3 q 0 4 j 0) (okT_up hq _ _ _).n) cl_X4_19 yo_X4_nextToken dX4_readSpout_17 rfl rfl rfl (Nat.le_of_ble_eq_true rfl) (Nat.le_of_ble_eq_true rfl) rfl (Nat.le_of_ble_eq_true rfl) ⟨Nat.zero_le _, Nat.zero_le _⟩ ?_
    refine J_goto E (tgt := 43) dX4_readSpout_20 (by decide) ?_
    refine J_iconst E dX4_readSpout_43 ic_1 ?_
    exact ret _ _ _ _ ⟨rfl, (congrArg (wTQ G h) (by first | rw [rsX, if_pos c_6] | rw [rsX, if_neg c_6, if_pos c_29] | rw [rsX, if_neg c_6, if_neg c_29]))⟩ rfl dX4_readSpout_44

set_option maxHeartbeats 4000000 in
set_option maxRecDepth 20000 in
theorem c_X4_readItem (l : Launch) (G : GB) (h : Nat → Nat) (q : Q3) (hq : okT q)  : CI l yX4_readItem cX4_readItem 4 .boolean 6 131 G [.ref (h 0), .ref (h 3)] (wTQ G h q) (fun vR w' => vR = bI (riB q = true) ∧ w' = wTQ G h (riX q)) := by
  refine CI.mk (own := RX4) (by decide) rfl (Nat.le_of_ble_eq_true rfl) ?_
  intro X E ret
  show J X G 4 0 0 (wTQ G h q) [(0, .ref (h 0)), (1, .ref (h 3))] 0 []
  refine J_aload_n E dX4_readItem_0 rfl 0 rfl ?_
  refine J_ldcS E (q := 0) rfl dX4_readItem_1 ?_
  refine J_cVi0 E (As := [.ref (G.2.2.2.2.1 0)]) (c_X4_isWord l G h q 0 (by decide) hq) cl_X4_36 yo_X4_isWord dX4_readItem_3 rfl rfl rfl (Nat.le_of_ble_eq_true rfl) (Nat.le_of_ble_eq_true rfl) rfl (Nat.le_of_ble_eq_true rfl) ⟨Nat.zero_le _, Nat.zero_le _⟩ ?_
  refine J_if_eq E (tgt := 15) dX4_readItem_6 (by decide) (fun c_6 => ?_) (fun c_6 => ?_)
  · skip
    have c_6 := bI_0 c_6
    refine J_aload_n E dX4_readItem_15 rfl 0 rfl ?_
    refine J_cVi0 E (As := []) (c_X4_kindOfWord l G h q hq) cl_X4_43 yo_X4_kindOfWord dX4_readItem_16 rfl rfl rfl (Nat.le_of_ble_eq_true rfl) (Nat.le_of_ble_eq_true rfl) rfl (Nat.le_of_ble_eq_true rfl) ⟨Nat.zero_le _, Nat.zero_le _⟩ ?_
    refine J_istore_n E (lv' := [(2, .int (kwF q)), (0, .ref (h 0)), (1, .ref (h 3))]) dX4_readItem_19 rfl (by decide) rfl ?_
    refine J_iload_n E dX4_readItem_20 rfl 0 rfl ?_
    refine J_if_ge E (tgt := 26) dX4_readItem_21 (by decide) (fun c_21 => ?_) (fun c_21 => ?_)
    · skip
      have c_21 : ¬ kwF q < 0 := Int32.not_lt.mpr c_21
      refine J_aload_n E dX4_readItem_26 rfl 1 rfl ?_
      refine J_cVv0 E (As := []) (c_X4_nextToken l G h q hq.n) cl_X4_19 yo_X4_nextToken dX4_readItem_27 rfl rfl rfl (Nat.le_of_ble_eq_true rfl) (Nat.le_of_ble_eq_true rfl) rfl (Nat.le_of_ble_eq_true rfl) ⟨Nat.zero_le _, Nat.zero_le _⟩ ?_
      refine J_aload_n E dX4_readItem_30 rfl 1 rfl ?_
      refine J_bipush E dX4_readItem_31 bp_10 ?_
      refine J_cVi0 E (As := [.int 10]) (c_X4_isNumber l G h (nextX q) 10 ) cl_X4_47 yo_X4_isNumber dX4_readItem_33 rfl rfl rfl (Nat.le_of_ble_eq_true rfl) (Nat.le_of_ble_eq_true rfl) rfl (Nat.le_of_ble_eq_true rfl) ⟨Nat.zero_le _, Nat.zero_le _⟩ ?_
      refine J_if_ne E (tgt := 41) dX4_readItem_36 (by decide) (fun c_36 => ?_) (fun c_36 => ?_)
      · skip
        have c_36 := bI_1 c_36
        refine J_aload_n E dX4_readItem_41 rfl 1 rfl ?_
        refine gTQ0_X4_51 E dX4_readItem_42 ?_
        obtain ⟨j, hj, hjv, hjn⟩ := isN_num (m := 10) (by decide) hq.n c_36
        refine J_top (x' := nI j) (hjv) ?_
        refine J_istore_n E (lv' := [(3, .int (nI j)), (2, .int (kwF q)), (0, .ref (h 0)), (1, .ref (h 3))]) dX4_readItem_45 rfl (by decide) rfl ?_
        refine J_aload_n E dX4_readItem_46 rfl 3 rfl ?_
        refine gTQ3_X4_54 E dX4_readItem_47 ?_
        refine J_iload_n E dX4_readItem_50 rfl 0 rfl ?_
        refine J_iload_n E dX4_readItem_51 rfl 1 rfl ?_
        refine sTQ_4 E (j := j) dX4_readItem_52 (by omega) ?_
        refine J_aload_n E dX4_readItem_53 rfl 2 rfl ?_
        refine J_cVv0 E (As := []) (c_X4_nextToken l G h (up3 (nextX q) 0 0 j (kwF q)) (okT_up (okT_next hq.n) _ _ _).n) cl_X4_19 yo_X4_nextToken dX4_readItem_54 rfl rfl rfl (Nat.le_of_ble_eq_true rfl) (Nat.le_of_ble_eq_true rfl) rfl (Nat.le_of_ble_eq_true rfl) ⟨Nat.zero_le _, Nat.zero_le _⟩ ?_
        refine J_w (ws' := wTQ G h (riA q j)) (congrArg (wTQ G h) (rfl)) ?_
        refine J_aload_n E dX4_readItem_57 rfl 2 rfl ?_
        refine J_ldcS E (q := 8) rfl dX4_readItem_58 ?_
        refine J_aload_n E dX4_readItem_60 rfl 3 rfl ?_
        refine gTQ3_X4_62 E dX4_readItem_61 ?_
        refine J_iload_n E dX4_readItem_64 rfl 0 rfl ?_
        refine J_sipush E dX4_readItem_65 sp_9999 ?_
        refine J_cVi0 E (As := [.ref (G.2.2.2.2.1 8), .ref (h 5), .int (nI j), .int 9999]) (c_X4_readPart_1 l G h (riA q j) 8 j 9999 (by decide) (by omega) (show okT (riA q j) from (okT_next (okT_up (okT_next hq.n) _ _ _).n))) cl_X4_65 yo_X4_readPart dX4_readItem_68 rfl rfl rfl (Nat.le_of_ble_eq_true rfl) (Nat.le_of_ble_eq_true rfl) rfl (Nat.le_of_ble_eq_true rfl) ⟨Nat.zero_le _, Nat.zero_le _⟩ ?_
        refine J_if_eq E (tgt := 120) dX4_readItem_71 (by decide) (fun c_71 => ?_) (fun c_71 => ?_)
        · skip
          have c_71 := bI_0 c_71
          refine J_iconst E dX4_readItem_120 ic_0 ?_
          exact ret _ _ _ _ ⟨by first | exact (bI_f (by unfold riB; rw [if_neg c_6, if_neg c_21, if_pos c_36, hjn]; unfold ripB; first | (simp [c_71]; done) | (simp [c_71, c_87]; done) | (simp [c_71, c_87, c_104]; done))).symm | exact (bI_t (by unfold riB; rw [if_neg c_6, if_neg c_21, if_pos c_36, hjn]; unfold ripB; simp [c_71, c_87, c_104])).symm, (congrArg (wTQ G h) (by first | rw [riX, if_neg c_6, if_neg c_21, if_pos c_36, hjn, ripX, if_neg c_71] | rw [riX, if_neg c_6, if_neg c_21, if_pos c_36, hjn, ripX, if_pos c_71, if_neg c_87] | rw [riX, if_neg c_6, if_neg c_21, if_pos c_36, hjn, ripX, if_pos c_71, if_pos c_87, if_neg c_104] | rw [riX, if_neg c_6, if_neg c_21, if_pos c_36, hjn, ripX, if_pos c_71, if_pos c_87, if_pos c_104]))⟩ rfl dX4_readItem_121
        · skip
          have c_71 := bI_1 c_71
          refine J_aload_n E dX4_readItem_74 rfl 2 rfl ?_
          refine J_ldcS E (q := 9) rfl dX4_readItem_75 ?_
          refine J_aload_n E dX4_readItem_77 rfl 3 rfl ?_
          refine gTQ3_X4_71 E dX4_readItem_78 ?_
          refine J_iload_n E dX4_readItem_81 rfl 0 rfl ?_
          refine J_bipush E dX4_readItem_82 bp_99 ?_
          refine J_cVi0 E (As := [.ref (G.2.2.2.2.1 9), .ref (h 6), .int (nI j), .int 99]) (c_X4_readPart_2 l G h (rpX (riA q j) 8 1 j 9999) 9 j 99 (by decide) (by omega) (okT_rp (show okT (riA q j) from (okT_next (okT_up (okT_next hq.n) _ _ _).n)) _ _ _ _)) cl_X4_65 yo_X4_readPart dX4_readItem_84 rfl rfl rfl (Nat.le_of_ble_eq_true rfl) (Nat.le_of_ble_eq_true rfl) rfl (Nat.le_of_ble_eq_true rfl) ⟨Nat.zero_le _, Nat.zero_le _⟩ ?_
          refine J_if_eq E (tgt := 120) dX4_readItem_87 (by decide) (fun c_87 => ?_) (fun c_87 => ?_)
          · skip
            have c_87 := bI_0 c_87
            refine J_iconst E dX4_readItem_120 ic_0 ?_
            exact ret _ _ _ _ ⟨by first | exact (bI_f (by unfold riB; rw [if_neg c_6, if_neg c_21, if_pos c_36, hjn]; unfold ripB; first | (simp [c_71]; done) | (simp [c_71, c_87]; done) | (simp [c_71, c_87, c_104]; done))).symm | exact (bI_t (by unfold riB; rw [if_neg c_6, if_neg c_21, if_pos c_36, hjn]; unfold ripB; simp [c_71, c_87, c_104])).symm, (congrArg (wTQ G h) (by first | rw [riX, if_neg c_6, if_neg c_21, if_pos c_36, hjn, ripX, if_neg c_71] | rw [riX, if_neg c_6, if_neg c_21, if_pos c_36, hjn, ripX, if_pos c_71, if_neg c_87] | rw [riX, if_neg c_6, if_neg c_21, if_pos c_36, hjn, ripX, if_pos c_71, if_pos c_87, if_neg c_104] | rw [riX, if_neg c_6, if_neg c_21, if_pos c_36, hjn, ripX, if_pos c_71, if_pos c_87, if_pos c_104]))⟩ rfl dX4_readItem_121
          · skip
            have c_87 := bI_1 c_87
            refine J_aload_n E dX4_readItem_90 rfl 2 rfl ?_
            refine J_ldcS E (q := 10) rfl dX4_readItem_91 ?_
            refine J_aload_n E dX4_readItem_93 rfl 3 rfl ?_
            refine gTQ3_X4_76 E dX4_readItem_94 ?_
            refine J_iload_n E dX4_readItem_97 rfl 0 rfl ?_
            refine J_sipush E dX4_readItem_98 sp_999 ?_
            refine J_cVi0 E (As := [.ref (G.2.2.2.2.1 10), .ref (h 7), .int (nI j), .int 999]) (c_X4_readPart_3 l G h (rpX (rpX (riA q j) 8 1 j 9999) 9 2 j 99) 10 j 999 (by decide) (by omega) (okT_rp (okT_rp (show okT (riA q j) from (okT_next (okT_up (okT_next hq.n) _ _ _).n)) _ _ _ _) _ _ _ _)) cl_X4_65 yo_X4_readPart dX4_readItem_101 rfl rfl rfl (Nat.le_of_ble_eq_true rfl) (Nat.le_of_ble_eq_true rfl) rfl (Nat.le_of_ble_eq_true rfl) ⟨Nat.zero_le _, Nat.zero_le _⟩ ?_
            refine J_if_eq E (tgt := 120) dX4_readItem_104 (by decide) (fun c_104 => ?_) (fun c_104 => ?_)
            · skip
              have c_104 := bI_0 c_104
              refine J_iconst E dX4_readItem_120 ic_0 ?_
              exact ret _ _ _ _ ⟨by first | exact (bI_f (by unfold riB; rw [if_neg c_6, if_neg c_21, if_pos c_36, hjn]; unfold ripB; first | (simp [c_71]; done) | (simp [c_71, c_87]; done) | (simp [c_71, c_87, c_104]; done))).symm | exact (bI_t (by unfold riB; rw [if_neg c_6, if_neg c_21, if_pos c_36, hjn]; unfold ripB; simp [c_71, c_87, c_104])).symm, (congrArg (wTQ G h) (by first | rw [riX, if_neg c_6, if_neg c_21, if_pos c_36, hjn, ripX, if_neg c_71] | rw [riX, if_neg c_6, if_neg c_21, if_pos c_36, hjn, ripX, if_pos c_71, if_neg c_87] | rw [riX, if_neg c_6, if_neg c_21, if_pos c_36, hjn, ripX, if_pos c_71, if_pos c_87, if_neg c_104] | rw [riX, if_neg c_6, if_neg c_21, if_pos c_36, hjn, ripX, if_pos c_71, if_pos c_87, if_pos c_104]))⟩ rfl dX4_readItem_121
            · skip
              have c_104 := bI_1 c_104
              refine J_aload_n E dX4_readItem_107 rfl 2 rfl ?_
              refine J_aload_n E dX4_readItem_108 rfl 3 rfl ?_
              refine J_iload_n E dX4_readItem_109 rfl 0 rfl ?_
              refine J_cVi0 E (As := [.ref (h 3), .int (nI j)]) (c_X4_readSpout l G h (rpX (rpX (rpX (riA q j) 8 1 j 9999) 9 2 j 99) 10 3 j 999) j (by omega) (okT_rp (okT_rp (okT_rp (show okT (riA q j) from (okT_next (okT_up (okT_next hq.n) _ _ _).n)) _ _ _ _) _ _ _ _) _ _ _ _)) cl_X4_78 yo_X4_readSpout dX4_readItem_110 rfl rfl rfl (Nat.le_of_ble_eq_true rfl) (Nat.le_of_ble_eq_true rfl) rfl (Nat.le_of_ble_eq_true rfl) ⟨Nat.zero_le _, Nat.zero_le _⟩ ?_
              refine J_if_eq E (tgt := 120) dX4_readItem_113 (by decide) (fun c_113 => ?_) (fun c_113 => ?_)
              · skip
                have n_113 : 1 = 0 := cmp_eq (a := 1) (b := 0) (by omega) (by omega) c_113
                exact absurd n_113 (by decide)
              · skip
                have n_113 : ¬ 1 = 0 := cmp_ne (a := 1) (b := 0) (by omega) (by omega) c_113
                refine J_iconst E dX4_readItem_116 ic_1 ?_
                refine J_goto E (tgt := 121) dX4_readItem_117 (by decide) ?_
                exact ret _ _ _ _ ⟨by first | exact (bI_f (by unfold riB; rw [if_neg c_6, if_neg c_21, if_pos c_36, hjn]; unfold ripB; first | (simp [c_71]; done) | (simp [c_71, c_87]; done) | (simp [c_71, c_87, c_104]; done))).symm | exact (bI_t (by unfold riB; rw [if_neg c_6, if_neg c_21, if_pos c_36, hjn]; unfold ripB; simp [c_71, c_87, c_104])).symm, (congrArg (wTQ G h) (by first | rw [riX, if_neg c_6, if_neg c_21, if_pos c_36, hjn, ripX, if_neg c_71] | rw [riX, if_neg c_6, if_neg c_21, if_pos c_36, hjn, ripX, if_pos c_71, if_neg c_87] | rw [riX, if_neg c_6, if_neg c_21, if_pos c_36, hjn, ripX, if_pos c_71, if_pos c_87, if_neg c_104] | rw [riX, if_neg c_6, if_neg c_21, if_pos c_36, hjn, ripX, if_pos c_71, if_pos c_87, if_pos c_104]))⟩ rfl dX4_readItem_121
      · skip
        have c_36 := bI_0 c_36
        refine J_iconst E dX4_readItem_39 ic_0 ?_
        exact ret _ _ _ _ ⟨(bI_f (by unfold riB; rw [if_neg c_6, if_neg c_21, if_neg c_36]; decide)).symm, (congrArg (wTQ G h) (by rw [riX, if_neg c_6, if_neg c_21, if_neg c_36]))⟩ rfl dX4_readItem_40
    · skip
      have c_21 : kwF q < 0 := Int32.not_le.mp c_21
      refine J_iconst E dX4_readItem_24 ic_0 ?_
      exact ret _ _ _ _ ⟨(bI_f (by unfold riB; rw [if_neg c_6, if_pos c_21]; decide)).symm, (congrArg (wTQ G h) (by rw [riX, if_neg c_6, if_pos c_21]))⟩ rfl dX4_readItem_25
  · skip
    have c_6 := bI_1 c_6
    refine J_aload_n E dX4_readItem_9 rfl 0 rfl ?_
    refine J_aload_n E dX4_readItem_10 rfl 1 rfl ?_
    refine J_cVi0 E (As := [.ref (h 3)]) (c_X4_readRain l G h q hq) cl_X4_40 yo_X4_readRain dX4_readItem_11 rfl rfl rfl (Nat.le_of_ble_eq_true rfl) (Nat.le_of_ble_eq_true rfl) rfl (Nat.le_of_ble_eq_true rfl) ⟨Nat.zero_le _, Nat.zero_le _⟩ ?_
    exact ret _ _ _ _ ⟨by rw [show riB q = rrB q by unfold riB; rw [if_pos c_6]], (congrArg (wTQ G h) (by rw [riX, if_pos c_6]))⟩ bI_nar dX4_readItem_14

set_option maxHeartbeats 4000000 in
set_option maxRecDepth 20000 in
theorem c_X4_readInto (l : Launch) (G : GB) (h : Nat → Nat) (q : Q3) (n : Nat) (hn : q 7 1 0 = nI n) (hn2 : n ≤ 120)  : CI l yX4_readInto cX4_readInto 4 .int 7 154 G [.ref (h 0), .ref (h 3)] (wTQ G h q) (fun vR w' => vR = tlR (tl0 q) ∧ w' = wTQ G h ((tl0 q).2.1)) := by
  refine CI.mk (own := RX4) (by decide) rfl (Nat.le_of_ble_eq_true rfl) ?_
  intro X E ret
  show J X G 4 0 0 (wTQ G h q) [(0, .ref (h 0)), (1, .ref (h 3))] 0 []
  refine J_aload_n E dX4_readInto_0 rfl 0 rfl ?_
  refine J_iconst E dX4_readInto_1 ic_0 ?_
  refine pTQ0_X4_15 E dX4_readInto_2 ?_
  refine J_aload_n E dX4_readInto_5 rfl 0 rfl ?_
  refine J_cVv0 E (As := []) (c_X4_nextToken l G h (up3 q 6 1 1 0) ⟨n, 0, hn, hn2, rfl, Nat.zero_le _⟩) cl_X4_19 yo_X4_nextToken dX4_readInto_6 rfl rfl rfl (Nat.le_of_ble_eq_true rfl) (Nat.le_of_ble_eq_true rfl) rfl (Nat.le_of_ble_eq_true rfl) ⟨Nat.zero_le _, Nat.zero_le _⟩ ?_
  refine J_aload_n E dX4_readInto_9 rfl 0 rfl ?_
  refine J_aload_n E dX4_readInto_10 rfl 1 rfl ?_
  refine J_cVi0 E (As := [.ref (h 3)]) (c_X4_readItem l G h (nextX (up3 q 6 1 1 0)) (okT_next (show okN (up3 q 6 1 1 0) from ⟨n, 0, hn, hn2, rfl, Nat.zero_le _⟩))) cl_X4_22 yo_X4_readItem dX4_readInto_11 rfl rfl rfl (Nat.le_of_ble_eq_true rfl) (Nat.le_of_ble_eq_true rfl) rfl (Nat.le_of_ble_eq_true rfl) ⟨Nat.zero_le _, Nat.zero_le _⟩ ?_
  refine J_istore_n E (lv' := [(2, .int (bI (riB (nextX (up3 q 6 1 1 0)) = true))), (0, .ref (h 0)), (1, .ref (h 3))]) dX4_readInto_14 rfl (by decide) rfl ?_
  refine J_iconst E dX4_readInto_15 ic_1 ?_
  refine J_istore_n E (lv' := [(3, .int 1), (2, .int (bI (riB (nextX (up3 q 6 1 1 0)) = true))), (0, .ref (h 0)), (1, .ref (h 3))]) dX4_readInto_16 rfl (by decide) rfl ?_
  have lp17 : ∀ (fu : Nat) (b : Bool) (i : Nat) (S : Q3), (i ≤ 120) → (1 ≤ i) → (okT S) → (tl0 q = tlF (120 - i) b S i) → 120 - i < fu → J X G 4 0 0 (wTQ G h S) [(0, .ref (h 0)), (1, .ref (h 3)), (2, .int (bI (b = true))), (3, .int (nI i))] 17 [] := by
    intro fu
    induction fu with
    | zero => intro b i S hi h0 hS h1 hm; exact absurd hm (Nat.not_lt_zero _)
    | succ fu ih17 =>
      intro b i S hi h0 hS h1 hm
      refine J_iload_n E dX4_readInto_17 rfl 2 rfl ?_
      refine J_if_eq E (tgt := 51) dX4_readInto_18 (by decide) (fun c_18 => ?_) (fun c_18 => ?_)
      · skip
        have c_18 := bI_0 c_18
        have h2 : tl0 q = (b, S, i) := by rw [h1]; exact tlF_end (fun z => c_18 z.1)
        refine J_iload_n E dX4_readInto_51 rfl 2 rfl ?_
        refine J_if_eq E (tgt := 66) dX4_readInto_52 (by decide) (fun c_52 => ?_) (fun c_52 => ?_)
        · skip
          have c_52 := bI_0 c_52
          refine J_iconst E dX4_readInto_66 ic_m1 ?_
          refine J_aload_n E dX4_readInto_67 rfl 0 rfl ?_
          refine gTQ0_X4_31 E dX4_readInto_68 ?_
          refine J_isub E dX4_readInto_71 ?_
          exact ret _ _ _ _ ⟨by rw [h2, tlR]; first | rw [if_pos ⟨c_52, c_59⟩] | rw [if_neg (fun z => c_52 z.1)] | rw [if_neg (fun z => c_59 z.2)], (congrArg (wTQ G h) (by rw [h2]))⟩ rfl dX4_readInto_72
        · skip
          have c_52 := bI_1 c_52
          refine J_aload_n E dX4_readInto_55 rfl 0 rfl ?_
          refine gTQ0_X4_26 E dX4_readInto_56 ?_
          refine J_if_ne E (tgt := 66) dX4_readInto_59 (by decide) (fun c_59 => ?_) (fun c_59 => ?_)
          · skip
            refine J_iconst E dX4_readInto_66 ic_m1 ?_
            refine J_aload_n E dX4_readInto_67 rfl 0 rfl ?_
            refine gTQ0_X4_31 E dX4_readInto_68 ?_
            refine J_isub E dX4_readInto_71 ?_
            exact ret _ _ _ _ ⟨by rw [h2, tlR]; first | rw [if_pos ⟨c_52, c_59⟩] | rw [if_neg (fun z => c_52 z.1)] | rw [if_neg (fun z => c_59 z.2)], (congrArg (wTQ G h) (by rw [h2]))⟩ rfl dX4_readInto_72
          · skip
            refine J_iload_n E dX4_readInto_62 rfl 3 rfl ?_
            refine J_goto E (tgt := 72) dX4_readInto_63 (by decide) ?_
            exact ret _ _ _ _ ⟨by rw [h2, tlR]; first | rw [if_pos ⟨c_52, c_59⟩] | rw [if_neg (fun z => c_52 z.1)] | rw [if_neg (fun z => c_59 z.2)], (congrArg (wTQ G h) (by rw [h2]))⟩ rfl dX4_readInto_72
      · skip
        have c_18 := bI_1 c_18
        refine J_aload_n E dX4_readInto_21 rfl 0 rfl ?_
        refine gTQ0_X4_26 E dX4_readInto_22 ?_
        refine J_iconst E dX4_readInto_25 ic_3 ?_
        refine J_icmp_ne E (tgt := 51) dX4_readInto_26 (by decide) (fun c_26 => ?_) (fun c_26 => ?_)
        · skip
          have h2 : tl0 q = (b, S, i) := by rw [h1]; exact tlF_end (fun z => c_26 z.2)
          refine J_iload_n E dX4_readInto_51 rfl 2 rfl ?_
          refine J_if_eq E (tgt := 66) dX4_readInto_52 (by decide) (fun c_52 => ?_) (fun c_52 => ?_)
          · skip
            have c_52 := bI_0 c_52
            refine J_iconst E dX4_readInto_66 ic_m1 ?_
            refine J_aload_n E dX4_readInto_67 rfl 0 rfl ?_
            refine gTQ0_X4_31 E dX4_readInto_68 ?_
            refine J_isub E dX4_readInto_71 ?_
            exact ret _ _ _ _ ⟨by rw [h2, tlR]; first | rw [if_pos ⟨c_52, c_59⟩] | rw [if_neg (fun z => c_52 z.1)] | rw [if_neg (fun z => c_59 z.2)], (congrArg (wTQ G h) (by rw [h2]))⟩ rfl dX4_readInto_72
          · skip
            have c_52 := bI_1 c_52
            refine J_aload_n E dX4_readInto_55 rfl 0 rfl ?_
            refine gTQ0_X4_26 E dX4_readInto_56 ?_
            refine J_if_ne E (tgt := 66) dX4_readInto_59 (by decide) (fun c_59 => ?_) (fun c_59 => ?_)
            · skip
              refine J_iconst E dX4_readInto_66 ic_m1 ?_
              refine J_aload_n E dX4_readInto_67 rfl 0 rfl ?_
              refine gTQ0_X4_31 E dX4_readInto_68 ?_
              refine J_isub E dX4_readInto_71 ?_
              exact ret _ _ _ _ ⟨by rw [h2, tlR]; first | rw [if_pos ⟨c_52, c_59⟩] | rw [if_neg (fun z => c_52 z.1)] | rw [if_neg (fun z => c_59 z.2)], (congrArg (wTQ G h) (by rw [h2]))⟩ rfl dX4_readInto_72
            · skip
              refine J_iload_n E dX4_readInto_62 rfl 3 rfl ?_
              refine J_goto E (tgt := 72) dX4_readInto_63 (by decide) ?_
              exact ret _ _ _ _ ⟨by rw [h2, tlR]; first | rw [if_pos ⟨c_52, c_59⟩] | rw [if_neg (fun z => c_52 z.1)] | rw [if_neg (fun z => c_59 z.2)], (congrArg (wTQ G h) (by rw [h2]))⟩ rfl dX4_readInto_72
        · skip
          refine J_iload_n E dX4_readInto_29 rfl 3 rfl ?_
          refine J_bipush E dX4_readInto_30 bp_120 ?_
          refine J_icmp_ge E (tgt := 51) dX4_readInto_32 (by decide) (fun c_32 => ?_) (fun c_32 => ?_)
          · skip
            have n_32 : 120 ≤ i := cmp_le (a := 120) (b := i) (by omega) (by omega) c_32
            have h2 : tl0 q = (b, S, i) := by rw [h1, show 120 - i = 0 by omega]; rfl
            refine J_iload_n E dX4_readInto_51 rfl 2 rfl ?_
            refine J_if_eq E (tgt := 66) dX4_readInto_52 (by decide) (fun c_52 => ?_) (fun c_52 => ?_)
            · skip
              have c_52 := bI_0 c_52
              refine J_iconst E dX4_readInto_66 ic_m1 ?_
              refine J_aload_n E dX4_readInto_67 rfl 0 rfl ?_
              refine gTQ0_X4_31 E dX4_readInto_68 ?_
              refine J_isub E dX4_readInto_71 ?_
              exact ret _ _ _ _ ⟨by rw [h2, tlR]; first | rw [if_pos ⟨c_52, c_59⟩] | rw [if_neg (fun z => c_52 z.1)] | rw [if_neg (fun z => c_59 z.2)], (congrArg (wTQ G h) (by rw [h2]))⟩ rfl dX4_readInto_72
            · skip
              have c_52 := bI_1 c_52
              refine J_aload_n E dX4_readInto_55 rfl 0 rfl ?_
              refine gTQ0_X4_26 E dX4_readInto_56 ?_
              refine J_if_ne E (tgt := 66) dX4_readInto_59 (by decide) (fun c_59 => ?_) (fun c_59 => ?_)
              · skip
                refine J_iconst E dX4_readInto_66 ic_m1 ?_
                refine J_aload_n E dX4_readInto_67 rfl 0 rfl ?_
                refine gTQ0_X4_31 E dX4_readInto_68 ?_
                refine J_isub E dX4_readInto_71 ?_
                exact ret _ _ _ _ ⟨by rw [h2, tlR]; first | rw [if_pos ⟨c_52, c_59⟩] | rw [if_neg (fun z => c_52 z.1)] | rw [if_neg (fun z => c_59 z.2)], (congrArg (wTQ G h) (by rw [h2]))⟩ rfl dX4_readInto_72
              · skip
                refine J_iload_n E dX4_readInto_62 rfl 3 rfl ?_
                refine J_goto E (tgt := 72) dX4_readInto_63 (by decide) ?_
                exact ret _ _ _ _ ⟨by rw [h2, tlR]; first | rw [if_pos ⟨c_52, c_59⟩] | rw [if_neg (fun z => c_52 z.1)] | rw [if_neg (fun z => c_59 z.2)], (congrArg (wTQ G h) (by rw [h2]))⟩ rfl dX4_readInto_72
          · skip
            have n_32 : ¬ 120 ≤ i := cmp_nle (a := 120) (b := i) (by omega) (by omega) c_32
            refine J_aload_n E dX4_readInto_35 rfl 0 rfl ?_
            refine J_cVv0 E (As := []) (c_X4_nextToken l G h S hS.n) cl_X4_19 yo_X4_nextToken dX4_readInto_36 rfl rfl rfl (Nat.le_of_ble_eq_true rfl) (Nat.le_of_ble_eq_true rfl) rfl (Nat.le_of_ble_eq_true rfl) ⟨Nat.zero_le _, Nat.zero_le _⟩ ?_
            refine J_aload_n E dX4_readInto_39 rfl 0 rfl ?_
            refine J_aload_n E dX4_readInto_40 rfl 1 rfl ?_
            refine J_cVi0 E (As := [.ref (h 3)]) (c_X4_readItem l G h (nextX S) (okT_next hS.n)) cl_X4_22 yo_X4_readItem dX4_readInto_41 rfl rfl rfl (Nat.le_of_ble_eq_true rfl) (Nat.le_of_ble_eq_true rfl) rfl (Nat.le_of_ble_eq_true rfl) ⟨Nat.zero_le _, Nat.zero_le _⟩ ?_
            refine J_istore_n E (lv' := [(2, .int (bI (riB (nextX S) = true))), (0, .ref (h 0)), (1, .ref (h 3)), (3, .int (nI i))]) dX4_readInto_44 rfl (by decide) rfl ?_
            refine J_iinc E (lv' := [(3, .int (nI (i + 1))), (2, .int (bI (riB (nextX S) = true))), (0, .ref (h 0)), (1, .ref (h 3))]) dX4_readInto_45 3 rfl (nI_inc _) (by decide) rfl ?_
            refine J_goto E (tgt := 17) dX4_readInto_48 (by decide) ?_
            refine J_lv [2, 3, 1, 0] rfl ?_
            exact ih17 (riB (nextX S)) (i + 1) (riX (nextX S)) (by omega) (by omega) (okT_ri (okT_next hS.n)) (by rw [h1, show 120 - i = (120 - (i + 1)) + 1 by omega, tlF, if_pos ⟨c_18, c_26⟩]) (by omega)
  refine J_lv [2, 3, 1, 0] rfl ?_
  exact lp17 _ (riB (nextX (up3 q 6 1 1 0))) 1 (riX (nextX (up3 q 6 1 1 0))) (by decide) (by decide) (okT_ri (okT_next (show okN (up3 q 6 1 1 0) from ⟨n, 0, hn, hn2, rfl, Nat.zero_le _⟩))) rfl (Nat.lt_succ_self _)

def hTQ (a : Nat → Nat) : Nat → Nat := fun k => if k = 0 then a 29 else if k = 1 then a 27 else if k = 2 then a 28 else a (14 + k)
def tqX (x : Q3) : Q3 := fun g => if g = 0 then x 2 else x g
/-- the object behind a text */ -/
def txX (x q : Q3) : Q3 := fun g => if g = 2 then q 0 else if g = 6 then (fun r => if r = 1 then q 6 1 else x 6 r) else x g
section PT
variable {α : Type} (c A B T F P r s R : List α)
theorem perm_tq : (c ++ (A ++ (B ++ (T ++ (F ++ (P ++ ((r ++ s) ++ R))))))).Perm ([] ++ ((r ++ (P ++ T)) ++ (c ++ (A ++ (B ++ (F ++ (s ++ R))))))) := by
  classical
  rw [List.perm_iff_count]
  intro z
  simp only [List.count_append, List.count_nil]
  omega
end PT
theorem tq_seg {G : GB} {a : Nat → Nat} {x : Q3} : wTQ G (hTQ a) (tqX x) = [(a 29, .inr (3, [.ref (a 27), .int (x 6 1 0), .int (x 6 1 1), .int (x 6 1 2), .int (x 6 1 3)]))] ++ (wT G (sh a 27) (x 7) ++ wQ G (sh a 17) (x 2)) := rfl

set_option maxHeartbeats 4000000 in
theorem J_tx {X : JX} {l : Launch} {G : GB} {cc : ByteArray} {nL fr lo kc ks pc : Nat} {lv : List (Nat × Value)} {rest : List Value} (E : JE X l G cc RX5 nL fr lo) {a : Nat → Nat} {x : Q3} {n : Nat} (hn : x 7 1 0 = nI n) (hn2 : n ≤ 120) (hd : decode cc pc = .ok (.invokevirtual 189, 3)) (hR1 : 8 ≤ fr) (hR2 : 177 ≤ lo) (hrm : (rest.map fun v => v.category).sum ≤ 8) (hk : kc ≤ X.1.2.2.2.1.cells ∧ ks ≤ X.1.2.2.2.1.slots) (K : J X G nL kc ks (wC G a (txX x (tl0 (tqX x)).2.1)) lv (pc + 3) (.int (tlR (tl0 (tqX x))) :: rest)) : J X G nL kc ks (wC G a x) lv pc (.ref (a 17) :: .ref (a 29) :: rest) := by
  refine J_perm (ws' := [] ++ (wTQ G (hTQ a) (tqX x) ++ ([(a 0, .inr (4, [.ref (a 1), .ref (a 9), .ref (a 17), .ref (a 25), .ref (a 27), .ref (a 29), .ref (a 30), .ref (a 26), .int (x 3 1 0)]))] ++ (wQ G (sh a 1) (x 0) ++ (wQ G (sh a 9) (x 1) ++ ([(a 25, .inl (G.2.1, 11, .inl (x 6 0))), (a 26, .inl (G.2.1, 7, .inl (x 3 0)))] ++ ([(a 30, .inl (G.2.2.1, 4, .inr (.inr (.inr (.inr (shR a))))))] ++ (wS G (sh a 31) (x 8) ++ (wS G (sh a 33) (x 9) ++ (wS G (sh a 35) (x 10) ++ wS G (sh a 37) (x 11))))))))))) (perm_tq ([(a 0, .inr (4, [.ref (a 1), .ref (a 9), .ref (a 17), .ref (a 25), .ref (a 27), .ref (a 29), .ref (a 30), .ref (a 26), .int (x 3 1 0)]))]) (wQ G (sh a 1) (x 0)) (wQ G (sh a 9) (x 1)) (wQ G (sh a 17) (x 2)) ([(a 25, .inl (G.2.1, 11, .inl (x 6 0))), (a 26, .inl (G.2.1, 7, .inl (x 3 0)))]) (wT G (sh a 27) (x 7)) ([(a 29, .inr (3, [.ref (a 27), .int (x 6 1 0), .int (x 6 1 1), .int (x 6 1 2), .int (x 6 1 3)]))]) ([(a 30, .inl (G.2.2.1, 4, .inr (.inr (.inr (.inr (shR a))))))]) (wS G (sh a 31) (x 8) ++ (wS G (sh a 33) (x 9) ++ (wS G (sh a 35) (x 10) ++ wS G (sh a 37) (x 11))))) ?_
  refine J_cVi1 E (As := [.ref (a 17)]) [] ([(a 0, .inr (4, [.ref (a 1), .ref (a 9), .ref (a 17), .ref (a 25), .ref (a 27), .ref (a 29), .ref (a 30), .ref (a 26), .int (x 3 1 0)]))] ++ (wQ G (sh a 1) (x 0) ++ (wQ G (sh a 9) (x 1) ++ ([(a 25, .inl (G.2.1, 11, .inl (x 6 0))), (a 26, .inl (G.2.1, 7, .inl (x 3 0)))] ++ ([(a 30, .inl (G.2.2.1, 4, .inr (.inr (.inr (.inr (shR a))))))] ++ (wS G (sh a 31) (x 8) ++ (wS G (sh a 33) (x 9) ++ (wS G (sh a 35) (x 10) ++ wS G (sh a 37) (x 11))))))))) (c_X4_readInto l G (hTQ a) (tqX x) n hn hn2) cl_X5_189 yo_X4_readInto hd rfl rfl rfl (Nat.le_trans (Nat.le_of_ble_eq_true rfl) hR1) (Nat.le_trans (Nat.le_of_ble_eq_true rfl) hR2) rfl hrm rfl hk ?_
  have h7 : (tl0 (tqX x)).2.1 7 = x 7 := tl0_7 (tqX x)
  refine J_perm (ws' := wC G a (txX x (tl0 (tqX x)).2.1)) ?_ K
  have hp := perm_tq ([(a 0, .inr (4, [.ref (a 1), .ref (a 9), .ref (a 17), .ref (a 25), .ref (a 27), .ref (a 29), .ref (a 30), .ref (a 26), .int (x 3 1 0)]))]) (wQ G (sh a 1) (x 0)) (wQ G (sh a 9) (x 1)) (wQ G (sh a 17) ((tl0 (tqX x)).2.1 0)) ([(a 25, .inl (G.2.1, 11, .inl (x 6 0))), (a 26, .inl (G.2.1, 7, .inl (x 3 0)))]) (wT G (sh a 27) ((tl0 (tqX x)).2.1 7)) ([(a 29, .inr (3, [.ref (a 27), .int ((tl0 (tqX x)).2.1 6 1 0), .int ((tl0 (tqX x)).2.1 6 1 1), .int ((tl0 (tqX x)).2.1 6 1 2), .int ((tl0 (tqX x)).2.1 6 1 3)]))]) ([(a 30, .inl (G.2.2.1, 4, .inr (.inr (.inr (.inr (shR a))))))]) (wS G (sh a 31) (x 8) ++ (wS G (sh a 33) (x 9) ++ (wS G (sh a 35) (x 10) ++ wS G (sh a 37) (x 11))))
  have hw : wC G a (txX x (tl0 (tqX x)).2.1) = ([(a 0, .inr (4, [.ref (a 1), .ref (a 9), .ref (a 17), .ref (a 25), .ref (a 27), .ref (a 29), .ref (a 30), .ref (a 26), .int (x 3 1 0)]))]) ++ ((wQ G (sh a 1) (x 0)) ++ ((wQ G (sh a 9) (x 1)) ++ ((wQ G (sh a 17) ((tl0 (tqX x)).2.1 0)) ++ (([(a 25, .inl (G.2.1, 11, .inl (x 6 0))), (a 26, .inl (G.2.1, 7, .inl (x 3 0)))]) ++ (wT G (sh a 27) ((tl0 (tqX x)).2.1 7) ++ ((([(a 29, .inr (3, [.ref (a 27), .int ((tl0 (tqX x)).2.1 6 1 0), .int ((tl0 (tqX x)).2.1 6 1 1), .int ((tl0 (tqX x)).2.1 6 1 2), .int ((tl0 (tqX x)).2.1 6 1 3)]))]) ++ [(a 30, .inl (G.2.2.1, 4, .inr (.inr (.inr (.inr (shR a))))))]) ++ (wS G (sh a 31) (x 8) ++ (wS G (sh a 33) (x 9) ++ (wS G (sh a 35) (x 10) ++ wS G (sh a 37) (x 11)))))))))) := by rw [h7]; rfl
  rw [hw]
  exact hp.symm

set_option maxHeartbeats 4000000 in
set_option maxRecDepth 20000 in
theorem c_X5_text (l : Launch) (G : GB) (a : Nat → Nat) (x : Q3) (n : Nat) (hn : x 7 1 0 = nI n) (hn2 : n ≤ 120) : CI l yX5_text cX5_text 2 .int 8 177 G [.ref (a 0)] (wC G a x) (fun vR w' => vR = tlR (tl0 (tqX (upG x 2 (x 0)))) ∧ PubC G a (up3 (upG x 0 (if tlR (tl0 (tqX (upG x 2 (x 0)))) ≤ 0 then x 0 else (tl0 (tqX (upG x 2 (x 0)))).2.1 0)) 7 1 0 0) w') := by
  refine CI.mk (own := RX5) (by decide) rfl (Nat.le_of_ble_eq_true rfl) ?_
  intro X E ret
  show J X G 2 0 0 (wC G a x) [(0, .ref (a 0))] 0 []
  refine J_aload_n E dX5_text_0 rfl 0 rfl ?_
  refine gC0_X5_19 E dX5_text_1 ?_
  refine J_aload_n E dX5_text_4 rfl 0 rfl ?_
  refine gC0_X5_10 E dX5_text_5 ?_
  refine J_b20 E dX5_text_8 (Nat.le_of_ble_eq_true rfl) (Nat.le_of_ble_eq_true rfl) (Nat.le_of_ble_eq_true rfl) ⟨Nat.zero_le _, Nat.zero_le _⟩ ?_
  refine J_aload_n E dX5_text_11 rfl 0 rfl ?_
  refine gC0_X5_38 E dX5_text_12 ?_
  refine J_aload_n E dX5_text_15 rfl 0 rfl ?_
  refine gC0_X5_19 E dX5_text_16 ?_
  refine J_tx E (n := n) hn hn2 dX5_text_19 (Nat.le_of_ble_eq_true rfl) (Nat.le_of_ble_eq_true rfl) (Nat.le_of_ble_eq_true rfl) ⟨Nat.zero_le _, Nat.zero_le _⟩ ?_
  refine J_istore_n E (lv' := [(1, .int (tlR (tl0 (tqX (upG x 2 (x 0)))))), (0, .ref (a 0))]) dX5_text_22 rfl (by decide) rfl ?_
  refine J_iload_n E dX5_text_23 rfl 0 rfl ?_
  refine J_if_le E (tgt := 38) dX5_text_24 (by decide) (fun c_24 => ?_) (fun c_24 => ?_)
  · skip
    refine J_aload_n E dX5_text_38 rfl 1 rfl ?_
    refine gC0_X5_29 E dX5_text_39 ?_
    refine J_iconst E dX5_text_42 ic_0 ?_
    refine pC27_X5_183 E dX5_text_43 ?_
    refine J_iload_n E dX5_text_46 rfl 0 rfl ?_
    exact ret _ _ _ _ ⟨rfl, _, rfl, by intro g h2 h6; (first | rw [if_neg c_24] | rw [if_pos c_24]); by_cases g0 : g = 0 <;> by_cases g7 : g = 7 <;> simp [upG, up3, txX, h2, h6, g0, g7]⟩ rfl dX5_text_47
  · skip
    refine J_aload_n E dX5_text_27 rfl 1 rfl ?_
    refine gC0_X5_10 E dX5_text_28 ?_
    refine J_aload_n E dX5_text_31 rfl 1 rfl ?_
    refine gC0_X5_19 E dX5_text_32 ?_
    refine J_b02 E dX5_text_35 (Nat.le_of_ble_eq_true rfl) (Nat.le_of_ble_eq_true rfl) (Nat.le_of_ble_eq_true rfl) ⟨Nat.zero_le _, Nat.zero_le _⟩ ?_
    refine J_aload_n E dX5_text_38 rfl 1 rfl ?_
    refine gC0_X5_29 E dX5_text_39 ?_
    refine J_iconst E dX5_text_42 ic_0 ?_
    refine pC27_X5_183 E dX5_text_43 ?_
    refine J_iload_n E dX5_text_46 rfl 0 rfl ?_
    exact ret _ _ _ _ ⟨rfl, _, rfl, by intro g h2 h6; (first | rw [if_neg c_24] | rw [if_pos c_24]); by_cases g0 : g = 0 <;> by_cases g7 : g = 7 <;> simp [upG, up3, txX, h2, h6, g0, g7]⟩ rfl dX5_text_47
/-- the reference's row of a quarter -/
def flat (q : Q2) (k : Nat) : Int32 := if k < 5 then q 7 k else if k < 71 then q ((k - 5) % 6) ((k - 5) / 6) else q 6 (k - 71)
def pick4 (k : Nat) (p0 p1 p2 p3 : Int32) : Int32 := if k = 0 then p0 else if k = 1 then p1 else if k = 2 then p2 else p3
def wM (G : GB) (b : Nat → Nat) (y : Q3) : va_W := [(b 0, .inr (5, [.ref (b 1), .ref (b 2), .ref (b 3), .int (y 3 1 0), .ref (b 4), .ref (b 5), .int (y 5 2 0), .ref (b 6), .ref (b 7), .int (y 7 1 0), .int (y 6 1 0), .int (y 6 1 1), .int (y 6 1 2), .ref (b 8), .ref (b 9), .ref (b 10), .ref (b 11)])), (b 1, .inl (G.2.1, 81, .inl (flat (y 0)))), (b 2, .inl (G.2.1, 81, .inl (flat (y 1)))), (b 3, .inl (G.2.1, 81, .inl (flat (y 2)))), (b 4, .inl (G.2.1, 7, .inl (y 3 0))), (b 5, .inl (G.2.1, 11, .inl (y 5 0))), (b 6, .inl (G.2.1, 11, .inl (y 5 1))), (b 7, .inl (G.2.1, 120, .inl (y 7 0))), (b 8, .inl (G.2.1, 4, .inl (fun k => pick4 k (y 8 1 0) (y 9 1 0) (y 10 1 0) (y 11 1 0)))), (b 9, .inl (G.2.1, 4, .inl (fun k => pick4 k (y 8 1 1) (y 9 1 1) (y 10 1 1) (y 11 1 1)))), (b 10, .inl (G.2.1, 160, .inl (fun k => pick4 (k / 40) (y 8 0 (k % 40)) (y 9 0 (k % 40)) (y 10 0 (k % 40)) (y 11 0 (k % 40))))), (b 11, .inl (G.2.1, 40, .inl (y 5 3)))]
/-- the place j of the row is row r, index i of the quarter -/
def at81 (j r i : Nat) : Prop := j < 81 ∧ ∀ (q : Q2) (k : Nat) (v : Int32), (flat q j = q r i) ∧ (upd (flat q) j v = flat (up2 q r i v))
theorem at_7 {j : Nat} (h : j < 5) : at81 j 7 j := by
  refine ⟨by omega, fun q k v => ⟨if_pos h, ?_⟩⟩
  funext m
  unfold upd flat
  by_cases h1 : m < 5
  · by_cases e : m = j
    · subst e; simp [h1, up2, upd]
    · simp [h1, e, up2, upd]
  · have e : ¬ m = j := by omega
    by_cases h2 : m < 71
    · have e7 : ¬ (m - 5) % 6 = 7 := by omega
      simp [h1, h2, e, up2, e7]
    · simp [h1, h2, e, up2]
theorem at_h {j w i : Nat} (hw : w < 6) (hi : i < 11) (hj : j = 5 + 6 * i + w) : at81 j w i := by
  subst hj
  refine ⟨by omega, fun q k v => ⟨?_, ?_⟩⟩
  · unfold flat
    rw [if_neg (by omega), if_pos (by omega), show (5 + 6 * i + w - 5) % 6 = w by omega, show (5 + 6 * i + w - 5) / 6 = i by omega]
  · funext m
    unfold upd flat
    by_cases h1 : m < 5
    · have e : ¬ m = 5 + 6 * i + w := by omega
      have e7 : ¬ 7 = w := by omega
      simp [h1, e, up2, e7]
    · by_cases h2 : m < 71
      · by_cases e : m = 5 + 6 * i + w
        · subst e
          have a1 : (5 + 6 * i + w - 5) % 6 = w := by omega
          have a2 : (5 + 6 * i + w - 5) / 6 = i := by omega
          simp [h1, h2, up2, a1, a2, upd]
        · by_cases a1 : (m - 5) % 6 = w
          · have a2 : ¬ (m - 5) / 6 = i := by omega
            simp [h1, h2, e, up2, a1, a2, upd]
          · simp [h1, h2, e, up2, a1]
      · have e : ¬ m = 5 + 6 * i + w := by omega
        have e6 : ¬ 6 = w := by omega
        simp [h1, h2, e, up2, e6]
theorem at_s {j i : Nat} (hi : i < 10) (hj : j = 71 + i) : at81 j 6 i := by
  subst hj
  refine ⟨by omega, fun q k v => ⟨?_, ?_⟩⟩
  · unfold flat
    rw [if_neg (by omega), if_neg (by omega), show 71 + i - 71 = i by omega]
  · funext m
    unfold upd flat
    by_cases h1 : m < 5
    · have e : ¬ m = 71 + i := by omega
      simp [h1, e, up2]
    · by_cases h2 : m < 71
      · have e : ¬ m = 71 + i := by omega
        have e6 : ¬ (m - 5) % 6 = 6 := by omega
        simp [h1, h2, e, up2, e6]
      · by_cases e : m = 71 + i
        · subst e
          simp [h1, up2, upd]
        · have a2 : ¬ m - 71 = i := by omega
          simp [h1, h2, e, up2, upd, a2]
theorem Int32.toInt64_le' {x y : Int32} : Int32.toInt64 x ≤ Int32.toInt64 y ↔ x ≤ y := by
  rw [Int64.le_iff_toInt_le, Int32.le_iff_toInt_le, Int32.toInt_toInt64, Int32.toInt_toInt64]
theorem Int32.toInt64_lt' {x y : Int32} : Int32.toInt64 x < Int32.toInt64 y ↔ x < y := by
  rw [Int64.lt_iff_toInt_lt, Int32.lt_iff_toInt_lt, Int32.toInt_toInt64, Int32.toInt_toInt64]
theorem fun_p0 {p0 p1 p2 p3 : Int32} (x : Int32) : ∀ k, k < 4 → upd (fun k => pick4 k p0 p1 p2 p3) 0 x k = pick4 k x p1 p2 p3 := by
  intro k hk
  rcases (show k = 0 ∨ k = 1 ∨ k = 2 ∨ k = 3 by omega) with rfl | rfl | rfl | rfl <;> simp [upd, pick4]
theorem fun_p1 {p0 p1 p2 p3 : Int32} (x : Int32) : ∀ k, k < 4 → upd (fun k => pick4 k p0 p1 p2 p3) 1 x k = pick4 k p0 x p2 p3 := by
  intro k hk
  rcases (show k = 0 ∨ k = 1 ∨ k = 2 ∨ k = 3 by omega) with rfl | rfl | rfl | rfl <;> simp [upd, pick4]
theorem fun_p2 {p0 p1 p2 p3 : Int32} (x : Int32) : ∀ k, k < 4 → upd (fun k => pick4 k p0 p1 p2 p3) 2 x k = pick4 k p0 p1 x p3 := by
  intro k hk
  rcases (show k = 0 ∨ k = 1 ∨ k = 2 ∨ k = 3 by omega) with rfl | rfl | rfl | rfl <;> simp [upd, pick4]
theorem fun_p3 {p0 p1 p2 p3 : Int32} (x : Int32) : ∀ k, k < 4 → upd (fun k => pick4 k p0 p1 p2 p3) 3 x k = pick4 k p0 p1 p2 x := by
  intro k hk
  rcases (show k = 0 ∨ k = 1 ∨ k = 2 ∨ k = 3 by omega) with rfl | rfl | rfl | rfl <;> simp [upd, pick4]
theorem fun_n0 {f0 f1 f2 f3 : Nat → Int32} {i j : Nat} (hj : j = 0 + i) (hi : i < 40) (x : Int32) : ∀ k, k < 160 → upd (fun k => pick4 (k / 40) (f0 (k % 40)) (f1 (k % 40)) (f2 (k % 40)) (f3 (k % 40))) j x k = pick4 (k / 40) (upd f0 i x (k % 40)) (f1 (k % 40)) (f2 (k % 40)) (f3 (k % 40)) := by
  subst hj
  intro k hk
  by_cases h : k = 0 + i
  · subst h
    have a1 : (0 + i) / 40 = 0 := by omega
    have a2 : (0 + i) % 40 = i := by omega
    simp [upd, pick4, a1, a2]
  · by_cases h2 : k / 40 = 0
    · have h3 : ¬ k % 40 = i := by omega
      simp [upd, pick4, h, h2, h3]
    · simp [upd, pick4, h, h2]
theorem fun_n1 {f0 f1 f2 f3 : Nat → Int32} {i j : Nat} (hj : j = 40 + i) (hi : i < 40) (x : Int32) : ∀ k, k < 160 → upd (fun k => pick4 (k / 40) (f0 (k % 40)) (f1 (k % 40)) (f2 (k % 40)) (f3 (k % 40))) j x k = pick4 (k / 40) (f0 (k % 40)) (upd f1 i x (k % 40)) (f2 (k % 40)) (f3 (k % 40)) := by
  subst hj
  intro k hk
  by_cases h : k = 40 + i
  · subst h
    have a1 : (40 + i) / 40 = 1 := by omega
    have a2 : (40 + i) % 40 = i := by omega
    simp [upd, pick4, a1, a2]
  · by_cases h2 : k / 40 = 1
    · have h3 : ¬ k % 40 = i := by omega
      simp [upd, pick4, h, h2, h3]
    · simp [upd, pick4, h, h2]
theorem fun_n2 {f0 f1 f2 f3 : Nat → Int32} {i j : Nat} (hj : j = 80 + i) (hi : i < 40) (x : Int32) : ∀ k, k < 160 → upd (fun k => pick4 (k / 40) (f0 (k % 40)) (f1 (k % 40)) (f2 (k % 40)) (f3 (k % 40))) j x k = pick4 (k / 40) (f0 (k % 40)) (f1 (k % 40)) (upd f2 i x (k % 40)) (f3 (k % 40)) := by
  subst hj
  intro k hk
  by_cases h : k = 80 + i
  · subst h
    have a1 : (80 + i) / 40 = 2 := by omega
    have a2 : (80 + i) % 40 = i := by omega
    simp [upd, pick4, a1, a2]
  · by_cases h2 : k / 40 = 2
    · have h3 : ¬ k % 40 = i := by omega
      simp [upd, pick4, h, h2, h3]
    · simp [upd, pick4, h, h2]
theorem fun_n3 {f0 f1 f2 f3 : Nat → Int32} {i j : Nat} (hj : j = 120 + i) (hi : i < 40) (x : Int32) : ∀ k, k < 160 → upd (fun k => pick4 (k / 40) (f0 (k % 40)) (f1 (k % 40)) (f2 (k % 40)) (f3 (k % 40))) j x k = pick4 (k / 40) (f0 (k % 40)) (f1 (k % 40)) (f2 (k % 40)) (upd f3 i x (k % 40)) := by
  subst hj
  intro k hk
  by_cases h : k = 120 + i
  · subst h
    have a1 : (120 + i) / 40 = 3 := by omega
    have a2 : (120 + i) % 40 = i := by omega
    simp [upd, pick4, a1, a2]
  · by_cases h2 : k / 40 = 3
    · have h3 : ¬ k % 40 = i := by omega
      simp [upd, pick4, h, h2, h3]
    · simp [upd, pick4, h, h2]
section WD
variable {X : JX} {l : Launch} {G : GB} {cc : ByteArray} {own : String} {nL fr lo kc ks pc : Nat} {lv : List (Nat × Value)} {st : List Value}
theorem gM0_X6_9 (E : JE X l G cc RX6 nL fr lo) {b : Nat → Nat} {q : Q3} (hd : decode cc pc = .ok (.getfield 9, 3)) (K : J X G nL kc ks (wM G b q) lv (pc + 3) (.ref (b 1) :: st)) : J X G nL kc ks (wM G b q) lv pc (.ref (b 0) :: st) := gf_X6_9 E 0 hd rfl rfl K
theorem gM0_X6_13 (E : JE X l G cc RX6 nL fr lo) {b : Nat → Nat} {q : Q3} (hd : decode cc pc = .ok (.getfield 13, 3)) (K : J X G nL kc ks (wM G b q) lv (pc + 3) (.ref (b 2) :: st)) : J X G nL kc ks (wM G b q) lv pc (.ref (b 0) :: st) := gf_X6_13 E 0 hd rfl rfl K
theorem gM0_X6_16 (E : JE X l G cc RX6 nL fr lo) {b : Nat → Nat} {q : Q3} (hd : decode cc pc = .ok (.getfield 16, 3)) (K : J X G nL kc ks (wM G b q) lv (pc + 3) (.ref (b 3) :: st)) : J X G nL kc ks (wM G b q) lv pc (.ref (b 0) :: st) := gf_X6_16 E 0 hd rfl rfl K
theorem gM0_X6_309 (E : JE X l G cc RX6 nL fr lo) {b : Nat → Nat} {q : Q3} (hd : decode cc pc = .ok (.getfield 309, 3)) (K : J X G nL kc ks (wM G b q) lv (pc + 3) (.int (q 3 1 0) :: st)) : J X G nL kc ks (wM G b q) lv pc (.ref (b 0) :: st) := gf_X6_309 E 0 hd rfl rfl K
theorem pM0_X6_309 (E : JE X l G cc RX6 nL fr lo) {b : Nat → Nat} {q : Q3} {x : Int32} (hn : narrow .boolean (.int x) = .int x) (hf : fits .boolean (.int x) = true) (hd : decode cc pc = .ok (.putfield 309, 3)) (K : J X G nL kc ks (wM G b (up3 q 3 1 0 x)) lv (pc + 3) st) : J X G nL kc ks (wM G b q) lv pc (.int x :: .ref (b 0) :: st) := pf_X6_309 E 0 hn hf hd rfl (Nat.le_of_ble_eq_true rfl) (J_w rfl K)
theorem gM0_X6_19 (E : JE X l G cc RX6 nL fr lo) {b : Nat → Nat} {q : Q3} (hd : decode cc pc = .ok (.getfield 19, 3)) (K : J X G nL kc ks (wM G b q) lv (pc + 3) (.ref (b 4) :: st)) : J X G nL kc ks (wM G b q) lv pc (.ref (b 0) :: st) := gf_X6_19 E 0 hd rfl rfl K
theorem gM0_X6_22 (E : JE X l G cc RX6 nL fr lo) {b : Nat → Nat} {q : Q3} (hd : decode cc pc = .ok (.getfield 22, 3)) (K : J X G nL kc ks (wM G b q) lv (pc + 3) (.ref (b 5) :: st)) : J X G nL kc ks (wM G b q) lv pc (.ref (b 0) :: st) := gf_X6_22 E 0 hd rfl rfl K
theorem gM0_X6_131 (E : JE X l G cc RX6 nL fr lo) {b : Nat → Nat} {q : Q3} (hd : decode cc pc = .ok (.getfield 131, 3)) (K : J X G nL kc ks (wM G b q) lv (pc + 3) (.int (q 5 2 0) :: st)) : J X G nL kc ks (wM G b q) lv pc (.ref (b 0) :: st) := gf_X6_131 E 0 hd rfl rfl K
theorem pM0_X6_131 (E : JE X l G cc RX6 nL fr lo) {b : Nat → Nat} {q : Q3} {x : Int32} (hd : decode cc pc = .ok (.putfield 131, 3)) (K : J X G nL kc ks (wM G b (up3 q 5 2 0 x)) lv (pc + 3) st) : J X G nL kc ks (wM G b q) lv pc (.int x :: .ref (b 0) :: st) := pf_X6_131 E 0 hd rfl (Nat.le_of_ble_eq_true rfl) (J_w rfl K)
theorem gM0_X6_25 (E : JE X l G cc RX6 nL fr lo) {b : Nat → Nat} {q : Q3} (hd : decode cc pc = .ok (.getfield 25, 3)) (K : J X G nL kc ks (wM G b q) lv (pc + 3) (.ref (b 6) :: st)) : J X G nL kc ks (wM G b q) lv pc (.ref (b 0) :: st) := gf_X6_25 E 0 hd rfl rfl K
theorem gM0_X6_28 (E : JE X l G cc RX6 nL fr lo) {b : Nat → Nat} {q : Q3} (hd : decode cc pc = .ok (.getfield 28, 3)) (K : J X G nL kc ks (wM G b q) lv (pc + 3) (.ref (b 7) :: st)) : J X G nL kc ks (wM G b q) lv pc (.ref (b 0) :: st) := gf_X6_28 E 0 hd rfl rfl K
theorem gM0_X6_214 (E : JE X l G cc RX6 nL fr lo) {b : Nat → Nat} {q : Q3} (hd : decode cc pc = .ok (.getfield 214, 3)) (K : J X G nL kc ks (wM G b q) lv (pc + 3) (.int (q 7 1 0) :: st)) : J X G nL kc ks (wM G b q) lv pc (.ref (b 0) :: st) := gf_X6_214 E 0 hd rfl rfl K
theorem pM0_X6_214 (E : JE X l G cc RX6 nL fr lo) {b : Nat → Nat} {q : Q3} {x : Int32} (hd : decode cc pc = .ok (.putfield 214, 3)) (K : J X G nL kc ks (wM G b (up3 q 7 1 0 x)) lv (pc + 3) st) : J X G nL kc ks (wM G b q) lv pc (.int x :: .ref (b 0) :: st) := pf_X6_214 E 0 hd rfl (Nat.le_of_ble_eq_true rfl) (J_w rfl K)
theorem gM0_X6_220 (E : JE X l G cc RX6 nL fr lo) {b : Nat → Nat} {q : Q3} (hd : decode cc pc = .ok (.getfield 220, 3)) (K : J X G nL kc ks (wM G b q) lv (pc + 3) (.int (q 6 1 0) :: st)) : J X G nL kc ks (wM G b q) lv pc (.ref (b 0) :: st) := gf_X6_220 E 0 hd rfl rfl K
theorem pM0_X6_220 (E : JE X l G cc RX6 nL fr lo) {b : Nat → Nat} {q : Q3} {x : Int32} (hd : decode cc pc = .ok (.putfield 220, 3)) (K : J X G nL kc ks (wM G b (up3 q 6 1 0 x)) lv (pc + 3) st) : J X G nL kc ks (wM G b q) lv pc (.int x :: .ref (b 0) :: st) := pf_X6_220 E 0 hd rfl (Nat.le_of_ble_eq_true rfl) (J_w rfl K)
theorem gM0_X6_217 (E : JE X l G cc RX6 nL fr lo) {b : Nat → Nat} {q : Q3} (hd : decode cc pc = .ok (.getfield 217, 3)) (K : J X G nL kc ks (wM G b q) lv (pc + 3) (.int (q 6 1 1) :: st)) : J X G nL kc ks (wM G b q) lv pc (.ref (b 0) :: st) := gf_X6_217 E 0 hd rfl rfl K
theorem pM0_X6_217 (E : JE X l G cc RX6 nL fr lo) {b : Nat → Nat} {q : Q3} {x : Int32} (hd : decode cc pc = .ok (.putfield 217, 3)) (K : J X G nL kc ks (wM G b (up3 q 6 1 1 x)) lv (pc + 3) st) : J X G nL kc ks (wM G b q) lv pc (.int x :: .ref (b 0) :: st) := pf_X6_217 E 0 hd rfl (Nat.le_of_ble_eq_true rfl) (J_w rfl K)
theorem gM0_X6_227 (E : JE X l G cc RX6 nL fr lo) {b : Nat → Nat} {q : Q3} (hd : decode cc pc = .ok (.getfield 227, 3)) (K : J X G nL kc ks (wM G b q) lv (pc + 3) (.int (q 6 1 2) :: st)) : J X G nL kc ks (wM G b q) lv pc (.ref (b 0) :: st) := gf_X6_227 E 0 hd rfl rfl K
theorem pM0_X6_227 (E : JE X l G cc RX6 nL fr lo) {b : Nat → Nat} {q : Q3} {x : Int32} (hn : narrow .boolean (.int x) = .int x) (hf : fits .boolean (.int x) = true) (hd : decode cc pc = .ok (.putfield 227, 3)) (K : J X G nL kc ks (wM G b (up3 q 6 1 2 x)) lv (pc + 3) st) : J X G nL kc ks (wM G b q) lv pc (.int x :: .ref (b 0) :: st) := pf_X6_227 E 0 hn hf hd rfl (Nat.le_of_ble_eq_true rfl) (J_w rfl K)
theorem gM0_X6_31 (E : JE X l G cc RX6 nL fr lo) {b : Nat → Nat} {q : Q3} (hd : decode cc pc = .ok (.getfield 31, 3)) (K : J X G nL kc ks (wM G b q) lv (pc + 3) (.ref (b 8) :: st)) : J X G nL kc ks (wM G b q) lv pc (.ref (b 0) :: st) := gf_X6_31 E 0 hd rfl rfl K
theorem gM0_X6_34 (E : JE X l G cc RX6 nL fr lo) {b : Nat → Nat} {q : Q3} (hd : decode cc pc = .ok (.getfield 34, 3)) (K : J X G nL kc ks (wM G b q) lv (pc + 3) (.ref (b 9) :: st)) : J X G nL kc ks (wM G b q) lv pc (.ref (b 0) :: st) := gf_X6_34 E 0 hd rfl rfl K
theorem gM0_X6_37 (E : JE X l G cc RX6 nL fr lo) {b : Nat → Nat} {q : Q3} (hd : decode cc pc = .ok (.getfield 37, 3)) (K : J X G nL kc ks (wM G b q) lv (pc + 3) (.ref (b 10) :: st)) : J X G nL kc ks (wM G b q) lv pc (.ref (b 0) :: st) := gf_X6_37 E 0 hd rfl rfl K
theorem gM0_X6_40 (E : JE X l G cc RX6 nL fr lo) {b : Nat → Nat} {q : Q3} (hd : decode cc pc = .ok (.getfield 40, 3)) (K : J X G nL kc ks (wM G b q) lv (pc + 3) (.ref (b 11) :: st)) : J X G nL kc ks (wM G b q) lv pc (.ref (b 0) :: st) := gf_X6_40 E 0 hd rfl rfl K
theorem lM_4 (E : JE X l G cc own nL fr lo) {b : Nat → Nat} {q : Q3} {j : Nat} (hd : decode cc pc = .ok (.iaload, 1)) (hj : j < 7) (K : J X G nL kc ks (wM G b q) lv (pc + 1) (.int (q 3 0 j) :: st)) : J X G nL kc ks (wM G b q) lv pc (.int (nI j) :: .ref (b 4) :: st) := J_ialdN E 4 hd rfl hj (by decide) K
theorem liM_4 (E : JE X l G cc own nL fr lo) {b : Nat → Nat} {q : Q3} {i : Int32} (hd : decode cc pc = .ok (.iaload, 1)) (hin : vp_in i 7) (K : J X G nL kc ks (wM G b q) lv (pc + 1) (.int (q 3 0 i.toNatClampNeg) :: st)) : J X G nL kc ks (wM G b q) lv pc (.int i :: .ref (b 4) :: st) := J_iald E 4 hd rfl hin rfl K
theorem sM_4 (E : JE X l G cc own nL fr lo) {b : Nat → Nat} {q : Q3} {j : Nat} {x : Int32} (hd : decode cc pc = .ok (.iastore, 1)) (hj : j < 7) (K : J X G nL kc ks (wM G b (up3 q 3 0 j x)) lv (pc + 1) st) : J X G nL kc ks (wM G b q) lv pc (.int x :: .int (nI j) :: .ref (b 4) :: st) := J_iastN E 4 hd rfl hj (by decide) (J_w rfl K)
theorem siM_4 (E : JE X l G cc own nL fr lo) {b : Nat → Nat} {q : Q3} {i x : Int32} (hd : decode cc pc = .ok (.iastore, 1)) (hin : vp_in i 7) (K : J X G nL kc ks (wM G b (up3 q 3 0 i.toNatClampNeg x)) lv (pc + 1) st) : J X G nL kc ks (wM G b q) lv pc (.int x :: .int i :: .ref (b 4) :: st) := J_iast E 4 hd rfl hin rfl (J_w rfl K)
theorem lM_5 (E : JE X l G cc own nL fr lo) {b : Nat → Nat} {q : Q3} {j : Nat} (hd : decode cc pc = .ok (.iaload, 1)) (hj : j < 11) (K : J X G nL kc ks (wM G b q) lv (pc + 1) (.int (q 5 0 j) :: st)) : J X G nL kc ks (wM G b q) lv pc (.int (nI j) :: .ref (b 5) :: st) := J_ialdN E 5 hd rfl hj (by decide) K
theorem liM_5 (E : JE X l G cc own nL fr lo) {b : Nat → Nat} {q : Q3} {i : Int32} (hd : decode cc pc = .ok (.iaload, 1)) (hin : vp_in i 11) (K : J X G nL kc ks (wM G b q) lv (pc + 1) (.int (q 5 0 i.toNatClampNeg) :: st)) : J X G nL kc ks (wM G b q) lv pc (.int i :: .ref (b 5) :: st) := J_iald E 5 hd rfl hin rfl K
theorem sM_5 (E : JE X l G cc own nL fr lo) {b : Nat → Nat} {q : Q3} {j : Nat} {x : Int32} (hd : decode cc pc = .ok (.iastore, 1)) (hj : j < 11) (K : J X G nL kc ks (wM G b (up3 q 5 0 j x)) lv (pc + 1) st) : J X G nL kc ks (wM G b q) lv pc (.int x :: .int (nI j) :: .ref (b 5) :: st) := J_iastN E 5 hd rfl hj (by decide) (J_w rfl K)
theorem siM_5 (E : JE X l G cc own nL fr lo) {b : Nat → Nat} {q : Q3} {i x : Int32} (hd : decode cc pc = .ok (.iastore, 1)) (hin : vp_in i 11) (K : J X G nL kc ks (wM G b (up3 q 5 0 i.toNatClampNeg x)) lv (pc + 1) st) : J X G nL kc ks (wM G b q) lv pc (.int x :: .int i :: .ref (b 5) :: st) := J_iast E 5 hd rfl hin rfl (J_w rfl K)
theorem lM_6 (E : JE X l G cc own nL fr lo) {b : Nat → Nat} {q : Q3} {j : Nat} (hd : decode cc pc = .ok (.iaload, 1)) (hj : j < 11) (K : J X G nL kc ks (wM G b q) lv (pc + 1) (.int (q 5 1 j) :: st)) : J X G nL kc ks (wM G b q) lv pc (.int (nI j) :: .ref (b 6) :: st) := J_ialdN E 6 hd rfl hj (by decide) K
theorem liM_6 (E : JE X l G cc own nL fr lo) {b : Nat → Nat} {q : Q3} {i : Int32} (hd : decode cc pc = .ok (.iaload, 1)) (hin : vp_in i 11) (K : J X G nL kc ks (wM G b q) lv (pc + 1) (.int (q 5 1 i.toNatClampNeg) :: st)) : J X G nL kc ks (wM G b q) lv pc (.int i :: .ref (b 6) :: st) := J_iald E 6 hd rfl hin rfl K
theorem sM_6 (E : JE X l G cc own nL fr lo) {b : Nat → Nat} {q : Q3} {j : Nat} {x : Int32} (hd : decode cc pc = .ok (.iastore, 1)) (hj : j < 11) (K : J X G nL kc ks (wM G b (up3 q 5 1 j x)) lv (pc + 1) st) : J X G nL kc ks (wM G b q) lv pc (.int x :: .int (nI j) :: .ref (b 6) :: st) := J_iastN E 6 hd rfl hj (by decide) (J_w rfl K)
theorem siM_6 (E : JE X l G cc own nL fr lo) {b : Nat → Nat} {q : Q3} {i x : Int32} (hd : decode cc pc = .ok (.iastore, 1)) (hin : vp_in i 11) (K : J X G nL kc ks (wM G b (up3 q 5 1 i.toNatClampNeg x)) lv (pc + 1) st) : J X G nL kc ks (wM G b q) lv pc (.int x :: .int i :: .ref (b 6) :: st) := J_iast E 6 hd rfl hin rfl (J_w rfl K)
theorem lM_7 (E : JE X l G cc own nL fr lo) {b : Nat → Nat} {q : Q3} {j : Nat} (hd : decode cc pc = .ok (.iaload, 1)) (hj : j < 120) (K : J X G nL kc ks (wM G b q) lv (pc + 1) (.int (q 7 0 j) :: st)) : J X G nL kc ks (wM G b q) lv pc (.int (nI j) :: .ref (b 7) :: st) := J_ialdN E 7 hd rfl hj (by decide) K
theorem liM_7 (E : JE X l G cc own nL fr lo) {b : Nat → Nat} {q : Q3} {i : Int32} (hd : decode cc pc = .ok (.iaload, 1)) (hin : vp_in i 120) (K : J X G nL kc ks (wM G b q) lv (pc + 1) (.int (q 7 0 i.toNatClampNeg) :: st)) : J X G nL kc ks (wM G b q) lv pc (.int i :: .ref (b 7) :: st) := J_iald E 7 hd rfl hin rfl K
theorem sM_7 (E : JE X l G cc own nL fr lo) {b : Nat → Nat} {q : Q3} {j : Nat} {x : Int32} (hd : decode cc pc = .ok (.iastore, 1)) (hj : j < 120) (K : J X G nL kc ks (wM G b (up3 q 7 0 j x)) lv (pc + 1) st) : J X G nL kc ks (wM G b q) lv pc (.int x :: .int (nI j) :: .ref (b 7) :: st) := J_iastN E 7 hd rfl hj (by decide) (J_w rfl K)
theorem siM_7 (E : JE X l G cc own nL fr lo) {b : Nat → Nat} {q : Q3} {i x : Int32} (hd : decode cc pc = .ok (.iastore, 1)) (hin : vp_in i 120) (K : J X G nL kc ks (wM G b (up3 q 7 0 i.toNatClampNeg x)) lv (pc + 1) st) : J X G nL kc ks (wM G b q) lv pc (.int x :: .int i :: .ref (b 7) :: st) := J_iast E 7 hd rfl hin rfl (J_w rfl K)
theorem lM_11 (E : JE X l G cc own nL fr lo) {b : Nat → Nat} {q : Q3} {j : Nat} (hd : decode cc pc = .ok (.iaload, 1)) (hj : j < 40) (K : J X G nL kc ks (wM G b q) lv (pc + 1) (.int (q 5 3 j) :: st)) : J X G nL kc ks (wM G b q) lv pc (.int (nI j) :: .ref (b 11) :: st) := J_ialdN E 11 hd rfl hj (by decide) K
theorem liM_11 (E : JE X l G cc own nL fr lo) {b : Nat → Nat} {q : Q3} {i : Int32} (hd : decode cc pc = .ok (.iaload, 1)) (hin : vp_in i 40) (K : J X G nL kc ks (wM G b q) lv (pc + 1) (.int (q 5 3 i.toNatClampNeg) :: st)) : J X G nL kc ks (wM G b q) lv pc (.int i :: .ref (b 11) :: st) := J_iald E 11 hd rfl hin rfl K
theorem sM_11 (E : JE X l G cc own nL fr lo) {b : Nat → Nat} {q : Q3} {j : Nat} {x : Int32} (hd : decode cc pc = .ok (.iastore, 1)) (hj : j < 40) (K : J X G nL kc ks (wM G b (up3 q 5 3 j x)) lv (pc + 1) st) : J X G nL kc ks (wM G b q) lv pc (.int x :: .int (nI j) :: .ref (b 11) :: st) := J_iastN E 11 hd rfl hj (by decide) (J_w rfl K)
theorem siM_11 (E : JE X l G cc own nL fr lo) {b : Nat → Nat} {q : Q3} {i x : Int32} (hd : decode cc pc = .ok (.iastore, 1)) (hin : vp_in i 40) (K : J X G nL kc ks (wM G b (up3 q 5 3 i.toNatClampNeg x)) lv (pc + 1) st) : J X G nL kc ks (wM G b q) lv pc (.int x :: .int i :: .ref (b 11) :: st) := J_iast E 11 hd rfl hin rfl (J_w rfl K)
theorem lMs (E : JE X l G cc own nL fr lo) {b : Nat → Nat} {q : Q3} {j r i : Nat} (ha : at81 j r i) (hd : decode cc pc = .ok (.iaload, 1)) (K : J X G nL kc ks (wM G b q) lv (pc + 1) (.int (q 0 r i) :: st)) : J X G nL kc ks (wM G b q) lv pc (.int (nI j) :: .ref (b 1) :: st) := J_ialdN E 1 hd rfl ha.1 (by decide) (by rw [(ha.2 (q 0) 0 0).1]; exact K)
theorem sMs (E : JE X l G cc own nL fr lo) {b : Nat → Nat} {q : Q3} {j r i : Nat} {x : Int32} (ha : at81 j r i) (hd : decode cc pc = .ok (.iastore, 1)) (K : J X G nL kc ks (wM G b (up3 q 0 r i x)) lv (pc + 1) st) : J X G nL kc ks (wM G b q) lv pc (.int x :: .int (nI j) :: .ref (b 1) :: st) := J_iastN E 1 hd rfl ha.1 (by decide) (J_w (by rw [(ha.2 (q 0) 0 x).2]; rfl) K)
theorem lMb_0 (E : JE X l G cc own nL fr lo) {b : Nat → Nat} {q : Q3} (hd : decode cc pc = .ok (.iaload, 1)) (K : J X G nL kc ks (wM G b q) lv (pc + 1) (.int (q 8 1 0) :: st)) : J X G nL kc ks (wM G b q) lv pc (.int (nI 0) :: .ref (b 8) :: st) := J_ialdN E 8 hd rfl (by decide) (by decide) K
theorem sMb_0 (E : JE X l G cc own nL fr lo) {b : Nat → Nat} {q : Q3} {x : Int32} (hd : decode cc pc = .ok (.iastore, 1)) (K : J X G nL kc ks (wM G b (up3 q 8 1 0 x)) lv (pc + 1) st) : J X G nL kc ks (wM G b q) lv pc (.int x :: .int (nI 0) :: .ref (b 8) :: st) := J_iastN E 8 hd rfl (by decide) (by decide) (J_arr 8 rfl (fun_p0 x) (J_w rfl K))
theorem lMz_0 (E : JE X l G cc own nL fr lo) {b : Nat → Nat} {q : Q3} (hd : decode cc pc = .ok (.iaload, 1)) (K : J X G nL kc ks (wM G b q) lv (pc + 1) (.int (q 8 1 1) :: st)) : J X G nL kc ks (wM G b q) lv pc (.int (nI 0) :: .ref (b 9) :: st) := J_ialdN E 9 hd rfl (by decide) (by decide) K
theorem sMz_0 (E : JE X l G cc own nL fr lo) {b : Nat → Nat} {q : Q3} {x : Int32} (hd : decode cc pc = .ok (.iastore, 1)) (K : J X G nL kc ks (wM G b (up3 q 8 1 1 x)) lv (pc + 1) st) : J X G nL kc ks (wM G b q) lv pc (.int x :: .int (nI 0) :: .ref (b 9) :: st) := J_iastN E 9 hd rfl (by decide) (by decide) (J_arr 9 rfl (fun_p0 x) (J_w rfl K))
theorem lMn_0 (E : JE X l G cc own nL fr lo) {b : Nat → Nat} {q : Q3} {j i : Nat} (hj : j = 0 + i) (hi : i < 40) (hd : decode cc pc = .ok (.iaload, 1)) (K : J X G nL kc ks (wM G b q) lv (pc + 1) (.int (q 8 0 i) :: st)) : J X G nL kc ks (wM G b q) lv pc (.int (nI j) :: .ref (b 10) :: st) := J_ialdN E 10 hd rfl (by omega) (by decide) (by rw [show j / 40 = 0 by omega, show j % 40 = i by omega]; exact K)
theorem sMn_0 (E : JE X l G cc own nL fr lo) {b : Nat → Nat} {q : Q3} {j i : Nat} {x : Int32} (hj : j = 0 + i) (hi : i < 40) (hd : decode cc pc = .ok (.iastore, 1)) (K : J X G nL kc ks (wM G b (up3 q 8 0 i x)) lv (pc + 1) st) : J X G nL kc ks (wM G b q) lv pc (.int x :: .int (nI j) :: .ref (b 10) :: st) := J_iastN E 10 hd rfl (by omega) (by decide) (J_arr 10 rfl (fun_n0 hj hi x) (J_w rfl K))
theorem lMb_1 (E : JE X l G cc own nL fr lo) {b : Nat → Nat} {q : Q3} (hd : decode cc pc = .ok (.iaload, 1)) (K : J X G nL kc ks (wM G b q) lv (pc + 1) (.int (q 9 1 0) :: st)) : J X G nL kc ks (wM G b q) lv pc (.int (nI 1) :: .ref (b 8) :: st) := J_ialdN E 8 hd rfl (by decide) (by decide) K
theorem sMb_1 (E : JE X l G cc own nL fr lo) {b : Nat → Nat} {q : Q3} {x : Int32} (hd : decode cc pc = .ok (.iastore, 1)) (K : J X G nL kc ks (wM G b (up3 q 9 1 0 x)) lv (pc + 1) st) : J X G nL kc ks (wM G b q) lv pc (.int x :: .int (nI 1) :: .ref (b 8) :: st) := J_iastN E 8 hd rfl (by decide) (by decide) (J_arr 8 rfl (fun_p1 x) (J_w rfl K))
theorem lMz_1 (E : JE X l G cc own nL fr lo) {b : Nat → Nat} {q : Q3} (hd : decode cc pc = .ok (.iaload, 1)) (K : J X G nL kc ks (wM G b q) lv (pc + 1) (.int (q 9 1 1) :: st)) : J X G nL kc ks (wM G b q) lv pc (.int (nI 1) :: .ref (b 9) :: st) := J_ialdN E 9 hd rfl (by decide) (by decide) K
theorem sMz_1 (E : JE X l G cc own nL fr lo) {b : Nat → Nat} {q : Q3} {x : Int32} (hd : decode cc pc = .ok (.iastore, 1)) (K : J X G nL kc ks (wM G b (up3 q 9 1 1 x)) lv (pc + 1) st) : J X G nL kc ks (wM G b q) lv pc (.int x :: .int (nI 1) :: .ref (b 9) :: st) := J_iastN E 9 hd rfl (by decide) (by decide) (J_arr 9 rfl (fun_p1 x) (J_w rfl K))
theorem lMn_1 (E : JE X l G cc own nL fr lo) {b : Nat → Nat} {q : Q3} {j i : Nat} (hj : j = 40 + i) (hi : i < 40) (hd : decode cc pc = .ok (.iaload, 1)) (K : J X G nL kc ks (wM G b q) lv (pc + 1) (.int (q 9 0 i) :: st)) : J X G nL kc ks (wM G b q) lv pc (.int (nI j) :: .ref (b 10) :: st) := J_ialdN E 10 hd rfl (by omega) (by decide) (by rw [show j / 40 = 1 by omega, show j % 40 = i by omega]; exact K)
theorem sMn_1 (E : JE X l G cc own nL fr lo) {b : Nat → Nat} {q : Q3} {j i : Nat} {x : Int32} (hj : j = 40 + i) (hi : i < 40) (hd : decode cc pc = .ok (.iastore, 1)) (K : J X G nL kc ks (wM G b (up3 q 9 0 i x)) lv (pc + 1) st) : J X G nL kc ks (wM G b q) lv pc (.int x :: .int (nI j) :: .ref (b 10) :: st) := J_iastN E 10 hd rfl (by omega) (by decide) (J_arr 10 rfl (fun_n1 hj hi x) (J_w rfl K))
theorem lMb_2 (E : JE X l G cc own nL fr lo) {b : Nat → Nat} {q : Q3} (hd : decode cc pc = .ok (.iaload, 1)) (K : J X G nL kc ks (wM G b q) lv (pc + 1) (.int (q 10 1 0) :: st)) : J X G nL kc ks (wM G b q) lv pc (.int (nI 2) :: .ref (b 8) :: st) := J_ialdN E 8 hd rfl (by decide) (by decide) K
theorem sMb_2 (E : JE X l G cc own nL fr lo) {b : Nat → Nat} {q : Q3} {x : Int32} (hd : decode cc pc = .ok (.iastore, 1)) (K : J X G nL kc ks (wM G b (up3 q 10 1 0 x)) lv (pc + 1) st) : J X G nL kc ks (wM G b q) lv pc (.int x :: .int (nI 2) :: .ref (b 8) :: st) := J_iastN E 8 hd rfl (by decide) (by decide) (J_arr 8 rfl (fun_p2 x) (J_w rfl K))
theorem lMz_2 (E : JE X l G cc own nL fr lo) {b : Nat → Nat} {q : Q3} (hd : decode cc pc = .ok (.iaload, 1)) (K : J X G nL kc ks (wM G b q) lv (pc + 1) (.int (q 10 1 1) :: st)) : J X G nL kc ks (wM G b q) lv pc (.int (nI 2) :: .ref (b 9) :: st) := J_ialdN E 9 hd rfl (by decide) (by decide) K
theorem sMz_2 (E : JE X l G cc own nL fr lo) {b : Nat → Nat} {q : Q3} {x : Int32} (hd : decode cc pc = .ok (.iastore, 1)) (K : J X G nL kc ks (wM G b (up3 q 10 1 1 x)) lv (pc + 1) st) : J X G nL kc ks (wM G b q) lv pc (.int x :: .int (nI 2) :: .ref (b 9) :: st) := J_iastN E 9 hd rfl (by decide) (by decide) (J_arr 9 rfl (fun_p2 x) (J_w rfl K))
theorem lMn_2 (E : JE X l G cc own nL fr lo) {b : Nat → Nat} {q : Q3} {j i : Nat} (hj : j = 80 + i) (hi : i < 40) (hd : decode cc pc = .ok (.iaload, 1)) (K : J X G nL kc ks (wM G b q) lv (pc + 1) (.int (q 10 0 i) :: st)) : J X G nL kc ks (wM G b q) lv pc (.int (nI j) :: .ref (b 10) :: st) := J_ialdN E 10 hd rfl (by omega) (by decide) (by rw [show j / 40 = 2 by omega, show j % 40 = i by omega]; exact K)
theorem sMn_2 (E : JE X l G cc own nL fr lo) {b : Nat → Nat} {q : Q3} {j i : Nat} {x : Int32} (hj : j = 80 + i) (hi : i < 40) (hd : decode cc pc = .ok (.iastore, 1)) (K : J X G nL kc ks (wM G b (up3 q 10 0 i x)) lv (pc + 1) st) : J X G nL kc ks (wM G b q) lv pc (.int x :: .int (nI j) :: .ref (b 10) :: st) := J_iastN E 10 hd rfl (by omega) (by decide) (J_arr 10 rfl (fun_n2 hj hi x) (J_w rfl K))
theorem lMb_3 (E : JE X l G cc own nL fr lo) {b : Nat → Nat} {q : Q3} (hd : decode cc pc = .ok (.iaload, 1)) (K : J X G nL kc ks (wM G b q) lv (pc + 1) (.int (q 11 1 0) :: st)) : J X G nL kc ks (wM G b q) lv pc (.int (nI 3) :: .ref (b 8) :: st) := J_ialdN E 8 hd rfl (by decide) (by decide) K
theorem sMb_3 (E : JE X l G cc own nL fr lo) {b : Nat → Nat} {q : Q3} {x : Int32} (hd : decode cc pc = .ok (.iastore, 1)) (K : J X G nL kc ks (wM G b (up3 q 11 1 0 x)) lv (pc + 1) st) : J X G nL kc ks (wM G b q) lv pc (.int x :: .int (nI 3) :: .ref (b 8) :: st) := J_iastN E 8 hd rfl (by decide) (by decide) (J_arr 8 rfl (fun_p3 x) (J_w rfl K))
theorem lMz_3 (E : JE X l G cc own nL fr lo) {b : Nat → Nat} {q : Q3} (hd : decode cc pc = .ok (.iaload, 1)) (K : J X G nL kc ks (wM G b q) lv (pc + 1) (.int (q 11 1 1) :: st)) : J X G nL kc ks (wM G b q) lv pc (.int (nI 3) :: .ref (b 9) :: st) := J_ialdN E 9 hd rfl (by decide) (by decide) K
theorem sMz_3 (E : JE X l G cc own nL fr lo) {b : Nat → Nat} {q : Q3} {x : Int32} (hd : decode cc pc = .ok (.iastore, 1)) (K : J X G nL kc ks (wM G b (up3 q 11 1 1 x)) lv (pc + 1) st) : J X G nL kc ks (wM G b q) lv pc (.int x :: .int (nI 3) :: .ref (b 9) :: st) := J_iastN E 9 hd rfl (by decide) (by decide) (J_arr 9 rfl (fun_p3 x) (J_w rfl K))
theorem lMn_3 (E : JE X l G cc own nL fr lo) {b : Nat → Nat} {q : Q3} {j i : Nat} (hj : j = 120 + i) (hi : i < 40) (hd : decode cc pc = .ok (.iaload, 1)) (K : J X G nL kc ks (wM G b q) lv (pc + 1) (.int (q 11 0 i) :: st)) : J X G nL kc ks (wM G b q) lv pc (.int (nI j) :: .ref (b 10) :: st) := J_ialdN E 10 hd rfl (by omega) (by decide) (by rw [show j / 40 = 3 by omega, show j % 40 = i by omega]; exact K)
theorem sMn_3 (E : JE X l G cc own nL fr lo) {b : Nat → Nat} {q : Q3} {j i : Nat} {x : Int32} (hj : j = 120 + i) (hi : i < 40) (hd : decode cc pc = .ok (.iastore, 1)) (K : J X G nL kc ks (wM G b (up3 q 11 0 i x)) lv (pc + 1) st) : J X G nL kc ks (wM G b q) lv pc (.int x :: .int (nI j) :: .ref (b 10) :: st) := J_iastN E 10 hd rfl (by omega) (by decide) (J_arr 10 rfl (fun_n3 hj hi x) (J_w rfl K))
end WD
def ShM (x y : Q3) : Prop := ∀ g, g ≠ 2 → g ≠ 5 → g ≠ 6 → x g = y g
theorem ShM.rfl' {x : Q3} : ShM x x := fun _ _ _ _ => rfl
theorem ShM.trans {x y z : Q3} (h : ShM x y) (h2 : ShM y z) : ShM x z := fun g a b c => (h g a b c).trans (h2 g a b c)
theorem ShM.q {x y : Q3} (h : ShM x y) : x 0 = y 0 := h 0 (by decide) (by decide) (by decide)
def PubM (G : GB) (b : Nat → Nat) (y : Q3) (w : va_W) : Prop := ∃ y', w = wM G b y' ∧ ShM y' y
section PMm
variable (c p0 p1 p2 p3 : Nat × vp_E) (R : va_W)
end PMm
def onesF (s : Int32) : Nat → Int32
  | 0 => 0
  | n + 1 => onesF s n + (s >>> (nI n &&& 31) &&& 1)
def abvM (k : Int32) : Int32 := if k = 3 then 2 else if k = 4 then 3 else if k = 6 then 1 else 0
/-- water comes to a HOUSE -/
def comesR (q : Q2) (h : Nat) (v : Int32) : Q2 := up2 (loseF q (mx 0 (q 1 h + v - 9999))) 1 h (mn 9999 (q 1 h + v))
def takeQ (q : Q2) (h : Nat) : Q2 := up2 (if leftF q h < 0 then up2 q 5 h (mn 9999 (q 5 h + 1)) else q) 1 h (mx 0 (leftF q h))
def tkS (q : Q2) : Nat → Q2
  | 0 => q
  | n + 1 => takeQ (tkS q n) n
def tkD (q : Q2) : Nat → Int32
  | 0 => 0
  | n + 1 => stepD (tkS q n) n (tkD q n)
def goF (q : Q2) (h : Nat) : Int32 := mx 0 (q 1 h - keepF (q 0 h) (q 3 h) (q 2 h))
def kpS (q : Q2) : Nat → Q2
  | 0 => q
  | n + 1 => up2 (kpS q n) 1 n (kpS q n 1 n - goF (kpS q n) n)
def gpS (q : Q2) (g : Nat → Int32) : Nat → Nat → Int32
  | 0 => g
  | n + 1 => upd (gpS q g n) n (goF (kpS q n) n)
def outQ (q : Q2) (g : Nat → Int32) (h : Nat) : Q2 :=
  if leadF (loseF q (mn (g h) (loseK (q 0 h)))) h < 0 then up2 (loseF q (mn (g h) (loseK (q 0 h)))) 7 3 (mn 999999 (loseF q (mn (g h) (loseK (q 0 h))) 7 3 + g h - mn (g h) (loseK (q 0 h))))
  else comesR (loseF q (mn (g h) (loseK (q 0 h)))) (leadF (loseF q (mn (g h) (loseK (q 0 h)))) h).toNatClampNeg (g h - mn (g h) (loseK (q 0 h)))
def ouS (q : Q2) (g : Nat → Int32) : Nat → Q2
  | 0 => q
  | n + 1 => outQ (ouS q g n) g n
def hq1 (q : Q2) : Q2 := tkS (comesR q 0 (q 7 2)) 11
def hq3 (q : Q2) (g : Nat → Int32) : Q2 := ouS (kpS (hq1 q) 11) (gpS (hq1 q) g 11) 11
def hourR (q : Q2) (g : Nat → Int32) : Q2 := up2 (hq3 q g) 7 0 (hq3 q g 7 0 + 1)
def dryR (q : Q2) : Int32 := tkD (comesR q 0 (q 7 2)) 11
theorem comesR_4 (q : Q2) (h : Nat) (v : Int32) : comesR q h v 4 = q 4 := by simp [comesR, up2, loseF]
theorem takeQ_4 (q : Q2) (h : Nat) : takeQ q h 4 = q 4 := by unfold takeQ; split <;> simp [up2]
theorem tkS_4 (q : Q2) : ∀ n, tkS q n 4 = q 4
  | 0 => rfl
  | n + 1 => by rw [tkS, takeQ_4, tkS_4 q n]
theorem kpS_4 (q : Q2) : ∀ n, kpS q n 4 = q 4
  | 0 => rfl
  | n + 1 => by rw [kpS]; simp only [up2, show ¬ (4 = 1) by decide, if_false]; exact kpS_4 q n
theorem outQ_4 (q : Q2) (g : Nat → Int32) (h : Nat) : outQ q g h 4 = q 4 := by
  unfold outQ
  split
  · simp [up2, loseF]
  · rw [comesR_4]; simp [up2, loseF]
theorem ouS_4 (q : Q2) (g : Nat → Int32) : ∀ n, ouS q g n 4 = q 4
  | 0 => rfl
  | n + 1 => by rw [ouS, outQ_4, ouS_4 q g n]
theorem hourR_4 (q : Q2) (g : Nat → Int32) : hourR q g 4 = q 4 := by
  simp only [hourR, up2, show ¬ (4 = 7) by decide, if_false]
  rw [hq3, ouS_4, kpS_4, hq1, tkS_4, comesR_4]
theorem spOk_c {q q' : Q2} (h : spOk q) (e : q' 4 = q 4) : spOk q' := fun j hj => by rw [e]; exact h j hj
theorem lead_nn {q : Q2} {i : Nat} (h : spOk q) (hi : i < 11) (hc : ¬ leadF q i < 0) : ∃ w : Nat, w < 11 ∧ leadF q i = nI w := by
  rcases leadF_in h hi with e | e
  · rw [e] at hc; exact absurd (by decide) hc
  · exact vp_in_of e (by decide)
theorem in_le {v lo hi : Int32} : (Int32.toInt64 lo ≤ Int32.toInt64 v ∧ Int32.toInt64 v ≤ Int32.toInt64 hi) ↔ (lo ≤ v ∧ v ≤ hi) := by
  rw [Int32.toInt64_le', Int32.toInt64_le']
theorem up3_id {y : Q3} {g r j : Nat} : up3 y g r j (y g r j) = y := by
  funext g' r' j'
  by_cases h : g' = g
  · subst h
    by_cases h2 : r' = r
    · subst h2
      by_cases h3 : j' = j
      · subst h3; simp [up3, up2, upd]
      · simp [up3, up2, upd, h3]
    · simp [up3, up2, h2]
  · simp [up3, h]
theorem up2_up2 {q : Q2} {r j : Nat} {v w : Int32} : up2 (up2 q r j v) r j w = up2 q r j w := by
  funext r' j'
  by_cases h2 : r' = r
  · subst h2
    by_cases h3 : j' = j
    · subst h3; simp [up2, upd]
    · simp [up2, upd, h3]
  · simp [up2, h2]
theorem upR_id {q : Q2} {r : Nat} : upR q r (q r) = q := by
  funext r'
  by_cases h : r' = r
  · subst h; simp [upR]
  · simp [upR, h]
theorem up2_upR {q : Q2} {r i : Nat} {f : Nat → Int32} {v : Int32} : up2 (upR q r f) r i v = upR q r (upd f i v) := by
  funext r'
  by_cases h : r' = r
  · subst h; simp [upR, up2]
  · simp [upR, up2, h]
theorem comesR_0 (q : Q2) (h : Nat) (v : Int32) : comesR q h v 0 = q 0 := rfl
theorem takeQ_0 (q : Q2) (h : Nat) : takeQ q h 0 = q 0 := by unfold takeQ; split <;> rfl
theorem tkS_0 (q : Q2) : ∀ n, tkS q n 0 = q 0
  | 0 => rfl
  | n + 1 => by rw [tkS, takeQ_0, tkS_0 q n]
theorem kpS_0 (q : Q2) : ∀ n, kpS q n 0 = q 0
  | 0 => rfl
  | n + 1 => kpS_0 q n
theorem outQ_0 (q : Q2) (g : Nat → Int32) (h : Nat) : outQ q g h 0 = q 0 := by unfold outQ; split <;> rfl
theorem ouS_0 (q : Q2) (g : Nat → Int32) : ∀ n, ouS q g n 0 = q 0
  | 0 => rfl
  | n + 1 => by rw [ouS, outQ_0, ouS_0 q g n]
theorem hourR_0 (q : Q2) (g : Nat → Int32) : hourR q g 0 = q 0 := by
  show hq3 q g 0 = q 0
  rw [hq3, ouS_0, kpS_0, hq1, tkS_0, comesR_0]
theorem gpS_c (q : Q2) (g g' : Nat → Int32) : ∀ n j, j < n → gpS q g n j = gpS q g' n j
  | 0, _, h => absurd h (Nat.not_lt_zero _)
  | n + 1, j, h => by
    rw [gpS, gpS]
    by_cases e : j = n
    · subst e; rw [pk_us, pk_us]
    · rw [pk_un e, pk_un e]; exact gpS_c q g g' n j (by omega)
theorem outQ_c {q : Q2} {g g' : Nat → Int32} {h : Nat} (e : g h = g' h) : outQ q g h = outQ q g' h := by unfold outQ; rw [e]
theorem ouS_c (q : Q2) {g g' : Nat → Int32} : ∀ n, (∀ j, j < n → g j = g' j) → ouS q g n = ouS q g' n
  | 0, _ => rfl
  | n + 1, h => by rw [ouS, ouS, ouS_c q n (fun j hj => h j (by omega)), outQ_c (h n (by omega))]
def hourR0 (q : Q2) : Q2 := hourR q (fun _ => 0)
theorem hourR_g (q : Q2) (g : Nat → Int32) : hourR q g = hourR0 q := by
  unfold hourR0 hourR
  have e : hq3 q g = hq3 q (fun _ => 0) := ouS_c _ 11 (fun j hj => gpS_c _ _ _ 11 j hj)
  rw [e]
def hd5 (q d : Q2) : Q2 := upR (up2 d 2 0 (dryR q)) 0 (gpS (hq1 q) (d 0) 11)
def okQ (q : Q2) : Prop := spOk q ∧ ∀ j, j < 11 → ∃ k : Nat, k < 7 ∧ q 0 j = nI k
theorem okQ_c {q q' : Q2} (h : okQ q) (e0 : q' 0 = q 0) (e4 : q' 4 = q 4) : okQ q' := ⟨spOk_c h.1 e4, fun j hj => by rw [e0]; exact h.2 j hj⟩
theorem okQ_h {q : Q2} (h : okQ q) : okQ (hourR0 q) := okQ_c h (hourR_0 _ _) (hourR_4 _ _)
def hoursR (q : Q2) : Nat → Q2
  | 0 => q
  | n + 1 => hourR0 (hoursR q n)
def drysR (q : Q2) : Nat → Int32
  | 0 => 0
  | n + 1 => drysR q n ||| dryR (hoursR q n)
theorem okQ_hs {q : Q2} (h : okQ q) : ∀ n, okQ (hoursR q n)
  | 0 => h
  | n + 1 => okQ_h (okQ_hs h n)
theorem upG_up {y : Q3} {g r j : Nat} {v : Int32} : up3 y g r j v = upG y g (up2 (y g) r j v) := rfl

set_option maxHeartbeats 4000000 in
set_option maxRecDepth 20000 in
theorem c_X6_in (l : Launch) (G : GB) (v lo hi : Int32) (al bh : Int64) (ha : al = Int32.toInt64 lo) (hb : bh = Int32.toInt64 hi) : CI l yX6_in cX6_in 6 .boolean 0 0 G [.long (Int32.toInt64 v), .long al, .long bh] ([]) (fun vR w' => vR = bI (lo ≤ v ∧ v ≤ hi) ∧ w' = []) := by
  refine CI.mk (own := RX6) (by decide) rfl (Nat.le_of_ble_eq_true rfl) ?_
  intro X E ret
  show J X G 6 0 0 ([]) [(0, .long (Int32.toInt64 v)), (2, .long al), (4, .long bh)] 0 []
  subst ha hb
  refine J_lload_n E dX6_in_0 rfl 0 rfl ?_
  refine J_lload_n E dX6_in_1 rfl 1 rfl ?_
  refine J_lcmp E dX6_in_2 ?_
  refine J_if_lt E (tgt := 17) dX6_in_3 (by decide) (fun c_3 => ?_) (fun c_3 => ?_)
  · skip
    refine J_iconst E dX6_in_17 ic_0 ?_
    exact ret _ _ _ _ ⟨by first | (rw [bI_t]; exact in_le.mp ⟨Int64.not_lt.mp (fun z => c_3 ((lg_cmp_lt _ _).mpr z)), Int64.not_lt.mp (fun z => c_10 ((lg_cmp_gt _ _).mpr z))⟩) | (rw [bI_f]; intro z; have z := in_le.mpr z; first | exact absurd ((lg_cmp_lt _ _).mp c_3) (Int64.not_lt.mpr z.1) | exact absurd ((lg_cmp_gt _ _).mp c_10) (Int64.not_lt.mpr z.2)), rfl⟩ rfl dX6_in_18
  · skip
    refine J_lload_n E dX6_in_6 rfl 0 rfl ?_
    refine J_lload E dX6_in_7 2 rfl ?_
    refine J_lcmp E dX6_in_9 ?_
    refine J_if_gt E (tgt := 17) dX6_in_10 (by decide) (fun c_10 => ?_) (fun c_10 => ?_)
    · skip
      refine J_iconst E dX6_in_17 ic_0 ?_
      exact ret _ _ _ _ ⟨by first | (rw [bI_t]; exact in_le.mp ⟨Int64.not_lt.mp (fun z => c_3 ((lg_cmp_lt _ _).mpr z)), Int64.not_lt.mp (fun z => c_10 ((lg_cmp_gt _ _).mpr z))⟩) | (rw [bI_f]; intro z; have z := in_le.mpr z; first | exact absurd ((lg_cmp_lt _ _).mp c_3) (Int64.not_lt.mpr z.1) | exact absurd ((lg_cmp_gt _ _).mp c_10) (Int64.not_lt.mpr z.2)), rfl⟩ rfl dX6_in_18
    · skip
      refine J_iconst E dX6_in_13 ic_1 ?_
      refine J_goto E (tgt := 18) dX6_in_14 (by decide) ?_
      exact ret _ _ _ _ ⟨by first | (rw [bI_t]; exact in_le.mp ⟨Int64.not_lt.mp (fun z => c_3 ((lg_cmp_lt _ _).mpr z)), Int64.not_lt.mp (fun z => c_10 ((lg_cmp_gt _ _).mpr z))⟩) | (rw [bI_f]; intro z; have z := in_le.mpr z; first | exact absurd ((lg_cmp_lt _ _).mp c_3) (Int64.not_lt.mpr z.1) | exact absurd ((lg_cmp_gt _ _).mp c_10) (Int64.not_lt.mpr z.2)), rfl⟩ rfl dX6_in_18

set_option maxHeartbeats 4000000 in
set_option maxRecDepth 20000 in
theorem c_X6_isHouse (l : Launch) (G : GB) (v : Int32) : CI l yX6_isHouse cX6_isHouse 1 .boolean 1 25 G [.int v] ([]) (fun vR w' => vR = bI (0 ≤ v ∧ v ≤ 10) ∧ w' = []) := by
  refine CI.mk (own := RX6) (by decide) rfl (Nat.le_of_ble_eq_true rfl) ?_
  intro X E ret
  show J X G 1 0 0 ([]) [(0, .int v)] 0 []
  refine J_iload_n E dX6_isHouse_0 rfl 0 rfl ?_
  refine J_i2l E dX6_isHouse_1 rfl ?_
  refine J_lconst E dX6_isHouse_2 lc_0 ?_
  refine J_ldc2 E kl_X6_52 dX6_isHouse_3 ?_
  refine J_cSiN E (As := [.long (Int32.toInt64 v), .long 0, .long 10]) (c_X6_in l G v 0 10 0 10 (by decide) (by decide) ) cl_X6_54 yo_X6_in dX6_isHouse_6 rfl (Nat.le_of_ble_eq_true rfl) (Nat.le_of_ble_eq_true rfl) rfl (Nat.le_of_ble_eq_true rfl) ⟨Nat.zero_le _, Nat.zero_le _⟩ ?_
  exact ret _ _ _ _ ⟨rfl, rfl⟩ bI_nar dX6_isHouse_9

set_option maxHeartbeats 4000000 in
set_option maxRecDepth 20000 in
theorem c_X6_isKind (l : Launch) (G : GB) (v : Int32) : CI l yX6_isKind cX6_isKind 1 .boolean 1 25 G [.int v] ([]) (fun vR w' => vR = bI (0 ≤ v ∧ v ≤ 6) ∧ w' = []) := by
  refine CI.mk (own := RX6) (by decide) rfl (Nat.le_of_ble_eq_true rfl) ?_
  intro X E ret
  show J X G 1 0 0 ([]) [(0, .int v)] 0 []
  refine J_iload_n E dX6_isKind_0 rfl 0 rfl ?_
  refine J_i2l E dX6_isKind_1 rfl ?_
  refine J_lconst E dX6_isKind_2 lc_0 ?_
  refine J_ldc2 E kl_X6_62 dX6_isKind_3 ?_
  refine J_cSiN E (As := [.long (Int32.toInt64 v), .long 0, .long 6]) (c_X6_in l G v 0 6 0 6 (by decide) (by decide) ) cl_X6_54 yo_X6_in dX6_isKind_6 rfl (Nat.le_of_ble_eq_true rfl) (Nat.le_of_ble_eq_true rfl) rfl (Nat.le_of_ble_eq_true rfl) ⟨Nat.zero_le _, Nat.zero_le _⟩ ?_
  exact ret _ _ _ _ ⟨rfl, rfl⟩ bI_nar dX6_isKind_9

set_option maxHeartbeats 4000000 in
set_option maxRecDepth 20000 in
theorem c_X6_isAhead (l : Launch) (G : GB) (v : Int32) : CI l yX6_isAhead cX6_isAhead 1 .boolean 1 25 G [.int v] ([]) (fun vR w' => vR = bI (0 ≤ v ∧ v ≤ 100) ∧ w' = []) := by
  refine CI.mk (own := RX6) (by decide) rfl (Nat.le_of_ble_eq_true rfl) ?_
  intro X E ret
  show J X G 1 0 0 ([]) [(0, .int v)] 0 []
  refine J_iload_n E dX6_isAhead_0 rfl 0 rfl ?_
  refine J_i2l E dX6_isAhead_1 rfl ?_
  refine J_lconst E dX6_isAhead_2 lc_0 ?_
  refine J_ldc2 E kl_X6_153 dX6_isAhead_3 ?_
  refine J_cSiN E (As := [.long (Int32.toInt64 v), .long 0, .long 100]) (c_X6_in l G v 0 100 0 100 (by decide) (by decide) ) cl_X6_54 yo_X6_in dX6_isAhead_6 rfl (Nat.le_of_ble_eq_true rfl) (Nat.le_of_ble_eq_true rfl) rfl (Nat.le_of_ble_eq_true rfl) ⟨Nat.zero_le _, Nat.zero_le _⟩ ?_
  exact ret _ _ _ _ ⟨rfl, rfl⟩ bI_nar dX6_isAhead_9

set_option maxHeartbeats 4000000 in
set_option maxRecDepth 20000 in
theorem c_X6_isSoon (l : Launch) (G : GB) (v : Int32) : CI l yX6_isSoon cX6_isSoon 1 .boolean 1 25 G [.int v] ([]) (fun vR w' => vR = bI (0 ≤ v ∧ v ≤ 40) ∧ w' = []) := by
  refine CI.mk (own := RX6) (by decide) rfl (Nat.le_of_ble_eq_true rfl) ?_
  intro X E ret
  show J X G 1 0 0 ([]) [(0, .int v)] 0 []
  refine J_iload_n E dX6_isSoon_0 rfl 0 rfl ?_
  refine J_i2l E dX6_isSoon_1 rfl ?_
  refine J_lconst E dX6_isSoon_2 lc_0 ?_
  refine J_ldc2 E kl_X6_155 dX6_isSoon_3 ?_
  refine J_cSiN E (As := [.long (Int32.toInt64 v), .long 0, .long 40]) (c_X6_in l G v 0 40 0 40 (by decide) (by decide) ) cl_X6_54 yo_X6_in dX6_isSoon_6 rfl (Nat.le_of_ble_eq_true rfl) (Nat.le_of_ble_eq_true rfl) rfl (Nat.le_of_ble_eq_true rfl) ⟨Nat.zero_le _, Nat.zero_le _⟩ ?_
  exact ret _ _ _ _ ⟨rfl, rfl⟩ bI_nar dX6_isSoon_9

set_option maxHeartbeats 4000000 in
set_option maxRecDepth 20000 in
theorem c_X6_isSpot (l : Launch) (G : GB) (v : Int32) : CI l yX6_isSpot cX6_isSpot 1 .boolean 1 25 G [.int v] ([]) (fun vR w' => vR = bI (0 ≤ v ∧ v ≤ 9) ∧ w' = []) := by
  refine CI.mk (own := RX6) (by decide) rfl (Nat.le_of_ble_eq_true rfl) ?_
  intro X E ret
  show J X G 1 0 0 ([]) [(0, .int v)] 0 []
  refine J_iload_n E dX6_isSpot_0 rfl 0 rfl ?_
  refine J_i2l E dX6_isSpot_1 rfl ?_
  refine J_lconst E dX6_isSpot_2 lc_0 ?_
  refine J_ldc2 E kl_X6_99 dX6_isSpot_3 ?_
  refine J_cSiN E (As := [.long (Int32.toInt64 v), .long 0, .long 9]) (c_X6_in l G v 0 9 0 9 (by decide) (by decide) ) cl_X6_54 yo_X6_in dX6_isSpot_6 rfl (Nat.le_of_ble_eq_true rfl) (Nat.le_of_ble_eq_true rfl) rfl (Nat.le_of_ble_eq_true rfl) ⟨Nat.zero_le _, Nat.zero_le _⟩ ?_
  exact ret _ _ _ _ ⟨rfl, rfl⟩ bI_nar dX6_isSpot_9

set_option maxHeartbeats 4000000 in
set_option maxRecDepth 20000 in
theorem c_X6_isSheet (l : Launch) (G : GB) (v : Int32) : CI l yX6_isSheet cX6_isSheet 1 .boolean 1 25 G [.int v] ([]) (fun vR w' => vR = bI (0 ≤ v ∧ v ≤ 3) ∧ w' = []) := by
  refine CI.mk (own := RX6) (by decide) rfl (Nat.le_of_ble_eq_true rfl) ?_
  intro X E ret
  show J X G 1 0 0 ([]) [(0, .int v)] 0 []
  refine J_iload_n E dX6_isSheet_0 rfl 0 rfl ?_
  refine J_i2l E dX6_isSheet_1 rfl ?_
  refine J_lconst E dX6_isSheet_2 lc_0 ?_
  refine J_ldc2 E kl_X6_301 dX6_isSheet_3 ?_
  refine J_cSiN E (As := [.long (Int32.toInt64 v), .long 0, .long 3]) (c_X6_in l G v 0 3 0 3 (by decide) (by decide) ) cl_X6_54 yo_X6_in dX6_isSheet_6 rfl (Nat.le_of_ble_eq_true rfl) (Nat.le_of_ble_eq_true rfl) rfl (Nat.le_of_ble_eq_true rfl) ⟨Nat.zero_le _, Nat.zero_le _⟩ ?_
  exact ret _ _ _ _ ⟨rfl, rfl⟩ bI_nar dX6_isSheet_9

set_option maxHeartbeats 4000000 in
set_option maxRecDepth 20000 in
theorem c_X6_finds (l : Launch) (G : GB) (b : Nat → Nat) (y : Q3) (k : Nat) (hk : k < 7) : CI l yX6_finds cX6_finds 2 .int 0 0 G [.ref (b 0), .int (nI k)] (wM G b y) (fun vR w' => vR = tellR k ∧ w' = wM G b (tellX y k)) := by
  refine CI.mk (own := RX6) (by decide) rfl (Nat.le_of_ble_eq_true rfl) ?_
  intro X E ret
  show J X G 2 0 0 (wM G b y) [(0, .ref (b 0)), (1, .int (nI k))] 0 []
  refine J_aload_n E dX6_finds_0 rfl 0 rfl ?_
  refine gM0_X6_19 E dX6_finds_1 ?_
  refine J_iload_n E dX6_finds_4 rfl 1 rfl ?_
  refine J_dup2 E dX6_finds_5 rfl rfl ?_
  refine lM_4 E (j := k) dX6_finds_6 (by omega) ?_
  refine J_iconst E dX6_finds_7 ic_1 ?_
  refine J_iadd E dX6_finds_8 ?_
  refine sM_4 E (j := k) dX6_finds_9 (by omega) ?_
  refine J_ldc E kn_X6_47 dX6_finds_10 ?_
  refine J_iload_n E dX6_finds_12 rfl 1 rfl ?_
  refine J_isub E dX6_finds_13 ?_
  exact ret _ _ _ _ ⟨rfl, (congrArg (wM G b) (rfl))⟩ rfl dX6_finds_14

theorem perm4_02 {α : Type} (c p1 p2 p3 : α) : List.Perm [c, p1, p2, p3] [p1, p3, c, p2] := by
  classical
  rw [List.perm_iff_count]
  intro z
  simp only [List.count_cons, List.count_nil]
  omega
theorem perm4_20 {α : Type} (c p1 p2 p3 : α) : List.Perm [c, p1, p2, p3] [p3, p1, c, p2] := by
  classical
  rw [List.perm_iff_count]
  intro z
  simp only [List.count_cons, List.count_nil]
  omega
theorem perm4_01 {α : Type} (c p1 p2 p3 : α) : List.Perm [c, p1, p2, p3] [p1, p2, c, p3] := by
  classical
  rw [List.perm_iff_count]
  intro z
  simp only [List.count_cons, List.count_nil]
  omega
theorem perm4_10 {α : Type} (c p1 p2 p3 : α) : List.Perm [c, p1, p2, p3] [p2, p1, c, p3] := by
  classical
  rw [List.perm_iff_count]
  intro z
  simp only [List.count_cons, List.count_nil]
  omega
set_option maxHeartbeats 4000000 in
set_option maxRecDepth 20000 in
theorem c_X6_become (l : Launch) (G : GB) (p p2 : Nat) (f g : Nat → Int32) : CV l yX6_become cX6_become 3 0 0 0 0 G [.ref p, .ref p2] [(p, .inl (G.2.1, 81, .inl f)), (p2, .inl (G.2.1, 81, .inl g))] (fun w' => w' = [(p, .inl (G.2.1, 81, .inl f)), (p2, .inl (G.2.1, 81, .inl f))]) := by
  refine CV.mk (own := RX6) (by decide) rfl (Nat.le_of_ble_eq_true rfl) ?_
  intro X E _ _ _ ret
  show J X G 3 0 0 [(p, .inl (G.2.1, 81, .inl f)), (p2, .inl (G.2.1, 81, .inl g))] [(0, .ref p), (1, .ref p2)] 0 []
  refine J_iconst E dX6_become_0 ic_0 ?_
  refine J_istore_n E (lv' := [(2, .int 0), (0, .ref p), (1, .ref p2)]) dX6_become_1 rfl (by decide) rfl ?_
  have lp : ∀ (k i : Nat) (g : Nat → Int32), i ≤ 81 → (∀ j, j < i → g j = f j) → 81 - i < k → J X G 3 0 0 [(p, .inl (G.2.1, 81, .inl f)), (p2, .inl (G.2.1, 81, .inl g))] [(2, .int (nI i)), (0, .ref p), (1, .ref p2)] 2 [] := by
    intro k
    induction k with
    | zero => intro i g _ _ hm; exact absurd hm (Nat.not_lt_zero _)
    | succ k ih =>
      intro i g hi hg hm
      refine J_iload_n E dX6_become_2 rfl 0 rfl ?_
      refine J_bipush E dX6_become_3 bp_81 ?_
      refine J_icmp_ge E (tgt := 20) dX6_become_5 (by decide) (fun c_5 => ?_) (fun c_5 => ?_)
      · have n_5 : 81 ≤ i := cmp_le (a := 81) (b := i) (by decide) (by omega) c_5
        refine J_arr 1 rfl (g := f) (fun j hj => hg j (by omega)) ?_
        exact ret _ _ _ rfl dX6_become_20
      · have n_5 : ¬ 81 ≤ i := cmp_nle (a := 81) (b := i) (by decide) (by omega) c_5
        refine J_aload_n E dX6_become_8 rfl 2 rfl ?_
        refine J_iload_n E dX6_become_9 rfl 0 rfl ?_
        refine J_aload_n E dX6_become_10 rfl 1 rfl ?_
        refine J_iload_n E dX6_become_11 rfl 0 rfl ?_
        refine J_ialdN E (j := i) 0 dX6_become_12 rfl (by omega) (by decide) ?_
        refine J_iastN E (j := i) 1 dX6_become_13 rfl (by omega) (by decide) ?_
        refine J_iinc E (lv' := [(2, .int (nI (i + 1))), (0, .ref p), (1, .ref p2)]) dX6_become_14 0 rfl (nI_inc _) (by decide) rfl ?_
        refine J_goto E (tgt := 2) dX6_become_17 (by decide) ?_
        exact ih (i + 1) (upd g i (f i)) (by omega) (fun j hj => by
          by_cases e : j = i
          · rw [e]; exact pk_us
          · rw [pk_un e]; exact hg j (by omega)) (by omega)
  exact lp _ 0 g (Nat.zero_le _) (fun j hj => absurd hj (Nat.not_lt_zero j)) (Nat.lt_succ_self _)
section LND
variable {X : JX} {l : Launch} {G : GB} {cc : ByteArray} {nL fr lo kc ks pc : Nat} {lv : List (Nat × Value)} {rest : List Value}
set_option maxHeartbeats 4000000 in
theorem J_m02 (E : JE X l G cc RX6 nL fr lo) {b : Nat → Nat} {y : Q3} (hd : decode cc pc = .ok (.invokestatic 48, 3)) (hR1 : 1 ≤ fr) (hR2 : 22 ≤ lo) (hrm : (rest.map fun v => v.category).sum ≤ 8) (hk : kc ≤ X.1.2.2.2.1.cells ∧ ks ≤ X.1.2.2.2.1.slots) (K : J X G nL kc ks (wM G b (upG y 2 (y 0))) lv (pc + 3) rest) : J X G nL kc ks (wM G b y) lv pc (.ref (b 3) :: .ref (b 1) :: rest) := by
  refine J_perm (ws' := [] ++ ([(b 1, .inl (G.2.1, 81, .inl (flat (y 0)))), (b 3, .inl (G.2.1, 81, .inl (flat (y 2))))] ++ ([(b 0, .inr (5, [.ref (b 1), .ref (b 2), .ref (b 3), .int (y 3 1 0), .ref (b 4), .ref (b 5), .int (y 5 2 0), .ref (b 6), .ref (b 7), .int (y 7 1 0), .int (y 6 1 0), .int (y 6 1 1), .int (y 6 1 2), .ref (b 8), .ref (b 9), .ref (b 10), .ref (b 11)])), (b 2, .inl (G.2.1, 81, .inl (flat (y 1))))] ++ [(b 4, .inl (G.2.1, 7, .inl (y 3 0))), (b 5, .inl (G.2.1, 11, .inl (y 5 0))), (b 6, .inl (G.2.1, 11, .inl (y 5 1))), (b 7, .inl (G.2.1, 120, .inl (y 7 0))), (b 8, .inl (G.2.1, 4, .inl (fun k => pick4 k (y 8 1 0) (y 9 1 0) (y 10 1 0) (y 11 1 0)))), (b 9, .inl (G.2.1, 4, .inl (fun k => pick4 k (y 8 1 1) (y 9 1 1) (y 10 1 1) (y 11 1 1)))), (b 10, .inl (G.2.1, 160, .inl (fun k => pick4 (k / 40) (y 8 0 (k % 40)) (y 9 0 (k % 40)) (y 10 0 (k % 40)) (y 11 0 (k % 40))))), (b 11, .inl (G.2.1, 40, .inl (y 5 3)))]))) ?_ ?_
  · show List.Perm ([(b 0, .inr (5, [.ref (b 1), .ref (b 2), .ref (b 3), .int (y 3 1 0), .ref (b 4), .ref (b 5), .int (y 5 2 0), .ref (b 6), .ref (b 7), .int (y 7 1 0), .int (y 6 1 0), .int (y 6 1 1), .int (y 6 1 2), .ref (b 8), .ref (b 9), .ref (b 10), .ref (b 11)])), (b 1, .inl (G.2.1, 81, .inl (flat (y 0)))), (b 2, .inl (G.2.1, 81, .inl (flat (y 1)))), (b 3, .inl (G.2.1, 81, .inl (flat (y 2))))] ++ [(b 4, .inl (G.2.1, 7, .inl (y 3 0))), (b 5, .inl (G.2.1, 11, .inl (y 5 0))), (b 6, .inl (G.2.1, 11, .inl (y 5 1))), (b 7, .inl (G.2.1, 120, .inl (y 7 0))), (b 8, .inl (G.2.1, 4, .inl (fun k => pick4 k (y 8 1 0) (y 9 1 0) (y 10 1 0) (y 11 1 0)))), (b 9, .inl (G.2.1, 4, .inl (fun k => pick4 k (y 8 1 1) (y 9 1 1) (y 10 1 1) (y 11 1 1)))), (b 10, .inl (G.2.1, 160, .inl (fun k => pick4 (k / 40) (y 8 0 (k % 40)) (y 9 0 (k % 40)) (y 10 0 (k % 40)) (y 11 0 (k % 40))))), (b 11, .inl (G.2.1, 40, .inl (y 5 3)))]) ([(b 1, .inl (G.2.1, 81, .inl (flat (y 0)))), (b 3, .inl (G.2.1, 81, .inl (flat (y 2)))), (b 0, .inr (5, [.ref (b 1), .ref (b 2), .ref (b 3), .int (y 3 1 0), .ref (b 4), .ref (b 5), .int (y 5 2 0), .ref (b 6), .ref (b 7), .int (y 7 1 0), .int (y 6 1 0), .int (y 6 1 1), .int (y 6 1 2), .ref (b 8), .ref (b 9), .ref (b 10), .ref (b 11)])), (b 2, .inl (G.2.1, 81, .inl (flat (y 1))))] ++ [(b 4, .inl (G.2.1, 7, .inl (y 3 0))), (b 5, .inl (G.2.1, 11, .inl (y 5 0))), (b 6, .inl (G.2.1, 11, .inl (y 5 1))), (b 7, .inl (G.2.1, 120, .inl (y 7 0))), (b 8, .inl (G.2.1, 4, .inl (fun k => pick4 k (y 8 1 0) (y 9 1 0) (y 10 1 0) (y 11 1 0)))), (b 9, .inl (G.2.1, 4, .inl (fun k => pick4 k (y 8 1 1) (y 9 1 1) (y 10 1 1) (y 11 1 1)))), (b 10, .inl (G.2.1, 160, .inl (fun k => pick4 (k / 40) (y 8 0 (k % 40)) (y 9 0 (k % 40)) (y 10 0 (k % 40)) (y 11 0 (k % 40))))), (b 11, .inl (G.2.1, 40, .inl (y 5 3)))])
    refine List.Perm.append_right _ ?_
    exact perm4_02 _ _ _ _
  refine J_cSv1 E (As := [.ref (b 1), .ref (b 3)]) [] ([(b 0, .inr (5, [.ref (b 1), .ref (b 2), .ref (b 3), .int (y 3 1 0), .ref (b 4), .ref (b 5), .int (y 5 2 0), .ref (b 6), .ref (b 7), .int (y 7 1 0), .int (y 6 1 0), .int (y 6 1 1), .int (y 6 1 2), .ref (b 8), .ref (b 9), .ref (b 10), .ref (b 11)])), (b 2, .inl (G.2.1, 81, .inl (flat (y 1))))] ++ [(b 4, .inl (G.2.1, 7, .inl (y 3 0))), (b 5, .inl (G.2.1, 11, .inl (y 5 0))), (b 6, .inl (G.2.1, 11, .inl (y 5 1))), (b 7, .inl (G.2.1, 120, .inl (y 7 0))), (b 8, .inl (G.2.1, 4, .inl (fun k => pick4 k (y 8 1 0) (y 9 1 0) (y 10 1 0) (y 11 1 0)))), (b 9, .inl (G.2.1, 4, .inl (fun k => pick4 k (y 8 1 1) (y 9 1 1) (y 10 1 1) (y 11 1 1)))), (b 10, .inl (G.2.1, 160, .inl (fun k => pick4 (k / 40) (y 8 0 (k % 40)) (y 9 0 (k % 40)) (y 10 0 (k % 40)) (y 11 0 (k % 40))))), (b 11, .inl (G.2.1, 40, .inl (y 5 3)))]) (c_X6_become l G (b 1) (b 3) (flat (y 0)) (flat (y 2))) cl_X6_48 yo_X6_become hd rfl (Nat.le_trans (Nat.le_of_ble_eq_true rfl) hR1) (Nat.le_trans (Nat.le_of_ble_eq_true rfl) hR2) rfl hrm rfl hk ?_
  refine J_perm (ws' := wM G b (upG y 2 (y 0))) ?_ K
  show List.Perm ([(b 1, .inl (G.2.1, 81, .inl (flat (y 0)))), (b 3, .inl (G.2.1, 81, .inl (flat (y 0)))), (b 0, .inr (5, [.ref (b 1), .ref (b 2), .ref (b 3), .int (y 3 1 0), .ref (b 4), .ref (b 5), .int (y 5 2 0), .ref (b 6), .ref (b 7), .int (y 7 1 0), .int (y 6 1 0), .int (y 6 1 1), .int (y 6 1 2), .ref (b 8), .ref (b 9), .ref (b 10), .ref (b 11)])), (b 2, .inl (G.2.1, 81, .inl (flat (y 1))))] ++ [(b 4, .inl (G.2.1, 7, .inl (y 3 0))), (b 5, .inl (G.2.1, 11, .inl (y 5 0))), (b 6, .inl (G.2.1, 11, .inl (y 5 1))), (b 7, .inl (G.2.1, 120, .inl (y 7 0))), (b 8, .inl (G.2.1, 4, .inl (fun k => pick4 k (y 8 1 0) (y 9 1 0) (y 10 1 0) (y 11 1 0)))), (b 9, .inl (G.2.1, 4, .inl (fun k => pick4 k (y 8 1 1) (y 9 1 1) (y 10 1 1) (y 11 1 1)))), (b 10, .inl (G.2.1, 160, .inl (fun k => pick4 (k / 40) (y 8 0 (k % 40)) (y 9 0 (k % 40)) (y 10 0 (k % 40)) (y 11 0 (k % 40))))), (b 11, .inl (G.2.1, 40, .inl (y 5 3)))]) ([(b 0, .inr (5, [.ref (b 1), .ref (b 2), .ref (b 3), .int (y 3 1 0), .ref (b 4), .ref (b 5), .int (y 5 2 0), .ref (b 6), .ref (b 7), .int (y 7 1 0), .int (y 6 1 0), .int (y 6 1 1), .int (y 6 1 2), .ref (b 8), .ref (b 9), .ref (b 10), .ref (b 11)])), (b 1, .inl (G.2.1, 81, .inl (flat (y 0)))), (b 2, .inl (G.2.1, 81, .inl (flat (y 1)))), (b 3, .inl (G.2.1, 81, .inl (flat (y 0))))] ++ [(b 4, .inl (G.2.1, 7, .inl (y 3 0))), (b 5, .inl (G.2.1, 11, .inl (y 5 0))), (b 6, .inl (G.2.1, 11, .inl (y 5 1))), (b 7, .inl (G.2.1, 120, .inl (y 7 0))), (b 8, .inl (G.2.1, 4, .inl (fun k => pick4 k (y 8 1 0) (y 9 1 0) (y 10 1 0) (y 11 1 0)))), (b 9, .inl (G.2.1, 4, .inl (fun k => pick4 k (y 8 1 1) (y 9 1 1) (y 10 1 1) (y 11 1 1)))), (b 10, .inl (G.2.1, 160, .inl (fun k => pick4 (k / 40) (y 8 0 (k % 40)) (y 9 0 (k % 40)) (y 10 0 (k % 40)) (y 11 0 (k % 40))))), (b 11, .inl (G.2.1, 40, .inl (y 5 3)))])
  refine List.Perm.append_right _ ?_
  exact (perm4_02 _ _ _ _).symm
set_option maxHeartbeats 4000000 in
theorem J_m20 (E : JE X l G cc RX6 nL fr lo) {b : Nat → Nat} {y : Q3} (hd : decode cc pc = .ok (.invokestatic 48, 3)) (hR1 : 1 ≤ fr) (hR2 : 22 ≤ lo) (hrm : (rest.map fun v => v.category).sum ≤ 8) (hk : kc ≤ X.1.2.2.2.1.cells ∧ ks ≤ X.1.2.2.2.1.slots) (K : J X G nL kc ks (wM G b (upG y 0 (y 2))) lv (pc + 3) rest) : J X G nL kc ks (wM G b y) lv pc (.ref (b 1) :: .ref (b 3) :: rest) := by
  refine J_perm (ws' := [] ++ ([(b 3, .inl (G.2.1, 81, .inl (flat (y 2)))), (b 1, .inl (G.2.1, 81, .inl (flat (y 0))))] ++ ([(b 0, .inr (5, [.ref (b 1), .ref (b 2), .ref (b 3), .int (y 3 1 0), .ref (b 4), .ref (b 5), .int (y 5 2 0), .ref (b 6), .ref (b 7), .int (y 7 1 0), .int (y 6 1 0), .int (y 6 1 1), .int (y 6 1 2), .ref (b 8), .ref (b 9), .ref (b 10), .ref (b 11)])), (b 2, .inl (G.2.1, 81, .inl (flat (y 1))))] ++ [(b 4, .inl (G.2.1, 7, .inl (y 3 0))), (b 5, .inl (G.2.1, 11, .inl (y 5 0))), (b 6, .inl (G.2.1, 11, .inl (y 5 1))), (b 7, .inl (G.2.1, 120, .inl (y 7 0))), (b 8, .inl (G.2.1, 4, .inl (fun k => pick4 k (y 8 1 0) (y 9 1 0) (y 10 1 0) (y 11 1 0)))), (b 9, .inl (G.2.1, 4, .inl (fun k => pick4 k (y 8 1 1) (y 9 1 1) (y 10 1 1) (y 11 1 1)))), (b 10, .inl (G.2.1, 160, .inl (fun k => pick4 (k / 40) (y 8 0 (k % 40)) (y 9 0 (k % 40)) (y 10 0 (k % 40)) (y 11 0 (k % 40))))), (b 11, .inl (G.2.1, 40, .inl (y 5 3)))]))) ?_ ?_
  · show List.Perm ([(b 0, .inr (5, [.ref (b 1), .ref (b 2), .ref (b 3), .int (y 3 1 0), .ref (b 4), .ref (b 5), .int (y 5 2 0), .ref (b 6), .ref (b 7), .int (y 7 1 0), .int (y 6 1 0), .int (y 6 1 1), .int (y 6 1 2), .ref (b 8), .ref (b 9), .ref (b 10), .ref (b 11)])), (b 1, .inl (G.2.1, 81, .inl (flat (y 0)))), (b 2, .inl (G.2.1, 81, .inl (flat (y 1)))), (b 3, .inl (G.2.1, 81, .inl (flat (y 2))))] ++ [(b 4, .inl (G.2.1, 7, .inl (y 3 0))), (b 5, .inl (G.2.1, 11, .inl (y 5 0))), (b 6, .inl (G.2.1, 11, .inl (y 5 1))), (b 7, .inl (G.2.1, 120, .inl (y 7 0))), (b 8, .inl (G.2.1, 4, .inl (fun k => pick4 k (y 8 1 0) (y 9 1 0) (y 10 1 0) (y 11 1 0)))), (b 9, .inl (G.2.1, 4, .inl (fun k => pick4 k (y 8 1 1) (y 9 1 1) (y 10 1 1) (y 11 1 1)))), (b 10, .inl (G.2.1, 160, .inl (fun k => pick4 (k / 40) (y 8 0 (k % 40)) (y 9 0 (k % 40)) (y 10 0 (k % 40)) (y 11 0 (k % 40))))), (b 11, .inl (G.2.1, 40, .inl (y 5 3)))]) ([(b 3, .inl (G.2.1, 81, .inl (flat (y 2)))), (b 1, .inl (G.2.1, 81, .inl (flat (y 0)))), (b 0, .inr (5, [.ref (b 1), .ref (b 2), .ref (b 3), .int (y 3 1 0), .ref (b 4), .ref (b 5), .int (y 5 2 0), .ref (b 6), .ref (b 7), .int (y 7 1 0), .int (y 6 1 0), .int (y 6 1 1), .int (y 6 1 2), .ref (b 8), .ref (b 9), .ref (b 10), .ref (b 11)])), (b 2, .inl (G.2.1, 81, .inl (flat (y 1))))] ++ [(b 4, .inl (G.2.1, 7, .inl (y 3 0))), (b 5, .inl (G.2.1, 11, .inl (y 5 0))), (b 6, .inl (G.2.1, 11, .inl (y 5 1))), (b 7, .inl (G.2.1, 120, .inl (y 7 0))), (b 8, .inl (G.2.1, 4, .inl (fun k => pick4 k (y 8 1 0) (y 9 1 0) (y 10 1 0) (y 11 1 0)))), (b 9, .inl (G.2.1, 4, .inl (fun k => pick4 k (y 8 1 1) (y 9 1 1) (y 10 1 1) (y 11 1 1)))), (b 10, .inl (G.2.1, 160, .inl (fun k => pick4 (k / 40) (y 8 0 (k % 40)) (y 9 0 (k % 40)) (y 10 0 (k % 40)) (y 11 0 (k % 40))))), (b 11, .inl (G.2.1, 40, .inl (y 5 3)))])
    refine List.Perm.append_right _ ?_
    exact perm4_20 _ _ _ _
  refine J_cSv1 E (As := [.ref (b 3), .ref (b 1)]) [] ([(b 0, .inr (5, [.ref (b 1), .ref (b 2), .ref (b 3), .int (y 3 1 0), .ref (b 4), .ref (b 5), .int (y 5 2 0), .ref (b 6), .ref (b 7), .int (y 7 1 0), .int (y 6 1 0), .int (y 6 1 1), .int (y 6 1 2), .ref (b 8), .ref (b 9), .ref (b 10), .ref (b 11)])), (b 2, .inl (G.2.1, 81, .inl (flat (y 1))))] ++ [(b 4, .inl (G.2.1, 7, .inl (y 3 0))), (b 5, .inl (G.2.1, 11, .inl (y 5 0))), (b 6, .inl (G.2.1, 11, .inl (y 5 1))), (b 7, .inl (G.2.1, 120, .inl (y 7 0))), (b 8, .inl (G.2.1, 4, .inl (fun k => pick4 k (y 8 1 0) (y 9 1 0) (y 10 1 0) (y 11 1 0)))), (b 9, .inl (G.2.1, 4, .inl (fun k => pick4 k (y 8 1 1) (y 9 1 1) (y 10 1 1) (y 11 1 1)))), (b 10, .inl (G.2.1, 160, .inl (fun k => pick4 (k / 40) (y 8 0 (k % 40)) (y 9 0 (k % 40)) (y 10 0 (k % 40)) (y 11 0 (k % 40))))), (b 11, .inl (G.2.1, 40, .inl (y 5 3)))]) (c_X6_become l G (b 3) (b 1) (flat (y 2)) (flat (y 0))) cl_X6_48 yo_X6_become hd rfl (Nat.le_trans (Nat.le_of_ble_eq_true rfl) hR1) (Nat.le_trans (Nat.le_of_ble_eq_true rfl) hR2) rfl hrm rfl hk ?_
  refine J_perm (ws' := wM G b (upG y 0 (y 2))) ?_ K
  show List.Perm ([(b 3, .inl (G.2.1, 81, .inl (flat (y 2)))), (b 1, .inl (G.2.1, 81, .inl (flat (y 2)))), (b 0, .inr (5, [.ref (b 1), .ref (b 2), .ref (b 3), .int (y 3 1 0), .ref (b 4), .ref (b 5), .int (y 5 2 0), .ref (b 6), .ref (b 7), .int (y 7 1 0), .int (y 6 1 0), .int (y 6 1 1), .int (y 6 1 2), .ref (b 8), .ref (b 9), .ref (b 10), .ref (b 11)])), (b 2, .inl (G.2.1, 81, .inl (flat (y 1))))] ++ [(b 4, .inl (G.2.1, 7, .inl (y 3 0))), (b 5, .inl (G.2.1, 11, .inl (y 5 0))), (b 6, .inl (G.2.1, 11, .inl (y 5 1))), (b 7, .inl (G.2.1, 120, .inl (y 7 0))), (b 8, .inl (G.2.1, 4, .inl (fun k => pick4 k (y 8 1 0) (y 9 1 0) (y 10 1 0) (y 11 1 0)))), (b 9, .inl (G.2.1, 4, .inl (fun k => pick4 k (y 8 1 1) (y 9 1 1) (y 10 1 1) (y 11 1 1)))), (b 10, .inl (G.2.1, 160, .inl (fun k => pick4 (k / 40) (y 8 0 (k % 40)) (y 9 0 (k % 40)) (y 10 0 (k % 40)) (y 11 0 (k % 40))))), (b 11, .inl (G.2.1, 40, .inl (y 5 3)))]) ([(b 0, .inr (5, [.ref (b 1), .ref (b 2), .ref (b 3), .int (y 3 1 0), .ref (b 4), .ref (b 5), .int (y 5 2 0), .ref (b 6), .ref (b 7), .int (y 7 1 0), .int (y 6 1 0), .int (y 6 1 1), .int (y 6 1 2), .ref (b 8), .ref (b 9), .ref (b 10), .ref (b 11)])), (b 1, .inl (G.2.1, 81, .inl (flat (y 2)))), (b 2, .inl (G.2.1, 81, .inl (flat (y 1)))), (b 3, .inl (G.2.1, 81, .inl (flat (y 2))))] ++ [(b 4, .inl (G.2.1, 7, .inl (y 3 0))), (b 5, .inl (G.2.1, 11, .inl (y 5 0))), (b 6, .inl (G.2.1, 11, .inl (y 5 1))), (b 7, .inl (G.2.1, 120, .inl (y 7 0))), (b 8, .inl (G.2.1, 4, .inl (fun k => pick4 k (y 8 1 0) (y 9 1 0) (y 10 1 0) (y 11 1 0)))), (b 9, .inl (G.2.1, 4, .inl (fun k => pick4 k (y 8 1 1) (y 9 1 1) (y 10 1 1) (y 11 1 1)))), (b 10, .inl (G.2.1, 160, .inl (fun k => pick4 (k / 40) (y 8 0 (k % 40)) (y 9 0 (k % 40)) (y 10 0 (k % 40)) (y 11 0 (k % 40))))), (b 11, .inl (G.2.1, 40, .inl (y 5 3)))])
  refine List.Perm.append_right _ ?_
  exact (perm4_20 _ _ _ _).symm
set_option maxHeartbeats 4000000 in
theorem J_m01 (E : JE X l G cc RX6 nL fr lo) {b : Nat → Nat} {y : Q3} (hd : decode cc pc = .ok (.invokestatic 48, 3)) (hR1 : 1 ≤ fr) (hR2 : 22 ≤ lo) (hrm : (rest.map fun v => v.category).sum ≤ 8) (hk : kc ≤ X.1.2.2.2.1.cells ∧ ks ≤ X.1.2.2.2.1.slots) (K : J X G nL kc ks (wM G b (upG y 1 (y 0))) lv (pc + 3) rest) : J X G nL kc ks (wM G b y) lv pc (.ref (b 2) :: .ref (b 1) :: rest) := by
  refine J_perm (ws' := [] ++ ([(b 1, .inl (G.2.1, 81, .inl (flat (y 0)))), (b 2, .inl (G.2.1, 81, .inl (flat (y 1))))] ++ ([(b 0, .inr (5, [.ref (b 1), .ref (b 2), .ref (b 3), .int (y 3 1 0), .ref (b 4), .ref (b 5), .int (y 5 2 0), .ref (b 6), .ref (b 7), .int (y 7 1 0), .int (y 6 1 0), .int (y 6 1 1), .int (y 6 1 2), .ref (b 8), .ref (b 9), .ref (b 10), .ref (b 11)])), (b 3, .inl (G.2.1, 81, .inl (flat (y 2))))] ++ [(b 4, .inl (G.2.1, 7, .inl (y 3 0))), (b 5, .inl (G.2.1, 11, .inl (y 5 0))), (b 6, .inl (G.2.1, 11, .inl (y 5 1))), (b 7, .inl (G.2.1, 120, .inl (y 7 0))), (b 8, .inl (G.2.1, 4, .inl (fun k => pick4 k (y 8 1 0) (y 9 1 0) (y 10 1 0) (y 11 1 0)))), (b 9, .inl (G.2.1, 4, .inl (fun k => pick4 k (y 8 1 1) (y 9 1 1) (y 10 1 1) (y 11 1 1)))), (b 10, .inl (G.2.1, 160, .inl (fun k => pick4 (k / 40) (y 8 0 (k % 40)) (y 9 0 (k % 40)) (y 10 0 (k % 40)) (y 11 0 (k % 40))))), (b 11, .inl (G.2.1, 40, .inl (y 5 3)))]))) ?_ ?_
  · show List.Perm ([(b 0, .inr (5, [.ref (b 1), .ref (b 2), .ref (b 3), .int (y 3 1 0), .ref (b 4), .ref (b 5), .int (y 5 2 0), .ref (b 6), .ref (b 7), .int (y 7 1 0), .int (y 6 1 0), .int (y 6 1 1), .int (y 6 1 2), .ref (b 8), .ref (b 9), .ref (b 10), .ref (b 11)])), (b 1, .inl (G.2.1, 81, .inl (flat (y 0)))), (b 2, .inl (G.2.1, 81, .inl (flat (y 1)))), (b 3, .inl (G.2.1, 81, .inl (flat (y 2))))] ++ [(b 4, .inl (G.2.1, 7, .inl (y 3 0))), (b 5, .inl (G.2.1, 11, .inl (y 5 0))), (b 6, .inl (G.2.1, 11, .inl (y 5 1))), (b 7, .inl (G.2.1, 120, .inl (y 7 0))), (b 8, .inl (G.2.1, 4, .inl (fun k => pick4 k (y 8 1 0) (y 9 1 0) (y 10 1 0) (y 11 1 0)))), (b 9, .inl (G.2.1, 4, .inl (fun k => pick4 k (y 8 1 1) (y 9 1 1) (y 10 1 1) (y 11 1 1)))), (b 10, .inl (G.2.1, 160, .inl (fun k => pick4 (k / 40) (y 8 0 (k % 40)) (y 9 0 (k % 40)) (y 10 0 (k % 40)) (y 11 0 (k % 40))))), (b 11, .inl (G.2.1, 40, .inl (y 5 3)))]) ([(b 1, .inl (G.2.1, 81, .inl (flat (y 0)))), (b 2, .inl (G.2.1, 81, .inl (flat (y 1)))), (b 0, .inr (5, [.ref (b 1), .ref (b 2), .ref (b 3), .int (y 3 1 0), .ref (b 4), .ref (b 5), .int (y 5 2 0), .ref (b 6), .ref (b 7), .int (y 7 1 0), .int (y 6 1 0), .int (y 6 1 1), .int (y 6 1 2), .ref (b 8), .ref (b 9), .ref (b 10), .ref (b 11)])), (b 3, .inl (G.2.1, 81, .inl (flat (y 2))))] ++ [(b 4, .inl (G.2.1, 7, .inl (y 3 0))), (b 5, .inl (G.2.1, 11, .inl (y 5 0))), (b 6, .inl (G.2.1, 11, .inl (y 5 1))), (b 7, .inl (G.2.1, 120, .inl (y 7 0))), (b 8, .inl (G.2.1, 4, .inl (fun k => pick4 k (y 8 1 0) (y 9 1 0) (y 10 1 0) (y 11 1 0)))), (b 9, .inl (G.2.1, 4, .inl (fun k => pick4 k (y 8 1 1) (y 9 1 1) (y 10 1 1) (y 11 1 1)))), (b 10, .inl (G.2.1, 160, .inl (fun k => pick4 (k / 40) (y 8 0 (k % 40)) (y 9 0 (k % 40)) (y 10 0 (k % 40)) (y 11 0 (k % 40))))), (b 11, .inl (G.2.1, 40, .inl (y 5 3)))])
    refine List.Perm.append_right _ ?_
    exact perm4_01 _ _ _ _
  refine J_cSv1 E (As := [.ref (b 1), .ref (b 2)]) [] ([(b 0, .inr (5, [.ref (b 1), .ref (b 2), .ref (b 3), .int (y 3 1 0), .ref (b 4), .ref (b 5), .int (y 5 2 0), .ref (b 6), .ref (b 7), .int (y 7 1 0), .int (y 6 1 0), .int (y 6 1 1), .int (y 6 1 2), .ref (b 8), .ref (b 9), .ref (b 10), .ref (b 11)])), (b 3, .inl (G.2.1, 81, .inl (flat (y 2))))] ++ [(b 4, .inl (G.2.1, 7, .inl (y 3 0))), (b 5, .inl (G.2.1, 11, .inl (y 5 0))), (b 6, .inl (G.2.1, 11, .inl (y 5 1))), (b 7, .inl (G.2.1, 120, .inl (y 7 0))), (b 8, .inl (G.2.1, 4, .inl (fun k => pick4 k (y 8 1 0) (y 9 1 0) (y 10 1 0) (y 11 1 0)))), (b 9, .inl (G.2.1, 4, .inl (fun k => pick4 k (y 8 1 1) (y 9 1 1) (y 10 1 1) (y 11 1 1)))), (b 10, .inl (G.2.1, 160, .inl (fun k => pick4 (k / 40) (y 8 0 (k % 40)) (y 9 0 (k % 40)) (y 10 0 (k % 40)) (y 11 0 (k % 40))))), (b 11, .inl (G.2.1, 40, .inl (y 5 3)))]) (c_X6_become l G (b 1) (b 2) (flat (y 0)) (flat (y 1))) cl_X6_48 yo_X6_become hd rfl (Nat.le_trans (Nat.le_of_ble_eq_true rfl) hR1) (Nat.le_trans (Nat.le_of_ble_eq_true rfl) hR2) rfl hrm rfl hk ?_
  refine J_perm (ws' := wM G b (upG y 1 (y 0))) ?_ K
  show List.Perm ([(b 1, .inl (G.2.1, 81, .inl (flat (y 0)))), (b 2, .inl (G.2.1, 81, .inl (flat (y 0)))), (b 0, .inr (5, [.ref (b 1), .ref (b 2), .ref (b 3), .int (y 3 1 0), .ref (b 4), .ref (b 5), .int (y 5 2 0), .ref (b 6), .ref (b 7), .int (y 7 1 0), .int (y 6 1 0), .int (y 6 1 1), .int (y 6 1 2), .ref (b 8), .ref (b 9), .ref (b 10), .ref (b 11)])), (b 3, .inl (G.2.1, 81, .inl (flat (y 2))))] ++ [(b 4, .inl (G.2.1, 7, .inl (y 3 0))), (b 5, .inl (G.2.1, 11, .inl (y 5 0))), (b 6, .inl (G.2.1, 11, .inl (y 5 1))), (b 7, .inl (G.2.1, 120, .inl (y 7 0))), (b 8, .inl (G.2.1, 4, .inl (fun k => pick4 k (y 8 1 0) (y 9 1 0) (y 10 1 0) (y 11 1 0)))), (b 9, .inl (G.2.1, 4, .inl (fun k => pick4 k (y 8 1 1) (y 9 1 1) (y 10 1 1) (y 11 1 1)))), (b 10, .inl (G.2.1, 160, .inl (fun k => pick4 (k / 40) (y 8 0 (k % 40)) (y 9 0 (k % 40)) (y 10 0 (k % 40)) (y 11 0 (k % 40))))), (b 11, .inl (G.2.1, 40, .inl (y 5 3)))]) ([(b 0, .inr (5, [.ref (b 1), .ref (b 2), .ref (b 3), .int (y 3 1 0), .ref (b 4), .ref (b 5), .int (y 5 2 0), .ref (b 6), .ref (b 7), .int (y 7 1 0), .int (y 6 1 0), .int (y 6 1 1), .int (y 6 1 2), .ref (b 8), .ref (b 9), .ref (b 10), .ref (b 11)])), (b 1, .inl (G.2.1, 81, .inl (flat (y 0)))), (b 2, .inl (G.2.1, 81, .inl (flat (y 0)))), (b 3, .inl (G.2.1, 81, .inl (flat (y 2))))] ++ [(b 4, .inl (G.2.1, 7, .inl (y 3 0))), (b 5, .inl (G.2.1, 11, .inl (y 5 0))), (b 6, .inl (G.2.1, 11, .inl (y 5 1))), (b 7, .inl (G.2.1, 120, .inl (y 7 0))), (b 8, .inl (G.2.1, 4, .inl (fun k => pick4 k (y 8 1 0) (y 9 1 0) (y 10 1 0) (y 11 1 0)))), (b 9, .inl (G.2.1, 4, .inl (fun k => pick4 k (y 8 1 1) (y 9 1 1) (y 10 1 1) (y 11 1 1)))), (b 10, .inl (G.2.1, 160, .inl (fun k => pick4 (k / 40) (y 8 0 (k % 40)) (y 9 0 (k % 40)) (y 10 0 (k % 40)) (y 11 0 (k % 40))))), (b 11, .inl (G.2.1, 40, .inl (y 5 3)))])
  refine List.Perm.append_right _ ?_
  exact (perm4_01 _ _ _ _).symm
set_option maxHeartbeats 4000000 in
theorem J_m10 (E : JE X l G cc RX6 nL fr lo) {b : Nat → Nat} {y : Q3} (hd : decode cc pc = .ok (.invokestatic 48, 3)) (hR1 : 1 ≤ fr) (hR2 : 22 ≤ lo) (hrm : (rest.map fun v => v.category).sum ≤ 8) (hk : kc ≤ X.1.2.2.2.1.cells ∧ ks ≤ X.1.2.2.2.1.slots) (K : J X G nL kc ks (wM G b (upG y 0 (y 1))) lv (pc + 3) rest) : J X G nL kc ks (wM G b y) lv pc (.ref (b 1) :: .ref (b 2) :: rest) := by
  refine J_perm (ws' := [] ++ ([(b 2, .inl (G.2.1, 81, .inl (flat (y 1)))), (b 1, .inl (G.2.1, 81, .inl (flat (y 0))))] ++ ([(b 0, .inr (5, [.ref (b 1), .ref (b 2), .ref (b 3), .int (y 3 1 0), .ref (b 4), .ref (b 5), .int (y 5 2 0), .ref (b 6), .ref (b 7), .int (y 7 1 0), .int (y 6 1 0), .int (y 6 1 1), .int (y 6 1 2), .ref (b 8), .ref (b 9), .ref (b 10), .ref (b 11)])), (b 3, .inl (G.2.1, 81, .inl (flat (y 2))))] ++ [(b 4, .inl (G.2.1, 7, .inl (y 3 0))), (b 5, .inl (G.2.1, 11, .inl (y 5 0))), (b 6, .inl (G.2.1, 11, .inl (y 5 1))), (b 7, .inl (G.2.1, 120, .inl (y 7 0))), (b 8, .inl (G.2.1, 4, .inl (fun k => pick4 k (y 8 1 0) (y 9 1 0) (y 10 1 0) (y 11 1 0)))), (b 9, .inl (G.2.1, 4, .inl (fun k => pick4 k (y 8 1 1) (y 9 1 1) (y 10 1 1) (y 11 1 1)))), (b 10, .inl (G.2.1, 160, .inl (fun k => pick4 (k / 40) (y 8 0 (k % 40)) (y 9 0 (k % 40)) (y 10 0 (k % 40)) (y 11 0 (k % 40))))), (b 11, .inl (G.2.1, 40, .inl (y 5 3)))]))) ?_ ?_
  · show List.Perm ([(b 0, .inr (5, [.ref (b 1), .ref (b 2), .ref (b 3), .int (y 3 1 0), .ref (b 4), .ref (b 5), .int (y 5 2 0), .ref (b 6), .ref (b 7), .int (y 7 1 0), .int (y 6 1 0), .int (y 6 1 1), .int (y 6 1 2), .ref (b 8), .ref (b 9), .ref (b 10), .ref (b 11)])), (b 1, .inl (G.2.1, 81, .inl (flat (y 0)))), (b 2, .inl (G.2.1, 81, .inl (flat (y 1)))), (b 3, .inl (G.2.1, 81, .inl (flat (y 2))))] ++ [(b 4, .inl (G.2.1, 7, .inl (y 3 0))), (b 5, .inl (G.2.1, 11, .inl (y 5 0))), (b 6, .inl (G.2.1, 11, .inl (y 5 1))), (b 7, .inl (G.2.1, 120, .inl (y 7 0))), (b 8, .inl (G.2.1, 4, .inl (fun k => pick4 k (y 8 1 0) (y 9 1 0) (y 10 1 0) (y 11 1 0)))), (b 9, .inl (G.2.1, 4, .inl (fun k => pick4 k (y 8 1 1) (y 9 1 1) (y 10 1 1) (y 11 1 1)))), (b 10, .inl (G.2.1, 160, .inl (fun k => pick4 (k / 40) (y 8 0 (k % 40)) (y 9 0 (k % 40)) (y 10 0 (k % 40)) (y 11 0 (k % 40))))), (b 11, .inl (G.2.1, 40, .inl (y 5 3)))]) ([(b 2, .inl (G.2.1, 81, .inl (flat (y 1)))), (b 1, .inl (G.2.1, 81, .inl (flat (y 0)))), (b 0, .inr (5, [.ref (b 1), .ref (b 2), .ref (b 3), .int (y 3 1 0), .ref (b 4), .ref (b 5), .int (y 5 2 0), .ref (b 6), .ref (b 7), .int (y 7 1 0), .int (y 6 1 0), .int (y 6 1 1), .int (y 6 1 2), .ref (b 8), .ref (b 9), .ref (b 10), .ref (b 11)])), (b 3, .inl (G.2.1, 81, .inl (flat (y 2))))] ++ [(b 4, .inl (G.2.1, 7, .inl (y 3 0))), (b 5, .inl (G.2.1, 11, .inl (y 5 0))), (b 6, .inl (G.2.1, 11, .inl (y 5 1))), (b 7, .inl (G.2.1, 120, .inl (y 7 0))), (b 8, .inl (G.2.1, 4, .inl (fun k => pick4 k (y 8 1 0) (y 9 1 0) (y 10 1 0) (y 11 1 0)))), (b 9, .inl (G.2.1, 4, .inl (fun k => pick4 k (y 8 1 1) (y 9 1 1) (y 10 1 1) (y 11 1 1)))), (b 10, .inl (G.2.1, 160, .inl (fun k => pick4 (k / 40) (y 8 0 (k % 40)) (y 9 0 (k % 40)) (y 10 0 (k % 40)) (y 11 0 (k % 40))))), (b 11, .inl (G.2.1, 40, .inl (y 5 3)))])
    refine List.Perm.append_right _ ?_
    exact perm4_10 _ _ _ _
  refine J_cSv1 E (As := [.ref (b 2), .ref (b 1)]) [] ([(b 0, .inr (5, [.ref (b 1), .ref (b 2), .ref (b 3), .int (y 3 1 0), .ref (b 4), .ref (b 5), .int (y 5 2 0), .ref (b 6), .ref (b 7), .int (y 7 1 0), .int (y 6 1 0), .int (y 6 1 1), .int (y 6 1 2), .ref (b 8), .ref (b 9), .ref (b 10), .ref (b 11)])), (b 3, .inl (G.2.1, 81, .inl (flat (y 2))))] ++ [(b 4, .inl (G.2.1, 7, .inl (y 3 0))), (b 5, .inl (G.2.1, 11, .inl (y 5 0))), (b 6, .inl (G.2.1, 11, .inl (y 5 1))), (b 7, .inl (G.2.1, 120, .inl (y 7 0))), (b 8, .inl (G.2.1, 4, .inl (fun k => pick4 k (y 8 1 0) (y 9 1 0) (y 10 1 0) (y 11 1 0)))), (b 9, .inl (G.2.1, 4, .inl (fun k => pick4 k (y 8 1 1) (y 9 1 1) (y 10 1 1) (y 11 1 1)))), (b 10, .inl (G.2.1, 160, .inl (fun k => pick4 (k / 40) (y 8 0 (k % 40)) (y 9 0 (k % 40)) (y 10 0 (k % 40)) (y 11 0 (k % 40))))), (b 11, .inl (G.2.1, 40, .inl (y 5 3)))]) (c_X6_become l G (b 2) (b 1) (flat (y 1)) (flat (y 0))) cl_X6_48 yo_X6_become hd rfl (Nat.le_trans (Nat.le_of_ble_eq_true rfl) hR1) (Nat.le_trans (Nat.le_of_ble_eq_true rfl) hR2) rfl hrm rfl hk ?_
  refine J_perm (ws' := wM G b (upG y 0 (y 1))) ?_ K
  show List.Perm ([(b 2, .inl (G.2.1, 81, .inl (flat (y 1)))), (b 1, .inl (G.2.1, 81, .inl (flat (y 1)))), (b 0, .inr (5, [.ref (b 1), .ref (b 2), .ref (b 3), .int (y 3 1 0), .ref (b 4), .ref (b 5), .int (y 5 2 0), .ref (b 6), .ref (b 7), .int (y 7 1 0), .int (y 6 1 0), .int (y 6 1 1), .int (y 6 1 2), .ref (b 8), .ref (b 9), .ref (b 10), .ref (b 11)])), (b 3, .inl (G.2.1, 81, .inl (flat (y 2))))] ++ [(b 4, .inl (G.2.1, 7, .inl (y 3 0))), (b 5, .inl (G.2.1, 11, .inl (y 5 0))), (b 6, .inl (G.2.1, 11, .inl (y 5 1))), (b 7, .inl (G.2.1, 120, .inl (y 7 0))), (b 8, .inl (G.2.1, 4, .inl (fun k => pick4 k (y 8 1 0) (y 9 1 0) (y 10 1 0) (y 11 1 0)))), (b 9, .inl (G.2.1, 4, .inl (fun k => pick4 k (y 8 1 1) (y 9 1 1) (y 10 1 1) (y 11 1 1)))), (b 10, .inl (G.2.1, 160, .inl (fun k => pick4 (k / 40) (y 8 0 (k % 40)) (y 9 0 (k % 40)) (y 10 0 (k % 40)) (y 11 0 (k % 40))))), (b 11, .inl (G.2.1, 40, .inl (y 5 3)))]) ([(b 0, .inr (5, [.ref (b 1), .ref (b 2), .ref (b 3), .int (y 3 1 0), .ref (b 4), .ref (b 5), .int (y 5 2 0), .ref (b 6), .ref (b 7), .int (y 7 1 0), .int (y 6 1 0), .int (y 6 1 1), .int (y 6 1 2), .ref (b 8), .ref (b 9), .ref (b 10), .ref (b 11)])), (b 1, .inl (G.2.1, 81, .inl (flat (y 1)))), (b 2, .inl (G.2.1, 81, .inl (flat (y 1)))), (b 3, .inl (G.2.1, 81, .inl (flat (y 2))))] ++ [(b 4, .inl (G.2.1, 7, .inl (y 3 0))), (b 5, .inl (G.2.1, 11, .inl (y 5 0))), (b 6, .inl (G.2.1, 11, .inl (y 5 1))), (b 7, .inl (G.2.1, 120, .inl (y 7 0))), (b 8, .inl (G.2.1, 4, .inl (fun k => pick4 k (y 8 1 0) (y 9 1 0) (y 10 1 0) (y 11 1 0)))), (b 9, .inl (G.2.1, 4, .inl (fun k => pick4 k (y 8 1 1) (y 9 1 1) (y 10 1 1) (y 11 1 1)))), (b 10, .inl (G.2.1, 160, .inl (fun k => pick4 (k / 40) (y 8 0 (k % 40)) (y 9 0 (k % 40)) (y 10 0 (k % 40)) (y 11 0 (k % 40))))), (b 11, .inl (G.2.1, 40, .inl (y 5 3)))])
  refine List.Perm.append_right _ ?_
  exact (perm4_10 _ _ _ _).symm
end LND
set_option maxHeartbeats 4000000 in
set_option maxRecDepth 20000 in
theorem c_X6_lends (l : Launch) (G : GB) (b : Nat → Nat) (y : Q3)  : CV l yX6_lends cX6_lends 1 1 22 0 0 G [.ref (b 0)] (wM G b y) (fun w' => w' = wM G b (upG y 2 (y 0))) := by
  refine CV.mk (own := RX6) (by decide) rfl (Nat.le_of_ble_eq_true rfl) ?_
  intro X E _ _ _ ret
  show J X G 1 0 0 (wM G b y) [(0, .ref (b 0))] 0 []
  refine J_aload_n E dX6_lends_0 rfl 0 rfl ?_
  refine gM0_X6_9 E dX6_lends_1 ?_
  refine J_aload_n E dX6_lends_4 rfl 0 rfl ?_
  refine gM0_X6_16 E dX6_lends_5 ?_
  refine J_m02 E dX6_lends_8 (Nat.le_of_ble_eq_true rfl) (Nat.le_of_ble_eq_true rfl) (Nat.le_of_ble_eq_true rfl) ⟨Nat.zero_le _, Nat.zero_le _⟩ ?_
  exact ret _ _ _ (congrArg (wM G b) (rfl)) dX6_lends_11

set_option maxHeartbeats 4000000 in
set_option maxRecDepth 20000 in
theorem c_X6_laysBack (l : Launch) (G : GB) (b : Nat → Nat) (y : Q3)  : CV l yX6_laysBack cX6_laysBack 1 1 22 0 0 G [.ref (b 0)] (wM G b y) (fun w' => w' = wM G b (upG y 0 (y 2))) := by
  refine CV.mk (own := RX6) (by decide) rfl (Nat.le_of_ble_eq_true rfl) ?_
  intro X E _ _ _ ret
  show J X G 1 0 0 (wM G b y) [(0, .ref (b 0))] 0 []
  refine J_aload_n E dX6_laysBack_0 rfl 0 rfl ?_
  refine gM0_X6_16 E dX6_laysBack_1 ?_
  refine J_aload_n E dX6_laysBack_4 rfl 0 rfl ?_
  refine gM0_X6_9 E dX6_laysBack_5 ?_
  refine J_m20 E dX6_laysBack_8 (Nat.le_of_ble_eq_true rfl) (Nat.le_of_ble_eq_true rfl) (Nat.le_of_ble_eq_true rfl) ⟨Nat.zero_le _, Nat.zero_le _⟩ ?_
  exact ret _ _ _ (congrArg (wM G b) (rfl)) dX6_laysBack_11

set_option maxHeartbeats 4000000 in
set_option maxRecDepth 20000 in
theorem c_X6_its (l : Launch) (G : GB) (b : Nat → Nat) (y : Q3) (h w : Nat) (hh : h < 11) (hw : w < 6) : CI l yX6_its cX6_its 3 .int 0 0 G [.ref (b 0), .int (nI h), .int (nI w)] (wM G b y) (fun vR w' => vR = y 0 w h ∧ w' = wM G b y) := by
  refine CI.mk (own := RX6) (by decide) rfl (Nat.le_of_ble_eq_true rfl) ?_
  intro X E ret
  show J X G 3 0 0 (wM G b y) [(0, .ref (b 0)), (1, .int (nI h)), (2, .int (nI w))] 0 []
  refine J_aload_n E dX6_its_0 rfl 0 rfl ?_
  refine gM0_X6_9 E dX6_its_1 ?_
  refine J_iconst E dX6_its_4 ic_5 ?_
  refine J_bipush E dX6_its_5 bp_6 ?_
  refine J_iload_n E dX6_its_7 rfl 1 rfl ?_
  refine J_imul E dX6_its_8 ?_
  refine J_top (x' := nI (6 * h)) (pk_mul 6 h) ?_
  refine J_iadd E dX6_its_9 ?_
  refine J_top (x' := nI (5 + 6 * h)) (nI_add 5 _) ?_
  refine J_iload_n E dX6_its_10 rfl 2 rfl ?_
  refine J_iadd E dX6_its_11 ?_
  refine J_top (x' := nI (5 + 6 * h + w)) (nI_add _ _) ?_
  refine lMs E (j := (5 + 6 * h + w)) (r := w) (i := h) (at_h hw hh rfl) dX6_its_12 ?_
  exact ret _ _ _ _ ⟨rfl, (congrArg (wM G b) (rfl))⟩ rfl dX6_its_13

set_option maxHeartbeats 4000000 in
set_option maxRecDepth 20000 in
theorem c_X6_sets (l : Launch) (G : GB) (b : Nat → Nat) (y : Q3) (h w : Nat) (v : Int32) (hh : h < 11) (hw : w < 6) : CV l yX6_sets cX6_sets 4 0 0 0 0 G [.ref (b 0), .int (nI h), .int (nI w), .int v] (wM G b y) (fun w' => w' = wM G b (upG y 0 (up2 (y 0) w h v))) := by
  refine CV.mk (own := RX6) (by decide) rfl (Nat.le_of_ble_eq_true rfl) ?_
  intro X E _ _ _ ret
  show J X G 4 0 0 (wM G b y) [(0, .ref (b 0)), (1, .int (nI h)), (2, .int (nI w)), (3, .int v)] 0 []
  refine J_aload_n E dX6_sets_0 rfl 0 rfl ?_
  refine gM0_X6_9 E dX6_sets_1 ?_
  refine J_iconst E dX6_sets_4 ic_5 ?_
  refine J_bipush E dX6_sets_5 bp_6 ?_
  refine J_iload_n E dX6_sets_7 rfl 1 rfl ?_
  refine J_imul E dX6_sets_8 ?_
  refine J_top (x' := nI (6 * h)) (pk_mul 6 h) ?_
  refine J_iadd E dX6_sets_9 ?_
  refine J_top (x' := nI (5 + 6 * h)) (nI_add 5 _) ?_
  refine J_iload_n E dX6_sets_10 rfl 2 rfl ?_
  refine J_iadd E dX6_sets_11 ?_
  refine J_top (x' := nI (5 + 6 * h + w)) (nI_add _ _) ?_
  refine J_iload_n E dX6_sets_12 rfl 3 rfl ?_
  refine sMs E (j := (5 + 6 * h + w)) (r := w) (i := h) (at_h hw hh rfl) dX6_sets_13 ?_
  exact ret _ _ _ (congrArg (wM G b) (rfl)) dX6_sets_14

set_option maxHeartbeats 4000000 in
set_option maxRecDepth 20000 in
theorem c_X6_becomes (l : Launch) (G : GB) (b : Nat → Nat) (y : Q3) (j r i : Nat) (v : Int32) (ha : at81 j r i) : CI l yX6_becomes cX6_becomes 4 .int 0 0 G [.ref (b 0), .int (nI j), .int v] (wM G b y) (fun vR w' => vR = y 0 r i ∧ w' = wM G b (upG y 0 (up2 (y 0) r i v))) := by
  refine CI.mk (own := RX6) (by decide) rfl (Nat.le_of_ble_eq_true rfl) ?_
  intro X E ret
  show J X G 4 0 0 (wM G b y) [(0, .ref (b 0)), (1, .int (nI j)), (2, .int v)] 0 []
  refine J_aload_n E dX6_becomes_0 rfl 0 rfl ?_
  refine gM0_X6_9 E dX6_becomes_1 ?_
  refine J_iload_n E dX6_becomes_4 rfl 1 rfl ?_
  refine lMs E (j := j) (r := r) (i := i) ha dX6_becomes_5 ?_
  refine J_istore_n E (lv' := [(3, .int (y 0 r i)), (0, .ref (b 0)), (1, .int (nI j)), (2, .int v)]) dX6_becomes_6 rfl (by decide) rfl ?_
  refine J_aload_n E dX6_becomes_7 rfl 1 rfl ?_
  refine gM0_X6_9 E dX6_becomes_8 ?_
  refine J_iload_n E dX6_becomes_11 rfl 2 rfl ?_
  refine J_iload_n E dX6_becomes_12 rfl 3 rfl ?_
  refine sMs E (j := j) (r := r) (i := i) ha dX6_becomes_13 ?_
  refine J_iload_n E dX6_becomes_14 rfl 0 rfl ?_
  exact ret _ _ _ _ ⟨rfl, (congrArg (wM G b) (rfl))⟩ rfl dX6_becomes_15

set_option maxHeartbeats 4000000 in
set_option maxRecDepth 20000 in
theorem c_X6_ones (l : Launch) (G : GB) (s : Int32) : CI l yX6_ones cX6_ones 3 .int 0 0 G [.int s] ([]) (fun vR w' => vR = onesF s 11 ∧ w' = []) := by
  refine CI.mk (own := RX6) (by decide) rfl (Nat.le_of_ble_eq_true rfl) ?_
  intro X E ret
  show J X G 3 0 0 ([]) [(0, .int s)] 0 []
  refine J_iconst E dX6_ones_0 ic_0 ?_
  refine J_istore_n E (lv' := [(1, .int 0), (0, .int s)]) dX6_ones_1 rfl (by decide) rfl ?_
  refine J_iconst E dX6_ones_2 ic_0 ?_
  refine J_istore_n E (lv' := [(2, .int 0), (1, .int 0), (0, .int s)]) dX6_ones_3 rfl (by decide) rfl ?_
  have lp4 : ∀ (fu : Nat) (i : Nat) (c : Int32), (i ≤ 11) → (c = onesF s i) → 11 - i < fu → J X G 3 0 0 ([]) [(0, .int s), (1, .int c), (2, .int (nI i))] 4 [] := by
    intro fu
    induction fu with
    | zero => intro i c hi h1 hm; exact absurd hm (Nat.not_lt_zero _)
    | succ fu ih4 =>
      intro i c hi h1 hm
      refine J_iload_n E dX6_ones_4 rfl 2 rfl ?_
      refine J_bipush E dX6_ones_5 bp_11 ?_
      refine J_icmp_ge E (tgt := 24) dX6_ones_7 (by decide) (fun c_7 => ?_) (fun c_7 => ?_)
      · skip
        have n_7 : 11 ≤ i := cmp_le (a := 11) (b := i) (by omega) (by omega) c_7
        refine J_iload_n E dX6_ones_24 rfl 1 rfl ?_
        exact ret _ _ _ _ ⟨by rw [h1, show i = 11 by omega], rfl⟩ rfl dX6_ones_25
      · skip
        have n_7 : ¬ 11 ≤ i := cmp_nle (a := 11) (b := i) (by omega) (by omega) c_7
        refine J_iload_n E dX6_ones_10 rfl 1 rfl ?_
        refine J_iload_n E dX6_ones_11 rfl 0 rfl ?_
        refine J_iload_n E dX6_ones_12 rfl 2 rfl ?_
        refine J_ishr E dX6_ones_13 ?_
        refine J_iconst E dX6_ones_14 ic_1 ?_
        refine J_iand E dX6_ones_15 ?_
        refine J_iadd E dX6_ones_16 ?_
        refine J_istore_n E (lv' := [(1, .int (c + ((s >>> ((nI i) &&& 31)) &&& 1))), (0, .int s), (2, .int (nI i))]) dX6_ones_17 rfl (by decide) rfl ?_
        refine J_iinc E (lv' := [(2, .int (nI (i + 1))), (1, .int (c + ((s >>> ((nI i) &&& 31)) &&& 1))), (0, .int s)]) dX6_ones_18 2 rfl (nI_inc _) (by decide) rfl ?_
        refine J_goto E (tgt := 4) dX6_ones_21 (by decide) ?_
        refine J_lv [2, 1, 0] rfl ?_
        exact ih4 (i + 1) (c + ((s >>> ((nI i) &&& 31)) &&& 1)) (by omega) (by rw [h1]; rfl) (by omega)
  refine J_lv [2, 1, 0] rfl ?_
  exact lp4 _ 0 0 (by omega) rfl (Nat.lt_succ_self _)

set_option maxHeartbeats 4000000 in
set_option maxRecDepth 20000 in
theorem c_X6_aboveOf_0 (l : Launch) (G : GB)  : CI l yX6_aboveOf cX6_aboveOf 1 .int 0 0 G [.int (nI 0)] ([]) (fun vR w' => vR = nI 0 ∧ w' = []) := by
  refine CI.mk (own := RX6) (by decide) rfl (Nat.le_of_ble_eq_true rfl) ?_
  intro X E ret
  show J X G 1 0 0 ([]) [(0, .int (nI 0))] 0 []
  refine J_iload_n E dX6_aboveOf_0 rfl 0 rfl ?_
  refine J_iconst E dX6_aboveOf_1 ic_3 ?_
  refine J_icmp_ne E (tgt := 9) dX6_aboveOf_2 (by decide) (fun c_2 => ?_) (fun c_2 => ?_)
  · skip
    have n_2 : ¬ 0 = 3 := cmp_ne (a := 0) (b := 3) (by omega) (by omega) c_2
    refine J_iload_n E dX6_aboveOf_9 rfl 0 rfl ?_
    refine J_iconst E dX6_aboveOf_10 ic_4 ?_
    refine J_icmp_ne E (tgt := 18) dX6_aboveOf_11 (by decide) (fun c_11 => ?_) (fun c_11 => ?_)
    · skip
      have n_11 : ¬ 0 = 4 := cmp_ne (a := 0) (b := 4) (by omega) (by omega) c_11
      refine J_iload_n E dX6_aboveOf_18 rfl 0 rfl ?_
      refine J_bipush E dX6_aboveOf_19 bp_6 ?_
      refine J_icmp_ne E (tgt := 28) dX6_aboveOf_21 (by decide) (fun c_21 => ?_) (fun c_21 => ?_)
      · skip
        have n_21 : ¬ 0 = 6 := cmp_ne (a := 0) (b := 6) (by omega) (by omega) c_21
        refine J_iconst E dX6_aboveOf_28 ic_0 ?_
        exact ret _ _ _ _ ⟨rfl, rfl⟩ rfl dX6_aboveOf_29
      · skip
        have n_21 : 0 = 6 := cmp_eq (a := 0) (b := 6) (by omega) (by omega) c_21
        exact absurd n_21 (by decide)
    · skip
      have n_11 : 0 = 4 := cmp_eq (a := 0) (b := 4) (by omega) (by omega) c_11
      exact absurd n_11 (by decide)
  · skip
    have n_2 : 0 = 3 := cmp_eq (a := 0) (b := 3) (by omega) (by omega) c_2
    exact absurd n_2 (by decide)

set_option maxHeartbeats 4000000 in
set_option maxRecDepth 20000 in
theorem c_X6_aboveOf_1 (l : Launch) (G : GB)  : CI l yX6_aboveOf cX6_aboveOf 1 .int 0 0 G [.int (nI 1)] ([]) (fun vR w' => vR = nI 0 ∧ w' = []) := by
  refine CI.mk (own := RX6) (by decide) rfl (Nat.le_of_ble_eq_true rfl) ?_
  intro X E ret
  show J X G 1 0 0 ([]) [(0, .int (nI 1))] 0 []
  refine J_iload_n E dX6_aboveOf_0 rfl 0 rfl ?_
  refine J_iconst E dX6_aboveOf_1 ic_3 ?_
  refine J_icmp_ne E (tgt := 9) dX6_aboveOf_2 (by decide) (fun c_2 => ?_) (fun c_2 => ?_)
  · skip
    have n_2 : ¬ 1 = 3 := cmp_ne (a := 1) (b := 3) (by omega) (by omega) c_2
    refine J_iload_n E dX6_aboveOf_9 rfl 0 rfl ?_
    refine J_iconst E dX6_aboveOf_10 ic_4 ?_
    refine J_icmp_ne E (tgt := 18) dX6_aboveOf_11 (by decide) (fun c_11 => ?_) (fun c_11 => ?_)
    · skip
      have n_11 : ¬ 1 = 4 := cmp_ne (a := 1) (b := 4) (by omega) (by omega) c_11
      refine J_iload_n E dX6_aboveOf_18 rfl 0 rfl ?_
      refine J_bipush E dX6_aboveOf_19 bp_6 ?_
      refine J_icmp_ne E (tgt := 28) dX6_aboveOf_21 (by decide) (fun c_21 => ?_) (fun c_21 => ?_)
      · skip
        have n_21 : ¬ 1 = 6 := cmp_ne (a := 1) (b := 6) (by omega) (by omega) c_21
        refine J_iconst E dX6_aboveOf_28 ic_0 ?_
        exact ret _ _ _ _ ⟨rfl, rfl⟩ rfl dX6_aboveOf_29
      · skip
        have n_21 : 1 = 6 := cmp_eq (a := 1) (b := 6) (by omega) (by omega) c_21
        exact absurd n_21 (by decide)
    · skip
      have n_11 : 1 = 4 := cmp_eq (a := 1) (b := 4) (by omega) (by omega) c_11
      exact absurd n_11 (by decide)
  · skip
    have n_2 : 1 = 3 := cmp_eq (a := 1) (b := 3) (by omega) (by omega) c_2
    exact absurd n_2 (by decide)

set_option maxHeartbeats 4000000 in
set_option maxRecDepth 20000 in
theorem c_X6_aboveOf_2 (l : Launch) (G : GB)  : CI l yX6_aboveOf cX6_aboveOf 1 .int 0 0 G [.int (nI 2)] ([]) (fun vR w' => vR = nI 0 ∧ w' = []) := by
  refine CI.mk (own := RX6) (by decide) rfl (Nat.le_of_ble_eq_true rfl) ?_
  intro X E ret
  show J X G 1 0 0 ([]) [(0, .int (nI 2))] 0 []
  refine J_iload_n E dX6_aboveOf_0 rfl 0 rfl ?_
  refine J_iconst E dX6_aboveOf_1 ic_3 ?_
  refine J_icmp_ne E (tgt := 9) dX6_aboveOf_2 (by decide) (fun c_2 => ?_) (fun c_2 => ?_)
  · skip
    have n_2 : ¬ 2 = 3 := cmp_ne (a := 2) (b := 3) (by omega) (by omega) c_2
    refine J_iload_n E dX6_aboveOf_9 rfl 0 rfl ?_
    refine J_iconst E dX6_aboveOf_10 ic_4 ?_
    refine J_icmp_ne E (tgt := 18) dX6_aboveOf_11 (by decide) (fun c_11 => ?_) (fun c_11 => ?_)
    · skip
      have n_11 : ¬ 2 = 4 := cmp_ne (a := 2) (b := 4) (by omega) (by omega) c_11
      refine J_iload_n E dX6_aboveOf_18 rfl 0 rfl ?_
      refine J_bipush E dX6_aboveOf_19 bp_6 ?_
      refine J_icmp_ne E (tgt := 28) dX6_aboveOf_21 (by decide) (fun c_21 => ?_) (fun c_21 => ?_)
      · skip
        have n_21 : ¬ 2 = 6 := cmp_ne (a := 2) (b := 6) (by omega) (by omega) c_21
        refine J_iconst E dX6_aboveOf_28 ic_0 ?_
        exact ret _ _ _ _ ⟨rfl, rfl⟩ rfl dX6_aboveOf_29
      · skip
        have n_21 : 2 = 6 := cmp_eq (a := 2) (b := 6) (by omega) (by omega) c_21
        exact absurd n_21 (by decide)
    · skip
      have n_11 : 2 = 4 := cmp_eq (a := 2) (b := 4) (by omega) (by omega) c_11
      exact absurd n_11 (by decide)
  · skip
    have n_2 : 2 = 3 := cmp_eq (a := 2) (b := 3) (by omega) (by omega) c_2
    exact absurd n_2 (by decide)

set_option maxHeartbeats 4000000 in
set_option maxRecDepth 20000 in
theorem c_X6_aboveOf_3 (l : Launch) (G : GB)  : CI l yX6_aboveOf cX6_aboveOf 1 .int 0 0 G [.int (nI 3)] ([]) (fun vR w' => vR = nI 2 ∧ w' = []) := by
  refine CI.mk (own := RX6) (by decide) rfl (Nat.le_of_ble_eq_true rfl) ?_
  intro X E ret
  show J X G 1 0 0 ([]) [(0, .int (nI 3))] 0 []
  refine J_iload_n E dX6_aboveOf_0 rfl 0 rfl ?_
  refine J_iconst E dX6_aboveOf_1 ic_3 ?_
  refine J_icmp_ne E (tgt := 9) dX6_aboveOf_2 (by decide) (fun c_2 => ?_) (fun c_2 => ?_)
  · skip
    have n_2 : ¬ 3 = 3 := cmp_ne (a := 3) (b := 3) (by omega) (by omega) c_2
    exact absurd n_2 (by decide)
  · skip
    have n_2 : 3 = 3 := cmp_eq (a := 3) (b := 3) (by omega) (by omega) c_2
    refine J_iconst E dX6_aboveOf_5 ic_2 ?_
    refine J_goto E (tgt := 29) dX6_aboveOf_6 (by decide) ?_
    exact ret _ _ _ _ ⟨rfl, rfl⟩ rfl dX6_aboveOf_29

set_option maxHeartbeats 4000000 in
set_option maxRecDepth 20000 in
theorem c_X6_aboveOf_4 (l : Launch) (G : GB)  : CI l yX6_aboveOf cX6_aboveOf 1 .int 0 0 G [.int (nI 4)] ([]) (fun vR w' => vR = nI 3 ∧ w' = []) := by
  refine CI.mk (own := RX6) (by decide) rfl (Nat.le_of_ble_eq_true rfl) ?_
  intro X E ret
  show J X G 1 0 0 ([]) [(0, .int (nI 4))] 0 []
  refine J_iload_n E dX6_aboveOf_0 rfl 0 rfl ?_
  refine J_iconst E dX6_aboveOf_1 ic_3 ?_
  refine J_icmp_ne E (tgt := 9) dX6_aboveOf_2 (by decide) (fun c_2 => ?_) (fun c_2 => ?_)
  · skip
    have n_2 : ¬ 4 = 3 := cmp_ne (a := 4) (b := 3) (by omega) (by omega) c_2
    refine J_iload_n E dX6_aboveOf_9 rfl 0 rfl ?_
    refine J_iconst E dX6_aboveOf_10 ic_4 ?_
    refine J_icmp_ne E (tgt := 18) dX6_aboveOf_11 (by decide) (fun c_11 => ?_) (fun c_11 => ?_)
    · skip
      have n_11 : ¬ 4 = 4 := cmp_ne (a := 4) (b := 4) (by omega) (by omega) c_11
      exact absurd n_11 (by decide)
    · skip
      have n_11 : 4 = 4 := cmp_eq (a := 4) (b := 4) (by omega) (by omega) c_11
      refine J_iconst E dX6_aboveOf_14 ic_3 ?_
      refine J_goto E (tgt := 29) dX6_aboveOf_15 (by decide) ?_
      exact ret _ _ _ _ ⟨rfl, rfl⟩ rfl dX6_aboveOf_29
  · skip
    have n_2 : 4 = 3 := cmp_eq (a := 4) (b := 3) (by omega) (by omega) c_2
    exact absurd n_2 (by decide)

set_option maxHeartbeats 4000000 in
set_option maxRecDepth 20000 in
theorem c_X6_aboveOf_5 (l : Launch) (G : GB)  : CI l yX6_aboveOf cX6_aboveOf 1 .int 0 0 G [.int (nI 5)] ([]) (fun vR w' => vR = nI 0 ∧ w' = []) := by
  refine CI.mk (own := RX6) (by decide) rfl (Nat.le_of_ble_eq_true rfl) ?_
  intro X E ret
  show J X G 1 0 0 ([]) [(0, .int (nI 5))] 0 []
  refine J_iload_n E dX6_aboveOf_0 rfl 0 rfl ?_
  refine J_iconst E dX6_aboveOf_1 ic_3 ?_
  refine J_icmp_ne E (tgt := 9) dX6_aboveOf_2 (by decide) (fun c_2 => ?_) (fun c_2 => ?_)
  · skip
    have n_2 : ¬ 5 = 3 := cmp_ne (a := 5) (b := 3) (by omega) (by omega) c_2
    refine J_iload_n E dX6_aboveOf_9 rfl 0 rfl ?_
    refine J_iconst E dX6_aboveOf_10 ic_4 ?_
    refine J_icmp_ne E (tgt := 18) dX6_aboveOf_11 (by decide) (fun c_11 => ?_) (fun c_11 => ?_)
    · skip
      have n_11 : ¬ 5 = 4 := cmp_ne (a := 5) (b := 4) (by omega) (by omega) c_11
      refine J_iload_n E dX6_aboveOf_18 rfl 0 rfl ?_
      refine J_bipush E dX6_aboveOf_19 bp_6 ?_
      refine J_icmp_ne E (tgt := 28) dX6_aboveOf_21 (by decide) (fun c_21 => ?_) (fun c_21 => ?_)
      · skip
        have n_21 : ¬ 5 = 6 := cmp_ne (a := 5) (b := 6) (by omega) (by omega) c_21
        refine J_iconst E dX6_aboveOf_28 ic_0 ?_
        exact ret _ _ _ _ ⟨rfl, rfl⟩ rfl dX6_aboveOf_29
      · skip
        have n_21 : 5 = 6 := cmp_eq (a := 5) (b := 6) (by omega) (by omega) c_21
        exact absurd n_21 (by decide)
    · skip
      have n_11 : 5 = 4 := cmp_eq (a := 5) (b := 4) (by omega) (by omega) c_11
      exact absurd n_11 (by decide)
  · skip
    have n_2 : 5 = 3 := cmp_eq (a := 5) (b := 3) (by omega) (by omega) c_2
    exact absurd n_2 (by decide)

set_option maxHeartbeats 4000000 in
set_option maxRecDepth 20000 in
theorem c_X6_aboveOf_6 (l : Launch) (G : GB)  : CI l yX6_aboveOf cX6_aboveOf 1 .int 0 0 G [.int (nI 6)] ([]) (fun vR w' => vR = nI 1 ∧ w' = []) := by
  refine CI.mk (own := RX6) (by decide) rfl (Nat.le_of_ble_eq_true rfl) ?_
  intro X E ret
  show J X G 1 0 0 ([]) [(0, .int (nI 6))] 0 []
  refine J_iload_n E dX6_aboveOf_0 rfl 0 rfl ?_
  refine J_iconst E dX6_aboveOf_1 ic_3 ?_
  refine J_icmp_ne E (tgt := 9) dX6_aboveOf_2 (by decide) (fun c_2 => ?_) (fun c_2 => ?_)
  · skip
    have n_2 : ¬ 6 = 3 := cmp_ne (a := 6) (b := 3) (by omega) (by omega) c_2
    refine J_iload_n E dX6_aboveOf_9 rfl 0 rfl ?_
    refine J_iconst E dX6_aboveOf_10 ic_4 ?_
    refine J_icmp_ne E (tgt := 18) dX6_aboveOf_11 (by decide) (fun c_11 => ?_) (fun c_11 => ?_)
    · skip
      have n_11 : ¬ 6 = 4 := cmp_ne (a := 6) (b := 4) (by omega) (by omega) c_11
      refine J_iload_n E dX6_aboveOf_18 rfl 0 rfl ?_
      refine J_bipush E dX6_aboveOf_19 bp_6 ?_
      refine J_icmp_ne E (tgt := 28) dX6_aboveOf_21 (by decide) (fun c_21 => ?_) (fun c_21 => ?_)
      · skip
        have n_21 : ¬ 6 = 6 := cmp_ne (a := 6) (b := 6) (by omega) (by omega) c_21
        exact absurd n_21 (by decide)
      · skip
        have n_21 : 6 = 6 := cmp_eq (a := 6) (b := 6) (by omega) (by omega) c_21
        refine J_iconst E dX6_aboveOf_24 ic_1 ?_
        refine J_goto E (tgt := 29) dX6_aboveOf_25 (by decide) ?_
        exact ret _ _ _ _ ⟨rfl, rfl⟩ rfl dX6_aboveOf_29
    · skip
      have n_11 : 6 = 4 := cmp_eq (a := 6) (b := 4) (by omega) (by omega) c_11
      exact absurd n_11 (by decide)
  · skip
    have n_2 : 6 = 3 := cmp_eq (a := 6) (b := 3) (by omega) (by omega) c_2
    exact absurd n_2 (by decide)

set_option maxHeartbeats 4000000 in
set_option maxRecDepth 20000 in
theorem c_X6_isUnder (l : Launch) (G : GB) (k o : Nat) (hk : k < 7) (ho : o < 7) : CI l yX6_isUnder cX6_isUnder 3 .boolean 1 20 G [.int (nI k), .int (nI o)] ([]) (fun vR w' => vR = bI (undF k o = true) ∧ w' = []) := by
  refine CI.mk (own := RX6) (by decide) rfl (Nat.le_of_ble_eq_true rfl) ?_
  intro X E ret
  show J X G 3 0 0 ([]) [(0, .int (nI k)), (1, .int (nI o))] 0 []
  rcases (show k = 0 ∨ k = 1 ∨ k = 2 ∨ k = 3 ∨ k = 4 ∨ k = 5 ∨ k = 6 by omega) with rfl | rfl | rfl | rfl | rfl | rfl | rfl
  · skip
    refine J_iload_n E dX6_isUnder_0 rfl 0 rfl ?_
    refine J_istore_n E (lv' := [(2, .int (nI 0)), (0, .int (nI 0)), (1, .int (nI o))]) dX6_isUnder_1 rfl (by decide) rfl ?_
    refine J_iload_n E dX6_isUnder_2 rfl 0 rfl ?_
    refine J_if_eq E (tgt := 19) dX6_isUnder_3 (by decide) (fun c_3 => ?_) (fun c_3 => ?_)
    · skip
      have n_3 : 0 = 0 := cmp_eq (a := 0) (b := 0) (by omega) (by omega) c_3
      refine J_iload_n E dX6_isUnder_19 rfl 0 rfl ?_
      refine J_iload_n E dX6_isUnder_20 rfl 2 rfl ?_
      refine J_icmp_ne E (tgt := 28) dX6_isUnder_21 (by decide) (fun c_21 => ?_) (fun c_21 => ?_)
      · skip
        have n_21 : ¬ 0 = o := cmp_ne (a := 0) (b := o) (by omega) (by omega) c_21
        refine J_iconst E dX6_isUnder_28 ic_0 ?_
        exact ret _ _ _ _ ⟨by first | (rw [bI_t]; simp [undF]; omega) | (rw [bI_f]; simp [undF]; omega), rfl⟩ rfl dX6_isUnder_29
      · skip
        have n_21 : 0 = o := cmp_eq (a := 0) (b := o) (by omega) (by omega) c_21
        refine J_iconst E dX6_isUnder_24 ic_1 ?_
        refine J_goto E (tgt := 29) dX6_isUnder_25 (by decide) ?_
        exact ret _ _ _ _ ⟨by first | (rw [bI_t]; simp [undF]; omega) | (rw [bI_f]; simp [undF]; omega), rfl⟩ rfl dX6_isUnder_29
    · skip
      have n_3 : ¬ 0 = 0 := cmp_ne (a := 0) (b := 0) (by omega) (by omega) c_3
      exact absurd n_3 (by decide)
  · skip
    refine J_iload_n E dX6_isUnder_0 rfl 0 rfl ?_
    refine J_istore_n E (lv' := [(2, .int (nI 1)), (0, .int (nI 1)), (1, .int (nI o))]) dX6_isUnder_1 rfl (by decide) rfl ?_
    refine J_iload_n E dX6_isUnder_2 rfl 0 rfl ?_
    refine J_if_eq E (tgt := 19) dX6_isUnder_3 (by decide) (fun c_3 => ?_) (fun c_3 => ?_)
    · skip
      have n_3 : 1 = 0 := cmp_eq (a := 1) (b := 0) (by omega) (by omega) c_3
      exact absurd n_3 (by decide)
    · skip
      have n_3 : ¬ 1 = 0 := cmp_ne (a := 1) (b := 0) (by omega) (by omega) c_3
      refine J_iload_n E dX6_isUnder_6 rfl 0 rfl ?_
      refine J_iload_n E dX6_isUnder_7 rfl 2 rfl ?_
      refine J_icmp_eq E (tgt := 19) dX6_isUnder_8 (by decide) (fun c_8 => ?_) (fun c_8 => ?_)
      · skip
        have n_8 : 1 = o := cmp_eq (a := 1) (b := o) (by omega) (by omega) c_8
        refine J_iload_n E dX6_isUnder_19 rfl 0 rfl ?_
        refine J_iload_n E dX6_isUnder_20 rfl 2 rfl ?_
        refine J_icmp_ne E (tgt := 28) dX6_isUnder_21 (by decide) (fun c_21 => ?_) (fun c_21 => ?_)
        · skip
          have n_21 : ¬ 1 = o := cmp_ne (a := 1) (b := o) (by omega) (by omega) c_21
          refine J_iconst E dX6_isUnder_28 ic_0 ?_
          exact ret _ _ _ _ ⟨by first | (rw [bI_t]; simp [undF]; omega) | (rw [bI_f]; simp [undF]; omega), rfl⟩ rfl dX6_isUnder_29
        · skip
          have n_21 : 1 = o := cmp_eq (a := 1) (b := o) (by omega) (by omega) c_21
          refine J_iconst E dX6_isUnder_24 ic_1 ?_
          refine J_goto E (tgt := 29) dX6_isUnder_25 (by decide) ?_
          exact ret _ _ _ _ ⟨by first | (rw [bI_t]; simp [undF]; omega) | (rw [bI_f]; simp [undF]; omega), rfl⟩ rfl dX6_isUnder_29
      · skip
        have n_8 : ¬ 1 = o := cmp_ne (a := 1) (b := o) (by omega) (by omega) c_8
        refine J_iload_n E dX6_isUnder_11 rfl 0 rfl ?_
        refine J_cSiN E (As := [.int (nI 1)]) (c_X6_aboveOf_1 l G ) cl_X6_58 yo_X6_aboveOf dX6_isUnder_12 rfl (Nat.le_of_ble_eq_true rfl) (Nat.le_of_ble_eq_true rfl) rfl (Nat.le_of_ble_eq_true rfl) ⟨Nat.zero_le _, Nat.zero_le _⟩ ?_
        refine J_istore_n E (lv' := [(2, .int (nI 0)), (0, .int (nI 1)), (1, .int (nI o))]) dX6_isUnder_15 rfl (by decide) rfl ?_
        refine J_goto E (tgt := 2) dX6_isUnder_16 (by decide) ?_
        refine J_iload_n E dX6_isUnder_2 rfl 0 rfl ?_
        refine J_if_eq E (tgt := 19) dX6_isUnder_3 (by decide) (fun c_3 => ?_) (fun c_3 => ?_)
        · skip
          have n_3 : 0 = 0 := cmp_eq (a := 0) (b := 0) (by omega) (by omega) c_3
          refine J_iload_n E dX6_isUnder_19 rfl 0 rfl ?_
          refine J_iload_n E dX6_isUnder_20 rfl 2 rfl ?_
          refine J_icmp_ne E (tgt := 28) dX6_isUnder_21 (by decide) (fun c_21 => ?_) (fun c_21 => ?_)
          · skip
            have n_21 : ¬ 0 = o := cmp_ne (a := 0) (b := o) (by omega) (by omega) c_21
            refine J_iconst E dX6_isUnder_28 ic_0 ?_
            exact ret _ _ _ _ ⟨by first | (rw [bI_t]; simp [undF]; omega) | (rw [bI_f]; simp [undF]; omega), rfl⟩ rfl dX6_isUnder_29
          · skip
            have n_21 : 0 = o := cmp_eq (a := 0) (b := o) (by omega) (by omega) c_21
            refine J_iconst E dX6_isUnder_24 ic_1 ?_
            refine J_goto E (tgt := 29) dX6_isUnder_25 (by decide) ?_
            exact ret _ _ _ _ ⟨by first | (rw [bI_t]; simp [undF]; omega) | (rw [bI_f]; simp [undF]; omega), rfl⟩ rfl dX6_isUnder_29
        · skip
          have n_3 : ¬ 0 = 0 := cmp_ne (a := 0) (b := 0) (by omega) (by omega) c_3
          exact absurd n_3 (by decide)
  · skip
    refine J_iload_n E dX6_isUnder_0 rfl 0 rfl ?_
    refine J_istore_n E (lv' := [(2, .int (nI 2)), (0, .int (nI 2)), (1, .int (nI o))]) dX6_isUnder_1 rfl (by decide) rfl ?_
    refine J_iload_n E dX6_isUnder_2 rfl 0 rfl ?_
    refine J_if_eq E (tgt := 19) dX6_isUnder_3 (by decide) (fun c_3 => ?_) (fun c_3 => ?_)
    · skip
      have n_3 : 2 = 0 := cmp_eq (a := 2) (b := 0) (by omega) (by omega) c_3
      exact absurd n_3 (by decide)
    · skip
      have n_3 : ¬ 2 = 0 := cmp_ne (a := 2) (b := 0) (by omega) (by omega) c_3
      refine J_iload_n E dX6_isUnder_6 rfl 0 rfl ?_
      refine J_iload_n E dX6_isUnder_7 rfl 2 rfl ?_
      refine J_icmp_eq E (tgt := 19) dX6_isUnder_8 (by decide) (fun c_8 => ?_) (fun c_8 => ?_)
      · skip
        have n_8 : 2 = o := cmp_eq (a := 2) (b := o) (by omega) (by omega) c_8
        refine J_iload_n E dX6_isUnder_19 rfl 0 rfl ?_
        refine J_iload_n E dX6_isUnder_20 rfl 2 rfl ?_
        refine J_icmp_ne E (tgt := 28) dX6_isUnder_21 (by decide) (fun c_21 => ?_) (fun c_21 => ?_)
        · skip
          have n_21 : ¬ 2 = o := cmp_ne (a := 2) (b := o) (by omega) (by omega) c_21
          refine J_iconst E dX6_isUnder_28 ic_0 ?_
          exact ret _ _ _ _ ⟨by first | (rw [bI_t]; simp [undF]; omega) | (rw [bI_f]; simp [undF]; omega), rfl⟩ rfl dX6_isUnder_29
        · skip
          have n_21 : 2 = o := cmp_eq (a := 2) (b := o) (by omega) (by omega) c_21
          refine J_iconst E dX6_isUnder_24 ic_1 ?_
          refine J_goto E (tgt := 29) dX6_isUnder_25 (by decide) ?_
          exact ret _ _ _ _ ⟨by first | (rw [bI_t]; simp [undF]; omega) | (rw [bI_f]; simp [undF]; omega), rfl⟩ rfl dX6_isUnder_29
      · skip
        have n_8 : ¬ 2 = o := cmp_ne (a := 2) (b := o) (by omega) (by omega) c_8
        refine J_iload_n E dX6_isUnder_11 rfl 0 rfl ?_
        refine J_cSiN E (As := [.int (nI 2)]) (c_X6_aboveOf_2 l G ) cl_X6_58 yo_X6_aboveOf dX6_isUnder_12 rfl (Nat.le_of_ble_eq_true rfl) (Nat.le_of_ble_eq_true rfl) rfl (Nat.le_of_ble_eq_true rfl) ⟨Nat.zero_le _, Nat.zero_le _⟩ ?_
        refine J_istore_n E (lv' := [(2, .int (nI 0)), (0, .int (nI 2)), (1, .int (nI o))]) dX6_isUnder_15 rfl (by decide) rfl ?_
        refine J_goto E (tgt := 2) dX6_isUnder_16 (by decide) ?_
        refine J_iload_n E dX6_isUnder_2 rfl 0 rfl ?_
        refine J_if_eq E (tgt := 19) dX6_isUnder_3 (by decide) (fun c_3 => ?_) (fun c_3 => ?_)
        · skip
          have n_3 : 0 = 0 := cmp_eq (a := 0) (b := 0) (by omega) (by omega) c_3
          refine J_iload_n E dX6_isUnder_19 rfl 0 rfl ?_
          refine J_iload_n E dX6_isUnder_20 rfl 2 rfl ?_
          refine J_icmp_ne E (tgt := 28) dX6_isUnder_21 (by decide) (fun c_21 => ?_) (fun c_21 => ?_)
          · skip
            have n_21 : ¬ 0 = o := cmp_ne (a := 0) (b := o) (by omega) (by omega) c_21
            refine J_iconst E dX6_isUnder_28 ic_0 ?_
            exact ret _ _ _ _ ⟨by first | (rw [bI_t]; simp [undF]; omega) | (rw [bI_f]; simp [undF]; omega), rfl⟩ rfl dX6_isUnder_29
          · skip
            have n_21 : 0 = o := cmp_eq (a := 0) (b := o) (by omega) (by omega) c_21
            refine J_iconst E dX6_isUnder_24 ic_1 ?_
            refine J_goto E (tgt := 29) dX6_isUnder_25 (by decide) ?_
            exact ret _ _ _ _ ⟨by first | (rw [bI_t]; simp [undF]; omega) | (rw [bI_f]; simp [undF]; omega), rfl⟩ rfl dX6_isUnder_29
        · skip
          have n_3 : ¬ 0 = 0 := cmp_ne (a := 0) (b := 0) (by omega) (by omega) c_3
          exact absurd n_3 (by decide)
  · skip
    refine J_iload_n E dX6_isUnder_0 rfl 0 rfl ?_
    refine J_istore_n E (lv' := [(2, .int (nI 3)), (0, .int (nI 3)), (1, .int (nI o))]) dX6_isUnder_1 rfl (by decide) rfl ?_
    refine J_iload_n E dX6_isUnder_2 rfl 0 rfl ?_
    refine J_if_eq E (tgt := 19) dX6_isUnder_3 (by decide) (fun c_3 => ?_) (fun c_3 => ?_)
    · skip
      have n_3 : 3 = 0 := cmp_eq (a := 3) (b := 0) (by omega) (by omega) c_3
      exact absurd n_3 (by decide)
    · skip
      have n_3 : ¬ 3 = 0 := cmp_ne (a := 3) (b := 0) (by omega) (by omega) c_3
      refine J_iload_n E dX6_isUnder_6 rfl 0 rfl ?_
      refine J_iload_n E dX6_isUnder_7 rfl 2 rfl ?_
      refine J_icmp_eq E (tgt := 19) dX6_isUnder_8 (by decide) (fun c_8 => ?_) (fun c_8 => ?_)
      · skip
        have n_8 : 3 = o := cmp_eq (a := 3) (b := o) (by omega) (by omega) c_8
        refine J_iload_n E dX6_isUnder_19 rfl 0 rfl ?_
        refine J_iload_n E dX6_isUnder_20 rfl 2 rfl ?_
        refine J_icmp_ne E (tgt := 28) dX6_isUnder_21 (by decide) (fun c_21 => ?_) (fun c_21 => ?_)
        · skip
          have n_21 : ¬ 3 = o := cmp_ne (a := 3) (b := o) (by omega) (by omega) c_21
          refine J_iconst E dX6_isUnder_28 ic_0 ?_
          exact ret _ _ _ _ ⟨by first | (rw [bI_t]; simp [undF]; omega) | (rw [bI_f]; simp [undF]; omega), rfl⟩ rfl dX6_isUnder_29
        · skip
          have n_21 : 3 = o := cmp_eq (a := 3) (b := o) (by omega) (by omega) c_21
          refine J_iconst E dX6_isUnder_24 ic_1 ?_
          refine J_goto E (tgt := 29) dX6_isUnder_25 (by decide) ?_
          exact ret _ _ _ _ ⟨by first | (rw [bI_t]; simp [undF]; omega) | (rw [bI_f]; simp [undF]; omega), rfl⟩ rfl dX6_isUnder_29
      · skip
        have n_8 : ¬ 3 = o := cmp_ne (a := 3) (b := o) (by omega) (by omega) c_8
        refine J_iload_n E dX6_isUnder_11 rfl 0 rfl ?_
        refine J_cSiN E (As := [.int (nI 3)]) (c_X6_aboveOf_3 l G ) cl_X6_58 yo_X6_aboveOf dX6_isUnder_12 rfl (Nat.le_of_ble_eq_true rfl) (Nat.le_of_ble_eq_true rfl) rfl (Nat.le_of_ble_eq_true rfl) ⟨Nat.zero_le _, Nat.zero_le _⟩ ?_
        refine J_istore_n E (lv' := [(2, .int (nI 2)), (0, .int (nI 3)), (1, .int (nI o))]) dX6_isUnder_15 rfl (by decide) rfl ?_
        refine J_goto E (tgt := 2) dX6_isUnder_16 (by decide) ?_
        refine J_iload_n E dX6_isUnder_2 rfl 0 rfl ?_
        refine J_if_eq E (tgt := 19) dX6_isUnder_3 (by decide) (fun c_3 => ?_) (fun c_3 => ?_)
        · skip
          have n_3 : 2 = 0 := cmp_eq (a := 2) (b := 0) (by omega) (by omega) c_3
          exact absurd n_3 (by decide)
        · skip
          have n_3 : ¬ 2 = 0 := cmp_ne (a := 2) (b := 0) (by omega) (by omega) c_3
          refine J_iload_n E dX6_isUnder_6 rfl 0 rfl ?_
          refine J_iload_n E dX6_isUnder_7 rfl 2 rfl ?_
          refine J_icmp_eq E (tgt := 19) dX6_isUnder_8 (by decide) (fun c_8 => ?_) (fun c_8 => ?_)
          · skip
            have n_8 : 2 = o := cmp_eq (a := 2) (b := o) (by omega) (by omega) c_8
            refine J_iload_n E dX6_isUnder_19 rfl 0 rfl ?_
            refine J_iload_n E dX6_isUnder_20 rfl 2 rfl ?_
            refine J_icmp_ne E (tgt := 28) dX6_isUnder_21 (by decide) (fun c_21 => ?_) (fun c_21 => ?_)
            · skip
              have n_21 : ¬ 2 = o := cmp_ne (a := 2) (b := o) (by omega) (by omega) c_21
              refine J_iconst E dX6_isUnder_28 ic_0 ?_
              exact ret _ _ _ _ ⟨by first | (rw [bI_t]; simp [undF]; omega) | (rw [bI_f]; simp [undF]; omega), rfl⟩ rfl dX6_isUnder_29
            · skip
              have n_21 : 2 = o := cmp_eq (a := 2) (b := o) (by omega) (by omega) c_21
              refine J_iconst E dX6_isUnder_24 ic_1 ?_
              refine J_goto E (tgt := 29) dX6_isUnder_25 (by decide) ?_
              exact ret _ _ _ _ ⟨by first | (rw [bI_t]; simp [undF]; omega) | (rw [bI_f]; simp [undF]; omega), rfl⟩ rfl dX6_isUnder_29
          · skip
            have n_8 : ¬ 2 = o := cmp_ne (a := 2) (b := o) (by omega) (by omega) c_8
            refine J_iload_n E dX6_isUnder_11 rfl 0 rfl ?_
            refine J_cSiN E (As := [.int (nI 2)]) (c_X6_aboveOf_2 l G ) cl_X6_58 yo_X6_aboveOf dX6_isUnder_12 rfl (Nat.le_of_ble_eq_true rfl) (Nat.le_of_ble_eq_true rfl) rfl (Nat.le_of_ble_eq_true rfl) ⟨Nat.zero_le _, Nat.zero_le _⟩ ?_
            refine J_istore_n E (lv' := [(2, .int (nI 0)), (0, .int (nI 3)), (1, .int (nI o))]) dX6_isUnder_15 rfl (by decide) rfl ?_
            refine J_goto E (tgt := 2) dX6_isUnder_16 (by decide) ?_
            refine J_iload_n E dX6_isUnder_2 rfl 0 rfl ?_
            refine J_if_eq E (tgt := 19) dX6_isUnder_3 (by decide) (fun c_3 => ?_) (fun c_3 => ?_)
            · skip
              have n_3 : 0 = 0 := cmp_eq (a := 0) (b := 0) (by omega) (by omega) c_3
              refine J_iload_n E dX6_isUnder_19 rfl 0 rfl ?_
              refine J_iload_n E dX6_isUnder_20 rfl 2 rfl ?_
              refine J_icmp_ne E (tgt := 28) dX6_isUnder_21 (by decide) (fun c_21 => ?_) (fun c_21 => ?_)
              · skip
                have n_21 : ¬ 0 = o := cmp_ne (a := 0) (b := o) (by omega) (by omega) c_21
                refine J_iconst E dX6_isUnder_28 ic_0 ?_
                exact ret _ _ _ _ ⟨by first | (rw [bI_t]; simp [undF]; omega) | (rw [bI_f]; simp [undF]; omega), rfl⟩ rfl dX6_isUnder_29
              · skip
                have n_21 : 0 = o := cmp_eq (a := 0) (b := o) (by omega) (by omega) c_21
                refine J_iconst E dX6_isUnder_24 ic_1 ?_
                refine J_goto E (tgt := 29) dX6_isUnder_25 (by decide) ?_
                exact ret _ _ _ _ ⟨by first | (rw [bI_t]; simp [undF]; omega) | (rw [bI_f]; simp [undF]; omega), rfl⟩ rfl dX6_isUnder_29
            · skip
              have n_3 : ¬ 0 = 0 := cmp_ne (a := 0) (b := 0) (by omega) (by omega) c_3
              exact absurd n_3 (by decide)
  · skip
    refine J_iload_n E dX6_isUnder_0 rfl 0 rfl ?_
    refine J_istore_n E (lv' := [(2, .int (nI 4)), (0, .int (nI 4)), (1, .int (nI o))]) dX6_isUnder_1 rfl (by decide) rfl ?_
    refine J_iload_n E dX6_isUnder_2 rfl 0 rfl ?_
    refine J_if_eq E (tgt := 19) dX6_isUnder_3 (by decide) (fun c_3 => ?_) (fun c_3 => ?_)
    · skip
      have n_3 : 4 = 0 := cmp_eq (a := 4) (b := 0) (by omega) (by omega) c_3
      exact absurd n_3 (by decide)
    · skip
      have n_3 : ¬ 4 = 0 := cmp_ne (a := 4) (b := 0) (by omega) (by omega) c_3
      refine J_iload_n E dX6_isUnder_6 rfl 0 rfl ?_
      refine J_iload_n E dX6_isUnder_7 rfl 2 rfl ?_
      refine J_icmp_eq E (tgt := 19) dX6_isUnder_8 (by decide) (fun c_8 => ?_) (fun c_8 => ?_)
      · skip
        have n_8 : 4 = o := cmp_eq (a := 4) (b := o) (by omega) (by omega) c_8
        refine J_iload_n E dX6_isUnder_19 rfl 0 rfl ?_
        refine J_iload_n E dX6_isUnder_20 rfl 2 rfl ?_
        refine J_icmp_ne E (tgt := 28) dX6_isUnder_21 (by decide) (fun c_21 => ?_) (fun c_21 => ?_)
        · skip
          have n_21 : ¬ 4 = o := cmp_ne (a := 4) (b := o) (by omega) (by omega) c_21
          refine J_iconst E dX6_isUnder_28 ic_0 ?_
          exact ret _ _ _ _ ⟨by first | (rw [bI_t]; simp [undF]; omega) | (rw [bI_f]; simp [undF]; omega), rfl⟩ rfl dX6_isUnder_29
        · skip
          have n_21 : 4 = o := cmp_eq (a := 4) (b := o) (by omega) (by omega) c_21
          refine J_iconst E dX6_isUnder_24 ic_1 ?_
          refine J_goto E (tgt := 29) dX6_isUnder_25 (by decide) ?_
          exact ret _ _ _ _ ⟨by first | (rw [bI_t]; simp [undF]; omega) | (rw [bI_f]; simp [undF]; omega), rfl⟩ rfl dX6_isUnder_29
      · skip
        have n_8 : ¬ 4 = o := cmp_ne (a := 4) (b := o) (by omega) (by omega) c_8
        refine J_iload_n E dX6_isUnder_11 rfl 0 rfl ?_
        refine J_cSiN E (As := [.int (nI 4)]) (c_X6_aboveOf_4 l G ) cl_X6_58 yo_X6_aboveOf dX6_isUnder_12 rfl (Nat.le_of_ble_eq_true rfl) (Nat.le_of_ble_eq_true rfl) rfl (Nat.le_of_ble_eq_true rfl) ⟨Nat.zero_le _, Nat.zero_le _⟩ ?_
        refine J_istore_n E (lv' := [(2, .int (nI 3)), (0, .int (nI 4)), (1, .int (nI o))]) dX6_isUnder_15 rfl (by decide) rfl ?_
        refine J_goto E (tgt := 2) dX6_isUnder_16 (by decide) ?_
        refine J_iload_n E dX6_isUnder_2 rfl 0 rfl ?_
        refine J_if_eq E (tgt := 19) dX6_isUnder_3 (by decide) (fun c_3 => ?_) (fun c_3 => ?_)
        · skip
          have n_3 : 3 = 0 := cmp_eq (a := 3) (b := 0) (by omega) (by omega) c_3
          exact absurd n_3 (by decide)
        · skip
          have n_3 : ¬ 3 = 0 := cmp_ne (a := 3) (b := 0) (by omega) (by omega) c_3
          refine J_iload_n E dX6_isUnder_6 rfl 0 rfl ?_
          refine J_iload_n E dX6_isUnder_7 rfl 2 rfl ?_
          refine J_icmp_eq E (tgt := 19) dX6_isUnder_8 (by decide) (fun c_8 => ?_) (fun c_8 => ?_)
          · skip
            have n_8 : 3 = o := cmp_eq (a := 3) (b := o) (by omega) (by omega) c_8
            refine J_iload_n E dX6_isUnder_19 rfl 0 rfl ?_
            refine J_iload_n E dX6_isUnder_20 rfl 2 rfl ?_
            refine J_icmp_ne E (tgt := 28) dX6_isUnder_21 (by decide) (fun c_21 => ?_) (fun c_21 => ?_)
            · skip
              have n_21 : ¬ 3 = o := cmp_ne (a := 3) (b := o) (by omega) (by omega) c_21
              refine J_iconst E dX6_isUnder_28 ic_0 ?_
              exact ret _ _ _ _ ⟨by first | (rw [bI_t]; simp [undF]; omega) | (rw [bI_f]; simp [undF]; omega), rfl⟩ rfl dX6_isUnder_29
            · skip
              have n_21 : 3 = o := cmp_eq (a := 3) (b := o) (by omega) (by omega) c_21
              refine J_iconst E dX6_isUnder_24 ic_1 ?_
              refine J_goto E (tgt := 29) dX6_isUnder_25 (by decide) ?_
              exact ret _ _ _ _ ⟨by first | (rw [bI_t]; simp [undF]; omega) | (rw [bI_f]; simp [undF]; omega), rfl⟩ rfl dX6_isUnder_29
          · skip
            have n_8 : ¬ 3 = o := cmp_ne (a := 3) (b := o) (by omega) (by omega) c_8
            refine J_iload_n E dX6_isUnder_11 rfl 0 rfl ?_
            refine J_cSiN E (As := [.int (nI 3)]) (c_X6_aboveOf_3 l G ) cl_X6_58 yo_X6_aboveOf dX6_isUnder_12 rfl (Nat.le_of_ble_eq_true rfl) (Nat.le_of_ble_eq_true rfl) rfl (Nat.le_of_ble_eq_true rfl) ⟨Nat.zero_le _, Nat.zero_le _⟩ ?_
            refine J_istore_n E (lv' := [(2, .int (nI 2)), (0, .int (nI 4)), (1, .int (nI o))]) dX6_isUnder_15 rfl (by decide) rfl ?_
            refine J_goto E (tgt := 2) dX6_isUnder_16 (by decide) ?_
            refine J_iload_n E dX6_isUnder_2 rfl 0 rfl ?_
            refine J_if_eq E (tgt := 19) dX6_isUnder_3 (by decide) (fun c_3 => ?_) (fun c_3 => ?_)
            · skip
              have n_3 : 2 = 0 := cmp_eq (a := 2) (b := 0) (by omega) (by omega) c_3
              exact absurd n_3 (by decide)
            · skip
              have n_3 : ¬ 2 = 0 := cmp_ne (a := 2) (b := 0) (by omega) (by omega) c_3
              refine J_iload_n E dX6_isUnder_6 rfl 0 rfl ?_
              refine J_iload_n E dX6_isUnder_7 rfl 2 rfl ?_
              refine J_icmp_eq E (tgt := 19) dX6_isUnder_8 (by decide) (fun c_8 => ?_) (fun c_8 => ?_)
              · skip
                have n_8 : 2 = o := cmp_eq (a := 2) (b := o) (by omega) (by omega) c_8
                refine J_iload_n E dX6_isUnder_19 rfl 0 rfl ?_
                refine J_iload_n E dX6_isUnder_20 rfl 2 rfl ?_
                refine J_icmp_ne E (tgt := 28) dX6_isUnder_21 (by decide) (fun c_21 => ?_) (fun c_21 => ?_)
                · skip
                  have n_21 : ¬ 2 = o := cmp_ne (a := 2) (b := o) (by omega) (by omega) c_21
                  refine J_iconst E dX6_isUnder_28 ic_0 ?_
                  exact ret _ _ _ _ ⟨by first | (rw [bI_t]; simp [undF]; omega) | (rw [bI_f]; simp [undF]; omega), rfl⟩ rfl dX6_isUnder_29
                · skip
                  have n_21 : 2 = o := cmp_eq (a := 2) (b := o) (by omega) (by omega) c_21
                  refine J_iconst E dX6_isUnder_24 ic_1 ?_
                  refine J_goto E (tgt := 29) dX6_isUnder_25 (by decide) ?_
                  exact ret _ _ _ _ ⟨by first | (rw [bI_t]; simp [undF]; omega) | (rw [bI_f]; simp [undF]; omega), rfl⟩ rfl dX6_isUnder_29
              · skip
                have n_8 : ¬ 2 = o := cmp_ne (a := 2) (b := o) (by omega) (by omega) c_8
                refine J_iload_n E dX6_isUnder_11 rfl 0 rfl ?_
                refine J_cSiN E (As := [.int (nI 2)]) (c_X6_aboveOf_2 l G ) cl_X6_58 yo_X6_aboveOf dX6_isUnder_12 rfl (Nat.le_of_ble_eq_true rfl) (Nat.le_of_ble_eq_true rfl) rfl (Nat.le_of_ble_eq_true rfl) ⟨Nat.zero_le _, Nat.zero_le _⟩ ?_
                refine J_istore_n E (lv' := [(2, .int (nI 0)), (0, .int (nI 4)), (1, .int (nI o))]) dX6_isUnder_15 rfl (by decide) rfl ?_
                refine J_goto E (tgt := 2) dX6_isUnder_16 (by decide) ?_
                refine J_iload_n E dX6_isUnder_2 rfl 0 rfl ?_
                refine J_if_eq E (tgt := 19) dX6_isUnder_3 (by decide) (fun c_3 => ?_) (fun c_3 => ?_)
                · skip
                  have n_3 : 0 = 0 := cmp_eq (a := 0) (b := 0) (by omega) (by omega) c_3
                  refine J_iload_n E dX6_isUnder_19 rfl 0 rfl ?_
                  refine J_iload_n E dX6_isUnder_20 rfl 2 rfl ?_
                  refine J_icmp_ne E (tgt := 28) dX6_isUnder_21 (by decide) (fun c_21 => ?_) (fun c_21 => ?_)
                  · skip
                    have n_21 : ¬ 0 = o := cmp_ne (a := 0) (b := o) (by omega) (by omega) c_21
                    refine J_iconst E dX6_isUnder_28 ic_0 ?_
                    exact ret _ _ _ _ ⟨by first | (rw [bI_t]; simp [undF]; omega) | (rw [bI_f]; simp [undF]; omega), rfl⟩ rfl dX6_isUnder_29
                  · skip
                    have n_21 : 0 = o := cmp_eq (a := 0) (b := o) (by omega) (by omega) c_21
                    refine J_iconst E dX6_isUnder_24 ic_1 ?_
                    refine J_goto E (tgt := 29) dX6_isUnder_25 (by decide) ?_
                    exact ret _ _ _ _ ⟨by first | (rw [bI_t]; simp [undF]; omega) | (rw [bI_f]; simp [undF]; omega), rfl⟩ rfl dX6_isUnder_29
                · skip
                  have n_3 : ¬ 0 = 0 := cmp_ne (a := 0) (b := 0) (by omega) (by omega) c_3
                  exact absurd n_3 (by decide)
  · skip
    refine J_iload_n E dX6_isUnder_0 rfl 0 rfl ?_
    refine J_istore_n E (lv' := [(2, .int (nI 5)), (0, .int (nI 5)), (1, .int (nI o))]) dX6_isUnder_1 rfl (by decide) rfl ?_
    refine J_iload_n E dX6_isUnder_2 rfl 0 rfl ?_
    refine J_if_eq E (tgt := 19) dX6_isUnder_3 (by decide) (fun c_3 => ?_) (fun c_3 => ?_)
    · skip
      have n_3 : 5 = 0 := cmp_eq (a := 5) (b := 0) (by omega) (by omega) c_3
      exact absurd n_3 (by decide)
    · skip
      have n_3 : ¬ 5 = 0 := cmp_ne (a := 5) (b := 0) (by omega) (by omega) c_3
      refine J_iload_n E dX6_isUnder_6 rfl 0 rfl ?_
      refine J_iload_n E dX6_isUnder_7 rfl 2 rfl ?_
      refine J_icmp_eq E (tgt := 19) dX6_isUnder_8 (by decide) (fun c_8 => ?_) (fun c_8 => ?_)
      · skip
        have n_8 : 5 = o := cmp_eq (a := 5) (b := o) (by omega) (by omega) c_8
        refine J_iload_n E dX6_isUnder_19 rfl 0 rfl ?_
        refine J_iload_n E dX6_isUnder_20 rfl 2 rfl ?_
        refine J_icmp_ne E (tgt := 28) dX6_isUnder_21 (by decide) (fun c_21 => ?_) (fun c_21 => ?_)
        · skip
          have n_21 : ¬ 5 = o := cmp_ne (a := 5) (b := o) (by omega) (by omega) c_21
          refine J_iconst E dX6_isUnder_28 ic_0 ?_
          exact ret _ _ _ _ ⟨by first | (rw [bI_t]; simp [undF]; omega) | (rw [bI_f]; simp [undF]; omega), rfl⟩ rfl dX6_isUnder_29
        · skip
          have n_21 : 5 = o := cmp_eq (a := 5) (b := o) (by omega) (by omega) c_21
          refine J_iconst E dX6_isUnder_24 ic_1 ?_
          refine J_goto E (tgt := 29) dX6_isUnder_25 (by decide) ?_
          exact ret _ _ _ _ ⟨by first | (rw [bI_t]; simp [undF]; omega) | (rw [bI_f]; simp [undF]; omega), rfl⟩ rfl dX6_isUnder_29
      · skip
        have n_8 : ¬ 5 = o := cmp_ne (a := 5) (b := o) (by omega) (by omega) c_8
        refine J_iload_n E dX6_isUnder_11 rfl 0 rfl ?_
        refine J_cSiN E (As := [.int (nI 5)]) (c_X6_aboveOf_5 l G ) cl_X6_58 yo_X6_aboveOf dX6_isUnder_12 rfl (Nat.le_of_ble_eq_true rfl) (Nat.le_of_ble_eq_true rfl) rfl (Nat.le_of_ble_eq_true rfl) ⟨Nat.zero_le _, Nat.zero_le _⟩ ?_
        refine J_istore_n E (lv' := [(2, .int (nI 0)), (0, .int (nI 5)), (1, .int (nI o))]) dX6_isUnder_15 rfl (by decide) rfl ?_
        refine J_goto E (tgt := 2) dX6_isUnder_16 (by decide) ?_
        refine J_iload_n E dX6_isUnder_2 rfl 0 rfl ?_
        refine J_if_eq E (tgt := 19) dX6_isUnder_3 (by decide) (fun c_3 => ?_) (fun c_3 => ?_)
        · skip
          have n_3 : 0 = 0 := cmp_eq (a := 0) (b := 0) (by omega) (by omega) c_3
          refine J_iload_n E dX6_isUnder_19 rfl 0 rfl ?_
          refine J_iload_n E dX6_isUnder_20 rfl 2 rfl ?_
          refine J_icmp_ne E (tgt := 28) dX6_isUnder_21 (by decide) (fun c_21 => ?_) (fun c_21 => ?_)
          · skip
            have n_21 : ¬ 0 = o := cmp_ne (a := 0) (b := o) (by omega) (by omega) c_21
            refine J_iconst E dX6_isUnder_28 ic_0 ?_
            exact ret _ _ _ _ ⟨by first | (rw [bI_t]; simp [undF]; omega) | (rw [bI_f]; simp [undF]; omega), rfl⟩ rfl dX6_isUnder_29
          · skip
            have n_21 : 0 = o := cmp_eq (a := 0) (b := o) (by omega) (by omega) c_21
            refine J_iconst E dX6_isUnder_24 ic_1 ?_
            refine J_goto E (tgt := 29) dX6_isUnder_25 (by decide) ?_
            exact ret _ _ _ _ ⟨by first | (rw [bI_t]; simp [undF]; omega) | (rw [bI_f]; simp [undF]; omega), rfl⟩ rfl dX6_isUnder_29
        · skip
          have n_3 : ¬ 0 = 0 := cmp_ne (a := 0) (b := 0) (by omega) (by omega) c_3
          exact absurd n_3 (by decide)
  · skip
    refine J_iload_n E dX6_isUnder_0 rfl 0 rfl ?_
    refine J_istore_n E (lv' := [(2, .int (nI 6)), (0, .int (nI 6)), (1, .int (nI o))]) dX6_isUnder_1 rfl (by decide) rfl ?_
    refine J_iload_n E dX6_isUnder_2 rfl 0 rfl ?_
    refine J_if_eq E (tgt := 19) dX6_isUnder_3 (by decide) (fun c_3 => ?_) (fun c_3 => ?_)
    · skip
      have n_3 : 6 = 0 := cmp_eq (a := 6) (b := 0) (by omega) (by omega) c_3
      exact absurd n_3 (by decide)
    · skip
      have n_3 : ¬ 6 = 0 := cmp_ne (a := 6) (b := 0) (by omega) (by omega) c_3
      refine J_iload_n E dX6_isUnder_6 rfl 0 rfl ?_
      refine J_iload_n E dX6_isUnder_7 rfl 2 rfl ?_
      refine J_icmp_eq E (tgt := 19) dX6_isUnder_8 (by decide) (fun c_8 => ?_) (fun c_8 => ?_)
      · skip
        have n_8 : 6 = o := cmp_eq (a := 6) (b := o) (by omega) (by omega) c_8
        refine J_iload_n E dX6_isUnder_19 rfl 0 rfl ?_
        refine J_iload_n E dX6_isUnder_20 rfl 2 rfl ?_
        refine J_icmp_ne E (tgt := 28) dX6_isUnder_21 (by decide) (fun c_21 => ?_) (fun c_21 => ?_)
        · skip
          have n_21 : ¬ 6 = o := cmp_ne (a := 6) (b := o) (by omega) (by omega) c_21
          refine J_iconst E dX6_isUnder_28 ic_0 ?_
          exact ret _ _ _ _ ⟨by first | (rw [bI_t]; simp [undF]; omega) | (rw [bI_f]; simp [undF]; omega), rfl⟩ rfl dX6_isUnder_29
        · skip
          have n_21 : 6 = o := cmp_eq (a := 6) (b := o) (by omega) (by omega) c_21
          refine J_iconst E dX6_isUnder_24 ic_1 ?_
          refine J_goto E (tgt := 29) dX6_isUnder_25 (by decide) ?_
          exact ret _ _ _ _ ⟨by first | (rw [bI_t]; simp [undF]; omega) | (rw [bI_f]; simp [undF]; omega), rfl⟩ rfl dX6_isUnder_29
      · skip
        have n_8 : ¬ 6 = o := cmp_ne (a := 6) (b := o) (by omega) (by omega) c_8
        refine J_iload_n E dX6_isUnder_11 rfl 0 rfl ?_
        refine J_cSiN E (As := [.int (nI 6)]) (c_X6_aboveOf_6 l G ) cl_X6_58 yo_X6_aboveOf dX6_isUnder_12 rfl (Nat.le_of_ble_eq_true rfl) (Nat.le_of_ble_eq_true rfl) rfl (Nat.le_of_ble_eq_true rfl) ⟨Nat.zero_le _, Nat.zero_le _⟩ ?_
        refine J_istore_n E (lv' := [(2, .int (nI 1)), (0, .int (nI 6)), (1, .int (nI o))]) dX6_isUnder_15 rfl (by decide) rfl ?_
        refine J_goto E (tgt := 2) dX6_isUnder_16 (by decide) ?_
        refine J_iload_n E dX6_isUnder_2 rfl 0 rfl ?_
        refine J_if_eq E (tgt := 19) dX6_isUnder_3 (by decide) (fun c_3 => ?_) (fun c_3 => ?_)
        · skip
          have n_3 : 1 = 0 := cmp_eq (a := 1) (b := 0) (by omega) (by omega) c_3
          exact absurd n_3 (by decide)
        · skip
          have n_3 : ¬ 1 = 0 := cmp_ne (a := 1) (b := 0) (by omega) (by omega) c_3
          refine J_iload_n E dX6_isUnder_6 rfl 0 rfl ?_
          refine J_iload_n E dX6_isUnder_7 rfl 2 rfl ?_
          refine J_icmp_eq E (tgt := 19) dX6_isUnder_8 (by decide) (fun c_8 => ?_) (fun c_8 => ?_)
          · skip
            have n_8 : 1 = o := cmp_eq (a := 1) (b := o) (by omega) (by omega) c_8
            refine J_iload_n E dX6_isUnder_19 rfl 0 rfl ?_
            refine J_iload_n E dX6_isUnder_20 rfl 2 rfl ?_
            refine J_icmp_ne E (tgt := 28) dX6_isUnder_21 (by decide) (fun c_21 => ?_) (fun c_21 => ?_)
            · skip
              have n_21 : ¬ 1 = o := cmp_ne (a := 1) (b := o) (by omega) (by omega) c_21
              refine J_iconst E dX6_isUnder_28 ic_0 ?_
              exact ret _ _ _ _ ⟨by first | (rw [bI_t]; simp [undF]; omega) | (rw [bI_f]; simp [undF]; omega), rfl⟩ rfl dX6_isUnder_29
            · skip
              have n_21 : 1 = o := cmp_eq (a := 1) (b := o) (by omega) (by omega) c_21
              refine J_iconst E dX6_isUnder_24 ic_1 ?_
              refine J_goto E (tgt := 29) dX6_isUnder_25 (by decide) ?_
              exact ret _ _ _ _ ⟨by first | (rw [bI_t]; simp [undF]; omega) | (rw [bI_f]; simp [undF]; omega), rfl⟩ rfl dX6_isUnder_29
          · skip
            have n_8 : ¬ 1 = o := cmp_ne (a := 1) (b := o) (by omega) (by omega) c_8
            refine J_iload_n E dX6_isUnder_11 rfl 0 rfl ?_
            refine J_cSiN E (As := [.int (nI 1)]) (c_X6_aboveOf_1 l G ) cl_X6_58 yo_X6_aboveOf dX6_isUnder_12 rfl (Nat.le_of_ble_eq_true rfl) (Nat.le_of_ble_eq_true rfl) rfl (Nat.le_of_ble_eq_true rfl) ⟨Nat.zero_le _, Nat.zero_le _⟩ ?_
            refine J_istore_n E (lv' := [(2, .int (nI 0)), (0, .int (nI 6)), (1, .int (nI o))]) dX6_isUnder_15 rfl (by decide) rfl ?_
            refine J_goto E (tgt := 2) dX6_isUnder_16 (by decide) ?_
            refine J_iload_n E dX6_isUnder_2 rfl 0 rfl ?_
            refine J_if_eq E (tgt := 19) dX6_isUnder_3 (by decide) (fun c_3 => ?_) (fun c_3 => ?_)
            · skip
              have n_3 : 0 = 0 := cmp_eq (a := 0) (b := 0) (by omega) (by omega) c_3
              refine J_iload_n E dX6_isUnder_19 rfl 0 rfl ?_
              refine J_iload_n E dX6_isUnder_20 rfl 2 rfl ?_
              refine J_icmp_ne E (tgt := 28) dX6_isUnder_21 (by decide) (fun c_21 => ?_) (fun c_21 => ?_)
              · skip
                have n_21 : ¬ 0 = o := cmp_ne (a := 0) (b := o) (by omega) (by omega) c_21
                refine J_iconst E dX6_isUnder_28 ic_0 ?_
                exact ret _ _ _ _ ⟨by first | (rw [bI_t]; simp [undF]; omega) | (rw [bI_f]; simp [undF]; omega), rfl⟩ rfl dX6_isUnder_29
              · skip
                have n_21 : 0 = o := cmp_eq (a := 0) (b := o) (by omega) (by omega) c_21
                refine J_iconst E dX6_isUnder_24 ic_1 ?_
                refine J_goto E (tgt := 29) dX6_isUnder_25 (by decide) ?_
                exact ret _ _ _ _ ⟨by first | (rw [bI_t]; simp [undF]; omega) | (rw [bI_f]; simp [undF]; omega), rfl⟩ rfl dX6_isUnder_29
            · skip
              have n_3 : ¬ 0 = 0 := cmp_ne (a := 0) (b := 0) (by omega) (by omega) c_3
              exact absurd n_3 (by decide)

set_option maxHeartbeats 4000000 in
set_option maxRecDepth 20000 in
theorem c_X6_uses (l : Launch) (G : GB) (b : Nat → Nat) (y : Q3) (h : Nat) (hh : h < 11)  : CI l yX6_uses cX6_uses 5 .int 1 22 G [.ref (b 0), .int (nI h)] (wM G b y) (fun vR w' => vR = useF (y 0 0 h) (y 0 2 h) (y 0 7 0) ∧ w' = wM G b y) := by
  refine CI.mk (own := RX6) (by decide) rfl (Nat.le_of_ble_eq_true rfl) ?_
  intro X E ret
  show J X G 5 0 0 (wM G b y) [(0, .ref (b 0)), (1, .int (nI h))] 0 []
  refine J_aload_n E dX6_uses_0 rfl 0 rfl ?_
  refine J_iload_n E dX6_uses_1 rfl 1 rfl ?_
  refine J_iconst E dX6_uses_2 ic_2 ?_
  refine J_cVi0 E (As := [.int (nI h), .int 2]) (c_X6_its l G b y h 2 (by omega) (by omega)) cl_X6_64 yo_X6_its dX6_uses_3 rfl rfl rfl (Nat.le_of_ble_eq_true rfl) (Nat.le_of_ble_eq_true rfl) rfl (Nat.le_of_ble_eq_true rfl) ⟨Nat.zero_le _, Nat.zero_le _⟩ ?_
  refine J_istore_n E (lv' := [(2, .int (y 0 2 h)), (0, .ref (b 0)), (1, .int (nI h))]) dX6_uses_6 rfl (by decide) rfl ?_
  refine J_iconst E dX6_uses_7 ic_0 ?_
  refine J_iconst E dX6_uses_8 ic_2 ?_
  refine J_iload_n E dX6_uses_9 rfl 0 rfl ?_
  refine J_imul E dX6_uses_10 ?_
  refine J_iconst E dX6_uses_11 ic_3 ?_
  refine J_isub E dX6_uses_12 ?_
  refine J_mmax E ml_X6_68 st_mmax ini_J9 co_mmax dX6_uses_13 (by decide) (Nat.le_of_ble_eq_true rfl) ⟨Nat.zero_le _, Nat.zero_le _⟩ ?_
  refine J_istore_n E (lv' := [(3, .int (mx 0 ((2 * (y 0 2 h)) - 3))), (2, .int (y 0 2 h)), (0, .ref (b 0)), (1, .int (nI h))]) dX6_uses_16 rfl (by decide) rfl ?_
  refine J_aload_n E dX6_uses_17 rfl 2 rfl ?_
  refine gM0_X6_9 E dX6_uses_18 ?_
  refine J_iconst E dX6_uses_21 ic_0 ?_
  refine lMs E (j := 0) (r := 7) (i := 0) (at_7 (by decide)) dX6_uses_22 ?_
  refine J_iconst E dX6_uses_23 ic_2 ?_
  refine J_irem E dX6_uses_24 (by decide) ?_
  refine J_if_ne E (tgt := 32) dX6_uses_25 (by decide) (fun c_25 => ?_) (fun c_25 => ?_)
  · skip
    refine J_iconst E dX6_uses_32 ic_0 ?_
    refine J_istore E (lv' := [(4, .int 0), (3, .int (mx 0 ((2 * (y 0 2 h)) - 3))), (2, .int (y 0 2 h)), (0, .ref (b 0)), (1, .int (nI h))]) dX6_uses_33 (by decide) rfl ?_
    refine J_aload_n E dX6_uses_35 rfl 3 rfl ?_
    refine J_iload_n E dX6_uses_36 rfl 4 rfl ?_
    refine J_iconst E dX6_uses_37 ic_0 ?_
    refine J_cVi0 E (As := [.int (nI h), .int 0]) (c_X6_its l G b y h 0 (by omega) (by omega)) cl_X6_64 yo_X6_its dX6_uses_38 rfl rfl rfl (Nat.le_of_ble_eq_true rfl) (Nat.le_of_ble_eq_true rfl) rfl (Nat.le_of_ble_eq_true rfl) ⟨Nat.zero_le _, Nat.zero_le _⟩ ?_
    by_cases c_41 : (y 0 0 h).toInt < 1 ∨ 6 < (y 0 0 h).toInt
    · refine J_tabOut E (tgt := 113) dX6_uses_41 c_41 (by decide) ?_
      have n_41_1 : ¬ (y 0 0 h) = 1 := ne_out c_41 (by decide)
      have n_41_2 : ¬ (y 0 0 h) = 2 := ne_out c_41 (by decide)
      have n_41_3 : ¬ (y 0 0 h) = 3 := ne_out c_41 (by decide)
      have n_41_4 : ¬ (y 0 0 h) = 4 := ne_out c_41 (by decide)
      have n_41_5 : ¬ (y 0 0 h) = 5 := ne_out c_41 (by decide)
      have n_41_6 : ¬ (y 0 0 h) = 6 := ne_out c_41 (by decide)
      refine J_iload_n E dX6_uses_113 rfl 2 rfl ?_
      exact ret _ _ _ _ ⟨by simp [useF, c_25, n_41_1, n_41_2, n_41_3, n_41_4, n_41_5, n_41_6], (congrArg (wM G b) (rfl))⟩ rfl dX6_uses_114
    · rcases sw_1_6 c_41 with i_41 | i_41 | i_41 | i_41 | i_41 | i_41
      · refine J_top i_41 ?_
        refine J_tabIn E (tgt := 80) (off := 39) dX6_uses_41 (by decide) (by decide) rfl (by decide) ?_
        refine J_iload E dX6_uses_80 0 rfl ?_
        exact ret _ _ _ _ ⟨by simp [useF, c_25, i_41], (congrArg (wM G b) (rfl))⟩ rfl dX6_uses_82
      · refine J_top i_41 ?_
        refine J_tabIn E (tgt := 88) (off := 47) dX6_uses_41 (by decide) (by decide) rfl (by decide) ?_
        refine J_iconst E dX6_uses_88 ic_2 ?_
        refine J_iload_n E dX6_uses_89 rfl 2 rfl ?_
        refine J_imul E dX6_uses_90 ?_
        exact ret _ _ _ _ ⟨by simp [useF, c_25, i_41], (congrArg (wM G b) (rfl))⟩ rfl dX6_uses_91
      · refine J_top i_41 ?_
        refine J_tabIn E (tgt := 92) (off := 51) dX6_uses_41 (by decide) (by decide) rfl (by decide) ?_
        refine J_iload_n E dX6_uses_92 rfl 1 rfl ?_
        exact ret _ _ _ _ ⟨by simp [useF, c_25, i_41], (congrArg (wM G b) (rfl))⟩ rfl dX6_uses_93
      · refine J_top i_41 ?_
        refine J_tabIn E (tgt := 94) (off := 53) dX6_uses_41 (by decide) (by decide) rfl (by decide) ?_
        refine J_aload_n E dX6_uses_94 rfl 3 rfl ?_
        refine gM0_X6_9 E dX6_uses_95 ?_
        refine J_iconst E dX6_uses_98 ic_0 ?_
        refine lMs E (j := 0) (r := 7) (i := 0) (at_7 (by decide)) dX6_uses_99 ?_
        refine J_bipush E dX6_uses_100 bp_6 ?_
        refine J_irem E dX6_uses_102 (by decide) ?_
        refine J_iconst E dX6_uses_103 ic_5 ?_
        refine J_icmp_ne E (tgt := 111) dX6_uses_104 (by decide) (fun c_104 => ?_) (fun c_104 => ?_)
        · skip
          refine J_iconst E dX6_uses_111 ic_0 ?_
          exact ret _ _ _ _ ⟨by simp [useF, c_25, i_41, c_104], (congrArg (wM G b) (rfl))⟩ rfl dX6_uses_112
        · skip
          refine J_iload_n E dX6_uses_107 rfl 1 rfl ?_
          refine J_goto E (tgt := 112) dX6_uses_108 (by decide) ?_
          exact ret _ _ _ _ ⟨by simp [useF, c_25, i_41, c_104], (congrArg (wM G b) (rfl))⟩ rfl dX6_uses_112
      · refine J_top i_41 ?_
        refine J_tabIn E (tgt := 113) (off := 72) dX6_uses_41 (by decide) (by decide) rfl (by decide) ?_
        refine J_iload_n E dX6_uses_113 rfl 2 rfl ?_
        exact ret _ _ _ _ ⟨by simp [useF, c_25, i_41], (congrArg (wM G b) (rfl))⟩ rfl dX6_uses_114
      · refine J_top i_41 ?_
        refine J_tabIn E (tgt := 83) (off := 42) dX6_uses_41 (by decide) (by decide) rfl (by decide) ?_
        refine J_iload E dX6_uses_83 0 rfl ?_
        refine J_iconst E dX6_uses_85 ic_1 ?_
        refine J_iadd E dX6_uses_86 ?_
        exact ret _ _ _ _ ⟨by simp [useF, c_25, i_41], (congrArg (wM G b) (rfl))⟩ rfl dX6_uses_87
  · skip
    refine J_iload_n E dX6_uses_28 rfl 1 rfl ?_
    refine J_goto E (tgt := 33) dX6_uses_29 (by decide) ?_
    refine J_istore E (lv' := [(4, .int (y 0 2 h)), (3, .int (mx 0 ((2 * (y 0 2 h)) - 3))), (2, .int (y 0 2 h)), (0, .ref (b 0)), (1, .int (nI h))]) dX6_uses_33 (by decide) rfl ?_
    refine J_aload_n E dX6_uses_35 rfl 3 rfl ?_
    refine J_iload_n E dX6_uses_36 rfl 4 rfl ?_
    refine J_iconst E dX6_uses_37 ic_0 ?_
    refine J_cVi0 E (As := [.int (nI h), .int 0]) (c_X6_its l G b y h 0 (by omega) (by omega)) cl_X6_64 yo_X6_its dX6_uses_38 rfl rfl rfl (Nat.le_of_ble_eq_true rfl) (Nat.le_of_ble_eq_true rfl) rfl (Nat.le_of_ble_eq_true rfl) ⟨Nat.zero_le _, Nat.zero_le _⟩ ?_
    by_cases c_41 : (y 0 0 h).toInt < 1 ∨ 6 < (y 0 0 h).toInt
    · refine J_tabOut E (tgt := 113) dX6_uses_41 c_41 (by decide) ?_
      have n_41_1 : ¬ (y 0 0 h) = 1 := ne_out c_41 (by decide)
      have n_41_2 : ¬ (y 0 0 h) = 2 := ne_out c_41 (by decide)
      have n_41_3 : ¬ (y 0 0 h) = 3 := ne_out c_41 (by decide)
      have n_41_4 : ¬ (y 0 0 h) = 4 := ne_out c_41 (by decide)
      have n_41_5 : ¬ (y 0 0 h) = 5 := ne_out c_41 (by decide)
      have n_41_6 : ¬ (y 0 0 h) = 6 := ne_out c_41 (by decide)
      refine J_iload_n E dX6_uses_113 rfl 2 rfl ?_
      exact ret _ _ _ _ ⟨by simp [useF, c_25, n_41_1, n_41_2, n_41_3, n_41_4, n_41_5, n_41_6], (congrArg (wM G b) (rfl))⟩ rfl dX6_uses_114
    · rcases sw_1_6 c_41 with i_41 | i_41 | i_41 | i_41 | i_41 | i_41
      · refine J_top i_41 ?_
        refine J_tabIn E (tgt := 80) (off := 39) dX6_uses_41 (by decide) (by decide) rfl (by decide) ?_
        refine J_iload E dX6_uses_80 0 rfl ?_
        exact ret _ _ _ _ ⟨by simp [useF, c_25, i_41], (congrArg (wM G b) (rfl))⟩ rfl dX6_uses_82
      · refine J_top i_41 ?_
        refine J_tabIn E (tgt := 88) (off := 47) dX6_uses_41 (by decide) (by decide) rfl (by decide) ?_
        refine J_iconst E dX6_uses_88 ic_2 ?_
        refine J_iload_n E dX6_uses_89 rfl 2 rfl ?_
        refine J_imul E dX6_uses_90 ?_
        exact ret _ _ _ _ ⟨by simp [useF, c_25, i_41], (congrArg (wM G b) (rfl))⟩ rfl dX6_uses_91
      · refine J_top i_41 ?_
        refine J_tabIn E (tgt := 92) (off := 51) dX6_uses_41 (by decide) (by decide) rfl (by decide) ?_
        refine J_iload_n E dX6_uses_92 rfl 1 rfl ?_
        exact ret _ _ _ _ ⟨by simp [useF, c_25, i_41], (congrArg (wM G b) (rfl))⟩ rfl dX6_uses_93
      · refine J_top i_41 ?_
        refine J_tabIn E (tgt := 94) (off := 53) dX6_uses_41 (by decide) (by decide) rfl (by decide) ?_
        refine J_aload_n E dX6_uses_94 rfl 3 rfl ?_
        refine gM0_X6_9 E dX6_uses_95 ?_
        refine J_iconst E dX6_uses_98 ic_0 ?_
        refine lMs E (j := 0) (r := 7) (i := 0) (at_7 (by decide)) dX6_uses_99 ?_
        refine J_bipush E dX6_uses_100 bp_6 ?_
        refine J_irem E dX6_uses_102 (by decide) ?_
        refine J_iconst E dX6_uses_103 ic_5 ?_
        refine J_icmp_ne E (tgt := 111) dX6_uses_104 (by decide) (fun c_104 => ?_) (fun c_104 => ?_)
        · skip
          refine J_iconst E dX6_uses_111 ic_0 ?_
          exact ret _ _ _ _ ⟨by simp [useF, c_25, i_41, c_104], (congrArg (wM G b) (rfl))⟩ rfl dX6_uses_112
        · skip
          refine J_iload_n E dX6_uses_107 rfl 1 rfl ?_
          refine J_goto E (tgt := 112) dX6_uses_108 (by decide) ?_
          exact ret _ _ _ _ ⟨by simp [useF, c_25, i_41, c_104], (congrArg (wM G b) (rfl))⟩ rfl dX6_uses_112
      · refine J_top i_41 ?_
        refine J_tabIn E (tgt := 113) (off := 72) dX6_uses_41 (by decide) (by decide) rfl (by decide) ?_
        refine J_iload_n E dX6_uses_113 rfl 2 rfl ?_
        exact ret _ _ _ _ ⟨by simp [useF, c_25, i_41], (congrArg (wM G b) (rfl))⟩ rfl dX6_uses_114
      · refine J_top i_41 ?_
        refine J_tabIn E (tgt := 83) (off := 42) dX6_uses_41 (by decide) (by decide) rfl (by decide) ?_
        refine J_iload E dX6_uses_83 0 rfl ?_
        refine J_iconst E dX6_uses_85 ic_1 ?_
        refine J_iadd E dX6_uses_86 ?_
        exact ret _ _ _ _ ⟨by simp [useF, c_25, i_41], (congrArg (wM G b) (rfl))⟩ rfl dX6_uses_87

set_option maxHeartbeats 4000000 in
set_option maxRecDepth 20000 in
theorem c_X6_keeps (l : Launch) (G : GB) (b : Nat → Nat) (y : Q3) (h : Nat) (hh : h < 11)  : CI l yX6_keeps cX6_keeps 3 .int 1 22 G [.ref (b 0), .int (nI h)] (wM G b y) (fun vR w' => vR = keepF (y 0 0 h) (y 0 3 h) (y 0 2 h) ∧ w' = wM G b y) := by
  refine CI.mk (own := RX6) (by decide) rfl (Nat.le_of_ble_eq_true rfl) ?_
  intro X E ret
  show J X G 3 0 0 (wM G b y) [(0, .ref (b 0)), (1, .int (nI h))] 0 []
  refine J_aload_n E dX6_keeps_0 rfl 0 rfl ?_
  refine J_iload_n E dX6_keeps_1 rfl 1 rfl ?_
  refine J_iconst E dX6_keeps_2 ic_3 ?_
  refine J_cVi0 E (As := [.int (nI h), .int 3]) (c_X6_its l G b y h 3 (by omega) (by omega)) cl_X6_64 yo_X6_its dX6_keeps_3 rfl rfl rfl (Nat.le_of_ble_eq_true rfl) (Nat.le_of_ble_eq_true rfl) rfl (Nat.le_of_ble_eq_true rfl) ⟨Nat.zero_le _, Nat.zero_le _⟩ ?_
  refine J_istore_n E (lv' := [(2, .int (y 0 3 h)), (0, .ref (b 0)), (1, .int (nI h))]) dX6_keeps_6 rfl (by decide) rfl ?_
  refine J_aload_n E dX6_keeps_7 rfl 1 rfl ?_
  refine J_iload_n E dX6_keeps_8 rfl 2 rfl ?_
  refine J_iconst E dX6_keeps_9 ic_0 ?_
  refine J_cVi0 E (As := [.int (nI h), .int 0]) (c_X6_its l G b y h 0 (by omega) (by omega)) cl_X6_64 yo_X6_its dX6_keeps_10 rfl rfl rfl (Nat.le_of_ble_eq_true rfl) (Nat.le_of_ble_eq_true rfl) rfl (Nat.le_of_ble_eq_true rfl) ⟨Nat.zero_le _, Nat.zero_le _⟩ ?_
  by_cases c_13 : (y 0 0 h).toInt < 2 ∨ 6 < (y 0 0 h).toInt
  · refine J_tabOut E (tgt := 68) dX6_keeps_13 c_13 (by decide) ?_
    have n_13_2 : ¬ (y 0 0 h) = 2 := ne_out c_13 (by decide)
    have n_13_3 : ¬ (y 0 0 h) = 3 := ne_out c_13 (by decide)
    have n_13_4 : ¬ (y 0 0 h) = 4 := ne_out c_13 (by decide)
    have n_13_5 : ¬ (y 0 0 h) = 5 := ne_out c_13 (by decide)
    have n_13_6 : ¬ (y 0 0 h) = 6 := ne_out c_13 (by decide)
    refine J_iload_n E dX6_keeps_68 rfl 0 rfl ?_
    exact ret _ _ _ _ ⟨by simp [keepF, n_13_2, n_13_3, n_13_4, n_13_5, n_13_6], (congrArg (wM G b) (rfl))⟩ rfl dX6_keeps_69
  · rcases sw_2_6 c_13 with i_13 | i_13 | i_13 | i_13 | i_13
    · refine J_top i_13 ?_
      refine J_tabIn E (tgt := 53) (off := 40) dX6_keeps_13 (by decide) (by decide) rfl (by decide) ?_
      refine J_iload_n E dX6_keeps_53 rfl 0 rfl ?_
      refine J_iconst E dX6_keeps_54 ic_2 ?_
      refine J_idiv E dX6_keeps_55 (by decide) ?_
      exact ret _ _ _ _ ⟨by simp [keepF, i_13], (congrArg (wM G b) (rfl))⟩ rfl dX6_keeps_56
    · refine J_top i_13 ?_
      refine J_tabIn E (tgt := 57) (off := 44) dX6_keeps_13 (by decide) (by decide) rfl (by decide) ?_
      refine J_iload_n E dX6_keeps_57 rfl 0 rfl ?_
      refine J_iconst E dX6_keeps_58 ic_2 ?_
      refine J_idiv E dX6_keeps_59 (by decide) ?_
      refine J_aload_n E dX6_keeps_60 rfl 1 rfl ?_
      refine J_iload_n E dX6_keeps_61 rfl 2 rfl ?_
      refine J_iconst E dX6_keeps_62 ic_2 ?_
      refine J_cVi0 E (As := [.int (nI h), .int 2]) (c_X6_its l G b y h 2 (by omega) (by omega)) cl_X6_64 yo_X6_its dX6_keeps_63 rfl rfl rfl (Nat.le_of_ble_eq_true rfl) (Nat.le_of_ble_eq_true rfl) rfl (Nat.le_of_ble_eq_true rfl) ⟨Nat.zero_le _, Nat.zero_le _⟩ ?_
      refine J_iadd E dX6_keeps_66 ?_
      exact ret _ _ _ _ ⟨by simp [keepF, i_13], (congrArg (wM G b) (rfl))⟩ rfl dX6_keeps_67
    · refine J_top i_13 ?_
      refine J_tabIn E (tgt := 57) (off := 44) dX6_keeps_13 (by decide) (by decide) rfl (by decide) ?_
      refine J_iload_n E dX6_keeps_57 rfl 0 rfl ?_
      refine J_iconst E dX6_keeps_58 ic_2 ?_
      refine J_idiv E dX6_keeps_59 (by decide) ?_
      refine J_aload_n E dX6_keeps_60 rfl 1 rfl ?_
      refine J_iload_n E dX6_keeps_61 rfl 2 rfl ?_
      refine J_iconst E dX6_keeps_62 ic_2 ?_
      refine J_cVi0 E (As := [.int (nI h), .int 2]) (c_X6_its l G b y h 2 (by omega) (by omega)) cl_X6_64 yo_X6_its dX6_keeps_63 rfl rfl rfl (Nat.le_of_ble_eq_true rfl) (Nat.le_of_ble_eq_true rfl) rfl (Nat.le_of_ble_eq_true rfl) ⟨Nat.zero_le _, Nat.zero_le _⟩ ?_
      refine J_iadd E dX6_keeps_66 ?_
      exact ret _ _ _ _ ⟨by simp [keepF, i_13], (congrArg (wM G b) (rfl))⟩ rfl dX6_keeps_67
    · refine J_top i_13 ?_
      refine J_tabIn E (tgt := 68) (off := 55) dX6_keeps_13 (by decide) (by decide) rfl (by decide) ?_
      refine J_iload_n E dX6_keeps_68 rfl 0 rfl ?_
      exact ret _ _ _ _ ⟨by simp [keepF, i_13], (congrArg (wM G b) (rfl))⟩ rfl dX6_keeps_69
    · refine J_top i_13 ?_
      refine J_tabIn E (tgt := 48) (off := 35) dX6_keeps_13 (by decide) (by decide) rfl (by decide) ?_
      refine J_iload_n E dX6_keeps_48 rfl 0 rfl ?_
      refine J_bipush E dX6_keeps_49 bp_10 ?_
      refine J_iadd E dX6_keeps_51 ?_
      exact ret _ _ _ _ ⟨by simp [keepF, i_13], (congrArg (wM G b) (rfl))⟩ rfl dX6_keeps_52

set_option maxHeartbeats 4000000 in
set_option maxRecDepth 20000 in
theorem c_X6_loses (l : Launch) (G : GB) (b : Nat → Nat) (y : Q3) (h : Nat) (hh : h < 11) (k : Nat) (hk : k < 7) (hy : y 0 0 h = nI k)  : CI l yX6_loses cX6_loses 3 .int 2 42 G [.ref (b 0), .int (nI h)] (wM G b y) (fun vR w' => vR = loseK (y 0 0 h) ∧ w' = wM G b y) := by
  refine CI.mk (own := RX6) (by decide) rfl (Nat.le_of_ble_eq_true rfl) ?_
  intro X E ret
  show J X G 3 0 0 (wM G b y) [(0, .ref (b 0)), (1, .int (nI h))] 0 []
  refine J_aload_n E dX6_loses_0 rfl 0 rfl ?_
  refine J_iload_n E dX6_loses_1 rfl 1 rfl ?_
  refine J_iconst E dX6_loses_2 ic_0 ?_
  refine J_cVi0 E (As := [.int (nI h), .int 0]) (c_X6_its l G b y h 0 (by omega) (by omega)) cl_X6_64 yo_X6_its dX6_loses_3 rfl rfl rfl (Nat.le_of_ble_eq_true rfl) (Nat.le_of_ble_eq_true rfl) rfl (Nat.le_of_ble_eq_true rfl) ⟨Nat.zero_le _, Nat.zero_le _⟩ ?_
  refine J_top (x' := nI k) (hy) ?_
  refine J_istore_n E (lv' := [(2, .int (nI k)), (0, .ref (b 0)), (1, .int (nI h))]) dX6_loses_6 rfl (by decide) rfl ?_
  rcases (show k = 0 ∨ k = 1 ∨ k = 2 ∨ k = 3 ∨ k = 4 ∨ k = 5 ∨ k = 6 by omega) with rfl | rfl | rfl | rfl | rfl | rfl | rfl
  · skip
    refine J_iload_n E dX6_loses_7 rfl 0 rfl ?_
    refine J_iconst E dX6_loses_8 ic_5 ?_
    refine J_icmp_ne E (tgt := 16) dX6_loses_9 (by decide) (fun c_9 => ?_) (fun c_9 => ?_)
    · skip
      have n_9 : ¬ 0 = 5 := cmp_ne (a := 0) (b := 5) (by omega) (by omega) c_9
      refine J_iload_n E dX6_loses_16 rfl 0 rfl ?_
      refine J_iconst E dX6_loses_17 ic_2 ?_
      refine J_cSiN E (As := [.int (nI 0), .int 2]) (c_X6_isUnder l G 0 2 (by omega) (by omega)) cl_X6_73 yo_X6_isUnder dX6_loses_18 rfl (Nat.le_of_ble_eq_true rfl) (Nat.le_of_ble_eq_true rfl) rfl (Nat.le_of_ble_eq_true rfl) ⟨Nat.zero_le _, Nat.zero_le _⟩ ?_
      refine J_if_eq E (tgt := 28) dX6_loses_21 (by decide) (fun c_21 => ?_) (fun c_21 => ?_)
      · skip
        have c_21 := bI_0 c_21
        refine J_iconst E dX6_loses_28 ic_0 ?_
        exact ret _ _ _ _ ⟨by rw [hy]; decide, (congrArg (wM G b) (rfl))⟩ rfl dX6_loses_29
      · skip
        have c_21 := bI_1 c_21
        refine J_iconst E dX6_loses_24 ic_1 ?_
        refine J_goto E (tgt := 29) dX6_loses_25 (by decide) ?_
        exact ret _ _ _ _ ⟨by rw [hy]; decide, (congrArg (wM G b) (rfl))⟩ rfl dX6_loses_29
    · skip
      have n_9 : 0 = 5 := cmp_eq (a := 0) (b := 5) (by omega) (by omega) c_9
      exact absurd n_9 (by decide)
  · skip
    refine J_iload_n E dX6_loses_7 rfl 0 rfl ?_
    refine J_iconst E dX6_loses_8 ic_5 ?_
    refine J_icmp_ne E (tgt := 16) dX6_loses_9 (by decide) (fun c_9 => ?_) (fun c_9 => ?_)
    · skip
      have n_9 : ¬ 1 = 5 := cmp_ne (a := 1) (b := 5) (by omega) (by omega) c_9
      refine J_iload_n E dX6_loses_16 rfl 0 rfl ?_
      refine J_iconst E dX6_loses_17 ic_2 ?_
      refine J_cSiN E (As := [.int (nI 1), .int 2]) (c_X6_isUnder l G 1 2 (by omega) (by omega)) cl_X6_73 yo_X6_isUnder dX6_loses_18 rfl (Nat.le_of_ble_eq_true rfl) (Nat.le_of_ble_eq_true rfl) rfl (Nat.le_of_ble_eq_true rfl) ⟨Nat.zero_le _, Nat.zero_le _⟩ ?_
      refine J_if_eq E (tgt := 28) dX6_loses_21 (by decide) (fun c_21 => ?_) (fun c_21 => ?_)
      · skip
        have c_21 := bI_0 c_21
        refine J_iconst E dX6_loses_28 ic_0 ?_
        exact ret _ _ _ _ ⟨by rw [hy]; decide, (congrArg (wM G b) (rfl))⟩ rfl dX6_loses_29
      · skip
        have c_21 := bI_1 c_21
        refine J_iconst E dX6_loses_24 ic_1 ?_
        refine J_goto E (tgt := 29) dX6_loses_25 (by decide) ?_
        exact ret _ _ _ _ ⟨by rw [hy]; decide, (congrArg (wM G b) (rfl))⟩ rfl dX6_loses_29
    · skip
      have n_9 : 1 = 5 := cmp_eq (a := 1) (b := 5) (by omega) (by omega) c_9
      exact absurd n_9 (by decide)
  · skip
    refine J_iload_n E dX6_loses_7 rfl 0 rfl ?_
    refine J_iconst E dX6_loses_8 ic_5 ?_
    refine J_icmp_ne E (tgt := 16) dX6_loses_9 (by decide) (fun c_9 => ?_) (fun c_9 => ?_)
    · skip
      have n_9 : ¬ 2 = 5 := cmp_ne (a := 2) (b := 5) (by omega) (by omega) c_9
      refine J_iload_n E dX6_loses_16 rfl 0 rfl ?_
      refine J_iconst E dX6_loses_17 ic_2 ?_
      refine J_cSiN E (As := [.int (nI 2), .int 2]) (c_X6_isUnder l G 2 2 (by omega) (by omega)) cl_X6_73 yo_X6_isUnder dX6_loses_18 rfl (Nat.le_of_ble_eq_true rfl) (Nat.le_of_ble_eq_true rfl) rfl (Nat.le_of_ble_eq_true rfl) ⟨Nat.zero_le _, Nat.zero_le _⟩ ?_
      refine J_if_eq E (tgt := 28) dX6_loses_21 (by decide) (fun c_21 => ?_) (fun c_21 => ?_)
      · skip
        have c_21 := bI_0 c_21
        refine J_iconst E dX6_loses_28 ic_0 ?_
        exact ret _ _ _ _ ⟨by rw [hy]; decide, (congrArg (wM G b) (rfl))⟩ rfl dX6_loses_29
      · skip
        have c_21 := bI_1 c_21
        refine J_iconst E dX6_loses_24 ic_1 ?_
        refine J_goto E (tgt := 29) dX6_loses_25 (by decide) ?_
        exact ret _ _ _ _ ⟨by rw [hy]; decide, (congrArg (wM G b) (rfl))⟩ rfl dX6_loses_29
    · skip
      have n_9 : 2 = 5 := cmp_eq (a := 2) (b := 5) (by omega) (by omega) c_9
      exact absurd n_9 (by decide)
  · skip
    refine J_iload_n E dX6_loses_7 rfl 0 rfl ?_
    refine J_iconst E dX6_loses_8 ic_5 ?_
    refine J_icmp_ne E (tgt := 16) dX6_loses_9 (by decide) (fun c_9 => ?_) (fun c_9 => ?_)
    · skip
      have n_9 : ¬ 3 = 5 := cmp_ne (a := 3) (b := 5) (by omega) (by omega) c_9
      refine J_iload_n E dX6_loses_16 rfl 0 rfl ?_
      refine J_iconst E dX6_loses_17 ic_2 ?_
      refine J_cSiN E (As := [.int (nI 3), .int 2]) (c_X6_isUnder l G 3 2 (by omega) (by omega)) cl_X6_73 yo_X6_isUnder dX6_loses_18 rfl (Nat.le_of_ble_eq_true rfl) (Nat.le_of_ble_eq_true rfl) rfl (Nat.le_of_ble_eq_true rfl) ⟨Nat.zero_le _, Nat.zero_le _⟩ ?_
      refine J_if_eq E (tgt := 28) dX6_loses_21 (by decide) (fun c_21 => ?_) (fun c_21 => ?_)
      · skip
        have c_21 := bI_0 c_21
        refine J_iconst E dX6_loses_28 ic_0 ?_
        exact ret _ _ _ _ ⟨by rw [hy]; decide, (congrArg (wM G b) (rfl))⟩ rfl dX6_loses_29
      · skip
        have c_21 := bI_1 c_21
        refine J_iconst E dX6_loses_24 ic_1 ?_
        refine J_goto E (tgt := 29) dX6_loses_25 (by decide) ?_
        exact ret _ _ _ _ ⟨by rw [hy]; decide, (congrArg (wM G b) (rfl))⟩ rfl dX6_loses_29
    · skip
      have n_9 : 3 = 5 := cmp_eq (a := 3) (b := 5) (by omega) (by omega) c_9
      exact absurd n_9 (by decide)
  · skip
    refine J_iload_n E dX6_loses_7 rfl 0 rfl ?_
    refine J_iconst E dX6_loses_8 ic_5 ?_
    refine J_icmp_ne E (tgt := 16) dX6_loses_9 (by decide) (fun c_9 => ?_) (fun c_9 => ?_)
    · skip
      have n_9 : ¬ 4 = 5 := cmp_ne (a := 4) (b := 5) (by omega) (by omega) c_9
      refine J_iload_n E dX6_loses_16 rfl 0 rfl ?_
      refine J_iconst E dX6_loses_17 ic_2 ?_
      refine J_cSiN E (As := [.int (nI 4), .int 2]) (c_X6_isUnder l G 4 2 (by omega) (by omega)) cl_X6_73 yo_X6_isUnder dX6_loses_18 rfl (Nat.le_of_ble_eq_true rfl) (Nat.le_of_ble_eq_true rfl) rfl (Nat.le_of_ble_eq_true rfl) ⟨Nat.zero_le _, Nat.zero_le _⟩ ?_
      refine J_if_eq E (tgt := 28) dX6_loses_21 (by decide) (fun c_21 => ?_) (fun c_21 => ?_)
      · skip
        have c_21 := bI_0 c_21
        refine J_iconst E dX6_loses_28 ic_0 ?_
        exact ret _ _ _ _ ⟨by rw [hy]; decide, (congrArg (wM G b) (rfl))⟩ rfl dX6_loses_29
      · skip
        have c_21 := bI_1 c_21
        refine J_iconst E dX6_loses_24 ic_1 ?_
        refine J_goto E (tgt := 29) dX6_loses_25 (by decide) ?_
        exact ret _ _ _ _ ⟨by rw [hy]; decide, (congrArg (wM G b) (rfl))⟩ rfl dX6_loses_29
    · skip
      have n_9 : 4 = 5 := cmp_eq (a := 4) (b := 5) (by omega) (by omega) c_9
      exact absurd n_9 (by decide)
  · skip
    refine J_iload_n E dX6_loses_7 rfl 0 rfl ?_
    refine J_iconst E dX6_loses_8 ic_5 ?_
    refine J_icmp_ne E (tgt := 16) dX6_loses_9 (by decide) (fun c_9 => ?_) (fun c_9 => ?_)
    · skip
      have n_9 : ¬ 5 = 5 := cmp_ne (a := 5) (b := 5) (by omega) (by omega) c_9
      exact absurd n_9 (by decide)
    · skip
      have n_9 : 5 = 5 := cmp_eq (a := 5) (b := 5) (by omega) (by omega) c_9
      refine J_iconst E dX6_loses_12 ic_5 ?_
      refine J_goto E (tgt := 29) dX6_loses_13 (by decide) ?_
      exact ret _ _ _ _ ⟨by rw [hy]; decide, (congrArg (wM G b) (rfl))⟩ rfl dX6_loses_29
  · skip
    refine J_iload_n E dX6_loses_7 rfl 0 rfl ?_
    refine J_iconst E dX6_loses_8 ic_5 ?_
    refine J_icmp_ne E (tgt := 16) dX6_loses_9 (by decide) (fun c_9 => ?_) (fun c_9 => ?_)
    · skip
      have n_9 : ¬ 6 = 5 := cmp_ne (a := 6) (b := 5) (by omega) (by omega) c_9
      refine J_iload_n E dX6_loses_16 rfl 0 rfl ?_
      refine J_iconst E dX6_loses_17 ic_2 ?_
      refine J_cSiN E (As := [.int (nI 6), .int 2]) (c_X6_isUnder l G 6 2 (by omega) (by omega)) cl_X6_73 yo_X6_isUnder dX6_loses_18 rfl (Nat.le_of_ble_eq_true rfl) (Nat.le_of_ble_eq_true rfl) rfl (Nat.le_of_ble_eq_true rfl) ⟨Nat.zero_le _, Nat.zero_le _⟩ ?_
      refine J_if_eq E (tgt := 28) dX6_loses_21 (by decide) (fun c_21 => ?_) (fun c_21 => ?_)
      · skip
        have c_21 := bI_0 c_21
        refine J_iconst E dX6_loses_28 ic_0 ?_
        exact ret _ _ _ _ ⟨by rw [hy]; decide, (congrArg (wM G b) (rfl))⟩ rfl dX6_loses_29
      · skip
        have c_21 := bI_1 c_21
        refine J_iconst E dX6_loses_24 ic_1 ?_
        refine J_goto E (tgt := 29) dX6_loses_25 (by decide) ?_
        exact ret _ _ _ _ ⟨by rw [hy]; decide, (congrArg (wM G b) (rfl))⟩ rfl dX6_loses_29
    · skip
      have n_9 : 6 = 5 := cmp_eq (a := 6) (b := 5) (by omega) (by omega) c_9
      exact absurd n_9 (by decide)

theorem i_lt11 {x : Int32} : x < 11 ↔ x ≤ 10 := by
  rw [Int32.lt_iff_toInt_lt, Int32.le_iff_toInt_le]
  have a : (11 : Int32).toInt = 11 := by decide
  have b : (10 : Int32).toInt = 10 := by decide
  omega
theorem lead_ge {x : Int32} (h : x ≤ 10) : ¬ 11 ≤ x := fun z => absurd (i_lt11.mpr h) (Int32.not_lt.mpr z)
theorem lead_lt {x : Int32} (h : ¬ 11 ≤ x) : x ≤ 10 := i_lt11.mp (Int32.not_le.mp h)
theorem lead_le {x : Int32} : x ≤ 10 ↔ x ≤ 10 := Iff.rfl
set_option maxHeartbeats 4000000 in
set_option maxRecDepth 20000 in
theorem c_X6_leads (l : Launch) (G : GB) (b : Nat → Nat) (y : Q3) (h : Nat) (hh : h < 11)  : CI l yX6_leads cX6_leads 3 .int 1 22 G [.ref (b 0), .int (nI h)] (wM G b y) (fun vR w' => vR = leadF (y 0) h ∧ w' = wM G b y) := by
  refine CI.mk (own := RX6) (by decide) rfl (Nat.le_of_ble_eq_true rfl) ?_
  intro X E ret
  show J X G 3 0 0 (wM G b y) [(0, .ref (b 0)), (1, .int (nI h))] 0 []
  refine J_iload_n E dX6_leads_0 rfl 1 rfl ?_
  refine J_iconst E dX6_leads_1 ic_1 ?_
  refine J_iadd E dX6_leads_2 ?_
  refine J_aload_n E dX6_leads_3 rfl 0 rfl ?_
  refine J_iload_n E dX6_leads_4 rfl 1 rfl ?_
  refine J_iconst E dX6_leads_5 ic_4 ?_
  refine J_cVi0 E (As := [.int (nI h), .int 4]) (c_X6_its l G b y h 4 (by omega) (by omega)) cl_X6_64 yo_X6_its dX6_leads_6 rfl rfl rfl (Nat.le_of_ble_eq_true rfl) (Nat.le_of_ble_eq_true rfl) rfl (Nat.le_of_ble_eq_true rfl) ⟨Nat.zero_le _, Nat.zero_le _⟩ ?_
  refine J_iadd E dX6_leads_9 ?_
  refine J_istore_n E (lv' := [(2, .int (((nI h) + 1) + (y 0 4 h))), (0, .ref (b 0)), (1, .int (nI h))]) dX6_leads_10 rfl (by decide) rfl ?_
  refine J_iload_n E dX6_leads_11 rfl 0 rfl ?_
  refine J_bipush E dX6_leads_12 bp_11 ?_
  refine J_icmp_ge E (tgt := 21) dX6_leads_14 (by decide) (fun c_14 => ?_) (fun c_14 => ?_)
  · skip
    refine J_iconst E dX6_leads_21 ic_m1 ?_
    exact ret _ _ _ _ ⟨by first | (rw [leadF, if_pos (lead_le.mp c_14)]) | (rw [leadF, if_neg (fun z => c_14 (lead_le.mpr z))]) | (rw [leadF, if_neg (fun z => absurd c_14 (lead_ge z))]) | (rw [leadF, if_pos (lead_lt c_14)]), (congrArg (wM G b) (rfl))⟩ rfl dX6_leads_22
  · skip
    refine J_iload_n E dX6_leads_17 rfl 0 rfl ?_
    refine J_goto E (tgt := 22) dX6_leads_18 (by decide) ?_
    exact ret _ _ _ _ ⟨by first | (rw [leadF, if_pos (lead_le.mp c_14)]) | (rw [leadF, if_neg (fun z => c_14 (lead_le.mpr z))]) | (rw [leadF, if_neg (fun z => absurd c_14 (lead_ge z))]) | (rw [leadF, if_pos (lead_lt c_14)]), (congrArg (wM G b) (rfl))⟩ rfl dX6_leads_22

set_option maxHeartbeats 4000000 in
set_option maxRecDepth 20000 in
theorem c_X6_lost (l : Launch) (G : GB) (b : Nat → Nat) (y : Q3) (v : Int32) : CV l yX6_lost cX6_lost 2 1 21 0 0 G [.ref (b 0), .int v] (wM G b y) (fun w' => w' = wM G b (upG y 0 (loseF (y 0) v))) := by
  refine CV.mk (own := RX6) (by decide) rfl (Nat.le_of_ble_eq_true rfl) ?_
  intro X E _ _ _ ret
  show J X G 2 0 0 (wM G b y) [(0, .ref (b 0)), (1, .int v)] 0 []
  refine J_aload_n E dX6_lost_0 rfl 0 rfl ?_
  refine gM0_X6_9 E dX6_lost_1 ?_
  refine J_iconst E dX6_lost_4 ic_4 ?_
  refine J_ldc E kn_X6_119 dX6_lost_5 ?_
  refine J_aload_n E dX6_lost_7 rfl 0 rfl ?_
  refine gM0_X6_9 E dX6_lost_8 ?_
  refine J_iconst E dX6_lost_11 ic_4 ?_
  refine lMs E (j := 4) (r := 7) (i := 4) (at_7 (by decide)) dX6_lost_12 ?_
  refine J_iload_n E dX6_lost_13 rfl 1 rfl ?_
  refine J_iadd E dX6_lost_14 ?_
  refine J_mmin E ml_X6_120 st_mmin ini_J9 co_mmin dX6_lost_15 (by decide) (Nat.le_of_ble_eq_true rfl) ⟨Nat.zero_le _, Nat.zero_le _⟩ ?_
  refine sMs E (j := 4) (r := 7) (i := 4) (at_7 (by decide)) dX6_lost_18 ?_
  exact ret _ _ _ (congrArg (wM G b) (rfl)) dX6_lost_19

set_option maxHeartbeats 4000000 in
set_option maxRecDepth 20000 in
theorem c_X6_comes (l : Launch) (G : GB) (b : Nat → Nat) (y : Q3) (h : Nat) (hh : h < 11) (v : Int32) : CV l yX6_comes cX6_comes 4 2 42 0 0 G [.ref (b 0), .int (nI h), .int v] (wM G b y) (fun w' => w' = wM G b (upG y 0 (comesR (y 0) h v))) := by
  refine CV.mk (own := RX6) (by decide) rfl (Nat.le_of_ble_eq_true rfl) ?_
  intro X E _ _ _ ret
  show J X G 4 0 0 (wM G b y) [(0, .ref (b 0)), (1, .int (nI h)), (2, .int v)] 0 []
  refine J_aload_n E dX6_comes_0 rfl 0 rfl ?_
  refine J_iload_n E dX6_comes_1 rfl 1 rfl ?_
  refine J_iconst E dX6_comes_2 ic_1 ?_
  refine J_cVi0 E (As := [.int (nI h), .int 1]) (c_X6_its l G b y h 1 (by omega) (by omega)) cl_X6_64 yo_X6_its dX6_comes_3 rfl rfl rfl (Nat.le_of_ble_eq_true rfl) (Nat.le_of_ble_eq_true rfl) rfl (Nat.le_of_ble_eq_true rfl) ⟨Nat.zero_le _, Nat.zero_le _⟩ ?_
  refine J_iload_n E dX6_comes_6 rfl 2 rfl ?_
  refine J_iadd E dX6_comes_7 ?_
  refine J_istore_n E (lv' := [(3, .int ((y 0 1 h) + v)), (0, .ref (b 0)), (1, .int (nI h)), (2, .int v)]) dX6_comes_8 rfl (by decide) rfl ?_
  refine J_aload_n E dX6_comes_9 rfl 1 rfl ?_
  refine J_iconst E dX6_comes_10 ic_0 ?_
  refine J_iload_n E dX6_comes_11 rfl 0 rfl ?_
  refine J_sipush E dX6_comes_12 sp_9999 ?_
  refine J_isub E dX6_comes_15 ?_
  refine J_mmax E ml_X6_68 st_mmax ini_J9 co_mmax dX6_comes_16 (by decide) (Nat.le_of_ble_eq_true rfl) ⟨Nat.zero_le _, Nat.zero_le _⟩ ?_
  refine J_cVv0 E (As := [.int (mx 0 (((y 0 1 h) + v) - 9999))]) (c_X6_lost l G b y (mx 0 (((y 0 1 h) + v) - 9999)) ) cl_X6_123 yo_X6_lost dX6_comes_19 rfl rfl rfl (Nat.le_of_ble_eq_true rfl) (Nat.le_of_ble_eq_true rfl) rfl (Nat.le_of_ble_eq_true rfl) ⟨Nat.zero_le _, Nat.zero_le _⟩ ?_
  refine J_aload_n E dX6_comes_22 rfl 1 rfl ?_
  refine J_iload_n E dX6_comes_23 rfl 2 rfl ?_
  refine J_iconst E dX6_comes_24 ic_1 ?_
  refine J_sipush E dX6_comes_25 sp_9999 ?_
  refine J_iload_n E dX6_comes_28 rfl 0 rfl ?_
  refine J_mmin E ml_X6_120 st_mmin ini_J9 co_mmin dX6_comes_29 (by decide) (Nat.le_of_ble_eq_true rfl) ⟨Nat.zero_le _, Nat.zero_le _⟩ ?_
  refine J_cVv0 E (As := [.int (nI h), .int 1, .int (mn 9999 ((y 0 1 h) + v))]) (c_X6_sets l G b (upG y 0 (loseF (y 0) (mx 0 (((y 0 1 h) + v) - 9999)))) h 1 (mn 9999 ((y 0 1 h) + v)) (by omega) (by omega)) cl_X6_43 yo_X6_sets dX6_comes_32 rfl rfl rfl (Nat.le_of_ble_eq_true rfl) (Nat.le_of_ble_eq_true rfl) rfl (Nat.le_of_ble_eq_true rfl) ⟨Nat.zero_le _, Nat.zero_le _⟩ ?_
  exact ret _ _ _ (congrArg (wM G b) (rfl)) dX6_comes_35

set_option maxHeartbeats 4000000 in
set_option maxRecDepth 20000 in
theorem c_X6_takesOwn (l : Launch) (G : GB) (b : Nat → Nat) (y : Q3) (h : Nat) (hh : h < 11)  : CV l yX6_takesOwn cX6_takesOwn 4 2 46 0 0 G [.ref (b 0), .int (nI h)] (wM G b y) (fun w' => w' = wM G b (upG (up3 y 5 2 0 (stepD (y 0) h (y 5 2 0))) 0 (takeQ (y 0) h))) := by
  refine CV.mk (own := RX6) (by decide) rfl (Nat.le_of_ble_eq_true rfl) ?_
  intro X E _ _ _ ret
  show J X G 4 0 0 (wM G b y) [(0, .ref (b 0)), (1, .int (nI h))] 0 []
  refine J_aload_n E dX6_takesOwn_0 rfl 0 rfl ?_
  refine J_iload_n E dX6_takesOwn_1 rfl 1 rfl ?_
  refine J_cVi0 E (As := [.int (nI h)]) (c_X6_uses l G b y h (by omega)) cl_X6_101 yo_X6_uses dX6_takesOwn_2 rfl rfl rfl (Nat.le_of_ble_eq_true rfl) (Nat.le_of_ble_eq_true rfl) rfl (Nat.le_of_ble_eq_true rfl) ⟨Nat.zero_le _, Nat.zero_le _⟩ ?_
  refine J_istore_n E (lv' := [(2, .int (useF ((y 0) 0 h) ((y 0) 2 h) ((y 0) 7 0))), (0, .ref (b 0)), (1, .int (nI h))]) dX6_takesOwn_5 rfl (by decide) rfl ?_
  refine J_aload_n E dX6_takesOwn_6 rfl 1 rfl ?_
  refine J_iload_n E dX6_takesOwn_7 rfl 2 rfl ?_
  refine J_iconst E dX6_takesOwn_8 ic_1 ?_
  refine J_cVi0 E (As := [.int (nI h), .int 1]) (c_X6_its l G b y h 1 (by omega) (by omega)) cl_X6_64 yo_X6_its dX6_takesOwn_9 rfl rfl rfl (Nat.le_of_ble_eq_true rfl) (Nat.le_of_ble_eq_true rfl) rfl (Nat.le_of_ble_eq_true rfl) ⟨Nat.zero_le _, Nat.zero_le _⟩ ?_
  refine J_iload_n E dX6_takesOwn_12 rfl 0 rfl ?_
  refine J_isub E dX6_takesOwn_13 ?_
  refine J_istore_n E (lv' := [(3, .int ((y 0 1 h) - (useF ((y 0) 0 h) ((y 0) 2 h) ((y 0) 7 0)))), (2, .int (useF ((y 0) 0 h) ((y 0) 2 h) ((y 0) 7 0))), (0, .ref (b 0)), (1, .int (nI h))]) dX6_takesOwn_14 rfl (by decide) rfl ?_
  refine J_iload_n E dX6_takesOwn_15 rfl 0 rfl ?_
  refine J_if_ge E (tgt := 51) dX6_takesOwn_16 (by decide) (fun c_16 => ?_) (fun c_16 => ?_)
  · skip
    have c_l : ¬ leftF (y 0) h < 0 := Int32.not_lt.mpr c_16
    refine J_aload_n E dX6_takesOwn_51 rfl 2 rfl ?_
    refine J_iload_n E dX6_takesOwn_52 rfl 3 rfl ?_
    refine J_iconst E dX6_takesOwn_53 ic_1 ?_
    refine J_iconst E dX6_takesOwn_54 ic_0 ?_
    refine J_iload_n E dX6_takesOwn_55 rfl 0 rfl ?_
    refine J_mmax E ml_X6_68 st_mmax ini_J9 co_mmax dX6_takesOwn_56 (by decide) (Nat.le_of_ble_eq_true rfl) ⟨Nat.zero_le _, Nat.zero_le _⟩ ?_
    refine J_cVv0 E (As := [.int (nI h), .int 1, .int (mx 0 ((y 0 1 h) - (useF ((y 0) 0 h) ((y 0) 2 h) ((y 0) 7 0))))]) (c_X6_sets l G b y h 1 (mx 0 ((y 0 1 h) - (useF ((y 0) 0 h) ((y 0) 2 h) ((y 0) 7 0)))) (by omega) (by omega)) cl_X6_43 yo_X6_sets dX6_takesOwn_59 rfl rfl rfl (Nat.le_of_ble_eq_true rfl) (Nat.le_of_ble_eq_true rfl) rfl (Nat.le_of_ble_eq_true rfl) ⟨Nat.zero_le _, Nat.zero_le _⟩ ?_
    exact ret _ _ _ (congrArg (wM G b) (by rw [takeQ, stepD]; first | (rw [if_neg c_l, if_neg c_l, up3_id]; rfl) | (rw [if_pos c_l, if_pos c_l, upG_upG]; rfl))) dX6_takesOwn_62
  · skip
    have c_l : leftF (y 0) h < 0 := Int32.not_le.mp c_16
    refine J_aload_n E dX6_takesOwn_19 rfl 2 rfl ?_
    refine J_dup E dX6_takesOwn_20 rfl ?_
    refine gM0_X6_131 E dX6_takesOwn_21 ?_
    refine J_iconst E dX6_takesOwn_24 ic_1 ?_
    refine J_iload_n E dX6_takesOwn_25 rfl 3 rfl ?_
    refine J_ishl E dX6_takesOwn_26 ?_
    refine J_ior E dX6_takesOwn_27 ?_
    refine pM0_X6_131 E dX6_takesOwn_28 ?_
    refine J_aload_n E dX6_takesOwn_31 rfl 2 rfl ?_
    refine J_iload_n E dX6_takesOwn_32 rfl 3 rfl ?_
    refine J_iconst E dX6_takesOwn_33 ic_5 ?_
    refine J_sipush E dX6_takesOwn_34 sp_9999 ?_
    refine J_aload_n E dX6_takesOwn_37 rfl 2 rfl ?_
    refine J_iload_n E dX6_takesOwn_38 rfl 3 rfl ?_
    refine J_iconst E dX6_takesOwn_39 ic_5 ?_
    refine J_cVi0 E (As := [.int (nI h), .int 5]) (c_X6_its l G b (up3 y 5 2 0 ((y 5 2 0) ||| (1 <<< ((nI h) &&& 31)))) h 5 (by omega) (by omega)) cl_X6_64 yo_X6_its dX6_takesOwn_40 rfl rfl rfl (Nat.le_of_ble_eq_true rfl) (Nat.le_of_ble_eq_true rfl) rfl (Nat.le_of_ble_eq_true rfl) ⟨Nat.zero_le _, Nat.zero_le _⟩ ?_
    refine J_top (x' := y 0 5 h) ((up3_row (by decide))) ?_
    refine J_iconst E dX6_takesOwn_43 ic_1 ?_
    refine J_iadd E dX6_takesOwn_44 ?_
    refine J_mmin E ml_X6_120 st_mmin ini_J9 co_mmin dX6_takesOwn_45 (by decide) (Nat.le_of_ble_eq_true rfl) ⟨Nat.zero_le _, Nat.zero_le _⟩ ?_
    refine J_cVv0 E (As := [.int (nI h), .int 5, .int (mn 9999 ((y 0 5 h) + 1))]) (c_X6_sets l G b (up3 y 5 2 0 ((y 5 2 0) ||| (1 <<< ((nI h) &&& 31)))) h 5 (mn 9999 ((y 0 5 h) + 1)) (by omega) (by omega)) cl_X6_43 yo_X6_sets dX6_takesOwn_48 rfl rfl rfl (Nat.le_of_ble_eq_true rfl) (Nat.le_of_ble_eq_true rfl) rfl (Nat.le_of_ble_eq_true rfl) ⟨Nat.zero_le _, Nat.zero_le _⟩ ?_
    refine J_aload_n E dX6_takesOwn_51 rfl 2 rfl ?_
    refine J_iload_n E dX6_takesOwn_52 rfl 3 rfl ?_
    refine J_iconst E dX6_takesOwn_53 ic_1 ?_
    refine J_iconst E dX6_takesOwn_54 ic_0 ?_
    refine J_iload_n E dX6_takesOwn_55 rfl 0 rfl ?_
    refine J_mmax E ml_X6_68 st_mmax ini_J9 co_mmax dX6_takesOwn_56 (by decide) (Nat.le_of_ble_eq_true rfl) ⟨Nat.zero_le _, Nat.zero_le _⟩ ?_
    refine J_cVv0 E (As := [.int (nI h), .int 1, .int (mx 0 ((y 0 1 h) - (useF ((y 0) 0 h) ((y 0) 2 h) ((y 0) 7 0))))]) (c_X6_sets l G b (upG (up3 y 5 2 0 ((y 5 2 0) ||| (1 <<< ((nI h) &&& 31)))) 0 (up2 (y 0) 5 h (mn 9999 ((y 0 5 h) + 1)))) h 1 (mx 0 ((y 0 1 h) - (useF ((y 0) 0 h) ((y 0) 2 h) ((y 0) 7 0)))) (by omega) (by omega)) cl_X6_43 yo_X6_sets dX6_takesOwn_59 rfl rfl rfl (Nat.le_of_ble_eq_true rfl) (Nat.le_of_ble_eq_true rfl) rfl (Nat.le_of_ble_eq_true rfl) ⟨Nat.zero_le _, Nat.zero_le _⟩ ?_
    exact ret _ _ _ (congrArg (wM G b) (by rw [takeQ, stepD]; first | (rw [if_neg c_l, if_neg c_l, up3_id]; rfl) | (rw [if_pos c_l, if_pos c_l, upG_upG]; rfl))) dX6_takesOwn_62

set_option maxHeartbeats 4000000 in
set_option maxRecDepth 20000 in
theorem c_X6_anHour (l : Launch) (G : GB) (b : Nat → Nat) (y : Q3) (hok : okQ (y 0)) : CV l yX6_anHour cX6_anHour 3 3 69 0 0 G [.ref (b 0)] (wM G b y) (fun w' => w' = wM G b (upG (upG y 5 (hd5 (y 0) (y 5))) 0 (hourR0 (y 0)))) := by
  refine CV.mk (own := RX6) (by decide) rfl (Nat.le_of_ble_eq_true rfl) ?_
  intro X E _ _ _ ret
  show J X G 3 0 0 (wM G b y) [(0, .ref (b 0))] 0 []
  obtain ⟨hsp, hkd⟩ := hok
  refine J_aload_n E dX6_anHour_0 rfl 0 rfl ?_
  refine J_iconst E dX6_anHour_1 ic_0 ?_
  refine pM0_X6_131 E dX6_anHour_2 ?_
  refine J_aload_n E dX6_anHour_5 rfl 0 rfl ?_
  refine J_iconst E dX6_anHour_6 ic_0 ?_
  refine J_aload_n E dX6_anHour_7 rfl 0 rfl ?_
  refine gM0_X6_9 E dX6_anHour_8 ?_
  refine J_iconst E dX6_anHour_11 ic_2 ?_
  refine lMs E (j := 2) (r := 7) (i := 2) (at_7 (by decide)) dX6_anHour_12 ?_
  refine J_top (x' := y 0 7 2) (up3_row (by decide)) ?_
  refine J_cVv0 E (As := [.int 0, .int (y 0 7 2)]) (c_X6_comes l G b (up3 y 5 2 0 0) 0 (by omega) (y 0 7 2) ) cl_X6_127 yo_X6_comes dX6_anHour_13 rfl rfl rfl (Nat.le_of_ble_eq_true rfl) (Nat.le_of_ble_eq_true rfl) rfl (Nat.le_of_ble_eq_true rfl) ⟨Nat.zero_le _, Nat.zero_le _⟩ ?_
  refine J_iconst E dX6_anHour_16 ic_0 ?_
  refine J_istore_n E (lv' := [(1, .int 0), (0, .ref (b 0))]) dX6_anHour_17 rfl (by decide) rfl ?_
  have lp18 : ∀ (fu : Nat) (i : Nat) (d : Q2) (r : Q2), (i ≤ 11) → (r = tkS (comesR (y 0) 0 (y 0 7 2)) i) → (d = up2 (y 5) 2 0 (tkD (comesR (y 0) 0 (y 0 7 2)) i)) → 11 - i < fu → J X G 3 0 0 (wM G b (upG (upG y 5 d) 0 r)) [(0, .ref (b 0)), (1, .int (nI i))] 18 [] := by
    intro fu
    induction fu with
    | zero => intro i d r hi hr hd hm; exact absurd hm (Nat.not_lt_zero _)
    | succ fu ih18 =>
      intro i d r hi hr hd hm
      refine J_iload_n E dX6_anHour_18 rfl 1 rfl ?_
      refine J_bipush E dX6_anHour_19 bp_11 ?_
      refine J_icmp_ge E (tgt := 35) dX6_anHour_21 (by decide) (fun c_21 => ?_) (fun c_21 => ?_)
      · skip
        have n_21 : 11 ≤ i := cmp_le (a := 11) (b := i) (by omega) (by omega) c_21
        refine J_iconst E dX6_anHour_35 ic_0 ?_
        refine J_istore_n E (lv' := [(1, .int 0), (0, .ref (b 0))]) dX6_anHour_36 rfl (by decide) rfl ?_
        have lp37 : ∀ (fu : Nat) (i : Nat) (d : Q2) (r : Q2), (i ≤ 11) → (r = kpS (hq1 (y 0)) i) → (d = upR (up2 (y 5) 2 0 (dryR (y 0))) 0 (gpS (hq1 (y 0)) (y 5 0) i)) → 11 - i < fu → J X G 3 0 0 (wM G b (upG (upG y 5 d) 0 r)) [(0, .ref (b 0)), (1, .int (nI i))] 37 [] := by
          intro fu
          induction fu with
          | zero => intro i d r hi hr hd hm; exact absurd hm (Nat.not_lt_zero _)
          | succ fu ih37 =>
            intro i d r hi hr hd hm
            refine J_iload_n E dX6_anHour_37 rfl 1 rfl ?_
            refine J_bipush E dX6_anHour_38 bp_11 ?_
            refine J_icmp_ge E (tgt := 90) dX6_anHour_40 (by decide) (fun c_40 => ?_) (fun c_40 => ?_)
            · skip
              have n_40 : 11 ≤ i := cmp_le (a := 11) (b := i) (by omega) (by omega) c_40
              refine J_iconst E dX6_anHour_90 ic_0 ?_
              refine J_istore_n E (lv' := [(1, .int 0), (0, .ref (b 0))]) dX6_anHour_91 rfl (by decide) rfl ?_
              have lp92 : ∀ (fu : Nat) (i : Nat) (d : Q2) (r : Q2), (i ≤ 11) → (r = ouS (kpS (hq1 (y 0)) 11) (gpS (hq1 (y 0)) (y 5 0) 11) i) → (d = hd5 (y 0) (y 5)) → (spOk r) → (r 0 = y 0 0) → 11 - i < fu → J X G 3 0 0 (wM G b (upG (upG y 5 d) 0 r)) [(0, .ref (b 0)), (1, .int (nI i))] 92 [] := by
                intro fu
                induction fu with
                | zero => intro i d r hi hr hd hs hk hm; exact absurd hm (Nat.not_lt_zero _)
                | succ fu ih92 =>
                  intro i d r hi hr hd hs hk hm
                  have hgo : d 0 = gpS (hq1 (y 0)) (y 5 0) 11 := by rw [hd]; rfl
                  refine J_iload_n E dX6_anHour_92 rfl 1 rfl ?_
                  refine J_bipush E dX6_anHour_93 bp_11 ?_
                  refine J_icmp_ge E (tgt := 178) dX6_anHour_95 (by decide) (fun c_95 => ?_) (fun c_95 => ?_)
                  · skip
                    have n_95 : 11 ≤ i := cmp_le (a := 11) (b := i) (by omega) (by omega) c_95
                    refine J_aload_n E dX6_anHour_178 rfl 0 rfl ?_
                    refine gM0_X6_9 E dX6_anHour_179 ?_
                    refine J_iconst E dX6_anHour_182 ic_0 ?_
                    refine J_dup2 E dX6_anHour_183 rfl rfl ?_
                    refine lMs E (j := 0) (r := 7) (i := 0) (at_7 (by decide)) dX6_anHour_184 ?_
                    refine J_top (x' := r 7 0) upG_s ?_
                    refine J_iconst E dX6_anHour_185 ic_1 ?_
                    refine J_iadd E dX6_anHour_186 ?_
                    refine sMs E (j := 0) (r := 7) (i := 0) (at_7 (by decide)) dX6_anHour_187 ?_
                    exact ret _ _ _ (congrArg (wM G b) (by rw [up3_upG, hr, hd, show i = 11 by omega]; exact congrArg (upG (upG y 5 (hd5 (y 0) (y 5))) 0) (hourR_g (y 0) (y 5 0)))) dX6_anHour_188
                  · skip
                    have n_95 : ¬ 11 ≤ i := cmp_nle (a := 11) (b := i) (by omega) (by omega) c_95
                    refine J_aload_n E dX6_anHour_98 rfl 0 rfl ?_
                    refine gM0_X6_22 E dX6_anHour_99 ?_
                    refine J_iload_n E dX6_anHour_102 rfl 1 rfl ?_
                    refine lM_5 E (j := i) dX6_anHour_103 (by omega) ?_
                    refine J_top (x' := d 0 i) (Eq.trans (upG_n (by decide)) upG_s) ?_
                    refine J_aload_n E dX6_anHour_104 rfl 0 rfl ?_
                    refine J_iload_n E dX6_anHour_105 rfl 1 rfl ?_
                    obtain ⟨kd, hkd1, hkd2⟩ := hkd i (by omega)
                    have hke : r 0 i = nI kd := by rw [hk]; exact hkd2
                    refine J_cVi0 E (As := [.int (nI i)]) (c_X6_loses l G b (upG (upG y 5 d) 0 r) i (by omega) _ hkd1 hke) cl_X6_107 yo_X6_loses dX6_anHour_106 rfl rfl rfl (Nat.le_of_ble_eq_true rfl) (Nat.le_of_ble_eq_true rfl) rfl (Nat.le_of_ble_eq_true rfl) ⟨Nat.zero_le _, Nat.zero_le _⟩ ?_
                    refine J_mmin E ml_X6_120 st_mmin ini_J9 co_mmin dX6_anHour_109 (by decide) (Nat.le_of_ble_eq_true rfl) ⟨Nat.zero_le _, Nat.zero_le _⟩ ?_
                    refine J_istore_n E (lv' := [(2, .int (mn (d 0 i) (loseK (r 0 i)))), (0, .ref (b 0)), (1, .int (nI i))]) dX6_anHour_112 rfl (by decide) rfl ?_
                    refine J_aload_n E dX6_anHour_113 rfl 1 rfl ?_
                    refine J_iload_n E dX6_anHour_114 rfl 0 rfl ?_
                    refine J_cVv0 E (As := [.int (mn (d 0 i) (loseK (r 0 i)))]) (c_X6_lost l G b (upG (upG y 5 d) 0 r) (mn (d 0 i) (loseK (r 0 i))) ) cl_X6_123 yo_X6_lost dX6_anHour_115 rfl rfl rfl (Nat.le_of_ble_eq_true rfl) (Nat.le_of_ble_eq_true rfl) rfl (Nat.le_of_ble_eq_true rfl) ⟨Nat.zero_le _, Nat.zero_le _⟩ ?_
                    refine J_aload_n E dX6_anHour_118 rfl 1 rfl ?_
                    refine J_iload_n E dX6_anHour_119 rfl 2 rfl ?_
                    refine J_cVi0 E (As := [.int (nI i)]) (c_X6_leads l G b (upG (upG (upG y 5 d) 0 r) 0 (loseF r (mn (d 0 i) (loseK (r 0 i))))) i (by omega)) cl_X6_110 yo_X6_leads dX6_anHour_120 rfl rfl rfl (Nat.le_of_ble_eq_true rfl) (Nat.le_of_ble_eq_true rfl) rfl (Nat.le_of_ble_eq_true rfl) ⟨Nat.zero_le _, Nat.zero_le _⟩ ?_
                    refine J_if_lt E (tgt := 146) dX6_anHour_123 (by decide) (fun c_123 => ?_) (fun c_123 => ?_)
                    · skip
                      refine J_aload_n E dX6_anHour_146 rfl 1 rfl ?_
                      refine gM0_X6_9 E dX6_anHour_147 ?_
                      refine J_iconst E dX6_anHour_150 ic_3 ?_
                      refine J_ldc E kn_X6_119 dX6_anHour_151 ?_
                      refine J_aload_n E dX6_anHour_153 rfl 1 rfl ?_
                      refine gM0_X6_9 E dX6_anHour_154 ?_
                      refine J_iconst E dX6_anHour_157 ic_3 ?_
                      refine lMs E (j := 3) (r := 7) (i := 3) (at_7 (by decide)) dX6_anHour_158 ?_
                      refine J_top (x' := (loseF r (mn (d 0 i) (loseK (r 0 i)))) 7 3) upG_s ?_
                      refine J_aload_n E dX6_anHour_159 rfl 1 rfl ?_
                      refine gM0_X6_22 E dX6_anHour_160 ?_
                      refine J_iload_n E dX6_anHour_163 rfl 2 rfl ?_
                      refine lM_5 E (j := i) dX6_anHour_164 (by omega) ?_
                      refine J_top (x' := d 0 i) (Eq.trans (upG_n (by decide)) (Eq.trans (upG_n (by decide)) upG_s)) ?_
                      refine J_iadd E dX6_anHour_165 ?_
                      refine J_iload_n E dX6_anHour_166 rfl 0 rfl ?_
                      refine J_isub E dX6_anHour_167 ?_
                      refine J_mmin E ml_X6_120 st_mmin ini_J9 co_mmin dX6_anHour_168 (by decide) (Nat.le_of_ble_eq_true rfl) ⟨Nat.zero_le _, Nat.zero_le _⟩ ?_
                      refine sMs E (j := 3) (r := 7) (i := 3) (at_7 (by decide)) dX6_anHour_171 ?_
                      refine J_iinc E (lv' := [(1, .int (nI (i + 1))), (2, .int (mn (d 0 i) (loseK (r 0 i)))), (0, .ref (b 0))]) dX6_anHour_172 2 rfl (nI_inc _) (by decide) rfl ?_
                      refine J_goto E (tgt := 92) dX6_anHour_175 (by decide) ?_
                      refine J_lv [2, 0] rfl ?_
                      exact ih92 (i + 1) d ((up3 (upG (upG (upG y 5 d) 0 r) 0 (loseF r (mn (d 0 i) (loseK (r 0 i))))) 0 7 3 (mn 999999 ((((loseF r (mn (d 0 i) (loseK (r 0 i)))) 7 3) + (d 0 i)) - (mn (d 0 i) (loseK (r 0 i)))))) 0) (by omega) (by first | (rw [ouS, ← hr, outQ, ← hgo, if_pos c_123]; rfl) | rw [ouS, ← hr, outQ, ← hgo, if_neg c_123, hwe, nI_clamp (by omega)]) hd (spOk_c hs (by first | rfl | (rw [comesR_4]; exact loseF_4 _ _))) (by first | exact hk | (rw [comesR_0]; exact hk)) (by omega)
                    · skip
                      obtain ⟨w, hw, hwe⟩ := lead_nn (spOk_c hs (loseF_4 _ _)) (by omega) c_123
                      refine J_aload_n E dX6_anHour_126 rfl 1 rfl ?_
                      refine J_aload_n E dX6_anHour_127 rfl 1 rfl ?_
                      refine J_iload_n E dX6_anHour_128 rfl 2 rfl ?_
                      refine J_cVi0 E (As := [.int (nI i)]) (c_X6_leads l G b (upG (upG (upG y 5 d) 0 r) 0 (loseF r (mn (d 0 i) (loseK (r 0 i))))) i (by omega)) cl_X6_110 yo_X6_leads dX6_anHour_129 rfl rfl rfl (Nat.le_of_ble_eq_true rfl) (Nat.le_of_ble_eq_true rfl) rfl (Nat.le_of_ble_eq_true rfl) ⟨Nat.zero_le _, Nat.zero_le _⟩ ?_
                      refine J_top (x' := nI w) (hwe) ?_
                      refine J_aload_n E dX6_anHour_132 rfl 1 rfl ?_
                      refine gM0_X6_22 E dX6_anHour_133 ?_
                      refine J_iload_n E dX6_anHour_136 rfl 2 rfl ?_
                      refine lM_5 E (j := i) dX6_anHour_137 (by omega) ?_
                      refine J_top (x' := d 0 i) (Eq.trans (upG_n (by decide)) (Eq.trans (upG_n (by decide)) upG_s)) ?_
                      refine J_iload_n E dX6_anHour_138 rfl 0 rfl ?_
                      refine J_isub E dX6_anHour_139 ?_
                      refine J_cVv0 E (As := [.int (nI w), .int ((d 0 i) - (mn (d 0 i) (loseK (r 0 i))))]) (c_X6_comes l G b (upG (upG (upG y 5 d) 0 r) 0 (loseF r (mn (d 0 i) (loseK (r 0 i))))) w (by omega) ((d 0 i) - (mn (d 0 i) (loseK (r 0 i)))) ) cl_X6_127 yo_X6_comes dX6_anHour_140 rfl rfl rfl (Nat.le_of_ble_eq_true rfl) (Nat.le_of_ble_eq_true rfl) rfl (Nat.le_of_ble_eq_true rfl) ⟨Nat.zero_le _, Nat.zero_le _⟩ ?_
                      refine J_goto E (tgt := 172) dX6_anHour_143 (by decide) ?_
                      refine J_iinc E (lv' := [(1, .int (nI (i + 1))), (2, .int (mn (d 0 i) (loseK (r 0 i)))), (0, .ref (b 0))]) dX6_anHour_172 2 rfl (nI_inc _) (by decide) rfl ?_
                      refine J_goto E (tgt := 92) dX6_anHour_175 (by decide) ?_
                      refine J_lv [2, 0] rfl ?_
                      exact ih92 (i + 1) d (comesR (loseF r (mn (d 0 i) (loseK (r 0 i)))) w ((d 0 i) - (mn (d 0 i) (loseK (r 0 i))))) (by omega) (by first | (rw [ouS, ← hr, outQ, ← hgo, if_pos c_123]; rfl) | rw [ouS, ← hr, outQ, ← hgo, if_neg c_123, hwe, nI_clamp (by omega)]) hd (spOk_c hs (by first | rfl | (rw [comesR_4]; exact loseF_4 _ _))) (by first | exact hk | (rw [comesR_0]; exact hk)) (by omega)
              refine J_lv [1, 0] rfl ?_
              exact lp92 _ 0 d r (by omega) (by rw [hr, show i = 11 by omega]; rfl) (by rw [hd, show i = 11 by omega]; rfl) (spOk_c hsp (by rw [hr, kpS_4, hq1, tkS_4, comesR_4])) (by rw [hr, kpS_0, hq1, tkS_0, comesR_0]) (Nat.lt_succ_self _)
            · skip
              have n_40 : ¬ 11 ≤ i := cmp_nle (a := 11) (b := i) (by omega) (by omega) c_40
              refine J_aload_n E dX6_anHour_43 rfl 0 rfl ?_
              refine gM0_X6_22 E dX6_anHour_44 ?_
              refine J_iload_n E dX6_anHour_47 rfl 1 rfl ?_
              refine J_iconst E dX6_anHour_48 ic_0 ?_
              refine J_aload_n E dX6_anHour_49 rfl 0 rfl ?_
              refine J_iload_n E dX6_anHour_50 rfl 1 rfl ?_
              refine J_iconst E dX6_anHour_51 ic_1 ?_
              refine J_cVi0 E (As := [.int (nI i), .int 1]) (c_X6_its l G b (upG (upG y 5 d) 0 r) i 1 (by omega) (by omega)) cl_X6_64 yo_X6_its dX6_anHour_52 rfl rfl rfl (Nat.le_of_ble_eq_true rfl) (Nat.le_of_ble_eq_true rfl) rfl (Nat.le_of_ble_eq_true rfl) ⟨Nat.zero_le _, Nat.zero_le _⟩ ?_
              refine J_top (x' := r 1 i) (upG_s) ?_
              refine J_aload_n E dX6_anHour_55 rfl 0 rfl ?_
              refine J_iload_n E dX6_anHour_56 rfl 1 rfl ?_
              refine J_cVi0 E (As := [.int (nI i)]) (c_X6_keeps l G b (upG (upG y 5 d) 0 r) i (by omega)) cl_X6_104 yo_X6_keeps dX6_anHour_57 rfl rfl rfl (Nat.le_of_ble_eq_true rfl) (Nat.le_of_ble_eq_true rfl) rfl (Nat.le_of_ble_eq_true rfl) ⟨Nat.zero_le _, Nat.zero_le _⟩ ?_
              refine J_isub E dX6_anHour_60 ?_
              refine J_mmax E ml_X6_68 st_mmax ini_J9 co_mmax dX6_anHour_61 (by decide) (Nat.le_of_ble_eq_true rfl) ⟨Nat.zero_le _, Nat.zero_le _⟩ ?_
              refine sM_5 E (j := i) dX6_anHour_64 (by omega) ?_
              refine J_aload_n E dX6_anHour_65 rfl 0 rfl ?_
              refine J_iload_n E dX6_anHour_66 rfl 1 rfl ?_
              refine J_iconst E dX6_anHour_67 ic_1 ?_
              refine J_aload_n E dX6_anHour_68 rfl 0 rfl ?_
              refine J_iload_n E dX6_anHour_69 rfl 1 rfl ?_
              refine J_iconst E dX6_anHour_70 ic_1 ?_
              refine J_cVi0 E (As := [.int (nI i), .int 1]) (c_X6_its l G b (up3 (upG (upG y 5 d) 0 r) 5 0 i (mx 0 ((r 1 i) - (keepF (r 0 i) (r 3 i) (r 2 i))))) i 1 (by omega) (by omega)) cl_X6_64 yo_X6_its dX6_anHour_71 rfl rfl rfl (Nat.le_of_ble_eq_true rfl) (Nat.le_of_ble_eq_true rfl) rfl (Nat.le_of_ble_eq_true rfl) ⟨Nat.zero_le _, Nat.zero_le _⟩ ?_
              refine J_top (x' := r 1 i) ((Eq.trans (up3_row (by decide)) upG_s)) ?_
              refine J_aload_n E dX6_anHour_74 rfl 0 rfl ?_
              refine gM0_X6_22 E dX6_anHour_75 ?_
              refine J_iload_n E dX6_anHour_78 rfl 1 rfl ?_
              refine lM_5 E (j := i) dX6_anHour_79 (by omega) ?_
              refine J_top (x' := mx 0 ((r 1 i) - (keepF (r 0 i) (r 3 i) (r 2 i)))) up3_s ?_
              refine J_isub E dX6_anHour_80 ?_
              refine J_cVv0 E (As := [.int (nI i), .int 1, .int ((r 1 i) - (mx 0 ((r 1 i) - (keepF (r 0 i) (r 3 i) (r 2 i)))))]) (c_X6_sets l G b (up3 (upG (upG y 5 d) 0 r) 5 0 i (mx 0 ((r 1 i) - (keepF (r 0 i) (r 3 i) (r 2 i))))) i 1 ((r 1 i) - (mx 0 ((r 1 i) - (keepF (r 0 i) (r 3 i) (r 2 i))))) (by omega) (by omega)) cl_X6_43 yo_X6_sets dX6_anHour_81 rfl rfl rfl (Nat.le_of_ble_eq_true rfl) (Nat.le_of_ble_eq_true rfl) rfl (Nat.le_of_ble_eq_true rfl) ⟨Nat.zero_le _, Nat.zero_le _⟩ ?_
              refine J_iinc E (lv' := [(1, .int (nI (i + 1))), (0, .ref (b 0))]) dX6_anHour_84 1 rfl (nI_inc _) (by decide) rfl ?_
              refine J_goto E (tgt := 37) dX6_anHour_87 (by decide) ?_
              refine J_lv [1, 0] rfl ?_
              exact ih37 (i + 1) ((up3 (upG (upG y 5 d) 0 r) 5 0 i (mx 0 ((r 1 i) - (keepF (r 0 i) (r 3 i) (r 2 i))))) 5) (up2 r 1 i ((r 1 i) - (mx 0 ((r 1 i) - (keepF (r 0 i) (r 3 i) (r 2 i)))))) (by omega) (by rw [hr]; rfl) (by rw [hd, hr]; exact up2_upR) (by omega)
        refine J_lv [1, 0] rfl ?_
        exact lp37 _ 0 d r (by omega) (by rw [hr, show i = 11 by omega]; rfl) (by rw [hd, show i = 11 by omega]; exact (upR_id (q := up2 (y 5) 2 0 (dryR (y 0))) (r := 0)).symm) (Nat.lt_succ_self _)
      · skip
        have n_21 : ¬ 11 ≤ i := cmp_nle (a := 11) (b := i) (by omega) (by omega) c_21
        refine J_aload_n E dX6_anHour_24 rfl 0 rfl ?_
        refine J_iload_n E dX6_anHour_25 rfl 1 rfl ?_
        refine J_cVv0 E (As := [.int (nI i)]) (c_X6_takesOwn l G b (upG (upG y 5 d) 0 r) i (by omega)) cl_X6_135 yo_X6_takesOwn dX6_anHour_26 rfl rfl rfl (Nat.le_of_ble_eq_true rfl) (Nat.le_of_ble_eq_true rfl) rfl (Nat.le_of_ble_eq_true rfl) ⟨Nat.zero_le _, Nat.zero_le _⟩ ?_
        refine J_iinc E (lv' := [(1, .int (nI (i + 1))), (0, .ref (b 0))]) dX6_anHour_29 1 rfl (nI_inc _) (by decide) rfl ?_
        refine J_goto E (tgt := 18) dX6_anHour_32 (by decide) ?_
        refine J_lv [1, 0] rfl ?_
        exact ih18 (i + 1) ((up3 (upG (upG y 5 d) 0 r) 5 2 0 (stepD r i (d 2 0))) 5) (takeQ r i) (by omega) (by rw [hr]; rfl) (by rw [hd, hr]; show up2 (up2 (y 5) 2 0 (tkD (comesR (y 0) 0 (y 0 7 2)) i)) 2 0 (stepD (tkS (comesR (y 0) 0 (y 0 7 2)) i) i (tkD (comesR (y 0) 0 (y 0 7 2)) i)) = up2 (y 5) 2 0 (tkD (comesR (y 0) 0 (y 0 7 2)) (i + 1)); rw [up2_up2]; rfl) (by omega)
  refine J_lv [1, 0] rfl ?_
  exact lp18 _ 0 ((up3 y 5 2 0 0) 5) (comesR (y 0) 0 (y 0 7 2)) (by omega) rfl rfl (Nat.lt_succ_self _)
set_option maxHeartbeats 4000000 in
set_option maxRecDepth 20000 in
theorem c_X5_copy_bad (l : Launch) (G : GB) (a : Nat → Nat) (x : Q3) (s f t o n : Int32) (hb : ¬ ((0 ≤ s ∧ s ≤ 3) ∧ 0 ≤ t ∧ t ≤ 3)) : CI l yX5_copy cX5_copy 8 .int 2 41 G [.ref (a 0), .int s, .int f, .int t, .int o, .int n] (wC G a x) (fun vR w' => vR = tellR 0 ∧ PubC G a (tellX x 0) w') := by
  refine CI.mk (own := RX5) (by decide) rfl (Nat.le_of_ble_eq_true rfl) ?_
  intro X E ret
  show J X G 8 0 0 (wC G a x) [(0, .ref (a 0)), (1, .int s), (2, .int f), (3, .int t), (4, .int o), (5, .int n)] 0 []
  refine J_iload_n E dX5_copy_0 rfl 1 rfl ?_
  refine J_cSiN E (As := [.int s]) (c_X5_isSheet l G s ) cl_X5_202 yo_X5_isSheet dX5_copy_1 rfl (Nat.le_of_ble_eq_true rfl) (Nat.le_of_ble_eq_true rfl) rfl (Nat.le_of_ble_eq_true rfl) ⟨Nat.zero_le _, Nat.zero_le _⟩ ?_
  refine J_if_eq E (tgt := 14) dX5_copy_4 (by decide) (fun c_4 => ?_) (fun c_4 => ?_)
  · skip
    have c_4 := bI_0 c_4
    refine J_aload_n E dX5_copy_14 rfl 0 rfl ?_
    refine J_iconst E dX5_copy_15 ic_0 ?_
    refine J_cVi0 E (As := [.int 0]) (c_X5_tell l G a x 0 (by omega)) cl_X5_64 yo_X5_tell dX5_copy_16 rfl rfl rfl (Nat.le_of_ble_eq_true rfl) (Nat.le_of_ble_eq_true rfl) rfl (Nat.le_of_ble_eq_true rfl) ⟨Nat.zero_le _, Nat.zero_le _⟩ ?_
    exact ret _ _ _ _ ⟨rfl, _, rfl, by intro g h2 h6; simp [upG, up3, up3R, h2, h6]⟩ rfl dX5_copy_19
  · skip
    have c_4 := bI_1 c_4
    refine J_iload_n E dX5_copy_7 rfl 3 rfl ?_
    refine J_cSiN E (As := [.int t]) (c_X5_isSheet l G t ) cl_X5_202 yo_X5_isSheet dX5_copy_8 rfl (Nat.le_of_ble_eq_true rfl) (Nat.le_of_ble_eq_true rfl) rfl (Nat.le_of_ble_eq_true rfl) ⟨Nat.zero_le _, Nat.zero_le _⟩ ?_
    refine J_if_ne E (tgt := 20) dX5_copy_11 (by decide) (fun c_11 => ?_) (fun c_11 => ?_)
    · skip
      have c_11 := bI_1 c_11
      exact absurd ⟨c_4, c_11⟩ hb
    · skip
      have c_11 := bI_0 c_11
      refine J_aload_n E dX5_copy_14 rfl 0 rfl ?_
      refine J_iconst E dX5_copy_15 ic_0 ?_
      refine J_cVi0 E (As := [.int 0]) (c_X5_tell l G a x 0 (by omega)) cl_X5_64 yo_X5_tell dX5_copy_16 rfl rfl rfl (Nat.le_of_ble_eq_true rfl) (Nat.le_of_ble_eq_true rfl) rfl (Nat.le_of_ble_eq_true rfl) ⟨Nat.zero_le _, Nat.zero_le _⟩ ?_
      exact ret _ _ _ _ ⟨rfl, _, rfl, by intro g h2 h6; simp [upG, up3, up3R, h2, h6]⟩ rfl dX5_copy_19

set_option maxHeartbeats 4000000 in
set_option maxRecDepth 20000 in
theorem c_X5_copy_miss (l : Launch) (G : GB) (a : Nat → Nat) (x : Q3) (i k : Nat) (f o n : Int32) (hi : i < 4) (hk : k < 4) (hb : x (8 + i) 1 0 = 0 ∨ x (8 + k) 1 0 = 0) : CI l yX5_copy cX5_copy 8 .int 2 41 G [.ref (a 0), .int (nI i), .int f, .int (nI k), .int o, .int n] (wC G a x) (fun vR w' => vR = tellR 5 ∧ PubC G a (tellX x 5) w') := by
  refine CI.mk (own := RX5) (by decide) rfl (Nat.le_of_ble_eq_true rfl) ?_
  intro X E ret
  show J X G 8 0 0 (wC G a x) [(0, .ref (a 0)), (1, .int (nI i)), (2, .int f), (3, .int (nI k)), (4, .int o), (5, .int n)] 0 []
  rcases (show (i = 0 ∧ k = 0) ∨ (i = 0 ∧ k = 1) ∨ (i = 0 ∧ k = 2) ∨ (i = 0 ∧ k = 3) ∨ (i = 1 ∧ k = 0) ∨ (i = 1 ∧ k = 1) ∨ (i = 1 ∧ k = 2) ∨ (i = 1 ∧ k = 3) ∨ (i = 2 ∧ k = 0) ∨ (i = 2 ∧ k = 1) ∨ (i = 2 ∧ k = 2) ∨ (i = 2 ∧ k = 3) ∨ (i = 3 ∧ k = 0) ∨ (i = 3 ∧ k = 1) ∨ (i = 3 ∧ k = 2) ∨ (i = 3 ∧ k = 3) by omega) with ⟨rfl, rfl⟩ | ⟨rfl, rfl⟩ | ⟨rfl, rfl⟩ | ⟨rfl, rfl⟩ | ⟨rfl, rfl⟩ | ⟨rfl, rfl⟩ | ⟨rfl, rfl⟩ | ⟨rfl, rfl⟩ | ⟨rfl, rfl⟩ | ⟨rfl, rfl⟩ | ⟨rfl, rfl⟩ | ⟨rfl, rfl⟩ | ⟨rfl, rfl⟩ | ⟨rfl, rfl⟩ | ⟨rfl, rfl⟩ | ⟨rfl, rfl⟩
  · skip
    refine J_iload_n E dX5_copy_0 rfl 1 rfl ?_
    refine J_cSiN E (As := [.int (nI 0)]) (c_X5_isSheet l G (nI 0) ) cl_X5_202 yo_X5_isSheet dX5_copy_1 rfl (Nat.le_of_ble_eq_true rfl) (Nat.le_of_ble_eq_true rfl) rfl (Nat.le_of_ble_eq_true rfl) ⟨Nat.zero_le _, Nat.zero_le _⟩ ?_
    refine J_if_eq E (tgt := 14) dX5_copy_4 (by decide) (fun c_4 => ?_) (fun c_4 => ?_)
    · skip
      have c_4 := bI_0 c_4
      exact absurd (in3 (by decide)) c_4
    · skip
      have c_4 := bI_1 c_4
      refine J_iload_n E dX5_copy_7 rfl 3 rfl ?_
      refine J_cSiN E (As := [.int (nI 0)]) (c_X5_isSheet l G (nI 0) ) cl_X5_202 yo_X5_isSheet dX5_copy_8 rfl (Nat.le_of_ble_eq_true rfl) (Nat.le_of_ble_eq_true rfl) rfl (Nat.le_of_ble_eq_true rfl) ⟨Nat.zero_le _, Nat.zero_le _⟩ ?_
      refine J_if_ne E (tgt := 20) dX5_copy_11 (by decide) (fun c_11 => ?_) (fun c_11 => ?_)
      · skip
        have c_11 := bI_1 c_11
        refine J_aload_n E dX5_copy_20 rfl 0 rfl ?_
        refine gC0_X5_44 E dX5_copy_21 ?_
        refine J_iload_n E dX5_copy_24 rfl 1 rfl ?_
        refine laC_30_0 E dX5_copy_25 ?_
        refine J_astore E (lv' := [(6, .ref (a 31)), (0, .ref (a 0)), (1, .int (nI 0)), (2, .int f), (3, .int (nI 0)), (4, .int o), (5, .int n)]) dX5_copy_26 (by decide) rfl ?_
        refine J_aload_n E dX5_copy_28 rfl 1 rfl ?_
        refine gC0_X5_44 E dX5_copy_29 ?_
        refine J_iload_n E dX5_copy_32 rfl 4 rfl ?_
        refine laC_30_0 E dX5_copy_33 ?_
        refine J_astore E (lv' := [(7, .ref (a 31)), (6, .ref (a 31)), (0, .ref (a 0)), (1, .int (nI 0)), (2, .int f), (3, .int (nI 0)), (4, .int o), (5, .int n)]) dX5_copy_34 (by decide) rfl ?_
        refine J_aload E dX5_copy_36 1 rfl ?_
        refine J_si8r E (As := []) (c_X2_isMissing l G (sh a 31) (x 8) ) cl_X5_212 yo_X2_isMissing dX5_copy_38 rfl (Nat.le_of_ble_eq_true rfl) (Nat.le_of_ble_eq_true rfl) rfl (Nat.le_of_ble_eq_true rfl) ⟨Nat.zero_le _, Nat.zero_le _⟩ ?_
        refine J_if_ne E (tgt := 52) dX5_copy_41 (by decide) (fun c_41 => ?_) (fun c_41 => ?_)
        · skip
          have c_41 := bI_1 c_41
          refine J_aload_n E dX5_copy_52 rfl 2 rfl ?_
          refine J_iconst E dX5_copy_53 ic_5 ?_
          refine J_cVi0 E (As := [.int 5]) (c_X5_tell l G a x 5 (by omega)) cl_X5_64 yo_X5_tell dX5_copy_54 rfl rfl rfl (Nat.le_of_ble_eq_true rfl) (Nat.le_of_ble_eq_true rfl) rfl (Nat.le_of_ble_eq_true rfl) ⟨Nat.zero_le _, Nat.zero_le _⟩ ?_
          exact ret _ _ _ _ ⟨rfl, _, rfl, by intro g h2 h6; simp [upG, up3, up3R, h2, h6]⟩ rfl dX5_copy_57
        · skip
          have c_41 := bI_0 c_41
          refine J_aload E dX5_copy_44 0 rfl ?_
          refine J_si8r E (As := []) (c_X2_isMissing l G (sh a 31) (x 8) ) cl_X5_212 yo_X2_isMissing dX5_copy_46 rfl (Nat.le_of_ble_eq_true rfl) (Nat.le_of_ble_eq_true rfl) rfl (Nat.le_of_ble_eq_true rfl) ⟨Nat.zero_le _, Nat.zero_le _⟩ ?_
          refine J_if_eq E (tgt := 58) dX5_copy_49 (by decide) (fun c_49 => ?_) (fun c_49 => ?_)
          · skip
            have c_49 := bI_0 c_49
            exact absurd hb (fun z => z.elim c_41 c_49)
          · skip
            have c_49 := bI_1 c_49
            refine J_aload_n E dX5_copy_52 rfl 2 rfl ?_
            refine J_iconst E dX5_copy_53 ic_5 ?_
            refine J_cVi0 E (As := [.int 5]) (c_X5_tell l G a x 5 (by omega)) cl_X5_64 yo_X5_tell dX5_copy_54 rfl rfl rfl (Nat.le_of_ble_eq_true rfl) (Nat.le_of_ble_eq_true rfl) rfl (Nat.le_of_ble_eq_true rfl) ⟨Nat.zero_le _, Nat.zero_le _⟩ ?_
            exact ret _ _ _ _ ⟨rfl, _, rfl, by intro g h2 h6; simp [upG, up3, up3R, h2, h6]⟩ rfl dX5_copy_57
      · skip
        have c_11 := bI_0 c_11
        exact absurd (in3 (by decide)) c_11
  · skip
    refine J_iload_n E dX5_copy_0 rfl 1 rfl ?_
    refine J_cSiN E (As := [.int (nI 0)]) (c_X5_isSheet l G (nI 0) ) cl_X5_202 yo_X5_isSheet dX5_copy_1 rfl (Nat.le_of_ble_eq_true rfl) (Nat.le_of_ble_eq_true rfl) rfl (Nat.le_of_ble_eq_true rfl) ⟨Nat.zero_le _, Nat.zero_le _⟩ ?_
    refine J_if_eq E (tgt := 14) dX5_copy_4 (by decide) (fun c_4 => ?_) (fun c_4 => ?_)
    · skip
      have c_4 := bI_0 c_4
      exact absurd (in3 (by decide)) c_4
    · skip
      have c_4 := bI_1 c_4
      refine J_iload_n E dX5_copy_7 rfl 3 rfl ?_
      refine J_cSiN E (As := [.int (nI 1)]) (c_X5_isSheet l G (nI 1) ) cl_X5_202 yo_X5_isSheet dX5_copy_8 rfl (Nat.le_of_ble_eq_true rfl) (Nat.le_of_ble_eq_true rfl) rfl (Nat.le_of_ble_eq_true rfl) ⟨Nat.zero_le _, Nat.zero_le _⟩ ?_
      refine J_if_ne E (tgt := 20) dX5_copy_11 (by decide) (fun c_11 => ?_) (fun c_11 => ?_)
      · skip
        have c_11 := bI_1 c_11
        refine J_aload_n E dX5_copy_20 rfl 0 rfl ?_
        refine gC0_X5_44 E dX5_copy_21 ?_
        refine J_iload_n E dX5_copy_24 rfl 1 rfl ?_
        refine laC_30_0 E dX5_copy_25 ?_
        refine J_astore E (lv' := [(6, .ref (a 31)), (0, .ref (a 0)), (1, .int (nI 0)), (2, .int f), (3, .int (nI 1)), (4, .int o), (5, .int n)]) dX5_copy_26 (by decide) rfl ?_
        refine J_aload_n E dX5_copy_28 rfl 1 rfl ?_
        refine gC0_X5_44 E dX5_copy_29 ?_
        refine J_iload_n E dX5_copy_32 rfl 4 rfl ?_
        refine laC_30_1 E dX5_copy_33 ?_
        refine J_astore E (lv' := [(7, .ref (a 33)), (6, .ref (a 31)), (0, .ref (a 0)), (1, .int (nI 0)), (2, .int f), (3, .int (nI 1)), (4, .int o), (5, .int n)]) dX5_copy_34 (by decide) rfl ?_
        refine J_aload E dX5_copy_36 1 rfl ?_
        refine J_si8r E (As := []) (c_X2_isMissing l G (sh a 31) (x 8) ) cl_X5_212 yo_X2_isMissing dX5_copy_38 rfl (Nat.le_of_ble_eq_true rfl) (Nat.le_of_ble_eq_true rfl) rfl (Nat.le_of_ble_eq_true rfl) ⟨Nat.zero_le _, Nat.zero_le _⟩ ?_
        refine J_if_ne E (tgt := 52) dX5_copy_41 (by decide) (fun c_41 => ?_) (fun c_41 => ?_)
        · skip
          have c_41 := bI_1 c_41
          refine J_aload_n E dX5_copy_52 rfl 2 rfl ?_
          refine J_iconst E dX5_copy_53 ic_5 ?_
          refine J_cVi0 E (As := [.int 5]) (c_X5_tell l G a x 5 (by omega)) cl_X5_64 yo_X5_tell dX5_copy_54 rfl rfl rfl (Nat.le_of_ble_eq_true rfl) (Nat.le_of_ble_eq_true rfl) rfl (Nat.le_of_ble_eq_true rfl) ⟨Nat.zero_le _, Nat.zero_le _⟩ ?_
          exact ret _ _ _ _ ⟨rfl, _, rfl, by intro g h2 h6; simp [upG, up3, up3R, h2, h6]⟩ rfl dX5_copy_57
        · skip
          have c_41 := bI_0 c_41
          refine J_aload E dX5_copy_44 0 rfl ?_
          refine J_si9r E (As := []) (c_X2_isMissing l G (sh a 33) (x 9) ) cl_X5_212 yo_X2_isMissing dX5_copy_46 rfl (Nat.le_of_ble_eq_true rfl) (Nat.le_of_ble_eq_true rfl) rfl (Nat.le_of_ble_eq_true rfl) ⟨Nat.zero_le _, Nat.zero_le _⟩ ?_
          refine J_if_eq E (tgt := 58) dX5_copy_49 (by decide) (fun c_49 => ?_) (fun c_49 => ?_)
          · skip
            have c_49 := bI_0 c_49
            exact absurd hb (fun z => z.elim c_41 c_49)
          · skip
            have c_49 := bI_1 c_49
            refine J_aload_n E dX5_copy_52 rfl 2 rfl ?_
            refine J_iconst E dX5_copy_53 ic_5 ?_
            refine J_cVi0 E (As := [.int 5]) (c_X5_tell l G a x 5 (by omega)) cl_X5_64 yo_X5_tell dX5_copy_54 rfl rfl rfl (Nat.le_of_ble_eq_true rfl) (Nat.le_of_ble_eq_true rfl) rfl (Nat.le_of_ble_eq_true rfl) ⟨Nat.zero_le _, Nat.zero_le _⟩ ?_
            exact ret _ _ _ _ ⟨rfl, _, rfl, by intro g h2 h6; simp [upG, up3, up3R, h2, h6]⟩ rfl dX5_copy_57
      · skip
        have c_11 := bI_0 c_11
        exact absurd (in3 (by decide)) c_11
  · skip
    refine J_iload_n E dX5_copy_0 rfl 1 rfl ?_
    refine J_cSiN E (As := [.int (nI 0)]) (c_X5_isSheet l G (nI 0) ) cl_X5_202 yo_X5_isSheet dX5_copy_1 rfl (Nat.le_of_ble_eq_true rfl) (Nat.le_of_ble_eq_true rfl) rfl (Nat.le_of_ble_eq_true rfl) ⟨Nat.zero_le _, Nat.zero_le _⟩ ?_
    refine J_if_eq E (tgt := 14) dX5_copy_4 (by decide) (fun c_4 => ?_) (fun c_4 => ?_)
    · skip
      have c_4 := bI_0 c_4
      exact absurd (in3 (by decide)) c_4
    · skip
      have c_4 := bI_1 c_4
      refine J_iload_n E dX5_copy_7 rfl 3 rfl ?_
      refine J_cSiN E (As := [.int (nI 2)]) (c_X5_isSheet l G (nI 2) ) cl_X5_202 yo_X5_isSheet dX5_copy_8 rfl (Nat.le_of_ble_eq_true rfl) (Nat.le_of_ble_eq_true rfl) rfl (Nat.le_of_ble_eq_true rfl) ⟨Nat.zero_le _, Nat.zero_le _⟩ ?_
      refine J_if_ne E (tgt := 20) dX5_copy_11 (by decide) (fun c_11 => ?_) (fun c_11 => ?_)
      · skip
        have c_11 := bI_1 c_11
        refine J_aload_n E dX5_copy_20 rfl 0 rfl ?_
        refine gC0_X5_44 E dX5_copy_21 ?_
        refine J_iload_n E dX5_copy_24 rfl 1 rfl ?_
        refine laC_30_0 E dX5_copy_25 ?_
        refine J_astore E (lv' := [(6, .ref (a 31)), (0, .ref (a 0)), (1, .int (nI 0)), (2, .int f), (3, .int (nI 2)), (4, .int o), (5, .int n)]) dX5_copy_26 (by decide) rfl ?_
        refine J_aload_n E dX5_copy_28 rfl 1 rfl ?_
        refine gC0_X5_44 E dX5_copy_29 ?_
        refine J_iload_n E dX5_copy_32 rfl 4 rfl ?_
        refine laC_30_2 E dX5_copy_33 ?_
        refine J_astore E (lv' := [(7, .ref (a 35)), (6, .ref (a 31)), (0, .ref (a 0)), (1, .int (nI 0)), (2, .int f), (3, .int (nI 2)), (4, .int o), (5, .int n)]) dX5_copy_34 (by decide) rfl ?_
        refine J_aload E dX5_copy_36 1 rfl ?_
        refine J_si8r E (As := []) (c_X2_isMissing l G (sh a 31) (x 8) ) cl_X5_212 yo_X2_isMissing dX5_copy_38 rfl (Nat.le_of_ble_eq_true rfl) (Nat.le_of_ble_eq_true rfl) rfl (Nat.le_of_ble_eq_true rfl) ⟨Nat.zero_le _, Nat.zero_le _⟩ ?_
        refine J_if_ne E (tgt := 52) dX5_copy_41 (by decide) (fun c_41 => ?_) (fun c_41 => ?_)
        · skip
          have c_41 := bI_1 c_41
          refine J_aload_n E dX5_copy_52 rfl 2 rfl ?_
          refine J_iconst E dX5_copy_53 ic_5 ?_
          refine J_cVi0 E (As := [.int 5]) (c_X5_tell l G a x 5 (by omega)) cl_X5_64 yo_X5_tell dX5_copy_54 rfl rfl rfl (Nat.le_of_ble_eq_true rfl) (Nat.le_of_ble_eq_true rfl) rfl (Nat.le_of_ble_eq_true rfl) ⟨Nat.zero_le _, Nat.zero_le _⟩ ?_
          exact ret _ _ _ _ ⟨rfl, _, rfl, by intro g h2 h6; simp [upG, up3, up3R, h2, h6]⟩ rfl dX5_copy_57
        · skip
          have c_41 := bI_0 c_41
          refine J_aload E dX5_copy_44 0 rfl ?_
          refine J_si10r E (As := []) (c_X2_isMissing l G (sh a 35) (x 10) ) cl_X5_212 yo_X2_isMissing dX5_copy_46 rfl (Nat.le_of_ble_eq_true rfl) (Nat.le_of_ble_eq_true rfl) rfl (Nat.le_of_ble_eq_true rfl) ⟨Nat.zero_le _, Nat.zero_le _⟩ ?_
          refine J_if_eq E (tgt := 58) dX5_copy_49 (by decide) (fun c_49 => ?_) (fun c_49 => ?_)
          · skip
            have c_49 := bI_0 c_49
            exact absurd hb (fun z => z.elim c_41 c_49)
          · skip
            have c_49 := bI_1 c_49
            refine J_aload_n E dX5_copy_52 rfl 2 rfl ?_
            refine J_iconst E dX5_copy_53 ic_5 ?_
            refine J_cVi0 E (As := [.int 5]) (c_X5_tell l G a x 5 (by omega)) cl_X5_64 yo_X5_tell dX5_copy_54 rfl rfl rfl (Nat.le_of_ble_eq_true rfl) (Nat.le_of_ble_eq_true rfl) rfl (Nat.le_of_ble_eq_true rfl) ⟨Nat.zero_le _, Nat.zero_le _⟩ ?_
            exact ret _ _ _ _ ⟨rfl, _, rfl, by intro g h2 h6; simp [upG, up3, up3R, h2, h6]⟩ rfl dX5_copy_57
      · skip
        have c_11 := bI_0 c_11
        exact absurd (in3 (by decide)) c_11
  · skip
    refine J_iload_n E dX5_copy_0 rfl 1 rfl ?_
    refine J_cSiN E (As := [.int (nI 0)]) (c_X5_isSheet l G (nI 0) ) cl_X5_202 yo_X5_isSheet dX5_copy_1 rfl (Nat.le_of_ble_eq_true rfl) (Nat.le_of_ble_eq_true rfl) rfl (Nat.le_of_ble_eq_true rfl) ⟨Nat.zero_le _, Nat.zero_le _⟩ ?_
    refine J_if_eq E (tgt := 14) dX5_copy_4 (by decide) (fun c_4 => ?_) (fun c_4 => ?_)
    · skip
      have c_4 := bI_0 c_4
      exact absurd (in3 (by decide)) c_4
    · skip
      have c_4 := bI_1 c_4
      refine J_iload_n E dX5_copy_7 rfl 3 rfl ?_
      refine J_cSiN E (As := [.int (nI 3)]) (c_X5_isSheet l G (nI 3) ) cl_X5_202 yo_X5_isSheet dX5_copy_8 rfl (Nat.le_of_ble_eq_true rfl) (Nat.le_of_ble_eq_true rfl) rfl (Nat.le_of_ble_eq_true rfl) ⟨Nat.zero_le _, Nat.zero_le _⟩ ?_
      refine J_if_ne E (tgt := 20) dX5_copy_11 (by decide) (fun c_11 => ?_) (fun c_11 => ?_)
      · skip
        have c_11 := bI_1 c_11
        refine J_aload_n E dX5_copy_20 rfl 0 rfl ?_
        refine gC0_X5_44 E dX5_copy_21 ?_
        refine J_iload_n E dX5_copy_24 rfl 1 rfl ?_
        refine laC_30_0 E dX5_copy_25 ?_
        refine J_astore E (lv' := [(6, .ref (a 31)), (0, .ref (a 0)), (1, .int (nI 0)), (2, .int f), (3, .int (nI 3)), (4, .int o), (5, .int n)]) dX5_copy_26 (by decide) rfl ?_
        refine J_aload_n E dX5_copy_28 rfl 1 rfl ?_
        refine gC0_X5_44 E dX5_copy_29 ?_
        refine J_iload_n E dX5_copy_32 rfl 4 rfl ?_
        refine laC_30_3 E dX5_copy_33 ?_
        refine J_astore E (lv' := [(7, .ref (a 37)), (6, .ref (a 31)), (0, .ref (a 0)), (1, .int (nI 0)), (2, .int f), (3, .int (nI 3)), (4, .int o), (5, .int n)]) dX5_copy_34 (by decide) rfl ?_
        refine J_aload E dX5_copy_36 1 rfl ?_
        refine J_si8r E (As := []) (c_X2_isMissing l G (sh a 31) (x 8) ) cl_X5_212 yo_X2_isMissing dX5_copy_38 rfl (Nat.le_of_ble_eq_true rfl) (Nat.le_of_ble_eq_true rfl) rfl (Nat.le_of_ble_eq_true rfl) ⟨Nat.zero_le _, Nat.zero_le _⟩ ?_
        refine J_if_ne E (tgt := 52) dX5_copy_41 (by decide) (fun c_41 => ?_) (fun c_41 => ?_)
        · skip
          have c_41 := bI_1 c_41
          refine J_aload_n E dX5_copy_52 rfl 2 rfl ?_
          refine J_iconst E dX5_copy_53 ic_5 ?_
          refine J_cVi0 E (As := [.int 5]) (c_X5_tell l G a x 5 (by omega)) cl_X5_64 yo_X5_tell dX5_copy_54 rfl rfl rfl (Nat.le_of_ble_eq_true rfl) (Nat.le_of_ble_eq_true rfl) rfl (Nat.le_of_ble_eq_true rfl) ⟨Nat.zero_le _, Nat.zero_le _⟩ ?_
          exact ret _ _ _ _ ⟨rfl, _, rfl, by intro g h2 h6; simp [upG, up3, up3R, h2, h6]⟩ rfl dX5_copy_57
        · skip
          have c_41 := bI_0 c_41
          refine J_aload E dX5_copy_44 0 rfl ?_
          refine J_si11r E (As := []) (c_X2_isMissing l G (sh a 37) (x 11) ) cl_X5_212 yo_X2_isMissing dX5_copy_46 rfl (Nat.le_of_ble_eq_true rfl) (Nat.le_of_ble_eq_true rfl) rfl (Nat.le_of_ble_eq_true rfl) ⟨Nat.zero_le _, Nat.zero_le _⟩ ?_
          refine J_if_eq E (tgt := 58) dX5_copy_49 (by decide) (fun c_49 => ?_) (fun c_49 => ?_)
          · skip
            have c_49 := bI_0 c_49
            exact absurd hb (fun z => z.elim c_41 c_49)
          · skip
            have c_49 := bI_1 c_49
            refine J_aload_n E dX5_copy_52 rfl 2 rfl ?_
            refine J_iconst E dX5_copy_53 ic_5 ?_
            refine J_cVi0 E (As := [.int 5]) (c_X5_tell l G a x 5 (by omega)) cl_X5_64 yo_X5_tell dX5_copy_54 rfl rfl rfl (Nat.le_of_ble_eq_true rfl) (Nat.le_of_ble_eq_true rfl) rfl (Nat.le_of_ble_eq_true rfl) ⟨Nat.zero_le _, Nat.zero_le _⟩ ?_
            exact ret _ _ _ _ ⟨rfl, _, rfl, by intro g h2 h6; simp [upG, up3, up3R, h2, h6]⟩ rfl dX5_copy_57
      · skip
        have c_11 := bI_0 c_11
        exact absurd (in3 (by decide)) c_11
  · skip
    refine J_iload_n E dX5_copy_0 rfl 1 rfl ?_
    refine J_cSiN E (As := [.int (nI 1)]) (c_X5_isSheet l G (nI 1) ) cl_X5_202 yo_X5_isSheet dX5_copy_1 rfl (Nat.le_of_ble_eq_true rfl) (Nat.le_of_ble_eq_true rfl) rfl (Nat.le_of_ble_eq_true rfl) ⟨Nat.zero_le _, Nat.zero_le _⟩ ?_
    refine J_if_eq E (tgt := 14) dX5_copy_4 (by decide) (fun c_4 => ?_) (fun c_4 => ?_)
    · skip
      have c_4 := bI_0 c_4
      exact absurd (in3 (by decide)) c_4
    · skip
      have c_4 := bI_1 c_4
      refine J_iload_n E dX5_copy_7 rfl 3 rfl ?_
      refine J_cSiN E (As := [.int (nI 0)]) (c_X5_isSheet l G (nI 0) ) cl_X5_202 yo_X5_isSheet dX5_copy_8 rfl (Nat.le_of_ble_eq_true rfl) (Nat.le_of_ble_eq_true rfl) rfl (Nat.le_of_ble_eq_true rfl) ⟨Nat.zero_le _, Nat.zero_le _⟩ ?_
      refine J_if_ne E (tgt := 20) dX5_copy_11 (by decide) (fun c_11 => ?_) (fun c_11 => ?_)
      · skip
        have c_11 := bI_1 c_11
        refine J_aload_n E dX5_copy_20 rfl 0 rfl ?_
        refine gC0_X5_44 E dX5_copy_21 ?_
        refine J_iload_n E dX5_copy_24 rfl 1 rfl ?_
        refine laC_30_1 E dX5_copy_25 ?_
        refine J_astore E (lv' := [(6, .ref (a 33)), (0, .ref (a 0)), (1, .int (nI 1)), (2, .int f), (3, .int (nI 0)), (4, .int o), (5, .int n)]) dX5_copy_26 (by decide) rfl ?_
        refine J_aload_n E dX5_copy_28 rfl 1 rfl ?_
        refine gC0_X5_44 E dX5_copy_29 ?_
        refine J_iload_n E dX5_copy_32 rfl 4 rfl ?_
        refine laC_30_0 E dX5_copy_33 ?_
        refine J_astore E (lv' := [(7, .ref (a 31)), (6, .ref (a 33)), (0, .ref (a 0)), (1, .int (nI 1)), (2, .int f), (3, .int (nI 0)), (4, .int o), (5, .int n)]) dX5_copy_34 (by decide) rfl ?_
        refine J_aload E dX5_copy_36 1 rfl ?_
        refine J_si9r E (As := []) (c_X2_isMissing l G (sh a 33) (x 9) ) cl_X5_212 yo_X2_isMissing dX5_copy_38 rfl (Nat.le_of_ble_eq_true rfl) (Nat.le_of_ble_eq_true rfl) rfl (Nat.le_of_ble_eq_true rfl) ⟨Nat.zero_le _, Nat.zero_le _⟩ ?_
        refine J_if_ne E (tgt := 52) dX5_copy_41 (by decide) (fun c_41 => ?_) (fun c_41 => ?_)
        · skip
          have c_41 := bI_1 c_41
          refine J_aload_n E dX5_copy_52 rfl 2 rfl ?_
          refine J_iconst E dX5_copy_53 ic_5 ?_
          refine J_cVi0 E (As := [.int 5]) (c_X5_tell l G a x 5 (by omega)) cl_X5_64 yo_X5_tell dX5_copy_54 rfl rfl rfl (Nat.le_of_ble_eq_true rfl) (Nat.le_of_ble_eq_true rfl) rfl (Nat.le_of_ble_eq_true rfl) ⟨Nat.zero_le _, Nat.zero_le _⟩ ?_
          exact ret _ _ _ _ ⟨rfl, _, rfl, by intro g h2 h6; simp [upG, up3, up3R, h2, h6]⟩ rfl dX5_copy_57
        · skip
          have c_41 := bI_0 c_41
          refine J_aload E dX5_copy_44 0 rfl ?_
          refine J_si8r E (As := []) (c_X2_isMissing l G (sh a 31) (x 8) ) cl_X5_212 yo_X2_isMissing dX5_copy_46 rfl (Nat.le_of_ble_eq_true rfl) (Nat.le_of_ble_eq_true rfl) rfl (Nat.le_of_ble_eq_true rfl) ⟨Nat.zero_le _, Nat.zero_le _⟩ ?_
          refine J_if_eq E (tgt := 58) dX5_copy_49 (by decide) (fun c_49 => ?_) (fun c_49 => ?_)
          · skip
            have c_49 := bI_0 c_49
            exact absurd hb (fun z => z.elim c_41 c_49)
          · skip
            have c_49 := bI_1 c_49
            refine J_aload_n E dX5_copy_52 rfl 2 rfl ?_
            refine J_iconst E dX5_copy_53 ic_5 ?_
            refine J_cVi0 E (As := [.int 5]) (c_X5_tell l G a x 5 (by omega)) cl_X5_64 yo_X5_tell dX5_copy_54 rfl rfl rfl (Nat.le_of_ble_eq_true rfl) (Nat.le_of_ble_eq_true rfl) rfl (Nat.le_of_ble_eq_true rfl) ⟨Nat.zero_le _, Nat.zero_le _⟩ ?_
            exact ret _ _ _ _ ⟨rfl, _, rfl, by intro g h2 h6; simp [upG, up3, up3R, h2, h6]⟩ rfl dX5_copy_57
      · skip
        have c_11 := bI_0 c_11
        exact absurd (in3 (by decide)) c_11
  · skip
    refine J_iload_n E dX5_copy_0 rfl 1 rfl ?_
    refine J_cSiN E (As := [.int (nI 1)]) (c_X5_isSheet l G (nI 1) ) cl_X5_202 yo_X5_isSheet dX5_copy_1 rfl (Nat.le_of_ble_eq_true rfl) (Nat.le_of_ble_eq_true rfl) rfl (Nat.le_of_ble_eq_true rfl) ⟨Nat.zero_le _, Nat.zero_le _⟩ ?_
    refine J_if_eq E (tgt := 14) dX5_copy_4 (by decide) (fun c_4 => ?_) (fun c_4 => ?_)
    · skip
      have c_4 := bI_0 c_4
      exact absurd (in3 (by decide)) c_4
    · skip
      have c_4 := bI_1 c_4
      refine J_iload_n E dX5_copy_7 rfl 3 rfl ?_
      refine J_cSiN E (As := [.int (nI 1)]) (c_X5_isSheet l G (nI 1) ) cl_X5_202 yo_X5_isSheet dX5_copy_8 rfl (Nat.le_of_ble_eq_true rfl) (Nat.le_of_ble_eq_true rfl) rfl (Nat.le_of_ble_eq_true rfl) ⟨Nat.zero_le _, Nat.zero_le _⟩ ?_
      refine J_if_ne E (tgt := 20) dX5_copy_11 (by decide) (fun c_11 => ?_) (fun c_11 => ?_)
      · skip
        have c_11 := bI_1 c_11
        refine J_aload_n E dX5_copy_20 rfl 0 rfl ?_
        refine gC0_X5_44 E dX5_copy_21 ?_
        refine J_iload_n E dX5_copy_24 rfl 1 rfl ?_
        refine laC_30_1 E dX5_copy_25 ?_
        refine J_astore E (lv' := [(6, .ref (a 33)), (0, .ref (a 0)), (1, .int (nI 1)), (2, .int f), (3, .int (nI 1)), (4, .int o), (5, .int n)]) dX5_copy_26 (by decide) rfl ?_
        refine J_aload_n E dX5_copy_28 rfl 1 rfl ?_
        refine gC0_X5_44 E dX5_copy_29 ?_
        refine J_iload_n E dX5_copy_32 rfl 4 rfl ?_
        refine laC_30_1 E dX5_copy_33 ?_
        refine J_astore E (lv' := [(7, .ref (a 33)), (6, .ref (a 33)), (0, .ref (a 0)), (1, .int (nI 1)), (2, .int f), (3, .int (nI 1)), (4, .int o), (5, .int n)]) dX5_copy_34 (by decide) rfl ?_
        refine J_aload E dX5_copy_36 1 rfl ?_
        refine J_si9r E (As := []) (c_X2_isMissing l G (sh a 33) (x 9) ) cl_X5_212 yo_X2_isMissing dX5_copy_38 rfl (Nat.le_of_ble_eq_true rfl) (Nat.le_of_ble_eq_true rfl) rfl (Nat.le_of_ble_eq_true rfl) ⟨Nat.zero_le _, Nat.zero_le _⟩ ?_
        refine J_if_ne E (tgt := 52) dX5_copy_41 (by decide) (fun c_41 => ?_) (fun c_41 => ?_)
        · skip
          have c_41 := bI_1 c_41
          refine J_aload_n E dX5_copy_52 rfl 2 rfl ?_
          refine J_iconst E dX5_copy_53 ic_5 ?_
          refine J_cVi0 E (As := [.int 5]) (c_X5_tell l G a x 5 (by omega)) cl_X5_64 yo_X5_tell dX5_copy_54 rfl rfl rfl (Nat.le_of_ble_eq_true rfl) (Nat.le_of_ble_eq_true rfl) rfl (Nat.le_of_ble_eq_true rfl) ⟨Nat.zero_le _, Nat.zero_le _⟩ ?_
          exact ret _ _ _ _ ⟨rfl, _, rfl, by intro g h2 h6; simp [upG, up3, up3R, h2, h6]⟩ rfl dX5_copy_57
        · skip
          have c_41 := bI_0 c_41
          refine J_aload E dX5_copy_44 0 rfl ?_
          refine J_si9r E (As := []) (c_X2_isMissing l G (sh a 33) (x 9) ) cl_X5_212 yo_X2_isMissing dX5_copy_46 rfl (Nat.le_of_ble_eq_true rfl) (Nat.le_of_ble_eq_true rfl) rfl (Nat.le_of_ble_eq_true rfl) ⟨Nat.zero_le _, Nat.zero_le _⟩ ?_
          refine J_if_eq E (tgt := 58) dX5_copy_49 (by decide) (fun c_49 => ?_) (fun c_49 => ?_)
          · skip
            have c_49 := bI_0 c_49
            exact absurd hb (fun z => z.elim c_41 c_49)
          · skip
            have c_49 := bI_1 c_49
            refine J_aload_n E dX5_copy_52 rfl 2 rfl ?_
            refine J_iconst E dX5_copy_53 ic_5 ?_
            refine J_cVi0 E (As := [.int 5]) (c_X5_tell l G a x 5 (by omega)) cl_X5_64 yo_X5_tell dX5_copy_54 rfl rfl rfl (Nat.le_of_ble_eq_true rfl) (Nat.le_of_ble_eq_true rfl) rfl (Nat.le_of_ble_eq_true rfl) ⟨Nat.zero_le _, Nat.zero_le _⟩ ?_
            exact ret _ _ _ _ ⟨rfl, _, rfl, by intro g h2 h6; simp [upG, up3, up3R, h2, h6]⟩ rfl dX5_copy_57
      · skip
        have c_11 := bI_0 c_11
        exact absurd (in3 (by decide)) c_11
  · skip
    refine J_iload_n E dX5_copy_0 rfl 1 rfl ?_
    refine J_cSiN E (As := [.int (nI 1)]) (c_X5_isSheet l G (nI 1) ) cl_X5_202 yo_X5_isSheet dX5_copy_1 rfl (Nat.le_of_ble_eq_true rfl) (Nat.le_of_ble_eq_true rfl) rfl (Nat.le_of_ble_eq_true rfl) ⟨Nat.zero_le _, Nat.zero_le _⟩ ?_
    refine J_if_eq E (tgt := 14) dX5_copy_4 (by decide) (fun c_4 => ?_) (fun c_4 => ?_)
    · skip
      have c_4 := bI_0 c_4
      exact absurd (in3 (by decide)) c_4
    · skip
      have c_4 := bI_1 c_4
      refine J_iload_n E dX5_copy_7 rfl 3 rfl ?_
      refine J_cSiN E (As := [.int (nI 2)]) (c_X5_isSheet l G (nI 2) ) cl_X5_202 yo_X5_isSheet dX5_copy_8 rfl (Nat.le_of_ble_eq_true rfl) (Nat.le_of_ble_eq_true rfl) rfl (Nat.le_of_ble_eq_true rfl) ⟨Nat.zero_le _, Nat.zero_le _⟩ ?_
      refine J_if_ne E (tgt := 20) dX5_copy_11 (by decide) (fun c_11 => ?_) (fun c_11 => ?_)
      · skip
        have c_11 := bI_1 c_11
        refine J_aload_n E dX5_copy_20 rfl 0 rfl ?_
        refine gC0_X5_44 E dX5_copy_21 ?_
        refine J_iload_n E dX5_copy_24 rfl 1 rfl ?_
        refine laC_30_1 E dX5_copy_25 ?_
        refine J_astore E (lv' := [(6, .ref (a 33)), (0, .ref (a 0)), (1, .int (nI 1)), (2, .int f), (3, .int (nI 2)), (4, .int o), (5, .int n)]) dX5_copy_26 (by decide) rfl ?_
        refine J_aload_n E dX5_copy_28 rfl 1 rfl ?_
        refine gC0_X5_44 E dX5_copy_29 ?_
        refine J_iload_n E dX5_copy_32 rfl 4 rfl ?_
        refine laC_30_2 E dX5_copy_33 ?_
        refine J_astore E (lv' := [(7, .ref (a 35)), (6, .ref (a 33)), (0, .ref (a 0)), (1, .int (nI 1)), (2, .int f), (3, .int (nI 2)), (4, .int o), (5, .int n)]) dX5_copy_34 (by decide) rfl ?_
        refine J_aload E dX5_copy_36 1 rfl ?_
        refine J_si9r E (As := []) (c_X2_isMissing l G (sh a 33) (x 9) ) cl_X5_212 yo_X2_isMissing dX5_copy_38 rfl (Nat.le_of_ble_eq_true rfl) (Nat.le_of_ble_eq_true rfl) rfl (Nat.le_of_ble_eq_true rfl) ⟨Nat.zero_le _, Nat.zero_le _⟩ ?_
        refine J_if_ne E (tgt := 52) dX5_copy_41 (by decide) (fun c_41 => ?_) (fun c_41 => ?_)
        · skip
          have c_41 := bI_1 c_41
          refine J_aload_n E dX5_copy_52 rfl 2 rfl ?_
          refine J_iconst E dX5_copy_53 ic_5 ?_
          refine J_cVi0 E (As := [.int 5]) (c_X5_tell l G a x 5 (by omega)) cl_X5_64 yo_X5_tell dX5_copy_54 rfl rfl rfl (Nat.le_of_ble_eq_true rfl) (Nat.le_of_ble_eq_true rfl) rfl (Nat.le_of_ble_eq_true rfl) ⟨Nat.zero_le _, Nat.zero_le _⟩ ?_
          exact ret _ _ _ _ ⟨rfl, _, rfl, by intro g h2 h6; simp [upG, up3, up3R, h2, h6]⟩ rfl dX5_copy_57
        · skip
          have c_41 := bI_0 c_41
          refine J_aload E dX5_copy_44 0 rfl ?_
          refine J_si10r E (As := []) (c_X2_isMissing l G (sh a 35) (x 10) ) cl_X5_212 yo_X2_isMissing dX5_copy_46 rfl (Nat.le_of_ble_eq_true rfl) (Nat.le_of_ble_eq_true rfl) rfl (Nat.le_of_ble_eq_true rfl) ⟨Nat.zero_le _, Nat.zero_le _⟩ ?_
          refine J_if_eq E (tgt := 58) dX5_copy_49 (by decide) (fun c_49 => ?_) (fun c_49 => ?_)
          · skip
            have c_49 := bI_0 c_49
            exact absurd hb (fun z => z.elim c_41 c_49)
          · skip
            have c_49 := bI_1 c_49
            refine J_aload_n E dX5_copy_52 rfl 2 rfl ?_
            refine J_iconst E dX5_copy_53 ic_5 ?_
            refine J_cVi0 E (As := [.int 5]) (c_X5_tell l G a x 5 (by omega)) cl_X5_64 yo_X5_tell dX5_copy_54 rfl rfl rfl (Nat.le_of_ble_eq_true rfl) (Nat.le_of_ble_eq_true rfl) rfl (Nat.le_of_ble_eq_true rfl) ⟨Nat.zero_le _, Nat.zero_le _⟩ ?_
            exact ret _ _ _ _ ⟨rfl, _, rfl, by intro g h2 h6; simp [upG, up3, up3R, h2, h6]⟩ rfl dX5_copy_57
      · skip
        have c_11 := bI_0 c_11
        exact absurd (in3 (by decide)) c_11
  · skip
    refine J_iload_n E dX5_copy_0 rfl 1 rfl ?_
    refine J_cSiN E (As := [.int (nI 1)]) (c_X5_isSheet l G (nI 1) ) cl_X5_202 yo_X5_isSheet dX5_copy_1 rfl (Nat.le_of_ble_eq_true rfl) (Nat.le_of_ble_eq_true rfl) rfl (Nat.le_of_ble_eq_true rfl) ⟨Nat.zero_le _, Nat.zero_le _⟩ ?_
    refine J_if_eq E (tgt := 14) dX5_copy_4 (by decide) (fun c_4 => ?_) (fun c_4 => ?_)
    · skip
      have c_4 := bI_0 c_4
      exact absurd (in3 (by decide)) c_4
    · skip
      have c_4 := bI_1 c_4
      refine J_iload_n E dX5_copy_7 rfl 3 rfl ?_
      refine J_cSiN E (As := [.int (nI 3)]) (c_X5_isSheet l G (nI 3) ) cl_X5_202 yo_X5_isSheet dX5_copy_8 rfl (Nat.le_of_ble_eq_true rfl) (Nat.le_of_ble_eq_true rfl) rfl (Nat.le_of_ble_eq_true rfl) ⟨Nat.zero_le _, Nat.zero_le _⟩ ?_
      refine J_if_ne E (tgt := 20) dX5_copy_11 (by decide) (fun c_11 => ?_) (fun c_11 => ?_)
      · skip
        have c_11 := bI_1 c_11
        refine J_aload_n E dX5_copy_20 rfl 0 rfl ?_
        refine gC0_X5_44 E dX5_copy_21 ?_
        refine J_iload_n E dX5_copy_24 rfl 1 rfl ?_
        refine laC_30_1 E dX5_copy_25 ?_
        refine J_astore E (lv' := [(6, .ref (a 33)), (0, .ref (a 0)), (1, .int (nI 1)), (2, .int f), (3, .int (nI 3)), (4, .int o), (5, .int n)]) dX5_copy_26 (by decide) rfl ?_
        refine J_aload_n E dX5_copy_28 rfl 1 rfl ?_
        refine gC0_X5_44 E dX5_copy_29 ?_
        refine J_iload_n E dX5_copy_32 rfl 4 rfl ?_
        refine laC_30_3 E dX5_copy_33 ?_
        refine J_astore E (lv' := [(7, .ref (a 37)), (6, .ref (a 33)), (0, .ref (a 0)), (1, .int (nI 1)), (2, .int f), (3, .int (nI 3)), (4, .int o), (5, .int n)]) dX5_copy_34 (by decide) rfl ?_
        refine J_aload E dX5_copy_36 1 rfl ?_
        refine J_si9r E (As := []) (c_X2_isMissing l G (sh a 33) (x 9) ) cl_X5_212 yo_X2_isMissing dX5_copy_38 rfl (Nat.le_of_ble_eq_true rfl) (Nat.le_of_ble_eq_true rfl) rfl (Nat.le_of_ble_eq_true rfl) ⟨Nat.zero_le _, Nat.zero_le _⟩ ?_
        refine J_if_ne E (tgt := 52) dX5_copy_41 (by decide) (fun c_41 => ?_) (fun c_41 => ?_)
        · skip
          have c_41 := bI_1 c_41
          refine J_aload_n E dX5_copy_52 rfl 2 rfl ?_
          refine J_iconst E dX5_copy_53 ic_5 ?_
          refine J_cVi0 E (As := [.int 5]) (c_X5_tell l G a x 5 (by omega)) cl_X5_64 yo_X5_tell dX5_copy_54 rfl rfl rfl (Nat.le_of_ble_eq_true rfl) (Nat.le_of_ble_eq_true rfl) rfl (Nat.le_of_ble_eq_true rfl) ⟨Nat.zero_le _, Nat.zero_le _⟩ ?_
          exact ret _ _ _ _ ⟨rfl, _, rfl, by intro g h2 h6; simp [upG, up3, up3R, h2, h6]⟩ rfl dX5_copy_57
        · skip
          have c_41 := bI_0 c_41
          refine J_aload E dX5_copy_44 0 rfl ?_
          refine J_si11r E (As := []) (c_X2_isMissing l G (sh a 37) (x 11) ) cl_X5_212 yo_X2_isMissing dX5_copy_46 rfl (Nat.le_of_ble_eq_true rfl) (Nat.le_of_ble_eq_true rfl) rfl (Nat.le_of_ble_eq_true rfl) ⟨Nat.zero_le _, Nat.zero_le _⟩ ?_
          refine J_if_eq E (tgt := 58) dX5_copy_49 (by decide) (fun c_49 => ?_) (fun c_49 => ?_)
          · skip
            have c_49 := bI_0 c_49
            exact absurd hb (fun z => z.elim c_41 c_49)
          · skip
            have c_49 := bI_1 c_49
            refine J_aload_n E dX5_copy_52 rfl 2 rfl ?_
            refine J_iconst E dX5_copy_53 ic_5 ?_
            refine J_cVi0 E (As := [.int 5]) (c_X5_tell l G a x 5 (by omega)) cl_X5_64 yo_X5_tell dX5_copy_54 rfl rfl rfl (Nat.le_of_ble_eq_true rfl) (Nat.le_of_ble_eq_true rfl) rfl (Nat.le_of_ble_eq_true rfl) ⟨Nat.zero_le _, Nat.zero_le _⟩ ?_
            exact ret _ _ _ _ ⟨rfl, _, rfl, by intro g h2 h6; simp [upG, up3, up3R, h2, h6]⟩ rfl dX5_copy_57
      · skip
        have c_11 := bI_0 c_11
        exact absurd (in3 (by decide)) c_11
  · skip
    refine J_iload_n E dX5_copy_0 rfl 1 rfl ?_
    refine J_cSiN E (As := [.int (nI 2)]) (c_X5_isSheet l G (nI 2) ) cl_X5_202 yo_X5_isSheet dX5_copy_1 rfl (Nat.le_of_ble_eq_true rfl) (Nat.le_of_ble_eq_true rfl) rfl (Nat.le_of_ble_eq_true rfl) ⟨Nat.zero_le _, Nat.zero_le _⟩ ?_
    refine J_if_eq E (tgt := 14) dX5_copy_4 (by decide) (fun c_4 => ?_) (fun c_4 => ?_)
    · skip
      have c_4 := bI_0 c_4
      exact absurd (in3 (by decide)) c_4
    · skip
      have c_4 := bI_1 c_4
      refine J_iload_n E dX5_copy_7 rfl 3 rfl ?_
      refine J_cSiN E (As := [.int (nI 0)]) (c_X5_isSheet l G (nI 0) ) cl_X5_202 yo_X5_isSheet dX5_copy_8 rfl (Nat.le_of_ble_eq_true rfl) (Nat.le_of_ble_eq_true rfl) rfl (Nat.le_of_ble_eq_true rfl) ⟨Nat.zero_le _, Nat.zero_le _⟩ ?_
      refine J_if_ne E (tgt := 20) dX5_copy_11 (by decide) (fun c_11 => ?_) (fun c_11 => ?_)
      · skip
        have c_11 := bI_1 c_11
        refine J_aload_n E dX5_copy_20 rfl 0 rfl ?_
        refine gC0_X5_44 E dX5_copy_21 ?_
        refine J_iload_n E dX5_copy_24 rfl 1 rfl ?_
        refine laC_30_2 E dX5_copy_25 ?_
        refine J_astore E (lv' := [(6, .ref (a 35)), (0, .ref (a 0)), (1, .int (nI 2)), (2, .int f), (3, .int (nI 0)), (4, .int o), (5, .int n)]) dX5_copy_26 (by decide) rfl ?_
        refine J_aload_n E dX5_copy_28 rfl 1 rfl ?_
        refine gC0_X5_44 E dX5_copy_29 ?_
        refine J_iload_n E dX5_copy_32 rfl 4 rfl ?_
        refine laC_30_0 E dX5_copy_33 ?_
        refine J_astore E (lv' := [(7, .ref (a 31)), (6, .ref (a 35)), (0, .ref (a 0)), (1, .int (nI 2)), (2, .int f), (3, .int (nI 0)), (4, .int o), (5, .int n)]) dX5_copy_34 (by decide) rfl ?_
        refine J_aload E dX5_copy_36 1 rfl ?_
        refine J_si10r E (As := []) (c_X2_isMissing l G (sh a 35) (x 10) ) cl_X5_212 yo_X2_isMissing dX5_copy_38 rfl (Nat.le_of_ble_eq_true rfl) (Nat.le_of_ble_eq_true rfl) rfl (Nat.le_of_ble_eq_true rfl) ⟨Nat.zero_le _, Nat.zero_le _⟩ ?_
        refine J_if_ne E (tgt := 52) dX5_copy_41 (by decide) (fun c_41 => ?_) (fun c_41 => ?_)
        · skip
          have c_41 := bI_1 c_41
          refine J_aload_n E dX5_copy_52 rfl 2 rfl ?_
          refine J_iconst E dX5_copy_53 ic_5 ?_
          refine J_cVi0 E (As := [.int 5]) (c_X5_tell l G a x 5 (by omega)) cl_X5_64 yo_X5_tell dX5_copy_54 rfl rfl rfl (Nat.le_of_ble_eq_true rfl) (Nat.le_of_ble_eq_true rfl) rfl (Nat.le_of_ble_eq_true rfl) ⟨Nat.zero_le _, Nat.zero_le _⟩ ?_
          exact ret _ _ _ _ ⟨rfl, _, rfl, by intro g h2 h6; simp [upG, up3, up3R, h2, h6]⟩ rfl dX5_copy_57
        · skip
          have c_41 := bI_0 c_41
          refine J_aload E dX5_copy_44 0 rfl ?_
          refine J_si8r E (As := []) (c_X2_isMissing l G (sh a 31) (x 8) ) cl_X5_212 yo_X2_isMissing dX5_copy_46 rfl (Nat.le_of_ble_eq_true rfl) (Nat.le_of_ble_eq_true rfl) rfl (Nat.le_of_ble_eq_true rfl) ⟨Nat.zero_le _, Nat.zero_le _⟩ ?_
          refine J_if_eq E (tgt := 58) dX5_copy_49 (by decide) (fun c_49 => ?_) (fun c_49 => ?_)
          · skip
            have c_49 := bI_0 c_49
            exact absurd hb (fun z => z.elim c_41 c_49)
          · skip
            have c_49 := bI_1 c_49
            refine J_aload_n E dX5_copy_52 rfl 2 rfl ?_
            refine J_iconst E dX5_copy_53 ic_5 ?_
            refine J_cVi0 E (As := [.int 5]) (c_X5_tell l G a x 5 (by omega)) cl_X5_64 yo_X5_tell dX5_copy_54 rfl rfl rfl (Nat.le_of_ble_eq_true rfl) (Nat.le_of_ble_eq_true rfl) rfl (Nat.le_of_ble_eq_true rfl) ⟨Nat.zero_le _, Nat.zero_le _⟩ ?_
            exact ret _ _ _ _ ⟨rfl, _, rfl, by intro g h2 h6; simp [upG, up3, up3R, h2, h6]⟩ rfl dX5_copy_57
      · skip
        have c_11 := bI_0 c_11
        exact absurd (in3 (by decide)) c_11
  · skip
    refine J_iload_n E dX5_copy_0 rfl 1 rfl ?_
    refine J_cSiN E (As := [.int (nI 2)]) (c_X5_isSheet l G (nI 2) ) cl_X5_202 yo_X5_isSheet dX5_copy_1 rfl (Nat.le_of_ble_eq_true rfl) (Nat.le_of_ble_eq_true rfl) rfl (Nat.le_of_ble_eq_true rfl) ⟨Nat.zero_le _, Nat.zero_le _⟩ ?_
    refine J_if_eq E (tgt := 14) dX5_copy_4 (by decide) (fun c_4 => ?_) (fun c_4 => ?_)
    · skip
      have c_4 := bI_0 c_4
      exact absurd (in3 (by decide)) c_4
    · skip
      have c_4 := bI_1 c_4
      refine J_iload_n E dX5_copy_7 rfl 3 rfl ?_
      refine J_cSiN E (As := [.int (nI 1)]) (c_X5_isSheet l G (nI 1) ) cl_X5_202 yo_X5_isSheet dX5_copy_8 rfl (Nat.le_of_ble_eq_true rfl) (Nat.le_of_ble_eq_true rfl) rfl (Nat.le_of_ble_eq_true rfl) ⟨Nat.zero_le _, Nat.zero_le _⟩ ?_
      refine J_if_ne E (tgt := 20) dX5_copy_11 (by decide) (fun c_11 => ?_) (fun c_11 => ?_)
      · skip
        have c_11 := bI_1 c_11
        refine J_aload_n E dX5_copy_20 rfl 0 rfl ?_
        refine gC0_X5_44 E dX5_copy_21 ?_
        refine J_iload_n E dX5_copy_24 rfl 1 rfl ?_
        refine laC_30_2 E dX5_copy_25 ?_
        refine J_astore E (lv' := [(6, .ref (a 35)), (0, .ref (a 0)), (1, .int (nI 2)), (2, .int f), (3, .int (nI 1)), (4, .int o), (5, .int n)]) dX5_copy_26 (by decide) rfl ?_
        refine J_aload_n E dX5_copy_28 rfl 1 rfl ?_
        refine gC0_X5_44 E dX5_copy_29 ?_
        refine J_iload_n E dX5_copy_32 rfl 4 rfl ?_
        refine laC_30_1 E dX5_copy_33 ?_
        refine J_astore E (lv' := [(7, .ref (a 33)), (6, .ref (a 35)), (0, .ref (a 0)), (1, .int (nI 2)), (2, .int f), (3, .int (nI 1)), (4, .int o), (5, .int n)]) dX5_copy_34 (by decide) rfl ?_
        refine J_aload E dX5_copy_36 1 rfl ?_
        refine J_si10r E (As := []) (c_X2_isMissing l G (sh a 35) (x 10) ) cl_X5_212 yo_X2_isMissing dX5_copy_38 rfl (Nat.le_of_ble_eq_true rfl) (Nat.le_of_ble_eq_true rfl) rfl (Nat.le_of_ble_eq_true rfl) ⟨Nat.zero_le _, Nat.zero_le _⟩ ?_
        refine J_if_ne E (tgt := 52) dX5_copy_41 (by decide) (fun c_41 => ?_) (fun c_41 => ?_)
        · skip
          have c_41 := bI_1 c_41
          refine J_aload_n E dX5_copy_52 rfl 2 rfl ?_
          refine J_iconst E dX5_copy_53 ic_5 ?_
          refine J_cVi0 E (As := [.int 5]) (c_X5_tell l G a x 5 (by omega)) cl_X5_64 yo_X5_tell dX5_copy_54 rfl rfl rfl (Nat.le_of_ble_eq_true rfl) (Nat.le_of_ble_eq_true rfl) rfl (Nat.le_of_ble_eq_true rfl) ⟨Nat.zero_le _, Nat.zero_le _⟩ ?_
          exact ret _ _ _ _ ⟨rfl, _, rfl, by intro g h2 h6; simp [upG, up3, up3R, h2, h6]⟩ rfl dX5_copy_57
        · skip
          have c_41 := bI_0 c_41
          refine J_aload E dX5_copy_44 0 rfl ?_
          refine J_si9r E (As := []) (c_X2_isMissing l G (sh a 33) (x 9) ) cl_X5_212 yo_X2_isMissing dX5_copy_46 rfl (Nat.le_of_ble_eq_true rfl) (Nat.le_of_ble_eq_true rfl) rfl (Nat.le_of_ble_eq_true rfl) ⟨Nat.zero_le _, Nat.zero_le _⟩ ?_
          refine J_if_eq E (tgt := 58) dX5_copy_49 (by decide) (fun c_49 => ?_) (fun c_49 => ?_)
          · skip
            have c_49 := bI_0 c_49
            exact absurd hb (fun z => z.elim c_41 c_49)
          · skip
            have c_49 := bI_1 c_49
            refine J_aload_n E dX5_copy_52 rfl 2 rfl ?_
            refine J_iconst E dX5_copy_53 ic_5 ?_
            refine J_cVi0 E (As := [.int 5]) (c_X5_tell l G a x 5 (by omega)) cl_X5_64 yo_X5_tell dX5_copy_54 rfl rfl rfl (Nat.le_of_ble_eq_true rfl) (Nat.le_of_ble_eq_true rfl) rfl (Nat.le_of_ble_eq_true rfl) ⟨Nat.zero_le _, Nat.zero_le _⟩ ?_
            exact ret _ _ _ _ ⟨rfl, _, rfl, by intro g h2 h6; simp [upG, up3, up3R, h2, h6]⟩ rfl dX5_copy_57
      · skip
        have c_11 := bI_0 c_11
        exact absurd (in3 (by decide)) c_11
  · skip
    refine J_iload_n E dX5_copy_0 rfl 1 rfl ?_
    refine J_cSiN E (As := [.int (nI 2)]) (c_X5_isSheet l G (nI 2) ) cl_X5_202 yo_X5_isSheet dX5_copy_1 rfl (Nat.le_of_ble_eq_true rfl) (Nat.le_of_ble_eq_true rfl) rfl (Nat.le_of_ble_eq_true rfl) ⟨Nat.zero_le _, Nat.zero_le _⟩ ?_
    refine J_if_eq E (tgt := 14) dX5_copy_4 (by decide) (fun c_4 => ?_) (fun c_4 => ?_)
    · skip
      have c_4 := bI_0 c_4
      exact absurd (in3 (by decide)) c_4
    · skip
      have c_4 := bI_1 c_4
      refine J_iload_n E dX5_copy_7 rfl 3 rfl ?_
      refine J_cSiN E (As := [.int (nI 2)]) (c_X5_isSheet l G (nI 2) ) cl_X5_202 yo_X5_isSheet dX5_copy_8 rfl (Nat.le_of_ble_eq_true rfl) (Nat.le_of_ble_eq_true rfl) rfl (Nat.le_of_ble_eq_true rfl) ⟨Nat.zero_le _, Nat.zero_le _⟩ ?_
      refine J_if_ne E (tgt := 20) dX5_copy_11 (by decide) (fun c_11 => ?_) (fun c_11 => ?_)
      · skip
        have c_11 := bI_1 c_11
        refine J_aload_n E dX5_copy_20 rfl 0 rfl ?_
        refine gC0_X5_44 E dX5_copy_21 ?_
        refine J_iload_n E dX5_copy_24 rfl 1 rfl ?_
        refine laC_30_2 E dX5_copy_25 ?_
        refine J_astore E (lv' := [(6, .ref (a 35)), (0, .ref (a 0)), (1, .int (nI 2)), (2, .int f), (3, .int (nI 2)), (4, .int o), (5, .int n)]) dX5_copy_26 (by decide) rfl ?_
        refine J_aload_n E dX5_copy_28 rfl 1 rfl ?_
        refine gC0_X5_44 E dX5_copy_29 ?_
        refine J_iload_n E dX5_copy_32 rfl 4 rfl ?_
        refine laC_30_2 E dX5_copy_33 ?_
        refine J_astore E (lv' := [(7, .ref (a 35)), (6, .ref (a 35)), (0, .ref (a 0)), (1, .int (nI 2)), (2, .int f), (3, .int (nI 2)), (4, .int o), (5, .int n)]) dX5_copy_34 (by decide) rfl ?_
        refine J_aload E dX5_copy_36 1 rfl ?_
        refine J_si10r E (As := []) (c_X2_isMissing l G (sh a 35) (x 10) ) cl_X5_212 yo_X2_isMissing dX5_copy_38 rfl (Nat.le_of_ble_eq_true rfl) (Nat.le_of_ble_eq_true rfl) rfl (Nat.le_of_ble_eq_true rfl) ⟨Nat.zero_le _, Nat.zero_le _⟩ ?_
        refine J_if_ne E (tgt := 52) dX5_copy_41 (by decide) (fun c_41 => ?_) (fun c_41 => ?_)
        · skip
          have c_41 := bI_1 c_41
          refine J_aload_n E dX5_copy_52 rfl 2 rfl ?_
          refine J_iconst E dX5_copy_53 ic_5 ?_
          refine J_cVi0 E (As := [.int 5]) (c_X5_tell l G a x 5 (by omega)) cl_X5_64 yo_X5_tell dX5_copy_54 rfl rfl rfl (Nat.le_of_ble_eq_true rfl) (Nat.le_of_ble_eq_true rfl) rfl (Nat.le_of_ble_eq_true rfl) ⟨Nat.zero_le _, Nat.zero_le _⟩ ?_
          exact ret _ _ _ _ ⟨rfl, _, rfl, by intro g h2 h6; simp [upG, up3, up3R, h2, h6]⟩ rfl dX5_copy_57
        · skip
          have c_41 := bI_0 c_41
          refine J_aload E dX5_copy_44 0 rfl ?_
          refine J_si10r E (As := []) (c_X2_isMissing l G (sh a 35) (x 10) ) cl_X5_212 yo_X2_isMissing dX5_copy_46 rfl (Nat.le_of_ble_eq_true rfl) (Nat.le_of_ble_eq_true rfl) rfl (Nat.le_of_ble_eq_true rfl) ⟨Nat.zero_le _, Nat.zero_le _⟩ ?_
          refine J_if_eq E (tgt := 58) dX5_copy_49 (by decide) (fun c_49 => ?_) (fun c_49 => ?_)
          · skip
            have c_49 := bI_0 c_49
            exact absurd hb (fun z => z.elim c_41 c_49)
          · skip
            have c_49 := bI_1 c_49
            refine J_aload_n E dX5_copy_52 rfl 2 rfl ?_
            refine J_iconst E dX5_copy_53 ic_5 ?_
            refine J_cVi0 E (As := [.int 5]) (c_X5_tell l G a x 5 (by omega)) cl_X5_64 yo_X5_tell dX5_copy_54 rfl rfl rfl (Nat.le_of_ble_eq_true rfl) (Nat.le_of_ble_eq_true rfl) rfl (Nat.le_of_ble_eq_true rfl) ⟨Nat.zero_le _, Nat.zero_le _⟩ ?_
            exact ret _ _ _ _ ⟨rfl, _, rfl, by intro g h2 h6; simp [upG, up3, up3R, h2, h6]⟩ rfl dX5_copy_57
      · skip
        have c_11 := bI_0 c_11
        exact absurd (in3 (by decide)) c_11
  · skip
    refine J_iload_n E dX5_copy_0 rfl 1 rfl ?_
    refine J_cSiN E (As := [.int (nI 2)]) (c_X5_isSheet l G (nI 2) ) cl_X5_202 yo_X5_isSheet dX5_copy_1 rfl (Nat.le_of_ble_eq_true rfl) (Nat.le_of_ble_eq_true rfl) rfl (Nat.le_of_ble_eq_true rfl) ⟨Nat.zero_le _, Nat.zero_le _⟩ ?_
    refine J_if_eq E (tgt := 14) dX5_copy_4 (by decide) (fun c_4 => ?_) (fun c_4 => ?_)
    · skip
      have c_4 := bI_0 c_4
      exact absurd (in3 (by decide)) c_4
    · skip
      have c_4 := bI_1 c_4
      refine J_iload_n E dX5_copy_7 rfl 3 rfl ?_
      refine J_cSiN E (As := [.int (nI 3)]) (c_X5_isSheet l G (nI 3) ) cl_X5_202 yo_X5_isSheet dX5_copy_8 rfl (Nat.le_of_ble_eq_true rfl) (Nat.le_of_ble_eq_true rfl) rfl (Nat.le_of_ble_eq_true rfl) ⟨Nat.zero_le _, Nat.zero_le _⟩ ?_
      refine J_if_ne E (tgt := 20) dX5_copy_11 (by decide) (fun c_11 => ?_) (fun c_11 => ?_)
      · skip
        have c_11 := bI_1 c_11
        refine J_aload_n E dX5_copy_20 rfl 0 rfl ?_
        refine gC0_X5_44 E dX5_copy_21 ?_
        refine J_iload_n E dX5_copy_24 rfl 1 rfl ?_
        refine laC_30_2 E dX5_copy_25 ?_
        refine J_astore E (lv' := [(6, .ref (a 35)), (0, .ref (a 0)), (1, .int (nI 2)), (2, .int f), (3, .int (nI 3)), (4, .int o), (5, .int n)]) dX5_copy_26 (by decide) rfl ?_
        refine J_aload_n E dX5_copy_28 rfl 1 rfl ?_
        refine gC0_X5_44 E dX5_copy_29 ?_
        refine J_iload_n E dX5_copy_32 rfl 4 rfl ?_
        refine laC_30_3 E dX5_copy_33 ?_
        refine J_astore E (lv' := [(7, .ref (a 37)), (6, .ref (a 35)), (0, .ref (a 0)), (1, .int (nI 2)), (2, .int f), (3, .int (nI 3)), (4, .int o), (5, .int n)]) dX5_copy_34 (by decide) rfl ?_
        refine J_aload E dX5_copy_36 1 rfl ?_
        refine J_si10r E (As := []) (c_X2_isMissing l G (sh a 35) (x 10) ) cl_X5_212 yo_X2_isMissing dX5_copy_38 rfl (Nat.le_of_ble_eq_true rfl) (Nat.le_of_ble_eq_true rfl) rfl (Nat.le_of_ble_eq_true rfl) ⟨Nat.zero_le _, Nat.zero_le _⟩ ?_
        refine J_if_ne E (tgt := 52) dX5_copy_41 (by decide) (fun c_41 => ?_) (fun c_41 => ?_)
        · skip
          have c_41 := bI_1 c_41
          refine J_aload_n E dX5_copy_52 rfl 2 rfl ?_
          refine J_iconst E dX5_copy_53 ic_5 ?_
          refine J_cVi0 E (As := [.int 5]) (c_X5_tell l G a x 5 (by omega)) cl_X5_64 yo_X5_tell dX5_copy_54 rfl rfl rfl (Nat.le_of_ble_eq_true rfl) (Nat.le_of_ble_eq_true rfl) rfl (Nat.le_of_ble_eq_true rfl) ⟨Nat.zero_le _, Nat.zero_le _⟩ ?_
          exact ret _ _ _ _ ⟨rfl, _, rfl, by intro g h2 h6; simp [upG, up3, up3R, h2, h6]⟩ rfl dX5_copy_57
        · skip
          have c_41 := bI_0 c_41
          refine J_aload E dX5_copy_44 0 rfl ?_
          refine J_si11r E (As := []) (c_X2_isMissing l G (sh a 37) (x 11) ) cl_X5_212 yo_X2_isMissing dX5_copy_46 rfl (Nat.le_of_ble_eq_true rfl) (Nat.le_of_ble_eq_true rfl) rfl (Nat.le_of_ble_eq_true rfl) ⟨Nat.zero_le _, Nat.zero_le _⟩ ?_
          refine J_if_eq E (tgt := 58) dX5_copy_49 (by decide) (fun c_49 => ?_) (fun c_49 => ?_)
          · skip
            have c_49 := bI_0 c_49
            exact absurd hb (fun z => z.elim c_41 c_49)
          · skip
            have c_49 := bI_1 c_49
            refine J_aload_n E dX5_copy_52 rfl 2 rfl ?_
            refine J_iconst E dX5_copy_53 ic_5 ?_
            refine J_cVi0 E (As := [.int 5]) (c_X5_tell l G a x 5 (by omega)) cl_X5_64 yo_X5_tell dX5_copy_54 rfl rfl rfl (Nat.le_of_ble_eq_true rfl) (Nat.le_of_ble_eq_true rfl) rfl (Nat.le_of_ble_eq_true rfl) ⟨Nat.zero_le _, Nat.zero_le _⟩ ?_
            exact ret _ _ _ _ ⟨rfl, _, rfl, by intro g h2 h6; simp [upG, up3, up3R, h2, h6]⟩ rfl dX5_copy_57
      · skip
        have c_11 := bI_0 c_11
        exact absurd (in3 (by decide)) c_11
  · skip
    refine J_iload_n E dX5_copy_0 rfl 1 rfl ?_
    refine J_cSiN E (As := [.int (nI 3)]) (c_X5_isSheet l G (nI 3) ) cl_X5_202 yo_X5_isSheet dX5_copy_1 rfl (Nat.le_of_ble_eq_true rfl) (Nat.le_of_ble_eq_true rfl) rfl (Nat.le_of_ble_eq_true rfl) ⟨Nat.zero_le _, Nat.zero_le _⟩ ?_
    refine J_if_eq E (tgt := 14) dX5_copy_4 (by decide) (fun c_4 => ?_) (fun c_4 => ?_)
    · skip
      have c_4 := bI_0 c_4
      exact absurd (in3 (by decide)) c_4
    · skip
      have c_4 := bI_1 c_4
      refine J_iload_n E dX5_copy_7 rfl 3 rfl ?_
      refine J_cSiN E (As := [.int (nI 0)]) (c_X5_isSheet l G (nI 0) ) cl_X5_202 yo_X5_isSheet dX5_copy_8 rfl (Nat.le_of_ble_eq_true rfl) (Nat.le_of_ble_eq_true rfl) rfl (Nat.le_of_ble_eq_true rfl) ⟨Nat.zero_le _, Nat.zero_le _⟩ ?_
      refine J_if_ne E (tgt := 20) dX5_copy_11 (by decide) (fun c_11 => ?_) (fun c_11 => ?_)
      · skip
        have c_11 := bI_1 c_11
        refine J_aload_n E dX5_copy_20 rfl 0 rfl ?_
        refine gC0_X5_44 E dX5_copy_21 ?_
        refine J_iload_n E dX5_copy_24 rfl 1 rfl ?_
        refine laC_30_3 E dX5_copy_25 ?_
        refine J_astore E (lv' := [(6, .ref (a 37)), (0, .ref (a 0)), (1, .int (nI 3)), (2, .int f), (3, .int (nI 0)), (4, .int o), (5, .int n)]) dX5_copy_26 (by decide) rfl ?_
        refine J_aload_n E dX5_copy_28 rfl 1 rfl ?_
        refine gC0_X5_44 E dX5_copy_29 ?_
        refine J_iload_n E dX5_copy_32 rfl 4 rfl ?_
        refine laC_30_0 E dX5_copy_33 ?_
        refine J_astore E (lv' := [(7, .ref (a 31)), (6, .ref (a 37)), (0, .ref (a 0)), (1, .int (nI 3)), (2, .int f), (3, .int (nI 0)), (4, .int o), (5, .int n)]) dX5_copy_34 (by decide) rfl ?_
        refine J_aload E dX5_copy_36 1 rfl ?_
        refine J_si11r E (As := []) (c_X2_isMissing l G (sh a 37) (x 11) ) cl_X5_212 yo_X2_isMissing dX5_copy_38 rfl (Nat.le_of_ble_eq_true rfl) (Nat.le_of_ble_eq_true rfl) rfl (Nat.le_of_ble_eq_true rfl) ⟨Nat.zero_le _, Nat.zero_le _⟩ ?_
        refine J_if_ne E (tgt := 52) dX5_copy_41 (by decide) (fun c_41 => ?_) (fun c_41 => ?_)
        · skip
          have c_41 := bI_1 c_41
          refine J_aload_n E dX5_copy_52 rfl 2 rfl ?_
          refine J_iconst E dX5_copy_53 ic_5 ?_
          refine J_cVi0 E (As := [.int 5]) (c_X5_tell l G a x 5 (by omega)) cl_X5_64 yo_X5_tell dX5_copy_54 rfl rfl rfl (Nat.le_of_ble_eq_true rfl) (Nat.le_of_ble_eq_true rfl) rfl (Nat.le_of_ble_eq_true rfl) ⟨Nat.zero_le _, Nat.zero_le _⟩ ?_
          exact ret _ _ _ _ ⟨rfl, _, rfl, by intro g h2 h6; simp [upG, up3, up3R, h2, h6]⟩ rfl dX5_copy_57
        · skip
          have c_41 := bI_0 c_41
          refine J_aload E dX5_copy_44 0 rfl ?_
          refine J_si8r E (As := []) (c_X2_isMissing l G (sh a 31) (x 8) ) cl_X5_212 yo_X2_isMissing dX5_copy_46 rfl (Nat.le_of_ble_eq_true rfl) (Nat.le_of_ble_eq_true rfl) rfl (Nat.le_of_ble_eq_true rfl) ⟨Nat.zero_le _, Nat.zero_le _⟩ ?_
          refine J_if_eq E (tgt := 58) dX5_copy_49 (by decide) (fun c_49 => ?_) (fun c_49 => ?_)
          · skip
            have c_49 := bI_0 c_49
            exact absurd hb (fun z => z.elim c_41 c_49)
          · skip
            have c_49 := bI_1 c_49
            refine J_aload_n E dX5_copy_52 rfl 2 rfl ?_
            refine J_iconst E dX5_copy_53 ic_5 ?_
            refine J_cVi0 E (As := [.int 5]) (c_X5_tell l G a x 5 (by omega)) cl_X5_64 yo_X5_tell dX5_copy_54 rfl rfl rfl (Nat.le_of_ble_eq_true rfl) (Nat.le_of_ble_eq_true rfl) rfl (Nat.le_of_ble_eq_true rfl) ⟨Nat.zero_le _, Nat.zero_le _⟩ ?_
            exact ret _ _ _ _ ⟨rfl, _, rfl, by intro g h2 h6; simp [upG, up3, up3R, h2, h6]⟩ rfl dX5_copy_57
      · skip
        have c_11 := bI_0 c_11
        exact absurd (in3 (by decide)) c_11
  · skip
    refine J_iload_n E dX5_copy_0 rfl 1 rfl ?_
    refine J_cSiN E (As := [.int (nI 3)]) (c_X5_isSheet l G (nI 3) ) cl_X5_202 yo_X5_isSheet dX5_copy_1 rfl (Nat.le_of_ble_eq_true rfl) (Nat.le_of_ble_eq_true rfl) rfl (Nat.le_of_ble_eq_true rfl) ⟨Nat.zero_le _, Nat.zero_le _⟩ ?_
    refine J_if_eq E (tgt := 14) dX5_copy_4 (by decide) (fun c_4 => ?_) (fun c_4 => ?_)
    · skip
      have c_4 := bI_0 c_4
      exact absurd (in3 (by decide)) c_4
    · skip
      have c_4 := bI_1 c_4
      refine J_iload_n E dX5_copy_7 rfl 3 rfl ?_
      refine J_cSiN E (As := [.int (nI 1)]) (c_X5_isSheet l G (nI 1) ) cl_X5_202 yo_X5_isSheet dX5_copy_8 rfl (Nat.le_of_ble_eq_true rfl) (Nat.le_of_ble_eq_true rfl) rfl (Nat.le_of_ble_eq_true rfl) ⟨Nat.zero_le _, Nat.zero_le _⟩ ?_
      refine J_if_ne E (tgt := 20) dX5_copy_11 (by decide) (fun c_11 => ?_) (fun c_11 => ?_)
      · skip
        have c_11 := bI_1 c_11
        refine J_aload_n E dX5_copy_20 rfl 0 rfl ?_
        refine gC0_X5_44 E dX5_copy_21 ?_
        refine J_iload_n E dX5_copy_24 rfl 1 rfl ?_
        refine laC_30_3 E dX5_copy_25 ?_
        refine J_astore E (lv' := [(6, .ref (a 37)), (0, .ref (a 0)), (1, .int (nI 3)), (2, .int f), (3, .int (nI 1)), (4, .int o), (5, .int n)]) dX5_copy_26 (by decide) rfl ?_
        refine J_aload_n E dX5_copy_28 rfl 1 rfl ?_
        refine gC0_X5_44 E dX5_copy_29 ?_
        refine J_iload_n E dX5_copy_32 rfl 4 rfl ?_
        refine laC_30_1 E dX5_copy_33 ?_
        refine J_astore E (lv' := [(7, .ref (a 33)), (6, .ref (a 37)), (0, .ref (a 0)), (1, .int (nI 3)), (2, .int f), (3, .int (nI 1)), (4, .int o), (5, .int n)]) dX5_copy_34 (by decide) rfl ?_
        refine J_aload E dX5_copy_36 1 rfl ?_
        refine J_si11r E (As := []) (c_X2_isMissing l G (sh a 37) (x 11) ) cl_X5_212 yo_X2_isMissing dX5_copy_38 rfl (Nat.le_of_ble_eq_true rfl) (Nat.le_of_ble_eq_true rfl) rfl (Nat.le_of_ble_eq_true rfl) ⟨Nat.zero_le _, Nat.zero_le _⟩ ?_
        refine J_if_ne E (tgt := 52) dX5_copy_41 (by decide) (fun c_41 => ?_) (fun c_41 => ?_)
        · skip
          have c_41 := bI_1 c_41
          refine J_aload_n E dX5_copy_52 rfl 2 rfl ?_
          refine J_iconst E dX5_copy_53 ic_5 ?_
          refine J_cVi0 E (As := [.int 5]) (c_X5_tell l G a x 5 (by omega)) cl_X5_64 yo_X5_tell dX5_copy_54 rfl rfl rfl (Nat.le_of_ble_eq_true rfl) (Nat.le_of_ble_eq_true rfl) rfl (Nat.le_of_ble_eq_true rfl) ⟨Nat.zero_le _, Nat.zero_le _⟩ ?_
          exact ret _ _ _ _ ⟨rfl, _, rfl, by intro g h2 h6; simp [upG, up3, up3R, h2, h6]⟩ rfl dX5_copy_57
        · skip
          have c_41 := bI_0 c_41
          refine J_aload E dX5_copy_44 0 rfl ?_
          refine J_si9r E (As := []) (c_X2_isMissing l G (sh a 33) (x 9) ) cl_X5_212 yo_X2_isMissing dX5_copy_46 rfl (Nat.le_of_ble_eq_true rfl) (Nat.le_of_ble_eq_true rfl) rfl (Nat.le_of_ble_eq_true rfl) ⟨Nat.zero_le _, Nat.zero_le _⟩ ?_
          refine J_if_eq E (tgt := 58) dX5_copy_49 (by decide) (fun c_49 => ?_) (fun c_49 => ?_)
          · skip
            have c_49 := bI_0 c_49
            exact absurd hb (fun z => z.elim c_41 c_49)
          · skip
            have c_49 := bI_1 c_49
            refine J_aload_n E dX5_copy_52 rfl 2 rfl ?_
            refine J_iconst E dX5_copy_53 ic_5 ?_
            refine J_cVi0 E (As := [.int 5]) (c_X5_tell l G a x 5 (by omega)) cl_X5_64 yo_X5_tell dX5_copy_54 rfl rfl rfl (Nat.le_of_ble_eq_true rfl) (Nat.le_of_ble_eq_true rfl) rfl (Nat.le_of_ble_eq_true rfl) ⟨Nat.zero_le _, Nat.zero_le _⟩ ?_
            exact ret _ _ _ _ ⟨rfl, _, rfl, by intro g h2 h6; simp [upG, up3, up3R, h2, h6]⟩ rfl dX5_copy_57
      · skip
        have c_11 := bI_0 c_11
        exact absurd (in3 (by decide)) c_11
  · skip
    refine J_iload_n E dX5_copy_0 rfl 1 rfl ?_
    refine J_cSiN E (As := [.int (nI 3)]) (c_X5_isSheet l G (nI 3) ) cl_X5_202 yo_X5_isSheet dX5_copy_1 rfl (Nat.le_of_ble_eq_true rfl) (Nat.le_of_ble_eq_true rfl) rfl (Nat.le_of_ble_eq_true rfl) ⟨Nat.zero_le _, Nat.zero_le _⟩ ?_
    refine J_if_eq E (tgt := 14) dX5_copy_4 (by decide) (fun c_4 => ?_) (fun c_4 => ?_)
    · skip
      have c_4 := bI_0 c_4
      exact absurd (in3 (by decide)) c_4
    · skip
      have c_4 := bI_1 c_4
      refine J_iload_n E dX5_copy_7 rfl 3 rfl ?_
      refine J_cSiN E (As := [.int (nI 2)]) (c_X5_isSheet l G (nI 2) ) cl_X5_202 yo_X5_isSheet dX5_copy_8 rfl (Nat.le_of_ble_eq_true rfl) (Nat.le_of_ble_eq_true rfl) rfl (Nat.le_of_ble_eq_true rfl) ⟨Nat.zero_le _, Nat.zero_le _⟩ ?_
      refine J_if_ne E (tgt := 20) dX5_copy_11 (by decide) (fun c_11 => ?_) (fun c_11 => ?_)
      · skip
        have c_11 := bI_1 c_11
        refine J_aload_n E dX5_copy_20 rfl 0 rfl ?_
        refine gC0_X5_44 E dX5_copy_21 ?_
        refine J_iload_n E dX5_copy_24 rfl 1 rfl ?_
        refine laC_30_3 E dX5_copy_25 ?_
        refine J_astore E (lv' := [(6, .ref (a 37)), (0, .ref (a 0)), (1, .int (nI 3)), (2, .int f), (3, .int (nI 2)), (4, .int o), (5, .int n)]) dX5_copy_26 (by decide) rfl ?_
        refine J_aload_n E dX5_copy_28 rfl 1 rfl ?_
        refine gC0_X5_44 E dX5_copy_29 ?_
        refine J_iload_n E dX5_copy_32 rfl 4 rfl ?_
        refine laC_30_2 E dX5_copy_33 ?_
        refine J_astore E (lv' := [(7, .ref (a 35)), (6, .ref (a 37)), (0, .ref (a 0)), (1, .int (nI 3)), (2, .int f), (3, .int (nI 2)), (4, .int o), (5, .int n)]) dX5_copy_34 (by decide) rfl ?_
        refine J_aload E dX5_copy_36 1 rfl ?_
        refine J_si11r E (As := []) (c_X2_isMissing l G (sh a 37) (x 11) ) cl_X5_212 yo_X2_isMissing dX5_copy_38 rfl (Nat.le_of_ble_eq_true rfl) (Nat.le_of_ble_eq_true rfl) rfl (Nat.le_of_ble_eq_true rfl) ⟨Nat.zero_le _, Nat.zero_le _⟩ ?_
        refine J_if_ne E (tgt := 52) dX5_copy_41 (by decide) (fun c_41 => ?_) (fun c_41 => ?_)
        · skip
          have c_41 := bI_1 c_41
          refine J_aload_n E dX5_copy_52 rfl 2 rfl ?_
          refine J_iconst E dX5_copy_53 ic_5 ?_
          refine J_cVi0 E (As := [.int 5]) (c_X5_tell l G a x 5 (by omega)) cl_X5_64 yo_X5_tell dX5_copy_54 rfl rfl rfl (Nat.le_of_ble_eq_true rfl) (Nat.le_of_ble_eq_true rfl) rfl (Nat.le_of_ble_eq_true rfl) ⟨Nat.zero_le _, Nat.zero_le _⟩ ?_
          exact ret _ _ _ _ ⟨rfl, _, rfl, by intro g h2 h6; simp [upG, up3, up3R, h2, h6]⟩ rfl dX5_copy_57
        · skip
          have c_41 := bI_0 c_41
          refine J_aload E dX5_copy_44 0 rfl ?_
          refine J_si10r E (As := []) (c_X2_isMissing l G (sh a 35) (x 10) ) cl_X5_212 yo_X2_isMissing dX5_copy_46 rfl (Nat.le_of_ble_eq_true rfl) (Nat.le_of_ble_eq_true rfl) rfl (Nat.le_of_ble_eq_true rfl) ⟨Nat.zero_le _, Nat.zero_le _⟩ ?_
          refine J_if_eq E (tgt := 58) dX5_copy_49 (by decide) (fun c_49 => ?_) (fun c_49 => ?_)
          · skip
            have c_49 := bI_0 c_49
            exact absurd hb (fun z => z.elim c_41 c_49)
          · skip
            have c_49 := bI_1 c_49
            refine J_aload_n E dX5_copy_52 rfl 2 rfl ?_
            refine J_iconst E dX5_copy_53 ic_5 ?_
            refine J_cVi0 E (As := [.int 5]) (c_X5_tell l G a x 5 (by omega)) cl_X5_64 yo_X5_tell dX5_copy_54 rfl rfl rfl (Nat.le_of_ble_eq_true rfl) (Nat.le_of_ble_eq_true rfl) rfl (Nat.le_of_ble_eq_true rfl) ⟨Nat.zero_le _, Nat.zero_le _⟩ ?_
            exact ret _ _ _ _ ⟨rfl, _, rfl, by intro g h2 h6; simp [upG, up3, up3R, h2, h6]⟩ rfl dX5_copy_57
      · skip
        have c_11 := bI_0 c_11
        exact absurd (in3 (by decide)) c_11
  · skip
    refine J_iload_n E dX5_copy_0 rfl 1 rfl ?_
    refine J_cSiN E (As := [.int (nI 3)]) (c_X5_isSheet l G (nI 3) ) cl_X5_202 yo_X5_isSheet dX5_copy_1 rfl (Nat.le_of_ble_eq_true rfl) (Nat.le_of_ble_eq_true rfl) rfl (Nat.le_of_ble_eq_true rfl) ⟨Nat.zero_le _, Nat.zero_le _⟩ ?_
    refine J_if_eq E (tgt := 14) dX5_copy_4 (by decide) (fun c_4 => ?_) (fun c_4 => ?_)
    · skip
      have c_4 := bI_0 c_4
      exact absurd (in3 (by decide)) c_4
    · skip
      have c_4 := bI_1 c_4
      refine J_iload_n E dX5_copy_7 rfl 3 rfl ?_
      refine J_cSiN E (As := [.int (nI 3)]) (c_X5_isSheet l G (nI 3) ) cl_X5_202 yo_X5_isSheet dX5_copy_8 rfl (Nat.le_of_ble_eq_true rfl) (Nat.le_of_ble_eq_true rfl) rfl (Nat.le_of_ble_eq_true rfl) ⟨Nat.zero_le _, Nat.zero_le _⟩ ?_
      refine J_if_ne E (tgt := 20) dX5_copy_11 (by decide) (fun c_11 => ?_) (fun c_11 => ?_)
      · skip
        have c_11 := bI_1 c_11
        refine J_aload_n E dX5_copy_20 rfl 0 rfl ?_
        refine gC0_X5_44 E dX5_copy_21 ?_
        refine J_iload_n E dX5_copy_24 rfl 1 rfl ?_
        refine laC_30_3 E dX5_copy_25 ?_
        refine J_astore E (lv' := [(6, .ref (a 37)), (0, .ref (a 0)), (1, .int (nI 3)), (2, .int f), (3, .int (nI 3)), (4, .int o), (5, .int n)]) dX5_copy_26 (by decide) rfl ?_
        refine J_aload_n E dX5_copy_28 rfl 1 rfl ?_
        refine gC0_X5_44 E dX5_copy_29 ?_
        refine J_iload_n E dX5_copy_32 rfl 4 rfl ?_
        refine laC_30_3 E dX5_copy_33 ?_
        refine J_astore E (lv' := [(7, .ref (a 37)), (6, .ref (a 37)), (0, .ref (a 0)), (1, .int (nI 3)), (2, .int f), (3, .int (nI 3)), (4, .int o), (5, .int n)]) dX5_copy_34 (by decide) rfl ?_
        refine J_aload E dX5_copy_36 1 rfl ?_
        refine J_si11r E (As := []) (c_X2_isMissing l G (sh a 37) (x 11) ) cl_X5_212 yo_X2_isMissing dX5_copy_38 rfl (Nat.le_of_ble_eq_true rfl) (Nat.le_of_ble_eq_true rfl) rfl (Nat.le_of_ble_eq_true rfl) ⟨Nat.zero_le _, Nat.zero_le _⟩ ?_
        refine J_if_ne E (tgt := 52) dX5_copy_41 (by decide) (fun c_41 => ?_) (fun c_41 => ?_)
        · skip
          have c_41 := bI_1 c_41
          refine J_aload_n E dX5_copy_52 rfl 2 rfl ?_
          refine J_iconst E dX5_copy_53 ic_5 ?_
          refine J_cVi0 E (As := [.int 5]) (c_X5_tell l G a x 5 (by omega)) cl_X5_64 yo_X5_tell dX5_copy_54 rfl rfl rfl (Nat.le_of_ble_eq_true rfl) (Nat.le_of_ble_eq_true rfl) rfl (Nat.le_of_ble_eq_true rfl) ⟨Nat.zero_le _, Nat.zero_le _⟩ ?_
          exact ret _ _ _ _ ⟨rfl, _, rfl, by intro g h2 h6; simp [upG, up3, up3R, h2, h6]⟩ rfl dX5_copy_57
        · skip
          have c_41 := bI_0 c_41
          refine J_aload E dX5_copy_44 0 rfl ?_
          refine J_si11r E (As := []) (c_X2_isMissing l G (sh a 37) (x 11) ) cl_X5_212 yo_X2_isMissing dX5_copy_46 rfl (Nat.le_of_ble_eq_true rfl) (Nat.le_of_ble_eq_true rfl) rfl (Nat.le_of_ble_eq_true rfl) ⟨Nat.zero_le _, Nat.zero_le _⟩ ?_
          refine J_if_eq E (tgt := 58) dX5_copy_49 (by decide) (fun c_49 => ?_) (fun c_49 => ?_)
          · skip
            have c_49 := bI_0 c_49
            exact absurd hb (fun z => z.elim c_41 c_49)
          · skip
            have c_49 := bI_1 c_49
            refine J_aload_n E dX5_copy_52 rfl 2 rfl ?_
            refine J_iconst E dX5_copy_53 ic_5 ?_
            refine J_cVi0 E (As := [.int 5]) (c_X5_tell l G a x 5 (by omega)) cl_X5_64 yo_X5_tell dX5_copy_54 rfl rfl rfl (Nat.le_of_ble_eq_true rfl) (Nat.le_of_ble_eq_true rfl) rfl (Nat.le_of_ble_eq_true rfl) ⟨Nat.zero_le _, Nat.zero_le _⟩ ?_
            exact ret _ _ _ _ ⟨rfl, _, rfl, by intro g h2 h6; simp [upG, up3, up3R, h2, h6]⟩ rfl dX5_copy_57
      · skip
        have c_11 := bI_0 c_11
        exact absurd (in3 (by decide)) c_11

set_option maxHeartbeats 4000000 in
set_option maxRecDepth 20000 in
theorem c_X5_copy_kind (l : Launch) (G : GB) (a : Nat → Nat) (x : Q3) (i k : Nat) (f o n : Int32) (hi : i < 4) (hk : k < 4)  (h1 : ¬ x (8 + i) 1 0 = 0) (h2 : ¬ x (8 + k) 1 0 = 0) (h3 : ¬ x (8 + i) 1 0 = x (8 + k) 1 0) : CI l yX5_copy cX5_copy 8 .int 2 41 G [.ref (a 0), .int (nI i), .int f, .int (nI k), .int o, .int n] (wC G a x) (fun vR w' => vR = tellR 2 ∧ PubC G a (tellX x 2) w') := by
  refine CI.mk (own := RX5) (by decide) rfl (Nat.le_of_ble_eq_true rfl) ?_
  intro X E ret
  show J X G 8 0 0 (wC G a x) [(0, .ref (a 0)), (1, .int (nI i)), (2, .int f), (3, .int (nI k)), (4, .int o), (5, .int n)] 0 []
  rcases (show (i = 0 ∧ k = 0) ∨ (i = 0 ∧ k = 1) ∨ (i = 0 ∧ k = 2) ∨ (i = 0 ∧ k = 3) ∨ (i = 1 ∧ k = 0) ∨ (i = 1 ∧ k = 1) ∨ (i = 1 ∧ k = 2) ∨ (i = 1 ∧ k = 3) ∨ (i = 2 ∧ k = 0) ∨ (i = 2 ∧ k = 1) ∨ (i = 2 ∧ k = 2) ∨ (i = 2 ∧ k = 3) ∨ (i = 3 ∧ k = 0) ∨ (i = 3 ∧ k = 1) ∨ (i = 3 ∧ k = 2) ∨ (i = 3 ∧ k = 3) by omega) with ⟨rfl, rfl⟩ | ⟨rfl, rfl⟩ | ⟨rfl, rfl⟩ | ⟨rfl, rfl⟩ | ⟨rfl, rfl⟩ | ⟨rfl, rfl⟩ | ⟨rfl, rfl⟩ | ⟨rfl, rfl⟩ | ⟨rfl, rfl⟩ | ⟨rfl, rfl⟩ | ⟨rfl, rfl⟩ | ⟨rfl, rfl⟩ | ⟨rfl, rfl⟩ | ⟨rfl, rfl⟩ | ⟨rfl, rfl⟩ | ⟨rfl, rfl⟩
  · skip
    refine J_iload_n E dX5_copy_0 rfl 1 rfl ?_
    refine J_cSiN E (As := [.int (nI 0)]) (c_X5_isSheet l G (nI 0) ) cl_X5_202 yo_X5_isSheet dX5_copy_1 rfl (Nat.le_of_ble_eq_true rfl) (Nat.le_of_ble_eq_true rfl) rfl (Nat.le_of_ble_eq_true rfl) ⟨Nat.zero_le _, Nat.zero_le _⟩ ?_
    refine J_if_eq E (tgt := 14) dX5_copy_4 (by decide) (fun c_4 => ?_) (fun c_4 => ?_)
    · skip
      have c_4 := bI_0 c_4
      exact absurd (in3 (by decide)) c_4
    · skip
      have c_4 := bI_1 c_4
      refine J_iload_n E dX5_copy_7 rfl 3 rfl ?_
      refine J_cSiN E (As := [.int (nI 0)]) (c_X5_isSheet l G (nI 0) ) cl_X5_202 yo_X5_isSheet dX5_copy_8 rfl (Nat.le_of_ble_eq_true rfl) (Nat.le_of_ble_eq_true rfl) rfl (Nat.le_of_ble_eq_true rfl) ⟨Nat.zero_le _, Nat.zero_le _⟩ ?_
      refine J_if_ne E (tgt := 20) dX5_copy_11 (by decide) (fun c_11 => ?_) (fun c_11 => ?_)
      · skip
        have c_11 := bI_1 c_11
        refine J_aload_n E dX5_copy_20 rfl 0 rfl ?_
        refine gC0_X5_44 E dX5_copy_21 ?_
        refine J_iload_n E dX5_copy_24 rfl 1 rfl ?_
        refine laC_30_0 E dX5_copy_25 ?_
        refine J_astore E (lv' := [(6, .ref (a 31)), (0, .ref (a 0)), (1, .int (nI 0)), (2, .int f), (3, .int (nI 0)), (4, .int o), (5, .int n)]) dX5_copy_26 (by decide) rfl ?_
        refine J_aload_n E dX5_copy_28 rfl 1 rfl ?_
        refine gC0_X5_44 E dX5_copy_29 ?_
        refine J_iload_n E dX5_copy_32 rfl 4 rfl ?_
        refine laC_30_0 E dX5_copy_33 ?_
        refine J_astore E (lv' := [(7, .ref (a 31)), (6, .ref (a 31)), (0, .ref (a 0)), (1, .int (nI 0)), (2, .int f), (3, .int (nI 0)), (4, .int o), (5, .int n)]) dX5_copy_34 (by decide) rfl ?_
        refine J_aload E dX5_copy_36 1 rfl ?_
        refine J_si8r E (As := []) (c_X2_isMissing l G (sh a 31) (x 8) ) cl_X5_212 yo_X2_isMissing dX5_copy_38 rfl (Nat.le_of_ble_eq_true rfl) (Nat.le_of_ble_eq_true rfl) rfl (Nat.le_of_ble_eq_true rfl) ⟨Nat.zero_le _, Nat.zero_le _⟩ ?_
        refine J_if_ne E (tgt := 52) dX5_copy_41 (by decide) (fun c_41 => ?_) (fun c_41 => ?_)
        · skip
          have c_41 := bI_1 c_41
          exact absurd c_41 h1
        · skip
          have c_41 := bI_0 c_41
          refine J_aload E dX5_copy_44 0 rfl ?_
          refine J_si8r E (As := []) (c_X2_isMissing l G (sh a 31) (x 8) ) cl_X5_212 yo_X2_isMissing dX5_copy_46 rfl (Nat.le_of_ble_eq_true rfl) (Nat.le_of_ble_eq_true rfl) rfl (Nat.le_of_ble_eq_true rfl) ⟨Nat.zero_le _, Nat.zero_le _⟩ ?_
          refine J_if_eq E (tgt := 58) dX5_copy_49 (by decide) (fun c_49 => ?_) (fun c_49 => ?_)
          · skip
            have c_49 := bI_0 c_49
            refine J_aload E dX5_copy_58 1 rfl ?_
            refine gC31_X5_215 E dX5_copy_60 ?_
            refine J_aload E dX5_copy_63 0 rfl ?_
            refine gC31_X5_215 E dX5_copy_65 ?_
            refine J_icmp_eq E (tgt := 77) dX5_copy_68 (by decide) (fun c_68 => ?_) (fun c_68 => ?_)
            · skip
              exact absurd c_68 h3
            · skip
              refine J_aload_n E dX5_copy_71 rfl 2 rfl ?_
              refine J_iconst E dX5_copy_72 ic_2 ?_
              refine J_cVi0 E (As := [.int 2]) (c_X5_tell l G a x 2 (by omega)) cl_X5_64 yo_X5_tell dX5_copy_73 rfl rfl rfl (Nat.le_of_ble_eq_true rfl) (Nat.le_of_ble_eq_true rfl) rfl (Nat.le_of_ble_eq_true rfl) ⟨Nat.zero_le _, Nat.zero_le _⟩ ?_
              exact ret _ _ _ _ ⟨rfl, _, rfl, by intro g h2 h6; simp [upG, up3, up3R, h2, h6]⟩ rfl dX5_copy_76
          · skip
            have c_49 := bI_1 c_49
            exact absurd c_49 h2
      · skip
        have c_11 := bI_0 c_11
        exact absurd (in3 (by decide)) c_11
  · skip
    refine J_iload_n E dX5_copy_0 rfl 1 rfl ?_
    refine J_cSiN E (As := [.int (nI 0)]) (c_X5_isSheet l G (nI 0) ) cl_X5_202 yo_X5_isSheet dX5_copy_1 rfl (Nat.le_of_ble_eq_true rfl) (Nat.le_of_ble_eq_true rfl) rfl (Nat.le_of_ble_eq_true rfl) ⟨Nat.zero_le _, Nat.zero_le _⟩ ?_
    refine J_if_eq E (tgt := 14) dX5_copy_4 (by decide) (fun c_4 => ?_) (fun c_4 => ?_)
    · skip
      have c_4 := bI_0 c_4
      exact absurd (in3 (by decide)) c_4
    · skip
      have c_4 := bI_1 c_4
      refine J_iload_n E dX5_copy_7 rfl 3 rfl ?_
      refine J_cSiN E (As := [.int (nI 1)]) (c_X5_isSheet l G (nI 1) ) cl_X5_202 yo_X5_isSheet dX5_copy_8 rfl (Nat.le_of_ble_eq_true rfl) (Nat.le_of_ble_eq_true rfl) rfl (Nat.le_of_ble_eq_true rfl) ⟨Nat.zero_le _, Nat.zero_le _⟩ ?_
      refine J_if_ne E (tgt := 20) dX5_copy_11 (by decide) (fun c_11 => ?_) (fun c_11 => ?_)
      · skip
        have c_11 := bI_1 c_11
        refine J_aload_n E dX5_copy_20 rfl 0 rfl ?_
        refine gC0_X5_44 E dX5_copy_21 ?_
        refine J_iload_n E dX5_copy_24 rfl 1 rfl ?_
        refine laC_30_0 E dX5_copy_25 ?_
        refine J_astore E (lv' := [(6, .ref (a 31)), (0, .ref (a 0)), (1, .int (nI 0)), (2, .int f), (3, .int (nI 1)), (4, .int o), (5, .int n)]) dX5_copy_26 (by decide) rfl ?_
        refine J_aload_n E dX5_copy_28 rfl 1 rfl ?_
        refine gC0_X5_44 E dX5_copy_29 ?_
        refine J_iload_n E dX5_copy_32 rfl 4 rfl ?_
        refine laC_30_1 E dX5_copy_33 ?_
        refine J_astore E (lv' := [(7, .ref (a 33)), (6, .ref (a 31)), (0, .ref (a 0)), (1, .int (nI 0)), (2, .int f), (3, .int (nI 1)), (4, .int o), (5, .int n)]) dX5_copy_34 (by decide) rfl ?_
        refine J_aload E dX5_copy_36 1 rfl ?_
        refine J_si8r E (As := []) (c_X2_isMissing l G (sh a 31) (x 8) ) cl_X5_212 yo_X2_isMissing dX5_copy_38 rfl (Nat.le_of_ble_eq_true rfl) (Nat.le_of_ble_eq_true rfl) rfl (Nat.le_of_ble_eq_true rfl) ⟨Nat.zero_le _, Nat.zero_le _⟩ ?_
        refine J_if_ne E (tgt := 52) dX5_copy_41 (by decide) (fun c_41 => ?_) (fun c_41 => ?_)
        · skip
          have c_41 := bI_1 c_41
          exact absurd c_41 h1
        · skip
          have c_41 := bI_0 c_41
          refine J_aload E dX5_copy_44 0 rfl ?_
          refine J_si9r E (As := []) (c_X2_isMissing l G (sh a 33) (x 9) ) cl_X5_212 yo_X2_isMissing dX5_copy_46 rfl (Nat.le_of_ble_eq_true rfl) (Nat.le_of_ble_eq_true rfl) rfl (Nat.le_of_ble_eq_true rfl) ⟨Nat.zero_le _, Nat.zero_le _⟩ ?_
          refine J_if_eq E (tgt := 58) dX5_copy_49 (by decide) (fun c_49 => ?_) (fun c_49 => ?_)
          · skip
            have c_49 := bI_0 c_49
            refine J_aload E dX5_copy_58 1 rfl ?_
            refine gC31_X5_215 E dX5_copy_60 ?_
            refine J_aload E dX5_copy_63 0 rfl ?_
            refine gC33_X5_215 E dX5_copy_65 ?_
            refine J_icmp_eq E (tgt := 77) dX5_copy_68 (by decide) (fun c_68 => ?_) (fun c_68 => ?_)
            · skip
              exact absurd c_68 h3
            · skip
              refine J_aload_n E dX5_copy_71 rfl 2 rfl ?_
              refine J_iconst E dX5_copy_72 ic_2 ?_
              refine J_cVi0 E (As := [.int 2]) (c_X5_tell l G a x 2 (by omega)) cl_X5_64 yo_X5_tell dX5_copy_73 rfl rfl rfl (Nat.le_of_ble_eq_true rfl) (Nat.le_of_ble_eq_true rfl) rfl (Nat.le_of_ble_eq_true rfl) ⟨Nat.zero_le _, Nat.zero_le _⟩ ?_
              exact ret _ _ _ _ ⟨rfl, _, rfl, by intro g h2 h6; simp [upG, up3, up3R, h2, h6]⟩ rfl dX5_copy_76
          · skip
            have c_49 := bI_1 c_49
            exact absurd c_49 h2
      · skip
        have c_11 := bI_0 c_11
        exact absurd (in3 (by decide)) c_11
  · skip
    refine J_iload_n E dX5_copy_0 rfl 1 rfl ?_
    refine J_cSiN E (As := [.int (nI 0)]) (c_X5_isSheet l G (nI 0) ) cl_X5_202 yo_X5_isSheet dX5_copy_1 rfl (Nat.le_of_ble_eq_true rfl) (Nat.le_of_ble_eq_true rfl) rfl (Nat.le_of_ble_eq_true rfl) ⟨Nat.zero_le _, Nat.zero_le _⟩ ?_
    refine J_if_eq E (tgt := 14) dX5_copy_4 (by decide) (fun c_4 => ?_) (fun c_4 => ?_)
    · skip
      have c_4 := bI_0 c_4
      exact absurd (in3 (by decide)) c_4
    · skip
      have c_4 := bI_1 c_4
      refine J_iload_n E dX5_copy_7 rfl 3 rfl ?_
      refine J_cSiN E (As := [.int (nI 2)]) (c_X5_isSheet l G (nI 2) ) cl_X5_202 yo_X5_isSheet dX5_copy_8 rfl (Nat.le_of_ble_eq_true rfl) (Nat.le_of_ble_eq_true rfl) rfl (Nat.le_of_ble_eq_true rfl) ⟨Nat.zero_le _, Nat.zero_le _⟩ ?_
      refine J_if_ne E (tgt := 20) dX5_copy_11 (by decide) (fun c_11 => ?_) (fun c_11 => ?_)
      · skip
        have c_11 := bI_1 c_11
        refine J_aload_n E dX5_copy_20 rfl 0 rfl ?_
        refine gC0_X5_44 E dX5_copy_21 ?_
        refine J_iload_n E dX5_copy_24 rfl 1 rfl ?_
        refine laC_30_0 E dX5_copy_25 ?_
        refine J_astore E (lv' := [(6, .ref (a 31)), (0, .ref (a 0)), (1, .int (nI 0)), (2, .int f), (3, .int (nI 2)), (4, .int o), (5, .int n)]) dX5_copy_26 (by decide) rfl ?_
        refine J_aload_n E dX5_copy_28 rfl 1 rfl ?_
        refine gC0_X5_44 E dX5_copy_29 ?_
        refine J_iload_n E dX5_copy_32 rfl 4 rfl ?_
        refine laC_30_2 E dX5_copy_33 ?_
        refine J_astore E (lv' := [(7, .ref (a 35)), (6, .ref (a 31)), (0, .ref (a 0)), (1, .int (nI 0)), (2, .int f), (3, .int (nI 2)), (4, .int o), (5, .int n)]) dX5_copy_34 (by decide) rfl ?_
        refine J_aload E dX5_copy_36 1 rfl ?_
        refine J_si8r E (As := []) (c_X2_isMissing l G (sh a 31) (x 8) ) cl_X5_212 yo_X2_isMissing dX5_copy_38 rfl (Nat.le_of_ble_eq_true rfl) (Nat.le_of_ble_eq_true rfl) rfl (Nat.le_of_ble_eq_true rfl) ⟨Nat.zero_le _, Nat.zero_le _⟩ ?_
        refine J_if_ne E (tgt := 52) dX5_copy_41 (by decide) (fun c_41 => ?_) (fun c_41 => ?_)
        · skip
          have c_41 := bI_1 c_41
          exact absurd c_41 h1
        · skip
          have c_41 := bI_0 c_41
          refine J_aload E dX5_copy_44 0 rfl ?_
          refine J_si10r E (As := []) (c_X2_isMissing l G (sh a 35) (x 10) ) cl_X5_212 yo_X2_isMissing dX5_copy_46 rfl (Nat.le_of_ble_eq_true rfl) (Nat.le_of_ble_eq_true rfl) rfl (Nat.le_of_ble_eq_true rfl) ⟨Nat.zero_le _, Nat.zero_le _⟩ ?_
          refine J_if_eq E (tgt := 58) dX5_copy_49 (by decide) (fun c_49 => ?_) (fun c_49 => ?_)
          · skip
            have c_49 := bI_0 c_49
            refine J_aload E dX5_copy_58 1 rfl ?_
            refine gC31_X5_215 E dX5_copy_60 ?_
            refine J_aload E dX5_copy_63 0 rfl ?_
            refine gC35_X5_215 E dX5_copy_65 ?_
            refine J_icmp_eq E (tgt := 77) dX5_copy_68 (by decide) (fun c_68 => ?_) (fun c_68 => ?_)
            · skip
              exact absurd c_68 h3
            · skip
              refine J_aload_n E dX5_copy_71 rfl 2 rfl ?_
              refine J_iconst E dX5_copy_72 ic_2 ?_
              refine J_cVi0 E (As := [.int 2]) (c_X5_tell l G a x 2 (by omega)) cl_X5_64 yo_X5_tell dX5_copy_73 rfl rfl rfl (Nat.le_of_ble_eq_true rfl) (Nat.le_of_ble_eq_true rfl) rfl (Nat.le_of_ble_eq_true rfl) ⟨Nat.zero_le _, Nat.zero_le _⟩ ?_
              exact ret _ _ _ _ ⟨rfl, _, rfl, by intro g h2 h6; simp [upG, up3, up3R, h2, h6]⟩ rfl dX5_copy_76
          · skip
            have c_49 := bI_1 c_49
            exact absurd c_49 h2
      · skip
        have c_11 := bI_0 c_11
        exact absurd (in3 (by decide)) c_11
  · skip
    refine J_iload_n E dX5_copy_0 rfl 1 rfl ?_
    refine J_cSiN E (As := [.int (nI 0)]) (c_X5_isSheet l G (nI 0) ) cl_X5_202 yo_X5_isSheet dX5_copy_1 rfl (Nat.le_of_ble_eq_true rfl) (Nat.le_of_ble_eq_true rfl) rfl (Nat.le_of_ble_eq_true rfl) ⟨Nat.zero_le _, Nat.zero_le _⟩ ?_
    refine J_if_eq E (tgt := 14) dX5_copy_4 (by decide) (fun c_4 => ?_) (fun c_4 => ?_)
    · skip
      have c_4 := bI_0 c_4
      exact absurd (in3 (by decide)) c_4
    · skip
      have c_4 := bI_1 c_4
      refine J_iload_n E dX5_copy_7 rfl 3 rfl ?_
      refine J_cSiN E (As := [.int (nI 3)]) (c_X5_isSheet l G (nI 3) ) cl_X5_202 yo_X5_isSheet dX5_copy_8 rfl (Nat.le_of_ble_eq_true rfl) (Nat.le_of_ble_eq_true rfl) rfl (Nat.le_of_ble_eq_true rfl) ⟨Nat.zero_le _, Nat.zero_le _⟩ ?_
      refine J_if_ne E (tgt := 20) dX5_copy_11 (by decide) (fun c_11 => ?_) (fun c_11 => ?_)
      · skip
        have c_11 := bI_1 c_11
        refine J_aload_n E dX5_copy_20 rfl 0 rfl ?_
        refine gC0_X5_44 E dX5_copy_21 ?_
        refine J_iload_n E dX5_copy_24 rfl 1 rfl ?_
        refine laC_30_0 E dX5_copy_25 ?_
        refine J_astore E (lv' := [(6, .ref (a 31)), (0, .ref (a 0)), (1, .int (nI 0)), (2, .int f), (3, .int (nI 3)), (4, .int o), (5, .int n)]) dX5_copy_26 (by decide) rfl ?_
        refine J_aload_n E dX5_copy_28 rfl 1 rfl ?_
        refine gC0_X5_44 E dX5_copy_29 ?_
        refine J_iload_n E dX5_copy_32 rfl 4 rfl ?_
        refine laC_30_3 E dX5_copy_33 ?_
        refine J_astore E (lv' := [(7, .ref (a 37)), (6, .ref (a 31)), (0, .ref (a 0)), (1, .int (nI 0)), (2, .int f), (3, .int (nI 3)), (4, .int o), (5, .int n)]) dX5_copy_34 (by decide) rfl ?_
        refine J_aload E dX5_copy_36 1 rfl ?_
        refine J_si8r E (As := []) (c_X2_isMissing l G (sh a 31) (x 8) ) cl_X5_212 yo_X2_isMissing dX5_copy_38 rfl (Nat.le_of_ble_eq_true rfl) (Nat.le_of_ble_eq_true rfl) rfl (Nat.le_of_ble_eq_true rfl) ⟨Nat.zero_le _, Nat.zero_le _⟩ ?_
        refine J_if_ne E (tgt := 52) dX5_copy_41 (by decide) (fun c_41 => ?_) (fun c_41 => ?_)
        · skip
          have c_41 := bI_1 c_41
          exact absurd c_41 h1
        · skip
          have c_41 := bI_0 c_41
          refine J_aload E dX5_copy_44 0 rfl ?_
          refine J_si11r E (As := []) (c_X2_isMissing l G (sh a 37) (x 11) ) cl_X5_212 yo_X2_isMissing dX5_copy_46 rfl (Nat.le_of_ble_eq_true rfl) (Nat.le_of_ble_eq_true rfl) rfl (Nat.le_of_ble_eq_true rfl) ⟨Nat.zero_le _, Nat.zero_le _⟩ ?_
          refine J_if_eq E (tgt := 58) dX5_copy_49 (by decide) (fun c_49 => ?_) (fun c_49 => ?_)
          · skip
            have c_49 := bI_0 c_49
            refine J_aload E dX5_copy_58 1 rfl ?_
            refine gC31_X5_215 E dX5_copy_60 ?_
            refine J_aload E dX5_copy_63 0 rfl ?_
            refine gC37_X5_215 E dX5_copy_65 ?_
            refine J_icmp_eq E (tgt := 77) dX5_copy_68 (by decide) (fun c_68 => ?_) (fun c_68 => ?_)
            · skip
              exact absurd c_68 h3
            · skip
              refine J_aload_n E dX5_copy_71 rfl 2 rfl ?_
              refine J_iconst E dX5_copy_72 ic_2 ?_
              refine J_cVi0 E (As := [.int 2]) (c_X5_tell l G a x 2 (by omega)) cl_X5_64 yo_X5_tell dX5_copy_73 rfl rfl rfl (Nat.le_of_ble_eq_true rfl) (Nat.le_of_ble_eq_true rfl) rfl (Nat.le_of_ble_eq_true rfl) ⟨Nat.zero_le _, Nat.zero_le _⟩ ?_
              exact ret _ _ _ _ ⟨rfl, _, rfl, by intro g h2 h6; simp [upG, up3, up3R, h2, h6]⟩ rfl dX5_copy_76
          · skip
            have c_49 := bI_1 c_49
            exact absurd c_49 h2
      · skip
        have c_11 := bI_0 c_11
        exact absurd (in3 (by decide)) c_11
  · skip
    refine J_iload_n E dX5_copy_0 rfl 1 rfl ?_
    refine J_cSiN E (As := [.int (nI 1)]) (c_X5_isSheet l G (nI 1) ) cl_X5_202 yo_X5_isSheet dX5_copy_1 rfl (Nat.le_of_ble_eq_true rfl) (Nat.le_of_ble_eq_true rfl) rfl (Nat.le_of_ble_eq_true rfl) ⟨Nat.zero_le _, Nat.zero_le _⟩ ?_
    refine J_if_eq E (tgt := 14) dX5_copy_4 (by decide) (fun c_4 => ?_) (fun c_4 => ?_)
    · skip
      have c_4 := bI_0 c_4
      exact absurd (in3 (by decide)) c_4
    · skip
      have c_4 := bI_1 c_4
      refine J_iload_n E dX5_copy_7 rfl 3 rfl ?_
      refine J_cSiN E (As := [.int (nI 0)]) (c_X5_isSheet l G (nI 0) ) cl_X5_202 yo_X5_isSheet dX5_copy_8 rfl (Nat.le_of_ble_eq_true rfl) (Nat.le_of_ble_eq_true rfl) rfl (Nat.le_of_ble_eq_true rfl) ⟨Nat.zero_le _, Nat.zero_le _⟩ ?_
      refine J_if_ne E (tgt := 20) dX5_copy_11 (by decide) (fun c_11 => ?_) (fun c_11 => ?_)
      · skip
        have c_11 := bI_1 c_11
        refine J_aload_n E dX5_copy_20 rfl 0 rfl ?_
        refine gC0_X5_44 E dX5_copy_21 ?_
        refine J_iload_n E dX5_copy_24 rfl 1 rfl ?_
        refine laC_30_1 E dX5_copy_25 ?_
        refine J_astore E (lv' := [(6, .ref (a 33)), (0, .ref (a 0)), (1, .int (nI 1)), (2, .int f), (3, .int (nI 0)), (4, .int o), (5, .int n)]) dX5_copy_26 (by decide) rfl ?_
        refine J_aload_n E dX5_copy_28 rfl 1 rfl ?_
        refine gC0_X5_44 E dX5_copy_29 ?_
        refine J_iload_n E dX5_copy_32 rfl 4 rfl ?_
        refine laC_30_0 E dX5_copy_33 ?_
        refine J_astore E (lv' := [(7, .ref (a 31)), (6, .ref (a 33)), (0, .ref (a 0)), (1, .int (nI 1)), (2, .int f), (3, .int (nI 0)), (4, .int o), (5, .int n)]) dX5_copy_34 (by decide) rfl ?_
        refine J_aload E dX5_copy_36 1 rfl ?_
        refine J_si9r E (As := []) (c_X2_isMissing l G (sh a 33) (x 9) ) cl_X5_212 yo_X2_isMissing dX5_copy_38 rfl (Nat.le_of_ble_eq_true rfl) (Nat.le_of_ble_eq_true rfl) rfl (Nat.le_of_ble_eq_true rfl) ⟨Nat.zero_le _, Nat.zero_le _⟩ ?_
        refine J_if_ne E (tgt := 52) dX5_copy_41 (by decide) (fun c_41 => ?_) (fun c_41 => ?_)
        · skip
          have c_41 := bI_1 c_41
          exact absurd c_41 h1
        · skip
          have c_41 := bI_0 c_41
          refine J_aload E dX5_copy_44 0 rfl ?_
          refine J_si8r E (As := []) (c_X2_isMissing l G (sh a 31) (x 8) ) cl_X5_212 yo_X2_isMissing dX5_copy_46 rfl (Nat.le_of_ble_eq_true rfl) (Nat.le_of_ble_eq_true rfl) rfl (Nat.le_of_ble_eq_true rfl) ⟨Nat.zero_le _, Nat.zero_le _⟩ ?_
          refine J_if_eq E (tgt := 58) dX5_copy_49 (by decide) (fun c_49 => ?_) (fun c_49 => ?_)
          · skip
            have c_49 := bI_0 c_49
            refine J_aload E dX5_copy_58 1 rfl ?_
            refine gC33_X5_215 E dX5_copy_60 ?_
            refine J_aload E dX5_copy_63 0 rfl ?_
            refine gC31_X5_215 E dX5_copy_65 ?_
            refine J_icmp_eq E (tgt := 77) dX5_copy_68 (by decide) (fun c_68 => ?_) (fun c_68 => ?_)
            · skip
              exact absurd c_68 h3
            · skip
              refine J_aload_n E dX5_copy_71 rfl 2 rfl ?_
              refine J_iconst E dX5_copy_72 ic_2 ?_
              refine J_cVi0 E (As := [.int 2]) (c_X5_tell l G a x 2 (by omega)) cl_X5_64 yo_X5_tell dX5_copy_73 rfl rfl rfl (Nat.le_of_ble_eq_true rfl) (Nat.le_of_ble_eq_true rfl) rfl (Nat.le_of_ble_eq_true rfl) ⟨Nat.zero_le _, Nat.zero_le _⟩ ?_
              exact ret _ _ _ _ ⟨rfl, _, rfl, by intro g h2 h6; simp [upG, up3, up3R, h2, h6]⟩ rfl dX5_copy_76
          · skip
            have c_49 := bI_1 c_49
            exact absurd c_49 h2
      · skip
        have c_11 := bI_0 c_11
        exact absurd (in3 (by decide)) c_11
  · skip
    refine J_iload_n E dX5_copy_0 rfl 1 rfl ?_
    refine J_cSiN E (As := [.int (nI 1)]) (c_X5_isSheet l G (nI 1) ) cl_X5_202 yo_X5_isSheet dX5_copy_1 rfl (Nat.le_of_ble_eq_true rfl) (Nat.le_of_ble_eq_true rfl) rfl (Nat.le_of_ble_eq_true rfl) ⟨Nat.zero_le _, Nat.zero_le _⟩ ?_
    refine J_if_eq E (tgt := 14) dX5_copy_4 (by decide) (fun c_4 => ?_) (fun c_4 => ?_)
    · skip
      have c_4 := bI_0 c_4
      exact absurd (in3 (by decide)) c_4
    · skip
      have c_4 := bI_1 c_4
      refine J_iload_n E dX5_copy_7 rfl 3 rfl ?_
      refine J_cSiN E (As := [.int (nI 1)]) (c_X5_isSheet l G (nI 1) ) cl_X5_202 yo_X5_isSheet dX5_copy_8 rfl (Nat.le_of_ble_eq_true rfl) (Nat.le_of_ble_eq_true rfl) rfl (Nat.le_of_ble_eq_true rfl) ⟨Nat.zero_le _, Nat.zero_le _⟩ ?_
      refine J_if_ne E (tgt := 20) dX5_copy_11 (by decide) (fun c_11 => ?_) (fun c_11 => ?_)
      · skip
        have c_11 := bI_1 c_11
        refine J_aload_n E dX5_copy_20 rfl 0 rfl ?_
        refine gC0_X5_44 E dX5_copy_21 ?_
        refine J_iload_n E dX5_copy_24 rfl 1 rfl ?_
        refine laC_30_1 E dX5_copy_25 ?_
        refine J_astore E (lv' := [(6, .ref (a 33)), (0, .ref (a 0)), (1, .int (nI 1)), (2, .int f), (3, .int (nI 1)), (4, .int o), (5, .int n)]) dX5_copy_26 (by decide) rfl ?_
        refine J_aload_n E dX5_copy_28 rfl 1 rfl ?_
        refine gC0_X5_44 E dX5_copy_29 ?_
        refine J_iload_n E dX5_copy_32 rfl 4 rfl ?_
        refine laC_30_1 E dX5_copy_33 ?_
        refine J_astore E (lv' := [(7, .ref (a 33)), (6, .ref (a 33)), (0, .ref (a 0)), (1, .int (nI 1)), (2, .int f), (3, .int (nI 1)), (4, .int o), (5, .int n)]) dX5_copy_34 (by decide) rfl ?_
        refine J_aload E dX5_copy_36 1 rfl ?_
        refine J_si9r E (As := []) (c_X2_isMissing l G (sh a 33) (x 9) ) cl_X5_212 yo_X2_isMissing dX5_copy_38 rfl (Nat.le_of_ble_eq_true rfl) (Nat.le_of_ble_eq_true rfl) rfl (Nat.le_of_ble_eq_true rfl) ⟨Nat.zero_le _, Nat.zero_le _⟩ ?_
        refine J_if_ne E (tgt := 52) dX5_copy_41 (by decide) (fun c_41 => ?_) (fun c_41 => ?_)
        · skip
          have c_41 := bI_1 c_41
          exact absurd c_41 h1
        · skip
          have c_41 := bI_0 c_41
          refine J_aload E dX5_copy_44 0 rfl ?_
          refine J_si9r E (As := []) (c_X2_isMissing l G (sh a 33) (x 9) ) cl_X5_212 yo_X2_isMissing dX5_copy_46 rfl (Nat.le_of_ble_eq_true rfl) (Nat.le_of_ble_eq_true rfl) rfl (Nat.le_of_ble_eq_true rfl) ⟨Nat.zero_le _, Nat.zero_le _⟩ ?_
          refine J_if_eq E (tgt := 58) dX5_copy_49 (by decide) (fun c_49 => ?_) (fun c_49 => ?_)
          · skip
            have c_49 := bI_0 c_49
            refine J_aload E dX5_copy_58 1 rfl ?_
            refine gC33_X5_215 E dX5_copy_60 ?_
            refine J_aload E dX5_copy_63 0 rfl ?_
            refine gC33_X5_215 E dX5_copy_65 ?_
            refine J_icmp_eq E (tgt := 77) dX5_copy_68 (by decide) (fun c_68 => ?_) (fun c_68 => ?_)
            · skip
              exact absurd c_68 h3
            · skip
              refine J_aload_n E dX5_copy_71 rfl 2 rfl ?_
              refine J_iconst E dX5_copy_72 ic_2 ?_
              refine J_cVi0 E (As := [.int 2]) (c_X5_tell l G a x 2 (by omega)) cl_X5_64 yo_X5_tell dX5_copy_73 rfl rfl rfl (Nat.le_of_ble_eq_true rfl) (Nat.le_of_ble_eq_true rfl) rfl (Nat.le_of_ble_eq_true rfl) ⟨Nat.zero_le _, Nat.zero_le _⟩ ?_
              exact ret _ _ _ _ ⟨rfl, _, rfl, by intro g h2 h6; simp [upG, up3, up3R, h2, h6]⟩ rfl dX5_copy_76
          · skip
            have c_49 := bI_1 c_49
            exact absurd c_49 h2
      · skip
        have c_11 := bI_0 c_11
        exact absurd (in3 (by decide)) c_11
  · skip
    refine J_iload_n E dX5_copy_0 rfl 1 rfl ?_
    refine J_cSiN E (As := [.int (nI 1)]) (c_X5_isSheet l G (nI 1) ) cl_X5_202 yo_X5_isSheet dX5_copy_1 rfl (Nat.le_of_ble_eq_true rfl) (Nat.le_of_ble_eq_true rfl) rfl (Nat.le_of_ble_eq_true rfl) ⟨Nat.zero_le _, Nat.zero_le _⟩ ?_
    refine J_if_eq E (tgt := 14) dX5_copy_4 (by decide) (fun c_4 => ?_) (fun c_4 => ?_)
    · skip
      have c_4 := bI_0 c_4
      exact absurd (in3 (by decide)) c_4
    · skip
      have c_4 := bI_1 c_4
      refine J_iload_n E dX5_copy_7 rfl 3 rfl ?_
      refine J_cSiN E (As := [.int (nI 2)]) (c_X5_isSheet l G (nI 2) ) cl_X5_202 yo_X5_isSheet dX5_copy_8 rfl (Nat.le_of_ble_eq_true rfl) (Nat.le_of_ble_eq_true rfl) rfl (Nat.le_of_ble_eq_true rfl) ⟨Nat.zero_le _, Nat.zero_le _⟩ ?_
      refine J_if_ne E (tgt := 20) dX5_copy_11 (by decide) (fun c_11 => ?_) (fun c_11 => ?_)
      · skip
        have c_11 := bI_1 c_11
        refine J_aload_n E dX5_copy_20 rfl 0 rfl ?_
        refine gC0_X5_44 E dX5_copy_21 ?_
        refine J_iload_n E dX5_copy_24 rfl 1 rfl ?_
        refine laC_30_1 E dX5_copy_25 ?_
        refine J_astore E (lv' := [(6, .ref (a 33)), (0, .ref (a 0)), (1, .int (nI 1)), (2, .int f), (3, .int (nI 2)), (4, .int o), (5, .int n)]) dX5_copy_26 (by decide) rfl ?_
        refine J_aload_n E dX5_copy_28 rfl 1 rfl ?_
        refine gC0_X5_44 E dX5_copy_29 ?_
        refine J_iload_n E dX5_copy_32 rfl 4 rfl ?_
        refine laC_30_2 E dX5_copy_33 ?_
        refine J_astore E (lv' := [(7, .ref (a 35)), (6, .ref (a 33)), (0, .ref (a 0)), (1, .int (nI 1)), (2, .int f), (3, .int (nI 2)), (4, .int o), (5, .int n)]) dX5_copy_34 (by decide) rfl ?_
        refine J_aload E dX5_copy_36 1 rfl ?_
        refine J_si9r E (As := []) (c_X2_isMissing l G (sh a 33) (x 9) ) cl_X5_212 yo_X2_isMissing dX5_copy_38 rfl (Nat.le_of_ble_eq_true rfl) (Nat.le_of_ble_eq_true rfl) rfl (Nat.le_of_ble_eq_true rfl) ⟨Nat.zero_le _, Nat.zero_le _⟩ ?_
        refine J_if_ne E (tgt := 52) dX5_copy_41 (by decide) (fun c_41 => ?_) (fun c_41 => ?_)
        · skip
          have c_41 := bI_1 c_41
          exact absurd c_41 h1
        · skip
          have c_41 := bI_0 c_41
          refine J_aload E dX5_copy_44 0 rfl ?_
          refine J_si10r E (As := []) (c_X2_isMissing l G (sh a 35) (x 10) ) cl_X5_212 yo_X2_isMissing dX5_copy_46 rfl (Nat.le_of_ble_eq_true rfl) (Nat.le_of_ble_eq_true rfl) rfl (Nat.le_of_ble_eq_true rfl) ⟨Nat.zero_le _, Nat.zero_le _⟩ ?_
          refine J_if_eq E (tgt := 58) dX5_copy_49 (by decide) (fun c_49 => ?_) (fun c_49 => ?_)
          · skip
            have c_49 := bI_0 c_49
            refine J_aload E dX5_copy_58 1 rfl ?_
            refine gC33_X5_215 E dX5_copy_60 ?_
            refine J_aload E dX5_copy_63 0 rfl ?_
            refine gC35_X5_215 E dX5_copy_65 ?_
            refine J_icmp_eq E (tgt := 77) dX5_copy_68 (by decide) (fun c_68 => ?_) (fun c_68 => ?_)
            · skip
              exact absurd c_68 h3
            · skip
              refine J_aload_n E dX5_copy_71 rfl 2 rfl ?_
              refine J_iconst E dX5_copy_72 ic_2 ?_
              refine J_cVi0 E (As := [.int 2]) (c_X5_tell l G a x 2 (by omega)) cl_X5_64 yo_X5_tell dX5_copy_73 rfl rfl rfl (Nat.le_of_ble_eq_true rfl) (Nat.le_of_ble_eq_true rfl) rfl (Nat.le_of_ble_eq_true rfl) ⟨Nat.zero_le _, Nat.zero_le _⟩ ?_
              exact ret _ _ _ _ ⟨rfl, _, rfl, by intro g h2 h6; simp [upG, up3, up3R, h2, h6]⟩ rfl dX5_copy_76
          · skip
            have c_49 := bI_1 c_49
            exact absurd c_49 h2
      · skip
        have c_11 := bI_0 c_11
        exact absurd (in3 (by decide)) c_11
  · skip
    refine J_iload_n E dX5_copy_0 rfl 1 rfl ?_
    refine J_cSiN E (As := [.int (nI 1)]) (c_X5_isSheet l G (nI 1) ) cl_X5_202 yo_X5_isSheet dX5_copy_1 rfl (Nat.le_of_ble_eq_true rfl) (Nat.le_of_ble_eq_true rfl) rfl (Nat.le_of_ble_eq_true rfl) ⟨Nat.zero_le _, Nat.zero_le _⟩ ?_
    refine J_if_eq E (tgt := 14) dX5_copy_4 (by decide) (fun c_4 => ?_) (fun c_4 => ?_)
    · skip
      have c_4 := bI_0 c_4
      exact absurd (in3 (by decide)) c_4
    · skip
      have c_4 := bI_1 c_4
      refine J_iload_n E dX5_copy_7 rfl 3 rfl ?_
      refine J_cSiN E (As := [.int (nI 3)]) (c_X5_isSheet l G (nI 3) ) cl_X5_202 yo_X5_isSheet dX5_copy_8 rfl (Nat.le_of_ble_eq_true rfl) (Nat.le_of_ble_eq_true rfl) rfl (Nat.le_of_ble_eq_true rfl) ⟨Nat.zero_le _, Nat.zero_le _⟩ ?_
      refine J_if_ne E (tgt := 20) dX5_copy_11 (by decide) (fun c_11 => ?_) (fun c_11 => ?_)
      · skip
        have c_11 := bI_1 c_11
        refine J_aload_n E dX5_copy_20 rfl 0 rfl ?_
        refine gC0_X5_44 E dX5_copy_21 ?_
        refine J_iload_n E dX5_copy_24 rfl 1 rfl ?_
        refine laC_30_1 E dX5_copy_25 ?_
        refine J_astore E (lv' := [(6, .ref (a 33)), (0, .ref (a 0)), (1, .int (nI 1)), (2, .int f), (3, .int (nI 3)), (4, .int o), (5, .int n)]) dX5_copy_26 (by decide) rfl ?_
        refine J_aload_n E dX5_copy_28 rfl 1 rfl ?_
        refine gC0_X5_44 E dX5_copy_29 ?_
        refine J_iload_n E dX5_copy_32 rfl 4 rfl ?_
        refine laC_30_3 E dX5_copy_33 ?_
        refine J_astore E (lv' := [(7, .ref (a 37)), (6, .ref (a 33)), (0, .ref (a 0)), (1, .int (nI 1)), (2, .int f), (3, .int (nI 3)), (4, .int o), (5, .int n)]) dX5_copy_34 (by decide) rfl ?_
        refine J_aload E dX5_copy_36 1 rfl ?_
        refine J_si9r E (As := []) (c_X2_isMissing l G (sh a 33) (x 9) ) cl_X5_212 yo_X2_isMissing dX5_copy_38 rfl (Nat.le_of_ble_eq_true rfl) (Nat.le_of_ble_eq_true rfl) rfl (Nat.le_of_ble_eq_true rfl) ⟨Nat.zero_le _, Nat.zero_le _⟩ ?_
        refine J_if_ne E (tgt := 52) dX5_copy_41 (by decide) (fun c_41 => ?_) (fun c_41 => ?_)
        · skip
          have c_41 := bI_1 c_41
          exact absurd c_41 h1
        · skip
          have c_41 := bI_0 c_41
          refine J_aload E dX5_copy_44 0 rfl ?_
          refine J_si11r E (As := []) (c_X2_isMissing l G (sh a 37) (x 11) ) cl_X5_212 yo_X2_isMissing dX5_copy_46 rfl (Nat.le_of_ble_eq_true rfl) (Nat.le_of_ble_eq_true rfl) rfl (Nat.le_of_ble_eq_true rfl) ⟨Nat.zero_le _, Nat.zero_le _⟩ ?_
          refine J_if_eq E (tgt := 58) dX5_copy_49 (by decide) (fun c_49 => ?_) (fun c_49 => ?_)
          · skip
            have c_49 := bI_0 c_49
            refine J_aload E dX5_copy_58 1 rfl ?_
            refine gC33_X5_215 E dX5_copy_60 ?_
            refine J_aload E dX5_copy_63 0 rfl ?_
            refine gC37_X5_215 E dX5_copy_65 ?_
            refine J_icmp_eq E (tgt := 77) dX5_copy_68 (by decide) (fun c_68 => ?_) (fun c_68 => ?_)
            · skip
              exact absurd c_68 h3
            · skip
              refine J_aload_n E dX5_copy_71 rfl 2 rfl ?_
              refine J_iconst E dX5_copy_72 ic_2 ?_
              refine J_cVi0 E (As := [.int 2]) (c_X5_tell l G a x 2 (by omega)) cl_X5_64 yo_X5_tell dX5_copy_73 rfl rfl rfl (Nat.le_of_ble_eq_true rfl) (Nat.le_of_ble_eq_true rfl) rfl (Nat.le_of_ble_eq_true rfl) ⟨Nat.zero_le _, Nat.zero_le _⟩ ?_
              exact ret _ _ _ _ ⟨rfl, _, rfl, by intro g h2 h6; simp [upG, up3, up3R, h2, h6]⟩ rfl dX5_copy_76
          · skip
            have c_49 := bI_1 c_49
            exact absurd c_49 h2
      · skip
        have c_11 := bI_0 c_11
        exact absurd (in3 (by decide)) c_11
  · skip
    refine J_iload_n E dX5_copy_0 rfl 1 rfl ?_
    refine J_cSiN E (As := [.int (nI 2)]) (c_X5_isSheet l G (nI 2) ) cl_X5_202 yo_X5_isSheet dX5_copy_1 rfl (Nat.le_of_ble_eq_true rfl) (Nat.le_of_ble_eq_true rfl) rfl (Nat.le_of_ble_eq_true rfl) ⟨Nat.zero_le _, Nat.zero_le _⟩ ?_
    refine J_if_eq E (tgt := 14) dX5_copy_4 (by decide) (fun c_4 => ?_) (fun c_4 => ?_)
    · skip
      have c_4 := bI_0 c_4
      exact absurd (in3 (by decide)) c_4
    · skip
      have c_4 := bI_1 c_4
      refine J_iload_n E dX5_copy_7 rfl 3 rfl ?_
      refine J_cSiN E (As := [.int (nI 0)]) (c_X5_isSheet l G (nI 0) ) cl_X5_202 yo_X5_isSheet dX5_copy_8 rfl (Nat.le_of_ble_eq_true rfl) (Nat.le_of_ble_eq_true rfl) rfl (Nat.le_of_ble_eq_true rfl) ⟨Nat.zero_le _, Nat.zero_le _⟩ ?_
      refine J_if_ne E (tgt := 20) dX5_copy_11 (by decide) (fun c_11 => ?_) (fun c_11 => ?_)
      · skip
        have c_11 := bI_1 c_11
        refine J_aload_n E dX5_copy_20 rfl 0 rfl ?_
        refine gC0_X5_44 E dX5_copy_21 ?_
        refine J_iload_n E dX5_copy_24 rfl 1 rfl ?_
        refine laC_30_2 E dX5_copy_25 ?_
        refine J_astore E (lv' := [(6, .ref (a 35)), (0, .ref (a 0)), (1, .int (nI 2)), (2, .int f), (3, .int (nI 0)), (4, .int o), (5, .int n)]) dX5_copy_26 (by decide) rfl ?_
        refine J_aload_n E dX5_copy_28 rfl 1 rfl ?_
        refine gC0_X5_44 E dX5_copy_29 ?_
        refine J_iload_n E dX5_copy_32 rfl 4 rfl ?_
        refine laC_30_0 E dX5_copy_33 ?_
        refine J_astore E (lv' := [(7, .ref (a 31)), (6, .ref (a 35)), (0, .ref (a 0)), (1, .int (nI 2)), (2, .int f), (3, .int (nI 0)), (4, .int o), (5, .int n)]) dX5_copy_34 (by decide) rfl ?_
        refine J_aload E dX5_copy_36 1 rfl ?_
        refine J_si10r E (As := []) (c_X2_isMissing l G (sh a 35) (x 10) ) cl_X5_212 yo_X2_isMissing dX5_copy_38 rfl (Nat.le_of_ble_eq_true rfl) (Nat.le_of_ble_eq_true rfl) rfl (Nat.le_of_ble_eq_true rfl) ⟨Nat.zero_le _, Nat.zero_le _⟩ ?_
        refine J_if_ne E (tgt := 52) dX5_copy_41 (by decide) (fun c_41 => ?_) (fun c_41 => ?_)
        · skip
          have c_41 := bI_1 c_41
          exact absurd c_41 h1
        · skip
          have c_41 := bI_0 c_41
          refine J_aload E dX5_copy_44 0 rfl ?_
          refine J_si8r E (As := []) (c_X2_isMissing l G (sh a 31) (x 8) ) cl_X5_212 yo_X2_isMissing dX5_copy_46 rfl (Nat.le_of_ble_eq_true rfl) (Nat.le_of_ble_eq_true rfl) rfl (Nat.le_of_ble_eq_true rfl) ⟨Nat.zero_le _, Nat.zero_le _⟩ ?_
          refine J_if_eq E (tgt := 58) dX5_copy_49 (by decide) (fun c_49 => ?_) (fun c_49 => ?_)
          · skip
            have c_49 := bI_0 c_49
            refine J_aload E dX5_copy_58 1 rfl ?_
            refine gC35_X5_215 E dX5_copy_60 ?_
            refine J_aload E dX5_copy_63 0 rfl ?_
            refine gC31_X5_215 E dX5_copy_65 ?_
            refine J_icmp_eq E (tgt := 77) dX5_copy_68 (by decide) (fun c_68 => ?_) (fun c_68 => ?_)
            · skip
              exact absurd c_68 h3
            · skip
              refine J_aload_n E dX5_copy_71 rfl 2 rfl ?_
              refine J_iconst E dX5_copy_72 ic_2 ?_
              refine J_cVi0 E (As := [.int 2]) (c_X5_tell l G a x 2 (by omega)) cl_X5_64 yo_X5_tell dX5_copy_73 rfl rfl rfl (Nat.le_of_ble_eq_true rfl) (Nat.le_of_ble_eq_true rfl) rfl (Nat.le_of_ble_eq_true rfl) ⟨Nat.zero_le _, Nat.zero_le _⟩ ?_
              exact ret _ _ _ _ ⟨rfl, _, rfl, by intro g h2 h6; simp [upG, up3, up3R, h2, h6]⟩ rfl dX5_copy_76
          · skip
            have c_49 := bI_1 c_49
            exact absurd c_49 h2
      · skip
        have c_11 := bI_0 c_11
        exact absurd (in3 (by decide)) c_11
  · skip
    refine J_iload_n E dX5_copy_0 rfl 1 rfl ?_
    refine J_cSiN E (As := [.int (nI 2)]) (c_X5_isSheet l G (nI 2) ) cl_X5_202 yo_X5_isSheet dX5_copy_1 rfl (Nat.le_of_ble_eq_true rfl) (Nat.le_of_ble_eq_true rfl) rfl (Nat.le_of_ble_eq_true rfl) ⟨Nat.zero_le _, Nat.zero_le _⟩ ?_
    refine J_if_eq E (tgt := 14) dX5_copy_4 (by decide) (fun c_4 => ?_) (fun c_4 => ?_)
    · skip
      have c_4 := bI_0 c_4
      exact absurd (in3 (by decide)) c_4
    · skip
      have c_4 := bI_1 c_4
      refine J_iload_n E dX5_copy_7 rfl 3 rfl ?_
      refine J_cSiN E (As := [.int (nI 1)]) (c_X5_isSheet l G (nI 1) ) cl_X5_202 yo_X5_isSheet dX5_copy_8 rfl (Nat.le_of_ble_eq_true rfl) (Nat.le_of_ble_eq_true rfl) rfl (Nat.le_of_ble_eq_true rfl) ⟨Nat.zero_le _, Nat.zero_le _⟩ ?_
      refine J_if_ne E (tgt := 20) dX5_copy_11 (by decide) (fun c_11 => ?_) (fun c_11 => ?_)
      · skip
        have c_11 := bI_1 c_11
        refine J_aload_n E dX5_copy_20 rfl 0 rfl ?_
        refine gC0_X5_44 E dX5_copy_21 ?_
        refine J_iload_n E dX5_copy_24 rfl 1 rfl ?_
        refine laC_30_2 E dX5_copy_25 ?_
        refine J_astore E (lv' := [(6, .ref (a 35)), (0, .ref (a 0)), (1, .int (nI 2)), (2, .int f), (3, .int (nI 1)), (4, .int o), (5, .int n)]) dX5_copy_26 (by decide) rfl ?_
        refine J_aload_n E dX5_copy_28 rfl 1 rfl ?_
        refine gC0_X5_44 E dX5_copy_29 ?_
        refine J_iload_n E dX5_copy_32 rfl 4 rfl ?_
        refine laC_30_1 E dX5_copy_33 ?_
        refine J_astore E (lv' := [(7, .ref (a 33)), (6, .ref (a 35)), (0, .ref (a 0)), (1, .int (nI 2)), (2, .int f), (3, .int (nI 1)), (4, .int o), (5, .int n)]) dX5_copy_34 (by decide) rfl ?_
        refine J_aload E dX5_copy_36 1 rfl ?_
        refine J_si10r E (As := []) (c_X2_isMissing l G (sh a 35) (x 10) ) cl_X5_212 yo_X2_isMissing dX5_copy_38 rfl (Nat.le_of_ble_eq_true rfl) (Nat.le_of_ble_eq_true rfl) rfl (Nat.le_of_ble_eq_true rfl) ⟨Nat.zero_le _, Nat.zero_le _⟩ ?_
        refine J_if_ne E (tgt := 52) dX5_copy_41 (by decide) (fun c_41 => ?_) (fun c_41 => ?_)
        · skip
          have c_41 := bI_1 c_41
          exact absurd c_41 h1
        · skip
          have c_41 := bI_0 c_41
          refine J_aload E dX5_copy_44 0 rfl ?_
          refine J_si9r E (As := []) (c_X2_isMissing l G (sh a 33) (x 9) ) cl_X5_212 yo_X2_isMissing dX5_copy_46 rfl (Nat.le_of_ble_eq_true rfl) (Nat.le_of_ble_eq_true rfl) rfl (Nat.le_of_ble_eq_true rfl) ⟨Nat.zero_le _, Nat.zero_le _⟩ ?_
          refine J_if_eq E (tgt := 58) dX5_copy_49 (by decide) (fun c_49 => ?_) (fun c_49 => ?_)
          · skip
            have c_49 := bI_0 c_49
            refine J_aload E dX5_copy_58 1 rfl ?_
            refine gC35_X5_215 E dX5_copy_60 ?_
            refine J_aload E dX5_copy_63 0 rfl ?_
            refine gC33_X5_215 E dX5_copy_65 ?_
            refine J_icmp_eq E (tgt := 77) dX5_copy_68 (by decide) (fun c_68 => ?_) (fun c_68 => ?_)
            · skip
              exact absurd c_68 h3
            · skip
              refine J_aload_n E dX5_copy_71 rfl 2 rfl ?_
              refine J_iconst E dX5_copy_72 ic_2 ?_
              refine J_cVi0 E (As := [.int 2]) (c_X5_tell l G a x 2 (by omega)) cl_X5_64 yo_X5_tell dX5_copy_73 rfl rfl rfl (Nat.le_of_ble_eq_true rfl) (Nat.le_of_ble_eq_true rfl) rfl (Nat.le_of_ble_eq_true rfl) ⟨Nat.zero_le _, Nat.zero_le _⟩ ?_
              exact ret _ _ _ _ ⟨rfl, _, rfl, by intro g h2 h6; simp [upG, up3, up3R, h2, h6]⟩ rfl dX5_copy_76
          · skip
            have c_49 := bI_1 c_49
            exact absurd c_49 h2
      · skip
        have c_11 := bI_0 c_11
        exact absurd (in3 (by decide)) c_11
  · skip
    refine J_iload_n E dX5_copy_0 rfl 1 rfl ?_
    refine J_cSiN E (As := [.int (nI 2)]) (c_X5_isSheet l G (nI 2) ) cl_X5_202 yo_X5_isSheet dX5_copy_1 rfl (Nat.le_of_ble_eq_true rfl) (Nat.le_of_ble_eq_true rfl) rfl (Nat.le_of_ble_eq_true rfl) ⟨Nat.zero_le _, Nat.zero_le _⟩ ?_
    refine J_if_eq E (tgt := 14) dX5_copy_4 (by decide) (fun c_4 => ?_) (fun c_4 => ?_)
    · skip
      have c_4 := bI_0 c_4
      exact absurd (in3 (by decide)) c_4
    · skip
      have c_4 := bI_1 c_4
      refine J_iload_n E dX5_copy_7 rfl 3 rfl ?_
      refine J_cSiN E (As := [.int (nI 2)]) (c_X5_isSheet l G (nI 2) ) cl_X5_202 yo_X5_isSheet dX5_copy_8 rfl (Nat.le_of_ble_eq_true rfl) (Nat.le_of_ble_eq_true rfl) rfl (Nat.le_of_ble_eq_true rfl) ⟨Nat.zero_le _, Nat.zero_le _⟩ ?_
      refine J_if_ne E (tgt := 20) dX5_copy_11 (by decide) (fun c_11 => ?_) (fun c_11 => ?_)
      · skip
        have c_11 := bI_1 c_11
        refine J_aload_n E dX5_copy_20 rfl 0 rfl ?_
        refine gC0_X5_44 E dX5_copy_21 ?_
        refine J_iload_n E dX5_copy_24 rfl 1 rfl ?_
        refine laC_30_2 E dX5_copy_25 ?_
        refine J_astore E (lv' := [(6, .ref (a 35)), (0, .ref (a 0)), (1, .int (nI 2)), (2, .int f), (3, .int (nI 2)), (4, .int o), (5, .int n)]) dX5_copy_26 (by decide) rfl ?_
        refine J_aload_n E dX5_copy_28 rfl 1 rfl ?_
        refine gC0_X5_44 E dX5_copy_29 ?_
        refine J_iload_n E dX5_copy_32 rfl 4 rfl ?_
        refine laC_30_2 E dX5_copy_33 ?_
        refine J_astore E (lv' := [(7, .ref (a 35)), (6, .ref (a 35)), (0, .ref (a 0)), (1, .int (nI 2)), (2, .int f), (3, .int (nI 2)), (4, .int o), (5, .int n)]) dX5_copy_34 (by decide) rfl ?_
        refine J_aload E dX5_copy_36 1 rfl ?_
        refine J_si10r E (As := []) (c_X2_isMissing l G (sh a 35) (x 10) ) cl_X5_212 yo_X2_isMissing dX5_copy_38 rfl (Nat.le_of_ble_eq_true rfl) (Nat.le_of_ble_eq_true rfl) rfl (Nat.le_of_ble_eq_true rfl) ⟨Nat.zero_le _, Nat.zero_le _⟩ ?_
        refine J_if_ne E (tgt := 52) dX5_copy_41 (by decide) (fun c_41 => ?_) (fun c_41 => ?_)
        · skip
          have c_41 := bI_1 c_41
          exact absurd c_41 h1
        · skip
          have c_41 := bI_0 c_41
          refine J_aload E dX5_copy_44 0 rfl ?_
          refine J_si10r E (As := []) (c_X2_isMissing l G (sh a 35) (x 10) ) cl_X5_212 yo_X2_isMissing dX5_copy_46 rfl (Nat.le_of_ble_eq_true rfl) (Nat.le_of_ble_eq_true rfl) rfl (Nat.le_of_ble_eq_true rfl) ⟨Nat.zero_le _, Nat.zero_le _⟩ ?_
          refine J_if_eq E (tgt := 58) dX5_copy_49 (by decide) (fun c_49 => ?_) (fun c_49 => ?_)
          · skip
            have c_49 := bI_0 c_49
            refine J_aload E dX5_copy_58 1 rfl ?_
            refine gC35_X5_215 E dX5_copy_60 ?_
            refine J_aload E dX5_copy_63 0 rfl ?_
            refine gC35_X5_215 E dX5_copy_65 ?_
            refine J_icmp_eq E (tgt := 77) dX5_copy_68 (by decide) (fun c_68 => ?_) (fun c_68 => ?_)
            · skip
              exact absurd c_68 h3
            · skip
              refine J_aload_n E dX5_copy_71 rfl 2 rfl ?_
              refine J_iconst E dX5_copy_72 ic_2 ?_
              refine J_cVi0 E (As := [.int 2]) (c_X5_tell l G a x 2 (by omega)) cl_X5_64 yo_X5_tell dX5_copy_73 rfl rfl rfl (Nat.le_of_ble_eq_true rfl) (Nat.le_of_ble_eq_true rfl) rfl (Nat.le_of_ble_eq_true rfl) ⟨Nat.zero_le _, Nat.zero_le _⟩ ?_
              exact ret _ _ _ _ ⟨rfl, _, rfl, by intro g h2 h6; simp [upG, up3, up3R, h2, h6]⟩ rfl dX5_copy_76
          · skip
            have c_49 := bI_1 c_49
            exact absurd c_49 h2
      · skip
        have c_11 := bI_0 c_11
        exact absurd (in3 (by decide)) c_11
  · skip
    refine J_iload_n E dX5_copy_0 rfl 1 rfl ?_
    refine J_cSiN E (As := [.int (nI 2)]) (c_X5_isSheet l G (nI 2) ) cl_X5_202 yo_X5_isSheet dX5_copy_1 rfl (Nat.le_of_ble_eq_true rfl) (Nat.le_of_ble_eq_true rfl) rfl (Nat.le_of_ble_eq_true rfl) ⟨Nat.zero_le _, Nat.zero_le _⟩ ?_
    refine J_if_eq E (tgt := 14) dX5_copy_4 (by decide) (fun c_4 => ?_) (fun c_4 => ?_)
    · skip
      have c_4 := bI_0 c_4
      exact absurd (in3 (by decide)) c_4
    · skip
      have c_4 := bI_1 c_4
      refine J_iload_n E dX5_copy_7 rfl 3 rfl ?_
      refine J_cSiN E (As := [.int (nI 3)]) (c_X5_isSheet l G (nI 3) ) cl_X5_202 yo_X5_isSheet dX5_copy_8 rfl (Nat.le_of_ble_eq_true rfl) (Nat.le_of_ble_eq_true rfl) rfl (Nat.le_of_ble_eq_true rfl) ⟨Nat.zero_le _, Nat.zero_le _⟩ ?_
      refine J_if_ne E (tgt := 20) dX5_copy_11 (by decide) (fun c_11 => ?_) (fun c_11 => ?_)
      · skip
        have c_11 := bI_1 c_11
        refine J_aload_n E dX5_copy_20 rfl 0 rfl ?_
        refine gC0_X5_44 E dX5_copy_21 ?_
        refine J_iload_n E dX5_copy_24 rfl 1 rfl ?_
        refine laC_30_2 E dX5_copy_25 ?_
        refine J_astore E (lv' := [(6, .ref (a 35)), (0, .ref (a 0)), (1, .int (nI 2)), (2, .int f), (3, .int (nI 3)), (4, .int o), (5, .int n)]) dX5_copy_26 (by decide) rfl ?_
        refine J_aload_n E dX5_copy_28 rfl 1 rfl ?_
        refine gC0_X5_44 E dX5_copy_29 ?_
        refine J_iload_n E dX5_copy_32 rfl 4 rfl ?_
        refine laC_30_3 E dX5_copy_33 ?_
        refine J_astore E (lv' := [(7, .ref (a 37)), (6, .ref (a 35)), (0, .ref (a 0)), (1, .int (nI 2)), (2, .int f), (3, .int (nI 3)), (4, .int o), (5, .int n)]) dX5_copy_34 (by decide) rfl ?_
        refine J_aload E dX5_copy_36 1 rfl ?_
        refine J_si10r E (As := []) (c_X2_isMissing l G (sh a 35) (x 10) ) cl_X5_212 yo_X2_isMissing dX5_copy_38 rfl (Nat.le_of_ble_eq_true rfl) (Nat.le_of_ble_eq_true rfl) rfl (Nat.le_of_ble_eq_true rfl) ⟨Nat.zero_le _, Nat.zero_le _⟩ ?_
        refine J_if_ne E (tgt := 52) dX5_copy_41 (by decide) (fun c_41 => ?_) (fun c_41 => ?_)
        · skip
          have c_41 := bI_1 c_41
          exact absurd c_41 h1
        · skip
          have c_41 := bI_0 c_41
          refine J_aload E dX5_copy_44 0 rfl ?_
          refine J_si11r E (As := []) (c_X2_isMissing l G (sh a 37) (x 11) ) cl_X5_212 yo_X2_isMissing dX5_copy_46 rfl (Nat.le_of_ble_eq_true rfl) (Nat.le_of_ble_eq_true rfl) rfl (Nat.le_of_ble_eq_true rfl) ⟨Nat.zero_le _, Nat.zero_le _⟩ ?_
          refine J_if_eq E (tgt := 58) dX5_copy_49 (by decide) (fun c_49 => ?_) (fun c_49 => ?_)
          · skip
            have c_49 := bI_0 c_49
            refine J_aload E dX5_copy_58 1 rfl ?_
            refine gC35_X5_215 E dX5_copy_60 ?_
            refine J_aload E dX5_copy_63 0 rfl ?_
            refine gC37_X5_215 E dX5_copy_65 ?_
            refine J_icmp_eq E (tgt := 77) dX5_copy_68 (by decide) (fun c_68 => ?_) (fun c_68 => ?_)
            · skip
              exact absurd c_68 h3
            · skip
              refine J_aload_n E dX5_copy_71 rfl 2 rfl ?_
              refine J_iconst E dX5_copy_72 ic_2 ?_
              refine J_cVi0 E (As := [.int 2]) (c_X5_tell l G a x 2 (by omega)) cl_X5_64 yo_X5_tell dX5_copy_73 rfl rfl rfl (Nat.le_of_ble_eq_true rfl) (Nat.le_of_ble_eq_true rfl) rfl (Nat.le_of_ble_eq_true rfl) ⟨Nat.zero_le _, Nat.zero_le _⟩ ?_
              exact ret _ _ _ _ ⟨rfl, _, rfl, by intro g h2 h6; simp [upG, up3, up3R, h2, h6]⟩ rfl dX5_copy_76
          · skip
            have c_49 := bI_1 c_49
            exact absurd c_49 h2
      · skip
        have c_11 := bI_0 c_11
        exact absurd (in3 (by decide)) c_11
  · skip
    refine J_iload_n E dX5_copy_0 rfl 1 rfl ?_
    refine J_cSiN E (As := [.int (nI 3)]) (c_X5_isSheet l G (nI 3) ) cl_X5_202 yo_X5_isSheet dX5_copy_1 rfl (Nat.le_of_ble_eq_true rfl) (Nat.le_of_ble_eq_true rfl) rfl (Nat.le_of_ble_eq_true rfl) ⟨Nat.zero_le _, Nat.zero_le _⟩ ?_
    refine J_if_eq E (tgt := 14) dX5_copy_4 (by decide) (fun c_4 => ?_) (fun c_4 => ?_)
    · skip
      have c_4 := bI_0 c_4
      exact absurd (in3 (by decide)) c_4
    · skip
      have c_4 := bI_1 c_4
      refine J_iload_n E dX5_copy_7 rfl 3 rfl ?_
      refine J_cSiN E (As := [.int (nI 0)]) (c_X5_isSheet l G (nI 0) ) cl_X5_202 yo_X5_isSheet dX5_copy_8 rfl (Nat.le_of_ble_eq_true rfl) (Nat.le_of_ble_eq_true rfl) rfl (Nat.le_of_ble_eq_true rfl) ⟨Nat.zero_le _, Nat.zero_le _⟩ ?_
      refine J_if_ne E (tgt := 20) dX5_copy_11 (by decide) (fun c_11 => ?_) (fun c_11 => ?_)
      · skip
        have c_11 := bI_1 c_11
        refine J_aload_n E dX5_copy_20 rfl 0 rfl ?_
        refine gC0_X5_44 E dX5_copy_21 ?_
        refine J_iload_n E dX5_copy_24 rfl 1 rfl ?_
        refine laC_30_3 E dX5_copy_25 ?_
        refine J_astore E (lv' := [(6, .ref (a 37)), (0, .ref (a 0)), (1, .int (nI 3)), (2, .int f), (3, .int (nI 0)), (4, .int o), (5, .int n)]) dX5_copy_26 (by decide) rfl ?_
        refine J_aload_n E dX5_copy_28 rfl 1 rfl ?_
        refine gC0_X5_44 E dX5_copy_29 ?_
        refine J_iload_n E dX5_copy_32 rfl 4 rfl ?_
        refine laC_30_0 E dX5_copy_33 ?_
        refine J_astore E (lv' := [(7, .ref (a 31)), (6, .ref (a 37)), (0, .ref (a 0)), (1, .int (nI 3)), (2, .int f), (3, .int (nI 0)), (4, .int o), (5, .int n)]) dX5_copy_34 (by decide) rfl ?_
        refine J_aload E dX5_copy_36 1 rfl ?_
        refine J_si11r E (As := []) (c_X2_isMissing l G (sh a 37) (x 11) ) cl_X5_212 yo_X2_isMissing dX5_copy_38 rfl (Nat.le_of_ble_eq_true rfl) (Nat.le_of_ble_eq_true rfl) rfl (Nat.le_of_ble_eq_true rfl) ⟨Nat.zero_le _, Nat.zero_le _⟩ ?_
        refine J_if_ne E (tgt := 52) dX5_copy_41 (by decide) (fun c_41 => ?_) (fun c_41 => ?_)
        · skip
          have c_41 := bI_1 c_41
          exact absurd c_41 h1
        · skip
          have c_41 := bI_0 c_41
          refine J_aload E dX5_copy_44 0 rfl ?_
          refine J_si8r E (As := []) (c_X2_isMissing l G (sh a 31) (x 8) ) cl_X5_212 yo_X2_isMissing dX5_copy_46 rfl (Nat.le_of_ble_eq_true rfl) (Nat.le_of_ble_eq_true rfl) rfl (Nat.le_of_ble_eq_true rfl) ⟨Nat.zero_le _, Nat.zero_le _⟩ ?_
          refine J_if_eq E (tgt := 58) dX5_copy_49 (by decide) (fun c_49 => ?_) (fun c_49 => ?_)
          · skip
            have c_49 := bI_0 c_49
            refine J_aload E dX5_copy_58 1 rfl ?_
            refine gC37_X5_215 E dX5_copy_60 ?_
            refine J_aload E dX5_copy_63 0 rfl ?_
            refine gC31_X5_215 E dX5_copy_65 ?_
            refine J_icmp_eq E (tgt := 77) dX5_copy_68 (by decide) (fun c_68 => ?_) (fun c_68 => ?_)
            · skip
              exact absurd c_68 h3
            · skip
              refine J_aload_n E dX5_copy_71 rfl 2 rfl ?_
              refine J_iconst E dX5_copy_72 ic_2 ?_
              refine J_cVi0 E (As := [.int 2]) (c_X5_tell l G a x 2 (by omega)) cl_X5_64 yo_X5_tell dX5_copy_73 rfl rfl rfl (Nat.le_of_ble_eq_true rfl) (Nat.le_of_ble_eq_true rfl) rfl (Nat.le_of_ble_eq_true rfl) ⟨Nat.zero_le _, Nat.zero_le _⟩ ?_
              exact ret _ _ _ _ ⟨rfl, _, rfl, by intro g h2 h6; simp [upG, up3, up3R, h2, h6]⟩ rfl dX5_copy_76
          · skip
            have c_49 := bI_1 c_49
            exact absurd c_49 h2
      · skip
        have c_11 := bI_0 c_11
        exact absurd (in3 (by decide)) c_11
  · skip
    refine J_iload_n E dX5_copy_0 rfl 1 rfl ?_
    refine J_cSiN E (As := [.int (nI 3)]) (c_X5_isSheet l G (nI 3) ) cl_X5_202 yo_X5_isSheet dX5_copy_1 rfl (Nat.le_of_ble_eq_true rfl) (Nat.le_of_ble_eq_true rfl) rfl (Nat.le_of_ble_eq_true rfl) ⟨Nat.zero_le _, Nat.zero_le _⟩ ?_
    refine J_if_eq E (tgt := 14) dX5_copy_4 (by decide) (fun c_4 => ?_) (fun c_4 => ?_)
    · skip
      have c_4 := bI_0 c_4
      exact absurd (in3 (by decide)) c_4
    · skip
      have c_4 := bI_1 c_4
      refine J_iload_n E dX5_copy_7 rfl 3 rfl ?_
      refine J_cSiN E (As := [.int (nI 1)]) (c_X5_isSheet l G (nI 1) ) cl_X5_202 yo_X5_isSheet dX5_copy_8 rfl (Nat.le_of_ble_eq_true rfl) (Nat.le_of_ble_eq_true rfl) rfl (Nat.le_of_ble_eq_true rfl) ⟨Nat.zero_le _, Nat.zero_le _⟩ ?_
      refine J_if_ne E (tgt := 20) dX5_copy_11 (by decide) (fun c_11 => ?_) (fun c_11 => ?_)
      · skip
        have c_11 := bI_1 c_11
        refine J_aload_n E dX5_copy_20 rfl 0 rfl ?_
        refine gC0_X5_44 E dX5_copy_21 ?_
        refine J_iload_n E dX5_copy_24 rfl 1 rfl ?_
        refine laC_30_3 E dX5_copy_25 ?_
        refine J_astore E (lv' := [(6, .ref (a 37)), (0, .ref (a 0)), (1, .int (nI 3)), (2, .int f), (3, .int (nI 1)), (4, .int o), (5, .int n)]) dX5_copy_26 (by decide) rfl ?_
        refine J_aload_n E dX5_copy_28 rfl 1 rfl ?_
        refine gC0_X5_44 E dX5_copy_29 ?_
        refine J_iload_n E dX5_copy_32 rfl 4 rfl ?_
        refine laC_30_1 E dX5_copy_33 ?_
        refine J_astore E (lv' := [(7, .ref (a 33)), (6, .ref (a 37)), (0, .ref (a 0)), (1, .int (nI 3)), (2, .int f), (3, .int (nI 1)), (4, .int o), (5, .int n)]) dX5_copy_34 (by decide) rfl ?_
        refine J_aload E dX5_copy_36 1 rfl ?_
        refine J_si11r E (As := []) (c_X2_isMissing l G (sh a 37) (x 11) ) cl_X5_212 yo_X2_isMissing dX5_copy_38 rfl (Nat.le_of_ble_eq_true rfl) (Nat.le_of_ble_eq_true rfl) rfl (Nat.le_of_ble_eq_true rfl) ⟨Nat.zero_le _, Nat.zero_le _⟩ ?_
        refine J_if_ne E (tgt := 52) dX5_copy_41 (by decide) (fun c_41 => ?_) (fun c_41 => ?_)
        · skip
          have c_41 := bI_1 c_41
          exact absurd c_41 h1
        · skip
          have c_41 := bI_0 c_41
          refine J_aload E dX5_copy_44 0 rfl ?_
          refine J_si9r E (As := []) (c_X2_isMissing l G (sh a 33) (x 9) ) cl_X5_212 yo_X2_isMissing dX5_copy_46 rfl (Nat.le_of_ble_eq_true rfl) (Nat.le_of_ble_eq_true rfl) rfl (Nat.le_of_ble_eq_true rfl) ⟨Nat.zero_le _, Nat.zero_le _⟩ ?_
          refine J_if_eq E (tgt := 58) dX5_copy_49 (by decide) (fun c_49 => ?_) (fun c_49 => ?_)
          · skip
            have c_49 := bI_0 c_49
            refine J_aload E dX5_copy_58 1 rfl ?_
            refine gC37_X5_215 E dX5_copy_60 ?_
            refine J_aload E dX5_copy_63 0 rfl ?_
            refine gC33_X5_215 E dX5_copy_65 ?_
            refine J_icmp_eq E (tgt := 77) dX5_copy_68 (by decide) (fun c_68 => ?_) (fun c_68 => ?_)
            · skip
              exact absurd c_68 h3
            · skip
              refine J_aload_n E dX5_copy_71 rfl 2 rfl ?_
              refine J_iconst E dX5_copy_72 ic_2 ?_
              refine J_cVi0 E (As := [.int 2]) (c_X5_tell l G a x 2 (by omega)) cl_X5_64 yo_X5_tell dX5_copy_73 rfl rfl rfl (Nat.le_of_ble_eq_true rfl) (Nat.le_of_ble_eq_true rfl) rfl (Nat.le_of_ble_eq_true rfl) ⟨Nat.zero_le _, Nat.zero_le _⟩ ?_
              exact ret _ _ _ _ ⟨rfl, _, rfl, by intro g h2 h6; simp [upG, up3, up3R, h2, h6]⟩ rfl dX5_copy_76
          · skip
            have c_49 := bI_1 c_49
            exact absurd c_49 h2
      · skip
        have c_11 := bI_0 c_11
        exact absurd (in3 (by decide)) c_11
  · skip
    refine J_iload_n E dX5_copy_0 rfl 1 rfl ?_
    refine J_cSiN E (As := [.int (nI 3)]) (c_X5_isSheet l G (nI 3) ) cl_X5_202 yo_X5_isSheet dX5_copy_1 rfl (Nat.le_of_ble_eq_true rfl) (Nat.le_of_ble_eq_true rfl) rfl (Nat.le_of_ble_eq_true rfl) ⟨Nat.zero_le _, Nat.zero_le _⟩ ?_
    refine J_if_eq E (tgt := 14) dX5_copy_4 (by decide) (fun c_4 => ?_) (fun c_4 => ?_)
    · skip
      have c_4 := bI_0 c_4
      exact absurd (in3 (by decide)) c_4
    · skip
      have c_4 := bI_1 c_4
      refine J_iload_n E dX5_copy_7 rfl 3 rfl ?_
      refine J_cSiN E (As := [.int (nI 2)]) (c_X5_isSheet l G (nI 2) ) cl_X5_202 yo_X5_isSheet dX5_copy_8 rfl (Nat.le_of_ble_eq_true rfl) (Nat.le_of_ble_eq_true rfl) rfl (Nat.le_of_ble_eq_true rfl) ⟨Nat.zero_le _, Nat.zero_le _⟩ ?_
      refine J_if_ne E (tgt := 20) dX5_copy_11 (by decide) (fun c_11 => ?_) (fun c_11 => ?_)
      · skip
        have c_11 := bI_1 c_11
        refine J_aload_n E dX5_copy_20 rfl 0 rfl ?_
        refine gC0_X5_44 E dX5_copy_21 ?_
        refine J_iload_n E dX5_copy_24 rfl 1 rfl ?_
        refine laC_30_3 E dX5_copy_25 ?_
        refine J_astore E (lv' := [(6, .ref (a 37)), (0, .ref (a 0)), (1, .int (nI 3)), (2, .int f), (3, .int (nI 2)), (4, .int o), (5, .int n)]) dX5_copy_26 (by decide) rfl ?_
        refine J_aload_n E dX5_copy_28 rfl 1 rfl ?_
        refine gC0_X5_44 E dX5_copy_29 ?_
        refine J_iload_n E dX5_copy_32 rfl 4 rfl ?_
        refine laC_30_2 E dX5_copy_33 ?_
        refine J_astore E (lv' := [(7, .ref (a 35)), (6, .ref (a 37)), (0, .ref (a 0)), (1, .int (nI 3)), (2, .int f), (3, .int (nI 2)), (4, .int o), (5, .int n)]) dX5_copy_34 (by decide) rfl ?_
        refine J_aload E dX5_copy_36 1 rfl ?_
        refine J_si11r E (As := []) (c_X2_isMissing l G (sh a 37) (x 11) ) cl_X5_212 yo_X2_isMissing dX5_copy_38 rfl (Nat.le_of_ble_eq_true rfl) (Nat.le_of_ble_eq_true rfl) rfl (Nat.le_of_ble_eq_true rfl) ⟨Nat.zero_le _, Nat.zero_le _⟩ ?_
        refine J_if_ne E (tgt := 52) dX5_copy_41 (by decide) (fun c_41 => ?_) (fun c_41 => ?_)
        · skip
          have c_41 := bI_1 c_41
          exact absurd c_41 h1
        · skip
          have c_41 := bI_0 c_41
          refine J_aload E dX5_copy_44 0 rfl ?_
          refine J_si10r E (As := []) (c_X2_isMissing l G (sh a 35) (x 10) ) cl_X5_212 yo_X2_isMissing dX5_copy_46 rfl (Nat.le_of_ble_eq_true rfl) (Nat.le_of_ble_eq_true rfl) rfl (Nat.le_of_ble_eq_true rfl) ⟨Nat.zero_le _, Nat.zero_le _⟩ ?_
          refine J_if_eq E (tgt := 58) dX5_copy_49 (by decide) (fun c_49 => ?_) (fun c_49 => ?_)
          · skip
            have c_49 := bI_0 c_49
            refine J_aload E dX5_copy_58 1 rfl ?_
            refine gC37_X5_215 E dX5_copy_60 ?_
            refine J_aload E dX5_copy_63 0 rfl ?_
            refine gC35_X5_215 E dX5_copy_65 ?_
            refine J_icmp_eq E (tgt := 77) dX5_copy_68 (by decide) (fun c_68 => ?_) (fun c_68 => ?_)
            · skip
              exact absurd c_68 h3
            · skip
              refine J_aload_n E dX5_copy_71 rfl 2 rfl ?_
              refine J_iconst E dX5_copy_72 ic_2 ?_
              refine J_cVi0 E (As := [.int 2]) (c_X5_tell l G a x 2 (by omega)) cl_X5_64 yo_X5_tell dX5_copy_73 rfl rfl rfl (Nat.le_of_ble_eq_true rfl) (Nat.le_of_ble_eq_true rfl) rfl (Nat.le_of_ble_eq_true rfl) ⟨Nat.zero_le _, Nat.zero_le _⟩ ?_
              exact ret _ _ _ _ ⟨rfl, _, rfl, by intro g h2 h6; simp [upG, up3, up3R, h2, h6]⟩ rfl dX5_copy_76
          · skip
            have c_49 := bI_1 c_49
            exact absurd c_49 h2
      · skip
        have c_11 := bI_0 c_11
        exact absurd (in3 (by decide)) c_11
  · skip
    refine J_iload_n E dX5_copy_0 rfl 1 rfl ?_
    refine J_cSiN E (As := [.int (nI 3)]) (c_X5_isSheet l G (nI 3) ) cl_X5_202 yo_X5_isSheet dX5_copy_1 rfl (Nat.le_of_ble_eq_true rfl) (Nat.le_of_ble_eq_true rfl) rfl (Nat.le_of_ble_eq_true rfl) ⟨Nat.zero_le _, Nat.zero_le _⟩ ?_
    refine J_if_eq E (tgt := 14) dX5_copy_4 (by decide) (fun c_4 => ?_) (fun c_4 => ?_)
    · skip
      have c_4 := bI_0 c_4
      exact absurd (in3 (by decide)) c_4
    · skip
      have c_4 := bI_1 c_4
      refine J_iload_n E dX5_copy_7 rfl 3 rfl ?_
      refine J_cSiN E (As := [.int (nI 3)]) (c_X5_isSheet l G (nI 3) ) cl_X5_202 yo_X5_isSheet dX5_copy_8 rfl (Nat.le_of_ble_eq_true rfl) (Nat.le_of_ble_eq_true rfl) rfl (Nat.le_of_ble_eq_true rfl) ⟨Nat.zero_le _, Nat.zero_le _⟩ ?_
      refine J_if_ne E (tgt := 20) dX5_copy_11 (by decide) (fun c_11 => ?_) (fun c_11 => ?_)
      · skip
        have c_11 := bI_1 c_11
        refine J_aload_n E dX5_copy_20 rfl 0 rfl ?_
        refine gC0_X5_44 E dX5_copy_21 ?_
        refine J_iload_n E dX5_copy_24 rfl 1 rfl ?_
        refine laC_30_3 E dX5_copy_25 ?_
        refine J_astore E (lv' := [(6, .ref (a 37)), (0, .ref (a 0)), (1, .int (nI 3)), (2, .int f), (3, .int (nI 3)), (4, .int o), (5, .int n)]) dX5_copy_26 (by decide) rfl ?_
        refine J_aload_n E dX5_copy_28 rfl 1 rfl ?_
        refine gC0_X5_44 E dX5_copy_29 ?_
        refine J_iload_n E dX5_copy_32 rfl 4 rfl ?_
        refine laC_30_3 E dX5_copy_33 ?_
        refine J_astore E (lv' := [(7, .ref (a 37)), (6, .ref (a 37)), (0, .ref (a 0)), (1, .int (nI 3)), (2, .int f), (3, .int (nI 3)), (4, .int o), (5, .int n)]) dX5_copy_34 (by decide) rfl ?_
        refine J_aload E dX5_copy_36 1 rfl ?_
        refine J_si11r E (As := []) (c_X2_isMissing l G (sh a 37) (x 11) ) cl_X5_212 yo_X2_isMissing dX5_copy_38 rfl (Nat.le_of_ble_eq_true rfl) (Nat.le_of_ble_eq_true rfl) rfl (Nat.le_of_ble_eq_true rfl) ⟨Nat.zero_le _, Nat.zero_le _⟩ ?_
        refine J_if_ne E (tgt := 52) dX5_copy_41 (by decide) (fun c_41 => ?_) (fun c_41 => ?_)
        · skip
          have c_41 := bI_1 c_41
          exact absurd c_41 h1
        · skip
          have c_41 := bI_0 c_41
          refine J_aload E dX5_copy_44 0 rfl ?_
          refine J_si11r E (As := []) (c_X2_isMissing l G (sh a 37) (x 11) ) cl_X5_212 yo_X2_isMissing dX5_copy_46 rfl (Nat.le_of_ble_eq_true rfl) (Nat.le_of_ble_eq_true rfl) rfl (Nat.le_of_ble_eq_true rfl) ⟨Nat.zero_le _, Nat.zero_le _⟩ ?_
          refine J_if_eq E (tgt := 58) dX5_copy_49 (by decide) (fun c_49 => ?_) (fun c_49 => ?_)
          · skip
            have c_49 := bI_0 c_49
            refine J_aload E dX5_copy_58 1 rfl ?_
            refine gC37_X5_215 E dX5_copy_60 ?_
            refine J_aload E dX5_copy_63 0 rfl ?_
            refine gC37_X5_215 E dX5_copy_65 ?_
            refine J_icmp_eq E (tgt := 77) dX5_copy_68 (by decide) (fun c_68 => ?_) (fun c_68 => ?_)
            · skip
              exact absurd c_68 h3
            · skip
              refine J_aload_n E dX5_copy_71 rfl 2 rfl ?_
              refine J_iconst E dX5_copy_72 ic_2 ?_
              refine J_cVi0 E (As := [.int 2]) (c_X5_tell l G a x 2 (by omega)) cl_X5_64 yo_X5_tell dX5_copy_73 rfl rfl rfl (Nat.le_of_ble_eq_true rfl) (Nat.le_of_ble_eq_true rfl) rfl (Nat.le_of_ble_eq_true rfl) ⟨Nat.zero_le _, Nat.zero_le _⟩ ?_
              exact ret _ _ _ _ ⟨rfl, _, rfl, by intro g h2 h6; simp [upG, up3, up3R, h2, h6]⟩ rfl dX5_copy_76
          · skip
            have c_49 := bI_1 c_49
            exact absurd c_49 h2
      · skip
        have c_11 := bI_0 c_11
        exact absurd (in3 (by decide)) c_11

set_option maxHeartbeats 4000000 in
set_option maxRecDepth 20000 in
theorem c_X5_copy_run (l : Launch) (G : GB) (a : Nat → Nat) (x : Q3) (i k : Nat) (f o n : Int32) (hi : i < 4) (hk : k < 4)  (h1 : ¬ x (8 + i) 1 0 = 0) (h2 : ¬ x (8 + k) 1 0 = 0) (h3 : x (8 + i) 1 0 = x (8 + k) 1 0) (hb : ¬ ((0 ≤ f ∧ 0 ≤ n ∧ f ≤ x (8 + i) 1 1 ∧ n ≤ x (8 + i) 1 1 - f) ∧ (0 ≤ o ∧ 0 ≤ n ∧ o ≤ x (8 + k) 1 1 ∧ n ≤ x (8 + k) 1 1 - o))) : CI l yX5_copy cX5_copy 8 .int 2 41 G [.ref (a 0), .int (nI i), .int f, .int (nI k), .int o, .int n] (wC G a x) (fun vR w' => vR = tellR 0 ∧ PubC G a (tellX x 0) w') := by
  refine CI.mk (own := RX5) (by decide) rfl (Nat.le_of_ble_eq_true rfl) ?_
  intro X E ret
  show J X G 8 0 0 (wC G a x) [(0, .ref (a 0)), (1, .int (nI i)), (2, .int f), (3, .int (nI k)), (4, .int o), (5, .int n)] 0 []
  rcases (show (i = 0 ∧ k = 0) ∨ (i = 0 ∧ k = 1) ∨ (i = 0 ∧ k = 2) ∨ (i = 0 ∧ k = 3) ∨ (i = 1 ∧ k = 0) ∨ (i = 1 ∧ k = 1) ∨ (i = 1 ∧ k = 2) ∨ (i = 1 ∧ k = 3) ∨ (i = 2 ∧ k = 0) ∨ (i = 2 ∧ k = 1) ∨ (i = 2 ∧ k = 2) ∨ (i = 2 ∧ k = 3) ∨ (i = 3 ∧ k = 0) ∨ (i = 3 ∧ k = 1) ∨ (i = 3 ∧ k = 2) ∨ (i = 3 ∧ k = 3) by omega) with ⟨rfl, rfl⟩ | ⟨rfl, rfl⟩ | ⟨rfl, rfl⟩ | ⟨rfl, rfl⟩ | ⟨rfl, rfl⟩ | ⟨rfl, rfl⟩ | ⟨rfl, rfl⟩ | ⟨rfl, rfl⟩ | ⟨rfl, rfl⟩ | ⟨rfl, rfl⟩ | ⟨rfl, rfl⟩ | ⟨rfl, rfl⟩ | ⟨rfl, rfl⟩ | ⟨rfl, rfl⟩ | ⟨rfl, rfl⟩ | ⟨rfl, rfl⟩
  · skip
    refine J_iload_n E dX5_copy_0 rfl 1 rfl ?_
    refine J_cSiN E (As := [.int (nI 0)]) (c_X5_isSheet l G (nI 0) ) cl_X5_202 yo_X5_isSheet dX5_copy_1 rfl (Nat.le_of_ble_eq_true rfl) (Nat.le_of_ble_eq_true rfl) rfl (Nat.le_of_ble_eq_true rfl) ⟨Nat.zero_le _, Nat.zero_le _⟩ ?_
    refine J_if_eq E (tgt := 14) dX5_copy_4 (by decide) (fun c_4 => ?_) (fun c_4 => ?_)
    · skip
      have c_4 := bI_0 c_4
      exact absurd (in3 (by decide)) c_4
    · skip
      have c_4 := bI_1 c_4
      refine J_iload_n E dX5_copy_7 rfl 3 rfl ?_
      refine J_cSiN E (As := [.int (nI 0)]) (c_X5_isSheet l G (nI 0) ) cl_X5_202 yo_X5_isSheet dX5_copy_8 rfl (Nat.le_of_ble_eq_true rfl) (Nat.le_of_ble_eq_true rfl) rfl (Nat.le_of_ble_eq_true rfl) ⟨Nat.zero_le _, Nat.zero_le _⟩ ?_
      refine J_if_ne E (tgt := 20) dX5_copy_11 (by decide) (fun c_11 => ?_) (fun c_11 => ?_)
      · skip
        have c_11 := bI_1 c_11
        refine J_aload_n E dX5_copy_20 rfl 0 rfl ?_
        refine gC0_X5_44 E dX5_copy_21 ?_
        refine J_iload_n E dX5_copy_24 rfl 1 rfl ?_
        refine laC_30_0 E dX5_copy_25 ?_
        refine J_astore E (lv' := [(6, .ref (a 31)), (0, .ref (a 0)), (1, .int (nI 0)), (2, .int f), (3, .int (nI 0)), (4, .int o), (5, .int n)]) dX5_copy_26 (by decide) rfl ?_
        refine J_aload_n E dX5_copy_28 rfl 1 rfl ?_
        refine gC0_X5_44 E dX5_copy_29 ?_
        refine J_iload_n E dX5_copy_32 rfl 4 rfl ?_
        refine laC_30_0 E dX5_copy_33 ?_
        refine J_astore E (lv' := [(7, .ref (a 31)), (6, .ref (a 31)), (0, .ref (a 0)), (1, .int (nI 0)), (2, .int f), (3, .int (nI 0)), (4, .int o), (5, .int n)]) dX5_copy_34 (by decide) rfl ?_
        refine J_aload E dX5_copy_36 1 rfl ?_
        refine J_si8r E (As := []) (c_X2_isMissing l G (sh a 31) (x 8) ) cl_X5_212 yo_X2_isMissing dX5_copy_38 rfl (Nat.le_of_ble_eq_true rfl) (Nat.le_of_ble_eq_true rfl) rfl (Nat.le_of_ble_eq_true rfl) ⟨Nat.zero_le _, Nat.zero_le _⟩ ?_
        refine J_if_ne E (tgt := 52) dX5_copy_41 (by decide) (fun c_41 => ?_) (fun c_41 => ?_)
        · skip
          have c_41 := bI_1 c_41
          exact absurd c_41 h1
        · skip
          have c_41 := bI_0 c_41
          refine J_aload E dX5_copy_44 0 rfl ?_
          refine J_si8r E (As := []) (c_X2_isMissing l G (sh a 31) (x 8) ) cl_X5_212 yo_X2_isMissing dX5_copy_46 rfl (Nat.le_of_ble_eq_true rfl) (Nat.le_of_ble_eq_true rfl) rfl (Nat.le_of_ble_eq_true rfl) ⟨Nat.zero_le _, Nat.zero_le _⟩ ?_
          refine J_if_eq E (tgt := 58) dX5_copy_49 (by decide) (fun c_49 => ?_) (fun c_49 => ?_)
          · skip
            have c_49 := bI_0 c_49
            refine J_aload E dX5_copy_58 1 rfl ?_
            refine gC31_X5_215 E dX5_copy_60 ?_
            refine J_aload E dX5_copy_63 0 rfl ?_
            refine gC31_X5_215 E dX5_copy_65 ?_
            refine J_icmp_eq E (tgt := 77) dX5_copy_68 (by decide) (fun c_68 => ?_) (fun c_68 => ?_)
            · skip
              refine J_aload E dX5_copy_77 1 rfl ?_
              refine J_iload_n E dX5_copy_79 rfl 4 rfl ?_
              refine J_iload E dX5_copy_80 7 rfl ?_
              refine J_si8r E (As := [.int f, .int n]) (c_X2_hasRun l G (sh a 31) (x 8) f n ) cl_X5_218 yo_X2_hasRun dX5_copy_82 rfl (Nat.le_of_ble_eq_true rfl) (Nat.le_of_ble_eq_true rfl) rfl (Nat.le_of_ble_eq_true rfl) ⟨Nat.zero_le _, Nat.zero_le _⟩ ?_
              refine J_if_eq E (tgt := 100) dX5_copy_85 (by decide) (fun c_85 => ?_) (fun c_85 => ?_)
              · skip
                have c_85 := bI_0 c_85
                refine J_aload_n E dX5_copy_100 rfl 2 rfl ?_
                refine J_iconst E dX5_copy_101 ic_0 ?_
                refine J_cVi0 E (As := [.int 0]) (c_X5_tell l G a x 0 (by omega)) cl_X5_64 yo_X5_tell dX5_copy_102 rfl rfl rfl (Nat.le_of_ble_eq_true rfl) (Nat.le_of_ble_eq_true rfl) rfl (Nat.le_of_ble_eq_true rfl) ⟨Nat.zero_le _, Nat.zero_le _⟩ ?_
                exact ret _ _ _ _ ⟨rfl, _, rfl, by intro g h2 h6; simp [upG, up3, up3R, h2, h6]⟩ rfl dX5_copy_105
              · skip
                have c_85 := bI_1 c_85
                refine J_aload E dX5_copy_88 0 rfl ?_
                refine J_iload E dX5_copy_90 6 rfl ?_
                refine J_iload E dX5_copy_92 7 rfl ?_
                refine J_si8r E (As := [.int o, .int n]) (c_X2_hasRun l G (sh a 31) (x 8) o n ) cl_X5_218 yo_X2_hasRun dX5_copy_94 rfl (Nat.le_of_ble_eq_true rfl) (Nat.le_of_ble_eq_true rfl) rfl (Nat.le_of_ble_eq_true rfl) ⟨Nat.zero_le _, Nat.zero_le _⟩ ?_
                refine J_if_ne E (tgt := 106) dX5_copy_97 (by decide) (fun c_97 => ?_) (fun c_97 => ?_)
                · skip
                  have c_97 := bI_1 c_97
                  exact absurd ⟨c_85, c_97⟩ hb
                · skip
                  have c_97 := bI_0 c_97
                  refine J_aload_n E dX5_copy_100 rfl 2 rfl ?_
                  refine J_iconst E dX5_copy_101 ic_0 ?_
                  refine J_cVi0 E (As := [.int 0]) (c_X5_tell l G a x 0 (by omega)) cl_X5_64 yo_X5_tell dX5_copy_102 rfl rfl rfl (Nat.le_of_ble_eq_true rfl) (Nat.le_of_ble_eq_true rfl) rfl (Nat.le_of_ble_eq_true rfl) ⟨Nat.zero_le _, Nat.zero_le _⟩ ?_
                  exact ret _ _ _ _ ⟨rfl, _, rfl, by intro g h2 h6; simp [upG, up3, up3R, h2, h6]⟩ rfl dX5_copy_105
            · skip
              exact absurd h3 c_68
          · skip
            have c_49 := bI_1 c_49
            exact absurd c_49 h2
      · skip
        have c_11 := bI_0 c_11
        exact absurd (in3 (by decide)) c_11
  · skip
    refine J_iload_n E dX5_copy_0 rfl 1 rfl ?_
    refine J_cSiN E (As := [.int (nI 0)]) (c_X5_isSheet l G (nI 0) ) cl_X5_202 yo_X5_isSheet dX5_copy_1 rfl (Nat.le_of_ble_eq_true rfl) (Nat.le_of_ble_eq_true rfl) rfl (Nat.le_of_ble_eq_true rfl) ⟨Nat.zero_le _, Nat.zero_le _⟩ ?_
    refine J_if_eq E (tgt := 14) dX5_copy_4 (by decide) (fun c_4 => ?_) (fun c_4 => ?_)
    · skip
      have c_4 := bI_0 c_4
      exact absurd (in3 (by decide)) c_4
    · skip
      have c_4 := bI_1 c_4
      refine J_iload_n E dX5_copy_7 rfl 3 rfl ?_
      refine J_cSiN E (As := [.int (nI 1)]) (c_X5_isSheet l G (nI 1) ) cl_X5_202 yo_X5_isSheet dX5_copy_8 rfl (Nat.le_of_ble_eq_true rfl) (Nat.le_of_ble_eq_true rfl) rfl (Nat.le_of_ble_eq_true rfl) ⟨Nat.zero_le _, Nat.zero_le _⟩ ?_
      refine J_if_ne E (tgt := 20) dX5_copy_11 (by decide) (fun c_11 => ?_) (fun c_11 => ?_)
      · skip
        have c_11 := bI_1 c_11
        refine J_aload_n E dX5_copy_20 rfl 0 rfl ?_
        refine gC0_X5_44 E dX5_copy_21 ?_
        refine J_iload_n E dX5_copy_24 rfl 1 rfl ?_
        refine laC_30_0 E dX5_copy_25 ?_
        refine J_astore E (lv' := [(6, .ref (a 31)), (0, .ref (a 0)), (1, .int (nI 0)), (2, .int f), (3, .int (nI 1)), (4, .int o), (5, .int n)]) dX5_copy_26 (by decide) rfl ?_
        refine J_aload_n E dX5_copy_28 rfl 1 rfl ?_
        refine gC0_X5_44 E dX5_copy_29 ?_
        refine J_iload_n E dX5_copy_32 rfl 4 rfl ?_
        refine laC_30_1 E dX5_copy_33 ?_
        refine J_astore E (lv' := [(7, .ref (a 33)), (6, .ref (a 31)), (0, .ref (a 0)), (1, .int (nI 0)), (2, .int f), (3, .int (nI 1)), (4, .int o), (5, .int n)]) dX5_copy_34 (by decide) rfl ?_
        refine J_aload E dX5_copy_36 1 rfl ?_
        refine J_si8r E (As := []) (c_X2_isMissing l G (sh a 31) (x 8) ) cl_X5_212 yo_X2_isMissing dX5_copy_38 rfl (Nat.le_of_ble_eq_true rfl) (Nat.le_of_ble_eq_true rfl) rfl (Nat.le_of_ble_eq_true rfl) ⟨Nat.zero_le _, Nat.zero_le _⟩ ?_
        refine J_if_ne E (tgt := 52) dX5_copy_41 (by decide) (fun c_41 => ?_) (fun c_41 => ?_)
        · skip
          have c_41 := bI_1 c_41
          exact absurd c_41 h1
        · skip
          have c_41 := bI_0 c_41
          refine J_aload E dX5_copy_44 0 rfl ?_
          refine J_si9r E (As := []) (c_X2_isMissing l G (sh a 33) (x 9) ) cl_X5_212 yo_X2_isMissing dX5_copy_46 rfl (Nat.le_of_ble_eq_true rfl) (Nat.le_of_ble_eq_true rfl) rfl (Nat.le_of_ble_eq_true rfl) ⟨Nat.zero_le _, Nat.zero_le _⟩ ?_
          refine J_if_eq E (tgt := 58) dX5_copy_49 (by decide) (fun c_49 => ?_) (fun c_49 => ?_)
          · skip
            have c_49 := bI_0 c_49
            refine J_aload E dX5_copy_58 1 rfl ?_
            refine gC31_X5_215 E dX5_copy_60 ?_
            refine J_aload E dX5_copy_63 0 rfl ?_
            refine gC33_X5_215 E dX5_copy_65 ?_
            refine J_icmp_eq E (tgt := 77) dX5_copy_68 (by decide) (fun c_68 => ?_) (fun c_68 => ?_)
            · skip
              refine J_aload E dX5_copy_77 1 rfl ?_
              refine J_iload_n E dX5_copy_79 rfl 4 rfl ?_
              refine J_iload E dX5_copy_80 7 rfl ?_
              refine J_si8r E (As := [.int f, .int n]) (c_X2_hasRun l G (sh a 31) (x 8) f n ) cl_X5_218 yo_X2_hasRun dX5_copy_82 rfl (Nat.le_of_ble_eq_true rfl) (Nat.le_of_ble_eq_true rfl) rfl (Nat.le_of_ble_eq_true rfl) ⟨Nat.zero_le _, Nat.zero_le _⟩ ?_
              refine J_if_eq E (tgt := 100) dX5_copy_85 (by decide) (fun c_85 => ?_) (fun c_85 => ?_)
              · skip
                have c_85 := bI_0 c_85
                refine J_aload_n E dX5_copy_100 rfl 2 rfl ?_
                refine J_iconst E dX5_copy_101 ic_0 ?_
                refine J_cVi0 E (As := [.int 0]) (c_X5_tell l G a x 0 (by omega)) cl_X5_64 yo_X5_tell dX5_copy_102 rfl rfl rfl (Nat.le_of_ble_eq_true rfl) (Nat.le_of_ble_eq_true rfl) rfl (Nat.le_of_ble_eq_true rfl) ⟨Nat.zero_le _, Nat.zero_le _⟩ ?_
                exact ret _ _ _ _ ⟨rfl, _, rfl, by intro g h2 h6; simp [upG, up3, up3R, h2, h6]⟩ rfl dX5_copy_105
              · skip
                have c_85 := bI_1 c_85
                refine J_aload E dX5_copy_88 0 rfl ?_
                refine J_iload E dX5_copy_90 6 rfl ?_
                refine J_iload E dX5_copy_92 7 rfl ?_
                refine J_si9r E (As := [.int o, .int n]) (c_X2_hasRun l G (sh a 33) (x 9) o n ) cl_X5_218 yo_X2_hasRun dX5_copy_94 rfl (Nat.le_of_ble_eq_true rfl) (Nat.le_of_ble_eq_true rfl) rfl (Nat.le_of_ble_eq_true rfl) ⟨Nat.zero_le _, Nat.zero_le _⟩ ?_
                refine J_if_ne E (tgt := 106) dX5_copy_97 (by decide) (fun c_97 => ?_) (fun c_97 => ?_)
                · skip
                  have c_97 := bI_1 c_97
                  exact absurd ⟨c_85, c_97⟩ hb
                · skip
                  have c_97 := bI_0 c_97
                  refine J_aload_n E dX5_copy_100 rfl 2 rfl ?_
                  refine J_iconst E dX5_copy_101 ic_0 ?_
                  refine J_cVi0 E (As := [.int 0]) (c_X5_tell l G a x 0 (by omega)) cl_X5_64 yo_X5_tell dX5_copy_102 rfl rfl rfl (Nat.le_of_ble_eq_true rfl) (Nat.le_of_ble_eq_true rfl) rfl (Nat.le_of_ble_eq_true rfl) ⟨Nat.zero_le _, Nat.zero_le _⟩ ?_
                  exact ret _ _ _ _ ⟨rfl, _, rfl, by intro g h2 h6; simp [upG, up3, up3R, h2, h6]⟩ rfl dX5_copy_105
            · skip
              exact absurd h3 c_68
          · skip
            have c_49 := bI_1 c_49
            exact absurd c_49 h2
      · skip
        have c_11 := bI_0 c_11
        exact absurd (in3 (by decide)) c_11
  · skip
    refine J_iload_n E dX5_copy_0 rfl 1 rfl ?_
    refine J_cSiN E (As := [.int (nI 0)]) (c_X5_isSheet l G (nI 0) ) cl_X5_202 yo_X5_isSheet dX5_copy_1 rfl (Nat.le_of_ble_eq_true rfl) (Nat.le_of_ble_eq_true rfl) rfl (Nat.le_of_ble_eq_true rfl) ⟨Nat.zero_le _, Nat.zero_le _⟩ ?_
    refine J_if_eq E (tgt := 14) dX5_copy_4 (by decide) (fun c_4 => ?_) (fun c_4 => ?_)
    · skip
      have c_4 := bI_0 c_4
      exact absurd (in3 (by decide)) c_4
    · skip
      have c_4 := bI_1 c_4
      refine J_iload_n E dX5_copy_7 rfl 3 rfl ?_
      refine J_cSiN E (As := [.int (nI 2)]) (c_X5_isSheet l G (nI 2) ) cl_X5_202 yo_X5_isSheet dX5_copy_8 rfl (Nat.le_of_ble_eq_true rfl) (Nat.le_of_ble_eq_true rfl) rfl (Nat.le_of_ble_eq_true rfl) ⟨Nat.zero_le _, Nat.zero_le _⟩ ?_
      refine J_if_ne E (tgt := 20) dX5_copy_11 (by decide) (fun c_11 => ?_) (fun c_11 => ?_)
      · skip
        have c_11 := bI_1 c_11
        refine J_aload_n E dX5_copy_20 rfl 0 rfl ?_
        refine gC0_X5_44 E dX5_copy_21 ?_
        refine J_iload_n E dX5_copy_24 rfl 1 rfl ?_
        refine laC_30_0 E dX5_copy_25 ?_
        refine J_astore E (lv' := [(6, .ref (a 31)), (0, .ref (a 0)), (1, .int (nI 0)), (2, .int f), (3, .int (nI 2)), (4, .int o), (5, .int n)]) dX5_copy_26 (by decide) rfl ?_
        refine J_aload_n E dX5_copy_28 rfl 1 rfl ?_
        refine gC0_X5_44 E dX5_copy_29 ?_
        refine J_iload_n E dX5_copy_32 rfl 4 rfl ?_
        refine laC_30_2 E dX5_copy_33 ?_
        refine J_astore E (lv' := [(7, .ref (a 35)), (6, .ref (a 31)), (0, .ref (a 0)), (1, .int (nI 0)), (2, .int f), (3, .int (nI 2)), (4, .int o), (5, .int n)]) dX5_copy_34 (by decide) rfl ?_
        refine J_aload E dX5_copy_36 1 rfl ?_
        refine J_si8r E (As := []) (c_X2_isMissing l G (sh a 31) (x 8) ) cl_X5_212 yo_X2_isMissing dX5_copy_38 rfl (Nat.le_of_ble_eq_true rfl) (Nat.le_of_ble_eq_true rfl) rfl (Nat.le_of_ble_eq_true rfl) ⟨Nat.zero_le _, Nat.zero_le _⟩ ?_
        refine J_if_ne E (tgt := 52) dX5_copy_41 (by decide) (fun c_41 => ?_) (fun c_41 => ?_)
        · skip
          have c_41 := bI_1 c_41
          exact absurd c_41 h1
        · skip
          have c_41 := bI_0 c_41
          refine J_aload E dX5_copy_44 0 rfl ?_
          refine J_si10r E (As := []) (c_X2_isMissing l G (sh a 35) (x 10) ) cl_X5_212 yo_X2_isMissing dX5_copy_46 rfl (Nat.le_of_ble_eq_true rfl) (Nat.le_of_ble_eq_true rfl) rfl (Nat.le_of_ble_eq_true rfl) ⟨Nat.zero_le _, Nat.zero_le _⟩ ?_
          refine J_if_eq E (tgt := 58) dX5_copy_49 (by decide) (fun c_49 => ?_) (fun c_49 => ?_)
          · skip
            have c_49 := bI_0 c_49
            refine J_aload E dX5_copy_58 1 rfl ?_
            refine gC31_X5_215 E dX5_copy_60 ?_
            refine J_aload E dX5_copy_63 0 rfl ?_
            refine gC35_X5_215 E dX5_copy_65 ?_
            refine J_icmp_eq E (tgt := 77) dX5_copy_68 (by decide) (fun c_68 => ?_) (fun c_68 => ?_)
            · skip
              refine J_aload E dX5_copy_77 1 rfl ?_
              refine J_iload_n E dX5_copy_79 rfl 4 rfl ?_
              refine J_iload E dX5_copy_80 7 rfl ?_
              refine J_si8r E (As := [.int f, .int n]) (c_X2_hasRun l G (sh a 31) (x 8) f n ) cl_X5_218 yo_X2_hasRun dX5_copy_82 rfl (Nat.le_of_ble_eq_true rfl) (Nat.le_of_ble_eq_true rfl) rfl (Nat.le_of_ble_eq_true rfl) ⟨Nat.zero_le _, Nat.zero_le _⟩ ?_
              refine J_if_eq E (tgt := 100) dX5_copy_85 (by decide) (fun c_85 => ?_) (fun c_85 => ?_)
              · skip
                have c_85 := bI_0 c_85
                refine J_aload_n E dX5_copy_100 rfl 2 rfl ?_
                refine J_iconst E dX5_copy_101 ic_0 ?_
                refine J_cVi0 E (As := [.int 0]) (c_X5_tell l G a x 0 (by omega)) cl_X5_64 yo_X5_tell dX5_copy_102 rfl rfl rfl (Nat.le_of_ble_eq_true rfl) (Nat.le_of_ble_eq_true rfl) rfl (Nat.le_of_ble_eq_true rfl) ⟨Nat.zero_le _, Nat.zero_le _⟩ ?_
                exact ret _ _ _ _ ⟨rfl, _, rfl, by intro g h2 h6; simp [upG, up3, up3R, h2, h6]⟩ rfl dX5_copy_105
              · skip
                have c_85 := bI_1 c_85
                refine J_aload E dX5_copy_88 0 rfl ?_
                refine J_iload E dX5_copy_90 6 rfl ?_
                refine J_iload E dX5_copy_92 7 rfl ?_
                refine J_si10r E (As := [.int o, .int n]) (c_X2_hasRun l G (sh a 35) (x 10) o n ) cl_X5_218 yo_X2_hasRun dX5_copy_94 rfl (Nat.le_of_ble_eq_true rfl) (Nat.le_of_ble_eq_true rfl) rfl (Nat.le_of_ble_eq_true rfl) ⟨Nat.zero_le _, Nat.zero_le _⟩ ?_
                refine J_if_ne E (tgt := 106) dX5_copy_97 (by decide) (fun c_97 => ?_) (fun c_97 => ?_)
                · skip
                  have c_97 := bI_1 c_97
                  exact absurd ⟨c_85, c_97⟩ hb
                · skip
                  have c_97 := bI_0 c_97
                  refine J_aload_n E dX5_copy_100 rfl 2 rfl ?_
                  refine J_iconst E dX5_copy_101 ic_0 ?_
                  refine J_cVi0 E (As := [.int 0]) (c_X5_tell l G a x 0 (by omega)) cl_X5_64 yo_X5_tell dX5_copy_102 rfl rfl rfl (Nat.le_of_ble_eq_true rfl) (Nat.le_of_ble_eq_true rfl) rfl (Nat.le_of_ble_eq_true rfl) ⟨Nat.zero_le _, Nat.zero_le _⟩ ?_
                  exact ret _ _ _ _ ⟨rfl, _, rfl, by intro g h2 h6; simp [upG, up3, up3R, h2, h6]⟩ rfl dX5_copy_105
            · skip
              exact absurd h3 c_68
          · skip
            have c_49 := bI_1 c_49
            exact absurd c_49 h2
      · skip
        have c_11 := bI_0 c_11
        exact absurd (in3 (by decide)) c_11
  · skip
    refine J_iload_n E dX5_copy_0 rfl 1 rfl ?_
    refine J_cSiN E (As := [.int (nI 0)]) (c_X5_isSheet l G (nI 0) ) cl_X5_202 yo_X5_isSheet dX5_copy_1 rfl (Nat.le_of_ble_eq_true rfl) (Nat.le_of_ble_eq_true rfl) rfl (Nat.le_of_ble_eq_true rfl) ⟨Nat.zero_le _, Nat.zero_le _⟩ ?_
    refine J_if_eq E (tgt := 14) dX5_copy_4 (by decide) (fun c_4 => ?_) (fun c_4 => ?_)
    · skip
      have c_4 := bI_0 c_4
      exact absurd (in3 (by decide)) c_4
    · skip
      have c_4 := bI_1 c_4
      refine J_iload_n E dX5_copy_7 rfl 3 rfl ?_
      refine J_cSiN E (As := [.int (nI 3)]) (c_X5_isSheet l G (nI 3) ) cl_X5_202 yo_X5_isSheet dX5_copy_8 rfl (Nat.le_of_ble_eq_true rfl) (Nat.le_of_ble_eq_true rfl) rfl (Nat.le_of_ble_eq_true rfl) ⟨Nat.zero_le _, Nat.zero_le _⟩ ?_
      refine J_if_ne E (tgt := 20) dX5_copy_11 (by decide) (fun c_11 => ?_) (fun c_11 => ?_)
      · skip
        have c_11 := bI_1 c_11
        refine J_aload_n E dX5_copy_20 rfl 0 rfl ?_
        refine gC0_X5_44 E dX5_copy_21 ?_
        refine J_iload_n E dX5_copy_24 rfl 1 rfl ?_
        refine laC_30_0 E dX5_copy_25 ?_
        refine J_astore E (lv' := [(6, .ref (a 31)), (0, .ref (a 0)), (1, .int (nI 0)), (2, .int f), (3, .int (nI 3)), (4, .int o), (5, .int n)]) dX5_copy_26 (by decide) rfl ?_
        refine J_aload_n E dX5_copy_28 rfl 1 rfl ?_
        refine gC0_X5_44 E dX5_copy_29 ?_
        refine J_iload_n E dX5_copy_32 rfl 4 rfl ?_
        refine laC_30_3 E dX5_copy_33 ?_
        refine J_astore E (lv' := [(7, .ref (a 37)), (6, .ref (a 31)), (0, .ref (a 0)), (1, .int (nI 0)), (2, .int f), (3, .int (nI 3)), (4, .int o), (5, .int n)]) dX5_copy_34 (by decide) rfl ?_
        refine J_aload E dX5_copy_36 1 rfl ?_
        refine J_si8r E (As := []) (c_X2_isMissing l G (sh a 31) (x 8) ) cl_X5_212 yo_X2_isMissing dX5_copy_38 rfl (Nat.le_of_ble_eq_true rfl) (Nat.le_of_ble_eq_true rfl) rfl (Nat.le_of_ble_eq_true rfl) ⟨Nat.zero_le _, Nat.zero_le _⟩ ?_
        refine J_if_ne E (tgt := 52) dX5_copy_41 (by decide) (fun c_41 => ?_) (fun c_41 => ?_)
        · skip
          have c_41 := bI_1 c_41
          exact absurd c_41 h1
        · skip
          have c_41 := bI_0 c_41
          refine J_aload E dX5_copy_44 0 rfl ?_
          refine J_si11r E (As := []) (c_X2_isMissing l G (sh a 37) (x 11) ) cl_X5_212 yo_X2_isMissing dX5_copy_46 rfl (Nat.le_of_ble_eq_true rfl) (Nat.le_of_ble_eq_true rfl) rfl (Nat.le_of_ble_eq_true rfl) ⟨Nat.zero_le _, Nat.zero_le _⟩ ?_
          refine J_if_eq E (tgt := 58) dX5_copy_49 (by decide) (fun c_49 => ?_) (fun c_49 => ?_)
          · skip
            have c_49 := bI_0 c_49
            refine J_aload E dX5_copy_58 1 rfl ?_
            refine gC31_X5_215 E dX5_copy_60 ?_
            refine J_aload E dX5_copy_63 0 rfl ?_
            refine gC37_X5_215 E dX5_copy_65 ?_
            refine J_icmp_eq E (tgt := 77) dX5_copy_68 (by decide) (fun c_68 => ?_) (fun c_68 => ?_)
            · skip
              refine J_aload E dX5_copy_77 1 rfl ?_
              refine J_iload_n E dX5_copy_79 rfl 4 rfl ?_
              refine J_iload E dX5_copy_80 7 rfl ?_
              refine J_si8r E (As := [.int f, .int n]) (c_X2_hasRun l G (sh a 31) (x 8) f n ) cl_X5_218 yo_X2_hasRun dX5_copy_82 rfl (Nat.le_of_ble_eq_true rfl) (Nat.le_of_ble_eq_true rfl) rfl (Nat.le_of_ble_eq_true rfl) ⟨Nat.zero_le _, Nat.zero_le _⟩ ?_
              refine J_if_eq E (tgt := 100) dX5_copy_85 (by decide) (fun c_85 => ?_) (fun c_85 => ?_)
              · skip
                have c_85 := bI_0 c_85
                refine J_aload_n E dX5_copy_100 rfl 2 rfl ?_
                refine J_iconst E dX5_copy_101 ic_0 ?_
                refine J_cVi0 E (As := [.int 0]) (c_X5_tell l G a x 0 (by omega)) cl_X5_64 yo_X5_tell dX5_copy_102 rfl rfl rfl (Nat.le_of_ble_eq_true rfl) (Nat.le_of_ble_eq_true rfl) rfl (Nat.le_of_ble_eq_true rfl) ⟨Nat.zero_le _, Nat.zero_le _⟩ ?_
                exact ret _ _ _ _ ⟨rfl, _, rfl, by intro g h2 h6; simp [upG, up3, up3R, h2, h6]⟩ rfl dX5_copy_105
              · skip
                have c_85 := bI_1 c_85
                refine J_aload E dX5_copy_88 0 rfl ?_
                refine J_iload E dX5_copy_90 6 rfl ?_
                refine J_iload E dX5_copy_92 7 rfl ?_
                refine J_si11r E (As := [.int o, .int n]) (c_X2_hasRun l G (sh a 37) (x 11) o n ) cl_X5_218 yo_X2_hasRun dX5_copy_94 rfl (Nat.le_of_ble_eq_true rfl) (Nat.le_of_ble_eq_true rfl) rfl (Nat.le_of_ble_eq_true rfl) ⟨Nat.zero_le _, Nat.zero_le _⟩ ?_
                refine J_if_ne E (tgt := 106) dX5_copy_97 (by decide) (fun c_97 => ?_) (fun c_97 => ?_)
                · skip
                  have c_97 := bI_1 c_97
                  exact absurd ⟨c_85, c_97⟩ hb
                · skip
                  have c_97 := bI_0 c_97
                  refine J_aload_n E dX5_copy_100 rfl 2 rfl ?_
                  refine J_iconst E dX5_copy_101 ic_0 ?_
                  refine J_cVi0 E (As := [.int 0]) (c_X5_tell l G a x 0 (by omega)) cl_X5_64 yo_X5_tell dX5_copy_102 rfl rfl rfl (Nat.le_of_ble_eq_true rfl) (Nat.le_of_ble_eq_true rfl) rfl (Nat.le_of_ble_eq_true rfl) ⟨Nat.zero_le _, Nat.zero_le _⟩ ?_
                  exact ret _ _ _ _ ⟨rfl, _, rfl, by intro g h2 h6; simp [upG, up3, up3R, h2, h6]⟩ rfl dX5_copy_105
            · skip
              exact absurd h3 c_68
          · skip
            have c_49 := bI_1 c_49
            exact absurd c_49 h2
      · skip
        have c_11 := bI_0 c_11
        exact absurd (in3 (by decide)) c_11
  · skip
    refine J_iload_n E dX5_copy_0 rfl 1 rfl ?_
    refine J_cSiN E (As := [.int (nI 1)]) (c_X5_isSheet l G (nI 1) ) cl_X5_202 yo_X5_isSheet dX5_copy_1 rfl (Nat.le_of_ble_eq_true rfl) (Nat.le_of_ble_eq_true rfl) rfl (Nat.le_of_ble_eq_true rfl) ⟨Nat.zero_le _, Nat.zero_le _⟩ ?_
    refine J_if_eq E (tgt := 14) dX5_copy_4 (by decide) (fun c_4 => ?_) (fun c_4 => ?_)
    · skip
      have c_4 := bI_0 c_4
      exact absurd (in3 (by decide)) c_4
    · skip
      have c_4 := bI_1 c_4
      refine J_iload_n E dX5_copy_7 rfl 3 rfl ?_
      refine J_cSiN E (As := [.int (nI 0)]) (c_X5_isSheet l G (nI 0) ) cl_X5_202 yo_X5_isSheet dX5_copy_8 rfl (Nat.le_of_ble_eq_true rfl) (Nat.le_of_ble_eq_true rfl) rfl (Nat.le_of_ble_eq_true rfl) ⟨Nat.zero_le _, Nat.zero_le _⟩ ?_
      refine J_if_ne E (tgt := 20) dX5_copy_11 (by decide) (fun c_11 => ?_) (fun c_11 => ?_)
      · skip
        have c_11 := bI_1 c_11
        refine J_aload_n E dX5_copy_20 rfl 0 rfl ?_
        refine gC0_X5_44 E dX5_copy_21 ?_
        refine J_iload_n E dX5_copy_24 rfl 1 rfl ?_
        refine laC_30_1 E dX5_copy_25 ?_
        refine J_astore E (lv' := [(6, .ref (a 33)), (0, .ref (a 0)), (1, .int (nI 1)), (2, .int f), (3, .int (nI 0)), (4, .int o), (5, .int n)]) dX5_copy_26 (by decide) rfl ?_
        refine J_aload_n E dX5_copy_28 rfl 1 rfl ?_
        refine gC0_X5_44 E dX5_copy_29 ?_
        refine J_iload_n E dX5_copy_32 rfl 4 rfl ?_
        refine laC_30_0 E dX5_copy_33 ?_
        refine J_astore E (lv' := [(7, .ref (a 31)), (6, .ref (a 33)), (0, .ref (a 0)), (1, .int (nI 1)), (2, .int f), (3, .int (nI 0)), (4, .int o), (5, .int n)]) dX5_copy_34 (by decide) rfl ?_
        refine J_aload E dX5_copy_36 1 rfl ?_
        refine J_si9r E (As := []) (c_X2_isMissing l G (sh a 33) (x 9) ) cl_X5_212 yo_X2_isMissing dX5_copy_38 rfl (Nat.le_of_ble_eq_true rfl) (Nat.le_of_ble_eq_true rfl) rfl (Nat.le_of_ble_eq_true rfl) ⟨Nat.zero_le _, Nat.zero_le _⟩ ?_
        refine J_if_ne E (tgt := 52) dX5_copy_41 (by decide) (fun c_41 => ?_) (fun c_41 => ?_)
        · skip
          have c_41 := bI_1 c_41
          exact absurd c_41 h1
        · skip
          have c_41 := bI_0 c_41
          refine J_aload E dX5_copy_44 0 rfl ?_
          refine J_si8r E (As := []) (c_X2_isMissing l G (sh a 31) (x 8) ) cl_X5_212 yo_X2_isMissing dX5_copy_46 rfl (Nat.le_of_ble_eq_true rfl) (Nat.le_of_ble_eq_true rfl) rfl (Nat.le_of_ble_eq_true rfl) ⟨Nat.zero_le _, Nat.zero_le _⟩ ?_
          refine J_if_eq E (tgt := 58) dX5_copy_49 (by decide) (fun c_49 => ?_) (fun c_49 => ?_)
          · skip
            have c_49 := bI_0 c_49
            refine J_aload E dX5_copy_58 1 rfl ?_
            refine gC33_X5_215 E dX5_copy_60 ?_
            refine J_aload E dX5_copy_63 0 rfl ?_
            refine gC31_X5_215 E dX5_copy_65 ?_
            refine J_icmp_eq E (tgt := 77) dX5_copy_68 (by decide) (fun c_68 => ?_) (fun c_68 => ?_)
            · skip
              refine J_aload E dX5_copy_77 1 rfl ?_
              refine J_iload_n E dX5_copy_79 rfl 4 rfl ?_
              refine J_iload E dX5_copy_80 7 rfl ?_
              refine J_si9r E (As := [.int f, .int n]) (c_X2_hasRun l G (sh a 33) (x 9) f n ) cl_X5_218 yo_X2_hasRun dX5_copy_82 rfl (Nat.le_of_ble_eq_true rfl) (Nat.le_of_ble_eq_true rfl) rfl (Nat.le_of_ble_eq_true rfl) ⟨Nat.zero_le _, Nat.zero_le _⟩ ?_
              refine J_if_eq E (tgt := 100) dX5_copy_85 (by decide) (fun c_85 => ?_) (fun c_85 => ?_)
              · skip
                have c_85 := bI_0 c_85
                refine J_aload_n E dX5_copy_100 rfl 2 rfl ?_
                refine J_iconst E dX5_copy_101 ic_0 ?_
                refine J_cVi0 E (As := [.int 0]) (c_X5_tell l G a x 0 (by omega)) cl_X5_64 yo_X5_tell dX5_copy_102 rfl rfl rfl (Nat.le_of_ble_eq_true rfl) (Nat.le_of_ble_eq_true rfl) rfl (Nat.le_of_ble_eq_true rfl) ⟨Nat.zero_le _, Nat.zero_le _⟩ ?_
                exact ret _ _ _ _ ⟨rfl, _, rfl, by intro g h2 h6; simp [upG, up3, up3R, h2, h6]⟩ rfl dX5_copy_105
              · skip
                have c_85 := bI_1 c_85
                refine J_aload E dX5_copy_88 0 rfl ?_
                refine J_iload E dX5_copy_90 6 rfl ?_
                refine J_iload E dX5_copy_92 7 rfl ?_
                refine J_si8r E (As := [.int o, .int n]) (c_X2_hasRun l G (sh a 31) (x 8) o n ) cl_X5_218 yo_X2_hasRun dX5_copy_94 rfl (Nat.le_of_ble_eq_true rfl) (Nat.le_of_ble_eq_true rfl) rfl (Nat.le_of_ble_eq_true rfl) ⟨Nat.zero_le _, Nat.zero_le _⟩ ?_
                refine J_if_ne E (tgt := 106) dX5_copy_97 (by decide) (fun c_97 => ?_) (fun c_97 => ?_)
                · skip
                  have c_97 := bI_1 c_97
                  exact absurd ⟨c_85, c_97⟩ hb
                · skip
                  have c_97 := bI_0 c_97
                  refine J_aload_n E dX5_copy_100 rfl 2 rfl ?_
                  refine J_iconst E dX5_copy_101 ic_0 ?_
                  refine J_cVi0 E (As := [.int 0]) (c_X5_tell l G a x 0 (by omega)) cl_X5_64 yo_X5_tell dX5_copy_102 rfl rfl rfl (Nat.le_of_ble_eq_true rfl) (Nat.le_of_ble_eq_true rfl) rfl (Nat.le_of_ble_eq_true rfl) ⟨Nat.zero_le _, Nat.zero_le _⟩ ?_
                  exact ret _ _ _ _ ⟨rfl, _, rfl, by intro g h2 h6; simp [upG, up3, up3R, h2, h6]⟩ rfl dX5_copy_105
            · skip
              exact absurd h3 c_68
          · skip
            have c_49 := bI_1 c_49
            exact absurd c_49 h2
      · skip
        have c_11 := bI_0 c_11
        exact absurd (in3 (by decide)) c_11
  · skip
    refine J_iload_n E dX5_copy_0 rfl 1 rfl ?_
    refine J_cSiN E (As := [.int (nI 1)]) (c_X5_isSheet l G (nI 1) ) cl_X5_202 yo_X5_isSheet dX5_copy_1 rfl (Nat.le_of_ble_eq_true rfl) (Nat.le_of_ble_eq_true rfl) rfl (Nat.le_of_ble_eq_true rfl) ⟨Nat.zero_le _, Nat.zero_le _⟩ ?_
    refine J_if_eq E (tgt := 14) dX5_copy_4 (by decide) (fun c_4 => ?_) (fun c_4 => ?_)
    · skip
      have c_4 := bI_0 c_4
      exact absurd (in3 (by decide)) c_4
    · skip
      have c_4 := bI_1 c_4
      refine J_iload_n E dX5_copy_7 rfl 3 rfl ?_
      refine J_cSiN E (As := [.int (nI 1)]) (c_X5_isSheet l G (nI 1) ) cl_X5_202 yo_X5_isSheet dX5_copy_8 rfl (Nat.le_of_ble_eq_true rfl) (Nat.le_of_ble_eq_true rfl) rfl (Nat.le_of_ble_eq_true rfl) ⟨Nat.zero_le _, Nat.zero_le _⟩ ?_
      refine J_if_ne E (tgt := 20) dX5_copy_11 (by decide) (fun c_11 => ?_) (fun c_11 => ?_)
      · skip
        have c_11 := bI_1 c_11
        refine J_aload_n E dX5_copy_20 rfl 0 rfl ?_
        refine gC0_X5_44 E dX5_copy_21 ?_
        refine J_iload_n E dX5_copy_24 rfl 1 rfl ?_
        refine laC_30_1 E dX5_copy_25 ?_
        refine J_astore E (lv' := [(6, .ref (a 33)), (0, .ref (a 0)), (1, .int (nI 1)), (2, .int f), (3, .int (nI 1)), (4, .int o), (5, .int n)]) dX5_copy_26 (by decide) rfl ?_
        refine J_aload_n E dX5_copy_28 rfl 1 rfl ?_
        refine gC0_X5_44 E dX5_copy_29 ?_
        refine J_iload_n E dX5_copy_32 rfl 4 rfl ?_
        refine laC_30_1 E dX5_copy_33 ?_
        refine J_astore E (lv' := [(7, .ref (a 33)), (6, .ref (a 33)), (0, .ref (a 0)), (1, .int (nI 1)), (2, .int f), (3, .int (nI 1)), (4, .int o), (5, .int n)]) dX5_copy_34 (by decide) rfl ?_
        refine J_aload E dX5_copy_36 1 rfl ?_
        refine J_si9r E (As := []) (c_X2_isMissing l G (sh a 33) (x 9) ) cl_X5_212 yo_X2_isMissing dX5_copy_38 rfl (Nat.le_of_ble_eq_true rfl) (Nat.le_of_ble_eq_true rfl) rfl (Nat.le_of_ble_eq_true rfl) ⟨Nat.zero_le _, Nat.zero_le _⟩ ?_
        refine J_if_ne E (tgt := 52) dX5_copy_41 (by decide) (fun c_41 => ?_) (fun c_41 => ?_)
        · skip
          have c_41 := bI_1 c_41
          exact absurd c_41 h1
        · skip
          have c_41 := bI_0 c_41
          refine J_aload E dX5_copy_44 0 rfl ?_
          refine J_si9r E (As := []) (c_X2_isMissing l G (sh a 33) (x 9) ) cl_X5_212 yo_X2_isMissing dX5_copy_46 rfl (Nat.le_of_ble_eq_true rfl) (Nat.le_of_ble_eq_true rfl) rfl (Nat.le_of_ble_eq_true rfl) ⟨Nat.zero_le _, Nat.zero_le _⟩ ?_
          refine J_if_eq E (tgt := 58) dX5_copy_49 (by decide) (fun c_49 => ?_) (fun c_49 => ?_)
          · skip
            have c_49 := bI_0 c_49
            refine J_aload E dX5_copy_58 1 rfl ?_
            refine gC33_X5_215 E dX5_copy_60 ?_
            refine J_aload E dX5_copy_63 0 rfl ?_
            refine gC33_X5_215 E dX5_copy_65 ?_
            refine J_icmp_eq E (tgt := 77) dX5_copy_68 (by decide) (fun c_68 => ?_) (fun c_68 => ?_)
            · skip
              refine J_aload E dX5_copy_77 1 rfl ?_
              refine J_iload_n E dX5_copy_79 rfl 4 rfl ?_
              refine J_iload E dX5_copy_80 7 rfl ?_
              refine J_si9r E (As := [.int f, .int n]) (c_X2_hasRun l G (sh a 33) (x 9) f n ) cl_X5_218 yo_X2_hasRun dX5_copy_82 rfl (Nat.le_of_ble_eq_true rfl) (Nat.le_of_ble_eq_true rfl) rfl (Nat.le_of_ble_eq_true rfl) ⟨Nat.zero_le _, Nat.zero_le _⟩ ?_
              refine J_if_eq E (tgt := 100) dX5_copy_85 (by decide) (fun c_85 => ?_) (fun c_85 => ?_)
              · skip
                have c_85 := bI_0 c_85
                refine J_aload_n E dX5_copy_100 rfl 2 rfl ?_
                refine J_iconst E dX5_copy_101 ic_0 ?_
                refine J_cVi0 E (As := [.int 0]) (c_X5_tell l G a x 0 (by omega)) cl_X5_64 yo_X5_tell dX5_copy_102 rfl rfl rfl (Nat.le_of_ble_eq_true rfl) (Nat.le_of_ble_eq_true rfl) rfl (Nat.le_of_ble_eq_true rfl) ⟨Nat.zero_le _, Nat.zero_le _⟩ ?_
                exact ret _ _ _ _ ⟨rfl, _, rfl, by intro g h2 h6; simp [upG, up3, up3R, h2, h6]⟩ rfl dX5_copy_105
              · skip
                have c_85 := bI_1 c_85
                refine J_aload E dX5_copy_88 0 rfl ?_
                refine J_iload E dX5_copy_90 6 rfl ?_
                refine J_iload E dX5_copy_92 7 rfl ?_
                refine J_si9r E (As := [.int o, .int n]) (c_X2_hasRun l G (sh a 33) (x 9) o n ) cl_X5_218 yo_X2_hasRun dX5_copy_94 rfl (Nat.le_of_ble_eq_true rfl) (Nat.le_of_ble_eq_true rfl) rfl (Nat.le_of_ble_eq_true rfl) ⟨Nat.zero_le _, Nat.zero_le _⟩ ?_
                refine J_if_ne E (tgt := 106) dX5_copy_97 (by decide) (fun c_97 => ?_) (fun c_97 => ?_)
                · skip
                  have c_97 := bI_1 c_97
                  exact absurd ⟨c_85, c_97⟩ hb
                · skip
                  have c_97 := bI_0 c_97
                  refine J_aload_n E dX5_copy_100 rfl 2 rfl ?_
                  refine J_iconst E dX5_copy_101 ic_0 ?_
                  refine J_cVi0 E (As := [.int 0]) (c_X5_tell l G a x 0 (by omega)) cl_X5_64 yo_X5_tell dX5_copy_102 rfl rfl rfl (Nat.le_of_ble_eq_true rfl) (Nat.le_of_ble_eq_true rfl) rfl (Nat.le_of_ble_eq_true rfl) ⟨Nat.zero_le _, Nat.zero_le _⟩ ?_
                  exact ret _ _ _ _ ⟨rfl, _, rfl, by intro g h2 h6; simp [upG, up3, up3R, h2, h6]⟩ rfl dX5_copy_105
            · skip
              exact absurd h3 c_68
          · skip
            have c_49 := bI_1 c_49
            exact absurd c_49 h2
      · skip
        have c_11 := bI_0 c_11
        exact absurd (in3 (by decide)) c_11
  · skip
    refine J_iload_n E dX5_copy_0 rfl 1 rfl ?_
    refine J_cSiN E (As := [.int (nI 1)]) (c_X5_isSheet l G (nI 1) ) cl_X5_202 yo_X5_isSheet dX5_copy_1 rfl (Nat.le_of_ble_eq_true rfl) (Nat.le_of_ble_eq_true rfl) rfl (Nat.le_of_ble_eq_true rfl) ⟨Nat.zero_le _, Nat.zero_le _⟩ ?_
    refine J_if_eq E (tgt := 14) dX5_copy_4 (by decide) (fun c_4 => ?_) (fun c_4 => ?_)
    · skip
      have c_4 := bI_0 c_4
      exact absurd (in3 (by decide)) c_4
    · skip
      have c_4 := bI_1 c_4
      refine J_iload_n E dX5_copy_7 rfl 3 rfl ?_
      refine J_cSiN E (As := [.int (nI 2)]) (c_X5_isSheet l G (nI 2) ) cl_X5_202 yo_X5_isSheet dX5_copy_8 rfl (Nat.le_of_ble_eq_true rfl) (Nat.le_of_ble_eq_true rfl) rfl (Nat.le_of_ble_eq_true rfl) ⟨Nat.zero_le _, Nat.zero_le _⟩ ?_
      refine J_if_ne E (tgt := 20) dX5_copy_11 (by decide) (fun c_11 => ?_) (fun c_11 => ?_)
      · skip
        have c_11 := bI_1 c_11
        refine J_aload_n E dX5_copy_20 rfl 0 rfl ?_
        refine gC0_X5_44 E dX5_copy_21 ?_
        refine J_iload_n E dX5_copy_24 rfl 1 rfl ?_
        refine laC_30_1 E dX5_copy_25 ?_
        refine J_astore E (lv' := [(6, .ref (a 33)), (0, .ref (a 0)), (1, .int (nI 1)), (2, .int f), (3, .int (nI 2)), (4, .int o), (5, .int n)]) dX5_copy_26 (by decide) rfl ?_
        refine J_aload_n E dX5_copy_28 rfl 1 rfl ?_
        refine gC0_X5_44 E dX5_copy_29 ?_
        refine J_iload_n E dX5_copy_32 rfl 4 rfl ?_
        refine laC_30_2 E dX5_copy_33 ?_
        refine J_astore E (lv' := [(7, .ref (a 35)), (6, .ref (a 33)), (0, .ref (a 0)), (1, .int (nI 1)), (2, .int f), (3, .int (nI 2)), (4, .int o), (5, .int n)]) dX5_copy_34 (by decide) rfl ?_
        refine J_aload E dX5_copy_36 1 rfl ?_
        refine J_si9r E (As := []) (c_X2_isMissing l G (sh a 33) (x 9) ) cl_X5_212 yo_X2_isMissing dX5_copy_38 rfl (Nat.le_of_ble_eq_true rfl) (Nat.le_of_ble_eq_true rfl) rfl (Nat.le_of_ble_eq_true rfl) ⟨Nat.zero_le _, Nat.zero_le _⟩ ?_
        refine J_if_ne E (tgt := 52) dX5_copy_41 (by decide) (fun c_41 => ?_) (fun c_41 => ?_)
        · skip
          have c_41 := bI_1 c_41
          exact absurd c_41 h1
        · skip
          have c_41 := bI_0 c_41
          refine J_aload E dX5_copy_44 0 rfl ?_
          refine J_si10r E (As := []) (c_X2_isMissing l G (sh a 35) (x 10) ) cl_X5_212 yo_X2_isMissing dX5_copy_46 rfl (Nat.le_of_ble_eq_true rfl) (Nat.le_of_ble_eq_true rfl) rfl (Nat.le_of_ble_eq_true rfl) ⟨Nat.zero_le _, Nat.zero_le _⟩ ?_
          refine J_if_eq E (tgt := 58) dX5_copy_49 (by decide) (fun c_49 => ?_) (fun c_49 => ?_)
          · skip
            have c_49 := bI_0 c_49
            refine J_aload E dX5_copy_58 1 rfl ?_
            refine gC33_X5_215 E dX5_copy_60 ?_
            refine J_aload E dX5_copy_63 0 rfl ?_
            refine gC35_X5_215 E dX5_copy_65 ?_
            refine J_icmp_eq E (tgt := 77) dX5_copy_68 (by decide) (fun c_68 => ?_) (fun c_68 => ?_)
            · skip
              refine J_aload E dX5_copy_77 1 rfl ?_
              refine J_iload_n E dX5_copy_79 rfl 4 rfl ?_
              refine J_iload E dX5_copy_80 7 rfl ?_
              refine J_si9r E (As := [.int f, .int n]) (c_X2_hasRun l G (sh a 33) (x 9) f n ) cl_X5_218 yo_X2_hasRun dX5_copy_82 rfl (Nat.le_of_ble_eq_true rfl) (Nat.le_of_ble_eq_true rfl) rfl (Nat.le_of_ble_eq_true rfl) ⟨Nat.zero_le _, Nat.zero_le _⟩ ?_
              refine J_if_eq E (tgt := 100) dX5_copy_85 (by decide) (fun c_85 => ?_) (fun c_85 => ?_)
              · skip
                have c_85 := bI_0 c_85
                refine J_aload_n E dX5_copy_100 rfl 2 rfl ?_
                refine J_iconst E dX5_copy_101 ic_0 ?_
                refine J_cVi0 E (As := [.int 0]) (c_X5_tell l G a x 0 (by omega)) cl_X5_64 yo_X5_tell dX5_copy_102 rfl rfl rfl (Nat.le_of_ble_eq_true rfl) (Nat.le_of_ble_eq_true rfl) rfl (Nat.le_of_ble_eq_true rfl) ⟨Nat.zero_le _, Nat.zero_le _⟩ ?_
                exact ret _ _ _ _ ⟨rfl, _, rfl, by intro g h2 h6; simp [upG, up3, up3R, h2, h6]⟩ rfl dX5_copy_105
              · skip
                have c_85 := bI_1 c_85
                refine J_aload E dX5_copy_88 0 rfl ?_
                refine J_iload E dX5_copy_90 6 rfl ?_
                refine J_iload E dX5_copy_92 7 rfl ?_
                refine J_si10r E (As := [.int o, .int n]) (c_X2_hasRun l G (sh a 35) (x 10) o n ) cl_X5_218 yo_X2_hasRun dX5_copy_94 rfl (Nat.le_of_ble_eq_true rfl) (Nat.le_of_ble_eq_true rfl) rfl (Nat.le_of_ble_eq_true rfl) ⟨Nat.zero_le _, Nat.zero_le _⟩ ?_
                refine J_if_ne E (tgt := 106) dX5_copy_97 (by decide) (fun c_97 => ?_) (fun c_97 => ?_)
                · skip
                  have c_97 := bI_1 c_97
                  exact absurd ⟨c_85, c_97⟩ hb
                · skip
                  have c_97 := bI_0 c_97
                  refine J_aload_n E dX5_copy_100 rfl 2 rfl ?_
                  refine J_iconst E dX5_copy_101 ic_0 ?_
                  refine J_cVi0 E (As := [.int 0]) (c_X5_tell l G a x 0 (by omega)) cl_X5_64 yo_X5_tell dX5_copy_102 rfl rfl rfl (Nat.le_of_ble_eq_true rfl) (Nat.le_of_ble_eq_true rfl) rfl (Nat.le_of_ble_eq_true rfl) ⟨Nat.zero_le _, Nat.zero_le _⟩ ?_
                  exact ret _ _ _ _ ⟨rfl, _, rfl, by intro g h2 h6; simp [upG, up3, up3R, h2, h6]⟩ rfl dX5_copy_105
            · skip
              exact absurd h3 c_68
          · skip
            have c_49 := bI_1 c_49
            exact absurd c_49 h2
      · skip
        have c_11 := bI_0 c_11
        exact absurd (in3 (by decide)) c_11
  · skip
    refine J_iload_n E dX5_copy_0 rfl 1 rfl ?_
    refine J_cSiN E (As := [.int (nI 1)]) (c_X5_isSheet l G (nI 1) ) cl_X5_202 yo_X5_isSheet dX5_copy_1 rfl (Nat.le_of_ble_eq_true rfl) (Nat.le_of_ble_eq_true rfl) rfl (Nat.le_of_ble_eq_true rfl) ⟨Nat.zero_le _, Nat.zero_le _⟩ ?_
    refine J_if_eq E (tgt := 14) dX5_copy_4 (by decide) (fun c_4 => ?_) (fun c_4 => ?_)
    · skip
      have c_4 := bI_0 c_4
      exact absurd (in3 (by decide)) c_4
    · skip
      have c_4 := bI_1 c_4
      refine J_iload_n E dX5_copy_7 rfl 3 rfl ?_
      refine J_cSiN E (As := [.int (nI 3)]) (c_X5_isSheet l G (nI 3) ) cl_X5_202 yo_X5_isSheet dX5_copy_8 rfl (Nat.le_of_ble_eq_true rfl) (Nat.le_of_ble_eq_true rfl) rfl (Nat.le_of_ble_eq_true rfl) ⟨Nat.zero_le _, Nat.zero_le _⟩ ?_
      refine J_if_ne E (tgt := 20) dX5_copy_11 (by decide) (fun c_11 => ?_) (fun c_11 => ?_)
      · skip
        have c_11 := bI_1 c_11
        refine J_aload_n E dX5_copy_20 rfl 0 rfl ?_
        refine gC0_X5_44 E dX5_copy_21 ?_
        refine J_iload_n E dX5_copy_24 rfl 1 rfl ?_
        refine laC_30_1 E dX5_copy_25 ?_
        refine J_astore E (lv' := [(6, .ref (a 33)), (0, .ref (a 0)), (1, .int (nI 1)), (2, .int f), (3, .int (nI 3)), (4, .int o), (5, .int n)]) dX5_copy_26 (by decide) rfl ?_
        refine J_aload_n E dX5_copy_28 rfl 1 rfl ?_
        refine gC0_X5_44 E dX5_copy_29 ?_
        refine J_iload_n E dX5_copy_32 rfl 4 rfl ?_
        refine laC_30_3 E dX5_copy_33 ?_
        refine J_astore E (lv' := [(7, .ref (a 37)), (6, .ref (a 33)), (0, .ref (a 0)), (1, .int (nI 1)), (2, .int f), (3, .int (nI 3)), (4, .int o), (5, .int n)]) dX5_copy_34 (by decide) rfl ?_
        refine J_aload E dX5_copy_36 1 rfl ?_
        refine J_si9r E (As := []) (c_X2_isMissing l G (sh a 33) (x 9) ) cl_X5_212 yo_X2_isMissing dX5_copy_38 rfl (Nat.le_of_ble_eq_true rfl) (Nat.le_of_ble_eq_true rfl) rfl (Nat.le_of_ble_eq_true rfl) ⟨Nat.zero_le _, Nat.zero_le _⟩ ?_
        refine J_if_ne E (tgt := 52) dX5_copy_41 (by decide) (fun c_41 => ?_) (fun c_41 => ?_)
        · skip
          have c_41 := bI_1 c_41
          exact absurd c_41 h1
        · skip
          have c_41 := bI_0 c_41
          refine J_aload E dX5_copy_44 0 rfl ?_
          refine J_si11r E (As := []) (c_X2_isMissing l G (sh a 37) (x 11) ) cl_X5_212 yo_X2_isMissing dX5_copy_46 rfl (Nat.le_of_ble_eq_true rfl) (Nat.le_of_ble_eq_true rfl) rfl (Nat.le_of_ble_eq_true rfl) ⟨Nat.zero_le _, Nat.zero_le _⟩ ?_
          refine J_if_eq E (tgt := 58) dX5_copy_49 (by decide) (fun c_49 => ?_) (fun c_49 => ?_)
          · skip
            have c_49 := bI_0 c_49
            refine J_aload E dX5_copy_58 1 rfl ?_
            refine gC33_X5_215 E dX5_copy_60 ?_
            refine J_aload E dX5_copy_63 0 rfl ?_
            refine gC37_X5_215 E dX5_copy_65 ?_
            refine J_icmp_eq E (tgt := 77) dX5_copy_68 (by decide) (fun c_68 => ?_) (fun c_68 => ?_)
            · skip
              refine J_aload E dX5_copy_77 1 rfl ?_
              refine J_iload_n E dX5_copy_79 rfl 4 rfl ?_
              refine J_iload E dX5_copy_80 7 rfl ?_
              refine J_si9r E (As := [.int f, .int n]) (c_X2_hasRun l G (sh a 33) (x 9) f n ) cl_X5_218 yo_X2_hasRun dX5_copy_82 rfl (Nat.le_of_ble_eq_true rfl) (Nat.le_of_ble_eq_true rfl) rfl (Nat.le_of_ble_eq_true rfl) ⟨Nat.zero_le _, Nat.zero_le _⟩ ?_
              refine J_if_eq E (tgt := 100) dX5_copy_85 (by decide) (fun c_85 => ?_) (fun c_85 => ?_)
              · skip
                have c_85 := bI_0 c_85
                refine J_aload_n E dX5_copy_100 rfl 2 rfl ?_
                refine J_iconst E dX5_copy_101 ic_0 ?_
                refine J_cVi0 E (As := [.int 0]) (c_X5_tell l G a x 0 (by omega)) cl_X5_64 yo_X5_tell dX5_copy_102 rfl rfl rfl (Nat.le_of_ble_eq_true rfl) (Nat.le_of_ble_eq_true rfl) rfl (Nat.le_of_ble_eq_true rfl) ⟨Nat.zero_le _, Nat.zero_le _⟩ ?_
                exact ret _ _ _ _ ⟨rfl, _, rfl, by intro g h2 h6; simp [upG, up3, up3R, h2, h6]⟩ rfl dX5_copy_105
              · skip
                have c_85 := bI_1 c_85
                refine J_aload E dX5_copy_88 0 rfl ?_
                refine J_iload E dX5_copy_90 6 rfl ?_
                refine J_iload E dX5_copy_92 7 rfl ?_
                refine J_si11r E (As := [.int o, .int n]) (c_X2_hasRun l G (sh a 37) (x 11) o n ) cl_X5_218 yo_X2_hasRun dX5_copy_94 rfl (Nat.le_of_ble_eq_true rfl) (Nat.le_of_ble_eq_true rfl) rfl (Nat.le_of_ble_eq_true rfl) ⟨Nat.zero_le _, Nat.zero_le _⟩ ?_
                refine J_if_ne E (tgt := 106) dX5_copy_97 (by decide) (fun c_97 => ?_) (fun c_97 => ?_)
                · skip
                  have c_97 := bI_1 c_97
                  exact absurd ⟨c_85, c_97⟩ hb
                · skip
                  have c_97 := bI_0 c_97
                  refine J_aload_n E dX5_copy_100 rfl 2 rfl ?_
                  refine J_iconst E dX5_copy_101 ic_0 ?_
                  refine J_cVi0 E (As := [.int 0]) (c_X5_tell l G a x 0 (by omega)) cl_X5_64 yo_X5_tell dX5_copy_102 rfl rfl rfl (Nat.le_of_ble_eq_true rfl) (Nat.le_of_ble_eq_true rfl) rfl (Nat.le_of_ble_eq_true rfl) ⟨Nat.zero_le _, Nat.zero_le _⟩ ?_
                  exact ret _ _ _ _ ⟨rfl, _, rfl, by intro g h2 h6; simp [upG, up3, up3R, h2, h6]⟩ rfl dX5_copy_105
            · skip
              exact absurd h3 c_68
          · skip
            have c_49 := bI_1 c_49
            exact absurd c_49 h2
      · skip
        have c_11 := bI_0 c_11
        exact absurd (in3 (by decide)) c_11
  · skip
    refine J_iload_n E dX5_copy_0 rfl 1 rfl ?_
    refine J_cSiN E (As := [.int (nI 2)]) (c_X5_isSheet l G (nI 2) ) cl_X5_202 yo_X5_isSheet dX5_copy_1 rfl (Nat.le_of_ble_eq_true rfl) (Nat.le_of_ble_eq_true rfl) rfl (Nat.le_of_ble_eq_true rfl) ⟨Nat.zero_le _, Nat.zero_le _⟩ ?_
    refine J_if_eq E (tgt := 14) dX5_copy_4 (by decide) (fun c_4 => ?_) (fun c_4 => ?_)
    · skip
      have c_4 := bI_0 c_4
      exact absurd (in3 (by decide)) c_4
    · skip
      have c_4 := bI_1 c_4
      refine J_iload_n E dX5_copy_7 rfl 3 rfl ?_
      refine J_cSiN E (As := [.int (nI 0)]) (c_X5_isSheet l G (nI 0) ) cl_X5_202 yo_X5_isSheet dX5_copy_8 rfl (Nat.le_of_ble_eq_true rfl) (Nat.le_of_ble_eq_true rfl) rfl (Nat.le_of_ble_eq_true rfl) ⟨Nat.zero_le _, Nat.zero_le _⟩ ?_
      refine J_if_ne E (tgt := 20) dX5_copy_11 (by decide) (fun c_11 => ?_) (fun c_11 => ?_)
      · skip
        have c_11 := bI_1 c_11
        refine J_aload_n E dX5_copy_20 rfl 0 rfl ?_
        refine gC0_X5_44 E dX5_copy_21 ?_
        refine J_iload_n E dX5_copy_24 rfl 1 rfl ?_
        refine laC_30_2 E dX5_copy_25 ?_
        refine J_astore E (lv' := [(6, .ref (a 35)), (0, .ref (a 0)), (1, .int (nI 2)), (2, .int f), (3, .int (nI 0)), (4, .int o), (5, .int n)]) dX5_copy_26 (by decide) rfl ?_
        refine J_aload_n E dX5_copy_28 rfl 1 rfl ?_
        refine gC0_X5_44 E dX5_copy_29 ?_
        refine J_iload_n E dX5_copy_32 rfl 4 rfl ?_
        refine laC_30_0 E dX5_copy_33 ?_
        refine J_astore E (lv' := [(7, .ref (a 31)), (6, .ref (a 35)), (0, .ref (a 0)), (1, .int (nI 2)), (2, .int f), (3, .int (nI 0)), (4, .int o), (5, .int n)]) dX5_copy_34 (by decide) rfl ?_
        refine J_aload E dX5_copy_36 1 rfl ?_
        refine J_si10r E (As := []) (c_X2_isMissing l G (sh a 35) (x 10) ) cl_X5_212 yo_X2_isMissing dX5_copy_38 rfl (Nat.le_of_ble_eq_true rfl) (Nat.le_of_ble_eq_true rfl) rfl (Nat.le_of_ble_eq_true rfl) ⟨Nat.zero_le _, Nat.zero_le _⟩ ?_
        refine J_if_ne E (tgt := 52) dX5_copy_41 (by decide) (fun c_41 => ?_) (fun c_41 => ?_)
        · skip
          have c_41 := bI_1 c_41
          exact absurd c_41 h1
        · skip
          have c_41 := bI_0 c_41
          refine J_aload E dX5_copy_44 0 rfl ?_
          refine J_si8r E (As := []) (c_X2_isMissing l G (sh a 31) (x 8) ) cl_X5_212 yo_X2_isMissing dX5_copy_46 rfl (Nat.le_of_ble_eq_true rfl) (Nat.le_of_ble_eq_true rfl) rfl (Nat.le_of_ble_eq_true rfl) ⟨Nat.zero_le _, Nat.zero_le _⟩ ?_
          refine J_if_eq E (tgt := 58) dX5_copy_49 (by decide) (fun c_49 => ?_) (fun c_49 => ?_)
          · skip
            have c_49 := bI_0 c_49
            refine J_aload E dX5_copy_58 1 rfl ?_
            refine gC35_X5_215 E dX5_copy_60 ?_
            refine J_aload E dX5_copy_63 0 rfl ?_
            refine gC31_X5_215 E dX5_copy_65 ?_
            refine J_icmp_eq E (tgt := 77) dX5_copy_68 (by decide) (fun c_68 => ?_) (fun c_68 => ?_)
            · skip
              refine J_aload E dX5_copy_77 1 rfl ?_
              refine J_iload_n E dX5_copy_79 rfl 4 rfl ?_
              refine J_iload E dX5_copy_80 7 rfl ?_
              refine J_si10r E (As := [.int f, .int n]) (c_X2_hasRun l G (sh a 35) (x 10) f n ) cl_X5_218 yo_X2_hasRun dX5_copy_82 rfl (Nat.le_of_ble_eq_true rfl) (Nat.le_of_ble_eq_true rfl) rfl (Nat.le_of_ble_eq_true rfl) ⟨Nat.zero_le _, Nat.zero_le _⟩ ?_
              refine J_if_eq E (tgt := 100) dX5_copy_85 (by decide) (fun c_85 => ?_) (fun c_85 => ?_)
              · skip
                have c_85 := bI_0 c_85
                refine J_aload_n E dX5_copy_100 rfl 2 rfl ?_
                refine J_iconst E dX5_copy_101 ic_0 ?_
                refine J_cVi0 E (As := [.int 0]) (c_X5_tell l G a x 0 (by omega)) cl_X5_64 yo_X5_tell dX5_copy_102 rfl rfl rfl (Nat.le_of_ble_eq_true rfl) (Nat.le_of_ble_eq_true rfl) rfl (Nat.le_of_ble_eq_true rfl) ⟨Nat.zero_le _, Nat.zero_le _⟩ ?_
                exact ret _ _ _ _ ⟨rfl, _, rfl, by intro g h2 h6; simp [upG, up3, up3R, h2, h6]⟩ rfl dX5_copy_105
              · skip
                have c_85 := bI_1 c_85
                refine J_aload E dX5_copy_88 0 rfl ?_
                refine J_iload E dX5_copy_90 6 rfl ?_
                refine J_iload E dX5_copy_92 7 rfl ?_
                refine J_si8r E (As := [.int o, .int n]) (c_X2_hasRun l G (sh a 31) (x 8) o n ) cl_X5_218 yo_X2_hasRun dX5_copy_94 rfl (Nat.le_of_ble_eq_true rfl) (Nat.le_of_ble_eq_true rfl) rfl (Nat.le_of_ble_eq_true rfl) ⟨Nat.zero_le _, Nat.zero_le _⟩ ?_
                refine J_if_ne E (tgt := 106) dX5_copy_97 (by decide) (fun c_97 => ?_) (fun c_97 => ?_)
                · skip
                  have c_97 := bI_1 c_97
                  exact absurd ⟨c_85, c_97⟩ hb
                · skip
                  have c_97 := bI_0 c_97
                  refine J_aload_n E dX5_copy_100 rfl 2 rfl ?_
                  refine J_iconst E dX5_copy_101 ic_0 ?_
                  refine J_cVi0 E (As := [.int 0]) (c_X5_tell l G a x 0 (by omega)) cl_X5_64 yo_X5_tell dX5_copy_102 rfl rfl rfl (Nat.le_of_ble_eq_true rfl) (Nat.le_of_ble_eq_true rfl) rfl (Nat.le_of_ble_eq_true rfl) ⟨Nat.zero_le _, Nat.zero_le _⟩ ?_
                  exact ret _ _ _ _ ⟨rfl, _, rfl, by intro g h2 h6; simp [upG, up3, up3R, h2, h6]⟩ rfl dX5_copy_105
            · skip
              exact absurd h3 c_68
          · skip
            have c_49 := bI_1 c_49
            exact absurd c_49 h2
      · skip
        have c_11 := bI_0 c_11
        exact absurd (in3 (by decide)) c_11
  · skip
    refine J_iload_n E dX5_copy_0 rfl 1 rfl ?_
    refine J_cSiN E (As := [.int (nI 2)]) (c_X5_isSheet l G (nI 2) ) cl_X5_202 yo_X5_isSheet dX5_copy_1 rfl (Nat.le_of_ble_eq_true rfl) (Nat.le_of_ble_eq_true rfl) rfl (Nat.le_of_ble_eq_true rfl) ⟨Nat.zero_le _, Nat.zero_le _⟩ ?_
    refine J_if_eq E (tgt := 14) dX5_copy_4 (by decide) (fun c_4 => ?_) (fun c_4 => ?_)
    · skip
      have c_4 := bI_0 c_4
      exact absurd (in3 (by decide)) c_4
    · skip
      have c_4 := bI_1 c_4
      refine J_iload_n E dX5_copy_7 rfl 3 rfl ?_
      refine J_cSiN E (As := [.int (nI 1)]) (c_X5_isSheet l G (nI 1) ) cl_X5_202 yo_X5_isSheet dX5_copy_8 rfl (Nat.le_of_ble_eq_true rfl) (Nat.le_of_ble_eq_true rfl) rfl (Nat.le_of_ble_eq_true rfl) ⟨Nat.zero_le _, Nat.zero_le _⟩ ?_
      refine J_if_ne E (tgt := 20) dX5_copy_11 (by decide) (fun c_11 => ?_) (fun c_11 => ?_)
      · skip
        have c_11 := bI_1 c_11
        refine J_aload_n E dX5_copy_20 rfl 0 rfl ?_
        refine gC0_X5_44 E dX5_copy_21 ?_
        refine J_iload_n E dX5_copy_24 rfl 1 rfl ?_
        refine laC_30_2 E dX5_copy_25 ?_
        refine J_astore E (lv' := [(6, .ref (a 35)), (0, .ref (a 0)), (1, .int (nI 2)), (2, .int f), (3, .int (nI 1)), (4, .int o), (5, .int n)]) dX5_copy_26 (by decide) rfl ?_
        refine J_aload_n E dX5_copy_28 rfl 1 rfl ?_
        refine gC0_X5_44 E dX5_copy_29 ?_
        refine J_iload_n E dX5_copy_32 rfl 4 rfl ?_
        refine laC_30_1 E dX5_copy_33 ?_
        refine J_astore E (lv' := [(7, .ref (a 33)), (6, .ref (a 35)), (0, .ref (a 0)), (1, .int (nI 2)), (2, .int f), (3, .int (nI 1)), (4, .int o), (5, .int n)]) dX5_copy_34 (by decide) rfl ?_
        refine J_aload E dX5_copy_36 1 rfl ?_
        refine J_si10r E (As := []) (c_X2_isMissing l G (sh a 35) (x 10) ) cl_X5_212 yo_X2_isMissing dX5_copy_38 rfl (Nat.le_of_ble_eq_true rfl) (Nat.le_of_ble_eq_true rfl) rfl (Nat.le_of_ble_eq_true rfl) ⟨Nat.zero_le _, Nat.zero_le _⟩ ?_
        refine J_if_ne E (tgt := 52) dX5_copy_41 (by decide) (fun c_41 => ?_) (fun c_41 => ?_)
        · skip
          have c_41 := bI_1 c_41
          exact absurd c_41 h1
        · skip
          have c_41 := bI_0 c_41
          refine J_aload E dX5_copy_44 0 rfl ?_
          refine J_si9r E (As := []) (c_X2_isMissing l G (sh a 33) (x 9) ) cl_X5_212 yo_X2_isMissing dX5_copy_46 rfl (Nat.le_of_ble_eq_true rfl) (Nat.le_of_ble_eq_true rfl) rfl (Nat.le_of_ble_eq_true rfl) ⟨Nat.zero_le _, Nat.zero_le _⟩ ?_
          refine J_if_eq E (tgt := 58) dX5_copy_49 (by decide) (fun c_49 => ?_) (fun c_49 => ?_)
          · skip
            have c_49 := bI_0 c_49
            refine J_aload E dX5_copy_58 1 rfl ?_
            refine gC35_X5_215 E dX5_copy_60 ?_
            refine J_aload E dX5_copy_63 0 rfl ?_
            refine gC33_X5_215 E dX5_copy_65 ?_
            refine J_icmp_eq E (tgt := 77) dX5_copy_68 (by decide) (fun c_68 => ?_) (fun c_68 => ?_)
            · skip
              refine J_aload E dX5_copy_77 1 rfl ?_
              refine J_iload_n E dX5_copy_79 rfl 4 rfl ?_
              refine J_iload E dX5_copy_80 7 rfl ?_
              refine J_si10r E (As := [.int f, .int n]) (c_X2_hasRun l G (sh a 35) (x 10) f n ) cl_X5_218 yo_X2_hasRun dX5_copy_82 rfl (Nat.le_of_ble_eq_true rfl) (Nat.le_of_ble_eq_true rfl) rfl (Nat.le_of_ble_eq_true rfl) ⟨Nat.zero_le _, Nat.zero_le _⟩ ?_
              refine J_if_eq E (tgt := 100) dX5_copy_85 (by decide) (fun c_85 => ?_) (fun c_85 => ?_)
              · skip
                have c_85 := bI_0 c_85
                refine J_aload_n E dX5_copy_100 rfl 2 rfl ?_
                refine J_iconst E dX5_copy_101 ic_0 ?_
                refine J_cVi0 E (As := [.int 0]) (c_X5_tell l G a x 0 (by omega)) cl_X5_64 yo_X5_tell dX5_copy_102 rfl rfl rfl (Nat.le_of_ble_eq_true rfl) (Nat.le_of_ble_eq_true rfl) rfl (Nat.le_of_ble_eq_true rfl) ⟨Nat.zero_le _, Nat.zero_le _⟩ ?_
                exact ret _ _ _ _ ⟨rfl, _, rfl, by intro g h2 h6; simp [upG, up3, up3R, h2, h6]⟩ rfl dX5_copy_105
              · skip
                have c_85 := bI_1 c_85
                refine J_aload E dX5_copy_88 0 rfl ?_
                refine J_iload E dX5_copy_90 6 rfl ?_
                refine J_iload E dX5_copy_92 7 rfl ?_
                refine J_si9r E (As := [.int o, .int n]) (c_X2_hasRun l G (sh a 33) (x 9) o n ) cl_X5_218 yo_X2_hasRun dX5_copy_94 rfl (Nat.le_of_ble_eq_true rfl) (Nat.le_of_ble_eq_true rfl) rfl (Nat.le_of_ble_eq_true rfl) ⟨Nat.zero_le _, Nat.zero_le _⟩ ?_
                refine J_if_ne E (tgt := 106) dX5_copy_97 (by decide) (fun c_97 => ?_) (fun c_97 => ?_)
                · skip
                  have c_97 := bI_1 c_97
                  exact absurd ⟨c_85, c_97⟩ hb
                · skip
                  have c_97 := bI_0 c_97
                  refine J_aload_n E dX5_copy_100 rfl 2 rfl ?_
                  refine J_iconst E dX5_copy_101 ic_0 ?_
                  refine J_cVi0 E (As := [.int 0]) (c_X5_tell l G a x 0 (by omega)) cl_X5_64 yo_X5_tell dX5_copy_102 rfl rfl rfl (Nat.le_of_ble_eq_true rfl) (Nat.le_of_ble_eq_true rfl) rfl (Nat.le_of_ble_eq_true rfl) ⟨Nat.zero_le _, Nat.zero_le _⟩ ?_
                  exact ret _ _ _ _ ⟨rfl, _, rfl, by intro g h2 h6; simp [upG, up3, up3R, h2, h6]⟩ rfl dX5_copy_105
            · skip
              exact absurd h3 c_68
          · skip
            have c_49 := bI_1 c_49
            exact absurd c_49 h2
      · skip
        have c_11 := bI_0 c_11
        exact absurd (in3 (by decide)) c_11
  · skip
    refine J_iload_n E dX5_copy_0 rfl 1 rfl ?_
    refine J_cSiN E (As := [.int (nI 2)]) (c_X5_isSheet l G (nI 2) ) cl_X5_202 yo_X5_isSheet dX5_copy_1 rfl (Nat.le_of_ble_eq_true rfl) (Nat.le_of_ble_eq_true rfl) rfl (Nat.le_of_ble_eq_true rfl) ⟨Nat.zero_le _, Nat.zero_le _⟩ ?_
    refine J_if_eq E (tgt := 14) dX5_copy_4 (by decide) (fun c_4 => ?_) (fun c_4 => ?_)
    · skip
      have c_4 := bI_0 c_4
      exact absurd (in3 (by decide)) c_4
    · skip
      have c_4 := bI_1 c_4
      refine J_iload_n E dX5_copy_7 rfl 3 rfl ?_
      refine J_cSiN E (As := [.int (nI 2)]) (c_X5_isSheet l G (nI 2) ) cl_X5_202 yo_X5_isSheet dX5_copy_8 rfl (Nat.le_of_ble_eq_true rfl) (Nat.le_of_ble_eq_true rfl) rfl (Nat.le_of_ble_eq_true rfl) ⟨Nat.zero_le _, Nat.zero_le _⟩ ?_
      refine J_if_ne E (tgt := 20) dX5_copy_11 (by decide) (fun c_11 => ?_) (fun c_11 => ?_)
      · skip
        have c_11 := bI_1 c_11
        refine J_aload_n E dX5_copy_20 rfl 0 rfl ?_
        refine gC0_X5_44 E dX5_copy_21 ?_
        refine J_iload_n E dX5_copy_24 rfl 1 rfl ?_
        refine laC_30_2 E dX5_copy_25 ?_
        refine J_astore E (lv' := [(6, .ref (a 35)), (0, .ref (a 0)), (1, .int (nI 2)), (2, .int f), (3, .int (nI 2)), (4, .int o), (5, .int n)]) dX5_copy_26 (by decide) rfl ?_
        refine J_aload_n E dX5_copy_28 rfl 1 rfl ?_
        refine gC0_X5_44 E dX5_copy_29 ?_
        refine J_iload_n E dX5_copy_32 rfl 4 rfl ?_
        refine laC_30_2 E dX5_copy_33 ?_
        refine J_astore E (lv' := [(7, .ref (a 35)), (6, .ref (a 35)), (0, .ref (a 0)), (1, .int (nI 2)), (2, .int f), (3, .int (nI 2)), (4, .int o), (5, .int n)]) dX5_copy_34 (by decide) rfl ?_
        refine J_aload E dX5_copy_36 1 rfl ?_
        refine J_si10r E (As := []) (c_X2_isMissing l G (sh a 35) (x 10) ) cl_X5_212 yo_X2_isMissing dX5_copy_38 rfl (Nat.le_of_ble_eq_true rfl) (Nat.le_of_ble_eq_true rfl) rfl (Nat.le_of_ble_eq_true rfl) ⟨Nat.zero_le _, Nat.zero_le _⟩ ?_
        refine J_if_ne E (tgt := 52) dX5_copy_41 (by decide) (fun c_41 => ?_) (fun c_41 => ?_)
        · skip
          have c_41 := bI_1 c_41
          exact absurd c_41 h1
        · skip
          have c_41 := bI_0 c_41
          refine J_aload E dX5_copy_44 0 rfl ?_
          refine J_si10r E (As := []) (c_X2_isMissing l G (sh a 35) (x 10) ) cl_X5_212 yo_X2_isMissing dX5_copy_46 rfl (Nat.le_of_ble_eq_true rfl) (Nat.le_of_ble_eq_true rfl) rfl (Nat.le_of_ble_eq_true rfl) ⟨Nat.zero_le _, Nat.zero_le _⟩ ?_
          refine J_if_eq E (tgt := 58) dX5_copy_49 (by decide) (fun c_49 => ?_) (fun c_49 => ?_)
          · skip
            have c_49 := bI_0 c_49
            refine J_aload E dX5_copy_58 1 rfl ?_
            refine gC35_X5_215 E dX5_copy_60 ?_
            refine J_aload E dX5_copy_63 0 rfl ?_
            refine gC35_X5_215 E dX5_copy_65 ?_
            refine J_icmp_eq E (tgt := 77) dX5_copy_68 (by decide) (fun c_68 => ?_) (fun c_68 => ?_)
            · skip
              refine J_aload E dX5_copy_77 1 rfl ?_
              refine J_iload_n E dX5_copy_79 rfl 4 rfl ?_
              refine J_iload E dX5_copy_80 7 rfl ?_
              refine J_si10r E (As := [.int f, .int n]) (c_X2_hasRun l G (sh a 35) (x 10) f n ) cl_X5_218 yo_X2_hasRun dX5_copy_82 rfl (Nat.le_of_ble_eq_true rfl) (Nat.le_of_ble_eq_true rfl) rfl (Nat.le_of_ble_eq_true rfl) ⟨Nat.zero_le _, Nat.zero_le _⟩ ?_
              refine J_if_eq E (tgt := 100) dX5_copy_85 (by decide) (fun c_85 => ?_) (fun c_85 => ?_)
              · skip
                have c_85 := bI_0 c_85
                refine J_aload_n E dX5_copy_100 rfl 2 rfl ?_
                refine J_iconst E dX5_copy_101 ic_0 ?_
                refine J_cVi0 E (As := [.int 0]) (c_X5_tell l G a x 0 (by omega)) cl_X5_64 yo_X5_tell dX5_copy_102 rfl rfl rfl (Nat.le_of_ble_eq_true rfl) (Nat.le_of_ble_eq_true rfl) rfl (Nat.le_of_ble_eq_true rfl) ⟨Nat.zero_le _, Nat.zero_le _⟩ ?_
                exact ret _ _ _ _ ⟨rfl, _, rfl, by intro g h2 h6; simp [upG, up3, up3R, h2, h6]⟩ rfl dX5_copy_105
              · skip
                have c_85 := bI_1 c_85
                refine J_aload E dX5_copy_88 0 rfl ?_
                refine J_iload E dX5_copy_90 6 rfl ?_
                refine J_iload E dX5_copy_92 7 rfl ?_
                refine J_si10r E (As := [.int o, .int n]) (c_X2_hasRun l G (sh a 35) (x 10) o n ) cl_X5_218 yo_X2_hasRun dX5_copy_94 rfl (Nat.le_of_ble_eq_true rfl) (Nat.le_of_ble_eq_true rfl) rfl (Nat.le_of_ble_eq_true rfl) ⟨Nat.zero_le _, Nat.zero_le _⟩ ?_
                refine J_if_ne E (tgt := 106) dX5_copy_97 (by decide) (fun c_97 => ?_) (fun c_97 => ?_)
                · skip
                  have c_97 := bI_1 c_97
                  exact absurd ⟨c_85, c_97⟩ hb
                · skip
                  have c_97 := bI_0 c_97
                  refine J_aload_n E dX5_copy_100 rfl 2 rfl ?_
                  refine J_iconst E dX5_copy_101 ic_0 ?_
                  refine J_cVi0 E (As := [.int 0]) (c_X5_tell l G a x 0 (by omega)) cl_X5_64 yo_X5_tell dX5_copy_102 rfl rfl rfl (Nat.le_of_ble_eq_true rfl) (Nat.le_of_ble_eq_true rfl) rfl (Nat.le_of_ble_eq_true rfl) ⟨Nat.zero_le _, Nat.zero_le _⟩ ?_
                  exact ret _ _ _ _ ⟨rfl, _, rfl, by intro g h2 h6; simp [upG, up3, up3R, h2, h6]⟩ rfl dX5_copy_105
            · skip
              exact absurd h3 c_68
          · skip
            have c_49 := bI_1 c_49
            exact absurd c_49 h2
      · skip
        have c_11 := bI_0 c_11
        exact absurd (in3 (by decide)) c_11
  · skip
    refine J_iload_n E dX5_copy_0 rfl 1 rfl ?_
    refine J_cSiN E (As := [.int (nI 2)]) (c_X5_isSheet l G (nI 2) ) cl_X5_202 yo_X5_isSheet dX5_copy_1 rfl (Nat.le_of_ble_eq_true rfl) (Nat.le_of_ble_eq_true rfl) rfl (Nat.le_of_ble_eq_true rfl) ⟨Nat.zero_le _, Nat.zero_le _⟩ ?_
    refine J_if_eq E (tgt := 14) dX5_copy_4 (by decide) (fun c_4 => ?_) (fun c_4 => ?_)
    · skip
      have c_4 := bI_0 c_4
      exact absurd (in3 (by decide)) c_4
    · skip
      have c_4 := bI_1 c_4
      refine J_iload_n E dX5_copy_7 rfl 3 rfl ?_
      refine J_cSiN E (As := [.int (nI 3)]) (c_X5_isSheet l G (nI 3) ) cl_X5_202 yo_X5_isSheet dX5_copy_8 rfl (Nat.le_of_ble_eq_true rfl) (Nat.le_of_ble_eq_true rfl) rfl (Nat.le_of_ble_eq_true rfl) ⟨Nat.zero_le _, Nat.zero_le _⟩ ?_
      refine J_if_ne E (tgt := 20) dX5_copy_11 (by decide) (fun c_11 => ?_) (fun c_11 => ?_)
      · skip
        have c_11 := bI_1 c_11
        refine J_aload_n E dX5_copy_20 rfl 0 rfl ?_
        refine gC0_X5_44 E dX5_copy_21 ?_
        refine J_iload_n E dX5_copy_24 rfl 1 rfl ?_
        refine laC_30_2 E dX5_copy_25 ?_
        refine J_astore E (lv' := [(6, .ref (a 35)), (0, .ref (a 0)), (1, .int (nI 2)), (2, .int f), (3, .int (nI 3)), (4, .int o), (5, .int n)]) dX5_copy_26 (by decide) rfl ?_
        refine J_aload_n E dX5_copy_28 rfl 1 rfl ?_
        refine gC0_X5_44 E dX5_copy_29 ?_
        refine J_iload_n E dX5_copy_32 rfl 4 rfl ?_
        refine laC_30_3 E dX5_copy_33 ?_
        refine J_astore E (lv' := [(7, .ref (a 37)), (6, .ref (a 35)), (0, .ref (a 0)), (1, .int (nI 2)), (2, .int f), (3, .int (nI 3)), (4, .int o), (5, .int n)]) dX5_copy_34 (by decide) rfl ?_
        refine J_aload E dX5_copy_36 1 rfl ?_
        refine J_si10r E (As := []) (c_X2_isMissing l G (sh a 35) (x 10) ) cl_X5_212 yo_X2_isMissing dX5_copy_38 rfl (Nat.le_of_ble_eq_true rfl) (Nat.le_of_ble_eq_true rfl) rfl (Nat.le_of_ble_eq_true rfl) ⟨Nat.zero_le _, Nat.zero_le _⟩ ?_
        refine J_if_ne E (tgt := 52) dX5_copy_41 (by decide) (fun c_41 => ?_) (fun c_41 => ?_)
        · skip
          have c_41 := bI_1 c_41
          exact absurd c_41 h1
        · skip
          have c_41 := bI_0 c_41
          refine J_aload E dX5_copy_44 0 rfl ?_
          refine J_si11r E (As := []) (c_X2_isMissing l G (sh a 37) (x 11) ) cl_X5_212 yo_X2_isMissing dX5_copy_46 rfl (Nat.le_of_ble_eq_true rfl) (Nat.le_of_ble_eq_true rfl) rfl (Nat.le_of_ble_eq_true rfl) ⟨Nat.zero_le _, Nat.zero_le _⟩ ?_
          refine J_if_eq E (tgt := 58) dX5_copy_49 (by decide) (fun c_49 => ?_) (fun c_49 => ?_)
          · skip
            have c_49 := bI_0 c_49
            refine J_aload E dX5_copy_58 1 rfl ?_
            refine gC35_X5_215 E dX5_copy_60 ?_
            refine J_aload E dX5_copy_63 0 rfl ?_
            refine gC37_X5_215 E dX5_copy_65 ?_
            refine J_icmp_eq E (tgt := 77) dX5_copy_68 (by decide) (fun c_68 => ?_) (fun c_68 => ?_)
            · skip
              refine J_aload E dX5_copy_77 1 rfl ?_
              refine J_iload_n E dX5_copy_79 rfl 4 rfl ?_
              refine J_iload E dX5_copy_80 7 rfl ?_
              refine J_si10r E (As := [.int f, .int n]) (c_X2_hasRun l G (sh a 35) (x 10) f n ) cl_X5_218 yo_X2_hasRun dX5_copy_82 rfl (Nat.le_of_ble_eq_true rfl) (Nat.le_of_ble_eq_true rfl) rfl (Nat.le_of_ble_eq_true rfl) ⟨Nat.zero_le _, Nat.zero_le _⟩ ?_
              refine J_if_eq E (tgt := 100) dX5_copy_85 (by decide) (fun c_85 => ?_) (fun c_85 => ?_)
              · skip
                have c_85 := bI_0 c_85
                refine J_aload_n E dX5_copy_100 rfl 2 rfl ?_
                refine J_iconst E dX5_copy_101 ic_0 ?_
                refine J_cVi0 E (As := [.int 0]) (c_X5_tell l G a x 0 (by omega)) cl_X5_64 yo_X5_tell dX5_copy_102 rfl rfl rfl (Nat.le_of_ble_eq_true rfl) (Nat.le_of_ble_eq_true rfl) rfl (Nat.le_of_ble_eq_true rfl) ⟨Nat.zero_le _, Nat.zero_le _⟩ ?_
                exact ret _ _ _ _ ⟨rfl, _, rfl, by intro g h2 h6; simp [upG, up3, up3R, h2, h6]⟩ rfl dX5_copy_105
              · skip
                have c_85 := bI_1 c_85
                refine J_aload E dX5_copy_88 0 rfl ?_
                refine J_iload E dX5_copy_90 6 rfl ?_
                refine J_iload E dX5_copy_92 7 rfl ?_
                refine J_si11r E (As := [.int o, .int n]) (c_X2_hasRun l G (sh a 37) (x 11) o n ) cl_X5_218 yo_X2_hasRun dX5_copy_94 rfl (Nat.le_of_ble_eq_true rfl) (Nat.le_of_ble_eq_true rfl) rfl (Nat.le_of_ble_eq_true rfl) ⟨Nat.zero_le _, Nat.zero_le _⟩ ?_
                refine J_if_ne E (tgt := 106) dX5_copy_97 (by decide) (fun c_97 => ?_) (fun c_97 => ?_)
                · skip
                  have c_97 := bI_1 c_97
                  exact absurd ⟨c_85, c_97⟩ hb
                · skip
                  have c_97 := bI_0 c_97
                  refine J_aload_n E dX5_copy_100 rfl 2 rfl ?_
                  refine J_iconst E dX5_copy_101 ic_0 ?_
                  refine J_cVi0 E (As := [.int 0]) (c_X5_tell l G a x 0 (by omega)) cl_X5_64 yo_X5_tell dX5_copy_102 rfl rfl rfl (Nat.le_of_ble_eq_true rfl) (Nat.le_of_ble_eq_true rfl) rfl (Nat.le_of_ble_eq_true rfl) ⟨Nat.zero_le _, Nat.zero_le _⟩ ?_
                  exact ret _ _ _ _ ⟨rfl, _, rfl, by intro g h2 h6; simp [upG, up3, up3R, h2, h6]⟩ rfl dX5_copy_105
            · skip
              exact absurd h3 c_68
          · skip
            have c_49 := bI_1 c_49
            exact absurd c_49 h2
      · skip
        have c_11 := bI_0 c_11
        exact absurd (in3 (by decide)) c_11
  · skip
    refine J_iload_n E dX5_copy_0 rfl 1 rfl ?_
    refine J_cSiN E (As := [.int (nI 3)]) (c_X5_isSheet l G (nI 3) ) cl_X5_202 yo_X5_isSheet dX5_copy_1 rfl (Nat.le_of_ble_eq_true rfl) (Nat.le_of_ble_eq_true rfl) rfl (Nat.le_of_ble_eq_true rfl) ⟨Nat.zero_le _, Nat.zero_le _⟩ ?_
    refine J_if_eq E (tgt := 14) dX5_copy_4 (by decide) (fun c_4 => ?_) (fun c_4 => ?_)
    · skip
      have c_4 := bI_0 c_4
      exact absurd (in3 (by decide)) c_4
    · skip
      have c_4 := bI_1 c_4
      refine J_iload_n E dX5_copy_7 rfl 3 rfl ?_
      refine J_cSiN E (As := [.int (nI 0)]) (c_X5_isSheet l G (nI 0) ) cl_X5_202 yo_X5_isSheet dX5_copy_8 rfl (Nat.le_of_ble_eq_true rfl) (Nat.le_of_ble_eq_true rfl) rfl (Nat.le_of_ble_eq_true rfl) ⟨Nat.zero_le _, Nat.zero_le _⟩ ?_
      refine J_if_ne E (tgt := 20) dX5_copy_11 (by decide) (fun c_11 => ?_) (fun c_11 => ?_)
      · skip
        have c_11 := bI_1 c_11
        refine J_aload_n E dX5_copy_20 rfl 0 rfl ?_
        refine gC0_X5_44 E dX5_copy_21 ?_
        refine J_iload_n E dX5_copy_24 rfl 1 rfl ?_
        refine laC_30_3 E dX5_copy_25 ?_
        refine J_astore E (lv' := [(6, .ref (a 37)), (0, .ref (a 0)), (1, .int (nI 3)), (2, .int f), (3, .int (nI 0)), (4, .int o), (5, .int n)]) dX5_copy_26 (by decide) rfl ?_
        refine J_aload_n E dX5_copy_28 rfl 1 rfl ?_
        refine gC0_X5_44 E dX5_copy_29 ?_
        refine J_iload_n E dX5_copy_32 rfl 4 rfl ?_
        refine laC_30_0 E dX5_copy_33 ?_
        refine J_astore E (lv' := [(7, .ref (a 31)), (6, .ref (a 37)), (0, .ref (a 0)), (1, .int (nI 3)), (2, .int f), (3, .int (nI 0)), (4, .int o), (5, .int n)]) dX5_copy_34 (by decide) rfl ?_
        refine J_aload E dX5_copy_36 1 rfl ?_
        refine J_si11r E (As := []) (c_X2_isMissing l G (sh a 37) (x 11) ) cl_X5_212 yo_X2_isMissing dX5_copy_38 rfl (Nat.le_of_ble_eq_true rfl) (Nat.le_of_ble_eq_true rfl) rfl (Nat.le_of_ble_eq_true rfl) ⟨Nat.zero_le _, Nat.zero_le _⟩ ?_
        refine J_if_ne E (tgt := 52) dX5_copy_41 (by decide) (fun c_41 => ?_) (fun c_41 => ?_)
        · skip
          have c_41 := bI_1 c_41
          exact absurd c_41 h1
        · skip
          have c_41 := bI_0 c_41
          refine J_aload E dX5_copy_44 0 rfl ?_
          refine J_si8r E (As := []) (c_X2_isMissing l G (sh a 31) (x 8) ) cl_X5_212 yo_X2_isMissing dX5_copy_46 rfl (Nat.le_of_ble_eq_true rfl) (Nat.le_of_ble_eq_true rfl) rfl (Nat.le_of_ble_eq_true rfl) ⟨Nat.zero_le _, Nat.zero_le _⟩ ?_
          refine J_if_eq E (tgt := 58) dX5_copy_49 (by decide) (fun c_49 => ?_) (fun c_49 => ?_)
          · skip
            have c_49 := bI_0 c_49
            refine J_aload E dX5_copy_58 1 rfl ?_
            refine gC37_X5_215 E dX5_copy_60 ?_
            refine J_aload E dX5_copy_63 0 rfl ?_
            refine gC31_X5_215 E dX5_copy_65 ?_
            refine J_icmp_eq E (tgt := 77) dX5_copy_68 (by decide) (fun c_68 => ?_) (fun c_68 => ?_)
            · skip
              refine J_aload E dX5_copy_77 1 rfl ?_
              refine J_iload_n E dX5_copy_79 rfl 4 rfl ?_
              refine J_iload E dX5_copy_80 7 rfl ?_
              refine J_si11r E (As := [.int f, .int n]) (c_X2_hasRun l G (sh a 37) (x 11) f n ) cl_X5_218 yo_X2_hasRun dX5_copy_82 rfl (Nat.le_of_ble_eq_true rfl) (Nat.le_of_ble_eq_true rfl) rfl (Nat.le_of_ble_eq_true rfl) ⟨Nat.zero_le _, Nat.zero_le _⟩ ?_
              refine J_if_eq E (tgt := 100) dX5_copy_85 (by decide) (fun c_85 => ?_) (fun c_85 => ?_)
              · skip
                have c_85 := bI_0 c_85
                refine J_aload_n E dX5_copy_100 rfl 2 rfl ?_
                refine J_iconst E dX5_copy_101 ic_0 ?_
                refine J_cVi0 E (As := [.int 0]) (c_X5_tell l G a x 0 (by omega)) cl_X5_64 yo_X5_tell dX5_copy_102 rfl rfl rfl (Nat.le_of_ble_eq_true rfl) (Nat.le_of_ble_eq_true rfl) rfl (Nat.le_of_ble_eq_true rfl) ⟨Nat.zero_le _, Nat.zero_le _⟩ ?_
                exact ret _ _ _ _ ⟨rfl, _, rfl, by intro g h2 h6; simp [upG, up3, up3R, h2, h6]⟩ rfl dX5_copy_105
              · skip
                have c_85 := bI_1 c_85
                refine J_aload E dX5_copy_88 0 rfl ?_
                refine J_iload E dX5_copy_90 6 rfl ?_
                refine J_iload E dX5_copy_92 7 rfl ?_
                refine J_si8r E (As := [.int o, .int n]) (c_X2_hasRun l G (sh a 31) (x 8) o n ) cl_X5_218 yo_X2_hasRun dX5_copy_94 rfl (Nat.le_of_ble_eq_true rfl) (Nat.le_of_ble_eq_true rfl) rfl (Nat.le_of_ble_eq_true rfl) ⟨Nat.zero_le _, Nat.zero_le _⟩ ?_
                refine J_if_ne E (tgt := 106) dX5_copy_97 (by decide) (fun c_97 => ?_) (fun c_97 => ?_)
                · skip
                  have c_97 := bI_1 c_97
                  exact absurd ⟨c_85, c_97⟩ hb
                · skip
                  have c_97 := bI_0 c_97
                  refine J_aload_n E dX5_copy_100 rfl 2 rfl ?_
                  refine J_iconst E dX5_copy_101 ic_0 ?_
                  refine J_cVi0 E (As := [.int 0]) (c_X5_tell l G a x 0 (by omega)) cl_X5_64 yo_X5_tell dX5_copy_102 rfl rfl rfl (Nat.le_of_ble_eq_true rfl) (Nat.le_of_ble_eq_true rfl) rfl (Nat.le_of_ble_eq_true rfl) ⟨Nat.zero_le _, Nat.zero_le _⟩ ?_
                  exact ret _ _ _ _ ⟨rfl, _, rfl, by intro g h2 h6; simp [upG, up3, up3R, h2, h6]⟩ rfl dX5_copy_105
            · skip
              exact absurd h3 c_68
          · skip
            have c_49 := bI_1 c_49
            exact absurd c_49 h2
      · skip
        have c_11 := bI_0 c_11
        exact absurd (in3 (by decide)) c_11
  · skip
    refine J_iload_n E dX5_copy_0 rfl 1 rfl ?_
    refine J_cSiN E (As := [.int (nI 3)]) (c_X5_isSheet l G (nI 3) ) cl_X5_202 yo_X5_isSheet dX5_copy_1 rfl (Nat.le_of_ble_eq_true rfl) (Nat.le_of_ble_eq_true rfl) rfl (Nat.le_of_ble_eq_true rfl) ⟨Nat.zero_le _, Nat.zero_le _⟩ ?_
    refine J_if_eq E (tgt := 14) dX5_copy_4 (by decide) (fun c_4 => ?_) (fun c_4 => ?_)
    · skip
      have c_4 := bI_0 c_4
      exact absurd (in3 (by decide)) c_4
    · skip
      have c_4 := bI_1 c_4
      refine J_iload_n E dX5_copy_7 rfl 3 rfl ?_
      refine J_cSiN E (As := [.int (nI 1)]) (c_X5_isSheet l G (nI 1) ) cl_X5_202 yo_X5_isSheet dX5_copy_8 rfl (Nat.le_of_ble_eq_true rfl) (Nat.le_of_ble_eq_true rfl) rfl (Nat.le_of_ble_eq_true rfl) ⟨Nat.zero_le _, Nat.zero_le _⟩ ?_
      refine J_if_ne E (tgt := 20) dX5_copy_11 (by decide) (fun c_11 => ?_) (fun c_11 => ?_)
      · skip
        have c_11 := bI_1 c_11
        refine J_aload_n E dX5_copy_20 rfl 0 rfl ?_
        refine gC0_X5_44 E dX5_copy_21 ?_
        refine J_iload_n E dX5_copy_24 rfl 1 rfl ?_
        refine laC_30_3 E dX5_copy_25 ?_
        refine J_astore E (lv' := [(6, .ref (a 37)), (0, .ref (a 0)), (1, .int (nI 3)), (2, .int f), (3, .int (nI 1)), (4, .int o), (5, .int n)]) dX5_copy_26 (by decide) rfl ?_
        refine J_aload_n E dX5_copy_28 rfl 1 rfl ?_
        refine gC0_X5_44 E dX5_copy_29 ?_
        refine J_iload_n E dX5_copy_32 rfl 4 rfl ?_
        refine laC_30_1 E dX5_copy_33 ?_
        refine J_astore E (lv' := [(7, .ref (a 33)), (6, .ref (a 37)), (0, .ref (a 0)), (1, .int (nI 3)), (2, .int f), (3, .int (nI 1)), (4, .int o), (5, .int n)]) dX5_copy_34 (by decide) rfl ?_
        refine J_aload E dX5_copy_36 1 rfl ?_
        refine J_si11r E (As := []) (c_X2_isMissing l G (sh a 37) (x 11) ) cl_X5_212 yo_X2_isMissing dX5_copy_38 rfl (Nat.le_of_ble_eq_true rfl) (Nat.le_of_ble_eq_true rfl) rfl (Nat.le_of_ble_eq_true rfl) ⟨Nat.zero_le _, Nat.zero_le _⟩ ?_
        refine J_if_ne E (tgt := 52) dX5_copy_41 (by decide) (fun c_41 => ?_) (fun c_41 => ?_)
        · skip
          have c_41 := bI_1 c_41
          exact absurd c_41 h1
        · skip
          have c_41 := bI_0 c_41
          refine J_aload E dX5_copy_44 0 rfl ?_
          refine J_si9r E (As := []) (c_X2_isMissing l G (sh a 33) (x 9) ) cl_X5_212 yo_X2_isMissing dX5_copy_46 rfl (Nat.le_of_ble_eq_true rfl) (Nat.le_of_ble_eq_true rfl) rfl (Nat.le_of_ble_eq_true rfl) ⟨Nat.zero_le _, Nat.zero_le _⟩ ?_
          refine J_if_eq E (tgt := 58) dX5_copy_49 (by decide) (fun c_49 => ?_) (fun c_49 => ?_)
          · skip
            have c_49 := bI_0 c_49
            refine J_aload E dX5_copy_58 1 rfl ?_
            refine gC37_X5_215 E dX5_copy_60 ?_
            refine J_aload E dX5_copy_63 0 rfl ?_
            refine gC33_X5_215 E dX5_copy_65 ?_
            refine J_icmp_eq E (tgt := 77) dX5_copy_68 (by decide) (fun c_68 => ?_) (fun c_68 => ?_)
            · skip
              refine J_aload E dX5_copy_77 1 rfl ?_
              refine J_iload_n E dX5_copy_79 rfl 4 rfl ?_
              refine J_iload E dX5_copy_80 7 rfl ?_
              refine J_si11r E (As := [.int f, .int n]) (c_X2_hasRun l G (sh a 37) (x 11) f n ) cl_X5_218 yo_X2_hasRun dX5_copy_82 rfl (Nat.le_of_ble_eq_true rfl) (Nat.le_of_ble_eq_true rfl) rfl (Nat.le_of_ble_eq_true rfl) ⟨Nat.zero_le _, Nat.zero_le _⟩ ?_
              refine J_if_eq E (tgt := 100) dX5_copy_85 (by decide) (fun c_85 => ?_) (fun c_85 => ?_)
              · skip
                have c_85 := bI_0 c_85
                refine J_aload_n E dX5_copy_100 rfl 2 rfl ?_
                refine J_iconst E dX5_copy_101 ic_0 ?_
                refine J_cVi0 E (As := [.int 0]) (c_X5_tell l G a x 0 (by omega)) cl_X5_64 yo_X5_tell dX5_copy_102 rfl rfl rfl (Nat.le_of_ble_eq_true rfl) (Nat.le_of_ble_eq_true rfl) rfl (Nat.le_of_ble_eq_true rfl) ⟨Nat.zero_le _, Nat.zero_le _⟩ ?_
                exact ret _ _ _ _ ⟨rfl, _, rfl, by intro g h2 h6; simp [upG, up3, up3R, h2, h6]⟩ rfl dX5_copy_105
              · skip
                have c_85 := bI_1 c_85
                refine J_aload E dX5_copy_88 0 rfl ?_
                refine J_iload E dX5_copy_90 6 rfl ?_
                refine J_iload E dX5_copy_92 7 rfl ?_
                refine J_si9r E (As := [.int o, .int n]) (c_X2_hasRun l G (sh a 33) (x 9) o n ) cl_X5_218 yo_X2_hasRun dX5_copy_94 rfl (Nat.le_of_ble_eq_true rfl) (Nat.le_of_ble_eq_true rfl) rfl (Nat.le_of_ble_eq_true rfl) ⟨Nat.zero_le _, Nat.zero_le _⟩ ?_
                refine J_if_ne E (tgt := 106) dX5_copy_97 (by decide) (fun c_97 => ?_) (fun c_97 => ?_)
                · skip
                  have c_97 := bI_1 c_97
                  exact absurd ⟨c_85, c_97⟩ hb
                · skip
                  have c_97 := bI_0 c_97
                  refine J_aload_n E dX5_copy_100 rfl 2 rfl ?_
                  refine J_iconst E dX5_copy_101 ic_0 ?_
                  refine J_cVi0 E (As := [.int 0]) (c_X5_tell l G a x 0 (by omega)) cl_X5_64 yo_X5_tell dX5_copy_102 rfl rfl rfl (Nat.le_of_ble_eq_true rfl) (Nat.le_of_ble_eq_true rfl) rfl (Nat.le_of_ble_eq_true rfl) ⟨Nat.zero_le _, Nat.zero_le _⟩ ?_
                  exact ret _ _ _ _ ⟨rfl, _, rfl, by intro g h2 h6; simp [upG, up3, up3R, h2, h6]⟩ rfl dX5_copy_105
            · skip
              exact absurd h3 c_68
          · skip
            have c_49 := bI_1 c_49
            exact absurd c_49 h2
      · skip
        have c_11 := bI_0 c_11
        exact absurd (in3 (by decide)) c_11
  · skip
    refine J_iload_n E dX5_copy_0 rfl 1 rfl ?_
    refine J_cSiN E (As := [.int (nI 3)]) (c_X5_isSheet l G (nI 3) ) cl_X5_202 yo_X5_isSheet dX5_copy_1 rfl (Nat.le_of_ble_eq_true rfl) (Nat.le_of_ble_eq_true rfl) rfl (Nat.le_of_ble_eq_true rfl) ⟨Nat.zero_le _, Nat.zero_le _⟩ ?_
    refine J_if_eq E (tgt := 14) dX5_copy_4 (by decide) (fun c_4 => ?_) (fun c_4 => ?_)
    · skip
      have c_4 := bI_0 c_4
      exact absurd (in3 (by decide)) c_4
    · skip
      have c_4 := bI_1 c_4
      refine J_iload_n E dX5_copy_7 rfl 3 rfl ?_
      refine J_cSiN E (As := [.int (nI 2)]) (c_X5_isSheet l G (nI 2) ) cl_X5_202 yo_X5_isSheet dX5_copy_8 rfl (Nat.le_of_ble_eq_true rfl) (Nat.le_of_ble_eq_true rfl) rfl (Nat.le_of_ble_eq_true rfl) ⟨Nat.zero_le _, Nat.zero_le _⟩ ?_
      refine J_if_ne E (tgt := 20) dX5_copy_11 (by decide) (fun c_11 => ?_) (fun c_11 => ?_)
      · skip
        have c_11 := bI_1 c_11
        refine J_aload_n E dX5_copy_20 rfl 0 rfl ?_
        refine gC0_X5_44 E dX5_copy_21 ?_
        refine J_iload_n E dX5_copy_24 rfl 1 rfl ?_
        refine laC_30_3 E dX5_copy_25 ?_
        refine J_astore E (lv' := [(6, .ref (a 37)), (0, .ref (a 0)), (1, .int (nI 3)), (2, .int f), (3, .int (nI 2)), (4, .int o), (5, .int n)]) dX5_copy_26 (by decide) rfl ?_
        refine J_aload_n E dX5_copy_28 rfl 1 rfl ?_
        refine gC0_X5_44 E dX5_copy_29 ?_
        refine J_iload_n E dX5_copy_32 rfl 4 rfl ?_
        refine laC_30_2 E dX5_copy_33 ?_
        refine J_astore E (lv' := [(7, .ref (a 35)), (6, .ref (a 37)), (0, .ref (a 0)), (1, .int (nI 3)), (2, .int f), (3, .int (nI 2)), (4, .int o), (5, .int n)]) dX5_copy_34 (by decide) rfl ?_
        refine J_aload E dX5_copy_36 1 rfl ?_
        refine J_si11r E (As := []) (c_X2_isMissing l G (sh a 37) (x 11) ) cl_X5_212 yo_X2_isMissing dX5_copy_38 rfl (Nat.le_of_ble_eq_true rfl) (Nat.le_of_ble_eq_true rfl) rfl (Nat.le_of_ble_eq_true rfl) ⟨Nat.zero_le _, Nat.zero_le _⟩ ?_
        refine J_if_ne E (tgt := 52) dX5_copy_41 (by decide) (fun c_41 => ?_) (fun c_41 => ?_)
        · skip
          have c_41 := bI_1 c_41
          exact absurd c_41 h1
        · skip
          have c_41 := bI_0 c_41
          refine J_aload E dX5_copy_44 0 rfl ?_
          refine J_si10r E (As := []) (c_X2_isMissing l G (sh a 35) (x 10) ) cl_X5_212 yo_X2_isMissing dX5_copy_46 rfl (Nat.le_of_ble_eq_true rfl) (Nat.le_of_ble_eq_true rfl) rfl (Nat.le_of_ble_eq_true rfl) ⟨Nat.zero_le _, Nat.zero_le _⟩ ?_
          refine J_if_eq E (tgt := 58) dX5_copy_49 (by decide) (fun c_49 => ?_) (fun c_49 => ?_)
          · skip
            have c_49 := bI_0 c_49
            refine J_aload E dX5_copy_58 1 rfl ?_
            refine gC37_X5_215 E dX5_copy_60 ?_
            refine J_aload E dX5_copy_63 0 rfl ?_
            refine gC35_X5_215 E dX5_copy_65 ?_
            refine J_icmp_eq E (tgt := 77) dX5_copy_68 (by decide) (fun c_68 => ?_) (fun c_68 => ?_)
            · skip
              refine J_aload E dX5_copy_77 1 rfl ?_
              refine J_iload_n E dX5_copy_79 rfl 4 rfl ?_
              refine J_iload E dX5_copy_80 7 rfl ?_
              refine J_si11r E (As := [.int f, .int n]) (c_X2_hasRun l G (sh a 37) (x 11) f n ) cl_X5_218 yo_X2_hasRun dX5_copy_82 rfl (Nat.le_of_ble_eq_true rfl) (Nat.le_of_ble_eq_true rfl) rfl (Nat.le_of_ble_eq_true rfl) ⟨Nat.zero_le _, Nat.zero_le _⟩ ?_
              refine J_if_eq E (tgt := 100) dX5_copy_85 (by decide) (fun c_85 => ?_) (fun c_85 => ?_)
              · skip
                have c_85 := bI_0 c_85
                refine J_aload_n E dX5_copy_100 rfl 2 rfl ?_
                refine J_iconst E dX5_copy_101 ic_0 ?_
                refine J_cVi0 E (As := [.int 0]) (c_X5_tell l G a x 0 (by omega)) cl_X5_64 yo_X5_tell dX5_copy_102 rfl rfl rfl (Nat.le_of_ble_eq_true rfl) (Nat.le_of_ble_eq_true rfl) rfl (Nat.le_of_ble_eq_true rfl) ⟨Nat.zero_le _, Nat.zero_le _⟩ ?_
                exact ret _ _ _ _ ⟨rfl, _, rfl, by intro g h2 h6; simp [upG, up3, up3R, h2, h6]⟩ rfl dX5_copy_105
              · skip
                have c_85 := bI_1 c_85
                refine J_aload E dX5_copy_88 0 rfl ?_
                refine J_iload E dX5_copy_90 6 rfl ?_
                refine J_iload E dX5_copy_92 7 rfl ?_
                refine J_si10r E (As := [.int o, .int n]) (c_X2_hasRun l G (sh a 35) (x 10) o n ) cl_X5_218 yo_X2_hasRun dX5_copy_94 rfl (Nat.le_of_ble_eq_true rfl) (Nat.le_of_ble_eq_true rfl) rfl (Nat.le_of_ble_eq_true rfl) ⟨Nat.zero_le _, Nat.zero_le _⟩ ?_
                refine J_if_ne E (tgt := 106) dX5_copy_97 (by decide) (fun c_97 => ?_) (fun c_97 => ?_)
                · skip
                  have c_97 := bI_1 c_97
                  exact absurd ⟨c_85, c_97⟩ hb
                · skip
                  have c_97 := bI_0 c_97
                  refine J_aload_n E dX5_copy_100 rfl 2 rfl ?_
                  refine J_iconst E dX5_copy_101 ic_0 ?_
                  refine J_cVi0 E (As := [.int 0]) (c_X5_tell l G a x 0 (by omega)) cl_X5_64 yo_X5_tell dX5_copy_102 rfl rfl rfl (Nat.le_of_ble_eq_true rfl) (Nat.le_of_ble_eq_true rfl) rfl (Nat.le_of_ble_eq_true rfl) ⟨Nat.zero_le _, Nat.zero_le _⟩ ?_
                  exact ret _ _ _ _ ⟨rfl, _, rfl, by intro g h2 h6; simp [upG, up3, up3R, h2, h6]⟩ rfl dX5_copy_105
            · skip
              exact absurd h3 c_68
          · skip
            have c_49 := bI_1 c_49
            exact absurd c_49 h2
      · skip
        have c_11 := bI_0 c_11
        exact absurd (in3 (by decide)) c_11
  · skip
    refine J_iload_n E dX5_copy_0 rfl 1 rfl ?_
    refine J_cSiN E (As := [.int (nI 3)]) (c_X5_isSheet l G (nI 3) ) cl_X5_202 yo_X5_isSheet dX5_copy_1 rfl (Nat.le_of_ble_eq_true rfl) (Nat.le_of_ble_eq_true rfl) rfl (Nat.le_of_ble_eq_true rfl) ⟨Nat.zero_le _, Nat.zero_le _⟩ ?_
    refine J_if_eq E (tgt := 14) dX5_copy_4 (by decide) (fun c_4 => ?_) (fun c_4 => ?_)
    · skip
      have c_4 := bI_0 c_4
      exact absurd (in3 (by decide)) c_4
    · skip
      have c_4 := bI_1 c_4
      refine J_iload_n E dX5_copy_7 rfl 3 rfl ?_
      refine J_cSiN E (As := [.int (nI 3)]) (c_X5_isSheet l G (nI 3) ) cl_X5_202 yo_X5_isSheet dX5_copy_8 rfl (Nat.le_of_ble_eq_true rfl) (Nat.le_of_ble_eq_true rfl) rfl (Nat.le_of_ble_eq_true rfl) ⟨Nat.zero_le _, Nat.zero_le _⟩ ?_
      refine J_if_ne E (tgt := 20) dX5_copy_11 (by decide) (fun c_11 => ?_) (fun c_11 => ?_)
      · skip
        have c_11 := bI_1 c_11
        refine J_aload_n E dX5_copy_20 rfl 0 rfl ?_
        refine gC0_X5_44 E dX5_copy_21 ?_
        refine J_iload_n E dX5_copy_24 rfl 1 rfl ?_
        refine laC_30_3 E dX5_copy_25 ?_
        refine J_astore E (lv' := [(6, .ref (a 37)), (0, .ref (a 0)), (1, .int (nI 3)), (2, .int f), (3, .int (nI 3)), (4, .int o), (5, .int n)]) dX5_copy_26 (by decide) rfl ?_
        refine J_aload_n E dX5_copy_28 rfl 1 rfl ?_
        refine gC0_X5_44 E dX5_copy_29 ?_
        refine J_iload_n E dX5_copy_32 rfl 4 rfl ?_
        refine laC_30_3 E dX5_copy_33 ?_
        refine J_astore E (lv' := [(7, .ref (a 37)), (6, .ref (a 37)), (0, .ref (a 0)), (1, .int (nI 3)), (2, .int f), (3, .int (nI 3)), (4, .int o), (5, .int n)]) dX5_copy_34 (by decide) rfl ?_
        refine J_aload E dX5_copy_36 1 rfl ?_
        refine J_si11r E (As := []) (c_X2_isMissing l G (sh a 37) (x 11) ) cl_X5_212 yo_X2_isMissing dX5_copy_38 rfl (Nat.le_of_ble_eq_true rfl) (Nat.le_of_ble_eq_true rfl) rfl (Nat.le_of_ble_eq_true rfl) ⟨Nat.zero_le _, Nat.zero_le _⟩ ?_
        refine J_if_ne E (tgt := 52) dX5_copy_41 (by decide) (fun c_41 => ?_) (fun c_41 => ?_)
        · skip
          have c_41 := bI_1 c_41
          exact absurd c_41 h1
        · skip
          have c_41 := bI_0 c_41
          refine J_aload E dX5_copy_44 0 rfl ?_
          refine J_si11r E (As := []) (c_X2_isMissing l G (sh a 37) (x 11) ) cl_X5_212 yo_X2_isMissing dX5_copy_46 rfl (Nat.le_of_ble_eq_true rfl) (Nat.le_of_ble_eq_true rfl) rfl (Nat.le_of_ble_eq_true rfl) ⟨Nat.zero_le _, Nat.zero_le _⟩ ?_
          refine J_if_eq E (tgt := 58) dX5_copy_49 (by decide) (fun c_49 => ?_) (fun c_49 => ?_)
          · skip
            have c_49 := bI_0 c_49
            refine J_aload E dX5_copy_58 1 rfl ?_
            refine gC37_X5_215 E dX5_copy_60 ?_
            refine J_aload E dX5_copy_63 0 rfl ?_
            refine gC37_X5_215 E dX5_copy_65 ?_
            refine J_icmp_eq E (tgt := 77) dX5_copy_68 (by decide) (fun c_68 => ?_) (fun c_68 => ?_)
            · skip
              refine J_aload E dX5_copy_77 1 rfl ?_
              refine J_iload_n E dX5_copy_79 rfl 4 rfl ?_
              refine J_iload E dX5_copy_80 7 rfl ?_
              refine J_si11r E (As := [.int f, .int n]) (c_X2_hasRun l G (sh a 37) (x 11) f n ) cl_X5_218 yo_X2_hasRun dX5_copy_82 rfl (Nat.le_of_ble_eq_true rfl) (Nat.le_of_ble_eq_true rfl) rfl (Nat.le_of_ble_eq_true rfl) ⟨Nat.zero_le _, Nat.zero_le _⟩ ?_
              refine J_if_eq E (tgt := 100) dX5_copy_85 (by decide) (fun c_85 => ?_) (fun c_85 => ?_)
              · skip
                have c_85 := bI_0 c_85
                refine J_aload_n E dX5_copy_100 rfl 2 rfl ?_
                refine J_iconst E dX5_copy_101 ic_0 ?_
                refine J_cVi0 E (As := [.int 0]) (c_X5_tell l G a x 0 (by omega)) cl_X5_64 yo_X5_tell dX5_copy_102 rfl rfl rfl (Nat.le_of_ble_eq_true rfl) (Nat.le_of_ble_eq_true rfl) rfl (Nat.le_of_ble_eq_true rfl) ⟨Nat.zero_le _, Nat.zero_le _⟩ ?_
                exact ret _ _ _ _ ⟨rfl, _, rfl, by intro g h2 h6; simp [upG, up3, up3R, h2, h6]⟩ rfl dX5_copy_105
              · skip
                have c_85 := bI_1 c_85
                refine J_aload E dX5_copy_88 0 rfl ?_
                refine J_iload E dX5_copy_90 6 rfl ?_
                refine J_iload E dX5_copy_92 7 rfl ?_
                refine J_si11r E (As := [.int o, .int n]) (c_X2_hasRun l G (sh a 37) (x 11) o n ) cl_X5_218 yo_X2_hasRun dX5_copy_94 rfl (Nat.le_of_ble_eq_true rfl) (Nat.le_of_ble_eq_true rfl) rfl (Nat.le_of_ble_eq_true rfl) ⟨Nat.zero_le _, Nat.zero_le _⟩ ?_
                refine J_if_ne E (tgt := 106) dX5_copy_97 (by decide) (fun c_97 => ?_) (fun c_97 => ?_)
                · skip
                  have c_97 := bI_1 c_97
                  exact absurd ⟨c_85, c_97⟩ hb
                · skip
                  have c_97 := bI_0 c_97
                  refine J_aload_n E dX5_copy_100 rfl 2 rfl ?_
                  refine J_iconst E dX5_copy_101 ic_0 ?_
                  refine J_cVi0 E (As := [.int 0]) (c_X5_tell l G a x 0 (by omega)) cl_X5_64 yo_X5_tell dX5_copy_102 rfl rfl rfl (Nat.le_of_ble_eq_true rfl) (Nat.le_of_ble_eq_true rfl) rfl (Nat.le_of_ble_eq_true rfl) ⟨Nat.zero_le _, Nat.zero_le _⟩ ?_
                  exact ret _ _ _ _ ⟨rfl, _, rfl, by intro g h2 h6; simp [upG, up3, up3R, h2, h6]⟩ rfl dX5_copy_105
            · skip
              exact absurd h3 c_68
          · skip
            have c_49 := bI_1 c_49
            exact absurd c_49 h2
      · skip
        have c_11 := bI_0 c_11
        exact absurd (in3 (by decide)) c_11

theorem runOK {sz : Int32} {f m n : Nat} (h : sz = nI n) (h2 : f + m ≤ n) (hn : n ≤ 40) : 0 ≤ nI f ∧ 0 ≤ nI m ∧ nI f ≤ sz ∧ nI m ≤ sz - nI f := by
  rw [h, pk_sub (by omega)]
  exact ⟨nI_pos' (by omega), nI_pos' (by omega), nI_le (by omega) (by omega), nI_le (by omega) (by omega)⟩

set_option maxHeartbeats 4000000 in
set_option maxRecDepth 20000 in
theorem c_X5_copy_ok (l : Launch) (G : GB) (a : Nat → Nat) (x : Q3) (i k f o m n1 n2 : Nat) (hi : i < 4) (hk : k < 4) (h1 : ¬ x (8 + i) 1 0 = 0) (h2 : ¬ x (8 + k) 1 0 = 0) (h3 : x (8 + i) 1 0 = x (8 + k) 1 0) (h5 : x (8 + i) 1 1 = nI n1) (h7 : x (8 + k) 1 1 = nI n2) (h4 : f + m ≤ n1) (h6 : o + m ≤ n2) (hn1 : n1 ≤ 40) (hn2 : n2 ≤ 40) : CI l yX5_copy cX5_copy 8 .int 2 41 G [.ref (a 0), .int (nI i), .int (nI f), .int (nI k), .int (nI o), .int (nI m)] (wC G a x) (fun vR w' => vR = nI m ∧ PubC G a (cpyQ x i f k o m) w') := by
  refine CI.mk (own := RX5) (by decide) rfl (Nat.le_of_ble_eq_true rfl) ?_
  intro X E ret
  show J X G 8 0 0 (wC G a x) [(0, .ref (a 0)), (1, .int (nI i)), (2, .int (nI f)), (3, .int (nI k)), (4, .int (nI o)), (5, .int (nI m))] 0 []
  rcases (show (i = 0 ∧ k = 0) ∨ (i = 0 ∧ k = 1) ∨ (i = 0 ∧ k = 2) ∨ (i = 0 ∧ k = 3) ∨ (i = 1 ∧ k = 0) ∨ (i = 1 ∧ k = 1) ∨ (i = 1 ∧ k = 2) ∨ (i = 1 ∧ k = 3) ∨ (i = 2 ∧ k = 0) ∨ (i = 2 ∧ k = 1) ∨ (i = 2 ∧ k = 2) ∨ (i = 2 ∧ k = 3) ∨ (i = 3 ∧ k = 0) ∨ (i = 3 ∧ k = 1) ∨ (i = 3 ∧ k = 2) ∨ (i = 3 ∧ k = 3) by omega) with ⟨rfl, rfl⟩ | ⟨rfl, rfl⟩ | ⟨rfl, rfl⟩ | ⟨rfl, rfl⟩ | ⟨rfl, rfl⟩ | ⟨rfl, rfl⟩ | ⟨rfl, rfl⟩ | ⟨rfl, rfl⟩ | ⟨rfl, rfl⟩ | ⟨rfl, rfl⟩ | ⟨rfl, rfl⟩ | ⟨rfl, rfl⟩ | ⟨rfl, rfl⟩ | ⟨rfl, rfl⟩ | ⟨rfl, rfl⟩ | ⟨rfl, rfl⟩
  · skip
    refine J_iload_n E dX5_copy_0 rfl 1 rfl ?_
    refine J_cSiN E (As := [.int (nI 0)]) (c_X5_isSheet l G (nI 0) ) cl_X5_202 yo_X5_isSheet dX5_copy_1 rfl (Nat.le_of_ble_eq_true rfl) (Nat.le_of_ble_eq_true rfl) rfl (Nat.le_of_ble_eq_true rfl) ⟨Nat.zero_le _, Nat.zero_le _⟩ ?_
    refine J_if_eq E (tgt := 14) dX5_copy_4 (by decide) (fun c_4 => ?_) (fun c_4 => ?_)
    · skip
      have c_4 := bI_0 c_4
      exact absurd (in3 (by decide)) c_4
    · skip
      have c_4 := bI_1 c_4
      refine J_iload_n E dX5_copy_7 rfl 3 rfl ?_
      refine J_cSiN E (As := [.int (nI 0)]) (c_X5_isSheet l G (nI 0) ) cl_X5_202 yo_X5_isSheet dX5_copy_8 rfl (Nat.le_of_ble_eq_true rfl) (Nat.le_of_ble_eq_true rfl) rfl (Nat.le_of_ble_eq_true rfl) ⟨Nat.zero_le _, Nat.zero_le _⟩ ?_
      refine J_if_ne E (tgt := 20) dX5_copy_11 (by decide) (fun c_11 => ?_) (fun c_11 => ?_)
      · skip
        have c_11 := bI_1 c_11
        refine J_aload_n E dX5_copy_20 rfl 0 rfl ?_
        refine gC0_X5_44 E dX5_copy_21 ?_
        refine J_iload_n E dX5_copy_24 rfl 1 rfl ?_
        refine laC_30_0 E dX5_copy_25 ?_
        refine J_astore E (lv' := [(6, .ref (a 31)), (0, .ref (a 0)), (1, .int (nI 0)), (2, .int (nI f)), (3, .int (nI 0)), (4, .int (nI o)), (5, .int (nI m))]) dX5_copy_26 (by decide) rfl ?_
        refine J_aload_n E dX5_copy_28 rfl 1 rfl ?_
        refine gC0_X5_44 E dX5_copy_29 ?_
        refine J_iload_n E dX5_copy_32 rfl 4 rfl ?_
        refine laC_30_0 E dX5_copy_33 ?_
        refine J_astore E (lv' := [(7, .ref (a 31)), (6, .ref (a 31)), (0, .ref (a 0)), (1, .int (nI 0)), (2, .int (nI f)), (3, .int (nI 0)), (4, .int (nI o)), (5, .int (nI m))]) dX5_copy_34 (by decide) rfl ?_
        refine J_aload E dX5_copy_36 1 rfl ?_
        refine J_si8r E (As := []) (c_X2_isMissing l G (sh a 31) (x 8) ) cl_X5_212 yo_X2_isMissing dX5_copy_38 rfl (Nat.le_of_ble_eq_true rfl) (Nat.le_of_ble_eq_true rfl) rfl (Nat.le_of_ble_eq_true rfl) ⟨Nat.zero_le _, Nat.zero_le _⟩ ?_
        refine J_if_ne E (tgt := 52) dX5_copy_41 (by decide) (fun c_41 => ?_) (fun c_41 => ?_)
        · skip
          have c_41 := bI_1 c_41
          exact absurd c_41 h1
        · skip
          have c_41 := bI_0 c_41
          refine J_aload E dX5_copy_44 0 rfl ?_
          refine J_si8r E (As := []) (c_X2_isMissing l G (sh a 31) (x 8) ) cl_X5_212 yo_X2_isMissing dX5_copy_46 rfl (Nat.le_of_ble_eq_true rfl) (Nat.le_of_ble_eq_true rfl) rfl (Nat.le_of_ble_eq_true rfl) ⟨Nat.zero_le _, Nat.zero_le _⟩ ?_
          refine J_if_eq E (tgt := 58) dX5_copy_49 (by decide) (fun c_49 => ?_) (fun c_49 => ?_)
          · skip
            have c_49 := bI_0 c_49
            refine J_aload E dX5_copy_58 1 rfl ?_
            refine gC31_X5_215 E dX5_copy_60 ?_
            refine J_aload E dX5_copy_63 0 rfl ?_
            refine gC31_X5_215 E dX5_copy_65 ?_
            refine J_icmp_eq E (tgt := 77) dX5_copy_68 (by decide) (fun c_68 => ?_) (fun c_68 => ?_)
            · skip
              refine J_aload E dX5_copy_77 1 rfl ?_
              refine J_iload_n E dX5_copy_79 rfl 4 rfl ?_
              refine J_iload E dX5_copy_80 7 rfl ?_
              refine J_si8r E (As := [.int (nI f), .int (nI m)]) (c_X2_hasRun l G (sh a 31) (x 8) (nI f) (nI m) ) cl_X5_218 yo_X2_hasRun dX5_copy_82 rfl (Nat.le_of_ble_eq_true rfl) (Nat.le_of_ble_eq_true rfl) rfl (Nat.le_of_ble_eq_true rfl) ⟨Nat.zero_le _, Nat.zero_le _⟩ ?_
              refine J_if_eq E (tgt := 100) dX5_copy_85 (by decide) (fun c_85 => ?_) (fun c_85 => ?_)
              · skip
                have c_85 := bI_0 c_85
                exact absurd (runOK h5 h4 (by omega)) c_85
              · skip
                have c_85 := bI_1 c_85
                refine J_aload E dX5_copy_88 0 rfl ?_
                refine J_iload E dX5_copy_90 6 rfl ?_
                refine J_iload E dX5_copy_92 7 rfl ?_
                refine J_si8r E (As := [.int (nI o), .int (nI m)]) (c_X2_hasRun l G (sh a 31) (x 8) (nI o) (nI m) ) cl_X5_218 yo_X2_hasRun dX5_copy_94 rfl (Nat.le_of_ble_eq_true rfl) (Nat.le_of_ble_eq_true rfl) rfl (Nat.le_of_ble_eq_true rfl) ⟨Nat.zero_le _, Nat.zero_le _⟩ ?_
                refine J_if_ne E (tgt := 106) dX5_copy_97 (by decide) (fun c_97 => ?_) (fun c_97 => ?_)
                · skip
                  have c_97 := bI_1 c_97
                  refine J_aload E dX5_copy_106 1 rfl ?_
                  refine gC31_X5_221 E dX5_copy_108 ?_
                  refine J_iload_n E dX5_copy_111 rfl 4 rfl ?_
                  refine J_aload E dX5_copy_112 0 rfl ?_
                  refine gC31_X5_221 E dX5_copy_114 ?_
                  refine J_iload E dX5_copy_117 6 rfl ?_
                  refine J_iload E dX5_copy_119 7 rfl ?_
                  refine J_copyi E 32 32 ml_X5_133 na_acopy st_acopy ini_J10 dX5_copy_121 rfl rfl (nI_pos (by omega)) (nI_pos (by omega)) (nI_pos (by omega)) (by rw [nI_clamp (by omega), nI_clamp (by omega)]; omega) (by rw [nI_clamp (by omega), nI_clamp (by omega)]; omega) (by decide) (Nat.le_of_ble_eq_true rfl) ?_
                  refine J_w (ws' := wC G a (up3R x 8 0 (va_cpy (x 8 0) (x 8 0) f o m))) (by rw [nI_clamp (n := f) (by omega), nI_clamp (n := o) (by omega), nI_clamp (n := m) (by omega)]; rfl) ?_
                  refine J_iload E dX5_copy_124 7 rfl ?_
                  exact ret _ _ _ _ ⟨rfl, _, rfl, ShC.rfl'⟩ rfl dX5_copy_126
                · skip
                  have c_97 := bI_0 c_97
                  exact absurd (runOK h7 h6 (by omega)) c_97
            · skip
              exact absurd h3 c_68
          · skip
            have c_49 := bI_1 c_49
            exact absurd c_49 h2
      · skip
        have c_11 := bI_0 c_11
        exact absurd (in3 (by decide)) c_11
  · skip
    refine J_iload_n E dX5_copy_0 rfl 1 rfl ?_
    refine J_cSiN E (As := [.int (nI 0)]) (c_X5_isSheet l G (nI 0) ) cl_X5_202 yo_X5_isSheet dX5_copy_1 rfl (Nat.le_of_ble_eq_true rfl) (Nat.le_of_ble_eq_true rfl) rfl (Nat.le_of_ble_eq_true rfl) ⟨Nat.zero_le _, Nat.zero_le _⟩ ?_
    refine J_if_eq E (tgt := 14) dX5_copy_4 (by decide) (fun c_4 => ?_) (fun c_4 => ?_)
    · skip
      have c_4 := bI_0 c_4
      exact absurd (in3 (by decide)) c_4
    · skip
      have c_4 := bI_1 c_4
      refine J_iload_n E dX5_copy_7 rfl 3 rfl ?_
      refine J_cSiN E (As := [.int (nI 1)]) (c_X5_isSheet l G (nI 1) ) cl_X5_202 yo_X5_isSheet dX5_copy_8 rfl (Nat.le_of_ble_eq_true rfl) (Nat.le_of_ble_eq_true rfl) rfl (Nat.le_of_ble_eq_true rfl) ⟨Nat.zero_le _, Nat.zero_le _⟩ ?_
      refine J_if_ne E (tgt := 20) dX5_copy_11 (by decide) (fun c_11 => ?_) (fun c_11 => ?_)
      · skip
        have c_11 := bI_1 c_11
        refine J_aload_n E dX5_copy_20 rfl 0 rfl ?_
        refine gC0_X5_44 E dX5_copy_21 ?_
        refine J_iload_n E dX5_copy_24 rfl 1 rfl ?_
        refine laC_30_0 E dX5_copy_25 ?_
        refine J_astore E (lv' := [(6, .ref (a 31)), (0, .ref (a 0)), (1, .int (nI 0)), (2, .int (nI f)), (3, .int (nI 1)), (4, .int (nI o)), (5, .int (nI m))]) dX5_copy_26 (by decide) rfl ?_
        refine J_aload_n E dX5_copy_28 rfl 1 rfl ?_
        refine gC0_X5_44 E dX5_copy_29 ?_
        refine J_iload_n E dX5_copy_32 rfl 4 rfl ?_
        refine laC_30_1 E dX5_copy_33 ?_
        refine J_astore E (lv' := [(7, .ref (a 33)), (6, .ref (a 31)), (0, .ref (a 0)), (1, .int (nI 0)), (2, .int (nI f)), (3, .int (nI 1)), (4, .int (nI o)), (5, .int (nI m))]) dX5_copy_34 (by decide) rfl ?_
        refine J_aload E dX5_copy_36 1 rfl ?_
        refine J_si8r E (As := []) (c_X2_isMissing l G (sh a 31) (x 8) ) cl_X5_212 yo_X2_isMissing dX5_copy_38 rfl (Nat.le_of_ble_eq_true rfl) (Nat.le_of_ble_eq_true rfl) rfl (Nat.le_of_ble_eq_true rfl) ⟨Nat.zero_le _, Nat.zero_le _⟩ ?_
        refine J_if_ne E (tgt := 52) dX5_copy_41 (by decide) (fun c_41 => ?_) (fun c_41 => ?_)
        · skip
          have c_41 := bI_1 c_41
          exact absurd c_41 h1
        · skip
          have c_41 := bI_0 c_41
          refine J_aload E dX5_copy_44 0 rfl ?_
          refine J_si9r E (As := []) (c_X2_isMissing l G (sh a 33) (x 9) ) cl_X5_212 yo_X2_isMissing dX5_copy_46 rfl (Nat.le_of_ble_eq_true rfl) (Nat.le_of_ble_eq_true rfl) rfl (Nat.le_of_ble_eq_true rfl) ⟨Nat.zero_le _, Nat.zero_le _⟩ ?_
          refine J_if_eq E (tgt := 58) dX5_copy_49 (by decide) (fun c_49 => ?_) (fun c_49 => ?_)
          · skip
            have c_49 := bI_0 c_49
            refine J_aload E dX5_copy_58 1 rfl ?_
            refine gC31_X5_215 E dX5_copy_60 ?_
            refine J_aload E dX5_copy_63 0 rfl ?_
            refine gC33_X5_215 E dX5_copy_65 ?_
            refine J_icmp_eq E (tgt := 77) dX5_copy_68 (by decide) (fun c_68 => ?_) (fun c_68 => ?_)
            · skip
              refine J_aload E dX5_copy_77 1 rfl ?_
              refine J_iload_n E dX5_copy_79 rfl 4 rfl ?_
              refine J_iload E dX5_copy_80 7 rfl ?_
              refine J_si8r E (As := [.int (nI f), .int (nI m)]) (c_X2_hasRun l G (sh a 31) (x 8) (nI f) (nI m) ) cl_X5_218 yo_X2_hasRun dX5_copy_82 rfl (Nat.le_of_ble_eq_true rfl) (Nat.le_of_ble_eq_true rfl) rfl (Nat.le_of_ble_eq_true rfl) ⟨Nat.zero_le _, Nat.zero_le _⟩ ?_
              refine J_if_eq E (tgt := 100) dX5_copy_85 (by decide) (fun c_85 => ?_) (fun c_85 => ?_)
              · skip
                have c_85 := bI_0 c_85
                exact absurd (runOK h5 h4 (by omega)) c_85
              · skip
                have c_85 := bI_1 c_85
                refine J_aload E dX5_copy_88 0 rfl ?_
                refine J_iload E dX5_copy_90 6 rfl ?_
                refine J_iload E dX5_copy_92 7 rfl ?_
                refine J_si9r E (As := [.int (nI o), .int (nI m)]) (c_X2_hasRun l G (sh a 33) (x 9) (nI o) (nI m) ) cl_X5_218 yo_X2_hasRun dX5_copy_94 rfl (Nat.le_of_ble_eq_true rfl) (Nat.le_of_ble_eq_true rfl) rfl (Nat.le_of_ble_eq_true rfl) ⟨Nat.zero_le _, Nat.zero_le _⟩ ?_
                refine J_if_ne E (tgt := 106) dX5_copy_97 (by decide) (fun c_97 => ?_) (fun c_97 => ?_)
                · skip
                  have c_97 := bI_1 c_97
                  refine J_aload E dX5_copy_106 1 rfl ?_
                  refine gC31_X5_221 E dX5_copy_108 ?_
                  refine J_iload_n E dX5_copy_111 rfl 4 rfl ?_
                  refine J_aload E dX5_copy_112 0 rfl ?_
                  refine gC33_X5_221 E dX5_copy_114 ?_
                  refine J_iload E dX5_copy_117 6 rfl ?_
                  refine J_iload E dX5_copy_119 7 rfl ?_
                  refine J_copyi E 32 34 ml_X5_133 na_acopy st_acopy ini_J10 dX5_copy_121 rfl rfl (nI_pos (by omega)) (nI_pos (by omega)) (nI_pos (by omega)) (by rw [nI_clamp (by omega), nI_clamp (by omega)]; omega) (by rw [nI_clamp (by omega), nI_clamp (by omega)]; omega) (by decide) (Nat.le_of_ble_eq_true rfl) ?_
                  refine J_w (ws' := wC G a (up3R x 9 0 (va_cpy (x 8 0) (x 9 0) f o m))) (by rw [nI_clamp (n := f) (by omega), nI_clamp (n := o) (by omega), nI_clamp (n := m) (by omega)]; rfl) ?_
                  refine J_iload E dX5_copy_124 7 rfl ?_
                  exact ret _ _ _ _ ⟨rfl, _, rfl, ShC.rfl'⟩ rfl dX5_copy_126
                · skip
                  have c_97 := bI_0 c_97
                  exact absurd (runOK h7 h6 (by omega)) c_97
            · skip
              exact absurd h3 c_68
          · skip
            have c_49 := bI_1 c_49
            exact absurd c_49 h2
      · skip
        have c_11 := bI_0 c_11
        exact absurd (in3 (by decide)) c_11
  · skip
    refine J_iload_n E dX5_copy_0 rfl 1 rfl ?_
    refine J_cSiN E (As := [.int (nI 0)]) (c_X5_isSheet l G (nI 0) ) cl_X5_202 yo_X5_isSheet dX5_copy_1 rfl (Nat.le_of_ble_eq_true rfl) (Nat.le_of_ble_eq_true rfl) rfl (Nat.le_of_ble_eq_true rfl) ⟨Nat.zero_le _, Nat.zero_le _⟩ ?_
    refine J_if_eq E (tgt := 14) dX5_copy_4 (by decide) (fun c_4 => ?_) (fun c_4 => ?_)
    · skip
      have c_4 := bI_0 c_4
      exact absurd (in3 (by decide)) c_4
    · skip
      have c_4 := bI_1 c_4
      refine J_iload_n E dX5_copy_7 rfl 3 rfl ?_
      refine J_cSiN E (As := [.int (nI 2)]) (c_X5_isSheet l G (nI 2) ) cl_X5_202 yo_X5_isSheet dX5_copy_8 rfl (Nat.le_of_ble_eq_true rfl) (Nat.le_of_ble_eq_true rfl) rfl (Nat.le_of_ble_eq_true rfl) ⟨Nat.zero_le _, Nat.zero_le _⟩ ?_
      refine J_if_ne E (tgt := 20) dX5_copy_11 (by decide) (fun c_11 => ?_) (fun c_11 => ?_)
      · skip
        have c_11 := bI_1 c_11
        refine J_aload_n E dX5_copy_20 rfl 0 rfl ?_
        refine gC0_X5_44 E dX5_copy_21 ?_
        refine J_iload_n E dX5_copy_24 rfl 1 rfl ?_
        refine laC_30_0 E dX5_copy_25 ?_
        refine J_astore E (lv' := [(6, .ref (a 31)), (0, .ref (a 0)), (1, .int (nI 0)), (2, .int (nI f)), (3, .int (nI 2)), (4, .int (nI o)), (5, .int (nI m))]) dX5_copy_26 (by decide) rfl ?_
        refine J_aload_n E dX5_copy_28 rfl 1 rfl ?_
        refine gC0_X5_44 E dX5_copy_29 ?_
        refine J_iload_n E dX5_copy_32 rfl 4 rfl ?_
        refine laC_30_2 E dX5_copy_33 ?_
        refine J_astore E (lv' := [(7, .ref (a 35)), (6, .ref (a 31)), (0, .ref (a 0)), (1, .int (nI 0)), (2, .int (nI f)), (3, .int (nI 2)), (4, .int (nI o)), (5, .int (nI m))]) dX5_copy_34 (by decide) rfl ?_
        refine J_aload E dX5_copy_36 1 rfl ?_
        refine J_si8r E (As := []) (c_X2_isMissing l G (sh a 31) (x 8) ) cl_X5_212 yo_X2_isMissing dX5_copy_38 rfl (Nat.le_of_ble_eq_true rfl) (Nat.le_of_ble_eq_true rfl) rfl (Nat.le_of_ble_eq_true rfl) ⟨Nat.zero_le _, Nat.zero_le _⟩ ?_
        refine J_if_ne E (tgt := 52) dX5_copy_41 (by decide) (fun c_41 => ?_) (fun c_41 => ?_)
        · skip
          have c_41 := bI_1 c_41
          exact absurd c_41 h1
        · skip
          have c_41 := bI_0 c_41
          refine J_aload E dX5_copy_44 0 rfl ?_
          refine J_si10r E (As := []) (c_X2_isMissing l G (sh a 35) (x 10) ) cl_X5_212 yo_X2_isMissing dX5_copy_46 rfl (Nat.le_of_ble_eq_true rfl) (Nat.le_of_ble_eq_true rfl) rfl (Nat.le_of_ble_eq_true rfl) ⟨Nat.zero_le _, Nat.zero_le _⟩ ?_
          refine J_if_eq E (tgt := 58) dX5_copy_49 (by decide) (fun c_49 => ?_) (fun c_49 => ?_)
          · skip
            have c_49 := bI_0 c_49
            refine J_aload E dX5_copy_58 1 rfl ?_
            refine gC31_X5_215 E dX5_copy_60 ?_
            refine J_aload E dX5_copy_63 0 rfl ?_
            refine gC35_X5_215 E dX5_copy_65 ?_
            refine J_icmp_eq E (tgt := 77) dX5_copy_68 (by decide) (fun c_68 => ?_) (fun c_68 => ?_)
            · skip
              refine J_aload E dX5_copy_77 1 rfl ?_
              refine J_iload_n E dX5_copy_79 rfl 4 rfl ?_
              refine J_iload E dX5_copy_80 7 rfl ?_
              refine J_si8r E (As := [.int (nI f), .int (nI m)]) (c_X2_hasRun l G (sh a 31) (x 8) (nI f) (nI m) ) cl_X5_218 yo_X2_hasRun dX5_copy_82 rfl (Nat.le_of_ble_eq_true rfl) (Nat.le_of_ble_eq_true rfl) rfl (Nat.le_of_ble_eq_true rfl) ⟨Nat.zero_le _, Nat.zero_le _⟩ ?_
              refine J_if_eq E (tgt := 100) dX5_copy_85 (by decide) (fun c_85 => ?_) (fun c_85 => ?_)
              · skip
                have c_85 := bI_0 c_85
                exact absurd (runOK h5 h4 (by omega)) c_85
              · skip
                have c_85 := bI_1 c_85
                refine J_aload E dX5_copy_88 0 rfl ?_
                refine J_iload E dX5_copy_90 6 rfl ?_
                refine J_iload E dX5_copy_92 7 rfl ?_
                refine J_si10r E (As := [.int (nI o), .int (nI m)]) (c_X2_hasRun l G (sh a 35) (x 10) (nI o) (nI m) ) cl_X5_218 yo_X2_hasRun dX5_copy_94 rfl (Nat.le_of_ble_eq_true rfl) (Nat.le_of_ble_eq_true rfl) rfl (Nat.le_of_ble_eq_true rfl) ⟨Nat.zero_le _, Nat.zero_le _⟩ ?_
                refine J_if_ne E (tgt := 106) dX5_copy_97 (by decide) (fun c_97 => ?_) (fun c_97 => ?_)
                · skip
                  have c_97 := bI_1 c_97
                  refine J_aload E dX5_copy_106 1 rfl ?_
                  refine gC31_X5_221 E dX5_copy_108 ?_
                  refine J_iload_n E dX5_copy_111 rfl 4 rfl ?_
                  refine J_aload E dX5_copy_112 0 rfl ?_
                  refine gC35_X5_221 E dX5_copy_114 ?_
                  refine J_iload E dX5_copy_117 6 rfl ?_
                  refine J_iload E dX5_copy_119 7 rfl ?_
                  refine J_copyi E 32 36 ml_X5_133 na_acopy st_acopy ini_J10 dX5_copy_121 rfl rfl (nI_pos (by omega)) (nI_pos (by omega)) (nI_pos (by omega)) (by rw [nI_clamp (by omega), nI_clamp (by omega)]; omega) (by rw [nI_clamp (by omega), nI_clamp (by omega)]; omega) (by decide) (Nat.le_of_ble_eq_true rfl) ?_
                  refine J_w (ws' := wC G a (up3R x 10 0 (va_cpy (x 8 0) (x 10 0) f o m))) (by rw [nI_clamp (n := f) (by omega), nI_clamp (n := o) (by omega), nI_clamp (n := m) (by omega)]; rfl) ?_
                  refine J_iload E dX5_copy_124 7 rfl ?_
                  exact ret _ _ _ _ ⟨rfl, _, rfl, ShC.rfl'⟩ rfl dX5_copy_126
                · skip
                  have c_97 := bI_0 c_97
                  exact absurd (runOK h7 h6 (by omega)) c_97
            · skip
              exact absurd h3 c_68
          · skip
            have c_49 := bI_1 c_49
            exact absurd c_49 h2
      · skip
        have c_11 := bI_0 c_11
        exact absurd (in3 (by decide)) c_11
  · skip
    refine J_iload_n E dX5_copy_0 rfl 1 rfl ?_
    refine J_cSiN E (As := [.int (nI 0)]) (c_X5_isSheet l G (nI 0) ) cl_X5_202 yo_X5_isSheet dX5_copy_1 rfl (Nat.le_of_ble_eq_true rfl) (Nat.le_of_ble_eq_true rfl) rfl (Nat.le_of_ble_eq_true rfl) ⟨Nat.zero_le _, Nat.zero_le _⟩ ?_
    refine J_if_eq E (tgt := 14) dX5_copy_4 (by decide) (fun c_4 => ?_) (fun c_4 => ?_)
    · skip
      have c_4 := bI_0 c_4
      exact absurd (in3 (by decide)) c_4
    · skip
      have c_4 := bI_1 c_4
      refine J_iload_n E dX5_copy_7 rfl 3 rfl ?_
      refine J_cSiN E (As := [.int (nI 3)]) (c_X5_isSheet l G (nI 3) ) cl_X5_202 yo_X5_isSheet dX5_copy_8 rfl (Nat.le_of_ble_eq_true rfl) (Nat.le_of_ble_eq_true rfl) rfl (Nat.le_of_ble_eq_true rfl) ⟨Nat.zero_le _, Nat.zero_le _⟩ ?_
      refine J_if_ne E (tgt := 20) dX5_copy_11 (by decide) (fun c_11 => ?_) (fun c_11 => ?_)
      · skip
        have c_11 := bI_1 c_11
        refine J_aload_n E dX5_copy_20 rfl 0 rfl ?_
        refine gC0_X5_44 E dX5_copy_21 ?_
        refine J_iload_n E dX5_copy_24 rfl 1 rfl ?_
        refine laC_30_0 E dX5_copy_25 ?_
        refine J_astore E (lv' := [(6, .ref (a 31)), (0, .ref (a 0)), (1, .int (nI 0)), (2, .int (nI f)), (3, .int (nI 3)), (4, .int (nI o)), (5, .int (nI m))]) dX5_copy_26 (by decide) rfl ?_
        refine J_aload_n E dX5_copy_28 rfl 1 rfl ?_
        refine gC0_X5_44 E dX5_copy_29 ?_
        refine J_iload_n E dX5_copy_32 rfl 4 rfl ?_
        refine laC_30_3 E dX5_copy_33 ?_
        refine J_astore E (lv' := [(7, .ref (a 37)), (6, .ref (a 31)), (0, .ref (a 0)), (1, .int (nI 0)), (2, .int (nI f)), (3, .int (nI 3)), (4, .int (nI o)), (5, .int (nI m))]) dX5_copy_34 (by decide) rfl ?_
        refine J_aload E dX5_copy_36 1 rfl ?_
        refine J_si8r E (As := []) (c_X2_isMissing l G (sh a 31) (x 8) ) cl_X5_212 yo_X2_isMissing dX5_copy_38 rfl (Nat.le_of_ble_eq_true rfl) (Nat.le_of_ble_eq_true rfl) rfl (Nat.le_of_ble_eq_true rfl) ⟨Nat.zero_le _, Nat.zero_le _⟩ ?_
        refine J_if_ne E (tgt := 52) dX5_copy_41 (by decide) (fun c_41 => ?_) (fun c_41 => ?_)
        · skip
          have c_41 := bI_1 c_41
          exact absurd c_41 h1
        · skip
          have c_41 := bI_0 c_41
          refine J_aload E dX5_copy_44 0 rfl ?_
          refine J_si11r E (As := []) (c_X2_isMissing l G (sh a 37) (x 11) ) cl_X5_212 yo_X2_isMissing dX5_copy_46 rfl (Nat.le_of_ble_eq_true rfl) (Nat.le_of_ble_eq_true rfl) rfl (Nat.le_of_ble_eq_true rfl) ⟨Nat.zero_le _, Nat.zero_le _⟩ ?_
          refine J_if_eq E (tgt := 58) dX5_copy_49 (by decide) (fun c_49 => ?_) (fun c_49 => ?_)
          · skip
            have c_49 := bI_0 c_49
            refine J_aload E dX5_copy_58 1 rfl ?_
            refine gC31_X5_215 E dX5_copy_60 ?_
            refine J_aload E dX5_copy_63 0 rfl ?_
            refine gC37_X5_215 E dX5_copy_65 ?_
            refine J_icmp_eq E (tgt := 77) dX5_copy_68 (by decide) (fun c_68 => ?_) (fun c_68 => ?_)
            · skip
              refine J_aload E dX5_copy_77 1 rfl ?_
              refine J_iload_n E dX5_copy_79 rfl 4 rfl ?_
              refine J_iload E dX5_copy_80 7 rfl ?_
              refine J_si8r E (As := [.int (nI f), .int (nI m)]) (c_X2_hasRun l G (sh a 31) (x 8) (nI f) (nI m) ) cl_X5_218 yo_X2_hasRun dX5_copy_82 rfl (Nat.le_of_ble_eq_true rfl) (Nat.le_of_ble_eq_true rfl) rfl (Nat.le_of_ble_eq_true rfl) ⟨Nat.zero_le _, Nat.zero_le _⟩ ?_
              refine J_if_eq E (tgt := 100) dX5_copy_85 (by decide) (fun c_85 => ?_) (fun c_85 => ?_)
              · skip
                have c_85 := bI_0 c_85
                exact absurd (runOK h5 h4 (by omega)) c_85
              · skip
                have c_85 := bI_1 c_85
                refine J_aload E dX5_copy_88 0 rfl ?_
                refine J_iload E dX5_copy_90 6 rfl ?_
                refine J_iload E dX5_copy_92 7 rfl ?_
                refine J_si11r E (As := [.int (nI o), .int (nI m)]) (c_X2_hasRun l G (sh a 37) (x 11) (nI o) (nI m) ) cl_X5_218 yo_X2_hasRun dX5_copy_94 rfl (Nat.le_of_ble_eq_true rfl) (Nat.le_of_ble_eq_true rfl) rfl (Nat.le_of_ble_eq_true rfl) ⟨Nat.zero_le _, Nat.zero_le _⟩ ?_
                refine J_if_ne E (tgt := 106) dX5_copy_97 (by decide) (fun c_97 => ?_) (fun c_97 => ?_)
                · skip
                  have c_97 := bI_1 c_97
                  refine J_aload E dX5_copy_106 1 rfl ?_
                  refine gC31_X5_221 E dX5_copy_108 ?_
                  refine J_iload_n E dX5_copy_111 rfl 4 rfl ?_
                  refine J_aload E dX5_copy_112 0 rfl ?_
                  refine gC37_X5_221 E dX5_copy_114 ?_
                  refine J_iload E dX5_copy_117 6 rfl ?_
                  refine J_iload E dX5_copy_119 7 rfl ?_
                  refine J_copyi E 32 38 ml_X5_133 na_acopy st_acopy ini_J10 dX5_copy_121 rfl rfl (nI_pos (by omega)) (nI_pos (by omega)) (nI_pos (by omega)) (by rw [nI_clamp (by omega), nI_clamp (by omega)]; omega) (by rw [nI_clamp (by omega), nI_clamp (by omega)]; omega) (by decide) (Nat.le_of_ble_eq_true rfl) ?_
                  refine J_w (ws' := wC G a (up3R x 11 0 (va_cpy (x 8 0) (x 11 0) f o m))) (by rw [nI_clamp (n := f) (by omega), nI_clamp (n := o) (by omega), nI_clamp (n := m) (by omega)]; rfl) ?_
                  refine J_iload E dX5_copy_124 7 rfl ?_
                  exact ret _ _ _ _ ⟨rfl, _, rfl, ShC.rfl'⟩ rfl dX5_copy_126
                · skip
                  have c_97 := bI_0 c_97
                  exact absurd (runOK h7 h6 (by omega)) c_97
            · skip
              exact absurd h3 c_68
          · skip
            have c_49 := bI_1 c_49
            exact absurd c_49 h2
      · skip
        have c_11 := bI_0 c_11
        exact absurd (in3 (by decide)) c_11
  · skip
    refine J_iload_n E dX5_copy_0 rfl 1 rfl ?_
    refine J_cSiN E (As := [.int (nI 1)]) (c_X5_isSheet l G (nI 1) ) cl_X5_202 yo_X5_isSheet dX5_copy_1 rfl (Nat.le_of_ble_eq_true rfl) (Nat.le_of_ble_eq_true rfl) rfl (Nat.le_of_ble_eq_true rfl) ⟨Nat.zero_le _, Nat.zero_le _⟩ ?_
    refine J_if_eq E (tgt := 14) dX5_copy_4 (by decide) (fun c_4 => ?_) (fun c_4 => ?_)
    · skip
      have c_4 := bI_0 c_4
      exact absurd (in3 (by decide)) c_4
    · skip
      have c_4 := bI_1 c_4
      refine J_iload_n E dX5_copy_7 rfl 3 rfl ?_
      refine J_cSiN E (As := [.int (nI 0)]) (c_X5_isSheet l G (nI 0) ) cl_X5_202 yo_X5_isSheet dX5_copy_8 rfl (Nat.le_of_ble_eq_true rfl) (Nat.le_of_ble_eq_true rfl) rfl (Nat.le_of_ble_eq_true rfl) ⟨Nat.zero_le _, Nat.zero_le _⟩ ?_
      refine J_if_ne E (tgt := 20) dX5_copy_11 (by decide) (fun c_11 => ?_) (fun c_11 => ?_)
      · skip
        have c_11 := bI_1 c_11
        refine J_aload_n E dX5_copy_20 rfl 0 rfl ?_
        refine gC0_X5_44 E dX5_copy_21 ?_
        refine J_iload_n E dX5_copy_24 rfl 1 rfl ?_
        refine laC_30_1 E dX5_copy_25 ?_
        refine J_astore E (lv' := [(6, .ref (a 33)), (0, .ref (a 0)), (1, .int (nI 1)), (2, .int (nI f)), (3, .int (nI 0)), (4, .int (nI o)), (5, .int (nI m))]) dX5_copy_26 (by decide) rfl ?_
        refine J_aload_n E dX5_copy_28 rfl 1 rfl ?_
        refine gC0_X5_44 E dX5_copy_29 ?_
        refine J_iload_n E dX5_copy_32 rfl 4 rfl ?_
        refine laC_30_0 E dX5_copy_33 ?_
        refine J_astore E (lv' := [(7, .ref (a 31)), (6, .ref (a 33)), (0, .ref (a 0)), (1, .int (nI 1)), (2, .int (nI f)), (3, .int (nI 0)), (4, .int (nI o)), (5, .int (nI m))]) dX5_copy_34 (by decide) rfl ?_
        refine J_aload E dX5_copy_36 1 rfl ?_
        refine J_si9r E (As := []) (c_X2_isMissing l G (sh a 33) (x 9) ) cl_X5_212 yo_X2_isMissing dX5_copy_38 rfl (Nat.le_of_ble_eq_true rfl) (Nat.le_of_ble_eq_true rfl) rfl (Nat.le_of_ble_eq_true rfl) ⟨Nat.zero_le _, Nat.zero_le _⟩ ?_
        refine J_if_ne E (tgt := 52) dX5_copy_41 (by decide) (fun c_41 => ?_) (fun c_41 => ?_)
        · skip
          have c_41 := bI_1 c_41
          exact absurd c_41 h1
        · skip
          have c_41 := bI_0 c_41
          refine J_aload E dX5_copy_44 0 rfl ?_
          refine J_si8r E (As := []) (c_X2_isMissing l G (sh a 31) (x 8) ) cl_X5_212 yo_X2_isMissing dX5_copy_46 rfl (Nat.le_of_ble_eq_true rfl) (Nat.le_of_ble_eq_true rfl) rfl (Nat.le_of_ble_eq_true rfl) ⟨Nat.zero_le _, Nat.zero_le _⟩ ?_
          refine J_if_eq E (tgt := 58) dX5_copy_49 (by decide) (fun c_49 => ?_) (fun c_49 => ?_)
          · skip
            have c_49 := bI_0 c_49
            refine J_aload E dX5_copy_58 1 rfl ?_
            refine gC33_X5_215 E dX5_copy_60 ?_
            refine J_aload E dX5_copy_63 0 rfl ?_
            refine gC31_X5_215 E dX5_copy_65 ?_
            refine J_icmp_eq E (tgt := 77) dX5_copy_68 (by decide) (fun c_68 => ?_) (fun c_68 => ?_)
            · skip
              refine J_aload E dX5_copy_77 1 rfl ?_
              refine J_iload_n E dX5_copy_79 rfl 4 rfl ?_
              refine J_iload E dX5_copy_80 7 rfl ?_
              refine J_si9r E (As := [.int (nI f), .int (nI m)]) (c_X2_hasRun l G (sh a 33) (x 9) (nI f) (nI m) ) cl_X5_218 yo_X2_hasRun dX5_copy_82 rfl (Nat.le_of_ble_eq_true rfl) (Nat.le_of_ble_eq_true rfl) rfl (Nat.le_of_ble_eq_true rfl) ⟨Nat.zero_le _, Nat.zero_le _⟩ ?_
              refine J_if_eq E (tgt := 100) dX5_copy_85 (by decide) (fun c_85 => ?_) (fun c_85 => ?_)
              · skip
                have c_85 := bI_0 c_85
                exact absurd (runOK h5 h4 (by omega)) c_85
              · skip
                have c_85 := bI_1 c_85
                refine J_aload E dX5_copy_88 0 rfl ?_
                refine J_iload E dX5_copy_90 6 rfl ?_
                refine J_iload E dX5_copy_92 7 rfl ?_
                refine J_si8r E (As := [.int (nI o), .int (nI m)]) (c_X2_hasRun l G (sh a 31) (x 8) (nI o) (nI m) ) cl_X5_218 yo_X2_hasRun dX5_copy_94 rfl (Nat.le_of_ble_eq_true rfl) (Nat.le_of_ble_eq_true rfl) rfl (Nat.le_of_ble_eq_true rfl) ⟨Nat.zero_le _, Nat.zero_le _⟩ ?_
                refine J_if_ne E (tgt := 106) dX5_copy_97 (by decide) (fun c_97 => ?_) (fun c_97 => ?_)
                · skip
                  have c_97 := bI_1 c_97
                  refine J_aload E dX5_copy_106 1 rfl ?_
                  refine gC33_X5_221 E dX5_copy_108 ?_
                  refine J_iload_n E dX5_copy_111 rfl 4 rfl ?_
                  refine J_aload E dX5_copy_112 0 rfl ?_
                  refine gC31_X5_221 E dX5_copy_114 ?_
                  refine J_iload E dX5_copy_117 6 rfl ?_
                  refine J_iload E dX5_copy_119 7 rfl ?_
                  refine J_copyi E 34 32 ml_X5_133 na_acopy st_acopy ini_J10 dX5_copy_121 rfl rfl (nI_pos (by omega)) (nI_pos (by omega)) (nI_pos (by omega)) (by rw [nI_clamp (by omega), nI_clamp (by omega)]; omega) (by rw [nI_clamp (by omega), nI_clamp (by omega)]; omega) (by decide) (Nat.le_of_ble_eq_true rfl) ?_
                  refine J_w (ws' := wC G a (up3R x 8 0 (va_cpy (x 9 0) (x 8 0) f o m))) (by rw [nI_clamp (n := f) (by omega), nI_clamp (n := o) (by omega), nI_clamp (n := m) (by omega)]; rfl) ?_
                  refine J_iload E dX5_copy_124 7 rfl ?_
                  exact ret _ _ _ _ ⟨rfl, _, rfl, ShC.rfl'⟩ rfl dX5_copy_126
                · skip
                  have c_97 := bI_0 c_97
                  exact absurd (runOK h7 h6 (by omega)) c_97
            · skip
              exact absurd h3 c_68
          · skip
            have c_49 := bI_1 c_49
            exact absurd c_49 h2
      · skip
        have c_11 := bI_0 c_11
        exact absurd (in3 (by decide)) c_11
  · skip
    refine J_iload_n E dX5_copy_0 rfl 1 rfl ?_
    refine J_cSiN E (As := [.int (nI 1)]) (c_X5_isSheet l G (nI 1) ) cl_X5_202 yo_X5_isSheet dX5_copy_1 rfl (Nat.le_of_ble_eq_true rfl) (Nat.le_of_ble_eq_true rfl) rfl (Nat.le_of_ble_eq_true rfl) ⟨Nat.zero_le _, Nat.zero_le _⟩ ?_
    refine J_if_eq E (tgt := 14) dX5_copy_4 (by decide) (fun c_4 => ?_) (fun c_4 => ?_)
    · skip
      have c_4 := bI_0 c_4
      exact absurd (in3 (by decide)) c_4
    · skip
      have c_4 := bI_1 c_4
      refine J_iload_n E dX5_copy_7 rfl 3 rfl ?_
      refine J_cSiN E (As := [.int (nI 1)]) (c_X5_isSheet l G (nI 1) ) cl_X5_202 yo_X5_isSheet dX5_copy_8 rfl (Nat.le_of_ble_eq_true rfl) (Nat.le_of_ble_eq_true rfl) rfl (Nat.le_of_ble_eq_true rfl) ⟨Nat.zero_le _, Nat.zero_le _⟩ ?_
      refine J_if_ne E (tgt := 20) dX5_copy_11 (by decide) (fun c_11 => ?_) (fun c_11 => ?_)
      · skip
        have c_11 := bI_1 c_11
        refine J_aload_n E dX5_copy_20 rfl 0 rfl ?_
        refine gC0_X5_44 E dX5_copy_21 ?_
        refine J_iload_n E dX5_copy_24 rfl 1 rfl ?_
        refine laC_30_1 E dX5_copy_25 ?_
        refine J_astore E (lv' := [(6, .ref (a 33)), (0, .ref (a 0)), (1, .int (nI 1)), (2, .int (nI f)), (3, .int (nI 1)), (4, .int (nI o)), (5, .int (nI m))]) dX5_copy_26 (by decide) rfl ?_
        refine J_aload_n E dX5_copy_28 rfl 1 rfl ?_
        refine gC0_X5_44 E dX5_copy_29 ?_
        refine J_iload_n E dX5_copy_32 rfl 4 rfl ?_
        refine laC_30_1 E dX5_copy_33 ?_
        refine J_astore E (lv' := [(7, .ref (a 33)), (6, .ref (a 33)), (0, .ref (a 0)), (1, .int (nI 1)), (2, .int (nI f)), (3, .int (nI 1)), (4, .int (nI o)), (5, .int (nI m))]) dX5_copy_34 (by decide) rfl ?_
        refine J_aload E dX5_copy_36 1 rfl ?_
        refine J_si9r E (As := []) (c_X2_isMissing l G (sh a 33) (x 9) ) cl_X5_212 yo_X2_isMissing dX5_copy_38 rfl (Nat.le_of_ble_eq_true rfl) (Nat.le_of_ble_eq_true rfl) rfl (Nat.le_of_ble_eq_true rfl) ⟨Nat.zero_le _, Nat.zero_le _⟩ ?_
        refine J_if_ne E (tgt := 52) dX5_copy_41 (by decide) (fun c_41 => ?_) (fun c_41 => ?_)
        · skip
          have c_41 := bI_1 c_41
          exact absurd c_41 h1
        · skip
          have c_41 := bI_0 c_41
          refine J_aload E dX5_copy_44 0 rfl ?_
          refine J_si9r E (As := []) (c_X2_isMissing l G (sh a 33) (x 9) ) cl_X5_212 yo_X2_isMissing dX5_copy_46 rfl (Nat.le_of_ble_eq_true rfl) (Nat.le_of_ble_eq_true rfl) rfl (Nat.le_of_ble_eq_true rfl) ⟨Nat.zero_le _, Nat.zero_le _⟩ ?_
          refine J_if_eq E (tgt := 58) dX5_copy_49 (by decide) (fun c_49 => ?_) (fun c_49 => ?_)
          · skip
            have c_49 := bI_0 c_49
            refine J_aload E dX5_copy_58 1 rfl ?_
            refine gC33_X5_215 E dX5_copy_60 ?_
            refine J_aload E dX5_copy_63 0 rfl ?_
            refine gC33_X5_215 E dX5_copy_65 ?_
            refine J_icmp_eq E (tgt := 77) dX5_copy_68 (by decide) (fun c_68 => ?_) (fun c_68 => ?_)
            · skip
              refine J_aload E dX5_copy_77 1 rfl ?_
              refine J_iload_n E dX5_copy_79 rfl 4 rfl ?_
              refine J_iload E dX5_copy_80 7 rfl ?_
              refine J_si9r E (As := [.int (nI f), .int (nI m)]) (c_X2_hasRun l G (sh a 33) (x 9) (nI f) (nI m) ) cl_X5_218 yo_X2_hasRun dX5_copy_82 rfl (Nat.le_of_ble_eq_true rfl) (Nat.le_of_ble_eq_true rfl) rfl (Nat.le_of_ble_eq_true rfl) ⟨Nat.zero_le _, Nat.zero_le _⟩ ?_
              refine J_if_eq E (tgt := 100) dX5_copy_85 (by decide) (fun c_85 => ?_) (fun c_85 => ?_)
              · skip
                have c_85 := bI_0 c_85
                exact absurd (runOK h5 h4 (by omega)) c_85
              · skip
                have c_85 := bI_1 c_85
                refine J_aload E dX5_copy_88 0 rfl ?_
                refine J_iload E dX5_copy_90 6 rfl ?_
                refine J_iload E dX5_copy_92 7 rfl ?_
                refine J_si9r E (As := [.int (nI o), .int (nI m)]) (c_X2_hasRun l G (sh a 33) (x 9) (nI o) (nI m) ) cl_X5_218 yo_X2_hasRun dX5_copy_94 rfl (Nat.le_of_ble_eq_true rfl) (Nat.le_of_ble_eq_true rfl) rfl (Nat.le_of_ble_eq_true rfl) ⟨Nat.zero_le _, Nat.zero_le _⟩ ?_
                refine J_if_ne E (tgt := 106) dX5_copy_97 (by decide) (fun c_97 => ?_) (fun c_97 => ?_)
                · skip
                  have c_97 := bI_1 c_97
                  refine J_aload E dX5_copy_106 1 rfl ?_
                  refine gC33_X5_221 E dX5_copy_108 ?_
                  refine J_iload_n E dX5_copy_111 rfl 4 rfl ?_
                  refine J_aload E dX5_copy_112 0 rfl ?_
                  refine gC33_X5_221 E dX5_copy_114 ?_
                  refine J_iload E dX5_copy_117 6 rfl ?_
                  refine J_iload E dX5_copy_119 7 rfl ?_
                  refine J_copyi E 34 34 ml_X5_133 na_acopy st_acopy ini_J10 dX5_copy_121 rfl rfl (nI_pos (by omega)) (nI_pos (by omega)) (nI_pos (by omega)) (by rw [nI_clamp (by omega), nI_clamp (by omega)]; omega) (by rw [nI_clamp (by omega), nI_clamp (by omega)]; omega) (by decide) (Nat.le_of_ble_eq_true rfl) ?_
                  refine J_w (ws' := wC G a (up3R x 9 0 (va_cpy (x 9 0) (x 9 0) f o m))) (by rw [nI_clamp (n := f) (by omega), nI_clamp (n := o) (by omega), nI_clamp (n := m) (by omega)]; rfl) ?_
                  refine J_iload E dX5_copy_124 7 rfl ?_
                  exact ret _ _ _ _ ⟨rfl, _, rfl, ShC.rfl'⟩ rfl dX5_copy_126
                · skip
                  have c_97 := bI_0 c_97
                  exact absurd (runOK h7 h6 (by omega)) c_97
            · skip
              exact absurd h3 c_68
          · skip
            have c_49 := bI_1 c_49
            exact absurd c_49 h2
      · skip
        have c_11 := bI_0 c_11
        exact absurd (in3 (by decide)) c_11
  · skip
    refine J_iload_n E dX5_copy_0 rfl 1 rfl ?_
    refine J_cSiN E (As := [.int (nI 1)]) (c_X5_isSheet l G (nI 1) ) cl_X5_202 yo_X5_isSheet dX5_copy_1 rfl (Nat.le_of_ble_eq_true rfl) (Nat.le_of_ble_eq_true rfl) rfl (Nat.le_of_ble_eq_true rfl) ⟨Nat.zero_le _, Nat.zero_le _⟩ ?_
    refine J_if_eq E (tgt := 14) dX5_copy_4 (by decide) (fun c_4 => ?_) (fun c_4 => ?_)
    · skip
      have c_4 := bI_0 c_4
      exact absurd (in3 (by decide)) c_4
    · skip
      have c_4 := bI_1 c_4
      refine J_iload_n E dX5_copy_7 rfl 3 rfl ?_
      refine J_cSiN E (As := [.int (nI 2)]) (c_X5_isSheet l G (nI 2) ) cl_X5_202 yo_X5_isSheet dX5_copy_8 rfl (Nat.le_of_ble_eq_true rfl) (Nat.le_of_ble_eq_true rfl) rfl (Nat.le_of_ble_eq_true rfl) ⟨Nat.zero_le _, Nat.zero_le _⟩ ?_
      refine J_if_ne E (tgt := 20) dX5_copy_11 (by decide) (fun c_11 => ?_) (fun c_11 => ?_)
      · skip
        have c_11 := bI_1 c_11
        refine J_aload_n E dX5_copy_20 rfl 0 rfl ?_
        refine gC0_X5_44 E dX5_copy_21 ?_
        refine J_iload_n E dX5_copy_24 rfl 1 rfl ?_
        refine laC_30_1 E dX5_copy_25 ?_
        refine J_astore E (lv' := [(6, .ref (a 33)), (0, .ref (a 0)), (1, .int (nI 1)), (2, .int (nI f)), (3, .int (nI 2)), (4, .int (nI o)), (5, .int (nI m))]) dX5_copy_26 (by decide) rfl ?_
        refine J_aload_n E dX5_copy_28 rfl 1 rfl ?_
        refine gC0_X5_44 E dX5_copy_29 ?_
        refine J_iload_n E dX5_copy_32 rfl 4 rfl ?_
        refine laC_30_2 E dX5_copy_33 ?_
        refine J_astore E (lv' := [(7, .ref (a 35)), (6, .ref (a 33)), (0, .ref (a 0)), (1, .int (nI 1)), (2, .int (nI f)), (3, .int (nI 2)), (4, .int (nI o)), (5, .int (nI m))]) dX5_copy_34 (by decide) rfl ?_
        refine J_aload E dX5_copy_36 1 rfl ?_
        refine J_si9r E (As := []) (c_X2_isMissing l G (sh a 33) (x 9) ) cl_X5_212 yo_X2_isMissing dX5_copy_38 rfl (Nat.le_of_ble_eq_true rfl) (Nat.le_of_ble_eq_true rfl) rfl (Nat.le_of_ble_eq_true rfl) ⟨Nat.zero_le _, Nat.zero_le _⟩ ?_
        refine J_if_ne E (tgt := 52) dX5_copy_41 (by decide) (fun c_41 => ?_) (fun c_41 => ?_)
        · skip
          have c_41 := bI_1 c_41
          exact absurd c_41 h1
        · skip
          have c_41 := bI_0 c_41
          refine J_aload E dX5_copy_44 0 rfl ?_
          refine J_si10r E (As := []) (c_X2_isMissing l G (sh a 35) (x 10) ) cl_X5_212 yo_X2_isMissing dX5_copy_46 rfl (Nat.le_of_ble_eq_true rfl) (Nat.le_of_ble_eq_true rfl) rfl (Nat.le_of_ble_eq_true rfl) ⟨Nat.zero_le _, Nat.zero_le _⟩ ?_
          refine J_if_eq E (tgt := 58) dX5_copy_49 (by decide) (fun c_49 => ?_) (fun c_49 => ?_)
          · skip
            have c_49 := bI_0 c_49
            refine J_aload E dX5_copy_58 1 rfl ?_
            refine gC33_X5_215 E dX5_copy_60 ?_
            refine J_aload E dX5_copy_63 0 rfl ?_
            refine gC35_X5_215 E dX5_copy_65 ?_
            refine J_icmp_eq E (tgt := 77) dX5_copy_68 (by decide) (fun c_68 => ?_) (fun c_68 => ?_)
            · skip
              refine J_aload E dX5_copy_77 1 rfl ?_
              refine J_iload_n E dX5_copy_79 rfl 4 rfl ?_
              refine J_iload E dX5_copy_80 7 rfl ?_
              refine J_si9r E (As := [.int (nI f), .int (nI m)]) (c_X2_hasRun l G (sh a 33) (x 9) (nI f) (nI m) ) cl_X5_218 yo_X2_hasRun dX5_copy_82 rfl (Nat.le_of_ble_eq_true rfl) (Nat.le_of_ble_eq_true rfl) rfl (Nat.le_of_ble_eq_true rfl) ⟨Nat.zero_le _, Nat.zero_le _⟩ ?_
              refine J_if_eq E (tgt := 100) dX5_copy_85 (by decide) (fun c_85 => ?_) (fun c_85 => ?_)
              · skip
                have c_85 := bI_0 c_85
                exact absurd (runOK h5 h4 (by omega)) c_85
              · skip
                have c_85 := bI_1 c_85
                refine J_aload E dX5_copy_88 0 rfl ?_
                refine J_iload E dX5_copy_90 6 rfl ?_
                refine J_iload E dX5_copy_92 7 rfl ?_
                refine J_si10r E (As := [.int (nI o), .int (nI m)]) (c_X2_hasRun l G (sh a 35) (x 10) (nI o) (nI m) ) cl_X5_218 yo_X2_hasRun dX5_copy_94 rfl (Nat.le_of_ble_eq_true rfl) (Nat.le_of_ble_eq_true rfl) rfl (Nat.le_of_ble_eq_true rfl) ⟨Nat.zero_le _, Nat.zero_le _⟩ ?_
                refine J_if_ne E (tgt := 106) dX5_copy_97 (by decide) (fun c_97 => ?_) (fun c_97 => ?_)
                · skip
                  have c_97 := bI_1 c_97
                  refine J_aload E dX5_copy_106 1 rfl ?_
                  refine gC33_X5_221 E dX5_copy_108 ?_
                  refine J_iload_n E dX5_copy_111 rfl 4 rfl ?_
                  refine J_aload E dX5_copy_112 0 rfl ?_
                  refine gC35_X5_221 E dX5_copy_114 ?_
                  refine J_iload E dX5_copy_117 6 rfl ?_
                  refine J_iload E dX5_copy_119 7 rfl ?_
                  refine J_copyi E 34 36 ml_X5_133 na_acopy st_acopy ini_J10 dX5_copy_121 rfl rfl (nI_pos (by omega)) (nI_pos (by omega)) (nI_pos (by omega)) (by rw [nI_clamp (by omega), nI_clamp (by omega)]; omega) (by rw [nI_clamp (by omega), nI_clamp (by omega)]; omega) (by decide) (Nat.le_of_ble_eq_true rfl) ?_
                  refine J_w (ws' := wC G a (up3R x 10 0 (va_cpy (x 9 0) (x 10 0) f o m))) (by rw [nI_clamp (n := f) (by omega), nI_clamp (n := o) (by omega), nI_clamp (n := m) (by omega)]; rfl) ?_
                  refine J_iload E dX5_copy_124 7 rfl ?_
                  exact ret _ _ _ _ ⟨rfl, _, rfl, ShC.rfl'⟩ rfl dX5_copy_126
                · skip
                  have c_97 := bI_0 c_97
                  exact absurd (runOK h7 h6 (by omega)) c_97
            · skip
              exact absurd h3 c_68
          · skip
            have c_49 := bI_1 c_49
            exact absurd c_49 h2
      · skip
        have c_11 := bI_0 c_11
        exact absurd (in3 (by decide)) c_11
  · skip
    refine J_iload_n E dX5_copy_0 rfl 1 rfl ?_
    refine J_cSiN E (As := [.int (nI 1)]) (c_X5_isSheet l G (nI 1) ) cl_X5_202 yo_X5_isSheet dX5_copy_1 rfl (Nat.le_of_ble_eq_true rfl) (Nat.le_of_ble_eq_true rfl) rfl (Nat.le_of_ble_eq_true rfl) ⟨Nat.zero_le _, Nat.zero_le _⟩ ?_
    refine J_if_eq E (tgt := 14) dX5_copy_4 (by decide) (fun c_4 => ?_) (fun c_4 => ?_)
    · skip
      have c_4 := bI_0 c_4
      exact absurd (in3 (by decide)) c_4
    · skip
      have c_4 := bI_1 c_4
      refine J_iload_n E dX5_copy_7 rfl 3 rfl ?_
      refine J_cSiN E (As := [.int (nI 3)]) (c_X5_isSheet l G (nI 3) ) cl_X5_202 yo_X5_isSheet dX5_copy_8 rfl (Nat.le_of_ble_eq_true rfl) (Nat.le_of_ble_eq_true rfl) rfl (Nat.le_of_ble_eq_true rfl) ⟨Nat.zero_le _, Nat.zero_le _⟩ ?_
      refine J_if_ne E (tgt := 20) dX5_copy_11 (by decide) (fun c_11 => ?_) (fun c_11 => ?_)
      · skip
        have c_11 := bI_1 c_11
        refine J_aload_n E dX5_copy_20 rfl 0 rfl ?_
        refine gC0_X5_44 E dX5_copy_21 ?_
        refine J_iload_n E dX5_copy_24 rfl 1 rfl ?_
        refine laC_30_1 E dX5_copy_25 ?_
        refine J_astore E (lv' := [(6, .ref (a 33)), (0, .ref (a 0)), (1, .int (nI 1)), (2, .int (nI f)), (3, .int (nI 3)), (4, .int (nI o)), (5, .int (nI m))]) dX5_copy_26 (by decide) rfl ?_
        refine J_aload_n E dX5_copy_28 rfl 1 rfl ?_
        refine gC0_X5_44 E dX5_copy_29 ?_
        refine J_iload_n E dX5_copy_32 rfl 4 rfl ?_
        refine laC_30_3 E dX5_copy_33 ?_
        refine J_astore E (lv' := [(7, .ref (a 37)), (6, .ref (a 33)), (0, .ref (a 0)), (1, .int (nI 1)), (2, .int (nI f)), (3, .int (nI 3)), (4, .int (nI o)), (5, .int (nI m))]) dX5_copy_34 (by decide) rfl ?_
        refine J_aload E dX5_copy_36 1 rfl ?_
        refine J_si9r E (As := []) (c_X2_isMissing l G (sh a 33) (x 9) ) cl_X5_212 yo_X2_isMissing dX5_copy_38 rfl (Nat.le_of_ble_eq_true rfl) (Nat.le_of_ble_eq_true rfl) rfl (Nat.le_of_ble_eq_true rfl) ⟨Nat.zero_le _, Nat.zero_le _⟩ ?_
        refine J_if_ne E (tgt := 52) dX5_copy_41 (by decide) (fun c_41 => ?_) (fun c_41 => ?_)
        · skip
          have c_41 := bI_1 c_41
          exact absurd c_41 h1
        · skip
          have c_41 := bI_0 c_41
          refine J_aload E dX5_copy_44 0 rfl ?_
          refine J_si11r E (As := []) (c_X2_isMissing l G (sh a 37) (x 11) ) cl_X5_212 yo_X2_isMissing dX5_copy_46 rfl (Nat.le_of_ble_eq_true rfl) (Nat.le_of_ble_eq_true rfl) rfl (Nat.le_of_ble_eq_true rfl) ⟨Nat.zero_le _, Nat.zero_le _⟩ ?_
          refine J_if_eq E (tgt := 58) dX5_copy_49 (by decide) (fun c_49 => ?_) (fun c_49 => ?_)
          · skip
            have c_49 := bI_0 c_49
            refine J_aload E dX5_copy_58 1 rfl ?_
            refine gC33_X5_215 E dX5_copy_60 ?_
            refine J_aload E dX5_copy_63 0 rfl ?_
            refine gC37_X5_215 E dX5_copy_65 ?_
            refine J_icmp_eq E (tgt := 77) dX5_copy_68 (by decide) (fun c_68 => ?_) (fun c_68 => ?_)
            · skip
              refine J_aload E dX5_copy_77 1 rfl ?_
              refine J_iload_n E dX5_copy_79 rfl 4 rfl ?_
              refine J_iload E dX5_copy_80 7 rfl ?_
              refine J_si9r E (As := [.int (nI f), .int (nI m)]) (c_X2_hasRun l G (sh a 33) (x 9) (nI f) (nI m) ) cl_X5_218 yo_X2_hasRun dX5_copy_82 rfl (Nat.le_of_ble_eq_true rfl) (Nat.le_of_ble_eq_true rfl) rfl (Nat.le_of_ble_eq_true rfl) ⟨Nat.zero_le _, Nat.zero_le _⟩ ?_
              refine J_if_eq E (tgt := 100) dX5_copy_85 (by decide) (fun c_85 => ?_) (fun c_85 => ?_)
              · skip
                have c_85 := bI_0 c_85
                exact absurd (runOK h5 h4 (by omega)) c_85
              · skip
                have c_85 := bI_1 c_85
                refine J_aload E dX5_copy_88 0 rfl ?_
                refine J_iload E dX5_copy_90 6 rfl ?_
                refine J_iload E dX5_copy_92 7 rfl ?_
                refine J_si11r E (As := [.int (nI o), .int (nI m)]) (c_X2_hasRun l G (sh a 37) (x 11) (nI o) (nI m) ) cl_X5_218 yo_X2_hasRun dX5_copy_94 rfl (Nat.le_of_ble_eq_true rfl) (Nat.le_of_ble_eq_true rfl) rfl (Nat.le_of_ble_eq_true rfl) ⟨Nat.zero_le _, Nat.zero_le _⟩ ?_
                refine J_if_ne E (tgt := 106) dX5_copy_97 (by decide) (fun c_97 => ?_) (fun c_97 => ?_)
                · skip
                  have c_97 := bI_1 c_97
                  refine J_aload E dX5_copy_106 1 rfl ?_
                  refine gC33_X5_221 E dX5_copy_108 ?_
                  refine J_iload_n E dX5_copy_111 rfl 4 rfl ?_
                  refine J_aload E dX5_copy_112 0 rfl ?_
                  refine gC37_X5_221 E dX5_copy_114 ?_
                  refine J_iload E dX5_copy_117 6 rfl ?_
                  refine J_iload E dX5_copy_119 7 rfl ?_
                  refine J_copyi E 34 38 ml_X5_133 na_acopy st_acopy ini_J10 dX5_copy_121 rfl rfl (nI_pos (by omega)) (nI_pos (by omega)) (nI_pos (by omega)) (by rw [nI_clamp (by omega), nI_clamp (by omega)]; omega) (by rw [nI_clamp (by omega), nI_clamp (by omega)]; omega) (by decide) (Nat.le_of_ble_eq_true rfl) ?_
                  refine J_w (ws' := wC G a (up3R x 11 0 (va_cpy (x 9 0) (x 11 0) f o m))) (by rw [nI_clamp (n := f) (by omega), nI_clamp (n := o) (by omega), nI_clamp (n := m) (by omega)]; rfl) ?_
                  refine J_iload E dX5_copy_124 7 rfl ?_
                  exact ret _ _ _ _ ⟨rfl, _, rfl, ShC.rfl'⟩ rfl dX5_copy_126
                · skip
                  have c_97 := bI_0 c_97
                  exact absurd (runOK h7 h6 (by omega)) c_97
            · skip
              exact absurd h3 c_68
          · skip
            have c_49 := bI_1 c_49
            exact absurd c_49 h2
      · skip
        have c_11 := bI_0 c_11
        exact absurd (in3 (by decide)) c_11
  · skip
    refine J_iload_n E dX5_copy_0 rfl 1 rfl ?_
    refine J_cSiN E (As := [.int (nI 2)]) (c_X5_isSheet l G (nI 2) ) cl_X5_202 yo_X5_isSheet dX5_copy_1 rfl (Nat.le_of_ble_eq_true rfl) (Nat.le_of_ble_eq_true rfl) rfl (Nat.le_of_ble_eq_true rfl) ⟨Nat.zero_le _, Nat.zero_le _⟩ ?_
    refine J_if_eq E (tgt := 14) dX5_copy_4 (by decide) (fun c_4 => ?_) (fun c_4 => ?_)
    · skip
      have c_4 := bI_0 c_4
      exact absurd (in3 (by decide)) c_4
    · skip
      have c_4 := bI_1 c_4
      refine J_iload_n E dX5_copy_7 rfl 3 rfl ?_
      refine J_cSiN E (As := [.int (nI 0)]) (c_X5_isSheet l G (nI 0) ) cl_X5_202 yo_X5_isSheet dX5_copy_8 rfl (Nat.le_of_ble_eq_true rfl) (Nat.le_of_ble_eq_true rfl) rfl (Nat.le_of_ble_eq_true rfl) ⟨Nat.zero_le _, Nat.zero_le _⟩ ?_
      refine J_if_ne E (tgt := 20) dX5_copy_11 (by decide) (fun c_11 => ?_) (fun c_11 => ?_)
      · skip
        have c_11 := bI_1 c_11
        refine J_aload_n E dX5_copy_20 rfl 0 rfl ?_
        refine gC0_X5_44 E dX5_copy_21 ?_
        refine J_iload_n E dX5_copy_24 rfl 1 rfl ?_
        refine laC_30_2 E dX5_copy_25 ?_
        refine J_astore E (lv' := [(6, .ref (a 35)), (0, .ref (a 0)), (1, .int (nI 2)), (2, .int (nI f)), (3, .int (nI 0)), (4, .int (nI o)), (5, .int (nI m))]) dX5_copy_26 (by decide) rfl ?_
        refine J_aload_n E dX5_copy_28 rfl 1 rfl ?_
        refine gC0_X5_44 E dX5_copy_29 ?_
        refine J_iload_n E dX5_copy_32 rfl 4 rfl ?_
        refine laC_30_0 E dX5_copy_33 ?_
        refine J_astore E (lv' := [(7, .ref (a 31)), (6, .ref (a 35)), (0, .ref (a 0)), (1, .int (nI 2)), (2, .int (nI f)), (3, .int (nI 0)), (4, .int (nI o)), (5, .int (nI m))]) dX5_copy_34 (by decide) rfl ?_
        refine J_aload E dX5_copy_36 1 rfl ?_
        refine J_si10r E (As := []) (c_X2_isMissing l G (sh a 35) (x 10) ) cl_X5_212 yo_X2_isMissing dX5_copy_38 rfl (Nat.le_of_ble_eq_true rfl) (Nat.le_of_ble_eq_true rfl) rfl (Nat.le_of_ble_eq_true rfl) ⟨Nat.zero_le _, Nat.zero_le _⟩ ?_
        refine J_if_ne E (tgt := 52) dX5_copy_41 (by decide) (fun c_41 => ?_) (fun c_41 => ?_)
        · skip
          have c_41 := bI_1 c_41
          exact absurd c_41 h1
        · skip
          have c_41 := bI_0 c_41
          refine J_aload E dX5_copy_44 0 rfl ?_
          refine J_si8r E (As := []) (c_X2_isMissing l G (sh a 31) (x 8) ) cl_X5_212 yo_X2_isMissing dX5_copy_46 rfl (Nat.le_of_ble_eq_true rfl) (Nat.le_of_ble_eq_true rfl) rfl (Nat.le_of_ble_eq_true rfl) ⟨Nat.zero_le _, Nat.zero_le _⟩ ?_
          refine J_if_eq E (tgt := 58) dX5_copy_49 (by decide) (fun c_49 => ?_) (fun c_49 => ?_)
          · skip
            have c_49 := bI_0 c_49
            refine J_aload E dX5_copy_58 1 rfl ?_
            refine gC35_X5_215 E dX5_copy_60 ?_
            refine J_aload E dX5_copy_63 0 rfl ?_
            refine gC31_X5_215 E dX5_copy_65 ?_
            refine J_icmp_eq E (tgt := 77) dX5_copy_68 (by decide) (fun c_68 => ?_) (fun c_68 => ?_)
            · skip
              refine J_aload E dX5_copy_77 1 rfl ?_
              refine J_iload_n E dX5_copy_79 rfl 4 rfl ?_
              refine J_iload E dX5_copy_80 7 rfl ?_
              refine J_si10r E (As := [.int (nI f), .int (nI m)]) (c_X2_hasRun l G (sh a 35) (x 10) (nI f) (nI m) ) cl_X5_218 yo_X2_hasRun dX5_copy_82 rfl (Nat.le_of_ble_eq_true rfl) (Nat.le_of_ble_eq_true rfl) rfl (Nat.le_of_ble_eq_true rfl) ⟨Nat.zero_le _, Nat.zero_le _⟩ ?_
              refine J_if_eq E (tgt := 100) dX5_copy_85 (by decide) (fun c_85 => ?_) (fun c_85 => ?_)
              · skip
                have c_85 := bI_0 c_85
                exact absurd (runOK h5 h4 (by omega)) c_85
              · skip
                have c_85 := bI_1 c_85
                refine J_aload E dX5_copy_88 0 rfl ?_
                refine J_iload E dX5_copy_90 6 rfl ?_
                refine J_iload E dX5_copy_92 7 rfl ?_
                refine J_si8r E (As := [.int (nI o), .int (nI m)]) (c_X2_hasRun l G (sh a 31) (x 8) (nI o) (nI m) ) cl_X5_218 yo_X2_hasRun dX5_copy_94 rfl (Nat.le_of_ble_eq_true rfl) (Nat.le_of_ble_eq_true rfl) rfl (Nat.le_of_ble_eq_true rfl) ⟨Nat.zero_le _, Nat.zero_le _⟩ ?_
                refine J_if_ne E (tgt := 106) dX5_copy_97 (by decide) (fun c_97 => ?_) (fun c_97 => ?_)
                · skip
                  have c_97 := bI_1 c_97
                  refine J_aload E dX5_copy_106 1 rfl ?_
                  refine gC35_X5_221 E dX5_copy_108 ?_
                  refine J_iload_n E dX5_copy_111 rfl 4 rfl ?_
                  refine J_aload E dX5_copy_112 0 rfl ?_
                  refine gC31_X5_221 E dX5_copy_114 ?_
                  refine J_iload E dX5_copy_117 6 rfl ?_
                  refine J_iload E dX5_copy_119 7 rfl ?_
                  refine J_copyi E 36 32 ml_X5_133 na_acopy st_acopy ini_J10 dX5_copy_121 rfl rfl (nI_pos (by omega)) (nI_pos (by omega)) (nI_pos (by omega)) (by rw [nI_clamp (by omega), nI_clamp (by omega)]; omega) (by rw [nI_clamp (by omega), nI_clamp (by omega)]; omega) (by decide) (Nat.le_of_ble_eq_true rfl) ?_
                  refine J_w (ws' := wC G a (up3R x 8 0 (va_cpy (x 10 0) (x 8 0) f o m))) (by rw [nI_clamp (n := f) (by omega), nI_clamp (n := o) (by omega), nI_clamp (n := m) (by omega)]; rfl) ?_
                  refine J_iload E dX5_copy_124 7 rfl ?_
                  exact ret _ _ _ _ ⟨rfl, _, rfl, ShC.rfl'⟩ rfl dX5_copy_126
                · skip
                  have c_97 := bI_0 c_97
                  exact absurd (runOK h7 h6 (by omega)) c_97
            · skip
              exact absurd h3 c_68
          · skip
            have c_49 := bI_1 c_49
            exact absurd c_49 h2
      · skip
        have c_11 := bI_0 c_11
        exact absurd (in3 (by decide)) c_11
  · skip
    refine J_iload_n E dX5_copy_0 rfl 1 rfl ?_
    refine J_cSiN E (As := [.int (nI 2)]) (c_X5_isSheet l G (nI 2) ) cl_X5_202 yo_X5_isSheet dX5_copy_1 rfl (Nat.le_of_ble_eq_true rfl) (Nat.le_of_ble_eq_true rfl) rfl (Nat.le_of_ble_eq_true rfl) ⟨Nat.zero_le _, Nat.zero_le _⟩ ?_
    refine J_if_eq E (tgt := 14) dX5_copy_4 (by decide) (fun c_4 => ?_) (fun c_4 => ?_)
    · skip
      have c_4 := bI_0 c_4
      exact absurd (in3 (by decide)) c_4
    · skip
      have c_4 := bI_1 c_4
      refine J_iload_n E dX5_copy_7 rfl 3 rfl ?_
      refine J_cSiN E (As := [.int (nI 1)]) (c_X5_isSheet l G (nI 1) ) cl_X5_202 yo_X5_isSheet dX5_copy_8 rfl (Nat.le_of_ble_eq_true rfl) (Nat.le_of_ble_eq_true rfl) rfl (Nat.le_of_ble_eq_true rfl) ⟨Nat.zero_le _, Nat.zero_le _⟩ ?_
      refine J_if_ne E (tgt := 20) dX5_copy_11 (by decide) (fun c_11 => ?_) (fun c_11 => ?_)
      · skip
        have c_11 := bI_1 c_11
        refine J_aload_n E dX5_copy_20 rfl 0 rfl ?_
        refine gC0_X5_44 E dX5_copy_21 ?_
        refine J_iload_n E dX5_copy_24 rfl 1 rfl ?_
        refine laC_30_2 E dX5_copy_25 ?_
        refine J_astore E (lv' := [(6, .ref (a 35)), (0, .ref (a 0)), (1, .int (nI 2)), (2, .int (nI f)), (3, .int (nI 1)), (4, .int (nI o)), (5, .int (nI m))]) dX5_copy_26 (by decide) rfl ?_
        refine J_aload_n E dX5_copy_28 rfl 1 rfl ?_
        refine gC0_X5_44 E dX5_copy_29 ?_
        refine J_iload_n E dX5_copy_32 rfl 4 rfl ?_
        refine laC_30_1 E dX5_copy_33 ?_
        refine J_astore E (lv' := [(7, .ref (a 33)), (6, .ref (a 35)), (0, .ref (a 0)), (1, .int (nI 2)), (2, .int (nI f)), (3, .int (nI 1)), (4, .int (nI o)), (5, .int (nI m))]) dX5_copy_34 (by decide) rfl ?_
        refine J_aload E dX5_copy_36 1 rfl ?_
        refine J_si10r E (As := []) (c_X2_isMissing l G (sh a 35) (x 10) ) cl_X5_212 yo_X2_isMissing dX5_copy_38 rfl (Nat.le_of_ble_eq_true rfl) (Nat.le_of_ble_eq_true rfl) rfl (Nat.le_of_ble_eq_true rfl) ⟨Nat.zero_le _, Nat.zero_le _⟩ ?_
        refine J_if_ne E (tgt := 52) dX5_copy_41 (by decide) (fun c_41 => ?_) (fun c_41 => ?_)
        · skip
          have c_41 := bI_1 c_41
          exact absurd c_41 h1
        · skip
          have c_41 := bI_0 c_41
          refine J_aload E dX5_copy_44 0 rfl ?_
          refine J_si9r E (As := []) (c_X2_isMissing l G (sh a 33) (x 9) ) cl_X5_212 yo_X2_isMissing dX5_copy_46 rfl (Nat.le_of_ble_eq_true rfl) (Nat.le_of_ble_eq_true rfl) rfl (Nat.le_of_ble_eq_true rfl) ⟨Nat.zero_le _, Nat.zero_le _⟩ ?_
          refine J_if_eq E (tgt := 58) dX5_copy_49 (by decide) (fun c_49 => ?_) (fun c_49 => ?_)
          · skip
            have c_49 := bI_0 c_49
            refine J_aload E dX5_copy_58 1 rfl ?_
            refine gC35_X5_215 E dX5_copy_60 ?_
            refine J_aload E dX5_copy_63 0 rfl ?_
            refine gC33_X5_215 E dX5_copy_65 ?_
            refine J_icmp_eq E (tgt := 77) dX5_copy_68 (by decide) (fun c_68 => ?_) (fun c_68 => ?_)
            · skip
              refine J_aload E dX5_copy_77 1 rfl ?_
              refine J_iload_n E dX5_copy_79 rfl 4 rfl ?_
              refine J_iload E dX5_copy_80 7 rfl ?_
              refine J_si10r E (As := [.int (nI f), .int (nI m)]) (c_X2_hasRun l G (sh a 35) (x 10) (nI f) (nI m) ) cl_X5_218 yo_X2_hasRun dX5_copy_82 rfl (Nat.le_of_ble_eq_true rfl) (Nat.le_of_ble_eq_true rfl) rfl (Nat.le_of_ble_eq_true rfl) ⟨Nat.zero_le _, Nat.zero_le _⟩ ?_
              refine J_if_eq E (tgt := 100) dX5_copy_85 (by decide) (fun c_85 => ?_) (fun c_85 => ?_)
              · skip
                have c_85 := bI_0 c_85
                exact absurd (runOK h5 h4 (by omega)) c_85
              · skip
                have c_85 := bI_1 c_85
                refine J_aload E dX5_copy_88 0 rfl ?_
                refine J_iload E dX5_copy_90 6 rfl ?_
                refine J_iload E dX5_copy_92 7 rfl ?_
                refine J_si9r E (As := [.int (nI o), .int (nI m)]) (c_X2_hasRun l G (sh a 33) (x 9) (nI o) (nI m) ) cl_X5_218 yo_X2_hasRun dX5_copy_94 rfl (Nat.le_of_ble_eq_true rfl) (Nat.le_of_ble_eq_true rfl) rfl (Nat.le_of_ble_eq_true rfl) ⟨Nat.zero_le _, Nat.zero_le _⟩ ?_
                refine J_if_ne E (tgt := 106) dX5_copy_97 (by decide) (fun c_97 => ?_) (fun c_97 => ?_)
                · skip
                  have c_97 := bI_1 c_97
                  refine J_aload E dX5_copy_106 1 rfl ?_
                  refine gC35_X5_221 E dX5_copy_108 ?_
                  refine J_iload_n E dX5_copy_111 rfl 4 rfl ?_
                  refine J_aload E dX5_copy_112 0 rfl ?_
                  refine gC33_X5_221 E dX5_copy_114 ?_
                  refine J_iload E dX5_copy_117 6 rfl ?_
                  refine J_iload E dX5_copy_119 7 rfl ?_
                  refine J_copyi E 36 34 ml_X5_133 na_acopy st_acopy ini_J10 dX5_copy_121 rfl rfl (nI_pos (by omega)) (nI_pos (by omega)) (nI_pos (by omega)) (by rw [nI_clamp (by omega), nI_clamp (by omega)]; omega) (by rw [nI_clamp (by omega), nI_clamp (by omega)]; omega) (by decide) (Nat.le_of_ble_eq_true rfl) ?_
                  refine J_w (ws' := wC G a (up3R x 9 0 (va_cpy (x 10 0) (x 9 0) f o m))) (by rw [nI_clamp (n := f) (by omega), nI_clamp (n := o) (by omega), nI_clamp (n := m) (by omega)]; rfl) ?_
                  refine J_iload E dX5_copy_124 7 rfl ?_
                  exact ret _ _ _ _ ⟨rfl, _, rfl, ShC.rfl'⟩ rfl dX5_copy_126
                · skip
                  have c_97 := bI_0 c_97
                  exact absurd (runOK h7 h6 (by omega)) c_97
            · skip
              exact absurd h3 c_68
          · skip
            have c_49 := bI_1 c_49
            exact absurd c_49 h2
      · skip
        have c_11 := bI_0 c_11
        exact absurd (in3 (by decide)) c_11
  · skip
    refine J_iload_n E dX5_copy_0 rfl 1 rfl ?_
    refine J_cSiN E (As := [.int (nI 2)]) (c_X5_isSheet l G (nI 2) ) cl_X5_202 yo_X5_isSheet dX5_copy_1 rfl (Nat.le_of_ble_eq_true rfl) (Nat.le_of_ble_eq_true rfl) rfl (Nat.le_of_ble_eq_true rfl) ⟨Nat.zero_le _, Nat.zero_le _⟩ ?_
    refine J_if_eq E (tgt := 14) dX5_copy_4 (by decide) (fun c_4 => ?_) (fun c_4 => ?_)
    · skip
      have c_4 := bI_0 c_4
      exact absurd (in3 (by decide)) c_4
    · skip
      have c_4 := bI_1 c_4
      refine J_iload_n E dX5_copy_7 rfl 3 rfl ?_
      refine J_cSiN E (As := [.int (nI 2)]) (c_X5_isSheet l G (nI 2) ) cl_X5_202 yo_X5_isSheet dX5_copy_8 rfl (Nat.le_of_ble_eq_true rfl) (Nat.le_of_ble_eq_true rfl) rfl (Nat.le_of_ble_eq_true rfl) ⟨Nat.zero_le _, Nat.zero_le _⟩ ?_
      refine J_if_ne E (tgt := 20) dX5_copy_11 (by decide) (fun c_11 => ?_) (fun c_11 => ?_)
      · skip
        have c_11 := bI_1 c_11
        refine J_aload_n E dX5_copy_20 rfl 0 rfl ?_
        refine gC0_X5_44 E dX5_copy_21 ?_
        refine J_iload_n E dX5_copy_24 rfl 1 rfl ?_
        refine laC_30_2 E dX5_copy_25 ?_
        refine J_astore E (lv' := [(6, .ref (a 35)), (0, .ref (a 0)), (1, .int (nI 2)), (2, .int (nI f)), (3, .int (nI 2)), (4, .int (nI o)), (5, .int (nI m))]) dX5_copy_26 (by decide) rfl ?_
        refine J_aload_n E dX5_copy_28 rfl 1 rfl ?_
        refine gC0_X5_44 E dX5_copy_29 ?_
        refine J_iload_n E dX5_copy_32 rfl 4 rfl ?_
        refine laC_30_2 E dX5_copy_33 ?_
        refine J_astore E (lv' := [(7, .ref (a 35)), (6, .ref (a 35)), (0, .ref (a 0)), (1, .int (nI 2)), (2, .int (nI f)), (3, .int (nI 2)), (4, .int (nI o)), (5, .int (nI m))]) dX5_copy_34 (by decide) rfl ?_
        refine J_aload E dX5_copy_36 1 rfl ?_
        refine J_si10r E (As := []) (c_X2_isMissing l G (sh a 35) (x 10) ) cl_X5_212 yo_X2_isMissing dX5_copy_38 rfl (Nat.le_of_ble_eq_true rfl) (Nat.le_of_ble_eq_true rfl) rfl (Nat.le_of_ble_eq_true rfl) ⟨Nat.zero_le _, Nat.zero_le _⟩ ?_
        refine J_if_ne E (tgt := 52) dX5_copy_41 (by decide) (fun c_41 => ?_) (fun c_41 => ?_)
        · skip
          have c_41 := bI_1 c_41
          exact absurd c_41 h1
        · skip
          have c_41 := bI_0 c_41
          refine J_aload E dX5_copy_44 0 rfl ?_
          refine J_si10r E (As := []) (c_X2_isMissing l G (sh a 35) (x 10) ) cl_X5_212 yo_X2_isMissing dX5_copy_46 rfl (Nat.le_of_ble_eq_true rfl) (Nat.le_of_ble_eq_true rfl) rfl (Nat.le_of_ble_eq_true rfl) ⟨Nat.zero_le _, Nat.zero_le _⟩ ?_
          refine J_if_eq E (tgt := 58) dX5_copy_49 (by decide) (fun c_49 => ?_) (fun c_49 => ?_)
          · skip
            have c_49 := bI_0 c_49
            refine J_aload E dX5_copy_58 1 rfl ?_
            refine gC35_X5_215 E dX5_copy_60 ?_
            refine J_aload E dX5_copy_63 0 rfl ?_
            refine gC35_X5_215 E dX5_copy_65 ?_
            refine J_icmp_eq E (tgt := 77) dX5_copy_68 (by decide) (fun c_68 => ?_) (fun c_68 => ?_)
            · skip
              refine J_aload E dX5_copy_77 1 rfl ?_
              refine J_iload_n E dX5_copy_79 rfl 4 rfl ?_
              refine J_iload E dX5_copy_80 7 rfl ?_
              refine J_si10r E (As := [.int (nI f), .int (nI m)]) (c_X2_hasRun l G (sh a 35) (x 10) (nI f) (nI m) ) cl_X5_218 yo_X2_hasRun dX5_copy_82 rfl (Nat.le_of_ble_eq_true rfl) (Nat.le_of_ble_eq_true rfl) rfl (Nat.le_of_ble_eq_true rfl) ⟨Nat.zero_le _, Nat.zero_le _⟩ ?_
              refine J_if_eq E (tgt := 100) dX5_copy_85 (by decide) (fun c_85 => ?_) (fun c_85 => ?_)
              · skip
                have c_85 := bI_0 c_85
                exact absurd (runOK h5 h4 (by omega)) c_85
              · skip
                have c_85 := bI_1 c_85
                refine J_aload E dX5_copy_88 0 rfl ?_
                refine J_iload E dX5_copy_90 6 rfl ?_
                refine J_iload E dX5_copy_92 7 rfl ?_
                refine J_si10r E (As := [.int (nI o), .int (nI m)]) (c_X2_hasRun l G (sh a 35) (x 10) (nI o) (nI m) ) cl_X5_218 yo_X2_hasRun dX5_copy_94 rfl (Nat.le_of_ble_eq_true rfl) (Nat.le_of_ble_eq_true rfl) rfl (Nat.le_of_ble_eq_true rfl) ⟨Nat.zero_le _, Nat.zero_le _⟩ ?_
                refine J_if_ne E (tgt := 106) dX5_copy_97 (by decide) (fun c_97 => ?_) (fun c_97 => ?_)
                · skip
                  have c_97 := bI_1 c_97
                  refine J_aload E dX5_copy_106 1 rfl ?_
                  refine gC35_X5_221 E dX5_copy_108 ?_
                  refine J_iload_n E dX5_copy_111 rfl 4 rfl ?_
                  refine J_aload E dX5_copy_112 0 rfl ?_
                  refine gC35_X5_221 E dX5_copy_114 ?_
                  refine J_iload E dX5_copy_117 6 rfl ?_
                  refine J_iload E dX5_copy_119 7 rfl ?_
                  refine J_copyi E 36 36 ml_X5_133 na_acopy st_acopy ini_J10 dX5_copy_121 rfl rfl (nI_pos (by omega)) (nI_pos (by omega)) (nI_pos (by omega)) (by rw [nI_clamp (by omega), nI_clamp (by omega)]; omega) (by rw [nI_clamp (by omega), nI_clamp (by omega)]; omega) (by decide) (Nat.le_of_ble_eq_true rfl) ?_
                  refine J_w (ws' := wC G a (up3R x 10 0 (va_cpy (x 10 0) (x 10 0) f o m))) (by rw [nI_clamp (n := f) (by omega), nI_clamp (n := o) (by omega), nI_clamp (n := m) (by omega)]; rfl) ?_
                  refine J_iload E dX5_copy_124 7 rfl ?_
                  exact ret _ _ _ _ ⟨rfl, _, rfl, ShC.rfl'⟩ rfl dX5_copy_126
                · skip
                  have c_97 := bI_0 c_97
                  exact absurd (runOK h7 h6 (by omega)) c_97
            · skip
              exact absurd h3 c_68
          · skip
            have c_49 := bI_1 c_49
            exact absurd c_49 h2
      · skip
        have c_11 := bI_0 c_11
        exact absurd (in3 (by decide)) c_11
  · skip
    refine J_iload_n E dX5_copy_0 rfl 1 rfl ?_
    refine J_cSiN E (As := [.int (nI 2)]) (c_X5_isSheet l G (nI 2) ) cl_X5_202 yo_X5_isSheet dX5_copy_1 rfl (Nat.le_of_ble_eq_true rfl) (Nat.le_of_ble_eq_true rfl) rfl (Nat.le_of_ble_eq_true rfl) ⟨Nat.zero_le _, Nat.zero_le _⟩ ?_
    refine J_if_eq E (tgt := 14) dX5_copy_4 (by decide) (fun c_4 => ?_) (fun c_4 => ?_)
    · skip
      have c_4 := bI_0 c_4
      exact absurd (in3 (by decide)) c_4
    · skip
      have c_4 := bI_1 c_4
      refine J_iload_n E dX5_copy_7 rfl 3 rfl ?_
      refine J_cSiN E (As := [.int (nI 3)]) (c_X5_isSheet l G (nI 3) ) cl_X5_202 yo_X5_isSheet dX5_copy_8 rfl (Nat.le_of_ble_eq_true rfl) (Nat.le_of_ble_eq_true rfl) rfl (Nat.le_of_ble_eq_true rfl) ⟨Nat.zero_le _, Nat.zero_le _⟩ ?_
      refine J_if_ne E (tgt := 20) dX5_copy_11 (by decide) (fun c_11 => ?_) (fun c_11 => ?_)
      · skip
        have c_11 := bI_1 c_11
        refine J_aload_n E dX5_copy_20 rfl 0 rfl ?_
        refine gC0_X5_44 E dX5_copy_21 ?_
        refine J_iload_n E dX5_copy_24 rfl 1 rfl ?_
        refine laC_30_2 E dX5_copy_25 ?_
        refine J_astore E (lv' := [(6, .ref (a 35)), (0, .ref (a 0)), (1, .int (nI 2)), (2, .int (nI f)), (3, .int (nI 3)), (4, .int (nI o)), (5, .int (nI m))]) dX5_copy_26 (by decide) rfl ?_
        refine J_aload_n E dX5_copy_28 rfl 1 rfl ?_
        refine gC0_X5_44 E dX5_copy_29 ?_
        refine J_iload_n E dX5_copy_32 rfl 4 rfl ?_
        refine laC_30_3 E dX5_copy_33 ?_
        refine J_astore E (lv' := [(7, .ref (a 37)), (6, .ref (a 35)), (0, .ref (a 0)), (1, .int (nI 2)), (2, .int (nI f)), (3, .int (nI 3)), (4, .int (nI o)), (5, .int (nI m))]) dX5_copy_34 (by decide) rfl ?_
        refine J_aload E dX5_copy_36 1 rfl ?_
        refine J_si10r E (As := []) (c_X2_isMissing l G (sh a 35) (x 10) ) cl_X5_212 yo_X2_isMissing dX5_copy_38 rfl (Nat.le_of_ble_eq_true rfl) (Nat.le_of_ble_eq_true rfl) rfl (Nat.le_of_ble_eq_true rfl) ⟨Nat.zero_le _, Nat.zero_le _⟩ ?_
        refine J_if_ne E (tgt := 52) dX5_copy_41 (by decide) (fun c_41 => ?_) (fun c_41 => ?_)
        · skip
          have c_41 := bI_1 c_41
          exact absurd c_41 h1
        · skip
          have c_41 := bI_0 c_41
          refine J_aload E dX5_copy_44 0 rfl ?_
          refine J_si11r E (As := []) (c_X2_isMissing l G (sh a 37) (x 11) ) cl_X5_212 yo_X2_isMissing dX5_copy_46 rfl (Nat.le_of_ble_eq_true rfl) (Nat.le_of_ble_eq_true rfl) rfl (Nat.le_of_ble_eq_true rfl) ⟨Nat.zero_le _, Nat.zero_le _⟩ ?_
          refine J_if_eq E (tgt := 58) dX5_copy_49 (by decide) (fun c_49 => ?_) (fun c_49 => ?_)
          · skip
            have c_49 := bI_0 c_49
            refine J_aload E dX5_copy_58 1 rfl ?_
            refine gC35_X5_215 E dX5_copy_60 ?_
            refine J_aload E dX5_copy_63 0 rfl ?_
            refine gC37_X5_215 E dX5_copy_65 ?_
            refine J_icmp_eq E (tgt := 77) dX5_copy_68 (by decide) (fun c_68 => ?_) (fun c_68 => ?_)
            · skip
              refine J_aload E dX5_copy_77 1 rfl ?_
              refine J_iload_n E dX5_copy_79 rfl 4 rfl ?_
              refine J_iload E dX5_copy_80 7 rfl ?_
              refine J_si10r E (As := [.int (nI f), .int (nI m)]) (c_X2_hasRun l G (sh a 35) (x 10) (nI f) (nI m) ) cl_X5_218 yo_X2_hasRun dX5_copy_82 rfl (Nat.le_of_ble_eq_true rfl) (Nat.le_of_ble_eq_true rfl) rfl (Nat.le_of_ble_eq_true rfl) ⟨Nat.zero_le _, Nat.zero_le _⟩ ?_
              refine J_if_eq E (tgt := 100) dX5_copy_85 (by decide) (fun c_85 => ?_) (fun c_85 => ?_)
              · skip
                have c_85 := bI_0 c_85
                exact absurd (runOK h5 h4 (by omega)) c_85
              · skip
                have c_85 := bI_1 c_85
                refine J_aload E dX5_copy_88 0 rfl ?_
                refine J_iload E dX5_copy_90 6 rfl ?_
                refine J_iload E dX5_copy_92 7 rfl ?_
                refine J_si11r E (As := [.int (nI o), .int (nI m)]) (c_X2_hasRun l G (sh a 37) (x 11) (nI o) (nI m) ) cl_X5_218 yo_X2_hasRun dX5_copy_94 rfl (Nat.le_of_ble_eq_true rfl) (Nat.le_of_ble_eq_true rfl) rfl (Nat.le_of_ble_eq_true rfl) ⟨Nat.zero_le _, Nat.zero_le _⟩ ?_
                refine J_if_ne E (tgt := 106) dX5_copy_97 (by decide) (fun c_97 => ?_) (fun c_97 => ?_)
                · skip
                  have c_97 := bI_1 c_97
                  refine J_aload E dX5_copy_106 1 rfl ?_
                  refine gC35_X5_221 E dX5_copy_108 ?_
                  refine J_iload_n E dX5_copy_111 rfl 4 rfl ?_
                  refine J_aload E dX5_copy_112 0 rfl ?_
                  refine gC37_X5_221 E dX5_copy_114 ?_
                  refine J_iload E dX5_copy_117 6 rfl ?_
                  refine J_iload E dX5_copy_119 7 rfl ?_
                  refine J_copyi E 36 38 ml_X5_133 na_acopy st_acopy ini_J10 dX5_copy_121 rfl rfl (nI_pos (by omega)) (nI_pos (by omega)) (nI_pos (by omega)) (by rw [nI_clamp (by omega), nI_clamp (by omega)]; omega) (by rw [nI_clamp (by omega), nI_clamp (by omega)]; omega) (by decide) (Nat.le_of_ble_eq_true rfl) ?_
                  refine J_w (ws' := wC G a (up3R x 11 0 (va_cpy (x 10 0) (x 11 0) f o m))) (by rw [nI_clamp (n := f) (by omega), nI_clamp (n := o) (by omega), nI_clamp (n := m) (by omega)]; rfl) ?_
                  refine J_iload E dX5_copy_124 7 rfl ?_
                  exact ret _ _ _ _ ⟨rfl, _, rfl, ShC.rfl'⟩ rfl dX5_copy_126
                · skip
                  have c_97 := bI_0 c_97
                  exact absurd (runOK h7 h6 (by omega)) c_97
            · skip
              exact absurd h3 c_68
          · skip
            have c_49 := bI_1 c_49
            exact absurd c_49 h2
      · skip
        have c_11 := bI_0 c_11
        exact absurd (in3 (by decide)) c_11
  · skip
    refine J_iload_n E dX5_copy_0 rfl 1 rfl ?_
    refine J_cSiN E (As := [.int (nI 3)]) (c_X5_isSheet l G (nI 3) ) cl_X5_202 yo_X5_isSheet dX5_copy_1 rfl (Nat.le_of_ble_eq_true rfl) (Nat.le_of_ble_eq_true rfl) rfl (Nat.le_of_ble_eq_true rfl) ⟨Nat.zero_le _, Nat.zero_le _⟩ ?_
    refine J_if_eq E (tgt := 14) dX5_copy_4 (by decide) (fun c_4 => ?_) (fun c_4 => ?_)
    · skip
      have c_4 := bI_0 c_4
      exact absurd (in3 (by decide)) c_4
    · skip
      have c_4 := bI_1 c_4
      refine J_iload_n E dX5_copy_7 rfl 3 rfl ?_
      refine J_cSiN E (As := [.int (nI 0)]) (c_X5_isSheet l G (nI 0) ) cl_X5_202 yo_X5_isSheet dX5_copy_8 rfl (Nat.le_of_ble_eq_true rfl) (Nat.le_of_ble_eq_true rfl) rfl (Nat.le_of_ble_eq_true rfl) ⟨Nat.zero_le _, Nat.zero_le _⟩ ?_
      refine J_if_ne E (tgt := 20) dX5_copy_11 (by decide) (fun c_11 => ?_) (fun c_11 => ?_)
      · skip
        have c_11 := bI_1 c_11
        refine J_aload_n E dX5_copy_20 rfl 0 rfl ?_
        refine gC0_X5_44 E dX5_copy_21 ?_
        refine J_iload_n E dX5_copy_24 rfl 1 rfl ?_
        refine laC_30_3 E dX5_copy_25 ?_
        refine J_astore E (lv' := [(6, .ref (a 37)), (0, .ref (a 0)), (1, .int (nI 3)), (2, .int (nI f)), (3, .int (nI 0)), (4, .int (nI o)), (5, .int (nI m))]) dX5_copy_26 (by decide) rfl ?_
        refine J_aload_n E dX5_copy_28 rfl 1 rfl ?_
        refine gC0_X5_44 E dX5_copy_29 ?_
        refine J_iload_n E dX5_copy_32 rfl 4 rfl ?_
        refine laC_30_0 E dX5_copy_33 ?_
        refine J_astore E (lv' := [(7, .ref (a 31)), (6, .ref (a 37)), (0, .ref (a 0)), (1, .int (nI 3)), (2, .int (nI f)), (3, .int (nI 0)), (4, .int (nI o)), (5, .int (nI m))]) dX5_copy_34 (by decide) rfl ?_
        refine J_aload E dX5_copy_36 1 rfl ?_
        refine J_si11r E (As := []) (c_X2_isMissing l G (sh a 37) (x 11) ) cl_X5_212 yo_X2_isMissing dX5_copy_38 rfl (Nat.le_of_ble_eq_true rfl) (Nat.le_of_ble_eq_true rfl) rfl (Nat.le_of_ble_eq_true rfl) ⟨Nat.zero_le _, Nat.zero_le _⟩ ?_
        refine J_if_ne E (tgt := 52) dX5_copy_41 (by decide) (fun c_41 => ?_) (fun c_41 => ?_)
        · skip
          have c_41 := bI_1 c_41
          exact absurd c_41 h1
        · skip
          have c_41 := bI_0 c_41
          refine J_aload E dX5_copy_44 0 rfl ?_
          refine J_si8r E (As := []) (c_X2_isMissing l G (sh a 31) (x 8) ) cl_X5_212 yo_X2_isMissing dX5_copy_46 rfl (Nat.le_of_ble_eq_true rfl) (Nat.le_of_ble_eq_true rfl) rfl (Nat.le_of_ble_eq_true rfl) ⟨Nat.zero_le _, Nat.zero_le _⟩ ?_
          refine J_if_eq E (tgt := 58) dX5_copy_49 (by decide) (fun c_49 => ?_) (fun c_49 => ?_)
          · skip
            have c_49 := bI_0 c_49
            refine J_aload E dX5_copy_58 1 rfl ?_
            refine gC37_X5_215 E dX5_copy_60 ?_
            refine J_aload E dX5_copy_63 0 rfl ?_
            refine gC31_X5_215 E dX5_copy_65 ?_
            refine J_icmp_eq E (tgt := 77) dX5_copy_68 (by decide) (fun c_68 => ?_) (fun c_68 => ?_)
            · skip
              refine J_aload E dX5_copy_77 1 rfl ?_
              refine J_iload_n E dX5_copy_79 rfl 4 rfl ?_
              refine J_iload E dX5_copy_80 7 rfl ?_
              refine J_si11r E (As := [.int (nI f), .int (nI m)]) (c_X2_hasRun l G (sh a 37) (x 11) (nI f) (nI m) ) cl_X5_218 yo_X2_hasRun dX5_copy_82 rfl (Nat.le_of_ble_eq_true rfl) (Nat.le_of_ble_eq_true rfl) rfl (Nat.le_of_ble_eq_true rfl) ⟨Nat.zero_le _, Nat.zero_le _⟩ ?_
              refine J_if_eq E (tgt := 100) dX5_copy_85 (by decide) (fun c_85 => ?_) (fun c_85 => ?_)
              · skip
                have c_85 := bI_0 c_85
                exact absurd (runOK h5 h4 (by omega)) c_85
              · skip
                have c_85 := bI_1 c_85
                refine J_aload E dX5_copy_88 0 rfl ?_
                refine J_iload E dX5_copy_90 6 rfl ?_
                refine J_iload E dX5_copy_92 7 rfl ?_
                refine J_si8r E (As := [.int (nI o), .int (nI m)]) (c_X2_hasRun l G (sh a 31) (x 8) (nI o) (nI m) ) cl_X5_218 yo_X2_hasRun dX5_copy_94 rfl (Nat.le_of_ble_eq_true rfl) (Nat.le_of_ble_eq_true rfl) rfl (Nat.le_of_ble_eq_true rfl) ⟨Nat.zero_le _, Nat.zero_le _⟩ ?_
                refine J_if_ne E (tgt := 106) dX5_copy_97 (by decide) (fun c_97 => ?_) (fun c_97 => ?_)
                · skip
                  have c_97 := bI_1 c_97
                  refine J_aload E dX5_copy_106 1 rfl ?_
                  refine gC37_X5_221 E dX5_copy_108 ?_
                  refine J_iload_n E dX5_copy_111 rfl 4 rfl ?_
                  refine J_aload E dX5_copy_112 0 rfl ?_
                  refine gC31_X5_221 E dX5_copy_114 ?_
                  refine J_iload E dX5_copy_117 6 rfl ?_
                  refine J_iload E dX5_copy_119 7 rfl ?_
                  refine J_copyi E 38 32 ml_X5_133 na_acopy st_acopy ini_J10 dX5_copy_121 rfl rfl (nI_pos (by omega)) (nI_pos (by omega)) (nI_pos (by omega)) (by rw [nI_clamp (by omega), nI_clamp (by omega)]; omega) (by rw [nI_clamp (by omega), nI_clamp (by omega)]; omega) (by decide) (Nat.le_of_ble_eq_true rfl) ?_
                  refine J_w (ws' := wC G a (up3R x 8 0 (va_cpy (x 11 0) (x 8 0) f o m))) (by rw [nI_clamp (n := f) (by omega), nI_clamp (n := o) (by omega), nI_clamp (n := m) (by omega)]; rfl) ?_
                  refine J_iload E dX5_copy_124 7 rfl ?_
                  exact ret _ _ _ _ ⟨rfl, _, rfl, ShC.rfl'⟩ rfl dX5_copy_126
                · skip
                  have c_97 := bI_0 c_97
                  exact absurd (runOK h7 h6 (by omega)) c_97
            · skip
              exact absurd h3 c_68
          · skip
            have c_49 := bI_1 c_49
            exact absurd c_49 h2
      · skip
        have c_11 := bI_0 c_11
        exact absurd (in3 (by decide)) c_11
  · skip
    refine J_iload_n E dX5_copy_0 rfl 1 rfl ?_
    refine J_cSiN E (As := [.int (nI 3)]) (c_X5_isSheet l G (nI 3) ) cl_X5_202 yo_X5_isSheet dX5_copy_1 rfl (Nat.le_of_ble_eq_true rfl) (Nat.le_of_ble_eq_true rfl) rfl (Nat.le_of_ble_eq_true rfl) ⟨Nat.zero_le _, Nat.zero_le _⟩ ?_
    refine J_if_eq E (tgt := 14) dX5_copy_4 (by decide) (fun c_4 => ?_) (fun c_4 => ?_)
    · skip
      have c_4 := bI_0 c_4
      exact absurd (in3 (by decide)) c_4
    · skip
      have c_4 := bI_1 c_4
      refine J_iload_n E dX5_copy_7 rfl 3 rfl ?_
      refine J_cSiN E (As := [.int (nI 1)]) (c_X5_isSheet l G (nI 1) ) cl_X5_202 yo_X5_isSheet dX5_copy_8 rfl (Nat.le_of_ble_eq_true rfl) (Nat.le_of_ble_eq_true rfl) rfl (Nat.le_of_ble_eq_true rfl) ⟨Nat.zero_le _, Nat.zero_le _⟩ ?_
      refine J_if_ne E (tgt := 20) dX5_copy_11 (by decide) (fun c_11 => ?_) (fun c_11 => ?_)
      · skip
        have c_11 := bI_1 c_11
        refine J_aload_n E dX5_copy_20 rfl 0 rfl ?_
        refine gC0_X5_44 E dX5_copy_21 ?_
        refine J_iload_n E dX5_copy_24 rfl 1 rfl ?_
        refine laC_30_3 E dX5_copy_25 ?_
        refine J_astore E (lv' := [(6, .ref (a 37)), (0, .ref (a 0)), (1, .int (nI 3)), (2, .int (nI f)), (3, .int (nI 1)), (4, .int (nI o)), (5, .int (nI m))]) dX5_copy_26 (by decide) rfl ?_
        refine J_aload_n E dX5_copy_28 rfl 1 rfl ?_
        refine gC0_X5_44 E dX5_copy_29 ?_
        refine J_iload_n E dX5_copy_32 rfl 4 rfl ?_
        refine laC_30_1 E dX5_copy_33 ?_
        refine J_astore E (lv' := [(7, .ref (a 33)), (6, .ref (a 37)), (0, .ref (a 0)), (1, .int (nI 3)), (2, .int (nI f)), (3, .int (nI 1)), (4, .int (nI o)), (5, .int (nI m))]) dX5_copy_34 (by decide) rfl ?_
        refine J_aload E dX5_copy_36 1 rfl ?_
        refine J_si11r E (As := []) (c_X2_isMissing l G (sh a 37) (x 11) ) cl_X5_212 yo_X2_isMissing dX5_copy_38 rfl (Nat.le_of_ble_eq_true rfl) (Nat.le_of_ble_eq_true rfl) rfl (Nat.le_of_ble_eq_true rfl) ⟨Nat.zero_le _, Nat.zero_le _⟩ ?_
        refine J_if_ne E (tgt := 52) dX5_copy_41 (by decide) (fun c_41 => ?_) (fun c_41 => ?_)
        · skip
          have c_41 := bI_1 c_41
          exact absurd c_41 h1
        · skip
          have c_41 := bI_0 c_41
          refine J_aload E dX5_copy_44 0 rfl ?_
          refine J_si9r E (As := []) (c_X2_isMissing l G (sh a 33) (x 9) ) cl_X5_212 yo_X2_isMissing dX5_copy_46 rfl (Nat.le_of_ble_eq_true rfl) (Nat.le_of_ble_eq_true rfl) rfl (Nat.le_of_ble_eq_true rfl) ⟨Nat.zero_le _, Nat.zero_le _⟩ ?_
          refine J_if_eq E (tgt := 58) dX5_copy_49 (by decide) (fun c_49 => ?_) (fun c_49 => ?_)
          · skip
            have c_49 := bI_0 c_49
            refine J_aload E dX5_copy_58 1 rfl ?_
            refine gC37_X5_215 E dX5_copy_60 ?_
            refine J_aload E dX5_copy_63 0 rfl ?_
            refine gC33_X5_215 E dX5_copy_65 ?_
            refine J_icmp_eq E (tgt := 77) dX5_copy_68 (by decide) (fun c_68 => ?_) (fun c_68 => ?_)
            · skip
              refine J_aload E dX5_copy_77 1 rfl ?_
              refine J_iload_n E dX5_copy_79 rfl 4 rfl ?_
              refine J_iload E dX5_copy_80 7 rfl ?_
              refine J_si11r E (As := [.int (nI f), .int (nI m)]) (c_X2_hasRun l G (sh a 37) (x 11) (nI f) (nI m) ) cl_X5_218 yo_X2_hasRun dX5_copy_82 rfl (Nat.le_of_ble_eq_true rfl) (Nat.le_of_ble_eq_true rfl) rfl (Nat.le_of_ble_eq_true rfl) ⟨Nat.zero_le _, Nat.zero_le _⟩ ?_
              refine J_if_eq E (tgt := 100) dX5_copy_85 (by decide) (fun c_85 => ?_) (fun c_85 => ?_)
              · skip
                have c_85 := bI_0 c_85
                exact absurd (runOK h5 h4 (by omega)) c_85
              · skip
                have c_85 := bI_1 c_85
                refine J_aload E dX5_copy_88 0 rfl ?_
                refine J_iload E dX5_copy_90 6 rfl ?_
                refine J_iload E dX5_copy_92 7 rfl ?_
                refine J_si9r E (As := [.int (nI o), .int (nI m)]) (c_X2_hasRun l G (sh a 33) (x 9) (nI o) (nI m) ) cl_X5_218 yo_X2_hasRun dX5_copy_94 rfl (Nat.le_of_ble_eq_true rfl) (Nat.le_of_ble_eq_true rfl) rfl (Nat.le_of_ble_eq_true rfl) ⟨Nat.zero_le _, Nat.zero_le _⟩ ?_
                refine J_if_ne E (tgt := 106) dX5_copy_97 (by decide) (fun c_97 => ?_) (fun c_97 => ?_)
                · skip
                  have c_97 := bI_1 c_97
                  refine J_aload E dX5_copy_106 1 rfl ?_
                  refine gC37_X5_221 E dX5_copy_108 ?_
                  refine J_iload_n E dX5_copy_111 rfl 4 rfl ?_
                  refine J_aload E dX5_copy_112 0 rfl ?_
                  refine gC33_X5_221 E dX5_copy_114 ?_
                  refine J_iload E dX5_copy_117 6 rfl ?_
                  refine J_iload E dX5_copy_119 7 rfl ?_
                  refine J_copyi E 38 34 ml_X5_133 na_acopy st_acopy ini_J10 dX5_copy_121 rfl rfl (nI_pos (by omega)) (nI_pos (by omega)) (nI_pos (by omega)) (by rw [nI_clamp (by omega), nI_clamp (by omega)]; omega) (by rw [nI_clamp (by omega), nI_clamp (by omega)]; omega) (by decide) (Nat.le_of_ble_eq_true rfl) ?_
                  refine J_w (ws' := wC G a (up3R x 9 0 (va_cpy (x 11 0) (x 9 0) f o m))) (by rw [nI_clamp (n := f) (by omega), nI_clamp (n := o) (by omega), nI_clamp (n := m) (by omega)]; rfl) ?_
                  refine J_iload E dX5_copy_124 7 rfl ?_
                  exact ret _ _ _ _ ⟨rfl, _, rfl, ShC.rfl'⟩ rfl dX5_copy_126
                · skip
                  have c_97 := bI_0 c_97
                  exact absurd (runOK h7 h6 (by omega)) c_97
            · skip
              exact absurd h3 c_68
          · skip
            have c_49 := bI_1 c_49
            exact absurd c_49 h2
      · skip
        have c_11 := bI_0 c_11
        exact absurd (in3 (by decide)) c_11
  · skip
    refine J_iload_n E dX5_copy_0 rfl 1 rfl ?_
    refine J_cSiN E (As := [.int (nI 3)]) (c_X5_isSheet l G (nI 3) ) cl_X5_202 yo_X5_isSheet dX5_copy_1 rfl (Nat.le_of_ble_eq_true rfl) (Nat.le_of_ble_eq_true rfl) rfl (Nat.le_of_ble_eq_true rfl) ⟨Nat.zero_le _, Nat.zero_le _⟩ ?_
    refine J_if_eq E (tgt := 14) dX5_copy_4 (by decide) (fun c_4 => ?_) (fun c_4 => ?_)
    · skip
      have c_4 := bI_0 c_4
      exact absurd (in3 (by decide)) c_4
    · skip
      have c_4 := bI_1 c_4
      refine J_iload_n E dX5_copy_7 rfl 3 rfl ?_
      refine J_cSiN E (As := [.int (nI 2)]) (c_X5_isSheet l G (nI 2) ) cl_X5_202 yo_X5_isSheet dX5_copy_8 rfl (Nat.le_of_ble_eq_true rfl) (Nat.le_of_ble_eq_true rfl) rfl (Nat.le_of_ble_eq_true rfl) ⟨Nat.zero_le _, Nat.zero_le _⟩ ?_
      refine J_if_ne E (tgt := 20) dX5_copy_11 (by decide) (fun c_11 => ?_) (fun c_11 => ?_)
      · skip
        have c_11 := bI_1 c_11
        refine J_aload_n E dX5_copy_20 rfl 0 rfl ?_
        refine gC0_X5_44 E dX5_copy_21 ?_
        refine J_iload_n E dX5_copy_24 rfl 1 rfl ?_
        refine laC_30_3 E dX5_copy_25 ?_
        refine J_astore E (lv' := [(6, .ref (a 37)), (0, .ref (a 0)), (1, .int (nI 3)), (2, .int (nI f)), (3, .int (nI 2)), (4, .int (nI o)), (5, .int (nI m))]) dX5_copy_26 (by decide) rfl ?_
        refine J_aload_n E dX5_copy_28 rfl 1 rfl ?_
        refine gC0_X5_44 E dX5_copy_29 ?_
        refine J_iload_n E dX5_copy_32 rfl 4 rfl ?_
        refine laC_30_2 E dX5_copy_33 ?_
        refine J_astore E (lv' := [(7, .ref (a 35)), (6, .ref (a 37)), (0, .ref (a 0)), (1, .int (nI 3)), (2, .int (nI f)), (3, .int (nI 2)), (4, .int (nI o)), (5, .int (nI m))]) dX5_copy_34 (by decide) rfl ?_
        refine J_aload E dX5_copy_36 1 rfl ?_
        refine J_si11r E (As := []) (c_X2_isMissing l G (sh a 37) (x 11) ) cl_X5_212 yo_X2_isMissing dX5_copy_38 rfl (Nat.le_of_ble_eq_true rfl) (Nat.le_of_ble_eq_true rfl) rfl (Nat.le_of_ble_eq_true rfl) ⟨Nat.zero_le _, Nat.zero_le _⟩ ?_
        refine J_if_ne E (tgt := 52) dX5_copy_41 (by decide) (fun c_41 => ?_) (fun c_41 => ?_)
        · skip
          have c_41 := bI_1 c_41
          exact absurd c_41 h1
        · skip
          have c_41 := bI_0 c_41
          refine J_aload E dX5_copy_44 0 rfl ?_
          refine J_si10r E (As := []) (c_X2_isMissing l G (sh a 35) (x 10) ) cl_X5_212 yo_X2_isMissing dX5_copy_46 rfl (Nat.le_of_ble_eq_true rfl) (Nat.le_of_ble_eq_true rfl) rfl (Nat.le_of_ble_eq_true rfl) ⟨Nat.zero_le _, Nat.zero_le _⟩ ?_
          refine J_if_eq E (tgt := 58) dX5_copy_49 (by decide) (fun c_49 => ?_) (fun c_49 => ?_)
          · skip
            have c_49 := bI_0 c_49
            refine J_aload E dX5_copy_58 1 rfl ?_
            refine gC37_X5_215 E dX5_copy_60 ?_
            refine J_aload E dX5_copy_63 0 rfl ?_
            refine gC35_X5_215 E dX5_copy_65 ?_
            refine J_icmp_eq E (tgt := 77) dX5_copy_68 (by decide) (fun c_68 => ?_) (fun c_68 => ?_)
            · skip
              refine J_aload E dX5_copy_77 1 rfl ?_
              refine J_iload_n E dX5_copy_79 rfl 4 rfl ?_
              refine J_iload E dX5_copy_80 7 rfl ?_
              refine J_si11r E (As := [.int (nI f), .int (nI m)]) (c_X2_hasRun l G (sh a 37) (x 11) (nI f) (nI m) ) cl_X5_218 yo_X2_hasRun dX5_copy_82 rfl (Nat.le_of_ble_eq_true rfl) (Nat.le_of_ble_eq_true rfl) rfl (Nat.le_of_ble_eq_true rfl) ⟨Nat.zero_le _, Nat.zero_le _⟩ ?_
              refine J_if_eq E (tgt := 100) dX5_copy_85 (by decide) (fun c_85 => ?_) (fun c_85 => ?_)
              · skip
                have c_85 := bI_0 c_85
                exact absurd (runOK h5 h4 (by omega)) c_85
              · skip
                have c_85 := bI_1 c_85
                refine J_aload E dX5_copy_88 0 rfl ?_
                refine J_iload E dX5_copy_90 6 rfl ?_
                refine J_iload E dX5_copy_92 7 rfl ?_
                refine J_si10r E (As := [.int (nI o), .int (nI m)]) (c_X2_hasRun l G (sh a 35) (x 10) (nI o) (nI m) ) cl_X5_218 yo_X2_hasRun dX5_copy_94 rfl (Nat.le_of_ble_eq_true rfl) (Nat.le_of_ble_eq_true rfl) rfl (Nat.le_of_ble_eq_true rfl) ⟨Nat.zero_le _, Nat.zero_le _⟩ ?_
                refine J_if_ne E (tgt := 106) dX5_copy_97 (by decide) (fun c_97 => ?_) (fun c_97 => ?_)
                · skip
                  have c_97 := bI_1 c_97
                  refine J_aload E dX5_copy_106 1 rfl ?_
                  refine gC37_X5_221 E dX5_copy_108 ?_
                  refine J_iload_n E dX5_copy_111 rfl 4 rfl ?_
                  refine J_aload E dX5_copy_112 0 rfl ?_
                  refine gC35_X5_221 E dX5_copy_114 ?_
                  refine J_iload E dX5_copy_117 6 rfl ?_
                  refine J_iload E dX5_copy_119 7 rfl ?_
                  refine J_copyi E 38 36 ml_X5_133 na_acopy st_acopy ini_J10 dX5_copy_121 rfl rfl (nI_pos (by omega)) (nI_pos (by omega)) (nI_pos (by omega)) (by rw [nI_clamp (by omega), nI_clamp (by omega)]; omega) (by rw [nI_clamp (by omega), nI_clamp (by omega)]; omega) (by decide) (Nat.le_of_ble_eq_true rfl) ?_
                  refine J_w (ws' := wC G a (up3R x 10 0 (va_cpy (x 11 0) (x 10 0) f o m))) (by rw [nI_clamp (n := f) (by omega), nI_clamp (n := o) (by omega), nI_clamp (n := m) (by omega)]; rfl) ?_
                  refine J_iload E dX5_copy_124 7 rfl ?_
                  exact ret _ _ _ _ ⟨rfl, _, rfl, ShC.rfl'⟩ rfl dX5_copy_126
                · skip
                  have c_97 := bI_0 c_97
                  exact absurd (runOK h7 h6 (by omega)) c_97
            · skip
              exact absurd h3 c_68
          · skip
            have c_49 := bI_1 c_49
            exact absurd c_49 h2
      · skip
        have c_11 := bI_0 c_11
        exact absurd (in3 (by decide)) c_11
  · skip
    refine J_iload_n E dX5_copy_0 rfl 1 rfl ?_
    refine J_cSiN E (As := [.int (nI 3)]) (c_X5_isSheet l G (nI 3) ) cl_X5_202 yo_X5_isSheet dX5_copy_1 rfl (Nat.le_of_ble_eq_true rfl) (Nat.le_of_ble_eq_true rfl) rfl (Nat.le_of_ble_eq_true rfl) ⟨Nat.zero_le _, Nat.zero_le _⟩ ?_
    refine J_if_eq E (tgt := 14) dX5_copy_4 (by decide) (fun c_4 => ?_) (fun c_4 => ?_)
    · skip
      have c_4 := bI_0 c_4
      exact absurd (in3 (by decide)) c_4
    · skip
      have c_4 := bI_1 c_4
      refine J_iload_n E dX5_copy_7 rfl 3 rfl ?_
      refine J_cSiN E (As := [.int (nI 3)]) (c_X5_isSheet l G (nI 3) ) cl_X5_202 yo_X5_isSheet dX5_copy_8 rfl (Nat.le_of_ble_eq_true rfl) (Nat.le_of_ble_eq_true rfl) rfl (Nat.le_of_ble_eq_true rfl) ⟨Nat.zero_le _, Nat.zero_le _⟩ ?_
      refine J_if_ne E (tgt := 20) dX5_copy_11 (by decide) (fun c_11 => ?_) (fun c_11 => ?_)
      · skip
        have c_11 := bI_1 c_11
        refine J_aload_n E dX5_copy_20 rfl 0 rfl ?_
        refine gC0_X5_44 E dX5_copy_21 ?_
        refine J_iload_n E dX5_copy_24 rfl 1 rfl ?_
        refine laC_30_3 E dX5_copy_25 ?_
        refine J_astore E (lv' := [(6, .ref (a 37)), (0, .ref (a 0)), (1, .int (nI 3)), (2, .int (nI f)), (3, .int (nI 3)), (4, .int (nI o)), (5, .int (nI m))]) dX5_copy_26 (by decide) rfl ?_
        refine J_aload_n E dX5_copy_28 rfl 1 rfl ?_
        refine gC0_X5_44 E dX5_copy_29 ?_
        refine J_iload_n E dX5_copy_32 rfl 4 rfl ?_
        refine laC_30_3 E dX5_copy_33 ?_
        refine J_astore E (lv' := [(7, .ref (a 37)), (6, .ref (a 37)), (0, .ref (a 0)), (1, .int (nI 3)), (2, .int (nI f)), (3, .int (nI 3)), (4, .int (nI o)), (5, .int (nI m))]) dX5_copy_34 (by decide) rfl ?_
        refine J_aload E dX5_copy_36 1 rfl ?_
        refine J_si11r E (As := []) (c_X2_isMissing l G (sh a 37) (x 11) ) cl_X5_212 yo_X2_isMissing dX5_copy_38 rfl (Nat.le_of_ble_eq_true rfl) (Nat.le_of_ble_eq_true rfl) rfl (Nat.le_of_ble_eq_true rfl) ⟨Nat.zero_le _, Nat.zero_le _⟩ ?_
        refine J_if_ne E (tgt := 52) dX5_copy_41 (by decide) (fun c_41 => ?_) (fun c_41 => ?_)
        · skip
          have c_41 := bI_1 c_41
          exact absurd c_41 h1
        · skip
          have c_41 := bI_0 c_41
          refine J_aload E dX5_copy_44 0 rfl ?_
          refine J_si11r E (As := []) (c_X2_isMissing l G (sh a 37) (x 11) ) cl_X5_212 yo_X2_isMissing dX5_copy_46 rfl (Nat.le_of_ble_eq_true rfl) (Nat.le_of_ble_eq_true rfl) rfl (Nat.le_of_ble_eq_true rfl) ⟨Nat.zero_le _, Nat.zero_le _⟩ ?_
          refine J_if_eq E (tgt := 58) dX5_copy_49 (by decide) (fun c_49 => ?_) (fun c_49 => ?_)
          · skip
            have c_49 := bI_0 c_49
            refine J_aload E dX5_copy_58 1 rfl ?_
            refine gC37_X5_215 E dX5_copy_60 ?_
            refine J_aload E dX5_copy_63 0 rfl ?_
            refine gC37_X5_215 E dX5_copy_65 ?_
            refine J_icmp_eq E (tgt := 77) dX5_copy_68 (by decide) (fun c_68 => ?_) (fun c_68 => ?_)
            · skip
              refine J_aload E dX5_copy_77 1 rfl ?_
              refine J_iload_n E dX5_copy_79 rfl 4 rfl ?_
              refine J_iload E dX5_copy_80 7 rfl ?_
              refine J_si11r E (As := [.int (nI f), .int (nI m)]) (c_X2_hasRun l G (sh a 37) (x 11) (nI f) (nI m) ) cl_X5_218 yo_X2_hasRun dX5_copy_82 rfl (Nat.le_of_ble_eq_true rfl) (Nat.le_of_ble_eq_true rfl) rfl (Nat.le_of_ble_eq_true rfl) ⟨Nat.zero_le _, Nat.zero_le _⟩ ?_
              refine J_if_eq E (tgt := 100) dX5_copy_85 (by decide) (fun c_85 => ?_) (fun c_85 => ?_)
              · skip
                have c_85 := bI_0 c_85
                exact absurd (runOK h5 h4 (by omega)) c_85
              · skip
                have c_85 := bI_1 c_85
                refine J_aload E dX5_copy_88 0 rfl ?_
                refine J_iload E dX5_copy_90 6 rfl ?_
                refine J_iload E dX5_copy_92 7 rfl ?_
                refine J_si11r E (As := [.int (nI o), .int (nI m)]) (c_X2_hasRun l G (sh a 37) (x 11) (nI o) (nI m) ) cl_X5_218 yo_X2_hasRun dX5_copy_94 rfl (Nat.le_of_ble_eq_true rfl) (Nat.le_of_ble_eq_true rfl) rfl (Nat.le_of_ble_eq_true rfl) ⟨Nat.zero_le _, Nat.zero_le _⟩ ?_
                refine J_if_ne E (tgt := 106) dX5_copy_97 (by decide) (fun c_97 => ?_) (fun c_97 => ?_)
                · skip
                  have c_97 := bI_1 c_97
                  refine J_aload E dX5_copy_106 1 rfl ?_
                  refine gC37_X5_221 E dX5_copy_108 ?_
                  refine J_iload_n E dX5_copy_111 rfl 4 rfl ?_
                  refine J_aload E dX5_copy_112 0 rfl ?_
                  refine gC37_X5_221 E dX5_copy_114 ?_
                  refine J_iload E dX5_copy_117 6 rfl ?_
                  refine J_iload E dX5_copy_119 7 rfl ?_
                  refine J_copyi E 38 38 ml_X5_133 na_acopy st_acopy ini_J10 dX5_copy_121 rfl rfl (nI_pos (by omega)) (nI_pos (by omega)) (nI_pos (by omega)) (by rw [nI_clamp (by omega), nI_clamp (by omega)]; omega) (by rw [nI_clamp (by omega), nI_clamp (by omega)]; omega) (by decide) (Nat.le_of_ble_eq_true rfl) ?_
                  refine J_w (ws' := wC G a (up3R x 11 0 (va_cpy (x 11 0) (x 11 0) f o m))) (by rw [nI_clamp (n := f) (by omega), nI_clamp (n := o) (by omega), nI_clamp (n := m) (by omega)]; rfl) ?_
                  refine J_iload E dX5_copy_124 7 rfl ?_
                  exact ret _ _ _ _ ⟨rfl, _, rfl, ShC.rfl'⟩ rfl dX5_copy_126
                · skip
                  have c_97 := bI_0 c_97
                  exact absurd (runOK h7 h6 (by omega)) c_97
            · skip
              exact absurd h3 c_68
          · skip
            have c_49 := bI_1 c_49
            exact absurd c_49 h2
      · skip
        have c_11 := bI_0 c_11
        exact absurd (in3 (by decide)) c_11
