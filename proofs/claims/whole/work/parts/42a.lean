theorem wM_c {G : GB} {b : Nat → Nat} {y y' : Q3} (h0 : y 0 = y' 0) (h1 : y 1 = y' 1) (h2 : y 2 = y' 2) (h3 : y 3 = y' 3) (h5 : y 5 = y' 5) (h6 : y 6 = y' 6) (h7 : y 7 = y' 7) (h8 : y 8 = y' 8) (h9 : y 9 = y' 9) (h10 : y 10 = y' 10) (h11 : y 11 = y' 11) : wM G b y = wM G b y' := by
  unfold wM
  rw [h0, h1, h2, h3, h5, h6, h7, h8, h9, h10, h11]
section JE5
variable {X : JX} {l : Launch} {G : GB} {cc : ByteArray} {nL fr lo kc ks pc : Nat} {lv : List (Nat × Value)} {st : List Value}
theorem J_callEi (E : JE X l G cc RX6 nL fr lo) {y : MethodName} {bc : ByteArray} {mL fr' lo' idx na : Nat} {rt : FieldType} {As rest : List Value} {b : Nat → Nat} {S B : Q3} {F : Q2} {R : Int32} (hc : CI l y bc mL rt fr' lo' G (.ref (b 0) :: As) (wM G b S) (fun vR w' => vR = R ∧ ∃ d : Q2, w' = wM G b (upG (upG B 5 d) 0 F))) (hg : GoodIn lw_T (wsV RX6 idx RX6 y (WS y bc mL (some rt)))) (hy : y.cls = RX6 ∧ y.cls ≠ "java/lang/invoke/MethodHandle" ∧ y.cls ≠ "java/lang/invoke/VarHandle" ∧ (parseMethodDescriptor y.desc).map (fun d => d.parameters.length) = some na) (hd : decode cc pc = .ok (.invokevirtual idx, 3)) (hn : As.length = na) (hR1 : fr' + 1 ≤ fr) (hR2 : 8 + (mL + 11) + lo' ≤ lo) (hst : st = As.reverse ++ .ref (b 0) :: rest) (hrm : (rest.map fun v => v.category).sum ≤ 8) (hk : kc ≤ X.1.2.2.2.1.cells ∧ ks ≤ X.1.2.2.2.1.slots)
    (K : ∀ d : Q2, J X G nL kc ks (wM G b (upG (upG B 5 d) 0 F)) lv (pc + 3) (.int R :: rest)) : J X G nL kc ks (wM G b S) lv pc st :=
  J_callVi E (q0 := 0) (ci := 5) [] [] hc hg hy hd rfl rfl hn hR1 hR2 hst hrm (by simp) hk (fun r w' h => by obtain ⟨rfl, d, rfl⟩ := h; simpa using K d)
theorem J_callEv (E : JE X l G cc RX6 nL fr lo) {y : MethodName} {bc : ByteArray} {mL fr' lo' idx na : Nat} {As rest : List Value} {b : Nat → Nat} {S B : Q3} {F : Q2} (hc : CV l y bc mL fr' lo' 0 0 G (.ref (b 0) :: As) (wM G b S) (fun w' => ∃ d : Q2, w' = wM G b (upG (upG B 5 d) 0 F))) (hg : GoodIn lw_T (wsV RX6 idx RX6 y (WS y bc mL none))) (hy : y.cls = RX6 ∧ y.cls ≠ "java/lang/invoke/MethodHandle" ∧ y.cls ≠ "java/lang/invoke/VarHandle" ∧ (parseMethodDescriptor y.desc).map (fun d => d.parameters.length) = some na) (hd : decode cc pc = .ok (.invokevirtual idx, 3)) (hn : As.length = na) (hR1 : fr' + 1 ≤ fr) (hR2 : 8 + (mL + 11) + lo' ≤ lo) (hst : st = As.reverse ++ .ref (b 0) :: rest) (hrm : (rest.map fun v => v.category).sum ≤ 8) (hk : kc ≤ X.1.2.2.2.1.cells ∧ ks ≤ X.1.2.2.2.1.slots)
    (K : ∀ d : Q2, J X G nL kc ks (wM G b (upG (upG B 5 d) 0 F)) lv (pc + 3) rest) : J X G nL kc ks (wM G b S) lv pc st :=
  J_callVv E (q0 := 0) (ci := 5) [] [] hc hg hy hd rfl rfl hn hR1 hR2 hst hrm (by simp) hk (fun w' h => by obtain ⟨d, rfl⟩ := h; simpa using K d)
end JE5
theorem inB1 {n b : Nat} (h1 : 1 ≤ n) (h2 : n ≤ b) (hb : b < 2 ^ 31) : 1 ≤ nI n ∧ nI n ≤ nI b := ⟨nI_le (a := 1) (b := n) h1 (by omega), nI_le h2 hb⟩
theorem or_0 (s : Int32) : s ||| 0 = s := by rw [Int32.or_zero]
theorem hd5_2 (q d : Q2) : hd5 q d 2 0 = dryR q := by simp [hd5, upR, up2, upd]
theorem hd5_1 (q d : Q2) : hd5 q d 1 = d 1 := by simp [hd5, upR, up2]
def wetB (q : Q2) (j m : Nat) : Bool := decide (drysR q m >>> (nI j &&& 31) &&& 1 = 0)
def stillB (q : Q2) : Bool := allF (fun h => decide (hourR0 q 1 h = q 1 h)) 11
def turn1 (q : Q2) (h : Nat) : Q2 := up2 q 4 h (1 - q 4 h)
def turnRS (q : Q2) (s : Int32) : Nat → Q2
  | 0 => q
  | n + 1 => if s >>> (nI n &&& 31) &&& 1 = 1 then turn1 (turnRS q s n) n else turnRS q s n
def turnRQ (q : Q2) (s : Int32) : Q2 := turnRS q s 11
theorem okQ_w {q : Q2} (h : okQ q) {w : Nat} (j : Nat) (v : Int32) (h0 : ¬ w = 0) (h4 : ¬ w = 4) : okQ (up2 q w j v) := okQ_c h (up2_n q j v (fun e => h0 e.symm)) (up2_n q j v (fun e => h4 e.symm))
theorem okQ_k {q : Q2} (h : okQ q) (j : Nat) {k : Nat} (hk : k < 7) : okQ (up2 q 0 j (nI k)) := by
  refine ⟨spOk_c h.1 (up2_n q j _ (by decide)), fun i hi => ?_⟩
  by_cases e : i = j
  · subst e; exact ⟨k, hk, up2_s⟩
  · rw [up2_d e]; exact h.2 i hi
theorem okQ_1 {q : Q2} (h : okQ q) (j : Nat) (hj : j < 11) : okQ (turn1 q j) := by
  refine ⟨fun i hi => ?_, fun i hi => by rw [turn1, up2_n q j _ (by decide)]; exact h.2 i hi⟩
  unfold turn1
  by_cases e : i = j
  · subst e
    rw [up2_s]
    rcases h.1 i hi with a | a <;> rw [a] <;> decide
  · rw [up2_d e]; exact h.1 i hi
theorem okQ_t {q : Q2} (h : okQ q) (s : Int32) : ∀ n, n ≤ 11 → okQ (turnRS q s n)
  | 0, _ => h
  | n + 1, hn => by
    rw [turnRS]
    split
    · exact okQ_1 (okQ_t h s n (by omega)) n (by omega)
    · exact okQ_t h s n (by omega)
theorem okQ_com {q : Q2} (h : okQ q) (j : Nat) (v : Int32) : okQ (comesR q j v) := okQ_c h (comesR_0 _ _ _) (comesR_4 _ _ _)
/-- the best set, of so many tried -/
def tbF (q : Q2) (v : Int32) (m : Nat) : Nat → Int32
  | 0 => -1
  | n + 1 => if (tbF q v m n < 0 ∨ onesF (nI n) 11 < onesF (tbF q v m n) 11) ∧ drysR (turnRQ q (nI n)) m &&& v = 0 then nI n else tbF q v m n
theorem allF_z {p : Nat → Bool} {n : Nat} {s : Int32} (h : s = bI (allF p n = true)) (h0 : s = 0) : 0 = bI (allF p (n + 1) = true) := by
  refine (bI_f (fun z => ?_)).symm
  rw [allF, Bool.and_eq_true] at z
  rw [h, bI_t z.1] at h0
  exact absurd h0 (by decide)
theorem allF_n {p : Nat → Bool} {n : Nat} (h : ¬ p n = true) : 0 = bI (allF p (n + 1) = true) := by
  refine (bI_f (fun z => ?_)).symm
  rw [allF, Bool.and_eq_true] at z
  exact h z.2
theorem allF_y {p : Nat → Bool} {n : Nat} {s : Int32} (h : s = bI (allF p n = true)) (h1 : ¬ s = 0) (hp : p n = true) : 1 = bI (allF p (n + 1) = true) := by
  refine (bI_t ?_).symm
  rw [allF, Bool.and_eq_true]
  exact ⟨bI_1 (h ▸ h1), hp⟩
theorem bool_b {s : Int32} {b : Bool} (h : s = bI (b = true)) (h0 : s = 0) : ¬ b = true := bI_0 (h ▸ h0)
theorem bool_t {s : Int32} {b : Bool} (h : s = bI (b = true)) (h0 : ¬ s = 0) : b = true := bI_1 (h ▸ h0)

set_option maxHeartbeats 4000000 in
set_option maxRecDepth 20000 in
theorem c_X6_hours (l : Launch) (G : GB) (b : Nat → Nat) (y : Q3) (m : Nat) (hm : m ≤ 1000) (hok : okQ (y 0))  : CV l yX6_hours cX6_hours 3 4 91 0 0 G [.ref (b 0), .int (nI m)] (wM G b y) (fun w' => ∃ d : Q2, w' = wM G b (upG (upG y 5 d) 0 (hoursR (y 0) m))) := by
  refine CV.mk (own := RX6) (by decide) rfl (Nat.le_of_ble_eq_true rfl) ?_
  intro X E _ _ _ ret
  show J X G 3 0 0 (wM G b y) [(0, .ref (b 0)), (1, .int (nI m))] 0 []
  refine J_iconst E dX6_hours_0 ic_0 ?_
  refine J_istore_n E (lv' := [(2, .int 0), (0, .ref (b 0)), (1, .int (nI m))]) dX6_hours_1 rfl (by decide) rfl ?_
  refine J_w (ws' := wM G b (upG y 5 (y 5))) (congrArg (wM G b) upG_id.symm) ?_
  have lp2 : ∀ (fu : Nat) (i : Nat) (d : Q2) (r : Q2), (i ≤ m) → (r = hoursR (y 0) i) → m - i < fu → J X G 3 0 0 (wM G b (upG (upG y 5 d) 0 r)) [(0, .ref (b 0)), (1, .int (nI m)), (2, .int (nI i))] 2 [] := by
    intro fu
    induction fu with
    | zero => intro i d r hi hr hm; exact absurd hm (Nat.not_lt_zero _)
    | succ fu ih2 =>
      intro i d r hi hr hm
      refine J_iload_n E dX6_hours_2 rfl 2 rfl ?_
      refine J_iload_n E dX6_hours_3 rfl 1 rfl ?_
      refine J_icmp_ge E (tgt := 17) dX6_hours_4 (by decide) (fun c_4 => ?_) (fun c_4 => ?_)
      · skip
        have n_4 : m ≤ i := cmp_le (a := m) (b := i) (by omega) (by omega) c_4
        exact ret _ _ _ ⟨d, by subst hr; rw [show m = i by omega]⟩ dX6_hours_17
      · skip
        have n_4 : ¬ m ≤ i := cmp_nle (a := m) (b := i) (by omega) (by omega) c_4
        refine J_aload_n E dX6_hours_7 rfl 0 rfl ?_
        refine J_cVv0 E (As := []) (c_X6_anHour l G b (upG (upG y 5 d) 0 r) (by rw [hr]; exact okQ_hs hok i)) cl_X6_138 yo_X6_anHour dX6_hours_8 rfl rfl rfl (Nat.le_of_ble_eq_true rfl) (Nat.le_of_ble_eq_true rfl) rfl (Nat.le_of_ble_eq_true rfl) ⟨Nat.zero_le _, Nat.zero_le _⟩ ?_
        refine J_iinc E (lv' := [(2, .int (nI (i + 1))), (0, .ref (b 0)), (1, .int (nI m))]) dX6_hours_11 2 rfl (nI_inc _) (by decide) rfl ?_
        refine J_goto E (tgt := 2) dX6_hours_14 (by decide) ?_
        refine J_lv [1, 2, 0] rfl ?_
        refine J_w (ws' := wM G b (upG (upG y 5 (hd5 r d)) 0 (hourR0 r))) (wM_c rfl rfl rfl rfl rfl rfl rfl rfl rfl rfl rfl) ?_
        exact ih2 (i + 1) (hd5 r d) (hourR0 r) (by omega) (by rw [hr]; rfl) (by omega)
  refine J_lv [1, 2, 0] rfl ?_
  refine J_w (ws' := wM G b (upG (upG y 5 (y 5)) 0 (y 0))) (wM_c rfl rfl rfl rfl rfl rfl rfl rfl rfl rfl rfl) ?_
  exact lp2 _ 0 (y 5) (y 0) (by omega) rfl (Nat.lt_succ_self _)

set_option maxHeartbeats 4000000 in
set_option maxRecDepth 20000 in
theorem c_X6_dryIn (l : Launch) (G : GB) (b : Nat → Nat) (y : Q3) (m : Nat) (hm : m ≤ 1000) (hok : okQ (y 0))  : CI l yX6_dryIn cX6_dryIn 4 .int 4 91 G [.ref (b 0), .int (nI m)] (wM G b y) (fun vR w' => vR = drysR (y 0) m ∧ ∃ d : Q2, w' = wM G b (upG (upG y 5 d) 0 (hoursR (y 0) m))) := by
  refine CI.mk (own := RX6) (by decide) rfl (Nat.le_of_ble_eq_true rfl) ?_
  intro X E ret
  show J X G 4 0 0 (wM G b y) [(0, .ref (b 0)), (1, .int (nI m))] 0 []
  refine J_iconst E dX6_dryIn_0 ic_0 ?_
  refine J_istore_n E (lv' := [(2, .int 0), (0, .ref (b 0)), (1, .int (nI m))]) dX6_dryIn_1 rfl (by decide) rfl ?_
  refine J_iconst E dX6_dryIn_2 ic_0 ?_
  refine J_istore_n E (lv' := [(3, .int 0), (2, .int 0), (0, .ref (b 0)), (1, .int (nI m))]) dX6_dryIn_3 rfl (by decide) rfl ?_
  refine J_w (ws' := wM G b (upG y 5 (y 5))) (congrArg (wM G b) upG_id.symm) ?_
  have lp4 : ∀ (fu : Nat) (i : Nat) (s : Int32) (d : Q2) (r : Q2), (i ≤ m) → (r = hoursR (y 0) i) → (s = drysR (y 0) i) → m - i < fu → J X G 4 0 0 (wM G b (upG (upG y 5 d) 0 r)) [(0, .ref (b 0)), (1, .int (nI m)), (2, .int s), (3, .int (nI i))] 4 [] := by
    intro fu
    induction fu with
    | zero => intro i s d r hi hr hs hm; exact absurd hm (Nat.not_lt_zero _)
    | succ fu ih4 =>
      intro i s d r hi hr hs hm
      refine J_iload_n E dX6_dryIn_4 rfl 3 rfl ?_
      refine J_iload_n E dX6_dryIn_5 rfl 1 rfl ?_
      refine J_icmp_ge E (tgt := 26) dX6_dryIn_6 (by decide) (fun c_6 => ?_) (fun c_6 => ?_)
      · skip
        have n_6 : m ≤ i := cmp_le (a := m) (b := i) (by omega) (by omega) c_6
        refine J_iload_n E dX6_dryIn_26 rfl 2 rfl ?_
        exact ret _ _ _ _ ⟨by rw [hs, show m = i by omega], d, by subst hr; rw [show m = i by omega]⟩ rfl dX6_dryIn_27
      · skip
        have n_6 : ¬ m ≤ i := cmp_nle (a := m) (b := i) (by omega) (by omega) c_6
        refine J_aload_n E dX6_dryIn_9 rfl 0 rfl ?_
        refine J_cVv0 E (As := []) (c_X6_anHour l G b (upG (upG y 5 d) 0 r) (by rw [hr]; exact okQ_hs hok i)) cl_X6_138 yo_X6_anHour dX6_dryIn_10 rfl rfl rfl (Nat.le_of_ble_eq_true rfl) (Nat.le_of_ble_eq_true rfl) rfl (Nat.le_of_ble_eq_true rfl) ⟨Nat.zero_le _, Nat.zero_le _⟩ ?_
        refine J_iload_n E dX6_dryIn_13 rfl 2 rfl ?_
        refine J_aload_n E dX6_dryIn_14 rfl 0 rfl ?_
        refine gM0_X6_131 E dX6_dryIn_15 ?_
        refine J_top (x' := (hd5 r d) 2 0) (Eq.trans (upG_n (by decide)) upG_s) ?_
        refine J_top (x' := dryR r) (hd5_2 _ _) ?_
        refine J_ior E dX6_dryIn_18 ?_
        refine J_istore_n E (lv' := [(2, .int (s ||| (dryR r))), (0, .ref (b 0)), (1, .int (nI m)), (3, .int (nI i))]) dX6_dryIn_19 rfl (by decide) rfl ?_
        refine J_iinc E (lv' := [(3, .int (nI (i + 1))), (2, .int (s ||| (dryR r))), (0, .ref (b 0)), (1, .int (nI m))]) dX6_dryIn_20 3 rfl (nI_inc _) (by decide) rfl ?_
        refine J_goto E (tgt := 4) dX6_dryIn_23 (by decide) ?_
        refine J_lv [2, 3, 1, 0] rfl ?_
        refine J_w (ws' := wM G b (upG (upG y 5 (hd5 r d)) 0 (hourR0 r))) (wM_c rfl rfl rfl rfl rfl rfl rfl rfl rfl rfl rfl) ?_
        exact ih4 (i + 1) (s ||| (dryR r)) (hd5 r d) (hourR0 r) (by omega) (by rw [hr]; rfl) (by rw [hs, hr]; rfl) (by omega)
  refine J_lv [2, 3, 1, 0] rfl ?_
  refine J_w (ws' := wM G b (upG (upG y 5 (y 5)) 0 (y 0))) (wM_c rfl rfl rfl rfl rfl rfl rfl rfl rfl rfl rfl) ?_
  exact lp4 _ 0 0 (y 5) (y 0) (by omega) rfl rfl (Nat.lt_succ_self _)

set_option maxHeartbeats 4000000 in
set_option maxRecDepth 20000 in
theorem c_X6_waters (l : Launch) (G : GB) (b : Nat → Nat) (y : Q3)  : CI l yX6_waters cX6_waters 3 .int 1 22 G [.ref (b 0)] (wM G b y) (fun vR w' => vR = sumF (y 0 1) 11 ∧ w' = wM G b y) := by
  refine CI.mk (own := RX6) (by decide) rfl (Nat.le_of_ble_eq_true rfl) ?_
  intro X E ret
  show J X G 3 0 0 (wM G b y) [(0, .ref (b 0))] 0 []
  refine J_iconst E dX6_waters_0 ic_0 ?_
  refine J_istore_n E (lv' := [(1, .int 0), (0, .ref (b 0))]) dX6_waters_1 rfl (by decide) rfl ?_
  refine J_iconst E dX6_waters_2 ic_0 ?_
  refine J_istore_n E (lv' := [(2, .int 0), (1, .int 0), (0, .ref (b 0))]) dX6_waters_3 rfl (by decide) rfl ?_
  have lp4 : ∀ (fu : Nat) (i : Nat) (c : Int32), (i ≤ 11) → (c = sumF (y 0 1) i) → 11 - i < fu → J X G 3 0 0 (wM G b y) [(0, .ref (b 0)), (1, .int c), (2, .int (nI i))] 4 [] := by
    intro fu
    induction fu with
    | zero => intro i c hi h1 hm; exact absurd hm (Nat.not_lt_zero _)
    | succ fu ih4 =>
      intro i c hi h1 hm
      refine J_iload_n E dX6_waters_4 rfl 2 rfl ?_
      refine J_bipush E dX6_waters_5 bp_11 ?_
      refine J_icmp_ge E (tgt := 25) dX6_waters_7 (by decide) (fun c_7 => ?_) (fun c_7 => ?_)
      · skip
        have n_7 : 11 ≤ i := cmp_le (a := 11) (b := i) (by omega) (by omega) c_7
        refine J_iload_n E dX6_waters_25 rfl 1 rfl ?_
        exact ret _ _ _ _ ⟨by rw [h1, show i = 11 by omega], (congrArg (wM G b) (rfl))⟩ rfl dX6_waters_26
      · skip
        have n_7 : ¬ 11 ≤ i := cmp_nle (a := 11) (b := i) (by omega) (by omega) c_7
        refine J_iload_n E dX6_waters_10 rfl 1 rfl ?_
        refine J_aload_n E dX6_waters_11 rfl 0 rfl ?_
        refine J_iload_n E dX6_waters_12 rfl 2 rfl ?_
        refine J_iconst E dX6_waters_13 ic_1 ?_
        refine J_cVi0 E (As := [.int (nI i), .int 1]) (c_X6_its l G b y i 1 (by omega) (by omega)) cl_X6_64 yo_X6_its dX6_waters_14 rfl rfl rfl (Nat.le_of_ble_eq_true rfl) (Nat.le_of_ble_eq_true rfl) rfl (Nat.le_of_ble_eq_true rfl) ⟨Nat.zero_le _, Nat.zero_le _⟩ ?_
        refine J_iadd E dX6_waters_17 ?_
        refine J_istore_n E (lv' := [(1, .int (c + (y 0 1 i))), (0, .ref (b 0)), (2, .int (nI i))]) dX6_waters_18 rfl (by decide) rfl ?_
        refine J_iinc E (lv' := [(2, .int (nI (i + 1))), (1, .int (c + (y 0 1 i))), (0, .ref (b 0))]) dX6_waters_19 2 rfl (nI_inc _) (by decide) rfl ?_
        refine J_goto E (tgt := 4) dX6_waters_22 (by decide) ?_
        refine J_lv [2, 1, 0] rfl ?_
        exact ih4 (i + 1) (c + (y 0 1 i)) (by omega) (by rw [h1]; rfl) (by omega)
  refine J_lv [2, 1, 0] rfl ?_
  exact lp4 _ 0 0 (by omega) rfl (Nat.lt_succ_self _)

set_option maxHeartbeats 4000000 in
set_option maxRecDepth 20000 in
theorem c_X6_dryEver (l : Launch) (G : GB) (b : Nat → Nat) (y : Q3)  : CI l yX6_dryEver cX6_dryEver 3 .int 1 22 G [.ref (b 0)] (wM G b y) (fun vR w' => vR = setF (fun j => decide (0 < y 0 5 j)) 11 ∧ w' = wM G b y) := by
  refine CI.mk (own := RX6) (by decide) rfl (Nat.le_of_ble_eq_true rfl) ?_
  intro X E ret
  show J X G 3 0 0 (wM G b y) [(0, .ref (b 0))] 0 []
  refine J_iconst E dX6_dryEver_0 ic_0 ?_
  refine J_istore_n E (lv' := [(1, .int 0), (0, .ref (b 0))]) dX6_dryEver_1 rfl (by decide) rfl ?_
  refine J_iconst E dX6_dryEver_2 ic_0 ?_
  refine J_istore_n E (lv' := [(2, .int 0), (1, .int 0), (0, .ref (b 0))]) dX6_dryEver_3 rfl (by decide) rfl ?_
  have lp4 : ∀ (fu : Nat) (i : Nat) (c : Int32), (i ≤ 11) → (c = setF (fun j => decide (0 < y 0 5 j)) i) → 11 - i < fu → J X G 3 0 0 (wM G b y) [(0, .ref (b 0)), (1, .int c), (2, .int (nI i))] 4 [] := by
    intro fu
    induction fu with
    | zero => intro i c hi h1 hm; exact absurd hm (Nat.not_lt_zero _)
    | succ fu ih4 =>
      intro i c hi h1 hm
      refine J_iload_n E dX6_dryEver_4 rfl 2 rfl ?_
      refine J_bipush E dX6_dryEver_5 bp_11 ?_
      refine J_icmp_ge E (tgt := 35) dX6_dryEver_7 (by decide) (fun c_7 => ?_) (fun c_7 => ?_)
      · skip
        have n_7 : 11 ≤ i := cmp_le (a := 11) (b := i) (by omega) (by omega) c_7
        refine J_iload_n E dX6_dryEver_35 rfl 1 rfl ?_
        exact ret _ _ _ _ ⟨by rw [h1, show i = 11 by omega], (congrArg (wM G b) (rfl))⟩ rfl dX6_dryEver_36
      · skip
        have n_7 : ¬ 11 ≤ i := cmp_nle (a := 11) (b := i) (by omega) (by omega) c_7
        refine J_iload_n E dX6_dryEver_10 rfl 1 rfl ?_
        refine J_aload_n E dX6_dryEver_11 rfl 0 rfl ?_
        refine J_iload_n E dX6_dryEver_12 rfl 2 rfl ?_
        refine J_iconst E dX6_dryEver_13 ic_5 ?_
        refine J_cVi0 E (As := [.int (nI i), .int 5]) (c_X6_its l G b y i 5 (by omega) (by omega)) cl_X6_64 yo_X6_its dX6_dryEver_14 rfl rfl rfl (Nat.le_of_ble_eq_true rfl) (Nat.le_of_ble_eq_true rfl) rfl (Nat.le_of_ble_eq_true rfl) ⟨Nat.zero_le _, Nat.zero_le _⟩ ?_
        refine J_if_le E (tgt := 26) dX6_dryEver_17 (by decide) (fun c_17 => ?_) (fun c_17 => ?_)
        · skip
          refine J_iconst E dX6_dryEver_26 ic_0 ?_
          refine J_ior E dX6_dryEver_27 ?_
          refine J_istore_n E (lv' := [(1, .int (c ||| 0)), (0, .ref (b 0)), (2, .int (nI i))]) dX6_dryEver_28 rfl (by decide) rfl ?_
          refine J_iinc E (lv' := [(2, .int (nI (i + 1))), (1, .int (c ||| 0)), (0, .ref (b 0))]) dX6_dryEver_29 2 rfl (nI_inc _) (by decide) rfl ?_
          refine J_goto E (tgt := 4) dX6_dryEver_32 (by decide) ?_
          refine J_lv [2, 1, 0] rfl ?_
          exact ih4 (i + 1) (c ||| 0) (by omega) (by rw [h1, setF]; first | (rw [if_pos (decide_eq_true (Int32.not_le.mp c_17))]; rfl) | (rw [if_neg (c := decide (0 < y 0 5 i) = true) (fun z => absurd (of_decide_eq_true z) (Int32.not_lt.mpr c_17)), or_0])) (by omega)
        · skip
          refine J_iconst E dX6_dryEver_20 ic_1 ?_
          refine J_iload_n E dX6_dryEver_21 rfl 2 rfl ?_
          refine J_ishl E dX6_dryEver_22 ?_
          refine J_goto E (tgt := 27) dX6_dryEver_23 (by decide) ?_
          refine J_ior E dX6_dryEver_27 ?_
          refine J_istore_n E (lv' := [(1, .int (c ||| (1 <<< ((nI i) &&& 31)))), (0, .ref (b 0)), (2, .int (nI i))]) dX6_dryEver_28 rfl (by decide) rfl ?_
          refine J_iinc E (lv' := [(2, .int (nI (i + 1))), (1, .int (c ||| (1 <<< ((nI i) &&& 31)))), (0, .ref (b 0))]) dX6_dryEver_29 2 rfl (nI_inc _) (by decide) rfl ?_
          refine J_goto E (tgt := 4) dX6_dryEver_32 (by decide) ?_
          refine J_lv [2, 1, 0] rfl ?_
          exact ih4 (i + 1) (c ||| (1 <<< ((nI i) &&& 31))) (by omega) (by rw [h1, setF]; first | (rw [if_pos (decide_eq_true (Int32.not_le.mp c_17))]; rfl) | (rw [if_neg (c := decide (0 < y 0 5 i) = true) (fun z => absurd (of_decide_eq_true z) (Int32.not_lt.mpr c_17)), or_0])) (by omega)
  refine J_lv [2, 1, 0] rfl ?_
  exact lp4 _ 0 0 (by omega) rfl (Nat.lt_succ_self _)

set_option maxHeartbeats 4000000 in
set_option maxRecDepth 20000 in
theorem c_X6_spoutSet (l : Launch) (G : GB) (b : Nat → Nat) (y : Q3)  : CI l yX6_spoutSet cX6_spoutSet 3 .int 1 22 G [.ref (b 0)] (wM G b y) (fun vR w' => vR = spoF (y 0) 11 ∧ w' = wM G b y) := by
  refine CI.mk (own := RX6) (by decide) rfl (Nat.le_of_ble_eq_true rfl) ?_
  intro X E ret
  show J X G 3 0 0 (wM G b y) [(0, .ref (b 0))] 0 []
  refine J_iconst E dX6_spoutSet_0 ic_0 ?_
  refine J_istore_n E (lv' := [(1, .int 0), (0, .ref (b 0))]) dX6_spoutSet_1 rfl (by decide) rfl ?_
  refine J_iconst E dX6_spoutSet_2 ic_0 ?_
  refine J_istore_n E (lv' := [(2, .int 0), (1, .int 0), (0, .ref (b 0))]) dX6_spoutSet_3 rfl (by decide) rfl ?_
  have lp4 : ∀ (fu : Nat) (i : Nat) (c : Int32), (i ≤ 11) → (c = spoF (y 0) i) → 11 - i < fu → J X G 3 0 0 (wM G b y) [(0, .ref (b 0)), (1, .int c), (2, .int (nI i))] 4 [] := by
    intro fu
    induction fu with
    | zero => intro i c hi h1 hm; exact absurd hm (Nat.not_lt_zero _)
    | succ fu ih4 =>
      intro i c hi h1 hm
      refine J_iload_n E dX6_spoutSet_4 rfl 2 rfl ?_
      refine J_bipush E dX6_spoutSet_5 bp_11 ?_
      refine J_icmp_ge E (tgt := 27) dX6_spoutSet_7 (by decide) (fun c_7 => ?_) (fun c_7 => ?_)
      · skip
        have n_7 : 11 ≤ i := cmp_le (a := 11) (b := i) (by omega) (by omega) c_7
        refine J_iload_n E dX6_spoutSet_27 rfl 1 rfl ?_
        exact ret _ _ _ _ ⟨by rw [h1, show i = 11 by omega], (congrArg (wM G b) (rfl))⟩ rfl dX6_spoutSet_28
      · skip
        have n_7 : ¬ 11 ≤ i := cmp_nle (a := 11) (b := i) (by omega) (by omega) c_7
        refine J_iload_n E dX6_spoutSet_10 rfl 1 rfl ?_
        refine J_aload_n E dX6_spoutSet_11 rfl 0 rfl ?_
        refine J_iload_n E dX6_spoutSet_12 rfl 2 rfl ?_
        refine J_iconst E dX6_spoutSet_13 ic_4 ?_
        refine J_cVi0 E (As := [.int (nI i), .int 4]) (c_X6_its l G b y i 4 (by omega) (by omega)) cl_X6_64 yo_X6_its dX6_spoutSet_14 rfl rfl rfl (Nat.le_of_ble_eq_true rfl) (Nat.le_of_ble_eq_true rfl) rfl (Nat.le_of_ble_eq_true rfl) ⟨Nat.zero_le _, Nat.zero_le _⟩ ?_
        refine J_iload_n E dX6_spoutSet_17 rfl 2 rfl ?_
        refine J_ishl E dX6_spoutSet_18 ?_
        refine J_ior E dX6_spoutSet_19 ?_
        refine J_istore_n E (lv' := [(1, .int (c ||| ((y 0 4 i) <<< ((nI i) &&& 31)))), (0, .ref (b 0)), (2, .int (nI i))]) dX6_spoutSet_20 rfl (by decide) rfl ?_
        refine J_iinc E (lv' := [(2, .int (nI (i + 1))), (1, .int (c ||| ((y 0 4 i) <<< ((nI i) &&& 31)))), (0, .ref (b 0))]) dX6_spoutSet_21 2 rfl (nI_inc _) (by decide) rfl ?_
        refine J_goto E (tgt := 4) dX6_spoutSet_24 (by decide) ?_
        refine J_lv [2, 1, 0] rfl ?_
        exact ih4 (i + 1) (c ||| ((y 0 4 i) <<< ((nI i) &&& 31))) (by omega) (by rw [h1]; rfl) (by omega)
  refine J_lv [2, 1, 0] rfl ?_
  exact lp4 _ 0 0 (by omega) rfl (Nat.lt_succ_self _)
