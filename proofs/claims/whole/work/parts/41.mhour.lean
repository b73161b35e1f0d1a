def ShM (x y : Q3) : Prop := ∀ g, g ≠ 2 → g ≠ 5 → g ≠ 6 → x g = y g
theorem ShM.rfl' {x : Q3} : ShM x x := fun _ _ _ _ => rfl
theorem ShM.trans {x y z : Q3} (h : ShM x y) (h2 : ShM y z) : ShM x z := fun g a b c => (h g a b c).trans (h2 g a b c)
theorem ShM.q {x y : Q3} (h : ShM x y) : x 0 = y 0 := h 0 (by decide) (by decide) (by decide)
def PubM (G : GB) (b : Nat → Nat) (y : Q3) (w : va_W) : Prop := ∃ y', w = wM G b y' ∧ ShM y' y
def onesF (s : Int32) : Nat → Int32
  | 0 => 0
  | n + 1 => onesF s n + (s >>> (nI n &&& 31) &&& 1)
def abvM (k : Int32) : Int32 := if k = 3 then 2 else if k = 4 then 3 else if k = 6 then 1 else 0
/-- water comes to a HOUSE -/
def comesR (q : Q2) (h : Nat) (v : Int32) : Q2 := up2 (loseF q (mx 0 (q 1 h + v - 9999))) 1 h (mn 9999 (q 1 h + v))
def takeQ (q : Q2) (h : Nat) : Q2 := up2 (if leftF q h < 0 then up2 q 5 h (mn 9999 (q 5 h + 1)) else q) 1 h (mx 0 (leftF q h))
def tkS (q : Q2) : Nat → Q2
  | 0 => q
  | n + 1 => takeQ (tkS q n) n
def tkD (q : Q2) : Nat → Int32
  | 0 => 0
  | n + 1 => stepD (tkS q n) n (tkD q n)
def goF (q : Q2) (h : Nat) : Int32 := mx 0 (q 1 h - keepF (q 0 h) (q 3 h) (q 2 h))
def kpS (q : Q2) : Nat → Q2
  | 0 => q
  | n + 1 => up2 (kpS q n) 1 n (kpS q n 1 n - goF (kpS q n) n)
def gpS (q : Q2) (g : Nat → Int32) : Nat → Nat → Int32
  | 0 => g
  | n + 1 => upd (gpS q g n) n (goF (kpS q n) n)
def outQ (q : Q2) (g : Nat → Int32) (h : Nat) : Q2 :=
  if leadF (loseF q (mn (g h) (loseK (q 0 h)))) h < 0 then up2 (loseF q (mn (g h) (loseK (q 0 h)))) 7 3 (mn 999999 (loseF q (mn (g h) (loseK (q 0 h))) 7 3 + g h - mn (g h) (loseK (q 0 h))))
  else comesR (loseF q (mn (g h) (loseK (q 0 h)))) (leadF (loseF q (mn (g h) (loseK (q 0 h)))) h).toNatClampNeg (g h - mn (g h) (loseK (q 0 h)))
def ouS (q : Q2) (g : Nat → Int32) : Nat → Q2
  | 0 => q
  | n + 1 => outQ (ouS q g n) g n
def hq1 (q : Q2) : Q2 := tkS (comesR q 0 (q 7 2)) 11
def hq3 (q : Q2) (g : Nat → Int32) : Q2 := ouS (kpS (hq1 q) 11) (gpS (hq1 q) g 11) 11
def hourR (q : Q2) (g : Nat → Int32) : Q2 := up2 (hq3 q g) 7 0 (hq3 q g 7 0 + 1)
def dryR (q : Q2) : Int32 := tkD (comesR q 0 (q 7 2)) 11
theorem comesR_4 (q : Q2) (h : Nat) (v : Int32) : comesR q h v 4 = q 4 := by simp [comesR, up2, loseF]
theorem takeQ_4 (q : Q2) (h : Nat) : takeQ q h 4 = q 4 := by unfold takeQ; split <;> simp [up2]
theorem tkS_4 (q : Q2) : ∀ n, tkS q n 4 = q 4
  | 0 => rfl
  | n + 1 => by rw [tkS, takeQ_4, tkS_4 q n]
theorem kpS_4 (q : Q2) : ∀ n, kpS q n 4 = q 4
  | 0 => rfl
  | n + 1 => by rw [kpS]; simp only [up2, show ¬ (4 = 1) by decide, if_false]; exact kpS_4 q n
theorem outQ_4 (q : Q2) (g : Nat → Int32) (h : Nat) : outQ q g h 4 = q 4 := by
  unfold outQ
  split
  · simp [up2, loseF]
  · rw [comesR_4]; simp [up2, loseF]
theorem ouS_4 (q : Q2) (g : Nat → Int32) : ∀ n, ouS q g n 4 = q 4
  | 0 => rfl
  | n + 1 => by rw [ouS, outQ_4, ouS_4 q g n]
theorem hourR_4 (q : Q2) (g : Nat → Int32) : hourR q g 4 = q 4 := by
  simp only [hourR, up2, show ¬ (4 = 7) by decide, if_false]
  rw [hq3, ouS_4, kpS_4, hq1, tkS_4, comesR_4]
theorem spOk_c {q q' : Q2} (h : spOk q) (e : q' 4 = q 4) : spOk q' := fun j hj => by rw [e]; exact h j hj
theorem lead_nn {q : Q2} {i : Nat} (h : spOk q) (hi : i < 11) (hc : ¬ leadF q i < 0) : ∃ w : Nat, w < 11 ∧ leadF q i = nI w := by
  rcases leadF_in h hi with e | e
  · rw [e] at hc; exact absurd (by decide) hc
  · exact vp_in_of e (by decide)
theorem in_le {v lo hi : Int32} : (Int32.toInt64 lo ≤ Int32.toInt64 v ∧ Int32.toInt64 v ≤ Int32.toInt64 hi) ↔ (lo ≤ v ∧ v ≤ hi) := by
  rw [Int32.toInt64_le', Int32.toInt64_le']
theorem up3_id {y : Q3} {g r j : Nat} : up3 y g r j (y g r j) = y := by
  funext g' r' j'
  by_cases h : g' = g
  · subst h
    by_cases h2 : r' = r
    · subst h2
      by_cases h3 : j' = j
      · subst h3; simp [up3, up2, upd]
      · simp [up3, up2, upd, h3]
    · simp [up3, up2, h2]
  · simp [up3, h]
theorem up2_up2 {q : Q2} {r j : Nat} {v w : Int32} : up2 (up2 q r j v) r j w = up2 q r j w := by
  funext r' j'
  by_cases h2 : r' = r
  · subst h2
    by_cases h3 : j' = j
    · subst h3; simp [up2, upd]
    · simp [up2, upd, h3]
  · simp [up2, h2]
theorem upR_id {q : Q2} {r : Nat} : upR q r (q r) = q := by
  funext r'
  by_cases h : r' = r
  · subst h; simp [upR]
  · simp [upR, h]
theorem up2_upR {q : Q2} {r i : Nat} {f : Nat → Int32} {v : Int32} : up2 (upR q r f) r i v = upR q r (upd f i v) := by
  funext r'
  by_cases h : r' = r
  · subst h; simp [upR, up2]
  · simp [upR, up2, h]
theorem comesR_0 (q : Q2) (h : Nat) (v : Int32) : comesR q h v 0 = q 0 := rfl
theorem takeQ_0 (q : Q2) (h : Nat) : takeQ q h 0 = q 0 := by unfold takeQ; split <;> rfl
theorem tkS_0 (q : Q2) : ∀ n, tkS q n 0 = q 0
  | 0 => rfl
  | n + 1 => by rw [tkS, takeQ_0, tkS_0 q n]
theorem kpS_0 (q : Q2) : ∀ n, kpS q n 0 = q 0
  | 0 => rfl
  | n + 1 => kpS_0 q n
theorem outQ_0 (q : Q2) (g : Nat → Int32) (h : Nat) : outQ q g h 0 = q 0 := by unfold outQ; split <;> rfl
theorem ouS_0 (q : Q2) (g : Nat → Int32) : ∀ n, ouS q g n 0 = q 0
  | 0 => rfl
  | n + 1 => by rw [ouS, outQ_0, ouS_0 q g n]
theorem hourR_0 (q : Q2) (g : Nat → Int32) : hourR q g 0 = q 0 := by
  have e : hourR q g 0 = hq3 q g 0 := by simp only [hourR, up2, show ¬ (0 = 7) by decide, if_false]
  rw [e, hq3, ouS_0, kpS_0, hq1, tkS_0, comesR_0]
theorem gpS_c (q : Q2) (g g' : Nat → Int32) : ∀ n j, j < n → gpS q g n j = gpS q g' n j
  | 0, _, h => absurd h (Nat.not_lt_zero _)
  | n + 1, j, h => by
    rw [gpS, gpS]
    by_cases e : j = n
    · subst e; rw [pk_us, pk_us]
    · rw [pk_un e, pk_un e]; exact gpS_c q g g' n j (by omega)
theorem outQ_c {q : Q2} {g g' : Nat → Int32} {h : Nat} (e : g h = g' h) : outQ q g h = outQ q g' h := by unfold outQ; rw [e]
theorem ouS_c (q : Q2) {g g' : Nat → Int32} : ∀ n, (∀ j, j < n → g j = g' j) → ouS q g n = ouS q g' n
  | 0, _ => rfl
  | n + 1, h => by rw [ouS, ouS, ouS_c q n (fun j hj => h j (by omega)), outQ_c (h n (by omega))]
def hourR0 (q : Q2) : Q2 := hourR q (fun _ => 0)
theorem hourR_g (q : Q2) (g : Nat → Int32) : hourR q g = hourR0 q := by
  unfold hourR0 hourR
  have e : hq3 q g = hq3 q (fun _ => 0) := ouS_c _ 11 (fun j hj => gpS_c _ _ _ 11 j hj)
  rw [e]
def hd5 (q d : Q2) : Q2 := upR (up2 d 2 0 (dryR q)) 0 (gpS (hq1 q) (d 0) 11)
def okQ (q : Q2) : Prop := spOk q ∧ ∀ j, j < 11 → ∃ k : Nat, k < 7 ∧ q 0 j = nI k
theorem okQ_c {q q' : Q2} (h : okQ q) (e0 : q' 0 = q 0) (e4 : q' 4 = q 4) : okQ q' := ⟨spOk_c h.1 e4, fun j hj => by rw [e0]; exact h.2 j hj⟩
theorem okQ_h {q : Q2} (h : okQ q) : okQ (hourR0 q) := okQ_c h (hourR_0 _ _) (hourR_4 _ _)
def hoursR (q : Q2) : Nat → Q2
  | 0 => q
  | n + 1 => hourR0 (hoursR q n)
def drysR (q : Q2) : Nat → Int32
  | 0 => 0
  | n + 1 => drysR q n ||| dryR (hoursR q n)
theorem okQ_hs {q : Q2} (h : okQ q) : ∀ n, okQ (hoursR q n)
  | 0 => h
  | n + 1 => okQ_h (okQ_hs h n)
theorem upG_up {y : Q3} {g r j : Nat} {v : Int32} : up3 y g r j v = upG y g (up2 (y g) r j v) := rfl

set_option maxHeartbeats 4000000 in
set_option maxRecDepth 20000 in
theorem c_X6_in (l : Launch) (G : GB) (v lo hi : Int32) (al bh : Int64) (ha : al = Int32.toInt64 lo) (hb : bh = Int32.toInt64 hi) : CI l yX6_in cX6_in 6 .boolean 0 0 G [.long (Int32.toInt64 v), .long al, .long bh] ([]) (fun vR w' => vR = bI (lo ≤ v ∧ v ≤ hi) ∧ w' = []) := by
  refine CI.mk (own := RX6) (by decide) rfl (Nat.le_of_ble_eq_true rfl) ?_
  intro X E ret
  show J X G 6 0 0 ([]) [(0, .long (Int32.toInt64 v)), (2, .long al), (4, .long bh)] 0 []
  subst ha hb
  refine J_lload_n E dX6_in_0 rfl 0 rfl ?_
  refine J_lload_n E dX6_in_1 rfl 1 rfl ?_
  refine J_lcmp E dX6_in_2 ?_
  refine J_if_lt E (tgt := 17) dX6_in_3 (by decide) (fun c_3 => ?_) (fun c_3 => ?_)
  · skip
    refine J_iconst E dX6_in_17 ic_0 ?_
    exact ret _ _ _ _ ⟨by first | (rw [bI_t]; exact in_le.mp ⟨Int64.not_lt.mp (fun z => c_3 ((lg_cmp_lt _ _).mpr z)), Int64.not_lt.mp (fun z => c_10 ((lg_cmp_gt _ _).mpr z))⟩) | (rw [bI_f]; intro z; have z := in_le.mpr z; first | exact absurd ((lg_cmp_lt _ _).mp c_3) (Int64.not_lt.mpr z.1) | exact absurd ((lg_cmp_gt _ _).mp c_10) (Int64.not_lt.mpr z.2)), rfl⟩ rfl dX6_in_18
  · skip
    refine J_lload_n E dX6_in_6 rfl 0 rfl ?_
    refine J_lload E dX6_in_7 2 rfl ?_
    refine J_lcmp E dX6_in_9 ?_
    refine J_if_gt E (tgt := 17) dX6_in_10 (by decide) (fun c_10 => ?_) (fun c_10 => ?_)
    · skip
      refine J_iconst E dX6_in_17 ic_0 ?_
      exact ret _ _ _ _ ⟨by first | (rw [bI_t]; exact in_le.mp ⟨Int64.not_lt.mp (fun z => c_3 ((lg_cmp_lt _ _).mpr z)), Int64.not_lt.mp (fun z => c_10 ((lg_cmp_gt _ _).mpr z))⟩) | (rw [bI_f]; intro z; have z := in_le.mpr z; first | exact absurd ((lg_cmp_lt _ _).mp c_3) (Int64.not_lt.mpr z.1) | exact absurd ((lg_cmp_gt _ _).mp c_10) (Int64.not_lt.mpr z.2)), rfl⟩ rfl dX6_in_18
    · skip
      refine J_iconst E dX6_in_13 ic_1 ?_
      refine J_goto E (tgt := 18) dX6_in_14 (by decide) ?_
      exact ret _ _ _ _ ⟨by first | (rw [bI_t]; exact in_le.mp ⟨Int64.not_lt.mp (fun z => c_3 ((lg_cmp_lt _ _).mpr z)), Int64.not_lt.mp (fun z => c_10 ((lg_cmp_gt _ _).mpr z))⟩) | (rw [bI_f]; intro z; have z := in_le.mpr z; first | exact absurd ((lg_cmp_lt _ _).mp c_3) (Int64.not_lt.mpr z.1) | exact absurd ((lg_cmp_gt _ _).mp c_10) (Int64.not_lt.mpr z.2)), rfl⟩ rfl dX6_in_18

set_option maxHeartbeats 4000000 in
set_option maxRecDepth 20000 in
theorem c_X6_isHouse (l : Launch) (G : GB) (v : Int32) : CI l yX6_isHouse cX6_isHouse 1 .boolean 1 25 G [.int v] ([]) (fun vR w' => vR = bI (0 ≤ v ∧ v ≤ 10) ∧ w' = []) := by
  refine CI.mk (own := RX6) (by decide) rfl (Nat.le_of_ble_eq_true rfl) ?_
  intro X E ret
  show J X G 1 0 0 ([]) [(0, .int v)] 0 []
  refine J_iload_n E dX6_isHouse_0 rfl 0 rfl ?_
  refine J_i2l E dX6_isHouse_1 rfl ?_
  refine J_lconst E dX6_isHouse_2 lc_0 ?_
  refine J_ldc2 E kl_X6_52 dX6_isHouse_3 ?_
  refine J_cSiN E (As := [.long (Int32.toInt64 v), .long 0, .long 10]) (c_X6_in l G v 0 10 0 10 (by decide) (by decide) ) cl_X6_54 yo_X6_in dX6_isHouse_6 rfl (Nat.le_of_ble_eq_true rfl) (Nat.le_of_ble_eq_true rfl) rfl (Nat.le_of_ble_eq_true rfl) ⟨Nat.zero_le _, Nat.zero_le _⟩ ?_
  exact ret _ _ _ _ ⟨rfl, rfl⟩ bI_nar dX6_isHouse_9

set_option maxHeartbeats 4000000 in
set_option maxRecDepth 20000 in
theorem c_X6_isKind (l : Launch) (G : GB) (v : Int32) : CI l yX6_isKind cX6_isKind 1 .boolean 1 25 G [.int v] ([]) (fun vR w' => vR = bI (0 ≤ v ∧ v ≤ 6) ∧ w' = []) := by
  refine CI.mk (own := RX6) (by decide) rfl (Nat.le_of_ble_eq_true rfl) ?_
  intro X E ret
  show J X G 1 0 0 ([]) [(0, .int v)] 0 []
  refine J_iload_n E dX6_isKind_0 rfl 0 rfl ?_
  refine J_i2l E dX6_isKind_1 rfl ?_
  refine J_lconst E dX6_isKind_2 lc_0 ?_
  refine J_ldc2 E kl_X6_62 dX6_isKind_3 ?_
  refine J_cSiN E (As := [.long (Int32.toInt64 v), .long 0, .long 6]) (c_X6_in l G v 0 6 0 6 (by decide) (by decide) ) cl_X6_54 yo_X6_in dX6_isKind_6 rfl (Nat.le_of_ble_eq_true rfl) (Nat.le_of_ble_eq_true rfl) rfl (Nat.le_of_ble_eq_true rfl) ⟨Nat.zero_le _, Nat.zero_le _⟩ ?_
  exact ret _ _ _ _ ⟨rfl, rfl⟩ bI_nar dX6_isKind_9

set_option maxHeartbeats 4000000 in
set_option maxRecDepth 20000 in
theorem c_X6_isAhead (l : Launch) (G : GB) (v : Int32) : CI l yX6_isAhead cX6_isAhead 1 .boolean 1 25 G [.int v] ([]) (fun vR w' => vR = bI (0 ≤ v ∧ v ≤ 100) ∧ w' = []) := by
  refine CI.mk (own := RX6) (by decide) rfl (Nat.le_of_ble_eq_true rfl) ?_
  intro X E ret
  show J X G 1 0 0 ([]) [(0, .int v)] 0 []
  refine J_iload_n E dX6_isAhead_0 rfl 0 rfl ?_
  refine J_i2l E dX6_isAhead_1 rfl ?_
  refine J_lconst E dX6_isAhead_2 lc_0 ?_
  refine J_ldc2 E kl_X6_153 dX6_isAhead_3 ?_
  refine J_cSiN E (As := [.long (Int32.toInt64 v), .long 0, .long 100]) (c_X6_in l G v 0 100 0 100 (by decide) (by decide) ) cl_X6_54 yo_X6_in dX6_isAhead_6 rfl (Nat.le_of_ble_eq_true rfl) (Nat.le_of_ble_eq_true rfl) rfl (Nat.le_of_ble_eq_true rfl) ⟨Nat.zero_le _, Nat.zero_le _⟩ ?_
  exact ret _ _ _ _ ⟨rfl, rfl⟩ bI_nar dX6_isAhead_9

set_option maxHeartbeats 4000000 in
set_option maxRecDepth 20000 in
theorem c_X6_isSoon (l : Launch) (G : GB) (v : Int32) : CI l yX6_isSoon cX6_isSoon 1 .boolean 1 25 G [.int v] ([]) (fun vR w' => vR = bI (0 ≤ v ∧ v ≤ 40) ∧ w' = []) := by
  refine CI.mk (own := RX6) (by decide) rfl (Nat.le_of_ble_eq_true rfl) ?_
  intro X E ret
  show J X G 1 0 0 ([]) [(0, .int v)] 0 []
  refine J_iload_n E dX6_isSoon_0 rfl 0 rfl ?_
  refine J_i2l E dX6_isSoon_1 rfl ?_
  refine J_lconst E dX6_isSoon_2 lc_0 ?_
  refine J_ldc2 E kl_X6_155 dX6_isSoon_3 ?_
  refine J_cSiN E (As := [.long (Int32.toInt64 v), .long 0, .long 40]) (c_X6_in l G v 0 40 0 40 (by decide) (by decide) ) cl_X6_54 yo_X6_in dX6_isSoon_6 rfl (Nat.le_of_ble_eq_true rfl) (Nat.le_of_ble_eq_true rfl) rfl (Nat.le_of_ble_eq_true rfl) ⟨Nat.zero_le _, Nat.zero_le _⟩ ?_
  exact ret _ _ _ _ ⟨rfl, rfl⟩ bI_nar dX6_isSoon_9

set_option maxHeartbeats 4000000 in
set_option maxRecDepth 20000 in
theorem c_X6_isSpot (l : Launch) (G : GB) (v : Int32) : CI l yX6_isSpot cX6_isSpot 1 .boolean 1 25 G [.int v] ([]) (fun vR w' => vR = bI (0 ≤ v ∧ v ≤ 9) ∧ w' = []) := by
  refine CI.mk (own := RX6) (by decide) rfl (Nat.le_of_ble_eq_true rfl) ?_
  intro X E ret
  show J X G 1 0 0 ([]) [(0, .int v)] 0 []
  refine J_iload_n E dX6_isSpot_0 rfl 0 rfl ?_
  refine J_i2l E dX6_isSpot_1 rfl ?_
  refine J_lconst E dX6_isSpot_2 lc_0 ?_
  refine J_ldc2 E kl_X6_99 dX6_isSpot_3 ?_
  refine J_cSiN E (As := [.long (Int32.toInt64 v), .long 0, .long 9]) (c_X6_in l G v 0 9 0 9 (by decide) (by decide) ) cl_X6_54 yo_X6_in dX6_isSpot_6 rfl (Nat.le_of_ble_eq_true rfl) (Nat.le_of_ble_eq_true rfl) rfl (Nat.le_of_ble_eq_true rfl) ⟨Nat.zero_le _, Nat.zero_le _⟩ ?_
  exact ret _ _ _ _ ⟨rfl, rfl⟩ bI_nar dX6_isSpot_9

set_option maxHeartbeats 4000000 in
set_option maxRecDepth 20000 in
theorem c_X6_isSheet (l : Launch) (G : GB) (v : Int32) : CI l yX6_isSheet cX6_isSheet 1 .boolean 1 25 G [.int v] ([]) (fun vR w' => vR = bI (0 ≤ v ∧ v ≤ 3) ∧ w' = []) := by
  refine CI.mk (own := RX6) (by decide) rfl (Nat.le_of_ble_eq_true rfl) ?_
  intro X E ret
  show J X G 1 0 0 ([]) [(0, .int v)] 0 []
  refine J_iload_n E dX6_isSheet_0 rfl 0 rfl ?_
  refine J_i2l E dX6_isSheet_1 rfl ?_
  refine J_lconst E dX6_isSheet_2 lc_0 ?_
  refine J_ldc2 E kl_X6_301 dX6_isSheet_3 ?_
  refine J_cSiN E (As := [.long (Int32.toInt64 v), .long 0, .long 3]) (c_X6_in l G v 0 3 0 3 (by decide) (by decide) ) cl_X6_54 yo_X6_in dX6_isSheet_6 rfl (Nat.le_of_ble_eq_true rfl) (Nat.le_of_ble_eq_true rfl) rfl (Nat.le_of_ble_eq_true rfl) ⟨Nat.zero_le _, Nat.zero_le _⟩ ?_
  exact ret _ _ _ _ ⟨rfl, rfl⟩ bI_nar dX6_isSheet_9

set_option maxHeartbeats 4000000 in
set_option maxRecDepth 20000 in
theorem c_X6_finds (l : Launch) (G : GB) (b : Nat → Nat) (y : Q3) (k : Nat) (hk : k < 7) : CI l yX6_finds cX6_finds 2 .int 0 0 G [.ref (b 0), .int (nI k)] (wM G b y) (fun vR w' => vR = tellR k ∧ w' = wM G b (tellX y k)) := by
  refine CI.mk (own := RX6) (by decide) rfl (Nat.le_of_ble_eq_true rfl) ?_
  intro X E ret
  show J X G 2 0 0 (wM G b y) [(0, .ref (b 0)), (1, .int (nI k))] 0 []
  refine J_aload_n E dX6_finds_0 rfl 0 rfl ?_
  refine gM0_X6_19 E dX6_finds_1 ?_
  refine J_iload_n E dX6_finds_4 rfl 1 rfl ?_
  refine J_dup2 E dX6_finds_5 rfl rfl ?_
  refine lM_4 E (j := k) dX6_finds_6 (by omega) ?_
  refine J_iconst E dX6_finds_7 ic_1 ?_
  refine J_iadd E dX6_finds_8 ?_
  refine sM_4 E (j := k) dX6_finds_9 (by omega) ?_
  refine J_ldc E kn_X6_47 dX6_finds_10 ?_
  refine J_iload_n E dX6_finds_12 rfl 1 rfl ?_
  refine J_isub E dX6_finds_13 ?_
  exact ret _ _ _ _ ⟨rfl, (congrArg (wM G b) (rfl))⟩ rfl dX6_finds_14

theorem perm4_02 {α : Type} (c p1 p2 p3 : α) : List.Perm [c, p1, p2, p3] [p1, p3, c, p2] := by
  classical
  rw [List.perm_iff_count]
  intro z
  simp only [List.count_cons, List.count_nil]
  omega
theorem perm4_20 {α : Type} (c p1 p2 p3 : α) : List.Perm [c, p1, p2, p3] [p3, p1, c, p2] := by
  classical
  rw [List.perm_iff_count]
  intro z
  simp only [List.count_cons, List.count_nil]
  omega
theorem perm4_01 {α : Type} (c p1 p2 p3 : α) : List.Perm [c, p1, p2, p3] [p1, p2, c, p3] := by
  classical
  rw [List.perm_iff_count]
  intro z
  simp only [List.count_cons, List.count_nil]
  omega
theorem perm4_10 {α : Type} (c p1 p2 p3 : α) : List.Perm [c, p1, p2, p3] [p2, p1, c, p3] := by
  classical
  rw [List.perm_iff_count]
  intro z
  simp only [List.count_cons, List.count_nil]
  omega
set_option maxHeartbeats 4000000 in
set_option maxRecDepth 20000 in
theorem c_X6_become (l : Launch) (G : GB) (p p2 : Nat) (f g : Nat → Int32) : CV l yX6_become cX6_become 3 0 0 0 0 G [.ref p, .ref p2] [(p, .inl (G.2.1, 81, .inl f)), (p2, .inl (G.2.1, 81, .inl g))] (fun w' => w' = [(p, .inl (G.2.1, 81, .inl f)), (p2, .inl (G.2.1, 81, .inl f))]) := by
  refine CV.mk (own := RX6) (by decide) rfl (Nat.le_of_ble_eq_true rfl) ?_
  intro X E _ _ _ ret
  show J X G 3 0 0 [(p, .inl (G.2.1, 81, .inl f)), (p2, .inl (G.2.1, 81, .inl g))] [(0, .ref p), (1, .ref p2)] 0 []
  refine J_iconst E dX6_become_0 ic_0 ?_
  refine J_istore_n E (lv' := [(2, .int 0), (0, .ref p), (1, .ref p2)]) dX6_become_1 rfl (by decide) rfl ?_
  have lp : ∀ (k i : Nat) (g : Nat → Int32), i ≤ 81 → (∀ j, j < i → g j = f j) → 81 - i < k → J X G 3 0 0 [(p, .inl (G.2.1, 81, .inl f)), (p2, .inl (G.2.1, 81, .inl g))] [(2, .int (nI i)), (0, .ref p), (1, .ref p2)] 2 [] := by
    intro k
    induction k with
    | zero => intro i g _ _ hm; exact absurd hm (Nat.not_lt_zero _)
    | succ k ih =>
      intro i g hi hg hm
      refine J_iload_n E dX6_become_2 rfl 0 rfl ?_
      refine J_bipush E dX6_become_3 bp_81 ?_
      refine J_icmp_ge E (tgt := 20) dX6_become_5 (by decide) (fun c_5 => ?_) (fun c_5 => ?_)
      · have n_5 : 81 ≤ i := cmp_le (a := 81) (b := i) (by decide) (by omega) c_5
        refine J_arr 1 rfl (g := f) (fun j hj => hg j (by omega)) ?_
        exact ret _ _ _ rfl dX6_become_20
      · have n_5 : ¬ 81 ≤ i := cmp_nle (a := 81) (b := i) (by decide) (by omega) c_5
        refine J_aload_n E dX6_become_8 rfl 2 rfl ?_
        refine J_iload_n E dX6_become_9 rfl 0 rfl ?_
        refine J_aload_n E dX6_become_10 rfl 1 rfl ?_
        refine J_iload_n E dX6_become_11 rfl 0 rfl ?_
        refine J_ialdN E (j := i) 0 dX6_become_12 rfl (by omega) (by decide) ?_
        refine J_iastN E (j := i) 1 dX6_become_13 rfl (by omega) (by decide) ?_
        refine J_iinc E (lv' := [(2, .int (nI (i + 1))), (0, .ref p), (1, .ref p2)]) dX6_become_14 0 rfl (nI_inc _) (by decide) rfl ?_
        refine J_goto E (tgt := 2) dX6_become_17 (by decide) ?_
        exact ih (i + 1) (upd g i (f i)) (by omega) (fun j hj => by
          by_cases e : j = i
          · rw [e]; exact pk_us
          · rw [pk_un e]; exact hg j (by omega)) (by omega)
  exact lp _ 0 g (Nat.zero_le _) (fun j hj => absurd hj (Nat.not_lt_zero j)) (Nat.lt_succ_self _)
section LND
variable {X : JX} {l : Launch} {G : GB} {cc : ByteArray} {nL fr lo kc ks pc : Nat} {lv : List (Nat × Value)} {rest : List Value}
set_option maxHeartbeats 4000000 in
theorem J_m02 (E : JE X l G cc RX6 nL fr lo) {b : Nat → Nat} {y : Q3} (hd : decode cc pc = .ok (.invokestatic 48, 3)) (hR1 : 1 ≤ fr) (hR2 : 22 ≤ lo) (hrm : (rest.map fun v => v.category).sum ≤ 8) (hk : kc ≤ X.1.2.2.2.1.cells ∧ ks ≤ X.1.2.2.2.1.slots) (K : J X G nL kc ks (wM G b (upG y 2 (y 0))) lv (pc + 3) rest) : J X G nL kc ks (wM G b y) lv pc (.ref (b 3) :: .ref (b 1) :: rest) := by
  refine J_perm (ws' := ([] ++ ([(b 1, .inl (G.2.1, 81, .inl (flat (y 0)))), (b 3, .inl (G.2.1, 81, .inl (flat (y 2))))] ++ ([(b 0, .inr (5, [.ref (b 1), .ref (b 2), .ref (b 3), .int (y 3 1 0), .ref (b 4), .ref (b 5), .int (y 5 2 0), .ref (b 6), .ref (b 7), .int (y 7 1 0), .int (y 6 1 0), .int (y 6 1 1), .int (y 6 1 2), .ref (b 8), .ref (b 9), .ref (b 10), .ref (b 11)])), (b 2, .inl (G.2.1, 81, .inl (flat (y 1))))] ++ [(b 4, .inl (G.2.1, 7, .inl (y 3 0))), (b 5, .inl (G.2.1, 11, .inl (y 5 0))), (b 6, .inl (G.2.1, 11, .inl (y 5 1))), (b 7, .inl (G.2.1, 120, .inl (y 7 0))), (b 8, .inl (G.2.1, 4, .inl (fun k => pick4 k (y 8 1 0) (y 9 1 0) (y 10 1 0) (y 11 1 0)))), (b 9, .inl (G.2.1, 4, .inl (fun k => pick4 k (y 8 1 1) (y 9 1 1) (y 10 1 1) (y 11 1 1)))), (b 10, .inl (G.2.1, 160, .inl (fun k => pick4 (k / 40) (y 8 0 (k % 40)) (y 9 0 (k % 40)) (y 10 0 (k % 40)) (y 11 0 (k % 40))))), (b 11, .inl (G.2.1, 40, .inl (y 5 3)))])) : va_W)) ?_ ?_
  · show List.Perm (α := Nat × va_E) ([(b 0, .inr (5, [.ref (b 1), .ref (b 2), .ref (b 3), .int (y 3 1 0), .ref (b 4), .ref (b 5), .int (y 5 2 0), .ref (b 6), .ref (b 7), .int (y 7 1 0), .int (y 6 1 0), .int (y 6 1 1), .int (y 6 1 2), .ref (b 8), .ref (b 9), .ref (b 10), .ref (b 11)])), (b 1, .inl (G.2.1, 81, .inl (flat (y 0)))), (b 2, .inl (G.2.1, 81, .inl (flat (y 1)))), (b 3, .inl (G.2.1, 81, .inl (flat (y 2))))] ++ [(b 4, .inl (G.2.1, 7, .inl (y 3 0))), (b 5, .inl (G.2.1, 11, .inl (y 5 0))), (b 6, .inl (G.2.1, 11, .inl (y 5 1))), (b 7, .inl (G.2.1, 120, .inl (y 7 0))), (b 8, .inl (G.2.1, 4, .inl (fun k => pick4 k (y 8 1 0) (y 9 1 0) (y 10 1 0) (y 11 1 0)))), (b 9, .inl (G.2.1, 4, .inl (fun k => pick4 k (y 8 1 1) (y 9 1 1) (y 10 1 1) (y 11 1 1)))), (b 10, .inl (G.2.1, 160, .inl (fun k => pick4 (k / 40) (y 8 0 (k % 40)) (y 9 0 (k % 40)) (y 10 0 (k % 40)) (y 11 0 (k % 40))))), (b 11, .inl (G.2.1, 40, .inl (y 5 3)))]) ([(b 1, .inl (G.2.1, 81, .inl (flat (y 0)))), (b 3, .inl (G.2.1, 81, .inl (flat (y 2)))), (b 0, .inr (5, [.ref (b 1), .ref (b 2), .ref (b 3), .int (y 3 1 0), .ref (b 4), .ref (b 5), .int (y 5 2 0), .ref (b 6), .ref (b 7), .int (y 7 1 0), .int (y 6 1 0), .int (y 6 1 1), .int (y 6 1 2), .ref (b 8), .ref (b 9), .ref (b 10), .ref (b 11)])), (b 2, .inl (G.2.1, 81, .inl (flat (y 1))))] ++ [(b 4, .inl (G.2.1, 7, .inl (y 3 0))), (b 5, .inl (G.2.1, 11, .inl (y 5 0))), (b 6, .inl (G.2.1, 11, .inl (y 5 1))), (b 7, .inl (G.2.1, 120, .inl (y 7 0))), (b 8, .inl (G.2.1, 4, .inl (fun k => pick4 k (y 8 1 0) (y 9 1 0) (y 10 1 0) (y 11 1 0)))), (b 9, .inl (G.2.1, 4, .inl (fun k => pick4 k (y 8 1 1) (y 9 1 1) (y 10 1 1) (y 11 1 1)))), (b 10, .inl (G.2.1, 160, .inl (fun k => pick4 (k / 40) (y 8 0 (k % 40)) (y 9 0 (k % 40)) (y 10 0 (k % 40)) (y 11 0 (k % 40))))), (b 11, .inl (G.2.1, 40, .inl (y 5 3)))])
    refine List.Perm.append_right _ ?_
    exact perm4_02 _ _ _ _
  refine J_cSv1 E (As := [.ref (b 1), .ref (b 3)]) [] ([(b 0, .inr (5, [.ref (b 1), .ref (b 2), .ref (b 3), .int (y 3 1 0), .ref (b 4), .ref (b 5), .int (y 5 2 0), .ref (b 6), .ref (b 7), .int (y 7 1 0), .int (y 6 1 0), .int (y 6 1 1), .int (y 6 1 2), .ref (b 8), .ref (b 9), .ref (b 10), .ref (b 11)])), (b 2, .inl (G.2.1, 81, .inl (flat (y 1))))] ++ [(b 4, .inl (G.2.1, 7, .inl (y 3 0))), (b 5, .inl (G.2.1, 11, .inl (y 5 0))), (b 6, .inl (G.2.1, 11, .inl (y 5 1))), (b 7, .inl (G.2.1, 120, .inl (y 7 0))), (b 8, .inl (G.2.1, 4, .inl (fun k => pick4 k (y 8 1 0) (y 9 1 0) (y 10 1 0) (y 11 1 0)))), (b 9, .inl (G.2.1, 4, .inl (fun k => pick4 k (y 8 1 1) (y 9 1 1) (y 10 1 1) (y 11 1 1)))), (b 10, .inl (G.2.1, 160, .inl (fun k => pick4 (k / 40) (y 8 0 (k % 40)) (y 9 0 (k % 40)) (y 10 0 (k % 40)) (y 11 0 (k % 40))))), (b 11, .inl (G.2.1, 40, .inl (y 5 3)))]) (c_X6_become l G (b 1) (b 3) (flat (y 0)) (flat (y 2))) cl_X6_48 yo_X6_become hd rfl (Nat.le_trans (Nat.le_of_ble_eq_true rfl) hR1) (Nat.le_trans (Nat.le_of_ble_eq_true rfl) hR2) rfl hrm rfl hk ?_
  refine J_perm (ws' := wM G b (upG y 2 (y 0))) ?_ K
  show List.Perm (α := Nat × va_E) ([(b 1, .inl (G.2.1, 81, .inl (flat (y 0)))), (b 3, .inl (G.2.1, 81, .inl (flat (y 0)))), (b 0, .inr (5, [.ref (b 1), .ref (b 2), .ref (b 3), .int (y 3 1 0), .ref (b 4), .ref (b 5), .int (y 5 2 0), .ref (b 6), .ref (b 7), .int (y 7 1 0), .int (y 6 1 0), .int (y 6 1 1), .int (y 6 1 2), .ref (b 8), .ref (b 9), .ref (b 10), .ref (b 11)])), (b 2, .inl (G.2.1, 81, .inl (flat (y 1))))] ++ [(b 4, .inl (G.2.1, 7, .inl (y 3 0))), (b 5, .inl (G.2.1, 11, .inl (y 5 0))), (b 6, .inl (G.2.1, 11, .inl (y 5 1))), (b 7, .inl (G.2.1, 120, .inl (y 7 0))), (b 8, .inl (G.2.1, 4, .inl (fun k => pick4 k (y 8 1 0) (y 9 1 0) (y 10 1 0) (y 11 1 0)))), (b 9, .inl (G.2.1, 4, .inl (fun k => pick4 k (y 8 1 1) (y 9 1 1) (y 10 1 1) (y 11 1 1)))), (b 10, .inl (G.2.1, 160, .inl (fun k => pick4 (k / 40) (y 8 0 (k % 40)) (y 9 0 (k % 40)) (y 10 0 (k % 40)) (y 11 0 (k % 40))))), (b 11, .inl (G.2.1, 40, .inl (y 5 3)))]) ([(b 0, .inr (5, [.ref (b 1), .ref (b 2), .ref (b 3), .int (y 3 1 0), .ref (b 4), .ref (b 5), .int (y 5 2 0), .ref (b 6), .ref (b 7), .int (y 7 1 0), .int (y 6 1 0), .int (y 6 1 1), .int (y 6 1 2), .ref (b 8), .ref (b 9), .ref (b 10), .ref (b 11)])), (b 1, .inl (G.2.1, 81, .inl (flat (y 0)))), (b 2, .inl (G.2.1, 81, .inl (flat (y 1)))), (b 3, .inl (G.2.1, 81, .inl (flat (y 0))))] ++ [(b 4, .inl (G.2.1, 7, .inl (y 3 0))), (b 5, .inl (G.2.1, 11, .inl (y 5 0))), (b 6, .inl (G.2.1, 11, .inl (y 5 1))), (b 7, .inl (G.2.1, 120, .inl (y 7 0))), (b 8, .inl (G.2.1, 4, .inl (fun k => pick4 k (y 8 1 0) (y 9 1 0) (y 10 1 0) (y 11 1 0)))), (b 9, .inl (G.2.1, 4, .inl (fun k => pick4 k (y 8 1 1) (y 9 1 1) (y 10 1 1) (y 11 1 1)))), (b 10, .inl (G.2.1, 160, .inl (fun k => pick4 (k / 40) (y 8 0 (k % 40)) (y 9 0 (k % 40)) (y 10 0 (k % 40)) (y 11 0 (k % 40))))), (b 11, .inl (G.2.1, 40, .inl (y 5 3)))])
  refine List.Perm.append_right _ ?_
  exact (perm4_02 _ _ _ _).symm
set_option maxHeartbeats 4000000 in
theorem J_m20 (E : JE X l G cc RX6 nL fr lo) {b : Nat → Nat} {y : Q3} (hd : decode cc pc = .ok (.invokestatic 48, 3)) (hR1 : 1 ≤ fr) (hR2 : 22 ≤ lo) (hrm : (rest.map fun v => v.category).sum ≤ 8) (hk : kc ≤ X.1.2.2.2.1.cells ∧ ks ≤ X.1.2.2.2.1.slots) (K : J X G nL kc ks (wM G b (upG y 0 (y 2))) lv (pc + 3) rest) : J X G nL kc ks (wM G b y) lv pc (.ref (b 1) :: .ref (b 3) :: rest) := by
  refine J_perm (ws' := ([] ++ ([(b 3, .inl (G.2.1, 81, .inl (flat (y 2)))), (b 1, .inl (G.2.1, 81, .inl (flat (y 0))))] ++ ([(b 0, .inr (5, [.ref (b 1), .ref (b 2), .ref (b 3), .int (y 3 1 0), .ref (b 4), .ref (b 5), .int (y 5 2 0), .ref (b 6), .ref (b 7), .int (y 7 1 0), .int (y 6 1 0), .int (y 6 1 1), .int (y 6 1 2), .ref (b 8), .ref (b 9), .ref (b 10), .ref (b 11)])), (b 2, .inl (G.2.1, 81, .inl (flat (y 1))))] ++ [(b 4, .inl (G.2.1, 7, .inl (y 3 0))), (b 5, .inl (G.2.1, 11, .inl (y 5 0))), (b 6, .inl (G.2.1, 11, .inl (y 5 1))), (b 7, .inl (G.2.1, 120, .inl (y 7 0))), (b 8, .inl (G.2.1, 4, .inl (fun k => pick4 k (y 8 1 0) (y 9 1 0) (y 10 1 0) (y 11 1 0)))), (b 9, .inl (G.2.1, 4, .inl (fun k => pick4 k (y 8 1 1) (y 9 1 1) (y 10 1 1) (y 11 1 1)))), (b 10, .inl (G.2.1, 160, .inl (fun k => pick4 (k / 40) (y 8 0 (k % 40)) (y 9 0 (k % 40)) (y 10 0 (k % 40)) (y 11 0 (k % 40))))), (b 11, .inl (G.2.1, 40, .inl (y 5 3)))])) : va_W)) ?_ ?_
  · show List.Perm (α := Nat × va_E) ([(b 0, .inr (5, [.ref (b 1), .ref (b 2), .ref (b 3), .int (y 3 1 0), .ref (b 4), .ref (b 5), .int (y 5 2 0), .ref (b 6), .ref (b 7), .int (y 7 1 0), .int (y 6 1 0), .int (y 6 1 1), .int (y 6 1 2), .ref (b 8), .ref (b 9), .ref (b 10), .ref (b 11)])), (b 1, .inl (G.2.1, 81, .inl (flat (y 0)))), (b 2, .inl (G.2.1, 81, .inl (flat (y 1)))), (b 3, .inl (G.2.1, 81, .inl (flat (y 2))))] ++ [(b 4, .inl (G.2.1, 7, .inl (y 3 0))), (b 5, .inl (G.2.1, 11, .inl (y 5 0))), (b 6, .inl (G.2.1, 11, .inl (y 5 1))), (b 7, .inl (G.2.1, 120, .inl (y 7 0))), (b 8, .inl (G.2.1, 4, .inl (fun k => pick4 k (y 8 1 0) (y 9 1 0) (y 10 1 0) (y 11 1 0)))), (b 9, .inl (G.2.1, 4, .inl (fun k => pick4 k (y 8 1 1) (y 9 1 1) (y 10 1 1) (y 11 1 1)))), (b 10, .inl (G.2.1, 160, .inl (fun k => pick4 (k / 40) (y 8 0 (k % 40)) (y 9 0 (k % 40)) (y 10 0 (k % 40)) (y 11 0 (k % 40))))), (b 11, .inl (G.2.1, 40, .inl (y 5 3)))]) ([(b 3, .inl (G.2.1, 81, .inl (flat (y 2)))), (b 1, .inl (G.2.1, 81, .inl (flat (y 0)))), (b 0, .inr (5, [.ref (b 1), .ref (b 2), .ref (b 3), .int (y 3 1 0), .ref (b 4), .ref (b 5), .int (y 5 2 0), .ref (b 6), .ref (b 7), .int (y 7 1 0), .int (y 6 1 0), .int (y 6 1 1), .int (y 6 1 2), .ref (b 8), .ref (b 9), .ref (b 10), .ref (b 11)])), (b 2, .inl (G.2.1, 81, .inl (flat (y 1))))] ++ [(b 4, .inl (G.2.1, 7, .inl (y 3 0))), (b 5, .inl (G.2.1, 11, .inl (y 5 0))), (b 6, .inl (G.2.1, 11, .inl (y 5 1))), (b 7, .inl (G.2.1, 120, .inl (y 7 0))), (b 8, .inl (G.2.1, 4, .inl (fun k => pick4 k (y 8 1 0) (y 9 1 0) (y 10 1 0) (y 11 1 0)))), (b 9, .inl (G.2.1, 4, .inl (fun k => pick4 k (y 8 1 1) (y 9 1 1) (y 10 1 1) (y 11 1 1)))), (b 10, .inl (G.2.1, 160, .inl (fun k => pick4 (k / 40) (y 8 0 (k % 40)) (y 9 0 (k % 40)) (y 10 0 (k % 40)) (y 11 0 (k % 40))))), (b 11, .inl (G.2.1, 40, .inl (y 5 3)))])
    refine List.Perm.append_right _ ?_
    exact perm4_20 _ _ _ _
  refine J_cSv1 E (As := [.ref (b 3), .ref (b 1)]) [] ([(b 0, .inr (5, [.ref (b 1), .ref (b 2), .ref (b 3), .int (y 3 1 0), .ref (b 4), .ref (b 5), .int (y 5 2 0), .ref (b 6), .ref (b 7), .int (y 7 1 0), .int (y 6 1 0), .int (y 6 1 1), .int (y 6 1 2), .ref (b 8), .ref (b 9), .ref (b 10), .ref (b 11)])), (b 2, .inl (G.2.1, 81, .inl (flat (y 1))))] ++ [(b 4, .inl (G.2.1, 7, .inl (y 3 0))), (b 5, .inl (G.2.1, 11, .inl (y 5 0))), (b 6, .inl (G.2.1, 11, .inl (y 5 1))), (b 7, .inl (G.2.1, 120, .inl (y 7 0))), (b 8, .inl (G.2.1, 4, .inl (fun k => pick4 k (y 8 1 0) (y 9 1 0) (y 10 1 0) (y 11 1 0)))), (b 9, .inl (G.2.1, 4, .inl (fun k => pick4 k (y 8 1 1) (y 9 1 1) (y 10 1 1) (y 11 1 1)))), (b 10, .inl (G.2.1, 160, .inl (fun k => pick4 (k / 40) (y 8 0 (k % 40)) (y 9 0 (k % 40)) (y 10 0 (k % 40)) (y 11 0 (k % 40))))), (b 11, .inl (G.2.1, 40, .inl (y 5 3)))]) (c_X6_become l G (b 3) (b 1) (flat (y 2)) (flat (y 0))) cl_X6_48 yo_X6_become hd rfl (Nat.le_trans (Nat.le_of_ble_eq_true rfl) hR1) (Nat.le_trans (Nat.le_of_ble_eq_true rfl) hR2) rfl hrm rfl hk ?_
  refine J_perm (ws' := wM G b (upG y 0 (y 2))) ?_ K
  show List.Perm (α := Nat × va_E) ([(b 3, .inl (G.2.1, 81, .inl (flat (y 2)))), (b 1, .inl (G.2.1, 81, .inl (flat (y 2)))), (b 0, .inr (5, [.ref (b 1), .ref (b 2), .ref (b 3), .int (y 3 1 0), .ref (b 4), .ref (b 5), .int (y 5 2 0), .ref (b 6), .ref (b 7), .int (y 7 1 0), .int (y 6 1 0), .int (y 6 1 1), .int (y 6 1 2), .ref (b 8), .ref (b 9), .ref (b 10), .ref (b 11)])), (b 2, .inl (G.2.1, 81, .inl (flat (y 1))))] ++ [(b 4, .inl (G.2.1, 7, .inl (y 3 0))), (b 5, .inl (G.2.1, 11, .inl (y 5 0))), (b 6, .inl (G.2.1, 11, .inl (y 5 1))), (b 7, .inl (G.2.1, 120, .inl (y 7 0))), (b 8, .inl (G.2.1, 4, .inl (fun k => pick4 k (y 8 1 0) (y 9 1 0) (y 10 1 0) (y 11 1 0)))), (b 9, .inl (G.2.1, 4, .inl (fun k => pick4 k (y 8 1 1) (y 9 1 1) (y 10 1 1) (y 11 1 1)))), (b 10, .inl (G.2.1, 160, .inl (fun k => pick4 (k / 40) (y 8 0 (k % 40)) (y 9 0 (k % 40)) (y 10 0 (k % 40)) (y 11 0 (k % 40))))), (b 11, .inl (G.2.1, 40, .inl (y 5 3)))]) ([(b 0, .inr (5, [.ref (b 1), .ref (b 2), .ref (b 3), .int (y 3 1 0), .ref (b 4), .ref (b 5), .int (y 5 2 0), .ref (b 6), .ref (b 7), .int (y 7 1 0), .int (y 6 1 0), .int (y 6 1 1), .int (y 6 1 2), .ref (b 8), .ref (b 9), .ref (b 10), .ref (b 11)])), (b 1, .inl (G.2.1, 81, .inl (flat (y 2)))), (b 2, .inl (G.2.1, 81, .inl (flat (y 1)))), (b 3, .inl (G.2.1, 81, .inl (flat (y 2))))] ++ [(b 4, .inl (G.2.1, 7, .inl (y 3 0))), (b 5, .inl (G.2.1, 11, .inl (y 5 0))), (b 6, .inl (G.2.1, 11, .inl (y 5 1))), (b 7, .inl (G.2.1, 120, .inl (y 7 0))), (b 8, .inl (G.2.1, 4, .inl (fun k => pick4 k (y 8 1 0) (y 9 1 0) (y 10 1 0) (y 11 1 0)))), (b 9, .inl (G.2.1, 4, .inl (fun k => pick4 k (y 8 1 1) (y 9 1 1) (y 10 1 1) (y 11 1 1)))), (b 10, .inl (G.2.1, 160, .inl (fun k => pick4 (k / 40) (y 8 0 (k % 40)) (y 9 0 (k % 40)) (y 10 0 (k % 40)) (y 11 0 (k % 40))))), (b 11, .inl (G.2.1, 40, .inl (y 5 3)))])
  refine List.Perm.append_right _ ?_
  exact (perm4_20 _ _ _ _).symm
set_option maxHeartbeats 4000000 in
theorem J_m01 (E : JE X l G cc RX6 nL fr lo) {b : Nat → Nat} {y : Q3} (hd : decode cc pc = .ok (.invokestatic 48, 3)) (hR1 : 1 ≤ fr) (hR2 : 22 ≤ lo) (hrm : (rest.map fun v => v.category).sum ≤ 8) (hk : kc ≤ X.1.2.2.2.1.cells ∧ ks ≤ X.1.2.2.2.1.slots) (K : J X G nL kc ks (wM G b (upG y 1 (y 0))) lv (pc + 3) rest) : J X G nL kc ks (wM G b y) lv pc (.ref (b 2) :: .ref (b 1) :: rest) := by
  refine J_perm (ws' := ([] ++ ([(b 1, .inl (G.2.1, 81, .inl (flat (y 0)))), (b 2, .inl (G.2.1, 81, .inl (flat (y 1))))] ++ ([(b 0, .inr (5, [.ref (b 1), .ref (b 2), .ref (b 3), .int (y 3 1 0), .ref (b 4), .ref (b 5), .int (y 5 2 0), .ref (b 6), .ref (b 7), .int (y 7 1 0), .int (y 6 1 0), .int (y 6 1 1), .int (y 6 1 2), .ref (b 8), .ref (b 9), .ref (b 10), .ref (b 11)])), (b 3, .inl (G.2.1, 81, .inl (flat (y 2))))] ++ [(b 4, .inl (G.2.1, 7, .inl (y 3 0))), (b 5, .inl (G.2.1, 11, .inl (y 5 0))), (b 6, .inl (G.2.1, 11, .inl (y 5 1))), (b 7, .inl (G.2.1, 120, .inl (y 7 0))), (b 8, .inl (G.2.1, 4, .inl (fun k => pick4 k (y 8 1 0) (y 9 1 0) (y 10 1 0) (y 11 1 0)))), (b 9, .inl (G.2.1, 4, .inl (fun k => pick4 k (y 8 1 1) (y 9 1 1) (y 10 1 1) (y 11 1 1)))), (b 10, .inl (G.2.1, 160, .inl (fun k => pick4 (k / 40) (y 8 0 (k % 40)) (y 9 0 (k % 40)) (y 10 0 (k % 40)) (y 11 0 (k % 40))))), (b 11, .inl (G.2.1, 40, .inl (y 5 3)))])) : va_W)) ?_ ?_
  · show List.Perm (α := Nat × va_E) ([(b 0, .inr (5, [.ref (b 1), .ref (b 2), .ref (b 3), .int (y 3 1 0), .ref (b 4), .ref (b 5), .int (y 5 2 0), .ref (b 6), .ref (b 7), .int (y 7 1 0), .int (y 6 1 0), .int (y 6 1 1), .int (y 6 1 2), .ref (b 8), .ref (b 9), .ref (b 10), .ref (b 11)])), (b 1, .inl (G.2.1, 81, .inl (flat (y 0)))), (b 2, .inl (G.2.1, 81, .inl (flat (y 1)))), (b 3, .inl (G.2.1, 81, .inl (flat (y 2))))] ++ [(b 4, .inl (G.2.1, 7, .inl (y 3 0))), (b 5, .inl (G.2.1, 11, .inl (y 5 0))), (b 6, .inl (G.2.1, 11, .inl (y 5 1))), (b 7, .inl (G.2.1, 120, .inl (y 7 0))), (b 8, .inl (G.2.1, 4, .inl (fun k => pick4 k (y 8 1 0) (y 9 1 0) (y 10 1 0) (y 11 1 0)))), (b 9, .inl (G.2.1, 4, .inl (fun k => pick4 k (y 8 1 1) (y 9 1 1) (y 10 1 1) (y 11 1 1)))), (b 10, .inl (G.2.1, 160, .inl (fun k => pick4 (k / 40) (y 8 0 (k % 40)) (y 9 0 (k % 40)) (y 10 0 (k % 40)) (y 11 0 (k % 40))))), (b 11, .inl (G.2.1, 40, .inl (y 5 3)))]) ([(b 1, .inl (G.2.1, 81, .inl (flat (y 0)))), (b 2, .inl (G.2.1, 81, .inl (flat (y 1)))), (b 0, .inr (5, [.ref (b 1), .ref (b 2), .ref (b 3), .int (y 3 1 0), .ref (b 4), .ref (b 5), .int (y 5 2 0), .ref (b 6), .ref (b 7), .int (y 7 1 0), .int (y 6 1 0), .int (y 6 1 1), .int (y 6 1 2), .ref (b 8), .ref (b 9), .ref (b 10), .ref (b 11)])), (b 3, .inl (G.2.1, 81, .inl (flat (y 2))))] ++ [(b 4, .inl (G.2.1, 7, .inl (y 3 0))), (b 5, .inl (G.2.1, 11, .inl (y 5 0))), (b 6, .inl (G.2.1, 11, .inl (y 5 1))), (b 7, .inl (G.2.1, 120, .inl (y 7 0))), (b 8, .inl (G.2.1, 4, .inl (fun k => pick4 k (y 8 1 0) (y 9 1 0) (y 10 1 0) (y 11 1 0)))), (b 9, .inl (G.2.1, 4, .inl (fun k => pick4 k (y 8 1 1) (y 9 1 1) (y 10 1 1) (y 11 1 1)))), (b 10, .inl (G.2.1, 160, .inl (fun k => pick4 (k / 40) (y 8 0 (k % 40)) (y 9 0 (k % 40)) (y 10 0 (k % 40)) (y 11 0 (k % 40))))), (b 11, .inl (G.2.1, 40, .inl (y 5 3)))])
    refine List.Perm.append_right _ ?_
    exact perm4_01 _ _ _ _
  refine J_cSv1 E (As := [.ref (b 1), .ref (b 2)]) [] ([(b 0, .inr (5, [.ref (b 1), .ref (b 2), .ref (b 3), .int (y 3 1 0), .ref (b 4), .ref (b 5), .int (y 5 2 0), .ref (b 6), .ref (b 7), .int (y 7 1 0), .int (y 6 1 0), .int (y 6 1 1), .int (y 6 1 2), .ref (b 8), .ref (b 9), .ref (b 10), .ref (b 11)])), (b 3, .inl (G.2.1, 81, .inl (flat (y 2))))] ++ [(b 4, .inl (G.2.1, 7, .inl (y 3 0))), (b 5, .inl (G.2.1, 11, .inl (y 5 0))), (b 6, .inl (G.2.1, 11, .inl (y 5 1))), (b 7, .inl (G.2.1, 120, .inl (y 7 0))), (b 8, .inl (G.2.1, 4, .inl (fun k => pick4 k (y 8 1 0) (y 9 1 0) (y 10 1 0) (y 11 1 0)))), (b 9, .inl (G.2.1, 4, .inl (fun k => pick4 k (y 8 1 1) (y 9 1 1) (y 10 1 1) (y 11 1 1)))), (b 10, .inl (G.2.1, 160, .inl (fun k => pick4 (k / 40) (y 8 0 (k % 40)) (y 9 0 (k % 40)) (y 10 0 (k % 40)) (y 11 0 (k % 40))))), (b 11, .inl (G.2.1, 40, .inl (y 5 3)))]) (c_X6_become l G (b 1) (b 2) (flat (y 0)) (flat (y 1))) cl_X6_48 yo_X6_become hd rfl (Nat.le_trans (Nat.le_of_ble_eq_true rfl) hR1) (Nat.le_trans (Nat.le_of_ble_eq_true rfl) hR2) rfl hrm rfl hk ?_
  refine J_perm (ws' := wM G b (upG y 1 (y 0))) ?_ K
  show List.Perm (α := Nat × va_E) ([(b 1, .inl (G.2.1, 81, .inl (flat (y 0)))), (b 2, .inl (G.2.1, 81, .inl (flat (y 0)))), (b 0, .inr (5, [.ref (b 1), .ref (b 2), .ref (b 3), .int (y 3 1 0), .ref (b 4), .ref (b 5), .int (y 5 2 0), .ref (b 6), .ref (b 7), .int (y 7 1 0), .int (y 6 1 0), .int (y 6 1 1), .int (y 6 1 2), .ref (b 8), .ref (b 9), .ref (b 10), .ref (b 11)])), (b 3, .inl (G.2.1, 81, .inl (flat (y 2))))] ++ [(b 4, .inl (G.2.1, 7, .inl (y 3 0))), (b 5, .inl (G.2.1, 11, .inl (y 5 0))), (b 6, .inl (G.2.1, 11, .inl (y 5 1))), (b 7, .inl (G.2.1, 120, .inl (y 7 0))), (b 8, .inl (G.2.1, 4, .inl (fun k => pick4 k (y 8 1 0) (y 9 1 0) (y 10 1 0) (y 11 1 0)))), (b 9, .inl (G.2.1, 4, .inl (fun k => pick4 k (y 8 1 1) (y 9 1 1) (y 10 1 1) (y 11 1 1)))), (b 10, .inl (G.2.1, 160, .inl (fun k => pick4 (k / 40) (y 8 0 (k % 40)) (y 9 0 (k % 40)) (y 10 0 (k % 40)) (y 11 0 (k % 40))))), (b 11, .inl (G.2.1, 40, .inl (y 5 3)))]) ([(b 0, .inr (5, [.ref (b 1), .ref (b 2), .ref (b 3), .int (y 3 1 0), .ref (b 4), .ref (b 5), .int (y 5 2 0), .ref (b 6), .ref (b 7), .int (y 7 1 0), .int (y 6 1 0), .int (y 6 1 1), .int (y 6 1 2), .ref (b 8), .ref (b 9), .ref (b 10), .ref (b 11)])), (b 1, .inl (G.2.1, 81, .inl (flat (y 0)))), (b 2, .inl (G.2.1, 81, .inl (flat (y 0)))), (b 3, .inl (G.2.1, 81, .inl (flat (y 2))))] ++ [(b 4, .inl (G.2.1, 7, .inl (y 3 0))), (b 5, .inl (G.2.1, 11, .inl (y 5 0))), (b 6, .inl (G.2.1, 11, .inl (y 5 1))), (b 7, .inl (G.2.1, 120, .inl (y 7 0))), (b 8, .inl (G.2.1, 4, .inl (fun k => pick4 k (y 8 1 0) (y 9 1 0) (y 10 1 0) (y 11 1 0)))), (b 9, .inl (G.2.1, 4, .inl (fun k => pick4 k (y 8 1 1) (y 9 1 1) (y 10 1 1) (y 11 1 1)))), (b 10, .inl (G.2.1, 160, .inl (fun k => pick4 (k / 40) (y 8 0 (k % 40)) (y 9 0 (k % 40)) (y 10 0 (k % 40)) (y 11 0 (k % 40))))), (b 11, .inl (G.2.1, 40, .inl (y 5 3)))])
  refine List.Perm.append_right _ ?_
  exact (perm4_01 _ _ _ _).symm
set_option maxHeartbeats 4000000 in
theorem J_m10 (E : JE X l G cc RX6 nL fr lo) {b : Nat → Nat} {y : Q3} (hd : decode cc pc = .ok (.invokestatic 48, 3)) (hR1 : 1 ≤ fr) (hR2 : 22 ≤ lo) (hrm : (rest.map fun v => v.category).sum ≤ 8) (hk : kc ≤ X.1.2.2.2.1.cells ∧ ks ≤ X.1.2.2.2.1.slots) (K : J X G nL kc ks (wM G b (upG y 0 (y 1))) lv (pc + 3) rest) : J X G nL kc ks (wM G b y) lv pc (.ref (b 1) :: .ref (b 2) :: rest) := by
  refine J_perm (ws' := ([] ++ ([(b 2, .inl (G.2.1, 81, .inl (flat (y 1)))), (b 1, .inl (G.2.1, 81, .inl (flat (y 0))))] ++ ([(b 0, .inr (5, [.ref (b 1), .ref (b 2), .ref (b 3), .int (y 3 1 0), .ref (b 4), .ref (b 5), .int (y 5 2 0), .ref (b 6), .ref (b 7), .int (y 7 1 0), .int (y 6 1 0), .int (y 6 1 1), .int (y 6 1 2), .ref (b 8), .ref (b 9), .ref (b 10), .ref (b 11)])), (b 3, .inl (G.2.1, 81, .inl (flat (y 2))))] ++ [(b 4, .inl (G.2.1, 7, .inl (y 3 0))), (b 5, .inl (G.2.1, 11, .inl (y 5 0))), (b 6, .inl (G.2.1, 11, .inl (y 5 1))), (b 7, .inl (G.2.1, 120, .inl (y 7 0))), (b 8, .inl (G.2.1, 4, .inl (fun k => pick4 k (y 8 1 0) (y 9 1 0) (y 10 1 0) (y 11 1 0)))), (b 9, .inl (G.2.1, 4, .inl (fun k => pick4 k (y 8 1 1) (y 9 1 1) (y 10 1 1) (y 11 1 1)))), (b 10, .inl (G.2.1, 160, .inl (fun k => pick4 (k / 40) (y 8 0 (k % 40)) (y 9 0 (k % 40)) (y 10 0 (k % 40)) (y 11 0 (k % 40))))), (b 11, .inl (G.2.1, 40, .inl (y 5 3)))])) : va_W)) ?_ ?_
  · show List.Perm (α := Nat × va_E) ([(b 0, .inr (5, [.ref (b 1), .ref (b 2), .ref (b 3), .int (y 3 1 0), .ref (b 4), .ref (b 5), .int (y 5 2 0), .ref (b 6), .ref (b 7), .int (y 7 1 0), .int (y 6 1 0), .int (y 6 1 1), .int (y 6 1 2), .ref (b 8), .ref (b 9), .ref (b 10), .ref (b 11)])), (b 1, .inl (G.2.1, 81, .inl (flat (y 0)))), (b 2, .inl (G.2.1, 81, .inl (flat (y 1)))), (b 3, .inl (G.2.1, 81, .inl (flat (y 2))))] ++ [(b 4, .inl (G.2.1, 7, .inl (y 3 0))), (b 5, .inl (G.2.1, 11, .inl (y 5 0))), (b 6, .inl (G.2.1, 11, .inl (y 5 1))), (b 7, .inl (G.2.1, 120, .inl (y 7 0))), (b 8, .inl (G.2.1, 4, .inl (fun k => pick4 k (y 8 1 0) (y 9 1 0) (y 10 1 0) (y 11 1 0)))), (b 9, .inl (G.2.1, 4, .inl (fun k => pick4 k (y 8 1 1) (y 9 1 1) (y 10 1 1) (y 11 1 1)))), (b 10, .inl (G.2.1, 160, .inl (fun k => pick4 (k / 40) (y 8 0 (k % 40)) (y 9 0 (k % 40)) (y 10 0 (k % 40)) (y 11 0 (k % 40))))), (b 11, .inl (G.2.1, 40, .inl (y 5 3)))]) ([(b 2, .inl (G.2.1, 81, .inl (flat (y 1)))), (b 1, .inl (G.2.1, 81, .inl (flat (y 0)))), (b 0, .inr (5, [.ref (b 1), .ref (b 2), .ref (b 3), .int (y 3 1 0), .ref (b 4), .ref (b 5), .int (y 5 2 0), .ref (b 6), .ref (b 7), .int (y 7 1 0), .int (y 6 1 0), .int (y 6 1 1), .int (y 6 1 2), .ref (b 8), .ref (b 9), .ref (b 10), .ref (b 11)])), (b 3, .inl (G.2.1, 81, .inl (flat (y 2))))] ++ [(b 4, .inl (G.2.1, 7, .inl (y 3 0))), (b 5, .inl (G.2.1, 11, .inl (y 5 0))), (b 6, .inl (G.2.1, 11, .inl (y 5 1))), (b 7, .inl (G.2.1, 120, .inl (y 7 0))), (b 8, .inl (G.2.1, 4, .inl (fun k => pick4 k (y 8 1 0) (y 9 1 0) (y 10 1 0) (y 11 1 0)))), (b 9, .inl (G.2.1, 4, .inl (fun k => pick4 k (y 8 1 1) (y 9 1 1) (y 10 1 1) (y 11 1 1)))), (b 10, .inl (G.2.1, 160, .inl (fun k => pick4 (k / 40) (y 8 0 (k % 40)) (y 9 0 (k % 40)) (y 10 0 (k % 40)) (y 11 0 (k % 40))))), (b 11, .inl (G.2.1, 40, .inl (y 5 3)))])
    refine List.Perm.append_right _ ?_
    exact perm4_10 _ _ _ _
  refine J_cSv1 E (As := [.ref (b 2), .ref (b 1)]) [] ([(b 0, .inr (5, [.ref (b 1), .ref (b 2), .ref (b 3), .int (y 3 1 0), .ref (b 4), .ref (b 5), .int (y 5 2 0), .ref (b 6), .ref (b 7), .int (y 7 1 0), .int (y 6 1 0), .int (y 6 1 1), .int (y 6 1 2), .ref (b 8), .ref (b 9), .ref (b 10), .ref (b 11)])), (b 3, .inl (G.2.1, 81, .inl (flat (y 2))))] ++ [(b 4, .inl (G.2.1, 7, .inl (y 3 0))), (b 5, .inl (G.2.1, 11, .inl (y 5 0))), (b 6, .inl (G.2.1, 11, .inl (y 5 1))), (b 7, .inl (G.2.1, 120, .inl (y 7 0))), (b 8, .inl (G.2.1, 4, .inl (fun k => pick4 k (y 8 1 0) (y 9 1 0) (y 10 1 0) (y 11 1 0)))), (b 9, .inl (G.2.1, 4, .inl (fun k => pick4 k (y 8 1 1) (y 9 1 1) (y 10 1 1) (y 11 1 1)))), (b 10, .inl (G.2.1, 160, .inl (fun k => pick4 (k / 40) (y 8 0 (k % 40)) (y 9 0 (k % 40)) (y 10 0 (k % 40)) (y 11 0 (k % 40))))), (b 11, .inl (G.2.1, 40, .inl (y 5 3)))]) (c_X6_become l G (b 2) (b 1) (flat (y 1)) (flat (y 0))) cl_X6_48 yo_X6_become hd rfl (Nat.le_trans (Nat.le_of_ble_eq_true rfl) hR1) (Nat.le_trans (Nat.le_of_ble_eq_true rfl) hR2) rfl hrm rfl hk ?_
  refine J_perm (ws' := wM G b (upG y 0 (y 1))) ?_ K
  show List.Perm (α := Nat × va_E) ([(b 2, .inl (G.2.1, 81, .inl (flat (y 1)))), (b 1, .inl (G.2.1, 81, .inl (flat (y 1)))), (b 0, .inr (5, [.ref (b 1), .ref (b 2), .ref (b 3), .int (y 3 1 0), .ref (b 4), .ref (b 5), .int (y 5 2 0), .ref (b 6), .ref (b 7), .int (y 7 1 0), .int (y 6 1 0), .int (y 6 1 1), .int (y 6 1 2), .ref (b 8), .ref (b 9), .ref (b 10), .ref (b 11)])), (b 3, .inl (G.2.1, 81, .inl (flat (y 2))))] ++ [(b 4, .inl (G.2.1, 7, .inl (y 3 0))), (b 5, .inl (G.2.1, 11, .inl (y 5 0))), (b 6, .inl (G.2.1, 11, .inl (y 5 1))), (b 7, .inl (G.2.1, 120, .inl (y 7 0))), (b 8, .inl (G.2.1, 4, .inl (fun k => pick4 k (y 8 1 0) (y 9 1 0) (y 10 1 0) (y 11 1 0)))), (b 9, .inl (G.2.1, 4, .inl (fun k => pick4 k (y 8 1 1) (y 9 1 1) (y 10 1 1) (y 11 1 1)))), (b 10, .inl (G.2.1, 160, .inl (fun k => pick4 (k / 40) (y 8 0 (k % 40)) (y 9 0 (k % 40)) (y 10 0 (k % 40)) (y 11 0 (k % 40))))), (b 11, .inl (G.2.1, 40, .inl (y 5 3)))]) ([(b 0, .inr (5, [.ref (b 1), .ref (b 2), .ref (b 3), .int (y 3 1 0), .ref (b 4), .ref (b 5), .int (y 5 2 0), .ref (b 6), .ref (b 7), .int (y 7 1 0), .int (y 6 1 0), .int (y 6 1 1), .int (y 6 1 2), .ref (b 8), .ref (b 9), .ref (b 10), .ref (b 11)])), (b 1, .inl (G.2.1, 81, .inl (flat (y 1)))), (b 2, .inl (G.2.1, 81, .inl (flat (y 1)))), (b 3, .inl (G.2.1, 81, .inl (flat (y 2))))] ++ [(b 4, .inl (G.2.1, 7, .inl (y 3 0))), (b 5, .inl (G.2.1, 11, .inl (y 5 0))), (b 6, .inl (G.2.1, 11, .inl (y 5 1))), (b 7, .inl (G.2.1, 120, .inl (y 7 0))), (b 8, .inl (G.2.1, 4, .inl (fun k => pick4 k (y 8 1 0) (y 9 1 0) (y 10 1 0) (y 11 1 0)))), (b 9, .inl (G.2.1, 4, .inl (fun k => pick4 k (y 8 1 1) (y 9 1 1) (y 10 1 1) (y 11 1 1)))), (b 10, .inl (G.2.1, 160, .inl (fun k => pick4 (k / 40) (y 8 0 (k % 40)) (y 9 0 (k % 40)) (y 10 0 (k % 40)) (y 11 0 (k % 40))))), (b 11, .inl (G.2.1, 40, .inl (y 5 3)))])
  refine List.Perm.append_right _ ?_
  exact (perm4_10 _ _ _ _).symm
end LND
set_option maxHeartbeats 4000000 in
set_option maxRecDepth 20000 in
theorem c_X6_lends (l : Launch) (G : GB) (b : Nat → Nat) (y : Q3)  : CV l yX6_lends cX6_lends 1 1 22 0 0 G [.ref (b 0)] (wM G b y) (fun w' => w' = wM G b (upG y 2 (y 0))) := by
  refine CV.mk (own := RX6) (by decide) rfl (Nat.le_of_ble_eq_true rfl) ?_
  intro X E _ _ _ ret
  show J X G 1 0 0 (wM G b y) [(0, .ref (b 0))] 0 []
  refine J_aload_n E dX6_lends_0 rfl 0 rfl ?_
  refine gM0_X6_9 E dX6_lends_1 ?_
  refine J_aload_n E dX6_lends_4 rfl 0 rfl ?_
  refine gM0_X6_16 E dX6_lends_5 ?_
  refine J_m02 E dX6_lends_8 (Nat.le_of_ble_eq_true rfl) (Nat.le_of_ble_eq_true rfl) (Nat.le_of_ble_eq_true rfl) ⟨Nat.zero_le _, Nat.zero_le _⟩ ?_
  exact ret _ _ _ (congrArg (wM G b) (rfl)) dX6_lends_11

set_option maxHeartbeats 4000000 in
set_option maxRecDepth 20000 in
theorem c_X6_laysBack (l : Launch) (G : GB) (b : Nat → Nat) (y : Q3)  : CV l yX6_laysBack cX6_laysBack 1 1 22 0 0 G [.ref (b 0)] (wM G b y) (fun w' => w' = wM G b (upG y 0 (y 2))) := by
  refine CV.mk (own := RX6) (by decide) rfl (Nat.le_of_ble_eq_true rfl) ?_
  intro X E _ _ _ ret
  show J X G 1 0 0 (wM G b y) [(0, .ref (b 0))] 0 []
  refine J_aload_n E dX6_laysBack_0 rfl 0 rfl ?_
  refine gM0_X6_16 E dX6_laysBack_1 ?_
  refine J_aload_n E dX6_laysBack_4 rfl 0 rfl ?_
  refine gM0_X6_9 E dX6_laysBack_5 ?_
  refine J_m20 E dX6_laysBack_8 (Nat.le_of_ble_eq_true rfl) (Nat.le_of_ble_eq_true rfl) (Nat.le_of_ble_eq_true rfl) ⟨Nat.zero_le _, Nat.zero_le _⟩ ?_
  exact ret _ _ _ (congrArg (wM G b) (rfl)) dX6_laysBack_11

set_option maxHeartbeats 4000000 in
set_option maxRecDepth 20000 in
theorem c_X6_its (l : Launch) (G : GB) (b : Nat → Nat) (y : Q3) (h w : Nat) (hh : h < 11) (hw : w < 6) : CI l yX6_its cX6_its 3 .int 0 0 G [.ref (b 0), .int (nI h), .int (nI w)] (wM G b y) (fun vR w' => vR = y 0 w h ∧ w' = wM G b y) := by
  refine CI.mk (own := RX6) (by decide) rfl (Nat.le_of_ble_eq_true rfl) ?_
  intro X E ret
  show J X G 3 0 0 (wM G b y) [(0, .ref (b 0)), (1, .int (nI h)), (2, .int (nI w))] 0 []
  refine J_aload_n E dX6_its_0 rfl 0 rfl ?_
  refine gM0_X6_9 E dX6_its_1 ?_
  refine J_iconst E dX6_its_4 ic_5 ?_
  refine J_bipush E dX6_its_5 bp_6 ?_
  refine J_iload_n E dX6_its_7 rfl 1 rfl ?_
  refine J_imul E dX6_its_8 ?_
  refine J_top (x' := nI (6 * h)) (pk_mul 6 h) ?_
  refine J_iadd E dX6_its_9 ?_
  refine J_top (x' := nI (5 + 6 * h)) (nI_add 5 _) ?_
  refine J_iload_n E dX6_its_10 rfl 2 rfl ?_
  refine J_iadd E dX6_its_11 ?_
  refine J_top (x' := nI (5 + 6 * h + w)) (nI_add _ _) ?_
  refine lMs E (j := (5 + 6 * h + w)) (r := w) (i := h) (at_h hw hh rfl) dX6_its_12 ?_
  exact ret _ _ _ _ ⟨rfl, (congrArg (wM G b) (rfl))⟩ rfl dX6_its_13

set_option maxHeartbeats 4000000 in
set_option maxRecDepth 20000 in
theorem c_X6_sets (l : Launch) (G : GB) (b : Nat → Nat) (y : Q3) (h w : Nat) (v : Int32) (hh : h < 11) (hw : w < 6) : CV l yX6_sets cX6_sets 4 0 0 0 0 G [.ref (b 0), .int (nI h), .int (nI w), .int v] (wM G b y) (fun w' => w' = wM G b (upG y 0 (up2 (y 0) w h v))) := by
  refine CV.mk (own := RX6) (by decide) rfl (Nat.le_of_ble_eq_true rfl) ?_
  intro X E _ _ _ ret
  show J X G 4 0 0 (wM G b y) [(0, .ref (b 0)), (1, .int (nI h)), (2, .int (nI w)), (3, .int v)] 0 []
  refine J_aload_n E dX6_sets_0 rfl 0 rfl ?_
  refine gM0_X6_9 E dX6_sets_1 ?_
  refine J_iconst E dX6_sets_4 ic_5 ?_
  refine J_bipush E dX6_sets_5 bp_6 ?_
  refine J_iload_n E dX6_sets_7 rfl 1 rfl ?_
  refine J_imul E dX6_sets_8 ?_
  refine J_top (x' := nI (6 * h)) (pk_mul 6 h) ?_
  refine J_iadd E dX6_sets_9 ?_
  refine J_top (x' := nI (5 + 6 * h)) (nI_add 5 _) ?_
  refine J_iload_n E dX6_sets_10 rfl 2 rfl ?_
  refine J_iadd E dX6_sets_11 ?_
  refine J_top (x' := nI (5 + 6 * h + w)) (nI_add _ _) ?_
  refine J_iload_n E dX6_sets_12 rfl 3 rfl ?_
  refine sMs E (j := (5 + 6 * h + w)) (r := w) (i := h) (at_h hw hh rfl) dX6_sets_13 ?_
  refine J_w (ws' := wM G b (upG y 0 (up2 (y 0) w h v))) rfl ?_
  exact ret _ _ _ (congrArg (wM G b) (rfl)) dX6_sets_14

set_option maxHeartbeats 4000000 in
set_option maxRecDepth 20000 in
theorem c_X6_becomes (l : Launch) (G : GB) (b : Nat → Nat) (y : Q3) (j r i : Nat) (v : Int32) (ha : at81 j r i) : CI l yX6_becomes cX6_becomes 4 .int 0 0 G [.ref (b 0), .int (nI j), .int v] (wM G b y) (fun vR w' => vR = y 0 r i ∧ w' = wM G b (upG y 0 (up2 (y 0) r i v))) := by
  refine CI.mk (own := RX6) (by decide) rfl (Nat.le_of_ble_eq_true rfl) ?_
  intro X E ret
  show J X G 4 0 0 (wM G b y) [(0, .ref (b 0)), (1, .int (nI j)), (2, .int v)] 0 []
  refine J_aload_n E dX6_becomes_0 rfl 0 rfl ?_
  refine gM0_X6_9 E dX6_becomes_1 ?_
  refine J_iload_n E dX6_becomes_4 rfl 1 rfl ?_
  refine lMs E (j := j) (r := r) (i := i) ha dX6_becomes_5 ?_
  refine J_istore_n E (lv' := [(3, .int (y 0 r i)), (0, .ref (b 0)), (1, .int (nI j)), (2, .int v)]) dX6_becomes_6 rfl (by decide) rfl ?_
  refine J_aload_n E dX6_becomes_7 rfl 1 rfl ?_
  refine gM0_X6_9 E dX6_becomes_8 ?_
  refine J_iload_n E dX6_becomes_11 rfl 2 rfl ?_
  refine J_iload_n E dX6_becomes_12 rfl 3 rfl ?_
  refine sMs E (j := j) (r := r) (i := i) ha dX6_becomes_13 ?_
  refine J_w (ws' := wM G b (upG y 0 (up2 (y 0) r i v))) rfl ?_
  refine J_iload_n E dX6_becomes_14 rfl 0 rfl ?_
  exact ret _ _ _ _ ⟨rfl, (congrArg (wM G b) (rfl))⟩ rfl dX6_becomes_15

set_option maxHeartbeats 4000000 in
set_option maxRecDepth 20000 in
theorem c_X6_ones (l : Launch) (G : GB) (s : Int32) : CI l yX6_ones cX6_ones 3 .int 0 0 G [.int s] ([]) (fun vR w' => vR = onesF s 11 ∧ w' = []) := by
  refine CI.mk (own := RX6) (by decide) rfl (Nat.le_of_ble_eq_true rfl) ?_
  intro X E ret
  show J X G 3 0 0 ([]) [(0, .int s)] 0 []
  refine J_iconst E dX6_ones_0 ic_0 ?_
  refine J_istore_n E (lv' := [(1, .int 0), (0, .int s)]) dX6_ones_1 rfl (by decide) rfl ?_
  refine J_iconst E dX6_ones_2 ic_0 ?_
  refine J_istore_n E (lv' := [(2, .int 0), (1, .int 0), (0, .int s)]) dX6_ones_3 rfl (by decide) rfl ?_
  have lp4 : ∀ (fu : Nat) (i : Nat) (c : Int32), (i ≤ 11) → (c = onesF s i) → 11 - i < fu → J X G 3 0 0 ([]) [(0, .int s), (1, .int c), (2, .int (nI i))] 4 [] := by
    intro fu
    induction fu with
    | zero => intro i c hi h1 hm; exact absurd hm (Nat.not_lt_zero _)
    | succ fu ih4 =>
      intro i c hi h1 hm
      refine J_iload_n E dX6_ones_4 rfl 2 rfl ?_
      refine J_bipush E dX6_ones_5 bp_11 ?_
      refine J_icmp_ge E (tgt := 24) dX6_ones_7 (by decide) (fun c_7 => ?_) (fun c_7 => ?_)
      · skip
        have n_7 : 11 ≤ i := cmp_le (a := 11) (b := i) (by omega) (by omega) c_7
        refine J_iload_n E dX6_ones_24 rfl 1 rfl ?_
        exact ret _ _ _ _ ⟨by rw [h1, show i = 11 by omega], rfl⟩ rfl dX6_ones_25
      · skip
        have n_7 : ¬ 11 ≤ i := cmp_nle (a := 11) (b := i) (by omega) (by omega) c_7
        refine J_iload_n E dX6_ones_10 rfl 1 rfl ?_
        refine J_iload_n E dX6_ones_11 rfl 0 rfl ?_
        refine J_iload_n E dX6_ones_12 rfl 2 rfl ?_
        refine J_ishr E dX6_ones_13 ?_
        refine J_iconst E dX6_ones_14 ic_1 ?_
        refine J_iand E dX6_ones_15 ?_
        refine J_iadd E dX6_ones_16 ?_
        refine J_istore_n E (lv' := [(1, .int (c + ((s >>> ((nI i) &&& 31)) &&& 1))), (0, .int s), (2, .int (nI i))]) dX6_ones_17 rfl (by decide) rfl ?_
        refine J_iinc E (lv' := [(2, .int (nI (i + 1))), (1, .int (c + ((s >>> ((nI i) &&& 31)) &&& 1))), (0, .int s)]) dX6_ones_18 2 rfl (nI_inc _) (by decide) rfl ?_
        refine J_goto E (tgt := 4) dX6_ones_21 (by decide) ?_
        refine J_lv [2, 1, 0] rfl ?_
        exact ih4 (i + 1) (c + ((s >>> ((nI i) &&& 31)) &&& 1)) (by omega) (by rw [h1]; rfl) (by omega)
  refine J_lv [2, 1, 0] rfl ?_
  exact lp4 _ 0 0 (by omega) rfl (Nat.lt_succ_self _)

set_option maxHeartbeats 4000000 in
set_option maxRecDepth 20000 in
theorem c_X6_aboveOf_0 (l : Launch) (G : GB)  : CI l yX6_aboveOf cX6_aboveOf 1 .int 0 0 G [.int (nI 0)] ([]) (fun vR w' => vR = nI 0 ∧ w' = []) := by
  refine CI.mk (own := RX6) (by decide) rfl (Nat.le_of_ble_eq_true rfl) ?_
  intro X E ret
  show J X G 1 0 0 ([]) [(0, .int (nI 0))] 0 []
  refine J_iload_n E dX6_aboveOf_0 rfl 0 rfl ?_
  refine J_iconst E dX6_aboveOf_1 ic_3 ?_
  refine J_icmp_ne E (tgt := 9) dX6_aboveOf_2 (by decide) (fun c_2 => ?_) (fun c_2 => ?_)
  · skip
    have n_2 : ¬ 0 = 3 := cmp_ne (a := 0) (b := 3) (by omega) (by omega) c_2
    refine J_iload_n E dX6_aboveOf_9 rfl 0 rfl ?_
    refine J_iconst E dX6_aboveOf_10 ic_4 ?_
    refine J_icmp_ne E (tgt := 18) dX6_aboveOf_11 (by decide) (fun c_11 => ?_) (fun c_11 => ?_)
    · skip
      have n_11 : ¬ 0 = 4 := cmp_ne (a := 0) (b := 4) (by omega) (by omega) c_11
      refine J_iload_n E dX6_aboveOf_18 rfl 0 rfl ?_
      refine J_bipush E dX6_aboveOf_19 bp_6 ?_
      refine J_icmp_ne E (tgt := 28) dX6_aboveOf_21 (by decide) (fun c_21 => ?_) (fun c_21 => ?_)
      · skip
        have n_21 : ¬ 0 = 6 := cmp_ne (a := 0) (b := 6) (by omega) (by omega) c_21
        refine J_iconst E dX6_aboveOf_28 ic_0 ?_
        exact ret _ _ _ _ ⟨rfl, rfl⟩ rfl dX6_aboveOf_29
      · skip
        have n_21 : 0 = 6 := cmp_eq (a := 0) (b := 6) (by omega) (by omega) c_21
        exact absurd n_21 (by decide)
    · skip
      have n_11 : 0 = 4 := cmp_eq (a := 0) (b := 4) (by omega) (by omega) c_11
      exact absurd n_11 (by decide)
  · skip
    have n_2 : 0 = 3 := cmp_eq (a := 0) (b := 3) (by omega) (by omega) c_2
    exact absurd n_2 (by decide)

set_option maxHeartbeats 4000000 in
set_option maxRecDepth 20000 in
theorem c_X6_aboveOf_1 (l : Launch) (G : GB)  : CI l yX6_aboveOf cX6_aboveOf 1 .int 0 0 G [.int (nI 1)] ([]) (fun vR w' => vR = nI 0 ∧ w' = []) := by
  refine CI.mk (own := RX6) (by decide) rfl (Nat.le_of_ble_eq_true rfl) ?_
  intro X E ret
  show J X G 1 0 0 ([]) [(0, .int (nI 1))] 0 []
  refine J_iload_n E dX6_aboveOf_0 rfl 0 rfl ?_
  refine J_iconst E dX6_aboveOf_1 ic_3 ?_
  refine J_icmp_ne E (tgt := 9) dX6_aboveOf_2 (by decide) (fun c_2 => ?_) (fun c_2 => ?_)
  · skip
    have n_2 : ¬ 1 = 3 := cmp_ne (a := 1) (b := 3) (by omega) (by omega) c_2
    refine J_iload_n E dX6_aboveOf_9 rfl 0 rfl ?_
    refine J_iconst E dX6_aboveOf_10 ic_4 ?_
    refine J_icmp_ne E (tgt := 18) dX6_aboveOf_11 (by decide) (fun c_11 => ?_) (fun c_11 => ?_)
    · skip
      have n_11 : ¬ 1 = 4 := cmp_ne (a := 1) (b := 4) (by omega) (by omega) c_11
      refine J_iload_n E dX6_aboveOf_18 rfl 0 rfl ?_
      refine J_bipush E dX6_aboveOf_19 bp_6 ?_
      refine J_icmp_ne E (tgt := 28) dX6_aboveOf_21 (by decide) (fun c_21 => ?_) (fun c_21 => ?_)
      · skip
        have n_21 : ¬ 1 = 6 := cmp_ne (a := 1) (b := 6) (by omega) (by omega) c_21
        refine J_iconst E dX6_aboveOf_28 ic_0 ?_
        exact ret _ _ _ _ ⟨rfl, rfl⟩ rfl dX6_aboveOf_29
      · skip
        have n_21 : 1 = 6 := cmp_eq (a := 1) (b := 6) (by omega) (by omega) c_21
        exact absurd n_21 (by decide)
    · skip
      have n_11 : 1 = 4 := cmp_eq (a := 1) (b := 4) (by omega) (by omega) c_11
      exact absurd n_11 (by decide)
  · skip
    have n_2 : 1 = 3 := cmp_eq (a := 1) (b := 3) (by omega) (by omega) c_2
    exact absurd n_2 (by decide)

set_option maxHeartbeats 4000000 in
set_option maxRecDepth 20000 in
theorem c_X6_aboveOf_2 (l : Launch) (G : GB)  : CI l yX6_aboveOf cX6_aboveOf 1 .int 0 0 G [.int (nI 2)] ([]) (fun vR w' => vR = nI 0 ∧ w' = []) := by
  refine CI.mk (own := RX6) (by decide) rfl (Nat.le_of_ble_eq_true rfl) ?_
  intro X E ret
  show J X G 1 0 0 ([]) [(0, .int (nI 2))] 0 []
  refine J_iload_n E dX6_aboveOf_0 rfl 0 rfl ?_
  refine J_iconst E dX6_aboveOf_1 ic_3 ?_
  refine J_icmp_ne E (tgt := 9) dX6_aboveOf_2 (by decide) (fun c_2 => ?_) (fun c_2 => ?_)
  · skip
    have n_2 : ¬ 2 = 3 := cmp_ne (a := 2) (b := 3) (by omega) (by omega) c_2
    refine J_iload_n E dX6_aboveOf_9 rfl 0 rfl ?_
    refine J_iconst E dX6_aboveOf_10 ic_4 ?_
    refine J_icmp_ne E (tgt := 18) dX6_aboveOf_11 (by decide) (fun c_11 => ?_) (fun c_11 => ?_)
    · skip
      have n_11 : ¬ 2 = 4 := cmp_ne (a := 2) (b := 4) (by omega) (by omega) c_11
      refine J_iload_n E dX6_aboveOf_18 rfl 0 rfl ?_
      refine J_bipush E dX6_aboveOf_19 bp_6 ?_
      refine J_icmp_ne E (tgt := 28) dX6_aboveOf_21 (by decide) (fun c_21 => ?_) (fun c_21 => ?_)
      · skip
        have n_21 : ¬ 2 = 6 := cmp_ne (a := 2) (b := 6) (by omega) (by omega) c_21
        refine J_iconst E dX6_aboveOf_28 ic_0 ?_
        exact ret _ _ _ _ ⟨rfl, rfl⟩ rfl dX6_aboveOf_29
      · skip
        have n_21 : 2 = 6 := cmp_eq (a := 2) (b := 6) (by omega) (by omega) c_21
        exact absurd n_21 (by decide)
    · skip
      have n_11 : 2 = 4 := cmp_eq (a := 2) (b := 4) (by omega) (by omega) c_11
      exact absurd n_11 (by decide)
  · skip
    have n_2 : 2 = 3 := cmp_eq (a := 2) (b := 3) (by omega) (by omega) c_2
    exact absurd n_2 (by decide)

set_option maxHeartbeats 4000000 in
set_option maxRecDepth 20000 in
theorem c_X6_aboveOf_3 (l : Launch) (G : GB)  : CI l yX6_aboveOf cX6_aboveOf 1 .int 0 0 G [.int (nI 3)] ([]) (fun vR w' => vR = nI 2 ∧ w' = []) := by
  refine CI.mk (own := RX6) (by decide) rfl (Nat.le_of_ble_eq_true rfl) ?_
  intro X E ret
  show J X G 1 0 0 ([]) [(0, .int (nI 3))] 0 []
  refine J_iload_n E dX6_aboveOf_0 rfl 0 rfl ?_
  refine J_iconst E dX6_aboveOf_1 ic_3 ?_
  refine J_icmp_ne E (tgt := 9) dX6_aboveOf_2 (by decide) (fun c_2 => ?_) (fun c_2 => ?_)
  · skip
    have n_2 : ¬ 3 = 3 := cmp_ne (a := 3) (b := 3) (by omega) (by omega) c_2
    exact absurd n_2 (by decide)
  · skip
    have n_2 : 3 = 3 := cmp_eq (a := 3) (b := 3) (by omega) (by omega) c_2
    refine J_iconst E dX6_aboveOf_5 ic_2 ?_
    refine J_goto E (tgt := 29) dX6_aboveOf_6 (by decide) ?_
    exact ret _ _ _ _ ⟨rfl, rfl⟩ rfl dX6_aboveOf_29

set_option maxHeartbeats 4000000 in
set_option maxRecDepth 20000 in
theorem c_X6_aboveOf_4 (l : Launch) (G : GB)  : CI l yX6_aboveOf cX6_aboveOf 1 .int 0 0 G [.int (nI 4)] ([]) (fun vR w' => vR = nI 3 ∧ w' = []) := by
  refine CI.mk (own := RX6) (by decide) rfl (Nat.le_of_ble_eq_true rfl) ?_
  intro X E ret
  show J X G 1 0 0 ([]) [(0, .int (nI 4))] 0 []
  refine J_iload_n E dX6_aboveOf_0 rfl 0 rfl ?_
  refine J_iconst E dX6_aboveOf_1 ic_3 ?_
  refine J_icmp_ne E (tgt := 9) dX6_aboveOf_2 (by decide) (fun c_2 => ?_) (fun c_2 => ?_)
  · skip
    have n_2 : ¬ 4 = 3 := cmp_ne (a := 4) (b := 3) (by omega) (by omega) c_2
    refine J_iload_n E dX6_aboveOf_9 rfl 0 rfl ?_
    refine J_iconst E dX6_aboveOf_10 ic_4 ?_
    refine J_icmp_ne E (tgt := 18) dX6_aboveOf_11 (by decide) (fun c_11 => ?_) (fun c_11 => ?_)
    · skip
      have n_11 : ¬ 4 = 4 := cmp_ne (a := 4) (b := 4) (by omega) (by omega) c_11
      exact absurd n_11 (by decide)
    · skip
      have n_11 : 4 = 4 := cmp_eq (a := 4) (b := 4) (by omega) (by omega) c_11
      refine J_iconst E dX6_aboveOf_14 ic_3 ?_
      refine J_goto E (tgt := 29) dX6_aboveOf_15 (by decide) ?_
      exact ret _ _ _ _ ⟨rfl, rfl⟩ rfl dX6_aboveOf_29
  · skip
    have n_2 : 4 = 3 := cmp_eq (a := 4) (b := 3) (by omega) (by omega) c_2
    exact absurd n_2 (by decide)

set_option maxHeartbeats 4000000 in
set_option maxRecDepth 20000 in
theorem c_X6_aboveOf_5 (l : Launch) (G : GB)  : CI l yX6_aboveOf cX6_aboveOf 1 .int 0 0 G [.int (nI 5)] ([]) (fun vR w' => vR = nI 0 ∧ w' = []) := by
  refine CI.mk (own := RX6) (by decide) rfl (Nat.le_of_ble_eq_true rfl) ?_
  intro X E ret
  show J X G 1 0 0 ([]) [(0, .int (nI 5))] 0 []
  refine J_iload_n E dX6_aboveOf_0 rfl 0 rfl ?_
  refine J_iconst E dX6_aboveOf_1 ic_3 ?_
  refine J_icmp_ne E (tgt := 9) dX6_aboveOf_2 (by decide) (fun c_2 => ?_) (fun c_2 => ?_)
  · skip
    have n_2 : ¬ 5 = 3 := cmp_ne (a := 5) (b := 3) (by omega) (by omega) c_2
    refine J_iload_n E dX6_aboveOf_9 rfl 0 rfl ?_
    refine J_iconst E dX6_aboveOf_10 ic_4 ?_
    refine J_icmp_ne E (tgt := 18) dX6_aboveOf_11 (by decide) (fun c_11 => ?_) (fun c_11 => ?_)
    · skip
      have n_11 : ¬ 5 = 4 := cmp_ne (a := 5) (b := 4) (by omega) (by omega) c_11
      refine J_iload_n E dX6_aboveOf_18 rfl 0 rfl ?_
      refine J_bipush E dX6_aboveOf_19 bp_6 ?_
      refine J_icmp_ne E (tgt := 28) dX6_aboveOf_21 (by decide) (fun c_21 => ?_) (fun c_21 => ?_)
      · skip
        have n_21 : ¬ 5 = 6 := cmp_ne (a := 5) (b := 6) (by omega) (by omega) c_21
        refine J_iconst E dX6_aboveOf_28 ic_0 ?_
        exact ret _ _ _ _ ⟨rfl, rfl⟩ rfl dX6_aboveOf_29
      · skip
        have n_21 : 5 = 6 := cmp_eq (a := 5) (b := 6) (by omega) (by omega) c_21
        exact absurd n_21 (by decide)
    · skip
      have n_11 : 5 = 4 := cmp_eq (a := 5) (b := 4) (by omega) (by omega) c_11
      exact absurd n_11 (by decide)
  · skip
    have n_2 : 5 = 3 := cmp_eq (a := 5) (b := 3) (by omega) (by omega) c_2
    exact absurd n_2 (by decide)

set_option maxHeartbeats 4000000 in
set_option maxRecDepth 20000 in
theorem c_X6_aboveOf_6 (l : Launch) (G : GB)  : CI l yX6_aboveOf cX6_aboveOf 1 .int 0 0 G [.int (nI 6)] ([]) (fun vR w' => vR = nI 1 ∧ w' = []) := by
  refine CI.mk (own := RX6) (by decide) rfl (Nat.le_of_ble_eq_true rfl) ?_
  intro X E ret
  show J X G 1 0 0 ([]) [(0, .int (nI 6))] 0 []
  refine J_iload_n E dX6_aboveOf_0 rfl 0 rfl ?_
  refine J_iconst E dX6_aboveOf_1 ic_3 ?_
  refine J_icmp_ne E (tgt := 9) dX6_aboveOf_2 (by decide) (fun c_2 => ?_) (fun c_2 => ?_)
  · skip
    have n_2 : ¬ 6 = 3 := cmp_ne (a := 6) (b := 3) (by omega) (by omega) c_2
    refine J_iload_n E dX6_aboveOf_9 rfl 0 rfl ?_
    refine J_iconst E dX6_aboveOf_10 ic_4 ?_
    refine J_icmp_ne E (tgt := 18) dX6_aboveOf_11 (by decide) (fun c_11 => ?_) (fun c_11 => ?_)
    · skip
      have n_11 : ¬ 6 = 4 := cmp_ne (a := 6) (b := 4) (by omega) (by omega) c_11
      refine J_iload_n E dX6_aboveOf_18 rfl 0 rfl ?_
      refine J_bipush E dX6_aboveOf_19 bp_6 ?_
      refine J_icmp_ne E (tgt := 28) dX6_aboveOf_21 (by decide) (fun c_21 => ?_) (fun c_21 => ?_)
      · skip
        have n_21 : ¬ 6 = 6 := cmp_ne (a := 6) (b := 6) (by omega) (by omega) c_21
        exact absurd n_21 (by decide)
      · skip
        have n_21 : 6 = 6 := cmp_eq (a := 6) (b := 6) (by omega) (by omega) c_21
        refine J_iconst E dX6_aboveOf_24 ic_1 ?_
        refine J_goto E (tgt := 29) dX6_aboveOf_25 (by decide) ?_
        exact ret _ _ _ _ ⟨rfl, rfl⟩ rfl dX6_aboveOf_29
    · skip
      have n_11 : 6 = 4 := cmp_eq (a := 6) (b := 4) (by omega) (by omega) c_11
      exact absurd n_11 (by decide)
  · skip
    have n_2 : 6 = 3 := cmp_eq (a := 6) (b := 3) (by omega) (by omega) c_2
    exact absurd n_2 (by decide)

set_option maxHeartbeats 4000000 in
set_option maxRecDepth 20000 in
theorem c_X6_isUnder (l : Launch) (G : GB) (k o : Nat) (hk : k < 7) (ho : o < 7) : CI l yX6_isUnder cX6_isUnder 3 .boolean 1 20 G [.int (nI k), .int (nI o)] ([]) (fun vR w' => vR = bI (undF k o = true) ∧ w' = []) := by
  refine CI.mk (own := RX6) (by decide) rfl (Nat.le_of_ble_eq_true rfl) ?_
  intro X E ret
  show J X G 3 0 0 ([]) [(0, .int (nI k)), (1, .int (nI o))] 0 []
  rcases (show k = 0 ∨ k = 1 ∨ k = 2 ∨ k = 3 ∨ k = 4 ∨ k = 5 ∨ k = 6 by omega) with rfl | rfl | rfl | rfl | rfl | rfl | rfl
  · skip
    refine J_iload_n E dX6_isUnder_0 rfl 0 rfl ?_
    refine J_istore_n E (lv' := [(2, .int (nI 0)), (0, .int (nI 0)), (1, .int (nI o))]) dX6_isUnder_1 rfl (by decide) rfl ?_
    refine J_iload_n E dX6_isUnder_2 rfl 0 rfl ?_
    refine J_if_eq E (tgt := 19) dX6_isUnder_3 (by decide) (fun c_3 => ?_) (fun c_3 => ?_)
    · skip
      have n_3 : 0 = 0 := cmp_eq (a := 0) (b := 0) (by omega) (by omega) c_3
      refine J_iload_n E dX6_isUnder_19 rfl 0 rfl ?_
      refine J_iload_n E dX6_isUnder_20 rfl 2 rfl ?_
      refine J_icmp_ne E (tgt := 28) dX6_isUnder_21 (by decide) (fun c_21 => ?_) (fun c_21 => ?_)
      · skip
        have n_21 : ¬ 0 = o := cmp_ne (a := 0) (b := o) (by omega) (by omega) c_21
        refine J_iconst E dX6_isUnder_28 ic_0 ?_
        exact ret _ _ _ _ ⟨by first | (exfalso; omega) | (rw [bI_t]; simp [undF]; omega) | (rw [bI_f]; simp [undF]; omega), rfl⟩ rfl dX6_isUnder_29
      · skip
        have n_21 : 0 = o := cmp_eq (a := 0) (b := o) (by omega) (by omega) c_21
        refine J_iconst E dX6_isUnder_24 ic_1 ?_
        refine J_goto E (tgt := 29) dX6_isUnder_25 (by decide) ?_
        exact ret _ _ _ _ ⟨by first | (exfalso; omega) | (rw [bI_t]; simp [undF]; omega) | (rw [bI_f]; simp [undF]; omega), rfl⟩ rfl dX6_isUnder_29
    · skip
      have n_3 : ¬ 0 = 0 := cmp_ne (a := 0) (b := 0) (by omega) (by omega) c_3
      exact absurd n_3 (by decide)
  · skip
    refine J_iload_n E dX6_isUnder_0 rfl 0 rfl ?_
    refine J_istore_n E (lv' := [(2, .int (nI 1)), (0, .int (nI 1)), (1, .int (nI o))]) dX6_isUnder_1 rfl (by decide) rfl ?_
    refine J_iload_n E dX6_isUnder_2 rfl 0 rfl ?_
    refine J_if_eq E (tgt := 19) dX6_isUnder_3 (by decide) (fun c_3 => ?_) (fun c_3 => ?_)
    · skip
      have n_3 : 1 = 0 := cmp_eq (a := 1) (b := 0) (by omega) (by omega) c_3
      exact absurd n_3 (by decide)
    · skip
      have n_3 : ¬ 1 = 0 := cmp_ne (a := 1) (b := 0) (by omega) (by omega) c_3
      refine J_iload_n E dX6_isUnder_6 rfl 0 rfl ?_
      refine J_iload_n E dX6_isUnder_7 rfl 2 rfl ?_
      refine J_icmp_eq E (tgt := 19) dX6_isUnder_8 (by decide) (fun c_8 => ?_) (fun c_8 => ?_)
      · skip
        have n_8 : 1 = o := cmp_eq (a := 1) (b := o) (by omega) (by omega) c_8
        refine J_iload_n E dX6_isUnder_19 rfl 0 rfl ?_
        refine J_iload_n E dX6_isUnder_20 rfl 2 rfl ?_
        refine J_icmp_ne E (tgt := 28) dX6_isUnder_21 (by decide) (fun c_21 => ?_) (fun c_21 => ?_)
        · skip
          have n_21 : ¬ 1 = o := cmp_ne (a := 1) (b := o) (by omega) (by omega) c_21
          refine J_iconst E dX6_isUnder_28 ic_0 ?_
          exact ret _ _ _ _ ⟨by first | (exfalso; omega) | (rw [bI_t]; simp [undF]; omega) | (rw [bI_f]; simp [undF]; omega), rfl⟩ rfl dX6_isUnder_29
        · skip
          have n_21 : 1 = o := cmp_eq (a := 1) (b := o) (by omega) (by omega) c_21
          refine J_iconst E dX6_isUnder_24 ic_1 ?_
          refine J_goto E (tgt := 29) dX6_isUnder_25 (by decide) ?_
          exact ret _ _ _ _ ⟨by first | (exfalso; omega) | (rw [bI_t]; simp [undF]; omega) | (rw [bI_f]; simp [undF]; omega), rfl⟩ rfl dX6_isUnder_29
      · skip
        have n_8 : ¬ 1 = o := cmp_ne (a := 1) (b := o) (by omega) (by omega) c_8
        refine J_iload_n E dX6_isUnder_11 rfl 0 rfl ?_
        refine J_cSiN E (As := [.int (nI 1)]) (c_X6_aboveOf_1 l G ) cl_X6_58 yo_X6_aboveOf dX6_isUnder_12 rfl (Nat.le_of_ble_eq_true rfl) (Nat.le_of_ble_eq_true rfl) rfl (Nat.le_of_ble_eq_true rfl) ⟨Nat.zero_le _, Nat.zero_le _⟩ ?_
        refine J_istore_n E (lv' := [(2, .int (nI 0)), (0, .int (nI 1)), (1, .int (nI o))]) dX6_isUnder_15 rfl (by decide) rfl ?_
        refine J_goto E (tgt := 2) dX6_isUnder_16 (by decide) ?_
        refine J_iload_n E dX6_isUnder_2 rfl 0 rfl ?_
        refine J_if_eq E (tgt := 19) dX6_isUnder_3 (by decide) (fun c_3 => ?_) (fun c_3 => ?_)
        · skip
          have n_3 : 0 = 0 := cmp_eq (a := 0) (b := 0) (by omega) (by omega) c_3
          refine J_iload_n E dX6_isUnder_19 rfl 0 rfl ?_
          refine J_iload_n E dX6_isUnder_20 rfl 2 rfl ?_
          refine J_icmp_ne E (tgt := 28) dX6_isUnder_21 (by decide) (fun c_21 => ?_) (fun c_21 => ?_)
          · skip
            have n_21 : ¬ 0 = o := cmp_ne (a := 0) (b := o) (by omega) (by omega) c_21
            refine J_iconst E dX6_isUnder_28 ic_0 ?_
            exact ret _ _ _ _ ⟨by first | (exfalso; omega) | (rw [bI_t]; simp [undF]; omega) | (rw [bI_f]; simp [undF]; omega), rfl⟩ rfl dX6_isUnder_29
          · skip
            have n_21 : 0 = o := cmp_eq (a := 0) (b := o) (by omega) (by omega) c_21
            refine J_iconst E dX6_isUnder_24 ic_1 ?_
            refine J_goto E (tgt := 29) dX6_isUnder_25 (by decide) ?_
            exact ret _ _ _ _ ⟨by first | (exfalso; omega) | (rw [bI_t]; simp [undF]; omega) | (rw [bI_f]; simp [undF]; omega), rfl⟩ rfl dX6_isUnder_29
        · skip
          have n_3 : ¬ 0 = 0 := cmp_ne (a := 0) (b := 0) (by omega) (by omega) c_3
          exact absurd n_3 (by decide)
  · skip
    refine J_iload_n E dX6_isUnder_0 rfl 0 rfl ?_
    refine J_istore_n E (lv' := [(2, .int (nI 2)), (0, .int (nI 2)), (1, .int (nI o))]) dX6_isUnder_1 rfl (by decide) rfl ?_
    refine J_iload_n E dX6_isUnder_2 rfl 0 rfl ?_
    refine J_if_eq E (tgt := 19) dX6_isUnder_3 (by decide) (fun c_3 => ?_) (fun c_3 => ?_)
    · skip
      have n_3 : 2 = 0 := cmp_eq (a := 2) (b := 0) (by omega) (by omega) c_3
      exact absurd n_3 (by decide)
    · skip
      have n_3 : ¬ 2 = 0 := cmp_ne (a := 2) (b := 0) (by omega) (by omega) c_3
      refine J_iload_n E dX6_isUnder_6 rfl 0 rfl ?_
      refine J_iload_n E dX6_isUnder_7 rfl 2 rfl ?_
      refine J_icmp_eq E (tgt := 19) dX6_isUnder_8 (by decide) (fun c_8 => ?_) (fun c_8 => ?_)
      · skip
        have n_8 : 2 = o := cmp_eq (a := 2) (b := o) (by omega) (by omega) c_8
        refine J_iload_n E dX6_isUnder_19 rfl 0 rfl ?_
        refine J_iload_n E dX6_isUnder_20 rfl 2 rfl ?_
        refine J_icmp_ne E (tgt := 28) dX6_isUnder_21 (by decide) (fun c_21 => ?_) (fun c_21 => ?_)
        · skip
          have n_21 : ¬ 2 = o := cmp_ne (a := 2) (b := o) (by omega) (by omega) c_21
          refine J_iconst E dX6_isUnder_28 ic_0 ?_
          exact ret _ _ _ _ ⟨by first | (exfalso; omega) | (rw [bI_t]; simp [undF]; omega) | (rw [bI_f]; simp [undF]; omega), rfl⟩ rfl dX6_isUnder_29
        · skip
          have n_21 : 2 = o := cmp_eq (a := 2) (b := o) (by omega) (by omega) c_21
          refine J_iconst E dX6_isUnder_24 ic_1 ?_
          refine J_goto E (tgt := 29) dX6_isUnder_25 (by decide) ?_
          exact ret _ _ _ _ ⟨by first | (exfalso; omega) | (rw [bI_t]; simp [undF]; omega) | (rw [bI_f]; simp [undF]; omega), rfl⟩ rfl dX6_isUnder_29
      · skip
        have n_8 : ¬ 2 = o := cmp_ne (a := 2) (b := o) (by omega) (by omega) c_8
        refine J_iload_n E dX6_isUnder_11 rfl 0 rfl ?_
        refine J_cSiN E (As := [.int (nI 2)]) (c_X6_aboveOf_2 l G ) cl_X6_58 yo_X6_aboveOf dX6_isUnder_12 rfl (Nat.le_of_ble_eq_true rfl) (Nat.le_of_ble_eq_true rfl) rfl (Nat.le_of_ble_eq_true rfl) ⟨Nat.zero_le _, Nat.zero_le _⟩ ?_
        refine J_istore_n E (lv' := [(2, .int (nI 0)), (0, .int (nI 2)), (1, .int (nI o))]) dX6_isUnder_15 rfl (by decide) rfl ?_
        refine J_goto E (tgt := 2) dX6_isUnder_16 (by decide) ?_
        refine J_iload_n E dX6_isUnder_2 rfl 0 rfl ?_
        refine J_if_eq E (tgt := 19) dX6_isUnder_3 (by decide) (fun c_3 => ?_) (fun c_3 => ?_)
        · skip
          have n_3 : 0 = 0 := cmp_eq (a := 0) (b := 0) (by omega) (by omega) c_3
          refine J_iload_n E dX6_isUnder_19 rfl 0 rfl ?_
          refine J_iload_n E dX6_isUnder_20 rfl 2 rfl ?_
          refine J_icmp_ne E (tgt := 28) dX6_isUnder_21 (by decide) (fun c_21 => ?_) (fun c_21 => ?_)
          · skip
            have n_21 : ¬ 0 = o := cmp_ne (a := 0) (b := o) (by omega) (by omega) c_21
            refine J_iconst E dX6_isUnder_28 ic_0 ?_
            exact ret _ _ _ _ ⟨by first | (exfalso; omega) | (rw [bI_t]; simp [undF]; omega) | (rw [bI_f]; simp [undF]; omega), rfl⟩ rfl dX6_isUnder_29
          · skip
            have n_21 : 0 = o := cmp_eq (a := 0) (b := o) (by omega) (by omega) c_21
            refine J_iconst E dX6_isUnder_24 ic_1 ?_
            refine J_goto E (tgt := 29) dX6_isUnder_25 (by decide) ?_
            exact ret _ _ _ _ ⟨by first | (exfalso; omega) | (rw [bI_t]; simp [undF]; omega) | (rw [bI_f]; simp [undF]; omega), rfl⟩ rfl dX6_isUnder_29
        · skip
          have n_3 : ¬ 0 = 0 := cmp_ne (a := 0) (b := 0) (by omega) (by omega) c_3
          exact absurd n_3 (by decide)
  · skip
    refine J_iload_n E dX6_isUnder_0 rfl 0 rfl ?_
    refine J_istore_n E (lv' := [(2, .int (nI 3)), (0, .int (nI 3)), (1, .int (nI o))]) dX6_isUnder_1 rfl (by decide) rfl ?_
    refine J_iload_n E dX6_isUnder_2 rfl 0 rfl ?_
    refine J_if_eq E (tgt := 19) dX6_isUnder_3 (by decide) (fun c_3 => ?_) (fun c_3 => ?_)
    · skip
      have n_3 : 3 = 0 := cmp_eq (a := 3) (b := 0) (by omega) (by omega) c_3
      exact absurd n_3 (by decide)
    · skip
      have n_3 : ¬ 3 = 0 := cmp_ne (a := 3) (b := 0) (by omega) (by omega) c_3
      refine J_iload_n E dX6_isUnder_6 rfl 0 rfl ?_
      refine J_iload_n E dX6_isUnder_7 rfl 2 rfl ?_
      refine J_icmp_eq E (tgt := 19) dX6_isUnder_8 (by decide) (fun c_8 => ?_) (fun c_8 => ?_)
      · skip
        have n_8 : 3 = o := cmp_eq (a := 3) (b := o) (by omega) (by omega) c_8
        refine J_iload_n E dX6_isUnder_19 rfl 0 rfl ?_
        refine J_iload_n E dX6_isUnder_20 rfl 2 rfl ?_
        refine J_icmp_ne E (tgt := 28) dX6_isUnder_21 (by decide) (fun c_21 => ?_) (fun c_21 => ?_)
        · skip
          have n_21 : ¬ 3 = o := cmp_ne (a := 3) (b := o) (by omega) (by omega) c_21
          refine J_iconst E dX6_isUnder_28 ic_0 ?_
          exact ret _ _ _ _ ⟨by first | (exfalso; omega) | (rw [bI_t]; simp [undF]; omega) | (rw [bI_f]; simp [undF]; omega), rfl⟩ rfl dX6_isUnder_29
        · skip
          have n_21 : 3 = o := cmp_eq (a := 3) (b := o) (by omega) (by omega) c_21
          refine J_iconst E dX6_isUnder_24 ic_1 ?_
          refine J_goto E (tgt := 29) dX6_isUnder_25 (by decide) ?_
          exact ret _ _ _ _ ⟨by first | (exfalso; omega) | (rw [bI_t]; simp [undF]; omega) | (rw [bI_f]; simp [undF]; omega), rfl⟩ rfl dX6_isUnder_29
      · skip
        have n_8 : ¬ 3 = o := cmp_ne (a := 3) (b := o) (by omega) (by omega) c_8
        refine J_iload_n E dX6_isUnder_11 rfl 0 rfl ?_
        refine J_cSiN E (As := [.int (nI 3)]) (c_X6_aboveOf_3 l G ) cl_X6_58 yo_X6_aboveOf dX6_isUnder_12 rfl (Nat.le_of_ble_eq_true rfl) (Nat.le_of_ble_eq_true rfl) rfl (Nat.le_of_ble_eq_true rfl) ⟨Nat.zero_le _, Nat.zero_le _⟩ ?_
        refine J_istore_n E (lv' := [(2, .int (nI 2)), (0, .int (nI 3)), (1, .int (nI o))]) dX6_isUnder_15 rfl (by decide) rfl ?_
        refine J_goto E (tgt := 2) dX6_isUnder_16 (by decide) ?_
        refine J_iload_n E dX6_isUnder_2 rfl 0 rfl ?_
        refine J_if_eq E (tgt := 19) dX6_isUnder_3 (by decide) (fun c_3 => ?_) (fun c_3 => ?_)
        · skip
          have n_3 : 2 = 0 := cmp_eq (a := 2) (b := 0) (by omega) (by omega) c_3
          exact absurd n_3 (by decide)
        · skip
          have n_3 : ¬ 2 = 0 := cmp_ne (a := 2) (b := 0) (by omega) (by omega) c_3
          refine J_iload_n E dX6_isUnder_6 rfl 0 rfl ?_
          refine J_iload_n E dX6_isUnder_7 rfl 2 rfl ?_
          refine J_icmp_eq E (tgt := 19) dX6_isUnder_8 (by decide) (fun c_8 => ?_) (fun c_8 => ?_)
          · skip
            have n_8 : 2 = o := cmp_eq (a := 2) (b := o) (by omega) (by omega) c_8
            refine J_iload_n E dX6_isUnder_19 rfl 0 rfl ?_
            refine J_iload_n E dX6_isUnder_20 rfl 2 rfl ?_
            refine J_icmp_ne E (tgt := 28) dX6_isUnder_21 (by decide) (fun c_21 => ?_) (fun c_21 => ?_)
            · skip
              have n_21 : ¬ 2 = o := cmp_ne (a := 2) (b := o) (by omega) (by omega) c_21
              refine J_iconst E dX6_isUnder_28 ic_0 ?_
              exact ret _ _ _ _ ⟨by first | (exfalso; omega) | (rw [bI_t]; simp [undF]; omega) | (rw [bI_f]; simp [undF]; omega), rfl⟩ rfl dX6_isUnder_29
            · skip
              have n_21 : 2 = o := cmp_eq (a := 2) (b := o) (by omega) (by omega) c_21
              refine J_iconst E dX6_isUnder_24 ic_1 ?_
              refine J_goto E (tgt := 29) dX6_isUnder_25 (by decide) ?_
              exact ret _ _ _ _ ⟨by first | (exfalso; omega) | (rw [bI_t]; simp [undF]; omega) | (rw [bI_f]; simp [undF]; omega), rfl⟩ rfl dX6_isUnder_29
          · skip
            have n_8 : ¬ 2 = o := cmp_ne (a := 2) (b := o) (by omega) (by omega) c_8
            refine J_iload_n E dX6_isUnder_11 rfl 0 rfl ?_
            refine J_cSiN E (As := [.int (nI 2)]) (c_X6_aboveOf_2 l G ) cl_X6_58 yo_X6_aboveOf dX6_isUnder_12 rfl (Nat.le_of_ble_eq_true rfl) (Nat.le_of_ble_eq_true rfl) rfl (Nat.le_of_ble_eq_true rfl) ⟨Nat.zero_le _, Nat.zero_le _⟩ ?_
            refine J_istore_n E (lv' := [(2, .int (nI 0)), (0, .int (nI 3)), (1, .int (nI o))]) dX6_isUnder_15 rfl (by decide) rfl ?_
            refine J_goto E (tgt := 2) dX6_isUnder_16 (by decide) ?_
            refine J_iload_n E dX6_isUnder_2 rfl 0 rfl ?_
            refine J_if_eq E (tgt := 19) dX6_isUnder_3 (by decide) (fun c_3 => ?_) (fun c_3 => ?_)
            · skip
              have n_3 : 0 = 0 := cmp_eq (a := 0) (b := 0) (by omega) (by omega) c_3
              refine J_iload_n E dX6_isUnder_19 rfl 0 rfl ?_
              refine J_iload_n E dX6_isUnder_20 rfl 2 rfl ?_
              refine J_icmp_ne E (tgt := 28) dX6_isUnder_21 (by decide) (fun c_21 => ?_) (fun c_21 => ?_)
              · skip
                have n_21 : ¬ 0 = o := cmp_ne (a := 0) (b := o) (by omega) (by omega) c_21
                refine J_iconst E dX6_isUnder_28 ic_0 ?_
                exact ret _ _ _ _ ⟨by first | (exfalso; omega) | (rw [bI_t]; simp [undF]; omega) | (rw [bI_f]; simp [undF]; omega), rfl⟩ rfl dX6_isUnder_29
              · skip
                have n_21 : 0 = o := cmp_eq (a := 0) (b := o) (by omega) (by omega) c_21
                refine J_iconst E dX6_isUnder_24 ic_1 ?_
                refine J_goto E (tgt := 29) dX6_isUnder_25 (by decide) ?_
                exact ret _ _ _ _ ⟨by first | (exfalso; omega) | (rw [bI_t]; simp [undF]; omega) | (rw [bI_f]; simp [undF]; omega), rfl⟩ rfl dX6_isUnder_29
            · skip
              have n_3 : ¬ 0 = 0 := cmp_ne (a := 0) (b := 0) (by omega) (by omega) c_3
              exact absurd n_3 (by decide)
  · skip
    refine J_iload_n E dX6_isUnder_0 rfl 0 rfl ?_
    refine J_istore_n E (lv' := [(2, .int (nI 4)), (0, .int (nI 4)), (1, .int (nI o))]) dX6_isUnder_1 rfl (by decide) rfl ?_
    refine J_iload_n E dX6_isUnder_2 rfl 0 rfl ?_
    refine J_if_eq E (tgt := 19) dX6_isUnder_3 (by decide) (fun c_3 => ?_) (fun c_3 => ?_)
    · skip
      have n_3 : 4 = 0 := cmp_eq (a := 4) (b := 0) (by omega) (by omega) c_3
      exact absurd n_3 (by decide)
    · skip
      have n_3 : ¬ 4 = 0 := cmp_ne (a := 4) (b := 0) (by omega) (by omega) c_3
      refine J_iload_n E dX6_isUnder_6 rfl 0 rfl ?_
      refine J_iload_n E dX6_isUnder_7 rfl 2 rfl ?_
      refine J_icmp_eq E (tgt := 19) dX6_isUnder_8 (by decide) (fun c_8 => ?_) (fun c_8 => ?_)
      · skip
        have n_8 : 4 = o := cmp_eq (a := 4) (b := o) (by omega) (by omega) c_8
        refine J_iload_n E dX6_isUnder_19 rfl 0 rfl ?_
        refine J_iload_n E dX6_isUnder_20 rfl 2 rfl ?_
        refine J_icmp_ne E (tgt := 28) dX6_isUnder_21 (by decide) (fun c_21 => ?_) (fun c_21 => ?_)
        · skip
          have n_21 : ¬ 4 = o := cmp_ne (a := 4) (b := o) (by omega) (by omega) c_21
          refine J_iconst E dX6_isUnder_28 ic_0 ?_
          exact ret _ _ _ _ ⟨by first | (exfalso; omega) | (rw [bI_t]; simp [undF]; omega) | (rw [bI_f]; simp [undF]; omega), rfl⟩ rfl dX6_isUnder_29
        · skip
          have n_21 : 4 = o := cmp_eq (a := 4) (b := o) (by omega) (by omega) c_21
          refine J_iconst E dX6_isUnder_24 ic_1 ?_
          refine J_goto E (tgt := 29) dX6_isUnder_25 (by decide) ?_
          exact ret _ _ _ _ ⟨by first | (exfalso; omega) | (rw [bI_t]; simp [undF]; omega) | (rw [bI_f]; simp [undF]; omega), rfl⟩ rfl dX6_isUnder_29
      · skip
        have n_8 : ¬ 4 = o := cmp_ne (a := 4) (b := o) (by omega) (by omega) c_8
        refine J_iload_n E dX6_isUnder_11 rfl 0 rfl ?_
        refine J_cSiN E (As := [.int (nI 4)]) (c_X6_aboveOf_4 l G ) cl_X6_58 yo_X6_aboveOf dX6_isUnder_12 rfl (Nat.le_of_ble_eq_true rfl) (Nat.le_of_ble_eq_true rfl) rfl (Nat.le_of_ble_eq_true rfl) ⟨Nat.zero_le _, Nat.zero_le _⟩ ?_
        refine J_istore_n E (lv' := [(2, .int (nI 3)), (0, .int (nI 4)), (1, .int (nI o))]) dX6_isUnder_15 rfl (by decide) rfl ?_
        refine J_goto E (tgt := 2) dX6_isUnder_16 (by decide) ?_
        refine J_iload_n E dX6_isUnder_2 rfl 0 rfl ?_
        refine J_if_eq E (tgt := 19) dX6_isUnder_3 (by decide) (fun c_3 => ?_) (fun c_3 => ?_)
        · skip
          have n_3 : 3 = 0 := cmp_eq (a := 3) (b := 0) (by omega) (by omega) c_3
          exact absurd n_3 (by decide)
        · skip
          have n_3 : ¬ 3 = 0 := cmp_ne (a := 3) (b := 0) (by omega) (by omega) c_3
          refine J_iload_n E dX6_isUnder_6 rfl 0 rfl ?_
          refine J_iload_n E dX6_isUnder_7 rfl 2 rfl ?_
          refine J_icmp_eq E (tgt := 19) dX6_isUnder_8 (by decide) (fun c_8 => ?_) (fun c_8 => ?_)
          · skip
            have n_8 : 3 = o := cmp_eq (a := 3) (b := o) (by omega) (by omega) c_8
            refine J_iload_n E dX6_isUnder_19 rfl 0 rfl ?_
            refine J_iload_n E dX6_isUnder_20 rfl 2 rfl ?_
            refine J_icmp_ne E (tgt := 28) dX6_isUnder_21 (by decide) (fun c_21 => ?_) (fun c_21 => ?_)
            · skip
              have n_21 : ¬ 3 = o := cmp_ne (a := 3) (b := o) (by omega) (by omega) c_21
              refine J_iconst E dX6_isUnder_28 ic_0 ?_
              exact ret _ _ _ _ ⟨by first | (exfalso; omega) | (rw [bI_t]; simp [undF]; omega) | (rw [bI_f]; simp [undF]; omega), rfl⟩ rfl dX6_isUnder_29
            · skip
              have n_21 : 3 = o := cmp_eq (a := 3) (b := o) (by omega) (by omega) c_21
              refine J_iconst E dX6_isUnder_24 ic_1 ?_
              refine J_goto E (tgt := 29) dX6_isUnder_25 (by decide) ?_
              exact ret _ _ _ _ ⟨by first | (exfalso; omega) | (rw [bI_t]; simp [undF]; omega) | (rw [bI_f]; simp [undF]; omega), rfl⟩ rfl dX6_isUnder_29
          · skip
            have n_8 : ¬ 3 = o := cmp_ne (a := 3) (b := o) (by omega) (by omega) c_8
            refine J_iload_n E dX6_isUnder_11 rfl 0 rfl ?_
            refine J_cSiN E (As := [.int (nI 3)]) (c_X6_aboveOf_3 l G ) cl_X6_58 yo_X6_aboveOf dX6_isUnder_12 rfl (Nat.le_of_ble_eq_true rfl) (Nat.le_of_ble_eq_true rfl) rfl (Nat.le_of_ble_eq_true rfl) ⟨Nat.zero_le _, Nat.zero_le _⟩ ?_
            refine J_istore_n E (lv' := [(2, .int (nI 2)), (0, .int (nI 4)), (1, .int (nI o))]) dX6_isUnder_15 rfl (by decide) rfl ?_
            refine J_goto E (tgt := 2) dX6_isUnder_16 (by decide) ?_
            refine J_iload_n E dX6_isUnder_2 rfl 0 rfl ?_
            refine J_if_eq E (tgt := 19) dX6_isUnder_3 (by decide) (fun c_3 => ?_) (fun c_3 => ?_)
            · skip
              have n_3 : 2 = 0 := cmp_eq (a := 2) (b := 0) (by omega) (by omega) c_3
              exact absurd n_3 (by decide)
            · skip
              have n_3 : ¬ 2 = 0 := cmp_ne (a := 2) (b := 0) (by omega) (by omega) c_3
              refine J_iload_n E dX6_isUnder_6 rfl 0 rfl ?_
              refine J_iload_n E dX6_isUnder_7 rfl 2 rfl ?_
              refine J_icmp_eq E (tgt := 19) dX6_isUnder_8 (by decide) (fun c_8 => ?_) (fun c_8 => ?_)
              · skip
                have n_8 : 2 = o := cmp_eq (a := 2) (b := o) (by omega) (by omega) c_8
                refine J_iload_n E dX6_isUnder_19 rfl 0 rfl ?_
                refine J_iload_n E dX6_isUnder_20 rfl 2 rfl ?_
                refine J_icmp_ne E (tgt := 28) dX6_isUnder_21 (by decide) (fun c_21 => ?_) (fun c_21 => ?_)
                · skip
                  have n_21 : ¬ 2 = o := cmp_ne (a := 2) (b := o) (by omega) (by omega) c_21
                  refine J_iconst E dX6_isUnder_28 ic_0 ?_
                  exact ret _ _ _ _ ⟨by first | (exfalso; omega) | (rw [bI_t]; simp [undF]; omega) | (rw [bI_f]; simp [undF]; omega), rfl⟩ rfl dX6_isUnder_29
                · skip
                  have n_21 : 2 = o := cmp_eq (a := 2) (b := o) (by omega) (by omega) c_21
                  refine J_iconst E dX6_isUnder_24 ic_1 ?_
                  refine J_goto E (tgt := 29) dX6_isUnder_25 (by decide) ?_
                  exact ret _ _ _ _ ⟨by first | (exfalso; omega) | (rw [bI_t]; simp [undF]; omega) | (rw [bI_f]; simp [undF]; omega), rfl⟩ rfl dX6_isUnder_29
              · skip
                have n_8 : ¬ 2 = o := cmp_ne (a := 2) (b := o) (by omega) (by omega) c_8
                refine J_iload_n E dX6_isUnder_11 rfl 0 rfl ?_
                refine J_cSiN E (As := [.int (nI 2)]) (c_X6_aboveOf_2 l G ) cl_X6_58 yo_X6_aboveOf dX6_isUnder_12 rfl (Nat.le_of_ble_eq_true rfl) (Nat.le_of_ble_eq_true rfl) rfl (Nat.le_of_ble_eq_true rfl) ⟨Nat.zero_le _, Nat.zero_le _⟩ ?_
                refine J_istore_n E (lv' := [(2, .int (nI 0)), (0, .int (nI 4)), (1, .int (nI o))]) dX6_isUnder_15 rfl (by decide) rfl ?_
                refine J_goto E (tgt := 2) dX6_isUnder_16 (by decide) ?_
                refine J_iload_n E dX6_isUnder_2 rfl 0 rfl ?_
                refine J_if_eq E (tgt := 19) dX6_isUnder_3 (by decide) (fun c_3 => ?_) (fun c_3 => ?_)
                · skip
                  have n_3 : 0 = 0 := cmp_eq (a := 0) (b := 0) (by omega) (by omega) c_3
                  refine J_iload_n E dX6_isUnder_19 rfl 0 rfl ?_
                  refine J_iload_n E dX6_isUnder_20 rfl 2 rfl ?_
                  refine J_icmp_ne E (tgt := 28) dX6_isUnder_21 (by decide) (fun c_21 => ?_) (fun c_21 => ?_)
                  · skip
                    have n_21 : ¬ 0 = o := cmp_ne (a := 0) (b := o) (by omega) (by omega) c_21
                    refine J_iconst E dX6_isUnder_28 ic_0 ?_
                    exact ret _ _ _ _ ⟨by first | (exfalso; omega) | (rw [bI_t]; simp [undF]; omega) | (rw [bI_f]; simp [undF]; omega), rfl⟩ rfl dX6_isUnder_29
                  · skip
                    have n_21 : 0 = o := cmp_eq (a := 0) (b := o) (by omega) (by omega) c_21
                    refine J_iconst E dX6_isUnder_24 ic_1 ?_
                    refine J_goto E (tgt := 29) dX6_isUnder_25 (by decide) ?_
                    exact ret _ _ _ _ ⟨by first | (exfalso; omega) | (rw [bI_t]; simp [undF]; omega) | (rw [bI_f]; simp [undF]; omega), rfl⟩ rfl dX6_isUnder_29
                · skip
                  have n_3 : ¬ 0 = 0 := cmp_ne (a := 0) (b := 0) (by omega) (by omega) c_3
                  exact absurd n_3 (by decide)
  · skip
    refine J_iload_n E dX6_isUnder_0 rfl 0 rfl ?_
    refine J_istore_n E (lv' := [(2, .int (nI 5)), (0, .int (nI 5)), (1, .int (nI o))]) dX6_isUnder_1 rfl (by decide) rfl ?_
    refine J_iload_n E dX6_isUnder_2 rfl 0 rfl ?_
    refine J_if_eq E (tgt := 19) dX6_isUnder_3 (by decide) (fun c_3 => ?_) (fun c_3 => ?_)
    · skip
      have n_3 : 5 = 0 := cmp_eq (a := 5) (b := 0) (by omega) (by omega) c_3
      exact absurd n_3 (by decide)
    · skip
      have n_3 : ¬ 5 = 0 := cmp_ne (a := 5) (b := 0) (by omega) (by omega) c_3
      refine J_iload_n E dX6_isUnder_6 rfl 0 rfl ?_
      refine J_iload_n E dX6_isUnder_7 rfl 2 rfl ?_
      refine J_icmp_eq E (tgt := 19) dX6_isUnder_8 (by decide) (fun c_8 => ?_) (fun c_8 => ?_)
      · skip
        have n_8 : 5 = o := cmp_eq (a := 5) (b := o) (by omega) (by omega) c_8
        refine J_iload_n E dX6_isUnder_19 rfl 0 rfl ?_
        refine J_iload_n E dX6_isUnder_20 rfl 2 rfl ?_
        refine J_icmp_ne E (tgt := 28) dX6_isUnder_21 (by decide) (fun c_21 => ?_) (fun c_21 => ?_)
        · skip
          have n_21 : ¬ 5 = o := cmp_ne (a := 5) (b := o) (by omega) (by omega) c_21
          refine J_iconst E dX6_isUnder_28 ic_0 ?_
          exact ret _ _ _ _ ⟨by first | (exfalso; omega) | (rw [bI_t]; simp [undF]; omega) | (rw [bI_f]; simp [undF]; omega), rfl⟩ rfl dX6_isUnder_29
        · skip
          have n_21 : 5 = o := cmp_eq (a := 5) (b := o) (by omega) (by omega) c_21
          refine J_iconst E dX6_isUnder_24 ic_1 ?_
          refine J_goto E (tgt := 29) dX6_isUnder_25 (by decide) ?_
          exact ret _ _ _ _ ⟨by first | (exfalso; omega) | (rw [bI_t]; simp [undF]; omega) | (rw [bI_f]; simp [undF]; omega), rfl⟩ rfl dX6_isUnder_29
      · skip
        have n_8 : ¬ 5 = o := cmp_ne (a := 5) (b := o) (by omega) (by omega) c_8
        refine J_iload_n E dX6_isUnder_11 rfl 0 rfl ?_
        refine J_cSiN E (As := [.int (nI 5)]) (c_X6_aboveOf_5 l G ) cl_X6_58 yo_X6_aboveOf dX6_isUnder_12 rfl (Nat.le_of_ble_eq_true rfl) (Nat.le_of_ble_eq_true rfl) rfl (Nat.le_of_ble_eq_true rfl) ⟨Nat.zero_le _, Nat.zero_le _⟩ ?_
        refine J_istore_n E (lv' := [(2, .int (nI 0)), (0, .int (nI 5)), (1, .int (nI o))]) dX6_isUnder_15 rfl (by decide) rfl ?_
        refine J_goto E (tgt := 2) dX6_isUnder_16 (by decide) ?_
        refine J_iload_n E dX6_isUnder_2 rfl 0 rfl ?_
        refine J_if_eq E (tgt := 19) dX6_isUnder_3 (by decide) (fun c_3 => ?_) (fun c_3 => ?_)
        · skip
          have n_3 : 0 = 0 := cmp_eq (a := 0) (b := 0) (by omega) (by omega) c_3
          refine J_iload_n E dX6_isUnder_19 rfl 0 rfl ?_
          refine J_iload_n E dX6_isUnder_20 rfl 2 rfl ?_
          refine J_icmp_ne E (tgt := 28) dX6_isUnder_21 (by decide) (fun c_21 => ?_) (fun c_21 => ?_)
          · skip
            have n_21 : ¬ 0 = o := cmp_ne (a := 0) (b := o) (by omega) (by omega) c_21
            refine J_iconst E dX6_isUnder_28 ic_0 ?_
            exact ret _ _ _ _ ⟨by first | (exfalso; omega) | (rw [bI_t]; simp [undF]; omega) | (rw [bI_f]; simp [undF]; omega), rfl⟩ rfl dX6_isUnder_29
          · skip
            have n_21 : 0 = o := cmp_eq (a := 0) (b := o) (by omega) (by omega) c_21
            refine J_iconst E dX6_isUnder_24 ic_1 ?_
            refine J_goto E (tgt := 29) dX6_isUnder_25 (by decide) ?_
            exact ret _ _ _ _ ⟨by first | (exfalso; omega) | (rw [bI_t]; simp [undF]; omega) | (rw [bI_f]; simp [undF]; omega), rfl⟩ rfl dX6_isUnder_29
        · skip
          have n_3 : ¬ 0 = 0 := cmp_ne (a := 0) (b := 0) (by omega) (by omega) c_3
          exact absurd n_3 (by decide)
  · skip
    refine J_iload_n E dX6_isUnder_0 rfl 0 rfl ?_
    refine J_istore_n E (lv' := [(2, .int (nI 6)), (0, .int (nI 6)), (1, .int (nI o))]) dX6_isUnder_1 rfl (by decide) rfl ?_
    refine J_iload_n E dX6_isUnder_2 rfl 0 rfl ?_
    refine J_if_eq E (tgt := 19) dX6_isUnder_3 (by decide) (fun c_3 => ?_) (fun c_3 => ?_)
    · skip
      have n_3 : 6 = 0 := cmp_eq (a := 6) (b := 0) (by omega) (by omega) c_3
      exact absurd n_3 (by decide)
    · skip
      have n_3 : ¬ 6 = 0 := cmp_ne (a := 6) (b := 0) (by omega) (by omega) c_3
      refine J_iload_n E dX6_isUnder_6 rfl 0 rfl ?_
      refine J_iload_n E dX6_isUnder_7 rfl 2 rfl ?_
      refine J_icmp_eq E (tgt := 19) dX6_isUnder_8 (by decide) (fun c_8 => ?_) (fun c_8 => ?_)
      · skip
        have n_8 : 6 = o := cmp_eq (a := 6) (b := o) (by omega) (by omega) c_8
        refine J_iload_n E dX6_isUnder_19 rfl 0 rfl ?_
        refine J_iload_n E dX6_isUnder_20 rfl 2 rfl ?_
        refine J_icmp_ne E (tgt := 28) dX6_isUnder_21 (by decide) (fun c_21 => ?_) (fun c_21 => ?_)
        · skip
          have n_21 : ¬ 6 = o := cmp_ne (a := 6) (b := o) (by omega) (by omega) c_21
          refine J_iconst E dX6_isUnder_28 ic_0 ?_
          exact ret _ _ _ _ ⟨by first | (exfalso; omega) | (rw [bI_t]; simp [undF]; omega) | (rw [bI_f]; simp [undF]; omega), rfl⟩ rfl dX6_isUnder_29
        · skip
          have n_21 : 6 = o := cmp_eq (a := 6) (b := o) (by omega) (by omega) c_21
          refine J_iconst E dX6_isUnder_24 ic_1 ?_
          refine J_goto E (tgt := 29) dX6_isUnder_25 (by decide) ?_
          exact ret _ _ _ _ ⟨by first | (exfalso; omega) | (rw [bI_t]; simp [undF]; omega) | (rw [bI_f]; simp [undF]; omega), rfl⟩ rfl dX6_isUnder_29
      · skip
        have n_8 : ¬ 6 = o := cmp_ne (a := 6) (b := o) (by omega) (by omega) c_8
        refine J_iload_n E dX6_isUnder_11 rfl 0 rfl ?_
        refine J_cSiN E (As := [.int (nI 6)]) (c_X6_aboveOf_6 l G ) cl_X6_58 yo_X6_aboveOf dX6_isUnder_12 rfl (Nat.le_of_ble_eq_true rfl) (Nat.le_of_ble_eq_true rfl) rfl (Nat.le_of_ble_eq_true rfl) ⟨Nat.zero_le _, Nat.zero_le _⟩ ?_
        refine J_istore_n E (lv' := [(2, .int (nI 1)), (0, .int (nI 6)), (1, .int (nI o))]) dX6_isUnder_15 rfl (by decide) rfl ?_
        refine J_goto E (tgt := 2) dX6_isUnder_16 (by decide) ?_
        refine J_iload_n E dX6_isUnder_2 rfl 0 rfl ?_
        refine J_if_eq E (tgt := 19) dX6_isUnder_3 (by decide) (fun c_3 => ?_) (fun c_3 => ?_)
        · skip
          have n_3 : 1 = 0 := cmp_eq (a := 1) (b := 0) (by omega) (by omega) c_3
          exact absurd n_3 (by decide)
        · skip
          have n_3 : ¬ 1 = 0 := cmp_ne (a := 1) (b := 0) (by omega) (by omega) c_3
          refine J_iload_n E dX6_isUnder_6 rfl 0 rfl ?_
          refine J_iload_n E dX6_isUnder_7 rfl 2 rfl ?_
          refine J_icmp_eq E (tgt := 19) dX6_isUnder_8 (by decide) (fun c_8 => ?_) (fun c_8 => ?_)
          · skip
            have n_8 : 1 = o := cmp_eq (a := 1) (b := o) (by omega) (by omega) c_8
            refine J_iload_n E dX6_isUnder_19 rfl 0 rfl ?_
            refine J_iload_n E dX6_isUnder_20 rfl 2 rfl ?_
            refine J_icmp_ne E (tgt := 28) dX6_isUnder_21 (by decide) (fun c_21 => ?_) (fun c_21 => ?_)
            · skip
              have n_21 : ¬ 1 = o := cmp_ne (a := 1) (b := o) (by omega) (by omega) c_21
              refine J_iconst E dX6_isUnder_28 ic_0 ?_
              exact ret _ _ _ _ ⟨by first | (exfalso; omega) | (rw [bI_t]; simp [undF]; omega) | (rw [bI_f]; simp [undF]; omega), rfl⟩ rfl dX6_isUnder_29
            · skip
              have n_21 : 1 = o := cmp_eq (a := 1) (b := o) (by omega) (by omega) c_21
              refine J_iconst E dX6_isUnder_24 ic_1 ?_
              refine J_goto E (tgt := 29) dX6_isUnder_25 (by decide) ?_
              exact ret _ _ _ _ ⟨by first | (exfalso; omega) | (rw [bI_t]; simp [undF]; omega) | (rw [bI_f]; simp [undF]; omega), rfl⟩ rfl dX6_isUnder_29
          · skip
            have n_8 : ¬ 1 = o := cmp_ne (a := 1) (b := o) (by omega) (by omega) c_8
            refine J_iload_n E dX6_isUnder_11 rfl 0 rfl ?_
            refine J_cSiN E (As := [.int (nI 1)]) (c_X6_aboveOf_1 l G ) cl_X6_58 yo_X6_aboveOf dX6_isUnder_12 rfl (Nat.le_of_ble_eq_true rfl) (Nat.le_of_ble_eq_true rfl) rfl (Nat.le_of_ble_eq_true rfl) ⟨Nat.zero_le _, Nat.zero_le _⟩ ?_
            refine J_istore_n E (lv' := [(2, .int (nI 0)), (0, .int (nI 6)), (1, .int (nI o))]) dX6_isUnder_15 rfl (by decide) rfl ?_
            refine J_goto E (tgt := 2) dX6_isUnder_16 (by decide) ?_
            refine J_iload_n E dX6_isUnder_2 rfl 0 rfl ?_
            refine J_if_eq E (tgt := 19) dX6_isUnder_3 (by decide) (fun c_3 => ?_) (fun c_3 => ?_)
            · skip
              have n_3 : 0 = 0 := cmp_eq (a := 0) (b := 0) (by omega) (by omega) c_3
              refine J_iload_n E dX6_isUnder_19 rfl 0 rfl ?_
              refine J_iload_n E dX6_isUnder_20 rfl 2 rfl ?_
              refine J_icmp_ne E (tgt := 28) dX6_isUnder_21 (by decide) (fun c_21 => ?_) (fun c_21 => ?_)
              · skip
                have n_21 : ¬ 0 = o := cmp_ne (a := 0) (b := o) (by omega) (by omega) c_21
                refine J_iconst E dX6_isUnder_28 ic_0 ?_
                exact ret _ _ _ _ ⟨by first | (exfalso; omega) | (rw [bI_t]; simp [undF]; omega) | (rw [bI_f]; simp [undF]; omega), rfl⟩ rfl dX6_isUnder_29
              · skip
                have n_21 : 0 = o := cmp_eq (a := 0) (b := o) (by omega) (by omega) c_21
                refine J_iconst E dX6_isUnder_24 ic_1 ?_
                refine J_goto E (tgt := 29) dX6_isUnder_25 (by decide) ?_
                exact ret _ _ _ _ ⟨by first | (exfalso; omega) | (rw [bI_t]; simp [undF]; omega) | (rw [bI_f]; simp [undF]; omega), rfl⟩ rfl dX6_isUnder_29
            · skip
              have n_3 : ¬ 0 = 0 := cmp_ne (a := 0) (b := 0) (by omega) (by omega) c_3
              exact absurd n_3 (by decide)

set_option maxHeartbeats 4000000 in
set_option maxRecDepth 20000 in
theorem c_X6_uses (l : Launch) (G : GB) (b : Nat → Nat) (y : Q3) (h : Nat) (hh : h < 11)  : CI l yX6_uses cX6_uses 5 .int 1 22 G [.ref (b 0), .int (nI h)] (wM G b y) (fun vR w' => vR = useF (y 0 0 h) (y 0 2 h) (y 0 7 0) ∧ w' = wM G b y) := by
  refine CI.mk (own := RX6) (by decide) rfl (Nat.le_of_ble_eq_true rfl) ?_
  intro X E ret
  show J X G 5 0 0 (wM G b y) [(0, .ref (b 0)), (1, .int (nI h))] 0 []
  refine J_aload_n E dX6_uses_0 rfl 0 rfl ?_
  refine J_iload_n E dX6_uses_1 rfl 1 rfl ?_
  refine J_iconst E dX6_uses_2 ic_2 ?_
  refine J_cVi0 E (As := [.int (nI h), .int 2]) (c_X6_its l G b y h 2 (by omega) (by omega)) cl_X6_64 yo_X6_its dX6_uses_3 rfl rfl rfl (Nat.le_of_ble_eq_true rfl) (Nat.le_of_ble_eq_true rfl) rfl (Nat.le_of_ble_eq_true rfl) ⟨Nat.zero_le _, Nat.zero_le _⟩ ?_
  refine J_istore_n E (lv' := [(2, .int (y 0 2 h)), (0, .ref (b 0)), (1, .int (nI h))]) dX6_uses_6 rfl (by decide) rfl ?_
  refine J_iconst E dX6_uses_7 ic_0 ?_
  refine J_iconst E dX6_uses_8 ic_2 ?_
  refine J_iload_n E dX6_uses_9 rfl 0 rfl ?_
  refine J_imul E dX6_uses_10 ?_
  refine J_iconst E dX6_uses_11 ic_3 ?_
  refine J_isub E dX6_uses_12 ?_
  refine J_mmax E ml_X6_68 st_mmax ini_J9 co_mmax dX6_uses_13 (by decide) (Nat.le_of_ble_eq_true rfl) ⟨Nat.zero_le _, Nat.zero_le _⟩ ?_
  refine J_istore_n E (lv' := [(3, .int (mx 0 ((2 * (y 0 2 h)) - 3))), (2, .int (y 0 2 h)), (0, .ref (b 0)), (1, .int (nI h))]) dX6_uses_16 rfl (by decide) rfl ?_
  refine J_aload_n E dX6_uses_17 rfl 2 rfl ?_
  refine gM0_X6_9 E dX6_uses_18 ?_
  refine J_iconst E dX6_uses_21 ic_0 ?_
  refine lMs E (j := 0) (r := 7) (i := 0) (at_7 (by decide)) dX6_uses_22 ?_
  refine J_iconst E dX6_uses_23 ic_2 ?_
  refine J_irem E dX6_uses_24 (by decide) ?_
  refine J_if_ne E (tgt := 32) dX6_uses_25 (by decide) (fun c_25 => ?_) (fun c_25 => ?_)
  · skip
    refine J_iconst E dX6_uses_32 ic_0 ?_
    refine J_istore E (lv' := [(4, .int 0), (3, .int (mx 0 ((2 * (y 0 2 h)) - 3))), (2, .int (y 0 2 h)), (0, .ref (b 0)), (1, .int (nI h))]) dX6_uses_33 (by decide) rfl ?_
    refine J_aload_n E dX6_uses_35 rfl 3 rfl ?_
    refine J_iload_n E dX6_uses_36 rfl 4 rfl ?_
    refine J_iconst E dX6_uses_37 ic_0 ?_
    refine J_cVi0 E (As := [.int (nI h), .int 0]) (c_X6_its l G b y h 0 (by omega) (by omega)) cl_X6_64 yo_X6_its dX6_uses_38 rfl rfl rfl (Nat.le_of_ble_eq_true rfl) (Nat.le_of_ble_eq_true rfl) rfl (Nat.le_of_ble_eq_true rfl) ⟨Nat.zero_le _, Nat.zero_le _⟩ ?_
    by_cases c_41 : (y 0 0 h).toInt < 1 ∨ 6 < (y 0 0 h).toInt
    · refine J_tabOut E (tgt := 113) dX6_uses_41 c_41 (by decide) ?_
      have n_41_1 : ¬ (y 0 0 h) = 1 := ne_out c_41 (by decide)
      have n_41_2 : ¬ (y 0 0 h) = 2 := ne_out c_41 (by decide)
      have n_41_3 : ¬ (y 0 0 h) = 3 := ne_out c_41 (by decide)
      have n_41_4 : ¬ (y 0 0 h) = 4 := ne_out c_41 (by decide)
      have n_41_5 : ¬ (y 0 0 h) = 5 := ne_out c_41 (by decide)
      have n_41_6 : ¬ (y 0 0 h) = 6 := ne_out c_41 (by decide)
      refine J_iload_n E dX6_uses_113 rfl 2 rfl ?_
      exact ret _ _ _ _ ⟨by simp [useF, c_25, n_41_1, n_41_2, n_41_3, n_41_4, n_41_5, n_41_6], (congrArg (wM G b) (rfl))⟩ rfl dX6_uses_114
    · rcases sw_1_6 c_41 with i_41 | i_41 | i_41 | i_41 | i_41 | i_41
      · refine J_top i_41 ?_
        refine J_tabIn E (tgt := 80) (off := 39) dX6_uses_41 (by decide) (by decide) rfl (by decide) ?_
        refine J_iload E dX6_uses_80 0 rfl ?_
        exact ret _ _ _ _ ⟨by simp [useF, c_25, i_41], (congrArg (wM G b) (rfl))⟩ rfl dX6_uses_82
      · refine J_top i_41 ?_
        refine J_tabIn E (tgt := 88) (off := 47) dX6_uses_41 (by decide) (by decide) rfl (by decide) ?_
        refine J_iconst E dX6_uses_88 ic_2 ?_
        refine J_iload_n E dX6_uses_89 rfl 2 rfl ?_
        refine J_imul E dX6_uses_90 ?_
        exact ret _ _ _ _ ⟨by simp [useF, c_25, i_41], (congrArg (wM G b) (rfl))⟩ rfl dX6_uses_91
      · refine J_top i_41 ?_
        refine J_tabIn E (tgt := 92) (off := 51) dX6_uses_41 (by decide) (by decide) rfl (by decide) ?_
        refine J_iload_n E dX6_uses_92 rfl 1 rfl ?_
        exact ret _ _ _ _ ⟨by simp [useF, c_25, i_41], (congrArg (wM G b) (rfl))⟩ rfl dX6_uses_93
      · refine J_top i_41 ?_
        refine J_tabIn E (tgt := 94) (off := 53) dX6_uses_41 (by decide) (by decide) rfl (by decide) ?_
        refine J_aload_n E dX6_uses_94 rfl 3 rfl ?_
        refine gM0_X6_9 E dX6_uses_95 ?_
        refine J_iconst E dX6_uses_98 ic_0 ?_
        refine lMs E (j := 0) (r := 7) (i := 0) (at_7 (by decide)) dX6_uses_99 ?_
        refine J_bipush E dX6_uses_100 bp_6 ?_
        refine J_irem E dX6_uses_102 (by decide) ?_
        refine J_iconst E dX6_uses_103 ic_5 ?_
        refine J_icmp_ne E (tgt := 111) dX6_uses_104 (by decide) (fun c_104 => ?_) (fun c_104 => ?_)
        · skip
          refine J_iconst E dX6_uses_111 ic_0 ?_
          exact ret _ _ _ _ ⟨by simp [useF, c_25, i_41, c_104], (congrArg (wM G b) (rfl))⟩ rfl dX6_uses_112
        · skip
          refine J_iload_n E dX6_uses_107 rfl 1 rfl ?_
          refine J_goto E (tgt := 112) dX6_uses_108 (by decide) ?_
          exact ret _ _ _ _ ⟨by simp [useF, c_25, i_41, c_104], (congrArg (wM G b) (rfl))⟩ rfl dX6_uses_112
      · refine J_top i_41 ?_
        refine J_tabIn E (tgt := 113) (off := 72) dX6_uses_41 (by decide) (by decide) rfl (by decide) ?_
        refine J_iload_n E dX6_uses_113 rfl 2 rfl ?_
        exact ret _ _ _ _ ⟨by simp [useF, c_25, i_41], (congrArg (wM G b) (rfl))⟩ rfl dX6_uses_114
      · refine J_top i_41 ?_
        refine J_tabIn E (tgt := 83) (off := 42) dX6_uses_41 (by decide) (by decide) rfl (by decide) ?_
        refine J_iload E dX6_uses_83 0 rfl ?_
        refine J_iconst E dX6_uses_85 ic_1 ?_
        refine J_iadd E dX6_uses_86 ?_
        exact ret _ _ _ _ ⟨by simp [useF, c_25, i_41], (congrArg (wM G b) (rfl))⟩ rfl dX6_uses_87
  · skip
    refine J_iload_n E dX6_uses_28 rfl 1 rfl ?_
    refine J_goto E (tgt := 33) dX6_uses_29 (by decide) ?_
    refine J_istore E (lv' := [(4, .int (y 0 2 h)), (3, .int (mx 0 ((2 * (y 0 2 h)) - 3))), (2, .int (y 0 2 h)), (0, .ref (b 0)), (1, .int (nI h))]) dX6_uses_33 (by decide) rfl ?_
    refine J_aload_n E dX6_uses_35 rfl 3 rfl ?_
    refine J_iload_n E dX6_uses_36 rfl 4 rfl ?_
    refine J_iconst E dX6_uses_37 ic_0 ?_
    refine J_cVi0 E (As := [.int (nI h), .int 0]) (c_X6_its l G b y h 0 (by omega) (by omega)) cl_X6_64 yo_X6_its dX6_uses_38 rfl rfl rfl (Nat.le_of_ble_eq_true rfl) (Nat.le_of_ble_eq_true rfl) rfl (Nat.le_of_ble_eq_true rfl) ⟨Nat.zero_le _, Nat.zero_le _⟩ ?_
    by_cases c_41 : (y 0 0 h).toInt < 1 ∨ 6 < (y 0 0 h).toInt
    · refine J_tabOut E (tgt := 113) dX6_uses_41 c_41 (by decide) ?_
      have n_41_1 : ¬ (y 0 0 h) = 1 := ne_out c_41 (by decide)
      have n_41_2 : ¬ (y 0 0 h) = 2 := ne_out c_41 (by decide)
      have n_41_3 : ¬ (y 0 0 h) = 3 := ne_out c_41 (by decide)
      have n_41_4 : ¬ (y 0 0 h) = 4 := ne_out c_41 (by decide)
      have n_41_5 : ¬ (y 0 0 h) = 5 := ne_out c_41 (by decide)
      have n_41_6 : ¬ (y 0 0 h) = 6 := ne_out c_41 (by decide)
      refine J_iload_n E dX6_uses_113 rfl 2 rfl ?_
      exact ret _ _ _ _ ⟨by simp [useF, c_25, n_41_1, n_41_2, n_41_3, n_41_4, n_41_5, n_41_6], (congrArg (wM G b) (rfl))⟩ rfl dX6_uses_114
    · rcases sw_1_6 c_41 with i_41 | i_41 | i_41 | i_41 | i_41 | i_41
      · refine J_top i_41 ?_
        refine J_tabIn E (tgt := 80) (off := 39) dX6_uses_41 (by decide) (by decide) rfl (by decide) ?_
        refine J_iload E dX6_uses_80 0 rfl ?_
        exact ret _ _ _ _ ⟨by simp [useF, c_25, i_41], (congrArg (wM G b) (rfl))⟩ rfl dX6_uses_82
      · refine J_top i_41 ?_
        refine J_tabIn E (tgt := 88) (off := 47) dX6_uses_41 (by decide) (by decide) rfl (by decide) ?_
        refine J_iconst E dX6_uses_88 ic_2 ?_
        refine J_iload_n E dX6_uses_89 rfl 2 rfl ?_
        refine J_imul E dX6_uses_90 ?_
        exact ret _ _ _ _ ⟨by simp [useF, c_25, i_41], (congrArg (wM G b) (rfl))⟩ rfl dX6_uses_91
      · refine J_top i_41 ?_
        refine J_tabIn E (tgt := 92) (off := 51) dX6_uses_41 (by decide) (by decide) rfl (by decide) ?_
        refine J_iload_n E dX6_uses_92 rfl 1 rfl ?_
        exact ret _ _ _ _ ⟨by simp [useF, c_25, i_41], (congrArg (wM G b) (rfl))⟩ rfl dX6_uses_93
      · refine J_top i_41 ?_
        refine J_tabIn E (tgt := 94) (off := 53) dX6_uses_41 (by decide) (by decide) rfl (by decide) ?_
        refine J_aload_n E dX6_uses_94 rfl 3 rfl ?_
        refine gM0_X6_9 E dX6_uses_95 ?_
        refine J_iconst E dX6_uses_98 ic_0 ?_
        refine lMs E (j := 0) (r := 7) (i := 0) (at_7 (by decide)) dX6_uses_99 ?_
        refine J_bipush E dX6_uses_100 bp_6 ?_
        refine J_irem E dX6_uses_102 (by decide) ?_
        refine J_iconst E dX6_uses_103 ic_5 ?_
        refine J_icmp_ne E (tgt := 111) dX6_uses_104 (by decide) (fun c_104 => ?_) (fun c_104 => ?_)
        · skip
          refine J_iconst E dX6_uses_111 ic_0 ?_
          exact ret _ _ _ _ ⟨by simp [useF, c_25, i_41, c_104], (congrArg (wM G b) (rfl))⟩ rfl dX6_uses_112
        · skip
          refine J_iload_n E dX6_uses_107 rfl 1 rfl ?_
          refine J_goto E (tgt := 112) dX6_uses_108 (by decide) ?_
          exact ret _ _ _ _ ⟨by simp [useF, c_25, i_41, c_104], (congrArg (wM G b) (rfl))⟩ rfl dX6_uses_112
      · refine J_top i_41 ?_
        refine J_tabIn E (tgt := 113) (off := 72) dX6_uses_41 (by decide) (by decide) rfl (by decide) ?_
        refine J_iload_n E dX6_uses_113 rfl 2 rfl ?_
        exact ret _ _ _ _ ⟨by simp [useF, c_25, i_41], (congrArg (wM G b) (rfl))⟩ rfl dX6_uses_114
      · refine J_top i_41 ?_
        refine J_tabIn E (tgt := 83) (off := 42) dX6_uses_41 (by decide) (by decide) rfl (by decide) ?_
        refine J_iload E dX6_uses_83 0 rfl ?_
        refine J_iconst E dX6_uses_85 ic_1 ?_
        refine J_iadd E dX6_uses_86 ?_
        exact ret _ _ _ _ ⟨by simp [useF, c_25, i_41], (congrArg (wM G b) (rfl))⟩ rfl dX6_uses_87

set_option maxHeartbeats 4000000 in
set_option maxRecDepth 20000 in
theorem c_X6_keeps (l : Launch) (G : GB) (b : Nat → Nat) (y : Q3) (h : Nat) (hh : h < 11)  : CI l yX6_keeps cX6_keeps 3 .int 1 22 G [.ref (b 0), .int (nI h)] (wM G b y) (fun vR w' => vR = keepF (y 0 0 h) (y 0 3 h) (y 0 2 h) ∧ w' = wM G b y) := by
  refine CI.mk (own := RX6) (by decide) rfl (Nat.le_of_ble_eq_true rfl) ?_
  intro X E ret
  show J X G 3 0 0 (wM G b y) [(0, .ref (b 0)), (1, .int (nI h))] 0 []
  refine J_aload_n E dX6_keeps_0 rfl 0 rfl ?_
  refine J_iload_n E dX6_keeps_1 rfl 1 rfl ?_
  refine J_iconst E dX6_keeps_2 ic_3 ?_
  refine J_cVi0 E (As := [.int (nI h), .int 3]) (c_X6_its l G b y h 3 (by omega) (by omega)) cl_X6_64 yo_X6_its dX6_keeps_3 rfl rfl rfl (Nat.le_of_ble_eq_true rfl) (Nat.le_of_ble_eq_true rfl) rfl (Nat.le_of_ble_eq_true rfl) ⟨Nat.zero_le _, Nat.zero_le _⟩ ?_
  refine J_istore_n E (lv' := [(2, .int (y 0 3 h)), (0, .ref (b 0)), (1, .int (nI h))]) dX6_keeps_6 rfl (by decide) rfl ?_
  refine J_aload_n E dX6_keeps_7 rfl 1 rfl ?_
  refine J_iload_n E dX6_keeps_8 rfl 2 rfl ?_
  refine J_iconst E dX6_keeps_9 ic_0 ?_
  refine J_cVi0 E (As := [.int (nI h), .int 0]) (c_X6_its l G b y h 0 (by omega) (by omega)) cl_X6_64 yo_X6_its dX6_keeps_10 rfl rfl rfl (Nat.le_of_ble_eq_true rfl) (Nat.le_of_ble_eq_true rfl) rfl (Nat.le_of_ble_eq_true rfl) ⟨Nat.zero_le _, Nat.zero_le _⟩ ?_
  by_cases c_13 : (y 0 0 h).toInt < 2 ∨ 6 < (y 0 0 h).toInt
  · refine J_tabOut E (tgt := 68) dX6_keeps_13 c_13 (by decide) ?_
    have n_13_2 : ¬ (y 0 0 h) = 2 := ne_out c_13 (by decide)
    have n_13_3 : ¬ (y 0 0 h) = 3 := ne_out c_13 (by decide)
    have n_13_4 : ¬ (y 0 0 h) = 4 := ne_out c_13 (by decide)
    have n_13_5 : ¬ (y 0 0 h) = 5 := ne_out c_13 (by decide)
    have n_13_6 : ¬ (y 0 0 h) = 6 := ne_out c_13 (by decide)
    refine J_iload_n E dX6_keeps_68 rfl 0 rfl ?_
    exact ret _ _ _ _ ⟨by simp [keepF, n_13_2, n_13_3, n_13_4, n_13_5, n_13_6], (congrArg (wM G b) (rfl))⟩ rfl dX6_keeps_69
  · rcases sw_2_6 c_13 with i_13 | i_13 | i_13 | i_13 | i_13
    · refine J_top i_13 ?_
      refine J_tabIn E (tgt := 53) (off := 40) dX6_keeps_13 (by decide) (by decide) rfl (by decide) ?_
      refine J_iload_n E dX6_keeps_53 rfl 0 rfl ?_
      refine J_iconst E dX6_keeps_54 ic_2 ?_
      refine J_idiv E dX6_keeps_55 (by decide) ?_
      exact ret _ _ _ _ ⟨by simp [keepF, i_13], (congrArg (wM G b) (rfl))⟩ rfl dX6_keeps_56
    · refine J_top i_13 ?_
      refine J_tabIn E (tgt := 57) (off := 44) dX6_keeps_13 (by decide) (by decide) rfl (by decide) ?_
      refine J_iload_n E dX6_keeps_57 rfl 0 rfl ?_
      refine J_iconst E dX6_keeps_58 ic_2 ?_
      refine J_idiv E dX6_keeps_59 (by decide) ?_
      refine J_aload_n E dX6_keeps_60 rfl 1 rfl ?_
      refine J_iload_n E dX6_keeps_61 rfl 2 rfl ?_
      refine J_iconst E dX6_keeps_62 ic_2 ?_
      refine J_cVi0 E (As := [.int (nI h), .int 2]) (c_X6_its l G b y h 2 (by omega) (by omega)) cl_X6_64 yo_X6_its dX6_keeps_63 rfl rfl rfl (Nat.le_of_ble_eq_true rfl) (Nat.le_of_ble_eq_true rfl) rfl (Nat.le_of_ble_eq_true rfl) ⟨Nat.zero_le _, Nat.zero_le _⟩ ?_
      refine J_iadd E dX6_keeps_66 ?_
      exact ret _ _ _ _ ⟨by simp [keepF, i_13], (congrArg (wM G b) (rfl))⟩ rfl dX6_keeps_67
    · refine J_top i_13 ?_
      refine J_tabIn E (tgt := 57) (off := 44) dX6_keeps_13 (by decide) (by decide) rfl (by decide) ?_
      refine J_iload_n E dX6_keeps_57 rfl 0 rfl ?_
      refine J_iconst E dX6_keeps_58 ic_2 ?_
      refine J_idiv E dX6_keeps_59 (by decide) ?_
      refine J_aload_n E dX6_keeps_60 rfl 1 rfl ?_
      refine J_iload_n E dX6_keeps_61 rfl 2 rfl ?_
      refine J_iconst E dX6_keeps_62 ic_2 ?_
      refine J_cVi0 E (As := [.int (nI h), .int 2]) (c_X6_its l G b y h 2 (by omega) (by omega)) cl_X6_64 yo_X6_its dX6_keeps_63 rfl rfl rfl (Nat.le_of_ble_eq_true rfl) (Nat.le_of_ble_eq_true rfl) rfl (Nat.le_of_ble_eq_true rfl) ⟨Nat.zero_le _, Nat.zero_le _⟩ ?_
      refine J_iadd E dX6_keeps_66 ?_
      exact ret _ _ _ _ ⟨by simp [keepF, i_13], (congrArg (wM G b) (rfl))⟩ rfl dX6_keeps_67
    · refine J_top i_13 ?_
      refine J_tabIn E (tgt := 68) (off := 55) dX6_keeps_13 (by decide) (by decide) rfl (by decide) ?_
      refine J_iload_n E dX6_keeps_68 rfl 0 rfl ?_
      exact ret _ _ _ _ ⟨by simp [keepF, i_13], (congrArg (wM G b) (rfl))⟩ rfl dX6_keeps_69
    · refine J_top i_13 ?_
      refine J_tabIn E (tgt := 48) (off := 35) dX6_keeps_13 (by decide) (by decide) rfl (by decide) ?_
      refine J_iload_n E dX6_keeps_48 rfl 0 rfl ?_
      refine J_bipush E dX6_keeps_49 bp_10 ?_
      refine J_iadd E dX6_keeps_51 ?_
      exact ret _ _ _ _ ⟨by simp [keepF, i_13], (congrArg (wM G b) (rfl))⟩ rfl dX6_keeps_52

set_option maxHeartbeats 4000000 in
set_option maxRecDepth 20000 in
theorem c_X6_loses (l : Launch) (G : GB) (b : Nat → Nat) (y : Q3) (h : Nat) (hh : h < 11) (k : Nat) (hk : k < 7) (hy : y 0 0 h = nI k)  : CI l yX6_loses cX6_loses 3 .int 2 42 G [.ref (b 0), .int (nI h)] (wM G b y) (fun vR w' => vR = loseK (y 0 0 h) ∧ w' = wM G b y) := by
  refine CI.mk (own := RX6) (by decide) rfl (Nat.le_of_ble_eq_true rfl) ?_
  intro X E ret
  show J X G 3 0 0 (wM G b y) [(0, .ref (b 0)), (1, .int (nI h))] 0 []
  refine J_aload_n E dX6_loses_0 rfl 0 rfl ?_
  refine J_iload_n E dX6_loses_1 rfl 1 rfl ?_
  refine J_iconst E dX6_loses_2 ic_0 ?_
  refine J_cVi0 E (As := [.int (nI h), .int 0]) (c_X6_its l G b y h 0 (by omega) (by omega)) cl_X6_64 yo_X6_its dX6_loses_3 rfl rfl rfl (Nat.le_of_ble_eq_true rfl) (Nat.le_of_ble_eq_true rfl) rfl (Nat.le_of_ble_eq_true rfl) ⟨Nat.zero_le _, Nat.zero_le _⟩ ?_
  refine J_top (x' := nI k) (hy) ?_
  refine J_istore_n E (lv' := [(2, .int (nI k)), (0, .ref (b 0)), (1, .int (nI h))]) dX6_loses_6 rfl (by decide) rfl ?_
  rcases (show k = 0 ∨ k = 1 ∨ k = 2 ∨ k = 3 ∨ k = 4 ∨ k = 5 ∨ k = 6 by omega) with rfl | rfl | rfl | rfl | rfl | rfl | rfl
  · skip
    refine J_iload_n E dX6_loses_7 rfl 0 rfl ?_
    refine J_iconst E dX6_loses_8 ic_5 ?_
    refine J_icmp_ne E (tgt := 16) dX6_loses_9 (by decide) (fun c_9 => ?_) (fun c_9 => ?_)
    · skip
      have n_9 : ¬ 0 = 5 := cmp_ne (a := 0) (b := 5) (by omega) (by omega) c_9
      refine J_iload_n E dX6_loses_16 rfl 0 rfl ?_
      refine J_iconst E dX6_loses_17 ic_2 ?_
      refine J_cSiN E (As := [.int (nI 0), .int 2]) (c_X6_isUnder l G 0 2 (by omega) (by omega)) cl_X6_73 yo_X6_isUnder dX6_loses_18 rfl (Nat.le_of_ble_eq_true rfl) (Nat.le_of_ble_eq_true rfl) rfl (Nat.le_of_ble_eq_true rfl) ⟨Nat.zero_le _, Nat.zero_le _⟩ ?_
      refine J_if_eq E (tgt := 28) dX6_loses_21 (by decide) (fun c_21 => ?_) (fun c_21 => ?_)
      · skip
        have c_21 := bI_0 c_21
        refine J_iconst E dX6_loses_28 ic_0 ?_
        exact ret _ _ _ _ ⟨by first | exact absurd c_21 (by decide) | (rw [hy]; decide), (congrArg (wM G b) (rfl))⟩ rfl dX6_loses_29
      · skip
        have c_21 := bI_1 c_21
        refine J_iconst E dX6_loses_24 ic_1 ?_
        refine J_goto E (tgt := 29) dX6_loses_25 (by decide) ?_
        exact ret _ _ _ _ ⟨by first | exact absurd c_21 (by decide) | (rw [hy]; decide), (congrArg (wM G b) (rfl))⟩ rfl dX6_loses_29
    · skip
      have n_9 : 0 = 5 := cmp_eq (a := 0) (b := 5) (by omega) (by omega) c_9
      exact absurd n_9 (by decide)
  · skip
    refine J_iload_n E dX6_loses_7 rfl 0 rfl ?_
    refine J_iconst E dX6_loses_8 ic_5 ?_
    refine J_icmp_ne E (tgt := 16) dX6_loses_9 (by decide) (fun c_9 => ?_) (fun c_9 => ?_)
    · skip
      have n_9 : ¬ 1 = 5 := cmp_ne (a := 1) (b := 5) (by omega) (by omega) c_9
      refine J_iload_n E dX6_loses_16 rfl 0 rfl ?_
      refine J_iconst E dX6_loses_17 ic_2 ?_
      refine J_cSiN E (As := [.int (nI 1), .int 2]) (c_X6_isUnder l G 1 2 (by omega) (by omega)) cl_X6_73 yo_X6_isUnder dX6_loses_18 rfl (Nat.le_of_ble_eq_true rfl) (Nat.le_of_ble_eq_true rfl) rfl (Nat.le_of_ble_eq_true rfl) ⟨Nat.zero_le _, Nat.zero_le _⟩ ?_
      refine J_if_eq E (tgt := 28) dX6_loses_21 (by decide) (fun c_21 => ?_) (fun c_21 => ?_)
      · skip
        have c_21 := bI_0 c_21
        refine J_iconst E dX6_loses_28 ic_0 ?_
        exact ret _ _ _ _ ⟨by first | exact absurd c_21 (by decide) | (rw [hy]; decide), (congrArg (wM G b) (rfl))⟩ rfl dX6_loses_29
      · skip
        have c_21 := bI_1 c_21
        refine J_iconst E dX6_loses_24 ic_1 ?_
        refine J_goto E (tgt := 29) dX6_loses_25 (by decide) ?_
        exact ret _ _ _ _ ⟨by first | exact absurd c_21 (by decide) | (rw [hy]; decide), (congrArg (wM G b) (rfl))⟩ rfl dX6_loses_29
    · skip
      have n_9 : 1 = 5 := cmp_eq (a := 1) (b := 5) (by omega) (by omega) c_9
      exact absurd n_9 (by decide)
  · skip
    refine J_iload_n E dX6_loses_7 rfl 0 rfl ?_
    refine J_iconst E dX6_loses_8 ic_5 ?_
    refine J_icmp_ne E (tgt := 16) dX6_loses_9 (by decide) (fun c_9 => ?_) (fun c_9 => ?_)
    · skip
      have n_9 : ¬ 2 = 5 := cmp_ne (a := 2) (b := 5) (by omega) (by omega) c_9
      refine J_iload_n E dX6_loses_16 rfl 0 rfl ?_
      refine J_iconst E dX6_loses_17 ic_2 ?_
      refine J_cSiN E (As := [.int (nI 2), .int 2]) (c_X6_isUnder l G 2 2 (by omega) (by omega)) cl_X6_73 yo_X6_isUnder dX6_loses_18 rfl (Nat.le_of_ble_eq_true rfl) (Nat.le_of_ble_eq_true rfl) rfl (Nat.le_of_ble_eq_true rfl) ⟨Nat.zero_le _, Nat.zero_le _⟩ ?_
      refine J_if_eq E (tgt := 28) dX6_loses_21 (by decide) (fun c_21 => ?_) (fun c_21 => ?_)
      · skip
        have c_21 := bI_0 c_21
        refine J_iconst E dX6_loses_28 ic_0 ?_
        exact ret _ _ _ _ ⟨by first | exact absurd c_21 (by decide) | (rw [hy]; decide), (congrArg (wM G b) (rfl))⟩ rfl dX6_loses_29
      · skip
        have c_21 := bI_1 c_21
        refine J_iconst E dX6_loses_24 ic_1 ?_
        refine J_goto E (tgt := 29) dX6_loses_25 (by decide) ?_
        exact ret _ _ _ _ ⟨by first | exact absurd c_21 (by decide) | (rw [hy]; decide), (congrArg (wM G b) (rfl))⟩ rfl dX6_loses_29
    · skip
      have n_9 : 2 = 5 := cmp_eq (a := 2) (b := 5) (by omega) (by omega) c_9
      exact absurd n_9 (by decide)
  · skip
    refine J_iload_n E dX6_loses_7 rfl 0 rfl ?_
    refine J_iconst E dX6_loses_8 ic_5 ?_
    refine J_icmp_ne E (tgt := 16) dX6_loses_9 (by decide) (fun c_9 => ?_) (fun c_9 => ?_)
    · skip
      have n_9 : ¬ 3 = 5 := cmp_ne (a := 3) (b := 5) (by omega) (by omega) c_9
      refine J_iload_n E dX6_loses_16 rfl 0 rfl ?_
      refine J_iconst E dX6_loses_17 ic_2 ?_
      refine J_cSiN E (As := [.int (nI 3), .int 2]) (c_X6_isUnder l G 3 2 (by omega) (by omega)) cl_X6_73 yo_X6_isUnder dX6_loses_18 rfl (Nat.le_of_ble_eq_true rfl) (Nat.le_of_ble_eq_true rfl) rfl (Nat.le_of_ble_eq_true rfl) ⟨Nat.zero_le _, Nat.zero_le _⟩ ?_
      refine J_if_eq E (tgt := 28) dX6_loses_21 (by decide) (fun c_21 => ?_) (fun c_21 => ?_)
      · skip
        have c_21 := bI_0 c_21
        refine J_iconst E dX6_loses_28 ic_0 ?_
        exact ret _ _ _ _ ⟨by first | exact absurd c_21 (by decide) | (rw [hy]; decide), (congrArg (wM G b) (rfl))⟩ rfl dX6_loses_29
      · skip
        have c_21 := bI_1 c_21
        refine J_iconst E dX6_loses_24 ic_1 ?_
        refine J_goto E (tgt := 29) dX6_loses_25 (by decide) ?_
        exact ret _ _ _ _ ⟨by first | exact absurd c_21 (by decide) | (rw [hy]; decide), (congrArg (wM G b) (rfl))⟩ rfl dX6_loses_29
    · skip
      have n_9 : 3 = 5 := cmp_eq (a := 3) (b := 5) (by omega) (by omega) c_9
      exact absurd n_9 (by decide)
  · skip
    refine J_iload_n E dX6_loses_7 rfl 0 rfl ?_
    refine J_iconst E dX6_loses_8 ic_5 ?_
    refine J_icmp_ne E (tgt := 16) dX6_loses_9 (by decide) (fun c_9 => ?_) (fun c_9 => ?_)
    · skip
      have n_9 : ¬ 4 = 5 := cmp_ne (a := 4) (b := 5) (by omega) (by omega) c_9
      refine J_iload_n E dX6_loses_16 rfl 0 rfl ?_
      refine J_iconst E dX6_loses_17 ic_2 ?_
      refine J_cSiN E (As := [.int (nI 4), .int 2]) (c_X6_isUnder l G 4 2 (by omega) (by omega)) cl_X6_73 yo_X6_isUnder dX6_loses_18 rfl (Nat.le_of_ble_eq_true rfl) (Nat.le_of_ble_eq_true rfl) rfl (Nat.le_of_ble_eq_true rfl) ⟨Nat.zero_le _, Nat.zero_le _⟩ ?_
      refine J_if_eq E (tgt := 28) dX6_loses_21 (by decide) (fun c_21 => ?_) (fun c_21 => ?_)
      · skip
        have c_21 := bI_0 c_21
        refine J_iconst E dX6_loses_28 ic_0 ?_
        exact ret _ _ _ _ ⟨by first | exact absurd c_21 (by decide) | (rw [hy]; decide), (congrArg (wM G b) (rfl))⟩ rfl dX6_loses_29
      · skip
        have c_21 := bI_1 c_21
        refine J_iconst E dX6_loses_24 ic_1 ?_
        refine J_goto E (tgt := 29) dX6_loses_25 (by decide) ?_
        exact ret _ _ _ _ ⟨by first | exact absurd c_21 (by decide) | (rw [hy]; decide), (congrArg (wM G b) (rfl))⟩ rfl dX6_loses_29
    · skip
      have n_9 : 4 = 5 := cmp_eq (a := 4) (b := 5) (by omega) (by omega) c_9
      exact absurd n_9 (by decide)
  · skip
    refine J_iload_n E dX6_loses_7 rfl 0 rfl ?_
    refine J_iconst E dX6_loses_8 ic_5 ?_
    refine J_icmp_ne E (tgt := 16) dX6_loses_9 (by decide) (fun c_9 => ?_) (fun c_9 => ?_)
    · skip
      have n_9 : ¬ 5 = 5 := cmp_ne (a := 5) (b := 5) (by omega) (by omega) c_9
      exact absurd n_9 (by decide)
    · skip
      have n_9 : 5 = 5 := cmp_eq (a := 5) (b := 5) (by omega) (by omega) c_9
      refine J_iconst E dX6_loses_12 ic_5 ?_
      refine J_goto E (tgt := 29) dX6_loses_13 (by decide) ?_
      exact ret _ _ _ _ ⟨by first | exact absurd c_21 (by decide) | (rw [hy]; decide), (congrArg (wM G b) (rfl))⟩ rfl dX6_loses_29
  · skip
    refine J_iload_n E dX6_loses_7 rfl 0 rfl ?_
    refine J_iconst E dX6_loses_8 ic_5 ?_
    refine J_icmp_ne E (tgt := 16) dX6_loses_9 (by decide) (fun c_9 => ?_) (fun c_9 => ?_)
    · skip
      have n_9 : ¬ 6 = 5 := cmp_ne (a := 6) (b := 5) (by omega) (by omega) c_9
      refine J_iload_n E dX6_loses_16 rfl 0 rfl ?_
      refine J_iconst E dX6_loses_17 ic_2 ?_
      refine J_cSiN E (As := [.int (nI 6), .int 2]) (c_X6_isUnder l G 6 2 (by omega) (by omega)) cl_X6_73 yo_X6_isUnder dX6_loses_18 rfl (Nat.le_of_ble_eq_true rfl) (Nat.le_of_ble_eq_true rfl) rfl (Nat.le_of_ble_eq_true rfl) ⟨Nat.zero_le _, Nat.zero_le _⟩ ?_
      refine J_if_eq E (tgt := 28) dX6_loses_21 (by decide) (fun c_21 => ?_) (fun c_21 => ?_)
      · skip
        have c_21 := bI_0 c_21
        refine J_iconst E dX6_loses_28 ic_0 ?_
        exact ret _ _ _ _ ⟨by first | exact absurd c_21 (by decide) | (rw [hy]; decide), (congrArg (wM G b) (rfl))⟩ rfl dX6_loses_29
      · skip
        have c_21 := bI_1 c_21
        refine J_iconst E dX6_loses_24 ic_1 ?_
        refine J_goto E (tgt := 29) dX6_loses_25 (by decide) ?_
        exact ret _ _ _ _ ⟨by first | exact absurd c_21 (by decide) | (rw [hy]; decide), (congrArg (wM G b) (rfl))⟩ rfl dX6_loses_29
    · skip
      have n_9 : 6 = 5 := cmp_eq (a := 6) (b := 5) (by omega) (by omega) c_9
      exact absurd n_9 (by decide)

theorem i_lt11 {x : Int32} : x < 11 ↔ x ≤ 10 := by
  rw [Int32.lt_iff_toInt_lt, Int32.le_iff_toInt_le]
  have a : (11 : Int32).toInt = 11 := by decide
  have b : (10 : Int32).toInt = 10 := by decide
  omega
theorem lead_ge {x : Int32} (h : x ≤ 10) : ¬ 11 ≤ x := fun z => absurd (i_lt11.mpr h) (Int32.not_lt.mpr z)
theorem lead_lt {x : Int32} (h : ¬ 11 ≤ x) : x ≤ 10 := i_lt11.mp (Int32.not_le.mp h)
theorem lead_le {x : Int32} : x ≤ 10 ↔ x ≤ 10 := Iff.rfl
set_option maxHeartbeats 4000000 in
set_option maxRecDepth 20000 in
theorem c_X6_leads (l : Launch) (G : GB) (b : Nat → Nat) (y : Q3) (h : Nat) (hh : h < 11)  : CI l yX6_leads cX6_leads 3 .int 1 22 G [.ref (b 0), .int (nI h)] (wM G b y) (fun vR w' => vR = leadF (y 0) h ∧ w' = wM G b y) := by
  refine CI.mk (own := RX6) (by decide) rfl (Nat.le_of_ble_eq_true rfl) ?_
  intro X E ret
  show J X G 3 0 0 (wM G b y) [(0, .ref (b 0)), (1, .int (nI h))] 0 []
  refine J_iload_n E dX6_leads_0 rfl 1 rfl ?_
  refine J_iconst E dX6_leads_1 ic_1 ?_
  refine J_iadd E dX6_leads_2 ?_
  refine J_aload_n E dX6_leads_3 rfl 0 rfl ?_
  refine J_iload_n E dX6_leads_4 rfl 1 rfl ?_
  refine J_iconst E dX6_leads_5 ic_4 ?_
  refine J_cVi0 E (As := [.int (nI h), .int 4]) (c_X6_its l G b y h 4 (by omega) (by omega)) cl_X6_64 yo_X6_its dX6_leads_6 rfl rfl rfl (Nat.le_of_ble_eq_true rfl) (Nat.le_of_ble_eq_true rfl) rfl (Nat.le_of_ble_eq_true rfl) ⟨Nat.zero_le _, Nat.zero_le _⟩ ?_
  refine J_iadd E dX6_leads_9 ?_
  refine J_istore_n E (lv' := [(2, .int (((nI h) + 1) + (y 0 4 h))), (0, .ref (b 0)), (1, .int (nI h))]) dX6_leads_10 rfl (by decide) rfl ?_
  refine J_iload_n E dX6_leads_11 rfl 0 rfl ?_
  refine J_bipush E dX6_leads_12 bp_11 ?_
  refine J_icmp_ge E (tgt := 21) dX6_leads_14 (by decide) (fun c_14 => ?_) (fun c_14 => ?_)
  · skip
    refine J_iconst E dX6_leads_21 ic_m1 ?_
    exact ret _ _ _ _ ⟨by first | (rw [leadF, if_pos (lead_le.mp c_14)]) | (rw [leadF, if_neg (fun z => c_14 (lead_le.mpr z))]) | (rw [leadF, if_neg (fun z => absurd c_14 (lead_ge z))]) | (rw [leadF, if_pos (lead_lt c_14)]), (congrArg (wM G b) (rfl))⟩ rfl dX6_leads_22
  · skip
    refine J_iload_n E dX6_leads_17 rfl 0 rfl ?_
    refine J_goto E (tgt := 22) dX6_leads_18 (by decide) ?_
    exact ret _ _ _ _ ⟨by first | (rw [leadF, if_pos (lead_le.mp c_14)]) | (rw [leadF, if_neg (fun z => c_14 (lead_le.mpr z))]) | (rw [leadF, if_neg (fun z => absurd c_14 (lead_ge z))]) | (rw [leadF, if_pos (lead_lt c_14)]), (congrArg (wM G b) (rfl))⟩ rfl dX6_leads_22

set_option maxHeartbeats 4000000 in
set_option maxRecDepth 20000 in
theorem c_X6_lost (l : Launch) (G : GB) (b : Nat → Nat) (y : Q3) (v : Int32) : CV l yX6_lost cX6_lost 2 1 21 0 0 G [.ref (b 0), .int v] (wM G b y) (fun w' => w' = wM G b (upG y 0 (loseF (y 0) v))) := by
  refine CV.mk (own := RX6) (by decide) rfl (Nat.le_of_ble_eq_true rfl) ?_
  intro X E _ _ _ ret
  show J X G 2 0 0 (wM G b y) [(0, .ref (b 0)), (1, .int v)] 0 []
  refine J_aload_n E dX6_lost_0 rfl 0 rfl ?_
  refine gM0_X6_9 E dX6_lost_1 ?_
  refine J_iconst E dX6_lost_4 ic_4 ?_
  refine J_ldc E kn_X6_119 dX6_lost_5 ?_
  refine J_aload_n E dX6_lost_7 rfl 0 rfl ?_
  refine gM0_X6_9 E dX6_lost_8 ?_
  refine J_iconst E dX6_lost_11 ic_4 ?_
  refine lMs E (j := 4) (r := 7) (i := 4) (at_7 (by decide)) dX6_lost_12 ?_
  refine J_iload_n E dX6_lost_13 rfl 1 rfl ?_
  refine J_iadd E dX6_lost_14 ?_
  refine J_mmin E ml_X6_120 st_mmin ini_J9 co_mmin dX6_lost_15 (by decide) (Nat.le_of_ble_eq_true rfl) ⟨Nat.zero_le _, Nat.zero_le _⟩ ?_
  refine sMs E (j := 4) (r := 7) (i := 4) (at_7 (by decide)) dX6_lost_18 ?_
  refine J_w (ws' := wM G b (upG y 0 (up2 (y 0) 7 4 (mn 999999 ((y 0 7 4) + v))))) rfl ?_
  exact ret _ _ _ (congrArg (wM G b) (rfl)) dX6_lost_19

set_option maxHeartbeats 4000000 in
set_option maxRecDepth 20000 in
theorem c_X6_comes (l : Launch) (G : GB) (b : Nat → Nat) (y : Q3) (h : Nat) (hh : h < 11) (v : Int32) : CV l yX6_comes cX6_comes 4 2 42 0 0 G [.ref (b 0), .int (nI h), .int v] (wM G b y) (fun w' => w' = wM G b (upG y 0 (comesR (y 0) h v))) := by
  refine CV.mk (own := RX6) (by decide) rfl (Nat.le_of_ble_eq_true rfl) ?_
  intro X E _ _ _ ret
  show J X G 4 0 0 (wM G b y) [(0, .ref (b 0)), (1, .int (nI h)), (2, .int v)] 0 []
  refine J_aload_n E dX6_comes_0 rfl 0 rfl ?_
  refine J_iload_n E dX6_comes_1 rfl 1 rfl ?_
  refine J_iconst E dX6_comes_2 ic_1 ?_
  refine J_cVi0 E (As := [.int (nI h), .int 1]) (c_X6_its l G b y h 1 (by omega) (by omega)) cl_X6_64 yo_X6_its dX6_comes_3 rfl rfl rfl (Nat.le_of_ble_eq_true rfl) (Nat.le_of_ble_eq_true rfl) rfl (Nat.le_of_ble_eq_true rfl) ⟨Nat.zero_le _, Nat.zero_le _⟩ ?_
  refine J_iload_n E dX6_comes_6 rfl 2 rfl ?_
  refine J_iadd E dX6_comes_7 ?_
  refine J_istore_n E (lv' := [(3, .int ((y 0 1 h) + v)), (0, .ref (b 0)), (1, .int (nI h)), (2, .int v)]) dX6_comes_8 rfl (by decide) rfl ?_
  refine J_aload_n E dX6_comes_9 rfl 1 rfl ?_
  refine J_iconst E dX6_comes_10 ic_0 ?_
  refine J_iload_n E dX6_comes_11 rfl 0 rfl ?_
  refine J_sipush E dX6_comes_12 sp_9999 ?_
  refine J_isub E dX6_comes_15 ?_
  refine J_mmax E ml_X6_68 st_mmax ini_J9 co_mmax dX6_comes_16 (by decide) (Nat.le_of_ble_eq_true rfl) ⟨Nat.zero_le _, Nat.zero_le _⟩ ?_
  refine J_cVv0 E (As := [.int (mx 0 (((y 0 1 h) + v) - 9999))]) (c_X6_lost l G b y (mx 0 (((y 0 1 h) + v) - 9999)) ) cl_X6_123 yo_X6_lost dX6_comes_19 rfl rfl rfl (Nat.le_of_ble_eq_true rfl) (Nat.le_of_ble_eq_true rfl) rfl (Nat.le_of_ble_eq_true rfl) ⟨Nat.zero_le _, Nat.zero_le _⟩ ?_
  refine J_aload_n E dX6_comes_22 rfl 1 rfl ?_
  refine J_iload_n E dX6_comes_23 rfl 2 rfl ?_
  refine J_iconst E dX6_comes_24 ic_1 ?_
  refine J_sipush E dX6_comes_25 sp_9999 ?_
  refine J_iload_n E dX6_comes_28 rfl 0 rfl ?_
  refine J_mmin E ml_X6_120 st_mmin ini_J9 co_mmin dX6_comes_29 (by decide) (Nat.le_of_ble_eq_true rfl) ⟨Nat.zero_le _, Nat.zero_le _⟩ ?_
  refine J_cVv0 E (As := [.int (nI h), .int 1, .int (mn 9999 ((y 0 1 h) + v))]) (c_X6_sets l G b (upG y 0 (loseF (y 0) (mx 0 (((y 0 1 h) + v) - 9999)))) h 1 (mn 9999 ((y 0 1 h) + v)) (by omega) (by omega)) cl_X6_43 yo_X6_sets dX6_comes_32 rfl rfl rfl (Nat.le_of_ble_eq_true rfl) (Nat.le_of_ble_eq_true rfl) rfl (Nat.le_of_ble_eq_true rfl) ⟨Nat.zero_le _, Nat.zero_le _⟩ ?_
  exact ret _ _ _ (congrArg (wM G b) (by rw [upG_upG]; rfl)) dX6_comes_35

set_option maxHeartbeats 4000000 in
set_option maxRecDepth 20000 in
theorem c_X6_takesOwn (l : Launch) (G : GB) (b : Nat → Nat) (y : Q3) (h : Nat) (hh : h < 11)  : CV l yX6_takesOwn cX6_takesOwn 4 2 46 0 0 G [.ref (b 0), .int (nI h)] (wM G b y) (fun w' => w' = wM G b (upG (up3 y 5 2 0 (stepD (y 0) h (y 5 2 0))) 0 (takeQ (y 0) h))) := by
  refine CV.mk (own := RX6) (by decide) rfl (Nat.le_of_ble_eq_true rfl) ?_
  intro X E _ _ _ ret
  show J X G 4 0 0 (wM G b y) [(0, .ref (b 0)), (1, .int (nI h))] 0 []
  refine J_aload_n E dX6_takesOwn_0 rfl 0 rfl ?_
  refine J_iload_n E dX6_takesOwn_1 rfl 1 rfl ?_
  refine J_cVi0 E (As := [.int (nI h)]) (c_X6_uses l G b y h (by omega)) cl_X6_101 yo_X6_uses dX6_takesOwn_2 rfl rfl rfl (Nat.le_of_ble_eq_true rfl) (Nat.le_of_ble_eq_true rfl) rfl (Nat.le_of_ble_eq_true rfl) ⟨Nat.zero_le _, Nat.zero_le _⟩ ?_
  refine J_istore_n E (lv' := [(2, .int (useF ((y 0) 0 h) ((y 0) 2 h) ((y 0) 7 0))), (0, .ref (b 0)), (1, .int (nI h))]) dX6_takesOwn_5 rfl (by decide) rfl ?_
  refine J_aload_n E dX6_takesOwn_6 rfl 1 rfl ?_
  refine J_iload_n E dX6_takesOwn_7 rfl 2 rfl ?_
  refine J_iconst E dX6_takesOwn_8 ic_1 ?_
  refine J_cVi0 E (As := [.int (nI h), .int 1]) (c_X6_its l G b y h 1 (by omega) (by omega)) cl_X6_64 yo_X6_its dX6_takesOwn_9 rfl rfl rfl (Nat.le_of_ble_eq_true rfl) (Nat.le_of_ble_eq_true rfl) rfl (Nat.le_of_ble_eq_true rfl) ⟨Nat.zero_le _, Nat.zero_le _⟩ ?_
  refine J_iload_n E dX6_takesOwn_12 rfl 0 rfl ?_
  refine J_isub E dX6_takesOwn_13 ?_
  refine J_istore_n E (lv' := [(3, .int ((y 0 1 h) - (useF ((y 0) 0 h) ((y 0) 2 h) ((y 0) 7 0)))), (2, .int (useF ((y 0) 0 h) ((y 0) 2 h) ((y 0) 7 0))), (0, .ref (b 0)), (1, .int (nI h))]) dX6_takesOwn_14 rfl (by decide) rfl ?_
  refine J_iload_n E dX6_takesOwn_15 rfl 0 rfl ?_
  refine J_if_ge E (tgt := 51) dX6_takesOwn_16 (by decide) (fun c_16 => ?_) (fun c_16 => ?_)
  · skip
    have c_l : ¬ leftF (y 0) h < 0 := Int32.not_lt.mpr c_16
    refine J_aload_n E dX6_takesOwn_51 rfl 2 rfl ?_
    refine J_iload_n E dX6_takesOwn_52 rfl 3 rfl ?_
    refine J_iconst E dX6_takesOwn_53 ic_1 ?_
    refine J_iconst E dX6_takesOwn_54 ic_0 ?_
    refine J_iload_n E dX6_takesOwn_55 rfl 0 rfl ?_
    refine J_mmax E ml_X6_68 st_mmax ini_J9 co_mmax dX6_takesOwn_56 (by decide) (Nat.le_of_ble_eq_true rfl) ⟨Nat.zero_le _, Nat.zero_le _⟩ ?_
    refine J_cVv0 E (As := [.int (nI h), .int 1, .int (mx 0 ((y 0 1 h) - (useF ((y 0) 0 h) ((y 0) 2 h) ((y 0) 7 0))))]) (c_X6_sets l G b y h 1 (mx 0 ((y 0 1 h) - (useF ((y 0) 0 h) ((y 0) 2 h) ((y 0) 7 0)))) (by omega) (by omega)) cl_X6_43 yo_X6_sets dX6_takesOwn_59 rfl rfl rfl (Nat.le_of_ble_eq_true rfl) (Nat.le_of_ble_eq_true rfl) rfl (Nat.le_of_ble_eq_true rfl) ⟨Nat.zero_le _, Nat.zero_le _⟩ ?_
    exact ret _ _ _ (congrArg (wM G b) (by rw [takeQ, stepD]; first | (rw [if_neg c_l, if_neg c_l, up3_id]; rfl) | (rw [if_pos c_l, if_pos c_l, upG_upG]; rfl))) dX6_takesOwn_62
  · skip
    have c_l : leftF (y 0) h < 0 := Int32.not_le.mp c_16
    refine J_aload_n E dX6_takesOwn_19 rfl 2 rfl ?_
    refine J_dup E dX6_takesOwn_20 rfl ?_
    refine gM0_X6_131 E dX6_takesOwn_21 ?_
    refine J_iconst E dX6_takesOwn_24 ic_1 ?_
    refine J_iload_n E dX6_takesOwn_25 rfl 3 rfl ?_
    refine J_ishl E dX6_takesOwn_26 ?_
    refine J_ior E dX6_takesOwn_27 ?_
    refine pM0_X6_131 E dX6_takesOwn_28 ?_
    refine J_aload_n E dX6_takesOwn_31 rfl 2 rfl ?_
    refine J_iload_n E dX6_takesOwn_32 rfl 3 rfl ?_
    refine J_iconst E dX6_takesOwn_33 ic_5 ?_
    refine J_sipush E dX6_takesOwn_34 sp_9999 ?_
    refine J_aload_n E dX6_takesOwn_37 rfl 2 rfl ?_
    refine J_iload_n E dX6_takesOwn_38 rfl 3 rfl ?_
    refine J_iconst E dX6_takesOwn_39 ic_5 ?_
    refine J_cVi0 E (As := [.int (nI h), .int 5]) (c_X6_its l G b (up3 y 5 2 0 ((y 5 2 0) ||| (1 <<< ((nI h) &&& 31)))) h 5 (by omega) (by omega)) cl_X6_64 yo_X6_its dX6_takesOwn_40 rfl rfl rfl (Nat.le_of_ble_eq_true rfl) (Nat.le_of_ble_eq_true rfl) rfl (Nat.le_of_ble_eq_true rfl) ⟨Nat.zero_le _, Nat.zero_le _⟩ ?_
    refine J_top (x' := y 0 5 h) ((up3_row (by decide))) ?_
    refine J_iconst E dX6_takesOwn_43 ic_1 ?_
    refine J_iadd E dX6_takesOwn_44 ?_
    refine J_mmin E ml_X6_120 st_mmin ini_J9 co_mmin dX6_takesOwn_45 (by decide) (Nat.le_of_ble_eq_true rfl) ⟨Nat.zero_le _, Nat.zero_le _⟩ ?_
    refine J_cVv0 E (As := [.int (nI h), .int 5, .int (mn 9999 ((y 0 5 h) + 1))]) (c_X6_sets l G b (up3 y 5 2 0 ((y 5 2 0) ||| (1 <<< ((nI h) &&& 31)))) h 5 (mn 9999 ((y 0 5 h) + 1)) (by omega) (by omega)) cl_X6_43 yo_X6_sets dX6_takesOwn_48 rfl rfl rfl (Nat.le_of_ble_eq_true rfl) (Nat.le_of_ble_eq_true rfl) rfl (Nat.le_of_ble_eq_true rfl) ⟨Nat.zero_le _, Nat.zero_le _⟩ ?_
    refine J_aload_n E dX6_takesOwn_51 rfl 2 rfl ?_
    refine J_iload_n E dX6_takesOwn_52 rfl 3 rfl ?_
    refine J_iconst E dX6_takesOwn_53 ic_1 ?_
    refine J_iconst E dX6_takesOwn_54 ic_0 ?_
    refine J_iload_n E dX6_takesOwn_55 rfl 0 rfl ?_
    refine J_mmax E ml_X6_68 st_mmax ini_J9 co_mmax dX6_takesOwn_56 (by decide) (Nat.le_of_ble_eq_true rfl) ⟨Nat.zero_le _, Nat.zero_le _⟩ ?_
    refine J_cVv0 E (As := [.int (nI h), .int 1, .int (mx 0 ((y 0 1 h) - (useF ((y 0) 0 h) ((y 0) 2 h) ((y 0) 7 0))))]) (c_X6_sets l G b (upG (up3 y 5 2 0 ((y 5 2 0) ||| (1 <<< ((nI h) &&& 31)))) 0 (up2 (y 0) 5 h (mn 9999 ((y 0 5 h) + 1)))) h 1 (mx 0 ((y 0 1 h) - (useF ((y 0) 0 h) ((y 0) 2 h) ((y 0) 7 0)))) (by omega) (by omega)) cl_X6_43 yo_X6_sets dX6_takesOwn_59 rfl rfl rfl (Nat.le_of_ble_eq_true rfl) (Nat.le_of_ble_eq_true rfl) rfl (Nat.le_of_ble_eq_true rfl) ⟨Nat.zero_le _, Nat.zero_le _⟩ ?_
    exact ret _ _ _ (congrArg (wM G b) (by rw [takeQ, stepD]; first | (rw [if_neg c_l, if_neg c_l, up3_id]; rfl) | (rw [if_pos c_l, if_pos c_l, upG_upG]; rfl))) dX6_takesOwn_62

set_option maxHeartbeats 4000000 in
set_option maxRecDepth 20000 in
theorem c_X6_anHour (l : Launch) (G : GB) (b : Nat → Nat) (y : Q3) (hok : okQ (y 0)) : CV l yX6_anHour cX6_anHour 3 3 69 0 0 G [.ref (b 0)] (wM G b y) (fun w' => w' = wM G b (upG (upG y 5 (hd5 (y 0) (y 5))) 0 (hourR0 (y 0)))) := by
  refine CV.mk (own := RX6) (by decide) rfl (Nat.le_of_ble_eq_true rfl) ?_
  intro X E _ _ _ ret
  show J X G 3 0 0 (wM G b y) [(0, .ref (b 0))] 0 []
  obtain ⟨hsp, hkd⟩ := hok
  refine J_aload_n E dX6_anHour_0 rfl 0 rfl ?_
  refine J_iconst E dX6_anHour_1 ic_0 ?_
  refine pM0_X6_131 E dX6_anHour_2 ?_
  refine J_aload_n E dX6_anHour_5 rfl 0 rfl ?_
  refine J_iconst E dX6_anHour_6 ic_0 ?_
  refine J_aload_n E dX6_anHour_7 rfl 0 rfl ?_
  refine gM0_X6_9 E dX6_anHour_8 ?_
  refine J_iconst E dX6_anHour_11 ic_2 ?_
  refine lMs E (j := 2) (r := 7) (i := 2) (at_7 (by decide)) dX6_anHour_12 ?_
  refine J_top (x' := y 0 7 2) (up3_row (by decide)) ?_
  refine J_cVv0 E (As := [.int 0, .int (y 0 7 2)]) (c_X6_comes l G b (up3 y 5 2 0 0) 0 (by omega) (y 0 7 2) ) cl_X6_127 yo_X6_comes dX6_anHour_13 rfl rfl rfl (Nat.le_of_ble_eq_true rfl) (Nat.le_of_ble_eq_true rfl) rfl (Nat.le_of_ble_eq_true rfl) ⟨Nat.zero_le _, Nat.zero_le _⟩ ?_
  refine J_iconst E dX6_anHour_16 ic_0 ?_
  refine J_istore_n E (lv' := [(1, .int 0), (0, .ref (b 0))]) dX6_anHour_17 rfl (by decide) rfl ?_
  have lp18 : ∀ (fu : Nat) (i : Nat) (d : Q2) (r : Q2), (i ≤ 11) → (r = tkS (comesR (y 0) 0 (y 0 7 2)) i) → (d = up2 (y 5) 2 0 (tkD (comesR (y 0) 0 (y 0 7 2)) i)) → 11 - i < fu → J X G 3 0 0 (wM G b (upG (upG y 5 d) 0 r)) [(0, .ref (b 0)), (1, .int (nI i))] 18 [] := by
    intro fu
    induction fu with
    | zero => intro i d r hi hr hd hm; exact absurd hm (Nat.not_lt_zero _)
    | succ fu ih18 =>
      intro i d r hi hr hd hm
      refine J_iload_n E dX6_anHour_18 rfl 1 rfl ?_
      refine J_bipush E dX6_anHour_19 bp_11 ?_
      refine J_icmp_ge E (tgt := 35) dX6_anHour_21 (by decide) (fun c_21 => ?_) (fun c_21 => ?_)
      · skip
        have n_21 : 11 ≤ i := cmp_le (a := 11) (b := i) (by omega) (by omega) c_21
        refine J_iconst E dX6_anHour_35 ic_0 ?_
        refine J_istore_n E (lv' := [(1, .int 0), (0, .ref (b 0))]) dX6_anHour_36 rfl (by decide) rfl ?_
        have lp37 : ∀ (fu : Nat) (i : Nat) (d : Q2) (r : Q2), (i ≤ 11) → (r = kpS (hq1 (y 0)) i) → (d = upR (up2 (y 5) 2 0 (dryR (y 0))) 0 (gpS (hq1 (y 0)) (y 5 0) i)) → 11 - i < fu → J X G 3 0 0 (wM G b (upG (upG y 5 d) 0 r)) [(0, .ref (b 0)), (1, .int (nI i))] 37 [] := by
          intro fu
          induction fu with
          | zero => intro i d r hi hr hd hm; exact absurd hm (Nat.not_lt_zero _)
          | succ fu ih37 =>
            intro i d r hi hr hd hm
            refine J_iload_n E dX6_anHour_37 rfl 1 rfl ?_
            refine J_bipush E dX6_anHour_38 bp_11 ?_
            refine J_icmp_ge E (tgt := 90) dX6_anHour_40 (by decide) (fun c_40 => ?_) (fun c_40 => ?_)
            · skip
              have n_40 : 11 ≤ i := cmp_le (a := 11) (b := i) (by omega) (by omega) c_40
              refine J_iconst E dX6_anHour_90 ic_0 ?_
              refine J_istore_n E (lv' := [(1, .int 0), (0, .ref (b 0))]) dX6_anHour_91 rfl (by decide) rfl ?_
              have lp92 : ∀ (fu : Nat) (i : Nat) (d : Q2) (r : Q2), (i ≤ 11) → (r = ouS (kpS (hq1 (y 0)) 11) (gpS (hq1 (y 0)) (y 5 0) 11) i) → (d = hd5 (y 0) (y 5)) → (spOk r) → (r 0 = y 0 0) → 11 - i < fu → J X G 3 0 0 (wM G b (upG (upG y 5 d) 0 r)) [(0, .ref (b 0)), (1, .int (nI i))] 92 [] := by
                intro fu
                induction fu with
                | zero => intro i d r hi hr hd hs hk hm; exact absurd hm (Nat.not_lt_zero _)
                | succ fu ih92 =>
                  intro i d r hi hr hd hs hk hm
                  have hgo : d 0 = gpS (hq1 (y 0)) (y 5 0) 11 := by rw [hd]; rfl
                  refine J_iload_n E dX6_anHour_92 rfl 1 rfl ?_
                  refine J_bipush E dX6_anHour_93 bp_11 ?_
                  refine J_icmp_ge E (tgt := 178) dX6_anHour_95 (by decide) (fun c_95 => ?_) (fun c_95 => ?_)
                  · skip
                    have n_95 : 11 ≤ i := cmp_le (a := 11) (b := i) (by omega) (by omega) c_95
                    refine J_aload_n E dX6_anHour_178 rfl 0 rfl ?_
                    refine gM0_X6_9 E dX6_anHour_179 ?_
                    refine J_iconst E dX6_anHour_182 ic_0 ?_
                    refine J_dup2 E dX6_anHour_183 rfl rfl ?_
                    refine lMs E (j := 0) (r := 7) (i := 0) (at_7 (by decide)) dX6_anHour_184 ?_
                    refine J_top (x' := r 7 0) upG_s ?_
                    refine J_iconst E dX6_anHour_185 ic_1 ?_
                    refine J_iadd E dX6_anHour_186 ?_
                    refine sMs E (j := 0) (r := 7) (i := 0) (at_7 (by decide)) dX6_anHour_187 ?_
                    refine J_w (ws' := wM G b (upG (upG (upG y 5 d) 0 r) 0 (up2 r 7 0 ((r 7 0) + 1)))) rfl ?_
                    exact ret _ _ _ (congrArg (wM G b) (by rw [upG_upG, hr, hd, show i = 11 by omega]; exact congrArg (upG (upG y 5 (hd5 (y 0) (y 5))) 0) (hourR_g (y 0) (y 5 0)))) dX6_anHour_188
                  · skip
                    have n_95 : ¬ 11 ≤ i := cmp_nle (a := 11) (b := i) (by omega) (by omega) c_95
                    refine J_aload_n E dX6_anHour_98 rfl 0 rfl ?_
                    refine gM0_X6_22 E dX6_anHour_99 ?_
                    refine J_iload_n E dX6_anHour_102 rfl 1 rfl ?_
                    refine lM_5 E (j := i) dX6_anHour_103 (by omega) ?_
                    refine J_top (x' := d 0 i) (Eq.trans (upG_n (by decide)) upG_s) ?_
                    refine J_aload_n E dX6_anHour_104 rfl 0 rfl ?_
                    refine J_iload_n E dX6_anHour_105 rfl 1 rfl ?_
                    obtain ⟨kd, hkd1, hkd2⟩ := hkd i (by omega)
                    have hke : r 0 i = nI kd := by rw [hk]; exact hkd2
                    refine J_cVi0 E (As := [.int (nI i)]) (c_X6_loses l G b (upG (upG y 5 d) 0 r) i (by omega) _ hkd1 hke) cl_X6_107 yo_X6_loses dX6_anHour_106 rfl rfl rfl (Nat.le_of_ble_eq_true rfl) (Nat.le_of_ble_eq_true rfl) rfl (Nat.le_of_ble_eq_true rfl) ⟨Nat.zero_le _, Nat.zero_le _⟩ ?_
                    refine J_top (x' := loseK (r 0 i)) rfl ?_
                    refine J_mmin E ml_X6_120 st_mmin ini_J9 co_mmin dX6_anHour_109 (by decide) (Nat.le_of_ble_eq_true rfl) ⟨Nat.zero_le _, Nat.zero_le _⟩ ?_
                    refine J_istore_n E (lv' := [(2, .int (mn (d 0 i) (loseK (r 0 i)))), (0, .ref (b 0)), (1, .int (nI i))]) dX6_anHour_112 rfl (by decide) rfl ?_
                    refine J_aload_n E dX6_anHour_113 rfl 1 rfl ?_
                    refine J_iload_n E dX6_anHour_114 rfl 0 rfl ?_
                    refine J_cVv0 E (As := [.int (mn (d 0 i) (loseK (r 0 i)))]) (c_X6_lost l G b (upG (upG y 5 d) 0 r) (mn (d 0 i) (loseK (r 0 i))) ) cl_X6_123 yo_X6_lost dX6_anHour_115 rfl rfl rfl (Nat.le_of_ble_eq_true rfl) (Nat.le_of_ble_eq_true rfl) rfl (Nat.le_of_ble_eq_true rfl) ⟨Nat.zero_le _, Nat.zero_le _⟩ ?_
                    refine J_aload_n E dX6_anHour_118 rfl 1 rfl ?_
                    refine J_iload_n E dX6_anHour_119 rfl 2 rfl ?_
                    refine J_cVi0 E (As := [.int (nI i)]) (c_X6_leads l G b (upG (upG (upG y 5 d) 0 r) 0 (loseF r (mn (d 0 i) (loseK (r 0 i))))) i (by omega)) cl_X6_110 yo_X6_leads dX6_anHour_120 rfl rfl rfl (Nat.le_of_ble_eq_true rfl) (Nat.le_of_ble_eq_true rfl) rfl (Nat.le_of_ble_eq_true rfl) ⟨Nat.zero_le _, Nat.zero_le _⟩ ?_
                    refine J_top (x' := leadF (loseF r (mn (d 0 i) (loseK (r 0 i)))) i) rfl ?_
                    refine J_if_lt E (tgt := 146) dX6_anHour_123 (by decide) (fun c_123 => ?_) (fun c_123 => ?_)
                    · skip
                      refine J_aload_n E dX6_anHour_146 rfl 1 rfl ?_
                      refine gM0_X6_9 E dX6_anHour_147 ?_
                      refine J_iconst E dX6_anHour_150 ic_3 ?_
                      refine J_ldc E kn_X6_119 dX6_anHour_151 ?_
                      refine J_aload_n E dX6_anHour_153 rfl 1 rfl ?_
                      refine gM0_X6_9 E dX6_anHour_154 ?_
                      refine J_iconst E dX6_anHour_157 ic_3 ?_
                      refine lMs E (j := 3) (r := 7) (i := 3) (at_7 (by decide)) dX6_anHour_158 ?_
                      refine J_top (x' := (loseF r (mn (d 0 i) (loseK (r 0 i)))) 7 3) upG_s ?_
                      refine J_aload_n E dX6_anHour_159 rfl 1 rfl ?_
                      refine gM0_X6_22 E dX6_anHour_160 ?_
                      refine J_iload_n E dX6_anHour_163 rfl 2 rfl ?_
                      refine lM_5 E (j := i) dX6_anHour_164 (by omega) ?_
                      refine J_top (x' := d 0 i) (Eq.trans (upG_n (by decide)) (Eq.trans (upG_n (by decide)) upG_s)) ?_
                      refine J_iadd E dX6_anHour_165 ?_
                      refine J_iload_n E dX6_anHour_166 rfl 0 rfl ?_
                      refine J_isub E dX6_anHour_167 ?_
                      refine J_mmin E ml_X6_120 st_mmin ini_J9 co_mmin dX6_anHour_168 (by decide) (Nat.le_of_ble_eq_true rfl) ⟨Nat.zero_le _, Nat.zero_le _⟩ ?_
                      refine sMs E (j := 3) (r := 7) (i := 3) (at_7 (by decide)) dX6_anHour_171 ?_
                      refine J_w (ws' := wM G b (upG (upG (upG (upG y 5 d) 0 r) 0 (loseF r (mn (d 0 i) (loseK (r 0 i))))) 0 (up2 (loseF r (mn (d 0 i) (loseK (r 0 i)))) 7 3 (mn 999999 ((((loseF r (mn (d 0 i) (loseK (r 0 i)))) 7 3) + (d 0 i)) - (mn (d 0 i) (loseK (r 0 i)))))))) rfl ?_
                      refine J_iinc E (lv' := [(1, .int (nI (i + 1))), (2, .int (mn (d 0 i) (loseK (r 0 i)))), (0, .ref (b 0))]) dX6_anHour_172 2 rfl (nI_inc _) (by decide) rfl ?_
                      refine J_goto E (tgt := 92) dX6_anHour_175 (by decide) ?_
                      refine J_lv [2, 0] rfl ?_
                      exact ih92 (i + 1) d (up2 (loseF r (mn (d 0 i) (loseK (r 0 i)))) 7 3 (mn 999999 ((((loseF r (mn (d 0 i) (loseK (r 0 i)))) 7 3) + (d 0 i)) - (mn (d 0 i) (loseK (r 0 i)))))) (by omega) (by first | rw [ouS, ← hr, outQ, ← hgo, if_pos c_123] | rw [ouS, ← hr, outQ, ← hgo, if_neg c_123, hwe, nI_clamp (by omega)]) hd (spOk_c hs (by first | rfl | (rw [comesR_4]; exact loseF_4 _ _))) (by first | exact hk | (rw [comesR_0]; exact hk)) (by omega)
                    · skip
                      obtain ⟨w, hw, hwe⟩ := lead_nn (spOk_c hs (loseF_4 _ _)) (by omega) c_123
                      refine J_aload_n E dX6_anHour_126 rfl 1 rfl ?_
                      refine J_aload_n E dX6_anHour_127 rfl 1 rfl ?_
                      refine J_iload_n E dX6_anHour_128 rfl 2 rfl ?_
                      refine J_cVi0 E (As := [.int (nI i)]) (c_X6_leads l G b (upG (upG (upG y 5 d) 0 r) 0 (loseF r (mn (d 0 i) (loseK (r 0 i))))) i (by omega)) cl_X6_110 yo_X6_leads dX6_anHour_129 rfl rfl rfl (Nat.le_of_ble_eq_true rfl) (Nat.le_of_ble_eq_true rfl) rfl (Nat.le_of_ble_eq_true rfl) ⟨Nat.zero_le _, Nat.zero_le _⟩ ?_
                      refine J_top (x' := leadF (loseF r (mn (d 0 i) (loseK (r 0 i)))) i) rfl ?_
                      refine J_top (x' := nI w) (hwe) ?_
                      refine J_aload_n E dX6_anHour_132 rfl 1 rfl ?_
                      refine gM0_X6_22 E dX6_anHour_133 ?_
                      refine J_iload_n E dX6_anHour_136 rfl 2 rfl ?_
                      refine lM_5 E (j := i) dX6_anHour_137 (by omega) ?_
                      refine J_top (x' := d 0 i) (Eq.trans (upG_n (by decide)) (Eq.trans (upG_n (by decide)) upG_s)) ?_
                      refine J_iload_n E dX6_anHour_138 rfl 0 rfl ?_
                      refine J_isub E dX6_anHour_139 ?_
                      refine J_cVv0 E (As := [.int (nI w), .int ((d 0 i) - (mn (d 0 i) (loseK (r 0 i))))]) (c_X6_comes l G b (upG (upG (upG y 5 d) 0 r) 0 (loseF r (mn (d 0 i) (loseK (r 0 i))))) w (by omega) ((d 0 i) - (mn (d 0 i) (loseK (r 0 i)))) ) cl_X6_127 yo_X6_comes dX6_anHour_140 rfl rfl rfl (Nat.le_of_ble_eq_true rfl) (Nat.le_of_ble_eq_true rfl) rfl (Nat.le_of_ble_eq_true rfl) ⟨Nat.zero_le _, Nat.zero_le _⟩ ?_
                      refine J_goto E (tgt := 172) dX6_anHour_143 (by decide) ?_
                      refine J_iinc E (lv' := [(1, .int (nI (i + 1))), (2, .int (mn (d 0 i) (loseK (r 0 i)))), (0, .ref (b 0))]) dX6_anHour_172 2 rfl (nI_inc _) (by decide) rfl ?_
                      refine J_goto E (tgt := 92) dX6_anHour_175 (by decide) ?_
                      refine J_lv [2, 0] rfl ?_
                      exact ih92 (i + 1) d (comesR (loseF r (mn (d 0 i) (loseK (r 0 i)))) w ((d 0 i) - (mn (d 0 i) (loseK (r 0 i))))) (by omega) (by first | rw [ouS, ← hr, outQ, ← hgo, if_pos c_123] | rw [ouS, ← hr, outQ, ← hgo, if_neg c_123, hwe, nI_clamp (by omega)]) hd (spOk_c hs (by first | rfl | (rw [comesR_4]; exact loseF_4 _ _))) (by first | exact hk | (rw [comesR_0]; exact hk)) (by omega)
              refine J_lv [1, 0] rfl ?_
              exact lp92 _ 0 d r (by omega) (by rw [hr, show i = 11 by omega]; rfl) (by rw [hd, show i = 11 by omega]; rfl) (spOk_c hsp (by rw [hr, kpS_4, hq1, tkS_4, comesR_4])) (by rw [hr, kpS_0, hq1, tkS_0, comesR_0]) (Nat.lt_succ_self _)
            · skip
              have n_40 : ¬ 11 ≤ i := cmp_nle (a := 11) (b := i) (by omega) (by omega) c_40
              refine J_aload_n E dX6_anHour_43 rfl 0 rfl ?_
              refine gM0_X6_22 E dX6_anHour_44 ?_
              refine J_iload_n E dX6_anHour_47 rfl 1 rfl ?_
              refine J_iconst E dX6_anHour_48 ic_0 ?_
              refine J_aload_n E dX6_anHour_49 rfl 0 rfl ?_
              refine J_iload_n E dX6_anHour_50 rfl 1 rfl ?_
              refine J_iconst E dX6_anHour_51 ic_1 ?_
              refine J_cVi0 E (As := [.int (nI i), .int 1]) (c_X6_its l G b (upG (upG y 5 d) 0 r) i 1 (by omega) (by omega)) cl_X6_64 yo_X6_its dX6_anHour_52 rfl rfl rfl (Nat.le_of_ble_eq_true rfl) (Nat.le_of_ble_eq_true rfl) rfl (Nat.le_of_ble_eq_true rfl) ⟨Nat.zero_le _, Nat.zero_le _⟩ ?_
              refine J_top (x' := r 1 i) (upG_s) ?_
              refine J_aload_n E dX6_anHour_55 rfl 0 rfl ?_
              refine J_iload_n E dX6_anHour_56 rfl 1 rfl ?_
              refine J_cVi0 E (As := [.int (nI i)]) (c_X6_keeps l G b (upG (upG y 5 d) 0 r) i (by omega)) cl_X6_104 yo_X6_keeps dX6_anHour_57 rfl rfl rfl (Nat.le_of_ble_eq_true rfl) (Nat.le_of_ble_eq_true rfl) rfl (Nat.le_of_ble_eq_true rfl) ⟨Nat.zero_le _, Nat.zero_le _⟩ ?_
              refine J_top (x' := keepF (r 0 i) (r 3 i) (r 2 i)) rfl ?_
              refine J_isub E dX6_anHour_60 ?_
              refine J_mmax E ml_X6_68 st_mmax ini_J9 co_mmax dX6_anHour_61 (by decide) (Nat.le_of_ble_eq_true rfl) ⟨Nat.zero_le _, Nat.zero_le _⟩ ?_
              refine sM_5 E (j := i) dX6_anHour_64 (by omega) ?_
              refine J_aload_n E dX6_anHour_65 rfl 0 rfl ?_
              refine J_iload_n E dX6_anHour_66 rfl 1 rfl ?_
              refine J_iconst E dX6_anHour_67 ic_1 ?_
              refine J_aload_n E dX6_anHour_68 rfl 0 rfl ?_
              refine J_iload_n E dX6_anHour_69 rfl 1 rfl ?_
              refine J_iconst E dX6_anHour_70 ic_1 ?_
              refine J_cVi0 E (As := [.int (nI i), .int 1]) (c_X6_its l G b (up3 (upG (upG y 5 d) 0 r) 5 0 i (mx 0 ((r 1 i) - (keepF (r 0 i) (r 3 i) (r 2 i))))) i 1 (by omega) (by omega)) cl_X6_64 yo_X6_its dX6_anHour_71 rfl rfl rfl (Nat.le_of_ble_eq_true rfl) (Nat.le_of_ble_eq_true rfl) rfl (Nat.le_of_ble_eq_true rfl) ⟨Nat.zero_le _, Nat.zero_le _⟩ ?_
              refine J_top (x' := r 1 i) ((Eq.trans (up3_row (by decide)) upG_s)) ?_
              refine J_aload_n E dX6_anHour_74 rfl 0 rfl ?_
              refine gM0_X6_22 E dX6_anHour_75 ?_
              refine J_iload_n E dX6_anHour_78 rfl 1 rfl ?_
              refine lM_5 E (j := i) dX6_anHour_79 (by omega) ?_
              refine J_top (x' := mx 0 ((r 1 i) - (keepF (r 0 i) (r 3 i) (r 2 i)))) up3_s ?_
              refine J_isub E dX6_anHour_80 ?_
              refine J_cVv0 E (As := [.int (nI i), .int 1, .int ((r 1 i) - (mx 0 ((r 1 i) - (keepF (r 0 i) (r 3 i) (r 2 i)))))]) (c_X6_sets l G b (up3 (upG (upG y 5 d) 0 r) 5 0 i (mx 0 ((r 1 i) - (keepF (r 0 i) (r 3 i) (r 2 i))))) i 1 ((r 1 i) - (mx 0 ((r 1 i) - (keepF (r 0 i) (r 3 i) (r 2 i))))) (by omega) (by omega)) cl_X6_43 yo_X6_sets dX6_anHour_81 rfl rfl rfl (Nat.le_of_ble_eq_true rfl) (Nat.le_of_ble_eq_true rfl) rfl (Nat.le_of_ble_eq_true rfl) ⟨Nat.zero_le _, Nat.zero_le _⟩ ?_
              refine J_iinc E (lv' := [(1, .int (nI (i + 1))), (0, .ref (b 0))]) dX6_anHour_84 1 rfl (nI_inc _) (by decide) rfl ?_
              refine J_goto E (tgt := 37) dX6_anHour_87 (by decide) ?_
              refine J_lv [1, 0] rfl ?_
              exact ih37 (i + 1) ((up3 (upG (upG y 5 d) 0 r) 5 0 i (mx 0 ((r 1 i) - (keepF (r 0 i) (r 3 i) (r 2 i))))) 5) (up2 r 1 i ((r 1 i) - (mx 0 ((r 1 i) - (keepF (r 0 i) (r 3 i) (r 2 i)))))) (by omega) (by rw [hr]; rfl) (by rw [hd, hr]; exact up2_upR) (by omega)
        refine J_lv [1, 0] rfl ?_
        exact lp37 _ 0 d r (by omega) (by rw [hr, show i = 11 by omega]; rfl) (by rw [hd, show i = 11 by omega]; exact (upR_id (q := up2 (y 5) 2 0 (dryR (y 0))) (r := 0)).symm) (Nat.lt_succ_self _)
      · skip
        have n_21 : ¬ 11 ≤ i := cmp_nle (a := 11) (b := i) (by omega) (by omega) c_21
        refine J_aload_n E dX6_anHour_24 rfl 0 rfl ?_
        refine J_iload_n E dX6_anHour_25 rfl 1 rfl ?_
        refine J_cVv0 E (As := [.int (nI i)]) (c_X6_takesOwn l G b (upG (upG y 5 d) 0 r) i (by omega)) cl_X6_135 yo_X6_takesOwn dX6_anHour_26 rfl rfl rfl (Nat.le_of_ble_eq_true rfl) (Nat.le_of_ble_eq_true rfl) rfl (Nat.le_of_ble_eq_true rfl) ⟨Nat.zero_le _, Nat.zero_le _⟩ ?_
        refine J_iinc E (lv' := [(1, .int (nI (i + 1))), (0, .ref (b 0))]) dX6_anHour_29 1 rfl (nI_inc _) (by decide) rfl ?_
        refine J_goto E (tgt := 18) dX6_anHour_32 (by decide) ?_
        refine J_lv [1, 0] rfl ?_
        exact ih18 (i + 1) ((up3 (upG (upG y 5 d) 0 r) 5 2 0 (stepD r i (d 2 0))) 5) (takeQ r i) (by omega) (by rw [hr]; rfl) (by rw [hd, hr]; show up2 (up2 (y 5) 2 0 (tkD (comesR (y 0) 0 (y 0 7 2)) i)) 2 0 (stepD (tkS (comesR (y 0) 0 (y 0 7 2)) i) i (tkD (comesR (y 0) 0 (y 0 7 2)) i)) = up2 (y 5) 2 0 (tkD (comesR (y 0) 0 (y 0 7 2)) (i + 1)); rw [up2_up2]; rfl) (by omega)
  refine J_lv [1, 0] rfl ?_
  exact lp18 _ 0 ((up3 y 5 2 0 0) 5) (comesR (y 0) 0 (y 0 7 2)) (by omega) rfl rfl (Nat.lt_succ_self _)
