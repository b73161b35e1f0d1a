def soF (f : Nat → Int32) (j : Nat) (q : Q2) : Nat → Bool
  | 0 => true
  | n + 1 => soF f j q n && decide (f n = -1 ∨ f n = hoursR q n 1 j)
theorem so_z {f : Nat → Int32} {j n : Nat} {q : Q2} {t : Int32} (h : t = bI (soF f j q n = true)) (h0 : t = 0) : 0 = bI (soF f j q (n + 1) = true) := by
  refine (bI_f (fun z => ?_)).symm
  rw [soF, Bool.and_eq_true] at z
  rw [h, bI_t z.1] at h0
  exact absurd h0 (by decide)
theorem so_n {f : Nat → Int32} {j n : Nat} {q : Q2} (h : ¬ (f n = -1 ∨ f n = hoursR q n 1 j)) : 0 = bI (soF f j q (n + 1) = true) := by
  refine (bI_f (fun z => ?_)).symm
  rw [soF, Bool.and_eq_true] at z
  exact h (of_decide_eq_true z.2)
theorem so_y {f : Nat → Int32} {j n : Nat} {q : Q2} {t : Int32} (h : t = bI (soF f j q n = true)) (h1 : ¬ t = 0) (hp : f n = -1 ∨ f n = hoursR q n 1 j) : 1 = bI (soF f j q (n + 1) = true) := by
  refine (bI_t ?_).symm
  rw [soF, Bool.and_eq_true]
  exact ⟨bI_1 (h ▸ h1), decide_eq_true hp⟩
def showR (q : Q2) : Nat → Q2
  | 0 => q
  | n + 1 => hourR0 (rainD (showR q n))
def showRN (q : Q2) : Nat → Int32
  | 0 => 0
  | n + 1 => if dryR (rainD (showR q n)) = 0 then showRN q n else showRN q n + 1
theorem okQ_rain {q : Q2} (h : okQ q) : okQ (rainD q) := okQ_c h (by simp [rainD, up2]) (rainD_4 q)
theorem okQ_show {q : Q2} (h : okQ q) : ∀ n, okQ (showR q n)
  | 0 => h
  | n + 1 => okQ_h (okQ_rain (okQ_show h n))
def okS (q : Q2) : Prop := ∀ j, j < 10 → q 6 j = -1 ∨ ∃ w : Nat, w < 11 ∧ q 6 j = nI w
theorem le_pred {i : Int32} {n : Nat} (hn : n ≤ 40) : (0 ≤ i ∧ i ≤ nI n - 1) ↔ (0 ≤ i ∧ i < nI n) := by
  constructor
  · rintro ⟨h1, h2⟩
    refine ⟨h1, ?_⟩
    cases n with
    | zero => exact absurd (Int32.le_trans h1 h2) (by decide)
    | succ m =>
      rw [nI_pred] at h2
      exact Int32.lt_of_le_of_lt h2 (nI_lt (by omega) (by omega))
  · rintro ⟨h1, h2⟩
    refine ⟨h1, ?_⟩
    obtain ⟨k, hk, e⟩ := nI_of (x := i) (Int32.not_lt.mpr h1)
    rw [e] at h2 ⊢
    have := cmp_lt (by omega) (by omega) h2
    rw [show n = (n - 1) + 1 by omega, nI_pred]
    exact nI_le (by omega) (by omega)
theorem upR_upR {q : Q2} {r : Nat} {f g : Nat → Int32} : upR (upR q r f) r g = upR q r g := by
  funext r'
  by_cases h : r' = r
  · simp [upR, h]
  · simp [upR, h]
def countM (x : Q3) (k : Nat) : Int32 := if k = 0 then x 0 7 0 else if k = 1 then cntF (fun j => decide (¬ x 0 0 j = 0)) 11 else if k = 2 then onesF (setF (fun j => decide (0 < x 0 5 j)) 11) 11 else if k = 3 then sumF (x 0 1) 11 else if k = 4 then x 0 7 3 else if k = 5 then x 7 1 0 else if k = 6 then x 0 7 1 else cntF (fun j => decide (¬ x 0 6 j = -1)) 10
theorem lN_mulM (a b : Nat) : lN a * lN b = lN (a * b) := (Int64.ofNat_mul a b).symm
theorem pow_b {ab n : Nat} (h : ab ≤ 100) (hn : n ≤ 9) : ab ^ n ≤ 10 ^ 18 := Nat.le_trans (Nat.pow_le_pow_left h n) (Nat.le_trans (Nat.pow_le_pow_right (by decide) hn) (by decide))
section MRW
variable {X : JX} {l : Launch} {G : GB} {nL kc ks pc : Nat} {lv : List (Nat × Value)} {st : List Value} {b : Nat → Nat} {y : Q3}

theorem J_mr8 {r : Q2} {f : Nat → Int32} (h0 : ∀ j, j < 40 → r 0 j = f j) (K : J X G nL kc ks (wM G b (upG y 8 (upR r 0 f))) lv pc st) : J X G nL kc ks (wM G b (upG y 8 r)) lv pc st := by
  refine J_arr (g := fun k => pick4 (k / 40) (f (k % 40)) (y 9 0 (k % 40)) (y 10 0 (k % 40)) (y 11 0 (k % 40))) 10 rfl (fun k hk => ?_) (J_w rfl K)
  show pick4 (k / 40) (r 0 (k % 40)) (y 9 0 (k % 40)) (y 10 0 (k % 40)) (y 11 0 (k % 40)) = pick4 (k / 40) (f (k % 40)) (y 9 0 (k % 40)) (y 10 0 (k % 40)) (y 11 0 (k % 40))
  rw [h0 _ (Nat.mod_lt _ (by decide))]
theorem J_mr9 {r : Q2} {f : Nat → Int32} (h0 : ∀ j, j < 40 → r 0 j = f j) (K : J X G nL kc ks (wM G b (upG y 9 (upR r 0 f))) lv pc st) : J X G nL kc ks (wM G b (upG y 9 r)) lv pc st := by
  refine J_arr (g := fun k => pick4 (k / 40) (y 8 0 (k % 40)) (f (k % 40)) (y 10 0 (k % 40)) (y 11 0 (k % 40))) 10 rfl (fun k hk => ?_) (J_w rfl K)
  show pick4 (k / 40) (y 8 0 (k % 40)) (r 0 (k % 40)) (y 10 0 (k % 40)) (y 11 0 (k % 40)) = pick4 (k / 40) (y 8 0 (k % 40)) (f (k % 40)) (y 10 0 (k % 40)) (y 11 0 (k % 40))
  rw [h0 _ (Nat.mod_lt _ (by decide))]
theorem J_mr10 {r : Q2} {f : Nat → Int32} (h0 : ∀ j, j < 40 → r 0 j = f j) (K : J X G nL kc ks (wM G b (upG y 10 (upR r 0 f))) lv pc st) : J X G nL kc ks (wM G b (upG y 10 r)) lv pc st := by
  refine J_arr (g := fun k => pick4 (k / 40) (y 8 0 (k % 40)) (y 9 0 (k % 40)) (f (k % 40)) (y 11 0 (k % 40))) 10 rfl (fun k hk => ?_) (J_w rfl K)
  show pick4 (k / 40) (y 8 0 (k % 40)) (y 9 0 (k % 40)) (r 0 (k % 40)) (y 11 0 (k % 40)) = pick4 (k / 40) (y 8 0 (k % 40)) (y 9 0 (k % 40)) (f (k % 40)) (y 11 0 (k % 40))
  rw [h0 _ (Nat.mod_lt _ (by decide))]
theorem J_mr11 {r : Q2} {f : Nat → Int32} (h0 : ∀ j, j < 40 → r 0 j = f j) (K : J X G nL kc ks (wM G b (upG y 11 (upR r 0 f))) lv pc st) : J X G nL kc ks (wM G b (upG y 11 r)) lv pc st := by
  refine J_arr (g := fun k => pick4 (k / 40) (y 8 0 (k % 40)) (y 9 0 (k % 40)) (y 10 0 (k % 40)) (f (k % 40))) 10 rfl (fun k hk => ?_) (J_w rfl K)
  show pick4 (k / 40) (y 8 0 (k % 40)) (y 9 0 (k % 40)) (y 10 0 (k % 40)) (r 0 (k % 40)) = pick4 (k / 40) (y 8 0 (k % 40)) (y 9 0 (k % 40)) (y 10 0 (k % 40)) (f (k % 40))
  rw [h0 _ (Nat.mod_lt _ (by decide))]
end MRW
set_option maxHeartbeats 4000000 in
set_option maxRecDepth 20000 in
theorem c_X6_lacks_out (l : Launch) (G : GB) (b : Nat → Nat) (y : Q3) (s : Int32) (hs : ¬ (0 ≤ s ∧ s ≤ 3)) : CI l yX6_lacks cX6_lacks 2 .int 2 45 G [.ref (b 0), .int s] (wM G b y) (fun vR w' => vR = 0 ∧ w' = wM G b y) := by
  refine CI.mk (own := RX6) (by decide) rfl (Nat.le_of_ble_eq_true rfl) ?_
  intro X E ret
  show J X G 2 0 0 (wM G b y) [(0, .ref (b 0)), (1, .int s)] 0 []
  refine J_iload_n E dX6_lacks_0 rfl 1 rfl ?_
  refine J_cSiN E (As := [.int s]) (c_X6_isSheet l G s ) cl_X6_303 yo_X6_isSheet dX6_lacks_1 rfl (Nat.le_of_ble_eq_true rfl) (Nat.le_of_ble_eq_true rfl) rfl (Nat.le_of_ble_eq_true rfl) ⟨Nat.zero_le _, Nat.zero_le _⟩ ?_
  refine J_if_ne E (tgt := 11) dX6_lacks_4 (by decide) (fun c_4 => ?_) (fun c_4 => ?_)
  · skip
    have c_4 := bI_1 c_4
    exact absurd c_4 hs
  · skip
    have c_4 := bI_0 c_4
    refine J_iconst E dX6_lacks_7 ic_0 ?_
    refine J_goto E (tgt := 25) dX6_lacks_8 (by decide) ?_
    exact ret _ _ _ _ ⟨rfl, (congrArg (wM G b) (rfl))⟩ rfl dX6_lacks_25

set_option maxHeartbeats 4000000 in
set_option maxRecDepth 20000 in
theorem c_X6_lacks_0_0 (l : Launch) (G : GB) (b : Nat → Nat) (y : Q3) (hb : y 8 1 0 = 0) : CI l yX6_lacks cX6_lacks 2 .int 2 45 G [.ref (b 0), .int (nI 0)] (wM G b y) (fun vR w' => vR = 5 ∧ w' = wM G b y) := by
  refine CI.mk (own := RX6) (by decide) rfl (Nat.le_of_ble_eq_true rfl) ?_
  intro X E ret
  show J X G 2 0 0 (wM G b y) [(0, .ref (b 0)), (1, .int (nI 0))] 0 []
  refine J_iload_n E dX6_lacks_0 rfl 1 rfl ?_
  refine J_cSiN E (As := [.int (nI 0)]) (c_X6_isSheet l G (nI 0) ) cl_X6_303 yo_X6_isSheet dX6_lacks_1 rfl (Nat.le_of_ble_eq_true rfl) (Nat.le_of_ble_eq_true rfl) rfl (Nat.le_of_ble_eq_true rfl) ⟨Nat.zero_le _, Nat.zero_le _⟩ ?_
  refine J_if_ne E (tgt := 11) dX6_lacks_4 (by decide) (fun c_4 => ?_) (fun c_4 => ?_)
  · skip
    have c_4 := bI_1 c_4
    refine J_aload_n E dX6_lacks_11 rfl 0 rfl ?_
    refine gM0_X6_31 E dX6_lacks_12 ?_
    refine J_iload_n E dX6_lacks_15 rfl 1 rfl ?_
    refine lMb_0 E  dX6_lacks_16 ?_
    refine J_if_ne E (tgt := 24) dX6_lacks_17 (by decide) (fun c_17 => ?_) (fun c_17 => ?_)
    · skip
      exact absurd hb c_17
    · skip
      refine J_iconst E dX6_lacks_20 ic_5 ?_
      refine J_goto E (tgt := 25) dX6_lacks_21 (by decide) ?_
      exact ret _ _ _ _ ⟨rfl, (congrArg (wM G b) (rfl))⟩ rfl dX6_lacks_25
  · skip
    have c_4 := bI_0 c_4
    exact absurd (in3 (by decide)) c_4

set_option maxHeartbeats 4000000 in
set_option maxRecDepth 20000 in
theorem c_X6_lacks_0_1 (l : Launch) (G : GB) (b : Nat → Nat) (y : Q3) (hb : ¬ y 8 1 0 = 0) : CI l yX6_lacks cX6_lacks 2 .int 2 45 G [.ref (b 0), .int (nI 0)] (wM G b y) (fun vR w' => vR = (-1) ∧ w' = wM G b y) := by
  refine CI.mk (own := RX6) (by decide) rfl (Nat.le_of_ble_eq_true rfl) ?_
  intro X E ret
  show J X G 2 0 0 (wM G b y) [(0, .ref (b 0)), (1, .int (nI 0))] 0 []
  refine J_iload_n E dX6_lacks_0 rfl 1 rfl ?_
  refine J_cSiN E (As := [.int (nI 0)]) (c_X6_isSheet l G (nI 0) ) cl_X6_303 yo_X6_isSheet dX6_lacks_1 rfl (Nat.le_of_ble_eq_true rfl) (Nat.le_of_ble_eq_true rfl) rfl (Nat.le_of_ble_eq_true rfl) ⟨Nat.zero_le _, Nat.zero_le _⟩ ?_
  refine J_if_ne E (tgt := 11) dX6_lacks_4 (by decide) (fun c_4 => ?_) (fun c_4 => ?_)
  · skip
    have c_4 := bI_1 c_4
    refine J_aload_n E dX6_lacks_11 rfl 0 rfl ?_
    refine gM0_X6_31 E dX6_lacks_12 ?_
    refine J_iload_n E dX6_lacks_15 rfl 1 rfl ?_
    refine lMb_0 E  dX6_lacks_16 ?_
    refine J_if_ne E (tgt := 24) dX6_lacks_17 (by decide) (fun c_17 => ?_) (fun c_17 => ?_)
    · skip
      refine J_iconst E dX6_lacks_24 ic_m1 ?_
      exact ret _ _ _ _ ⟨rfl, (congrArg (wM G b) (rfl))⟩ rfl dX6_lacks_25
    · skip
      exact absurd c_17 hb
  · skip
    have c_4 := bI_0 c_4
    exact absurd (in3 (by decide)) c_4

set_option maxHeartbeats 4000000 in
set_option maxRecDepth 20000 in
theorem c_X6_lacks_1_0 (l : Launch) (G : GB) (b : Nat → Nat) (y : Q3) (hb : y 9 1 0 = 0) : CI l yX6_lacks cX6_lacks 2 .int 2 45 G [.ref (b 0), .int (nI 1)] (wM G b y) (fun vR w' => vR = 5 ∧ w' = wM G b y) := by
  refine CI.mk (own := RX6) (by decide) rfl (Nat.le_of_ble_eq_true rfl) ?_
  intro X E ret
  show J X G 2 0 0 (wM G b y) [(0, .ref (b 0)), (1, .int (nI 1))] 0 []
  refine J_iload_n E dX6_lacks_0 rfl 1 rfl ?_
  refine J_cSiN E (As := [.int (nI 1)]) (c_X6_isSheet l G (nI 1) ) cl_X6_303 yo_X6_isSheet dX6_lacks_1 rfl (Nat.le_of_ble_eq_true rfl) (Nat.le_of_ble_eq_true rfl) rfl (Nat.le_of_ble_eq_true rfl) ⟨Nat.zero_le _, Nat.zero_le _⟩ ?_
  refine J_if_ne E (tgt := 11) dX6_lacks_4 (by decide) (fun c_4 => ?_) (fun c_4 => ?_)
  · skip
    have c_4 := bI_1 c_4
    refine J_aload_n E dX6_lacks_11 rfl 0 rfl ?_
    refine gM0_X6_31 E dX6_lacks_12 ?_
    refine J_iload_n E dX6_lacks_15 rfl 1 rfl ?_
    refine lMb_1 E  dX6_lacks_16 ?_
    refine J_if_ne E (tgt := 24) dX6_lacks_17 (by decide) (fun c_17 => ?_) (fun c_17 => ?_)
    · skip
      exact absurd hb c_17
    · skip
      refine J_iconst E dX6_lacks_20 ic_5 ?_
      refine J_goto E (tgt := 25) dX6_lacks_21 (by decide) ?_
      exact ret _ _ _ _ ⟨rfl, (congrArg (wM G b) (rfl))⟩ rfl dX6_lacks_25
  · skip
    have c_4 := bI_0 c_4
    exact absurd (in3 (by decide)) c_4

set_option maxHeartbeats 4000000 in
set_option maxRecDepth 20000 in
theorem c_X6_lacks_1_1 (l : Launch) (G : GB) (b : Nat → Nat) (y : Q3) (hb : ¬ y 9 1 0 = 0) : CI l yX6_lacks cX6_lacks 2 .int 2 45 G [.ref (b 0), .int (nI 1)] (wM G b y) (fun vR w' => vR = (-1) ∧ w' = wM G b y) := by
  refine CI.mk (own := RX6) (by decide) rfl (Nat.le_of_ble_eq_true rfl) ?_
  intro X E ret
  show J X G 2 0 0 (wM G b y) [(0, .ref (b 0)), (1, .int (nI 1))] 0 []
  refine J_iload_n E dX6_lacks_0 rfl 1 rfl ?_
  refine J_cSiN E (As := [.int (nI 1)]) (c_X6_isSheet l G (nI 1) ) cl_X6_303 yo_X6_isSheet dX6_lacks_1 rfl (Nat.le_of_ble_eq_true rfl) (Nat.le_of_ble_eq_true rfl) rfl (Nat.le_of_ble_eq_true rfl) ⟨Nat.zero_le _, Nat.zero_le _⟩ ?_
  refine J_if_ne E (tgt := 11) dX6_lacks_4 (by decide) (fun c_4 => ?_) (fun c_4 => ?_)
  · skip
    have c_4 := bI_1 c_4
    refine J_aload_n E dX6_lacks_11 rfl 0 rfl ?_
    refine gM0_X6_31 E dX6_lacks_12 ?_
    refine J_iload_n E dX6_lacks_15 rfl 1 rfl ?_
    refine lMb_1 E  dX6_lacks_16 ?_
    refine J_if_ne E (tgt := 24) dX6_lacks_17 (by decide) (fun c_17 => ?_) (fun c_17 => ?_)
    · skip
      refine J_iconst E dX6_lacks_24 ic_m1 ?_
      exact ret _ _ _ _ ⟨rfl, (congrArg (wM G b) (rfl))⟩ rfl dX6_lacks_25
    · skip
      exact absurd c_17 hb
  · skip
    have c_4 := bI_0 c_4
    exact absurd (in3 (by decide)) c_4

set_option maxHeartbeats 4000000 in
set_option maxRecDepth 20000 in
theorem c_X6_lacks_2_0 (l : Launch) (G : GB) (b : Nat → Nat) (y : Q3) (hb : y 10 1 0 = 0) : CI l yX6_lacks cX6_lacks 2 .int 2 45 G [.ref (b 0), .int (nI 2)] (wM G b y) (fun vR w' => vR = 5 ∧ w' = wM G b y) := by
  refine CI.mk (own := RX6) (by decide) rfl (Nat.le_of_ble_eq_true rfl) ?_
  intro X E ret
  show J X G 2 0 0 (wM G b y) [(0, .ref (b 0)), (1, .int (nI 2))] 0 []
  refine J_iload_n E dX6_lacks_0 rfl 1 rfl ?_
  refine J_cSiN E (As := [.int (nI 2)]) (c_X6_isSheet l G (nI 2) ) cl_X6_303 yo_X6_isSheet dX6_lacks_1 rfl (Nat.le_of_ble_eq_true rfl) (Nat.le_of_ble_eq_true rfl) rfl (Nat.le_of_ble_eq_true rfl) ⟨Nat.zero_le _, Nat.zero_le _⟩ ?_
  refine J_if_ne E (tgt := 11) dX6_lacks_4 (by decide) (fun c_4 => ?_) (fun c_4 => ?_)
  · skip
    have c_4 := bI_1 c_4
    refine J_aload_n E dX6_lacks_11 rfl 0 rfl ?_
    refine gM0_X6_31 E dX6_lacks_12 ?_
    refine J_iload_n E dX6_lacks_15 rfl 1 rfl ?_
    refine lMb_2 E  dX6_lacks_16 ?_
    refine J_if_ne E (tgt := 24) dX6_lacks_17 (by decide) (fun c_17 => ?_) (fun c_17 => ?_)
    · skip
      exact absurd hb c_17
    · skip
      refine J_iconst E dX6_lacks_20 ic_5 ?_
      refine J_goto E (tgt := 25) dX6_lacks_21 (by decide) ?_
      exact ret _ _ _ _ ⟨rfl, (congrArg (wM G b) (rfl))⟩ rfl dX6_lacks_25
  · skip
    have c_4 := bI_0 c_4
    exact absurd (in3 (by decide)) c_4

set_option maxHeartbeats 4000000 in
set_option maxRecDepth 20000 in
theorem c_X6_lacks_2_1 (l : Launch) (G : GB) (b : Nat → Nat) (y : Q3) (hb : ¬ y 10 1 0 = 0) : CI l yX6_lacks cX6_lacks 2 .int 2 45 G [.ref (b 0), .int (nI 2)] (wM G b y) (fun vR w' => vR = (-1) ∧ w' = wM G b y) := by
  refine CI.mk (own := RX6) (by decide) rfl (Nat.le_of_ble_eq_true rfl) ?_
  intro X E ret
  show J X G 2 0 0 (wM G b y) [(0, .ref (b 0)), (1, .int (nI 2))] 0 []
  refine J_iload_n E dX6_lacks_0 rfl 1 rfl ?_
  refine J_cSiN E (As := [.int (nI 2)]) (c_X6_isSheet l G (nI 2) ) cl_X6_303 yo_X6_isSheet dX6_lacks_1 rfl (Nat.le_of_ble_eq_true rfl) (Nat.le_of_ble_eq_true rfl) rfl (Nat.le_of_ble_eq_true rfl) ⟨Nat.zero_le _, Nat.zero_le _⟩ ?_
  refine J_if_ne E (tgt := 11) dX6_lacks_4 (by decide) (fun c_4 => ?_) (fun c_4 => ?_)
  · skip
    have c_4 := bI_1 c_4
    refine J_aload_n E dX6_lacks_11 rfl 0 rfl ?_
    refine gM0_X6_31 E dX6_lacks_12 ?_
    refine J_iload_n E dX6_lacks_15 rfl 1 rfl ?_
    refine lMb_2 E  dX6_lacks_16 ?_
    refine J_if_ne E (tgt := 24) dX6_lacks_17 (by decide) (fun c_17 => ?_) (fun c_17 => ?_)
    · skip
      refine J_iconst E dX6_lacks_24 ic_m1 ?_
      exact ret _ _ _ _ ⟨rfl, (congrArg (wM G b) (rfl))⟩ rfl dX6_lacks_25
    · skip
      exact absurd c_17 hb
  · skip
    have c_4 := bI_0 c_4
    exact absurd (in3 (by decide)) c_4

set_option maxHeartbeats 4000000 in
set_option maxRecDepth 20000 in
theorem c_X6_lacks_3_0 (l : Launch) (G : GB) (b : Nat → Nat) (y : Q3) (hb : y 11 1 0 = 0) : CI l yX6_lacks cX6_lacks 2 .int 2 45 G [.ref (b 0), .int (nI 3)] (wM G b y) (fun vR w' => vR = 5 ∧ w' = wM G b y) := by
  refine CI.mk (own := RX6) (by decide) rfl (Nat.le_of_ble_eq_true rfl) ?_
  intro X E ret
  show J X G 2 0 0 (wM G b y) [(0, .ref (b 0)), (1, .int (nI 3))] 0 []
  refine J_iload_n E dX6_lacks_0 rfl 1 rfl ?_
  refine J_cSiN E (As := [.int (nI 3)]) (c_X6_isSheet l G (nI 3) ) cl_X6_303 yo_X6_isSheet dX6_lacks_1 rfl (Nat.le_of_ble_eq_true rfl) (Nat.le_of_ble_eq_true rfl) rfl (Nat.le_of_ble_eq_true rfl) ⟨Nat.zero_le _, Nat.zero_le _⟩ ?_
  refine J_if_ne E (tgt := 11) dX6_lacks_4 (by decide) (fun c_4 => ?_) (fun c_4 => ?_)
  · skip
    have c_4 := bI_1 c_4
    refine J_aload_n E dX6_lacks_11 rfl 0 rfl ?_
    refine gM0_X6_31 E dX6_lacks_12 ?_
    refine J_iload_n E dX6_lacks_15 rfl 1 rfl ?_
    refine lMb_3 E  dX6_lacks_16 ?_
    refine J_if_ne E (tgt := 24) dX6_lacks_17 (by decide) (fun c_17 => ?_) (fun c_17 => ?_)
    · skip
      exact absurd hb c_17
    · skip
      refine J_iconst E dX6_lacks_20 ic_5 ?_
      refine J_goto E (tgt := 25) dX6_lacks_21 (by decide) ?_
      exact ret _ _ _ _ ⟨rfl, (congrArg (wM G b) (rfl))⟩ rfl dX6_lacks_25
  · skip
    have c_4 := bI_0 c_4
    exact absurd (in3 (by decide)) c_4

set_option maxHeartbeats 4000000 in
set_option maxRecDepth 20000 in
theorem c_X6_lacks_3_1 (l : Launch) (G : GB) (b : Nat → Nat) (y : Q3) (hb : ¬ y 11 1 0 = 0) : CI l yX6_lacks cX6_lacks 2 .int 2 45 G [.ref (b 0), .int (nI 3)] (wM G b y) (fun vR w' => vR = (-1) ∧ w' = wM G b y) := by
  refine CI.mk (own := RX6) (by decide) rfl (Nat.le_of_ble_eq_true rfl) ?_
  intro X E ret
  show J X G 2 0 0 (wM G b y) [(0, .ref (b 0)), (1, .int (nI 3))] 0 []
  refine J_iload_n E dX6_lacks_0 rfl 1 rfl ?_
  refine J_cSiN E (As := [.int (nI 3)]) (c_X6_isSheet l G (nI 3) ) cl_X6_303 yo_X6_isSheet dX6_lacks_1 rfl (Nat.le_of_ble_eq_true rfl) (Nat.le_of_ble_eq_true rfl) rfl (Nat.le_of_ble_eq_true rfl) ⟨Nat.zero_le _, Nat.zero_le _⟩ ?_
  refine J_if_ne E (tgt := 11) dX6_lacks_4 (by decide) (fun c_4 => ?_) (fun c_4 => ?_)
  · skip
    have c_4 := bI_1 c_4
    refine J_aload_n E dX6_lacks_11 rfl 0 rfl ?_
    refine gM0_X6_31 E dX6_lacks_12 ?_
    refine J_iload_n E dX6_lacks_15 rfl 1 rfl ?_
    refine lMb_3 E  dX6_lacks_16 ?_
    refine J_if_ne E (tgt := 24) dX6_lacks_17 (by decide) (fun c_17 => ?_) (fun c_17 => ?_)
    · skip
      refine J_iconst E dX6_lacks_24 ic_m1 ?_
      exact ret _ _ _ _ ⟨rfl, (congrArg (wM G b) (rfl))⟩ rfl dX6_lacks_25
    · skip
      exact absurd c_17 hb
  · skip
    have c_4 := bI_0 c_4
    exact absurd (in3 (by decide)) c_4

set_option maxHeartbeats 4000000 in
set_option maxRecDepth 20000 in
theorem c_X6_lacksHouse_out (l : Launch) (G : GB) (b : Nat → Nat) (y : Q3) (s h : Int32) (hs : ¬ (0 ≤ s ∧ s ≤ 3)) : CI l yX6_lacksHouse cX6_lacksHouse 4 .int 3 66 G [.ref (b 0), .int s, .int h] (wM G b y) (fun vR w' => vR = 0 ∧ w' = wM G b y) := by
  refine CI.mk (own := RX6) (by decide) rfl (Nat.le_of_ble_eq_true rfl) ?_
  intro X E ret
  show J X G 4 0 0 (wM G b y) [(0, .ref (b 0)), (1, .int s), (2, .int h)] 0 []
  refine J_aload_n E dX6_lacksHouse_0 rfl 0 rfl ?_
  refine J_iload_n E dX6_lacksHouse_1 rfl 1 rfl ?_
  refine J_cVi0 E (As := [.int s]) (c_X6_lacks_out l G b y s hs ) cl_X6_197 yo_X6_lacks dX6_lacksHouse_2 rfl rfl rfl (Nat.le_of_ble_eq_true rfl) (Nat.le_of_ble_eq_true rfl) rfl (Nat.le_of_ble_eq_true rfl) ⟨Nat.zero_le _, Nat.zero_le _⟩ ?_
  refine J_istore_n E (lv' := [(3, .int 0), (0, .ref (b 0)), (1, .int s), (2, .int h)]) dX6_lacksHouse_5 rfl (by decide) rfl ?_
  refine J_iload_n E dX6_lacksHouse_6 rfl 0 rfl ?_
  refine J_if_lt E (tgt := 12) dX6_lacksHouse_7 (by decide) (fun c_7 => ?_) (fun c_7 => ?_)
  · skip
    have n_7 : 0 < 0 := cmp_lt (a := 0) (b := 0) (by omega) (by omega) c_7
    exact absurd n_7 (by decide)
  · skip
    have n_7 : ¬ 0 < 0 := cmp_nlt (a := 0) (b := 0) (by omega) (by omega) c_7
    refine J_iload_n E dX6_lacksHouse_10 rfl 0 rfl ?_
    exact ret _ _ _ _ ⟨rfl, (congrArg (wM G b) (rfl))⟩ rfl dX6_lacksHouse_11

set_option maxHeartbeats 4000000 in
set_option maxRecDepth 20000 in
theorem c_X6_lacksHouse_0_0 (l : Launch) (G : GB) (b : Nat → Nat) (y : Q3) (h : Int32) (hb : y 8 1 0 = 0) : CI l yX6_lacksHouse cX6_lacksHouse 4 .int 3 66 G [.ref (b 0), .int (nI 0), .int h] (wM G b y) (fun vR w' => vR = 5 ∧ w' = wM G b y) := by
  refine CI.mk (own := RX6) (by decide) rfl (Nat.le_of_ble_eq_true rfl) ?_
  intro X E ret
  show J X G 4 0 0 (wM G b y) [(0, .ref (b 0)), (1, .int (nI 0)), (2, .int h)] 0 []
  refine J_aload_n E dX6_lacksHouse_0 rfl 0 rfl ?_
  refine J_iload_n E dX6_lacksHouse_1 rfl 1 rfl ?_
  refine J_cVi0 E (As := [.int (nI 0)]) (c_X6_lacks_0_0 l G b y hb ) cl_X6_197 yo_X6_lacks dX6_lacksHouse_2 rfl rfl rfl (Nat.le_of_ble_eq_true rfl) (Nat.le_of_ble_eq_true rfl) rfl (Nat.le_of_ble_eq_true rfl) ⟨Nat.zero_le _, Nat.zero_le _⟩ ?_
  refine J_istore_n E (lv' := [(3, .int 5), (0, .ref (b 0)), (1, .int (nI 0)), (2, .int h)]) dX6_lacksHouse_5 rfl (by decide) rfl ?_
  refine J_iload_n E dX6_lacksHouse_6 rfl 0 rfl ?_
  refine J_if_lt E (tgt := 12) dX6_lacksHouse_7 (by decide) (fun c_7 => ?_) (fun c_7 => ?_)
  · skip
    have n_7 : 5 < 0 := cmp_lt (a := 5) (b := 0) (by omega) (by omega) c_7
    exact absurd n_7 (by decide)
  · skip
    have n_7 : ¬ 5 < 0 := cmp_nlt (a := 5) (b := 0) (by omega) (by omega) c_7
    refine J_iload_n E dX6_lacksHouse_10 rfl 0 rfl ?_
    exact ret _ _ _ _ ⟨rfl, (congrArg (wM G b) (rfl))⟩ rfl dX6_lacksHouse_11

set_option maxHeartbeats 4000000 in
set_option maxRecDepth 20000 in
theorem c_X6_lacksHouse_0_2 (l : Launch) (G : GB) (b : Nat → Nat) (y : Q3) (h : Int32) (hb : ¬ y 8 1 0 = 0) (hh : ¬ okH h) : CI l yX6_lacksHouse cX6_lacksHouse 4 .int 3 66 G [.ref (b 0), .int (nI 0), .int h] (wM G b y) (fun vR w' => vR = 0 ∧ w' = wM G b y) := by
  refine CI.mk (own := RX6) (by decide) rfl (Nat.le_of_ble_eq_true rfl) ?_
  intro X E ret
  show J X G 4 0 0 (wM G b y) [(0, .ref (b 0)), (1, .int (nI 0)), (2, .int h)] 0 []
  refine J_aload_n E dX6_lacksHouse_0 rfl 0 rfl ?_
  refine J_iload_n E dX6_lacksHouse_1 rfl 1 rfl ?_
  refine J_cVi0 E (As := [.int (nI 0)]) (c_X6_lacks_0_1 l G b y hb ) cl_X6_197 yo_X6_lacks dX6_lacksHouse_2 rfl rfl rfl (Nat.le_of_ble_eq_true rfl) (Nat.le_of_ble_eq_true rfl) rfl (Nat.le_of_ble_eq_true rfl) ⟨Nat.zero_le _, Nat.zero_le _⟩ ?_
  refine J_istore_n E (lv' := [(3, .int (-1)), (0, .ref (b 0)), (1, .int (nI 0)), (2, .int h)]) dX6_lacksHouse_5 rfl (by decide) rfl ?_
  refine J_iload_n E dX6_lacksHouse_6 rfl 0 rfl ?_
  refine J_if_lt E (tgt := 12) dX6_lacksHouse_7 (by decide) (fun c_7 => ?_) (fun c_7 => ?_)
  · skip
    refine J_iload_n E dX6_lacksHouse_12 rfl 3 rfl ?_
    refine J_cSiN E (As := [.int h]) (c_X6_isHouse l G h ) cl_X6_87 yo_X6_isHouse dX6_lacksHouse_13 rfl (Nat.le_of_ble_eq_true rfl) (Nat.le_of_ble_eq_true rfl) rfl (Nat.le_of_ble_eq_true rfl) ⟨Nat.zero_le _, Nat.zero_le _⟩ ?_
    refine J_if_eq E (tgt := 23) dX6_lacksHouse_16 (by decide) (fun c_16 => ?_) (fun c_16 => ?_)
    · skip
      have c_16 := bI_0 c_16
      refine J_iconst E dX6_lacksHouse_23 ic_0 ?_
      exact ret _ _ _ _ ⟨rfl, (congrArg (wM G b) (rfl))⟩ rfl dX6_lacksHouse_24
    · skip
      have c_16 := bI_1 c_16
      exact absurd c_16 hh
  · skip
    exact absurd c_7 (by decide)

set_option maxHeartbeats 4000000 in
set_option maxRecDepth 20000 in
theorem c_X6_lacksHouse_0_1 (l : Launch) (G : GB) (b : Nat → Nat) (y : Q3) (h : Int32) (hb : ¬ y 8 1 0 = 0) (hh : okH h) : CI l yX6_lacksHouse cX6_lacksHouse 4 .int 3 66 G [.ref (b 0), .int (nI 0), .int h] (wM G b y) (fun vR w' => vR = (-1) ∧ w' = wM G b y) := by
  refine CI.mk (own := RX6) (by decide) rfl (Nat.le_of_ble_eq_true rfl) ?_
  intro X E ret
  show J X G 4 0 0 (wM G b y) [(0, .ref (b 0)), (1, .int (nI 0)), (2, .int h)] 0 []
  refine J_aload_n E dX6_lacksHouse_0 rfl 0 rfl ?_
  refine J_iload_n E dX6_lacksHouse_1 rfl 1 rfl ?_
  refine J_cVi0 E (As := [.int (nI 0)]) (c_X6_lacks_0_1 l G b y hb ) cl_X6_197 yo_X6_lacks dX6_lacksHouse_2 rfl rfl rfl (Nat.le_of_ble_eq_true rfl) (Nat.le_of_ble_eq_true rfl) rfl (Nat.le_of_ble_eq_true rfl) ⟨Nat.zero_le _, Nat.zero_le _⟩ ?_
  refine J_istore_n E (lv' := [(3, .int (-1)), (0, .ref (b 0)), (1, .int (nI 0)), (2, .int h)]) dX6_lacksHouse_5 rfl (by decide) rfl ?_
  refine J_iload_n E dX6_lacksHouse_6 rfl 0 rfl ?_
  refine J_if_lt E (tgt := 12) dX6_lacksHouse_7 (by decide) (fun c_7 => ?_) (fun c_7 => ?_)
  · skip
    refine J_iload_n E dX6_lacksHouse_12 rfl 3 rfl ?_
    refine J_cSiN E (As := [.int h]) (c_X6_isHouse l G h ) cl_X6_87 yo_X6_isHouse dX6_lacksHouse_13 rfl (Nat.le_of_ble_eq_true rfl) (Nat.le_of_ble_eq_true rfl) rfl (Nat.le_of_ble_eq_true rfl) ⟨Nat.zero_le _, Nat.zero_le _⟩ ?_
    refine J_if_eq E (tgt := 23) dX6_lacksHouse_16 (by decide) (fun c_16 => ?_) (fun c_16 => ?_)
    · skip
      have c_16 := bI_0 c_16
      exact absurd hh c_16
    · skip
      have c_16 := bI_1 c_16
      refine J_iconst E dX6_lacksHouse_19 ic_m1 ?_
      refine J_goto E (tgt := 24) dX6_lacksHouse_20 (by decide) ?_
      exact ret _ _ _ _ ⟨rfl, (congrArg (wM G b) (rfl))⟩ rfl dX6_lacksHouse_24
  · skip
    exact absurd c_7 (by decide)

set_option maxHeartbeats 4000000 in
set_option maxRecDepth 20000 in
theorem c_X6_lacksHouse_1_0 (l : Launch) (G : GB) (b : Nat → Nat) (y : Q3) (h : Int32) (hb : y 9 1 0 = 0) : CI l yX6_lacksHouse cX6_lacksHouse 4 .int 3 66 G [.ref (b 0), .int (nI 1), .int h] (wM G b y) (fun vR w' => vR = 5 ∧ w' = wM G b y) := by
  refine CI.mk (own := RX6) (by decide) rfl (Nat.le_of_ble_eq_true rfl) ?_
  intro X E ret
  show J X G 4 0 0 (wM G b y) [(0, .ref (b 0)), (1, .int (nI 1)), (2, .int h)] 0 []
  refine J_aload_n E dX6_lacksHouse_0 rfl 0 rfl ?_
  refine J_iload_n E dX6_lacksHouse_1 rfl 1 rfl ?_
  refine J_cVi0 E (As := [.int (nI 1)]) (c_X6_lacks_1_0 l G b y hb ) cl_X6_197 yo_X6_lacks dX6_lacksHouse_2 rfl rfl rfl (Nat.le_of_ble_eq_true rfl) (Nat.le_of_ble_eq_true rfl) rfl (Nat.le_of_ble_eq_true rfl) ⟨Nat.zero_le _, Nat.zero_le _⟩ ?_
  refine J_istore_n E (lv' := [(3, .int 5), (0, .ref (b 0)), (1, .int (nI 1)), (2, .int h)]) dX6_lacksHouse_5 rfl (by decide) rfl ?_
  refine J_iload_n E dX6_lacksHouse_6 rfl 0 rfl ?_
  refine J_if_lt E (tgt := 12) dX6_lacksHouse_7 (by decide) (fun c_7 => ?_) (fun c_7 => ?_)
  · skip
    have n_7 : 5 < 0 := cmp_lt (a := 5) (b := 0) (by omega) (by omega) c_7
    exact absurd n_7 (by decide)
  · skip
    have n_7 : ¬ 5 < 0 := cmp_nlt (a := 5) (b := 0) (by omega) (by omega) c_7
    refine J_iload_n E dX6_lacksHouse_10 rfl 0 rfl ?_
    exact ret _ _ _ _ ⟨rfl, (congrArg (wM G b) (rfl))⟩ rfl dX6_lacksHouse_11

set_option maxHeartbeats 4000000 in
set_option maxRecDepth 20000 in
theorem c_X6_lacksHouse_1_2 (l : Launch) (G : GB) (b : Nat → Nat) (y : Q3) (h : Int32) (hb : ¬ y 9 1 0 = 0) (hh : ¬ okH h) : CI l yX6_lacksHouse cX6_lacksHouse 4 .int 3 66 G [.ref (b 0), .int (nI 1), .int h] (wM G b y) (fun vR w' => vR = 0 ∧ w' = wM G b y) := by
  refine CI.mk (own := RX6) (by decide) rfl (Nat.le_of_ble_eq_true rfl) ?_
  intro X E ret
  show J X G 4 0 0 (wM G b y) [(0, .ref (b 0)), (1, .int (nI 1)), (2, .int h)] 0 []
  refine J_aload_n E dX6_lacksHouse_0 rfl 0 rfl ?_
  refine J_iload_n E dX6_lacksHouse_1 rfl 1 rfl ?_
  refine J_cVi0 E (As := [.int (nI 1)]) (c_X6_lacks_1_1 l G b y hb ) cl_X6_197 yo_X6_lacks dX6_lacksHouse_2 rfl rfl rfl (Nat.le_of_ble_eq_true rfl) (Nat.le_of_ble_eq_true rfl) rfl (Nat.le_of_ble_eq_true rfl) ⟨Nat.zero_le _, Nat.zero_le _⟩ ?_
  refine J_istore_n E (lv' := [(3, .int (-1)), (0, .ref (b 0)), (1, .int (nI 1)), (2, .int h)]) dX6_lacksHouse_5 rfl (by decide) rfl ?_
  refine J_iload_n E dX6_lacksHouse_6 rfl 0 rfl ?_
  refine J_if_lt E (tgt := 12) dX6_lacksHouse_7 (by decide) (fun c_7 => ?_) (fun c_7 => ?_)
  · skip
    refine J_iload_n E dX6_lacksHouse_12 rfl 3 rfl ?_
    refine J_cSiN E (As := [.int h]) (c_X6_isHouse l G h ) cl_X6_87 yo_X6_isHouse dX6_lacksHouse_13 rfl (Nat.le_of_ble_eq_true rfl) (Nat.le_of_ble_eq_true rfl) rfl (Nat.le_of_ble_eq_true rfl) ⟨Nat.zero_le _, Nat.zero_le _⟩ ?_
    refine J_if_eq E (tgt := 23) dX6_lacksHouse_16 (by decide) (fun c_16 => ?_) (fun c_16 => ?_)
    · skip
      have c_16 := bI_0 c_16
      refine J_iconst E dX6_lacksHouse_23 ic_0 ?_
      exact ret _ _ _ _ ⟨rfl, (congrArg (wM G b) (rfl))⟩ rfl dX6_lacksHouse_24
    · skip
      have c_16 := bI_1 c_16
      exact absurd c_16 hh
  · skip
    exact absurd c_7 (by decide)

set_option maxHeartbeats 4000000 in
set_option maxRecDepth 20000 in
theorem c_X6_lacksHouse_1_1 (l : Launch) (G : GB) (b : Nat → Nat) (y : Q3) (h : Int32) (hb : ¬ y 9 1 0 = 0) (hh : okH h) : CI l yX6_lacksHouse cX6_lacksHouse 4 .int 3 66 G [.ref (b 0), .int (nI 1), .int h] (wM G b y) (fun vR w' => vR = (-1) ∧ w' = wM G b y) := by
  refine CI.mk (own := RX6) (by decide) rfl (Nat.le_of_ble_eq_true rfl) ?_
  intro X E ret
  show J X G 4 0 0 (wM G b y) [(0, .ref (b 0)), (1, .int (nI 1)), (2, .int h)] 0 []
  refine J_aload_n E dX6_lacksHouse_0 rfl 0 rfl ?_
  refine J_iload_n E dX6_lacksHouse_1 rfl 1 rfl ?_
  refine J_cVi0 E (As := [.int (nI 1)]) (c_X6_lacks_1_1 l G b y hb ) cl_X6_197 yo_X6_lacks dX6_lacksHouse_2 rfl rfl rfl (Nat.le_of_ble_eq_true rfl) (Nat.le_of_ble_eq_true rfl) rfl (Nat.le_of_ble_eq_true rfl) ⟨Nat.zero_le _, Nat.zero_le _⟩ ?_
  refine J_istore_n E (lv' := [(3, .int (-1)), (0, .ref (b 0)), (1, .int (nI 1)), (2, .int h)]) dX6_lacksHouse_5 rfl (by decide) rfl ?_
  refine J_iload_n E dX6_lacksHouse_6 rfl 0 rfl ?_
  refine J_if_lt E (tgt := 12) dX6_lacksHouse_7 (by decide) (fun c_7 => ?_) (fun c_7 => ?_)
  · skip
    refine J_iload_n E dX6_lacksHouse_12 rfl 3 rfl ?_
    refine J_cSiN E (As := [.int h]) (c_X6_isHouse l G h ) cl_X6_87 yo_X6_isHouse dX6_lacksHouse_13 rfl (Nat.le_of_ble_eq_true rfl) (Nat.le_of_ble_eq_true rfl) rfl (Nat.le_of_ble_eq_true rfl) ⟨Nat.zero_le _, Nat.zero_le _⟩ ?_
    refine J_if_eq E (tgt := 23) dX6_lacksHouse_16 (by decide) (fun c_16 => ?_) (fun c_16 => ?_)
    · skip
      have c_16 := bI_0 c_16
      exact absurd hh c_16
    · skip
      have c_16 := bI_1 c_16
      refine J_iconst E dX6_lacksHouse_19 ic_m1 ?_
      refine J_goto E (tgt := 24) dX6_lacksHouse_20 (by decide) ?_
      exact ret _ _ _ _ ⟨rfl, (congrArg (wM G b) (rfl))⟩ rfl dX6_lacksHouse_24
  · skip
    exact absurd c_7 (by decide)

set_option maxHeartbeats 4000000 in
set_option maxRecDepth 20000 in
theorem c_X6_lacksHouse_2_0 (l : Launch) (G : GB) (b : Nat → Nat) (y : Q3) (h : Int32) (hb : y 10 1 0 = 0) : CI l yX6_lacksHouse cX6_lacksHouse 4 .int 3 66 G [.ref (b 0), .int (nI 2), .int h] (wM G b y) (fun vR w' => vR = 5 ∧ w' = wM G b y) := by
  refine CI.mk (own := RX6) (by decide) rfl (Nat.le_of_ble_eq_true rfl) ?_
  intro X E ret
  show J X G 4 0 0 (wM G b y) [(0, .ref (b 0)), (1, .int (nI 2)), (2, .int h)] 0 []
  refine J_aload_n E dX6_lacksHouse_0 rfl 0 rfl ?_
  refine J_iload_n E dX6_lacksHouse_1 rfl 1 rfl ?_
  refine J_cVi0 E (As := [.int (nI 2)]) (c_X6_lacks_2_0 l G b y hb ) cl_X6_197 yo_X6_lacks dX6_lacksHouse_2 rfl rfl rfl (Nat.le_of_ble_eq_true rfl) (Nat.le_of_ble_eq_true rfl) rfl (Nat.le_of_ble_eq_true rfl) ⟨Nat.zero_le _, Nat.zero_le _⟩ ?_
  refine J_istore_n E (lv' := [(3, .int 5), (0, .ref (b 0)), (1, .int (nI 2)), (2, .int h)]) dX6_lacksHouse_5 rfl (by decide) rfl ?_
  refine J_iload_n E dX6_lacksHouse_6 rfl 0 rfl ?_
  refine J_if_lt E (tgt := 12) dX6_lacksHouse_7 (by decide) (fun c_7 => ?_) (fun c_7 => ?_)
  · skip
    have n_7 : 5 < 0 := cmp_lt (a := 5) (b := 0) (by omega) (by omega) c_7
    exact absurd n_7 (by decide)
  · skip
    have n_7 : ¬ 5 < 0 := cmp_nlt (a := 5) (b := 0) (by omega) (by omega) c_7
    refine J_iload_n E dX6_lacksHouse_10 rfl 0 rfl ?_
    exact ret _ _ _ _ ⟨rfl, (congrArg (wM G b) (rfl))⟩ rfl dX6_lacksHouse_11

set_option maxHeartbeats 4000000 in
set_option maxRecDepth 20000 in
theorem c_X6_lacksHouse_2_2 (l : Launch) (G : GB) (b : Nat → Nat) (y : Q3) (h : Int32) (hb : ¬ y 10 1 0 = 0) (hh : ¬ okH h) : CI l yX6_lacksHouse cX6_lacksHouse 4 .int 3 66 G [.ref (b 0), .int (nI 2), .int h] (wM G b y) (fun vR w' => vR = 0 ∧ w' = wM G b y) := by
  refine CI.mk (own := RX6) (by decide) rfl (Nat.le_of_ble_eq_true rfl) ?_
  intro X E ret
  show J X G 4 0 0 (wM G b y) [(0, .ref (b 0)), (1, .int (nI 2)), (2, .int h)] 0 []
  refine J_aload_n E dX6_lacksHouse_0 rfl 0 rfl ?_
  refine J_iload_n E dX6_lacksHouse_1 rfl 1 rfl ?_
  refine J_cVi0 E (As := [.int (nI 2)]) (c_X6_lacks_2_1 l G b y hb ) cl_X6_197 yo_X6_lacks dX6_lacksHouse_2 rfl rfl rfl (Nat.le_of_ble_eq_true rfl) (Nat.le_of_ble_eq_true rfl) rfl (Nat.le_of_ble_eq_true rfl) ⟨Nat.zero_le _, Nat.zero_le _⟩ ?_
  refine J_istore_n E (lv' := [(3, .int (-1)), (0, .ref (b 0)), (1, .int (nI 2)), (2, .int h)]) dX6_lacksHouse_5 rfl (by decide) rfl ?_
  refine J_iload_n E dX6_lacksHouse_6 rfl 0 rfl ?_
  refine J_if_lt E (tgt := 12) dX6_lacksHouse_7 (by decide) (fun c_7 => ?_) (fun c_7 => ?_)
  · skip
    refine J_iload_n E dX6_lacksHouse_12 rfl 3 rfl ?_
    refine J_cSiN E (As := [.int h]) (c_X6_isHouse l G h ) cl_X6_87 yo_X6_isHouse dX6_lacksHouse_13 rfl (Nat.le_of_ble_eq_true rfl) (Nat.le_of_ble_eq_true rfl) rfl (Nat.le_of_ble_eq_true rfl) ⟨Nat.zero_le _, Nat.zero_le _⟩ ?_
    refine J_if_eq E (tgt := 23) dX6_lacksHouse_16 (by decide) (fun c_16 => ?_) (fun c_16 => ?_)
    · skip
      have c_16 := bI_0 c_16
      refine J_iconst E dX6_lacksHouse_23 ic_0 ?_
      exact ret _ _ _ _ ⟨rfl, (congrArg (wM G b) (rfl))⟩ rfl dX6_lacksHouse_24
    · skip
      have c_16 := bI_1 c_16
      exact absurd c_16 hh
  · skip
    exact absurd c_7 (by decide)

set_option maxHeartbeats 4000000 in
set_option maxRecDepth 20000 in
theorem c_X6_lacksHouse_2_1 (l : Launch) (G : GB) (b : Nat → Nat) (y : Q3) (h : Int32) (hb : ¬ y 10 1 0 = 0) (hh : okH h) : CI l yX6_lacksHouse cX6_lacksHouse 4 .int 3 66 G [.ref (b 0), .int (nI 2), .int h] (wM G b y) (fun vR w' => vR = (-1) ∧ w' = wM G b y) := by
  refine CI.mk (own := RX6) (by decide) rfl (Nat.le_of_ble_eq_true rfl) ?_
  intro X E ret
  show J X G 4 0 0 (wM G b y) [(0, .ref (b 0)), (1, .int (nI 2)), (2, .int h)] 0 []
  refine J_aload_n E dX6_lacksHouse_0 rfl 0 rfl ?_
  refine J_iload_n E dX6_lacksHouse_1 rfl 1 rfl ?_
  refine J_cVi0 E (As := [.int (nI 2)]) (c_X6_lacks_2_1 l G b y hb ) cl_X6_197 yo_X6_lacks dX6_lacksHouse_2 rfl rfl rfl (Nat.le_of_ble_eq_true rfl) (Nat.le_of_ble_eq_true rfl) rfl (Nat.le_of_ble_eq_true rfl) ⟨Nat.zero_le _, Nat.zero_le _⟩ ?_
  refine J_istore_n E (lv' := [(3, .int (-1)), (0, .ref (b 0)), (1, .int (nI 2)), (2, .int h)]) dX6_lacksHouse_5 rfl (by decide) rfl ?_
  refine J_iload_n E dX6_lacksHouse_6 rfl 0 rfl ?_
  refine J_if_lt E (tgt := 12) dX6_lacksHouse_7 (by decide) (fun c_7 => ?_) (fun c_7 => ?_)
  · skip
    refine J_iload_n E dX6_lacksHouse_12 rfl 3 rfl ?_
    refine J_cSiN E (As := [.int h]) (c_X6_isHouse l G h ) cl_X6_87 yo_X6_isHouse dX6_lacksHouse_13 rfl (Nat.le_of_ble_eq_true rfl) (Nat.le_of_ble_eq_true rfl) rfl (Nat.le_of_ble_eq_true rfl) ⟨Nat.zero_le _, Nat.zero_le _⟩ ?_
    refine J_if_eq E (tgt := 23) dX6_lacksHouse_16 (by decide) (fun c_16 => ?_) (fun c_16 => ?_)
    · skip
      have c_16 := bI_0 c_16
      exact absurd hh c_16
    · skip
      have c_16 := bI_1 c_16
      refine J_iconst E dX6_lacksHouse_19 ic_m1 ?_
      refine J_goto E (tgt := 24) dX6_lacksHouse_20 (by decide) ?_
      exact ret _ _ _ _ ⟨rfl, (congrArg (wM G b) (rfl))⟩ rfl dX6_lacksHouse_24
  · skip
    exact absurd c_7 (by decide)

set_option maxHeartbeats 4000000 in
set_option maxRecDepth 20000 in
theorem c_X6_lacksHouse_3_0 (l : Launch) (G : GB) (b : Nat → Nat) (y : Q3) (h : Int32) (hb : y 11 1 0 = 0) : CI l yX6_lacksHouse cX6_lacksHouse 4 .int 3 66 G [.ref (b 0), .int (nI 3), .int h] (wM G b y) (fun vR w' => vR = 5 ∧ w' = wM G b y) := by
  refine CI.mk (own := RX6) (by decide) rfl (Nat.le_of_ble_eq_true rfl) ?_
  intro X E ret
  show J X G 4 0 0 (wM G b y) [(0, .ref (b 0)), (1, .int (nI 3)), (2, .int h)] 0 []
  refine J_aload_n E dX6_lacksHouse_0 rfl 0 rfl ?_
  refine J_iload_n E dX6_lacksHouse_1 rfl 1 rfl ?_
  refine J_cVi0 E (As := [.int (nI 3)]) (c_X6_lacks_3_0 l G b y hb ) cl_X6_197 yo_X6_lacks dX6_lacksHouse_2 rfl rfl rfl (Nat.le_of_ble_eq_true rfl) (Nat.le_of_ble_eq_true rfl) rfl (Nat.le_of_ble_eq_true rfl) ⟨Nat.zero_le _, Nat.zero_le _⟩ ?_
  refine J_istore_n E (lv' := [(3, .int 5), (0, .ref (b 0)), (1, .int (nI 3)), (2, .int h)]) dX6_lacksHouse_5 rfl (by decide) rfl ?_
  refine J_iload_n E dX6_lacksHouse_6 rfl 0 rfl ?_
  refine J_if_lt E (tgt := 12) dX6_lacksHouse_7 (by decide) (fun c_7 => ?_) (fun c_7 => ?_)
  · skip
    have n_7 : 5 < 0 := cmp_lt (a := 5) (b := 0) (by omega) (by omega) c_7
    exact absurd n_7 (by decide)
  · skip
    have n_7 : ¬ 5 < 0 := cmp_nlt (a := 5) (b := 0) (by omega) (by omega) c_7
    refine J_iload_n E dX6_lacksHouse_10 rfl 0 rfl ?_
    exact ret _ _ _ _ ⟨rfl, (congrArg (wM G b) (rfl))⟩ rfl dX6_lacksHouse_11

set_option maxHeartbeats 4000000 in
set_option maxRecDepth 20000 in
theorem c_X6_lacksHouse_3_2 (l : Launch) (G : GB) (b : Nat → Nat) (y : Q3) (h : Int32) (hb : ¬ y 11 1 0 = 0) (hh : ¬ okH h) : CI l yX6_lacksHouse cX6_lacksHouse 4 .int 3 66 G [.ref (b 0), .int (nI 3), .int h] (wM G b y) (fun vR w' => vR = 0 ∧ w' = wM G b y) := by
  refine CI.mk (own := RX6) (by decide) rfl (Nat.le_of_ble_eq_true rfl) ?_
  intro X E ret
  show J X G 4 0 0 (wM G b y) [(0, .ref (b 0)), (1, .int (nI 3)), (2, .int h)] 0 []
  refine J_aload_n E dX6_lacksHouse_0 rfl 0 rfl ?_
  refine J_iload_n E dX6_lacksHouse_1 rfl 1 rfl ?_
  refine J_cVi0 E (As := [.int (nI 3)]) (c_X6_lacks_3_1 l G b y hb ) cl_X6_197 yo_X6_lacks dX6_lacksHouse_2 rfl rfl rfl (Nat.le_of_ble_eq_true rfl) (Nat.le_of_ble_eq_true rfl) rfl (Nat.le_of_ble_eq_true rfl) ⟨Nat.zero_le _, Nat.zero_le _⟩ ?_
  refine J_istore_n E (lv' := [(3, .int (-1)), (0, .ref (b 0)), (1, .int (nI 3)), (2, .int h)]) dX6_lacksHouse_5 rfl (by decide) rfl ?_
  refine J_iload_n E dX6_lacksHouse_6 rfl 0 rfl ?_
  refine J_if_lt E (tgt := 12) dX6_lacksHouse_7 (by decide) (fun c_7 => ?_) (fun c_7 => ?_)
  · skip
    refine J_iload_n E dX6_lacksHouse_12 rfl 3 rfl ?_
    refine J_cSiN E (As := [.int h]) (c_X6_isHouse l G h ) cl_X6_87 yo_X6_isHouse dX6_lacksHouse_13 rfl (Nat.le_of_ble_eq_true rfl) (Nat.le_of_ble_eq_true rfl) rfl (Nat.le_of_ble_eq_true rfl) ⟨Nat.zero_le _, Nat.zero_le _⟩ ?_
    refine J_if_eq E (tgt := 23) dX6_lacksHouse_16 (by decide) (fun c_16 => ?_) (fun c_16 => ?_)
    · skip
      have c_16 := bI_0 c_16
      refine J_iconst E dX6_lacksHouse_23 ic_0 ?_
      exact ret _ _ _ _ ⟨rfl, (congrArg (wM G b) (rfl))⟩ rfl dX6_lacksHouse_24
    · skip
      have c_16 := bI_1 c_16
      exact absurd c_16 hh
  · skip
    exact absurd c_7 (by decide)

set_option maxHeartbeats 4000000 in
set_option maxRecDepth 20000 in
theorem c_X6_lacksHouse_3_1 (l : Launch) (G : GB) (b : Nat → Nat) (y : Q3) (h : Int32) (hb : ¬ y 11 1 0 = 0) (hh : okH h) : CI l yX6_lacksHouse cX6_lacksHouse 4 .int 3 66 G [.ref (b 0), .int (nI 3), .int h] (wM G b y) (fun vR w' => vR = (-1) ∧ w' = wM G b y) := by
  refine CI.mk (own := RX6) (by decide) rfl (Nat.le_of_ble_eq_true rfl) ?_
  intro X E ret
  show J X G 4 0 0 (wM G b y) [(0, .ref (b 0)), (1, .int (nI 3)), (2, .int h)] 0 []
  refine J_aload_n E dX6_lacksHouse_0 rfl 0 rfl ?_
  refine J_iload_n E dX6_lacksHouse_1 rfl 1 rfl ?_
  refine J_cVi0 E (As := [.int (nI 3)]) (c_X6_lacks_3_1 l G b y hb ) cl_X6_197 yo_X6_lacks dX6_lacksHouse_2 rfl rfl rfl (Nat.le_of_ble_eq_true rfl) (Nat.le_of_ble_eq_true rfl) rfl (Nat.le_of_ble_eq_true rfl) ⟨Nat.zero_le _, Nat.zero_le _⟩ ?_
  refine J_istore_n E (lv' := [(3, .int (-1)), (0, .ref (b 0)), (1, .int (nI 3)), (2, .int h)]) dX6_lacksHouse_5 rfl (by decide) rfl ?_
  refine J_iload_n E dX6_lacksHouse_6 rfl 0 rfl ?_
  refine J_if_lt E (tgt := 12) dX6_lacksHouse_7 (by decide) (fun c_7 => ?_) (fun c_7 => ?_)
  · skip
    refine J_iload_n E dX6_lacksHouse_12 rfl 3 rfl ?_
    refine J_cSiN E (As := [.int h]) (c_X6_isHouse l G h ) cl_X6_87 yo_X6_isHouse dX6_lacksHouse_13 rfl (Nat.le_of_ble_eq_true rfl) (Nat.le_of_ble_eq_true rfl) rfl (Nat.le_of_ble_eq_true rfl) ⟨Nat.zero_le _, Nat.zero_le _⟩ ?_
    refine J_if_eq E (tgt := 23) dX6_lacksHouse_16 (by decide) (fun c_16 => ?_) (fun c_16 => ?_)
    · skip
      have c_16 := bI_0 c_16
      exact absurd hh c_16
    · skip
      have c_16 := bI_1 c_16
      refine J_iconst E dX6_lacksHouse_19 ic_m1 ?_
      refine J_goto E (tgt := 24) dX6_lacksHouse_20 (by decide) ?_
      exact ret _ _ _ _ ⟨rfl, (congrArg (wM G b) (rfl))⟩ rfl dX6_lacksHouse_24
  · skip
    exact absurd c_7 (by decide)
