def soF (f : Nat → Int32) (j : Nat) (q : Q2) : Nat → Bool
  | 0 => true
  | n + 1 => soF f j q n && decide (f n = -1 ∨ f n = hoursR q n 1 j)
theorem so_z {f : Nat → Int32} {j n : Nat} {q : Q2} {t : Int32} (h : t = bI (soF f j q n = true)) (h0 : t = 0) : 0 = bI (soF f j q (n + 1) = true) := by
  refine (bI_f (fun z => ?_)).symm
  rw [soF, Bool.and_eq_true] at z
  rw [h, bI_t z.1] at h0
  exact absurd h0 (by decide)
theorem so_n {f : Nat → Int32} {j n : Nat} {q : Q2} (h : ¬ (f n = -1 ∨ f n = hoursR q n 1 j)) : 0 = bI (soF f j q (n + 1) = true) := by
  refine (bI_f (fun z => ?_)).symm
  rw [soF, Bool.and_eq_true] at z
  exact h (of_decide_eq_true z.2)
theorem so_y {f : Nat → Int32} {j n : Nat} {q : Q2} {t : Int32} (h : t = bI (soF f j q n = true)) (h1 : ¬ t = 0) (hp : f n = -1 ∨ f n = hoursR q n 1 j) : 1 = bI (soF f j q (n + 1) = true) := by
  refine (bI_t ?_).symm
  rw [soF, Bool.and_eq_true]
  exact ⟨bI_1 (h ▸ h1), decide_eq_true hp⟩
def showR (q : Q2) : Nat → Q2
  | 0 => q
  | n + 1 => hourR0 (rainD (showR q n))
def showRN (q : Q2) : Nat → Int32
  | 0 => 0
  | n + 1 => if dryR (rainD (showR q n)) = 0 then showRN q n else showRN q n + 1
theorem okQ_rain {q : Q2} (h : okQ q) : okQ (rainD q) := okQ_c h (by simp [rainD, up2]) (rainD_4 q)
theorem okQ_show {q : Q2} (h : okQ q) : ∀ n, okQ (showR q n)
  | 0 => h
  | n + 1 => okQ_h (okQ_rain (okQ_show h n))
def okS (q : Q2) : Prop := ∀ j, j < 10 → q 6 j = -1 ∨ ∃ w : Nat, w < 11 ∧ q 6 j = nI w
theorem le_pred {i : Int32} {n : Nat} (hn : n ≤ 40) : (0 ≤ i ∧ i ≤ nI n - 1) ↔ (0 ≤ i ∧ i < nI n) := by
  constructor
  · rintro ⟨h1, h2⟩
    refine ⟨h1, ?_⟩
    cases n with
    | zero => exact absurd (Int32.le_trans h1 h2) (by decide)
    | succ m =>
      rw [nI_pred] at h2
      exact Int32.lt_of_le_of_lt h2 (nI_lt (by omega) (by omega))
  · rintro ⟨h1, h2⟩
    refine ⟨h1, ?_⟩
    obtain ⟨k, hk, e⟩ := nI_of (x := i) (Int32.not_lt.mpr h1)
    rw [e] at h2 ⊢
    have := cmp_lt (by omega) (by omega) h2
    rw [show n = (n - 1) + 1 by omega, nI_pred]
    exact nI_le (by omega) (by omega)
theorem upR_upR {q : Q2} {r : Nat} {f g : Nat → Int32} : upR (upR q r f) r g = upR q r g := by
  funext r'
  by_cases h : r' = r
  · simp [upR, h]
  · simp [upR, h]
def countM (x : Q3) (k : Nat) : Int32 := if k = 0 then x 0 7 0 else if k = 1 then cntF (fun j => decide (¬ x 0 0 j = 0)) 11 else if k = 2 then onesF (setF (fun j => decide (0 < x 0 5 j)) 11) 11 else if k = 3 then sumF (x 0 1) 11 else if k = 4 then x 0 7 3 else if k = 5 then x 7 1 0 else if k = 6 then x 0 7 1 else cntF (fun j => decide (¬ x 0 6 j = -1)) 10
theorem lN_mul (a b : Nat) : lN a * lN b = lN (a * b) := (Int64.ofNat_mul a b).symm
theorem pow_b {ab n : Nat} (h : ab ≤ 100) (hn : n ≤ 9) : ab ^ n ≤ 10 ^ 18 := Nat.le_trans (Nat.pow_le_pow_left h n) (Nat.le_trans (Nat.pow_le_pow_right (by decide) hn) (by decide))
section MRW
variable {X : JX} {l : Launch} {G : GB} {nL kc ks pc : Nat} {lv : List (Nat × Value)} {st : List Value} {b : Nat → Nat} {y : Q3}

theorem J_mr8 {r : Q2} {f : Nat → Int32} (h0 : ∀ j, j < 40 → r 0 j = f j) (K : J X G nL kc ks (wM G b (upG y 8 (upR r 0 f))) lv pc st) : J X G nL kc ks (wM G b (upG y 8 r)) lv pc st := by
  refine J_arr (g := fun k => pick4 (k / 40) (f (k % 40)) (y 9 0 (k % 40)) (y 10 0 (k % 40)) (y 11 0 (k % 40))) 10 rfl (fun k hk => ?_) (J_w rfl K)
  show pick4 (k / 40) (r 0 (k % 40)) (y 9 0 (k % 40)) (y 10 0 (k % 40)) (y 11 0 (k % 40)) = pick4 (k / 40) (f (k % 40)) (y 9 0 (k % 40)) (y 10 0 (k % 40)) (y 11 0 (k % 40))
  rw [h0 _ (Nat.mod_lt _ (by decide))]
theorem J_mr9 {r : Q2} {f : Nat → Int32} (h0 : ∀ j, j < 40 → r 0 j = f j) (K : J X G nL kc ks (wM G b (upG y 9 (upR r 0 f))) lv pc st) : J X G nL kc ks (wM G b (upG y 9 r)) lv pc st := by
  refine J_arr (g := fun k => pick4 (k / 40) (y 8 0 (k % 40)) (f (k % 40)) (y 10 0 (k % 40)) (y 11 0 (k % 40))) 10 rfl (fun k hk => ?_) (J_w rfl K)
  show pick4 (k / 40) (y 8 0 (k % 40)) (r 0 (k % 40)) (y 10 0 (k % 40)) (y 11 0 (k % 40)) = pick4 (k / 40) (y 8 0 (k % 40)) (f (k % 40)) (y 10 0 (k % 40)) (y 11 0 (k % 40))
  rw [h0 _ (Nat.mod_lt _ (by decide))]
theorem J_mr10 {r : Q2} {f : Nat → Int32} (h0 : ∀ j, j < 40 → r 0 j = f j) (K : J X G nL kc ks (wM G b (upG y 10 (upR r 0 f))) lv pc st) : J X G nL kc ks (wM G b (upG y 10 r)) lv pc st := by
  refine J_arr (g := fun k => pick4 (k / 40) (y 8 0 (k % 40)) (y 9 0 (k % 40)) (f (k % 40)) (y 11 0 (k % 40))) 10 rfl (fun k hk => ?_) (J_w rfl K)
  show pick4 (k / 40) (y 8 0 (k % 40)) (y 9 0 (k % 40)) (r 0 (k % 40)) (y 11 0 (k % 40)) = pick4 (k / 40) (y 8 0 (k % 40)) (y 9 0 (k % 40)) (f (k % 40)) (y 11 0 (k % 40))
  rw [h0 _ (Nat.mod_lt _ (by decide))]
theorem J_mr11 {r : Q2} {f : Nat → Int32} (h0 : ∀ j, j < 40 → r 0 j = f j) (K : J X G nL kc ks (wM G b (upG y 11 (upR r 0 f))) lv pc st) : J X G nL kc ks (wM G b (upG y 11 r)) lv pc st := by
  refine J_arr (g := fun k => pick4 (k / 40) (y 8 0 (k % 40)) (y 9 0 (k % 40)) (y 10 0 (k % 40)) (f (k % 40))) 10 rfl (fun k hk => ?_) (J_w rfl K)
  show pick4 (k / 40) (y 8 0 (k % 40)) (y 9 0 (k % 40)) (y 10 0 (k % 40)) (r 0 (k % 40)) = pick4 (k / 40) (y 8 0 (k % 40)) (y 9 0 (k % 40)) (y 10 0 (k % 40)) (f (k % 40))
  rw [h0 _ (Nat.mod_lt _ (by decide))]
end MRW
set_option maxHeartbeats 4000000 in
set_option maxRecDepth 20000 in
theorem c_X6_lacks_out (l : Launch) (G : GB) (b : Nat → Nat) (y : Q3) (s : Int32) (hs : ¬ (0 ≤ s ∧ s ≤ 3)) : CI l yX6_lacks cX6_lacks 2 .int 2 45 G [.ref (b 0), .int s] (wM G b y) (fun vR w' => vR = 0 ∧ w' = wM G b y) := by
  refine CI.mk (own := RX6) (by decide) rfl (Nat.le_of_ble_eq_true rfl) ?_
  intro X E ret
  show J X G 2 0 0 (wM G b y) [(0, .ref (b 0)), (1, .int s)] 0 []
  refine J_iload_n E dX6_lacks_0 rfl 1 rfl ?_
  refine J_cSiN E (As := [.int s]) (c_X6_isSheet l G s ) cl_X6_303 yo_X6_isSheet dX6_lacks_1 rfl (Nat.le_of_ble_eq_true rfl) (Nat.le_of_ble_eq_true rfl) rfl (Nat.le_of_ble_eq_true rfl) ⟨Nat.zero_le _, Nat.zero_le _⟩ ?_
  refine J_if_ne E (tgt := 11) dX6_lacks_4 (by decide) (fun c_4 => ?_) (fun c_4 => ?_)
  · skip
    have c_4 := bI_1 c_4
    exact absurd c_4 hs
  · skip
    have c_4 := bI_0 c_4
    refine J_iconst E dX6_lacks_7 ic_0 ?_
    refine J_goto E (tgt := 25) dX6_lacks_8 (by decide) ?_
    exact ret _ _ _ _ ⟨rfl, (congrArg (wM G b) (rfl))⟩ rfl dX6_lacks_25

set_option maxHeartbeats 4000000 in
set_option maxRecDepth 20000 in
theorem c_X6_lacks_0_0 (l : Launch) (G : GB) (b : Nat → Nat) (y : Q3) (hb : y 8 1 0 = 0) : CI l yX6_lacks cX6_lacks 2 .int 2 45 G [.ref (b 0), .int (nI 0)] (wM G b y) (fun vR w' => vR = 5 ∧ w' = wM G b y) := by
  refine CI.mk (own := RX6) (by decide) rfl (Nat.le_of_ble_eq_true rfl) ?_
  intro X E ret
  show J X G 2 0 0 (wM G b y) [(0, .ref (b 0)), (1, .int (nI 0))] 0 []
  refine J_iload_n E dX6_lacks_0 rfl 1 rfl ?_
  refine J_cSiN E (As := [.int (nI 0)]) (c_X6_isSheet l G (nI 0) ) cl_X6_303 yo_X6_isSheet dX6_lacks_1 rfl (Nat.le_of_ble_eq_true rfl) (Nat.le_of_ble_eq_true rfl) rfl (Nat.le_of_ble_eq_true rfl) ⟨Nat.zero_le _, Nat.zero_le _⟩ ?_
  refine J_if_ne E (tgt := 11) dX6_lacks_4 (by decide) (fun c_4 => ?_) (fun c_4 => ?_)
  · skip
    have c_4 := bI_1 c_4
    refine J_aload_n E dX6_lacks_11 rfl 0 rfl ?_
    refine gM0_X6_31 E dX6_lacks_12 ?_
    refine J_iload_n E dX6_lacks_15 rfl 1 rfl ?_
    refine lMb_0 E  dX6_lacks_16 ?_
    refine J_if_ne E (tgt := 24) dX6_lacks_17 (by decide) (fun c_17 => ?_) (fun c_17 => ?_)
    · skip
      exact absurd hb c_17
    · skip
      refine J_iconst E dX6_lacks_20 ic_5 ?_
      refine J_goto E (tgt := 25) dX6_lacks_21 (by decide) ?_
      exact ret _ _ _ _ ⟨rfl, (congrArg (wM G b) (rfl))⟩ rfl dX6_lacks_25
  · skip
    have c_4 := bI_0 c_4
    exact absurd (in3 (by decide)) c_4

set_option maxHeartbeats 4000000 in
set_option maxRecDepth 20000 in
theorem c_X6_lacks_0_1 (l : Launch) (G : GB) (b : Nat → Nat) (y : Q3) (hb : ¬ y 8 1 0 = 0) : CI l yX6_lacks cX6_lacks 2 .int 2 45 G [.ref (b 0), .int (nI 0)] (wM G b y) (fun vR w' => vR = (-1) ∧ w' = wM G b y) := by
  refine CI.mk (own := RX6) (by decide) rfl (Nat.le_of_ble_eq_true rfl) ?_
  intro X E ret
  show J X G 2 0 0 (wM G b y) [(0, .ref (b 0)), (1, .int (nI 0))] 0 []
  refine J_iload_n E dX6_lacks_0 rfl 1 rfl ?_
  refine J_cSiN E (As := [.int (nI 0)]) (c_X6_isSheet l G (nI 0) ) cl_X6_303 yo_X6_isSheet dX6_lacks_1 rfl (Nat.le_of_ble_eq_true rfl) (Nat.le_of_ble_eq_true rfl) rfl (Nat.le_of_ble_eq_true rfl) ⟨Nat.zero_le _, Nat.zero_le _⟩ ?_
  refine J_if_ne E (tgt := 11) dX6_lacks_4 (by decide) (fun c_4 => ?_) (fun c_4 => ?_)
  · skip
    have c_4 := bI_1 c_4
    refine J_aload_n E dX6_lacks_11 rfl 0 rfl ?_
    refine gM0_X6_31 E dX6_lacks_12 ?_
    refine J_iload_n E dX6_lacks_15 rfl 1 rfl ?_
    refine lMb_0 E  dX6_lacks_16 ?_
    refine J_if_ne E (tgt := 24) dX6_lacks_17 (by decide) (fun c_17 => ?_) (fun c_17 => ?_)
    · skip
      refine J_iconst E dX6_lacks_24 ic_m1 ?_
      exact ret _ _ _ _ ⟨rfl, (congrArg (wM G b) (rfl))⟩ rfl dX6_lacks_25
    · skip
      exact absurd c_17 hb
  · skip
    have c_4 := bI_0 c_4
    exact absurd (in3 (by decide)) c_4

set_option maxHeartbeats 4000000 in
set_option maxRecDepth 20000 in
theorem c_X6_lacks_1_0 (l : Launch) (G : GB) (b : Nat → Nat) (y : Q3) (hb : y 9 1 0 = 0) : CI l yX6_lacks cX6_lacks 2 .int 2 45 G [.ref (b 0), .int (nI 1)] (wM G b y) (fun vR w' => vR = 5 ∧ w' = wM G b y) := by
  refine CI.mk (own := RX6) (by decide) rfl (Nat.le_of_ble_eq_true rfl) ?_
  intro X E ret
  show J X G 2 0 0 (wM G b y) [(0, .ref (b 0)), (1, .int (nI 1))] 0 []
  refine J_iload_n E dX6_lacks_0 rfl 1 rfl ?_
  refine J_cSiN E (As := [.int (nI 1)]) (c_X6_isSheet l G (nI 1) ) cl_X6_303 yo_X6_isSheet dX6_lacks_1 rfl (Nat.le_of_ble_eq_true rfl) (Nat.le_of_ble_eq_true rfl) rfl (Nat.le_of_ble_eq_true rfl) ⟨Nat.zero_le _, Nat.zero_le _⟩ ?_
  refine J_if_ne E (tgt := 11) dX6_lacks_4 (by decide) (fun c_4 => ?_) (fun c_4 => ?_)
  · skip
    have c_4 := bI_1 c_4
    refine J_aload_n E dX6_lacks_11 rfl 0 rfl ?_
    refine gM0_X6_31 E dX6_lacks_12 ?_
    refine J_iload_n E dX6_lacks_15 rfl 1 rfl ?_
    refine lMb_1 E  dX6_lacks_16 ?_
    refine J_if_ne E (tgt := 24) dX6_lacks_17 (by decide) (fun c_17 => ?_) (fun c_17 => ?_)
    · skip
      exact absurd hb c_17
    · skip
      refine J_iconst E dX6_lacks_20 ic_5 ?_
      refine J_goto E (tgt := 25) dX6_lacks_21 (by decide) ?_
      exact ret _ _ _ _ ⟨rfl, (congrArg (wM G b) (rfl))⟩ rfl dX6_lacks_25
  · skip
    have c_4 := bI_0 c_4
    exact absurd (in3 (by decide)) c_4

set_option maxHeartbeats 4000000 in
set_option maxRecDepth 20000 in
theorem c_X6_lacks_1_1 (l : Launch) (G : GB) (b : Nat → Nat) (y : Q3) (hb : ¬ y 9 1 0 = 0) : CI l yX6_lacks cX6_lacks 2 .int 2 45 G [.ref (b 0), .int (nI 1)] (wM G b y) (fun vR w' => vR = (-1) ∧ w' = wM G b y) := by
  refine CI.mk (own := RX6) (by decide) rfl (Nat.le_of_ble_eq_true rfl) ?_
  intro X E ret
  show J X G 2 0 0 (wM G b y) [(0, .ref (b 0)), (1, .int (nI 1))] 0 []
  refine J_iload_n E dX6_lacks_0 rfl 1 rfl ?_
  refine J_cSiN E (As := [.int (nI 1)]) (c_X6_isSheet l G (nI 1) ) cl_X6_303 yo_X6_isSheet dX6_lacks_1 rfl (Nat.le_of_ble_eq_true rfl) (Nat.le_of_ble_eq_true rfl) rfl (Nat.le_of_ble_eq_true rfl) ⟨Nat.zero_le _, Nat.zero_le _⟩ ?_
  refine J_if_ne E (tgt := 11) dX6_lacks_4 (by decide) (fun c_4 => ?_) (fun c_4 => ?_)
  · skip
    have c_4 := bI_1 c_4
    refine J_aload_n E dX6_lacks_11 rfl 0 rfl ?_
    refine gM0_X6_31 E dX6_lacks_12 ?_
    refine J_iload_n E dX6_lacks_15 rfl 1 rfl ?_
    refine lMb_1 E  dX6_lacks_16 ?_
    refine J_if_ne E (tgt := 24) dX6_lacks_17 (by decide) (fun c_17 => ?_) (fun c_17 => ?_)
    · skip
      refine J_iconst E dX6_lacks_24 ic_m1 ?_
      exact ret _ _ _ _ ⟨rfl, (congrArg (wM G b) (rfl))⟩ rfl dX6_lacks_25
    · skip
      exact absurd c_17 hb
  · skip
    have c_4 := bI_0 c_4
    exact absurd (in3 (by decide)) c_4

set_option maxHeartbeats 4000000 in
set_option maxRecDepth 20000 in
theorem c_X6_lacks_2_0 (l : Launch) (G : GB) (b : Nat → Nat) (y : Q3) (hb : y 10 1 0 = 0) : CI l yX6_lacks cX6_lacks 2 .int 2 45 G [.ref (b 0), .int (nI 2)] (wM G b y) (fun vR w' => vR = 5 ∧ w' = wM G b y) := by
  refine CI.mk (own := RX6) (by decide) rfl (Nat.le_of_ble_eq_true rfl) ?_
  intro X E ret
  show J X G 2 0 0 (wM G b y) [(0, .ref (b 0)), (1, .int (nI 2))] 0 []
  refine J_iload_n E dX6_lacks_0 rfl 1 rfl ?_
  refine J_cSiN E (As := [.int (nI 2)]) (c_X6_isSheet l G (nI 2) ) cl_X6_303 yo_X6_isSheet dX6_lacks_1 rfl (Nat.le_of_ble_eq_true rfl) (Nat.le_of_ble_eq_true rfl) rfl (Nat.le_of_ble_eq_true rfl) ⟨Nat.zero_le _, Nat.zero_le _⟩ ?_
  refine J_if_ne E (tgt := 11) dX6_lacks_4 (by decide) (fun c_4 => ?_) (fun c_4 => ?_)
  · skip
    have c_4 := bI_1 c_4
    refine J_aload_n E dX6_lacks_11 rfl 0 rfl ?_
    refine gM0_X6_31 E dX6_lacks_12 ?_
    refine J_iload_n E dX6_lacks_15 rfl 1 rfl ?_
    refine lMb_2 E  dX6_lacks_16 ?_
    refine J_if_ne E (tgt := 24) dX6_lacks_17 (by decide) (fun c_17 => ?_) (fun c_17 => ?_)
    · skip
      exact absurd hb c_17
    · skip
      refine J_iconst E dX6_lacks_20 ic_5 ?_
      refine J_goto E (tgt := 25) dX6_lacks_21 (by decide) ?_
      exact ret _ _ _ _ ⟨rfl, (congrArg (wM G b) (rfl))⟩ rfl dX6_lacks_25
  · skip
    have c_4 := bI_0 c_4
    exact absurd (in3 (by decide)) c_4

set_option maxHeartbeats 4000000 in
set_option maxRecDepth 20000 in
theorem c_X6_lacks_2_1 (l : Launch) (G : GB) (b : Nat → Nat) (y : Q3) (hb : ¬ y 10 1 0 = 0) : CI l yX6_lacks cX6_lacks 2 .int 2 45 G [.ref (b 0), .int (nI 2)] (wM G b y) (fun vR w' => vR = (-1) ∧ w' = wM G b y) := by
  refine CI.mk (own := RX6) (by decide) rfl (Nat.le_of_ble_eq_true rfl) ?_
  intro X E ret
  show J X G 2 0 0 (wM G b y) [(0, .ref (b 0)), (1, .int (nI 2))] 0 []
  refine J_iload_n E dX6_lacks_0 rfl 1 rfl ?_
  refine J_cSiN E (As := [.int (nI 2)]) (c_X6_isSheet l G (nI 2) ) cl_X6_303 yo_X6_isSheet dX6_lacks_1 rfl (Nat.le_of_ble_eq_true rfl) (Nat.le_of_ble_eq_true rfl) rfl (Nat.le_of_ble_eq_true rfl) ⟨Nat.zero_le _, Nat.zero_le _⟩ ?_
  refine J_if_ne E (tgt := 11) dX6_lacks_4 (by decide) (fun c_4 => ?_) (fun c_4 => ?_)
  · skip
    have c_4 := bI_1 c_4
    refine J_aload_n E dX6_lacks_11 rfl 0 rfl ?_
    refine gM0_X6_31 E dX6_lacks_12 ?_
    refine J_iload_n E dX6_lacks_15 rfl 1 rfl ?_
    refine lMb_2 E  dX6_lacks_16 ?_
    refine J_if_ne E (tgt := 24) dX6_lacks_17 (by decide) (fun c_17 => ?_) (fun c_17 => ?_)
    · skip
      refine J_iconst E dX6_lacks_24 ic_m1 ?_
      exact ret _ _ _ _ ⟨rfl, (congrArg (wM G b) (rfl))⟩ rfl dX6_lacks_25
    · skip
      exact absurd c_17 hb
  · skip
    have c_4 := bI_0 c_4
    exact absurd (in3 (by decide)) c_4

set_option maxHeartbeats 4000000 in
set_option maxRecDepth 20000 in
theorem c_X6_lacks_3_0 (l : Launch) (G : GB) (b : Nat → Nat) (y : Q3) (hb : y 11 1 0 = 0) : CI l yX6_lacks cX6_lacks 2 .int 2 45 G [.ref (b 0), .int (nI 3)] (wM G b y) (fun vR w' => vR = 5 ∧ w' = wM G b y) := by
  refine CI.mk (own := RX6) (by decide) rfl (Nat.le_of_ble_eq_true rfl) ?_
  intro X E ret
  show J X G 2 0 0 (wM G b y) [(0, .ref (b 0)), (1, .int (nI 3))] 0 []
  refine J_iload_n E dX6_lacks_0 rfl 1 rfl ?_
  refine J_cSiN E (As := [.int (nI 3)]) (c_X6_isSheet l G (nI 3) ) cl_X6_303 yo_X6_isSheet dX6_lacks_1 rfl (Nat.le_of_ble_eq_true rfl) (Nat.le_of_ble_eq_true rfl) rfl (Nat.le_of_ble_eq_true rfl) ⟨Nat.zero_le _, Nat.zero_le _⟩ ?_
  refine J_if_ne E (tgt := 11) dX6_lacks_4 (by decide) (fun c_4 => ?_) (fun c_4 => ?_)
  · skip
    have c_4 := bI_1 c_4
    refine J_aload_n E dX6_lacks_11 rfl 0 rfl ?_
    refine gM0_X6_31 E dX6_lacks_12 ?_
    refine J_iload_n E dX6_lacks_15 rfl 1 rfl ?_
    refine lMb_3 E  dX6_lacks_16 ?_
    refine J_if_ne E (tgt := 24) dX6_lacks_17 (by decide) (fun c_17 => ?_) (fun c_17 => ?_)
    · skip
      exact absurd hb c_17
    · skip
      refine J_iconst E dX6_lacks_20 ic_5 ?_
      refine J_goto E (tgt := 25) dX6_lacks_21 (by decide) ?_
      exact ret _ _ _ _ ⟨rfl, (congrArg (wM G b) (rfl))⟩ rfl dX6_lacks_25
  · skip
    have c_4 := bI_0 c_4
    exact absurd (in3 (by decide)) c_4

set_option maxHeartbeats 4000000 in
set_option maxRecDepth 20000 in
theorem c_X6_lacks_3_1 (l : Launch) (G : GB) (b : Nat → Nat) (y : Q3) (hb : ¬ y 11 1 0 = 0) : CI l yX6_lacks cX6_lacks 2 .int 2 45 G [.ref (b 0), .int (nI 3)] (wM G b y) (fun vR w' => vR = (-1) ∧ w' = wM G b y) := by
  refine CI.mk (own := RX6) (by decide) rfl (Nat.le_of_ble_eq_true rfl) ?_
  intro X E ret
  show J X G 2 0 0 (wM G b y) [(0, .ref (b 0)), (1, .int (nI 3))] 0 []
  refine J_iload_n E dX6_lacks_0 rfl 1 rfl ?_
  refine J_cSiN E (As := [.int (nI 3)]) (c_X6_isSheet l G (nI 3) ) cl_X6_303 yo_X6_isSheet dX6_lacks_1 rfl (Nat.le_of_ble_eq_true rfl) (Nat.le_of_ble_eq_true rfl) rfl (Nat.le_of_ble_eq_true rfl) ⟨Nat.zero_le _, Nat.zero_le _⟩ ?_
  refine J_if_ne E (tgt := 11) dX6_lacks_4 (by decide) (fun c_4 => ?_) (fun c_4 => ?_)
  · skip
    have c_4 := bI_1 c_4
    refine J_aload_n E dX6_lacks_11 rfl 0 rfl ?_
    refine gM0_X6_31 E dX6_lacks_12 ?_
    refine J_iload_n E dX6_lacks_15 rfl 1 rfl ?_
    refine lMb_3 E  dX6_lacks_16 ?_
    refine J_if_ne E (tgt := 24) dX6_lacks_17 (by decide) (fun c_17 => ?_) (fun c_17 => ?_)
    · skip
      refine J_iconst E dX6_lacks_24 ic_m1 ?_
      exact ret _ _ _ _ ⟨rfl, (congrArg (wM G b) (rfl))⟩ rfl dX6_lacks_25
    · skip
      exact absurd c_17 hb
  · skip
    have c_4 := bI_0 c_4
    exact absurd (in3 (by decide)) c_4

set_option maxHeartbeats 4000000 in
set_option maxRecDepth 20000 in
theorem c_X6_lacksHouse_out (l : Launch) (G : GB) (b : Nat → Nat) (y : Q3) (s h : Int32) (hs : ¬ (0 ≤ s ∧ s ≤ 3)) : CI l yX6_lacksHouse cX6_lacksHouse 4 .int 3 66 G [.ref (b 0), .int s, .int h] (wM G b y) (fun vR w' => vR = 0 ∧ w' = wM G b y) := by
  refine CI.mk (own := RX6) (by decide) rfl (Nat.le_of_ble_eq_true rfl) ?_
  intro X E ret
  show J X G 4 0 0 (wM G b y) [(0, .ref (b 0)), (1, .int s), (2, .int h)] 0 []
  refine J_aload_n E dX6_lacksHouse_0 rfl 0 rfl ?_
  refine J_iload_n E dX6_lacksHouse_1 rfl 1 rfl ?_
  refine J_cVi0 E (As := [.int s]) (c_X6_lacks_out l G b y s hs ) cl_X6_197 yo_X6_lacks dX6_lacksHouse_2 rfl rfl rfl (Nat.le_of_ble_eq_true rfl) (Nat.le_of_ble_eq_true rfl) rfl (Nat.le_of_ble_eq_true rfl) ⟨Nat.zero_le _, Nat.zero_le _⟩ ?_
  refine J_istore_n E (lv' := [(3, .int 0), (0, .ref (b 0)), (1, .int s), (2, .int h)]) dX6_lacksHouse_5 rfl (by decide) rfl ?_
  refine J_iload_n E dX6_lacksHouse_6 rfl 0 rfl ?_
  refine J_if_lt E (tgt := 12) dX6_lacksHouse_7 (by decide) (fun c_7 => ?_) (fun c_7 => ?_)
  · skip
    have n_7 : 0 < 0 := cmp_lt (a := 0) (b := 0) (by omega) (by omega) c_7
    exact absurd n_7 (by decide)
  · skip
    have n_7 : ¬ 0 < 0 := cmp_nlt (a := 0) (b := 0) (by omega) (by omega) c_7
    refine J_iload_n E dX6_lacksHouse_10 rfl 0 rfl ?_
    exact ret _ _ _ _ ⟨rfl, (congrArg (wM G b) (rfl))⟩ rfl dX6_lacksHouse_11

set_option maxHeartbeats 4000000 in
set_option maxRecDepth 20000 in
theorem c_X6_lacksHouse_0_0 (l : Launch) (G : GB) (b : Nat → Nat) (y : Q3) (h : Int32) (hb : y 8 1 0 = 0) : CI l yX6_lacksHouse cX6_lacksHouse 4 .int 3 66 G [.ref (b 0), .int (nI 0), .int h] (wM G b y) (fun vR w' => vR = 5 ∧ w' = wM G b y) := by
  refine CI.mk (own := RX6) (by decide) rfl (Nat.le_of_ble_eq_true rfl) ?_
  intro X E ret
  show J X G 4 0 0 (wM G b y) [(0, .ref (b 0)), (1, .int (nI 0)), (2, .int h)] 0 []
  refine J_aload_n E dX6_lacksHouse_0 rfl 0 rfl ?_
  refine J_iload_n E dX6_lacksHouse_1 rfl 1 rfl ?_
  refine J_cVi0 E (As := [.int (nI 0)]) (c_X6_lacks_0_0 l G b y hb ) cl_X6_197 yo_X6_lacks dX6_lacksHouse_2 rfl rfl rfl (Nat.le_of_ble_eq_true rfl) (Nat.le_of_ble_eq_true rfl) rfl (Nat.le_of_ble_eq_true rfl) ⟨Nat.zero_le _, Nat.zero_le _⟩ ?_
  refine J_istore_n E (lv' := [(3, .int 5), (0, .ref (b 0)), (1, .int (nI 0)), (2, .int h)]) dX6_lacksHouse_5 rfl (by decide) rfl ?_
  refine J_iload_n E dX6_lacksHouse_6 rfl 0 rfl ?_
  refine J_if_lt E (tgt := 12) dX6_lacksHouse_7 (by decide) (fun c_7 => ?_) (fun c_7 => ?_)
  · skip
    have n_7 : 5 < 0 := cmp_lt (a := 5) (b := 0) (by omega) (by omega) c_7
    exact absurd n_7 (by decide)
  · skip
    have n_7 : ¬ 5 < 0 := cmp_nlt (a := 5) (b := 0) (by omega) (by omega) c_7
    refine J_iload_n E dX6_lacksHouse_10 rfl 0 rfl ?_
    exact ret _ _ _ _ ⟨rfl, (congrArg (wM G b) (rfl))⟩ rfl dX6_lacksHouse_11

set_option maxHeartbeats 4000000 in
set_option maxRecDepth 20000 in
theorem c_X6_lacksHouse_0_2 (l : Launch) (G : GB) (b : Nat → Nat) (y : Q3) (h : Int32) (hb : ¬ y 8 1 0 = 0) (hh : ¬ okH h) : CI l yX6_lacksHouse cX6_lacksHouse 4 .int 3 66 G [.ref (b 0), .int (nI 0), .int h] (wM G b y) (fun vR w' => vR = 0 ∧ w' = wM G b y) := by
  refine CI.mk (own := RX6) (by decide) rfl (Nat.le_of_ble_eq_true rfl) ?_
  intro X E ret
  show J X G 4 0 0 (wM G b y) [(0, .ref (b 0)), (1, .int (nI 0)), (2, .int h)] 0 []
  refine J_aload_n E dX6_lacksHouse_0 rfl 0 rfl ?_
  refine J_iload_n E dX6_lacksHouse_1 rfl 1 rfl ?_
  refine J_cVi0 E (As := [.int (nI 0)]) (c_X6_lacks_0_1 l G b y hb ) cl_X6_197 yo_X6_lacks dX6_lacksHouse_2 rfl rfl rfl (Nat.le_of_ble_eq_true rfl) (Nat.le_of_ble_eq_true rfl) rfl (Nat.le_of_ble_eq_true rfl) ⟨Nat.zero_le _, Nat.zero_le _⟩ ?_
  refine J_istore_n E (lv' := [(3, .int (-1)), (0, .ref (b 0)), (1, .int (nI 0)), (2, .int h)]) dX6_lacksHouse_5 rfl (by decide) rfl ?_
  refine J_iload_n E dX6_lacksHouse_6 rfl 0 rfl ?_
  refine J_if_lt E (tgt := 12) dX6_lacksHouse_7 (by decide) (fun c_7 => ?_) (fun c_7 => ?_)
  · skip
    refine J_iload_n E dX6_lacksHouse_12 rfl 3 rfl ?_
    refine J_cSiN E (As := [.int h]) (c_X6_isHouse l G h ) cl_X6_87 yo_X6_isHouse dX6_lacksHouse_13 rfl (Nat.le_of_ble_eq_true rfl) (Nat.le_of_ble_eq_true rfl) rfl (Nat.le_of_ble_eq_true rfl) ⟨Nat.zero_le _, Nat.zero_le _⟩ ?_
    refine J_if_eq E (tgt := 23) dX6_lacksHouse_16 (by decide) (fun c_16 => ?_) (fun c_16 => ?_)
    · skip
      have c_16 := bI_0 c_16
      refine J_iconst E dX6_lacksHouse_23 ic_0 ?_
      exact ret _ _ _ _ ⟨rfl, (congrArg (wM G b) (rfl))⟩ rfl dX6_lacksHouse_24
    · skip
      have c_16 := bI_1 c_16
      exact absurd c_16 hh
  · skip
    exact absurd c_7 (by decide)

set_option maxHeartbeats 4000000 in
set_option maxRecDepth 20000 in
theorem c_X6_lacksHouse_0_1 (l : Launch) (G : GB) (b : Nat → Nat) (y : Q3) (h : Int32) (hb : ¬ y 8 1 0 = 0) (hh : okH h) : CI l yX6_lacksHouse cX6_lacksHouse 4 .int 3 66 G [.ref (b 0), .int (nI 0), .int h] (wM G b y) (fun vR w' => vR = (-1) ∧ w' = wM G b y) := by
  refine CI.mk (own := RX6) (by decide) rfl (Nat.le_of_ble_eq_true rfl) ?_
  intro X E ret
  show J X G 4 0 0 (wM G b y) [(0, .ref (b 0)), (1, .int (nI 0)), (2, .int h)] 0 []
  refine J_aload_n E dX6_lacksHouse_0 rfl 0 rfl ?_
  refine J_iload_n E dX6_lacksHouse_1 rfl 1 rfl ?_
  refine J_cVi0 E (As := [.int (nI 0)]) (c_X6_lacks_0_1 l G b y hb ) cl_X6_197 yo_X6_lacks dX6_lacksHouse_2 rfl rfl rfl (Nat.le_of_ble_eq_true rfl) (Nat.le_of_ble_eq_true rfl) rfl (Nat.le_of_ble_eq_true rfl) ⟨Nat.zero_le _, Nat.zero_le _⟩ ?_
  refine J_istore_n E (lv' := [(3, .int (-1)), (0, .ref (b 0)), (1, .int (nI 0)), (2, .int h)]) dX6_lacksHouse_5 rfl (by decide) rfl ?_
  refine J_iload_n E dX6_lacksHouse_6 rfl 0 rfl ?_
  refine J_if_lt E (tgt := 12) dX6_lacksHouse_7 (by decide) (fun c_7 => ?_) (fun c_7 => ?_)
  · skip
    refine J_iload_n E dX6_lacksHouse_12 rfl 3 rfl ?_
    refine J_cSiN E (As := [.int h]) (c_X6_isHouse l G h ) cl_X6_87 yo_X6_isHouse dX6_lacksHouse_13 rfl (Nat.le_of_ble_eq_true rfl) (Nat.le_of_ble_eq_true rfl) rfl (Nat.le_of_ble_eq_true rfl) ⟨Nat.zero_le _, Nat.zero_le _⟩ ?_
    refine J_if_eq E (tgt := 23) dX6_lacksHouse_16 (by decide) (fun c_16 => ?_) (fun c_16 => ?_)
    · skip
      have c_16 := bI_0 c_16
      exact absurd hh c_16
    · skip
      have c_16 := bI_1 c_16
      refine J_iconst E dX6_lacksHouse_19 ic_m1 ?_
      refine J_goto E (tgt := 24) dX6_lacksHouse_20 (by decide) ?_
      exact ret _ _ _ _ ⟨rfl, (congrArg (wM G b) (rfl))⟩ rfl dX6_lacksHouse_24
  · skip
    exact absurd c_7 (by decide)

set_option maxHeartbeats 4000000 in
set_option maxRecDepth 20000 in
theorem c_X6_lacksHouse_1_0 (l : Launch) (G : GB) (b : Nat → Nat) (y : Q3) (h : Int32) (hb : y 9 1 0 = 0) : CI l yX6_lacksHouse cX6_lacksHouse 4 .int 3 66 G [.ref (b 0), .int (nI 1), .int h] (wM G b y) (fun vR w' => vR = 5 ∧ w' = wM G b y) := by
  refine CI.mk (own := RX6) (by decide) rfl (Nat.le_of_ble_eq_true rfl) ?_
  intro X E ret
  show J X G 4 0 0 (wM G b y) [(0, .ref (b 0)), (1, .int (nI 1)), (2, .int h)] 0 []
  refine J_aload_n E dX6_lacksHouse_0 rfl 0 rfl ?_
  refine J_iload_n E dX6_lacksHouse_1 rfl 1 rfl ?_
  refine J_cVi0 E (As := [.int (nI 1)]) (c_X6_lacks_1_0 l G b y hb ) cl_X6_197 yo_X6_lacks dX6_lacksHouse_2 rfl rfl rfl (Nat.le_of_ble_eq_true rfl) (Nat.le_of_ble_eq_true rfl) rfl (Nat.le_of_ble_eq_true rfl) ⟨Nat.zero_le _, Nat.zero_le _⟩ ?_
  refine J_istore_n E (lv' := [(3, .int 5), (0, .ref (b 0)), (1, .int (nI 1)), (2, .int h)]) dX6_lacksHouse_5 rfl (by decide) rfl ?_
  refine J_iload_n E dX6_lacksHouse_6 rfl 0 rfl ?_
  refine J_if_lt E (tgt := 12) dX6_lacksHouse_7 (by decide) (fun c_7 => ?_) (fun c_7 => ?_)
  · skip
    have n_7 : 5 < 0 := cmp_lt (a := 5) (b := 0) (by omega) (by omega) c_7
    exact absurd n_7 (by decide)
  · skip
    have n_7 : ¬ 5 < 0 := cmp_nlt (a := 5) (b := 0) (by omega) (by omega) c_7
    refine J_iload_n E dX6_lacksHouse_10 rfl 0 rfl ?_
    exact ret _ _ _ _ ⟨rfl, (congrArg (wM G b) (rfl))⟩ rfl dX6_lacksHouse_11

set_option maxHeartbeats 4000000 in
set_option maxRecDepth 20000 in
theorem c_X6_lacksHouse_1_2 (l : Launch) (G : GB) (b : Nat → Nat) (y : Q3) (h : Int32) (hb : ¬ y 9 1 0 = 0) (hh : ¬ okH h) : CI l yX6_lacksHouse cX6_lacksHouse 4 .int 3 66 G [.ref (b 0), .int (nI 1), .int h] (wM G b y) (fun vR w' => vR = 0 ∧ w' = wM G b y) := by
  refine CI.mk (own := RX6) (by decide) rfl (Nat.le_of_ble_eq_true rfl) ?_
  intro X E ret
  show J X G 4 0 0 (wM G b y) [(0, .ref (b 0)), (1, .int (nI 1)), (2, .int h)] 0 []
  refine J_aload_n E dX6_lacksHouse_0 rfl 0 rfl ?_
  refine J_iload_n E dX6_lacksHouse_1 rfl 1 rfl ?_
  refine J_cVi0 E (As := [.int (nI 1)]) (c_X6_lacks_1_1 l G b y hb ) cl_X6_197 yo_X6_lacks dX6_lacksHouse_2 rfl rfl rfl (Nat.le_of_ble_eq_true rfl) (Nat.le_of_ble_eq_true rfl) rfl (Nat.le_of_ble_eq_true rfl) ⟨Nat.zero_le _, Nat.zero_le _⟩ ?_
  refine J_istore_n E (lv' := [(3, .int (-1)), (0, .ref (b 0)), (1, .int (nI 1)), (2, .int h)]) dX6_lacksHouse_5 rfl (by decide) rfl ?_
  refine J_iload_n E dX6_lacksHouse_6 rfl 0 rfl ?_
  refine J_if_lt E (tgt := 12) dX6_lacksHouse_7 (by decide) (fun c_7 => ?_) (fun c_7 => ?_)
  · skip
    refine J_iload_n E dX6_lacksHouse_12 rfl 3 rfl ?_
    refine J_cSiN E (As := [.int h]) (c_X6_isHouse l G h ) cl_X6_87 yo_X6_isHouse dX6_lacksHouse_13 rfl (Nat.le_of_ble_eq_true rfl) (Nat.le_of_ble_eq_true rfl) rfl (Nat.le_of_ble_eq_true rfl) ⟨Nat.zero_le _, Nat.zero_le _⟩ ?_
    refine J_if_eq E (tgt := 23) dX6_lacksHouse_16 (by decide) (fun c_16 => ?_) (fun c_16 => ?_)
    · skip
      have c_16 := bI_0 c_16
      refine J_iconst E dX6_lacksHouse_23 ic_0 ?_
      exact ret _ _ _ _ ⟨rfl, (congrArg (wM G b) (rfl))⟩ rfl dX6_lacksHouse_24
    · skip
      have c_16 := bI_1 c_16
      exact absurd c_16 hh
  · skip
    exact absurd c_7 (by decide)

set_option maxHeartbeats 4000000 in
set_option maxRecDepth 20000 in
theorem c_X6_lacksHouse_1_1 (l : Launch) (G : GB) (b : Nat → Nat) (y : Q3) (h : Int32) (hb : ¬ y 9 1 0 = 0) (hh : okH h) : CI l yX6_lacksHouse cX6_lacksHouse 4 .int 3 66 G [.ref (b 0), .int (nI 1), .int h] (wM G b y) (fun vR w' => vR = (-1) ∧ w' = wM G b y) := by
  refine CI.mk (own := RX6) (by decide) rfl (Nat.le_of_ble_eq_true rfl) ?_
  intro X E ret
  show J X G 4 0 0 (wM G b y) [(0, .ref (b 0)), (1, .int (nI 1)), (2, .int h)] 0 []
  refine J_aload_n E dX6_lacksHouse_0 rfl 0 rfl ?_
  refine J_iload_n E dX6_lacksHouse_1 rfl 1 rfl ?_
  refine J_cVi0 E (As := [.int (nI 1)]) (c_X6_lacks_1_1 l G b y hb ) cl_X6_197 yo_X6_lacks dX6_lacksHouse_2 rfl rfl rfl (Nat.le_of_ble_eq_true rfl) (Nat.le_of_ble_eq_true rfl) rfl (Nat.le_of_ble_eq_true rfl) ⟨Nat.zero_le _, Nat.zero_le _⟩ ?_
  refine J_istore_n E (lv' := [(3, .int (-1)), (0, .ref (b 0)), (1, .int (nI 1)), (2, .int h)]) dX6_lacksHouse_5 rfl (by decide) rfl ?_
  refine J_iload_n E dX6_lacksHouse_6 rfl 0 rfl ?_
  refine J_if_lt E (tgt := 12) dX6_lacksHouse_7 (by decide) (fun c_7 => ?_) (fun c_7 => ?_)
  · skip
    refine J_iload_n E dX6_lacksHouse_12 rfl 3 rfl ?_
    refine J_cSiN E (As := [.int h]) (c_X6_isHouse l G h ) cl_X6_87 yo_X6_isHouse dX6_lacksHouse_13 rfl (Nat.le_of_ble_eq_true rfl) (Nat.le_of_ble_eq_true rfl) rfl (Nat.le_of_ble_eq_true rfl) ⟨Nat.zero_le _, Nat.zero_le _⟩ ?_
    refine J_if_eq E (tgt := 23) dX6_lacksHouse_16 (by decide) (fun c_16 => ?_) (fun c_16 => ?_)
    · skip
      have c_16 := bI_0 c_16
      exact absurd hh c_16
    · skip
      have c_16 := bI_1 c_16
      refine J_iconst E dX6_lacksHouse_19 ic_m1 ?_
      refine J_goto E (tgt := 24) dX6_lacksHouse_20 (by decide) ?_
      exact ret _ _ _ _ ⟨rfl, (congrArg (wM G b) (rfl))⟩ rfl dX6_lacksHouse_24
  · skip
    exact absurd c_7 (by decide)

set_option maxHeartbeats 4000000 in
set_option maxRecDepth 20000 in
theorem c_X6_lacksHouse_2_0 (l : Launch) (G : GB) (b : Nat → Nat) (y : Q3) (h : Int32) (hb : y 10 1 0 = 0) : CI l yX6_lacksHouse cX6_lacksHouse 4 .int 3 66 G [.ref (b 0), .int (nI 2), .int h] (wM G b y) (fun vR w' => vR = 5 ∧ w' = wM G b y) := by
  refine CI.mk (own := RX6) (by decide) rfl (Nat.le_of_ble_eq_true rfl) ?_
  intro X E ret
  show J X G 4 0 0 (wM G b y) [(0, .ref (b 0)), (1, .int (nI 2)), (2, .int h)] 0 []
  refine J_aload_n E dX6_lacksHouse_0 rfl 0 rfl ?_
  refine J_iload_n E dX6_lacksHouse_1 rfl 1 rfl ?_
  refine J_cVi0 E (As := [.int (nI 2)]) (c_X6_lacks_2_0 l G b y hb ) cl_X6_197 yo_X6_lacks dX6_lacksHouse_2 rfl rfl rfl (Nat.le_of_ble_eq_true rfl) (Nat.le_of_ble_eq_true rfl) rfl (Nat.le_of_ble_eq_true rfl) ⟨Nat.zero_le _, Nat.zero_le _⟩ ?_
  refine J_istore_n E (lv' := [(3, .int 5), (0, .ref (b 0)), (1, .int (nI 2)), (2, .int h)]) dX6_lacksHouse_5 rfl (by decide) rfl ?_
  refine J_iload_n E dX6_lacksHouse_6 rfl 0 rfl ?_
  refine J_if_lt E (tgt := 12) dX6_lacksHouse_7 (by decide) (fun c_7 => ?_) (fun c_7 => ?_)
  · skip
    have n_7 : 5 < 0 := cmp_lt (a := 5) (b := 0) (by omega) (by omega) c_7
    exact absurd n_7 (by decide)
  · skip
    have n_7 : ¬ 5 < 0 := cmp_nlt (a := 5) (b := 0) (by omega) (by omega) c_7
    refine J_iload_n E dX6_lacksHouse_10 rfl 0 rfl ?_
    exact ret _ _ _ _ ⟨rfl, (congrArg (wM G b) (rfl))⟩ rfl dX6_lacksHouse_11

set_option maxHeartbeats 4000000 in
set_option maxRecDepth 20000 in
theorem c_X6_lacksHouse_2_2 (l : Launch) (G : GB) (b : Nat → Nat) (y : Q3) (h : Int32) (hb : ¬ y 10 1 0 = 0) (hh : ¬ okH h) : CI l yX6_lacksHouse cX6_lacksHouse 4 .int 3 66 G [.ref (b 0), .int (nI 2), .int h] (wM G b y) (fun vR w' => vR = 0 ∧ w' = wM G b y) := by
  refine CI.mk (own := RX6) (by decide) rfl (Nat.le_of_ble_eq_true rfl) ?_
  intro X E ret
  show J X G 4 0 0 (wM G b y) [(0, .ref (b 0)), (1, .int (nI 2)), (2, .int h)] 0 []
  refine J_aload_n E dX6_lacksHouse_0 rfl 0 rfl ?_
  refine J_iload_n E dX6_lacksHouse_1 rfl 1 rfl ?_
  refine J_cVi0 E (As := [.int (nI 2)]) (c_X6_lacks_2_1 l G b y hb ) cl_X6_197 yo_X6_lacks dX6_lacksHouse_2 rfl rfl rfl (Nat.le_of_ble_eq_true rfl) (Nat.le_of_ble_eq_true rfl) rfl (Nat.le_of_ble_eq_true rfl) ⟨Nat.zero_le _, Nat.zero_le _⟩ ?_
  refine J_istore_n E (lv' := [(3, .int (-1)), (0, .ref (b 0)), (1, .int (nI 2)), (2, .int h)]) dX6_lacksHouse_5 rfl (by decide) rfl ?_
  refine J_iload_n E dX6_lacksHouse_6 rfl 0 rfl ?_
  refine J_if_lt E (tgt := 12) dX6_lacksHouse_7 (by decide) (fun c_7 => ?_) (fun c_7 => ?_)
  · skip
    refine J_iload_n E dX6_lacksHouse_12 rfl 3 rfl ?_
    refine J_cSiN E (As := [.int h]) (c_X6_isHouse l G h ) cl_X6_87 yo_X6_isHouse dX6_lacksHouse_13 rfl (Nat.le_of_ble_eq_true rfl) (Nat.le_of_ble_eq_true rfl) rfl (Nat.le_of_ble_eq_true rfl) ⟨Nat.zero_le _, Nat.zero_le _⟩ ?_
    refine J_if_eq E (tgt := 23) dX6_lacksHouse_16 (by decide) (fun c_16 => ?_) (fun c_16 => ?_)
    · skip
      have c_16 := bI_0 c_16
      refine J_iconst E dX6_lacksHouse_23 ic_0 ?_
      exact ret _ _ _ _ ⟨rfl, (congrArg (wM G b) (rfl))⟩ rfl dX6_lacksHouse_24
    · skip
      have c_16 := bI_1 c_16
      exact absurd c_16 hh
  · skip
    exact absurd c_7 (by decide)

set_option maxHeartbeats 4000000 in
set_option maxRecDepth 20000 in
theorem c_X6_lacksHouse_2_1 (l : Launch) (G : GB) (b : Nat → Nat) (y : Q3) (h : Int32) (hb : ¬ y 10 1 0 = 0) (hh : okH h) : CI l yX6_lacksHouse cX6_lacksHouse 4 .int 3 66 G [.ref (b 0), .int (nI 2), .int h] (wM G b y) (fun vR w' => vR = (-1) ∧ w' = wM G b y) := by
  refine CI.mk (own := RX6) (by decide) rfl (Nat.le_of_ble_eq_true rfl) ?_
  intro X E ret
  show J X G 4 0 0 (wM G b y) [(0, .ref (b 0)), (1, .int (nI 2)), (2, .int h)] 0 []
  refine J_aload_n E dX6_lacksHouse_0 rfl 0 rfl ?_
  refine J_iload_n E dX6_lacksHouse_1 rfl 1 rfl ?_
  refine J_cVi0 E (As := [.int (nI 2)]) (c_X6_lacks_2_1 l G b y hb ) cl_X6_197 yo_X6_lacks dX6_lacksHouse_2 rfl rfl rfl (Nat.le_of_ble_eq_true rfl) (Nat.le_of_ble_eq_true rfl) rfl (Nat.le_of_ble_eq_true rfl) ⟨Nat.zero_le _, Nat.zero_le _⟩ ?_
  refine J_istore_n E (lv' := [(3, .int (-1)), (0, .ref (b 0)), (1, .int (nI 2)), (2, .int h)]) dX6_lacksHouse_5 rfl (by decide) rfl ?_
  refine J_iload_n E dX6_lacksHouse_6 rfl 0 rfl ?_
  refine J_if_lt E (tgt := 12) dX6_lacksHouse_7 (by decide) (fun c_7 => ?_) (fun c_7 => ?_)
  · skip
    refine J_iload_n E dX6_lacksHouse_12 rfl 3 rfl ?_
    refine J_cSiN E (As := [.int h]) (c_X6_isHouse l G h ) cl_X6_87 yo_X6_isHouse dX6_lacksHouse_13 rfl (Nat.le_of_ble_eq_true rfl) (Nat.le_of_ble_eq_true rfl) rfl (Nat.le_of_ble_eq_true rfl) ⟨Nat.zero_le _, Nat.zero_le _⟩ ?_
    refine J_if_eq E (tgt := 23) dX6_lacksHouse_16 (by decide) (fun c_16 => ?_) (fun c_16 => ?_)
    · skip
      have c_16 := bI_0 c_16
      exact absurd hh c_16
    · skip
      have c_16 := bI_1 c_16
      refine J_iconst E dX6_lacksHouse_19 ic_m1 ?_
      refine J_goto E (tgt := 24) dX6_lacksHouse_20 (by decide) ?_
      exact ret _ _ _ _ ⟨rfl, (congrArg (wM G b) (rfl))⟩ rfl dX6_lacksHouse_24
  · skip
    exact absurd c_7 (by decide)

set_option maxHeartbeats 4000000 in
set_option maxRecDepth 20000 in
theorem c_X6_lacksHouse_3_0 (l : Launch) (G : GB) (b : Nat → Nat) (y : Q3) (h : Int32) (hb : y 11 1 0 = 0) : CI l yX6_lacksHouse cX6_lacksHouse 4 .int 3 66 G [.ref (b 0), .int (nI 3), .int h] (wM G b y) (fun vR w' => vR = 5 ∧ w' = wM G b y) := by
  refine CI.mk (own := RX6) (by decide) rfl (Nat.le_of_ble_eq_true rfl) ?_
  intro X E ret
  show J X G 4 0 0 (wM G b y) [(0, .ref (b 0)), (1, .int (nI 3)), (2, .int h)] 0 []
  refine J_aload_n E dX6_lacksHouse_0 rfl 0 rfl ?_
  refine J_iload_n E dX6_lacksHouse_1 rfl 1 rfl ?_
  refine J_cVi0 E (As := [.int (nI 3)]) (c_X6_lacks_3_0 l G b y hb ) cl_X6_197 yo_X6_lacks dX6_lacksHouse_2 rfl rfl rfl (Nat.le_of_ble_eq_true rfl) (Nat.le_of_ble_eq_true rfl) rfl (Nat.le_of_ble_eq_true rfl) ⟨Nat.zero_le _, Nat.zero_le _⟩ ?_
  refine J_istore_n E (lv' := [(3, .int 5), (0, .ref (b 0)), (1, .int (nI 3)), (2, .int h)]) dX6_lacksHouse_5 rfl (by decide) rfl ?_
  refine J_iload_n E dX6_lacksHouse_6 rfl 0 rfl ?_
  refine J_if_lt E (tgt := 12) dX6_lacksHouse_7 (by decide) (fun c_7 => ?_) (fun c_7 => ?_)
  · skip
    have n_7 : 5 < 0 := cmp_lt (a := 5) (b := 0) (by omega) (by omega) c_7
    exact absurd n_7 (by decide)
  · skip
    have n_7 : ¬ 5 < 0 := cmp_nlt (a := 5) (b := 0) (by omega) (by omega) c_7
    refine J_iload_n E dX6_lacksHouse_10 rfl 0 rfl ?_
    exact ret _ _ _ _ ⟨rfl, (congrArg (wM G b) (rfl))⟩ rfl dX6_lacksHouse_11

set_option maxHeartbeats 4000000 in
set_option maxRecDepth 20000 in
theorem c_X6_lacksHouse_3_2 (l : Launch) (G : GB) (b : Nat → Nat) (y : Q3) (h : Int32) (hb : ¬ y 11 1 0 = 0) (hh : ¬ okH h) : CI l yX6_lacksHouse cX6_lacksHouse 4 .int 3 66 G [.ref (b 0), .int (nI 3), .int h] (wM G b y) (fun vR w' => vR = 0 ∧ w' = wM G b y) := by
  refine CI.mk (own := RX6) (by decide) rfl (Nat.le_of_ble_eq_true rfl) ?_
  intro X E ret
  show J X G 4 0 0 (wM G b y) [(0, .ref (b 0)), (1, .int (nI 3)), (2, .int h)] 0 []
  refine J_aload_n E dX6_lacksHouse_0 rfl 0 rfl ?_
  refine J_iload_n E dX6_lacksHouse_1 rfl 1 rfl ?_
  refine J_cVi0 E (As := [.int (nI 3)]) (c_X6_lacks_3_1 l G b y hb ) cl_X6_197 yo_X6_lacks dX6_lacksHouse_2 rfl rfl rfl (Nat.le_of_ble_eq_true rfl) (Nat.le_of_ble_eq_true rfl) rfl (Nat.le_of_ble_eq_true rfl) ⟨Nat.zero_le _, Nat.zero_le _⟩ ?_
  refine J_istore_n E (lv' := [(3, .int (-1)), (0, .ref (b 0)), (1, .int (nI 3)), (2, .int h)]) dX6_lacksHouse_5 rfl (by decide) rfl ?_
  refine J_iload_n E dX6_lacksHouse_6 rfl 0 rfl ?_
  refine J_if_lt E (tgt := 12) dX6_lacksHouse_7 (by decide) (fun c_7 => ?_) (fun c_7 => ?_)
  · skip
    refine J_iload_n E dX6_lacksHouse_12 rfl 3 rfl ?_
    refine J_cSiN E (As := [.int h]) (c_X6_isHouse l G h ) cl_X6_87 yo_X6_isHouse dX6_lacksHouse_13 rfl (Nat.le_of_ble_eq_true rfl) (Nat.le_of_ble_eq_true rfl) rfl (Nat.le_of_ble_eq_true rfl) ⟨Nat.zero_le _, Nat.zero_le _⟩ ?_
    refine J_if_eq E (tgt := 23) dX6_lacksHouse_16 (by decide) (fun c_16 => ?_) (fun c_16 => ?_)
    · skip
      have c_16 := bI_0 c_16
      refine J_iconst E dX6_lacksHouse_23 ic_0 ?_
      exact ret _ _ _ _ ⟨rfl, (congrArg (wM G b) (rfl))⟩ rfl dX6_lacksHouse_24
    · skip
      have c_16 := bI_1 c_16
      exact absurd c_16 hh
  · skip
    exact absurd c_7 (by decide)

set_option maxHeartbeats 4000000 in
set_option maxRecDepth 20000 in
theorem c_X6_lacksHouse_3_1 (l : Launch) (G : GB) (b : Nat → Nat) (y : Q3) (h : Int32) (hb : ¬ y 11 1 0 = 0) (hh : okH h) : CI l yX6_lacksHouse cX6_lacksHouse 4 .int 3 66 G [.ref (b 0), .int (nI 3), .int h] (wM G b y) (fun vR w' => vR = (-1) ∧ w' = wM G b y) := by
  refine CI.mk (own := RX6) (by decide) rfl (Nat.le_of_ble_eq_true rfl) ?_
  intro X E ret
  show J X G 4 0 0 (wM G b y) [(0, .ref (b 0)), (1, .int (nI 3)), (2, .int h)] 0 []
  refine J_aload_n E dX6_lacksHouse_0 rfl 0 rfl ?_
  refine J_iload_n E dX6_lacksHouse_1 rfl 1 rfl ?_
  refine J_cVi0 E (As := [.int (nI 3)]) (c_X6_lacks_3_1 l G b y hb ) cl_X6_197 yo_X6_lacks dX6_lacksHouse_2 rfl rfl rfl (Nat.le_of_ble_eq_true rfl) (Nat.le_of_ble_eq_true rfl) rfl (Nat.le_of_ble_eq_true rfl) ⟨Nat.zero_le _, Nat.zero_le _⟩ ?_
  refine J_istore_n E (lv' := [(3, .int (-1)), (0, .ref (b 0)), (1, .int (nI 3)), (2, .int h)]) dX6_lacksHouse_5 rfl (by decide) rfl ?_
  refine J_iload_n E dX6_lacksHouse_6 rfl 0 rfl ?_
  refine J_if_lt E (tgt := 12) dX6_lacksHouse_7 (by decide) (fun c_7 => ?_) (fun c_7 => ?_)
  · skip
    refine J_iload_n E dX6_lacksHouse_12 rfl 3 rfl ?_
    refine J_cSiN E (As := [.int h]) (c_X6_isHouse l G h ) cl_X6_87 yo_X6_isHouse dX6_lacksHouse_13 rfl (Nat.le_of_ble_eq_true rfl) (Nat.le_of_ble_eq_true rfl) rfl (Nat.le_of_ble_eq_true rfl) ⟨Nat.zero_le _, Nat.zero_le _⟩ ?_
    refine J_if_eq E (tgt := 23) dX6_lacksHouse_16 (by decide) (fun c_16 => ?_) (fun c_16 => ?_)
    · skip
      have c_16 := bI_0 c_16
      exact absurd hh c_16
    · skip
      have c_16 := bI_1 c_16
      refine J_iconst E dX6_lacksHouse_19 ic_m1 ?_
      refine J_goto E (tgt := 24) dX6_lacksHouse_20 (by decide) ?_
      exact ret _ _ _ _ ⟨rfl, (congrArg (wM G b) (rfl))⟩ rfl dX6_lacksHouse_24
  · skip
    exact absurd c_7 (by decide)

set_option maxHeartbeats 4000000 in
set_option maxRecDepth 20000 in
theorem c_X6_isSo_0 (l : Launch) (G : GB) (b : Nat → Nat) (y : Q3) (j n : Nat) (hj : j < 11) (hn : y 8 1 1 = nI n) (hn2 : n ≤ 40) (hok : okQ (y 0))  : CI l yX6_isSo cX6_isSo 6 .boolean 4 91 G [.ref (b 0), .int (nI 0), .int (nI j)] (wM G b y) (fun vR w' => vR = bI (soF (y 8 0) j (y 0) n = true) ∧ ∃ d : Q2, w' = wM G b (upG (upG y 5 d) 0 (hoursR (y 0) n))) := by
  refine CI.mk (own := RX6) (by decide) rfl (Nat.le_of_ble_eq_true rfl) ?_
  intro X E ret
  show J X G 6 0 0 (wM G b y) [(0, .ref (b 0)), (1, .int (nI 0)), (2, .int (nI j))] 0 []
  refine J_iconst E dX6_isSo_0 ic_1 ?_
  refine J_istore_n E (lv' := [(3, .int 1), (0, .ref (b 0)), (1, .int (nI 0)), (2, .int (nI j))]) dX6_isSo_1 rfl (by decide) rfl ?_
  refine J_iconst E dX6_isSo_2 ic_0 ?_
  refine J_istore E (lv' := [(4, .int 0), (3, .int 1), (0, .ref (b 0)), (1, .int (nI 0)), (2, .int (nI j))]) dX6_isSo_3 (by decide) rfl ?_
  refine J_w (ws' := wM G b (upG y 5 (y 5))) (congrArg (wM G b) upG_id.symm) ?_
  have lp5 : ∀ (fu : Nat) (i : Nat) (t : Int32) (d : Q2) (r : Q2), (i ≤ n) → (r = hoursR (y 0) i) → (t = bI (soF (y 8 0) j (y 0) i = true)) → n - i < fu → J X G 6 0 0 (wM G b (upG (upG y 5 d) 0 r)) [(0, .ref (b 0)), (1, .int (nI 0)), (2, .int (nI j)), (3, .int t), (4, .int (nI i))] 5 [] := by
    intro fu
    induction fu with
    | zero => intro i t d r hi hr hs hm; exact absurd hm (Nat.not_lt_zero _)
    | succ fu ih5 =>
      intro i t d r hi hr hs hm
      refine J_iload E dX6_isSo_5 4 rfl ?_
      refine J_aload_n E dX6_isSo_7 rfl 0 rfl ?_
      refine gM0_X6_34 E dX6_isSo_8 ?_
      refine J_iload_n E dX6_isSo_11 rfl 1 rfl ?_
      refine lMz_0 E  dX6_isSo_12 ?_
      refine J_top (x' := y 8 1 1) (Eq.trans (upG_n (by decide)) (upG_n (by decide))) ?_
      refine J_top (x' := nI n) (hn) ?_
      refine J_icmp_ge E (tgt := 67) dX6_isSo_13 (by decide) (fun c_13 => ?_) (fun c_13 => ?_)
      · skip
        have n_13 : n ≤ i := cmp_le (a := n) (b := i) (by omega) (by omega) c_13
        refine J_iload_n E dX6_isSo_67 rfl 3 rfl ?_
        exact ret _ _ _ _ ⟨by rw [hs, show i = n by omega], d, by subst hr; rw [show n = i by omega]⟩ (by rw [hs]; exact bI_nar) dX6_isSo_68
      · skip
        have n_13 : ¬ n ≤ i := cmp_nle (a := n) (b := i) (by omega) (by omega) c_13
        refine J_aload_n E dX6_isSo_16 rfl 0 rfl ?_
        refine gM0_X6_37 E dX6_isSo_17 ?_
        refine J_bipush E dX6_isSo_20 bp_40 ?_
        refine J_iload_n E dX6_isSo_22 rfl 1 rfl ?_
        refine J_imul E dX6_isSo_23 ?_
        refine J_top (x' := nI 0) (by decide) ?_
        refine J_iload E dX6_isSo_24 4 rfl ?_
        refine J_iadd E dX6_isSo_26 ?_
        refine J_top (x' := nI (0 + i)) (nI_add 0 i) ?_
        refine lMn_0 E (j := (0 + i)) (i := i) rfl (by omega) dX6_isSo_27 ?_
        refine J_top (x' := y 8 0 i) (Eq.trans (upG_n (by decide)) (upG_n (by decide))) ?_
        refine J_istore E (lv' := [(5, .int (y 8 0 i)), (0, .ref (b 0)), (1, .int (nI 0)), (2, .int (nI j)), (3, .int t), (4, .int (nI i))]) dX6_isSo_28 (by decide) rfl ?_
        refine J_iload_n E dX6_isSo_30 rfl 4 rfl ?_
        refine J_if_eq E (tgt := 55) dX6_isSo_31 (by decide) (fun c_31 => ?_) (fun c_31 => ?_)
        · skip
          refine J_iconst E dX6_isSo_55 ic_0 ?_
          refine J_istore_n E (lv' := [(3, .int 0), (5, .int (y 8 0 i)), (0, .ref (b 0)), (1, .int (nI 0)), (2, .int (nI j)), (4, .int (nI i))]) dX6_isSo_56 rfl (by decide) rfl ?_
          refine J_aload_n E dX6_isSo_57 rfl 2 rfl ?_
          refine J_cVv0 E (As := []) (c_X6_anHour l G b (upG (upG y 5 d) 0 r) (by rw [hr]; exact okQ_hs hok i)) cl_X6_138 yo_X6_anHour dX6_isSo_58 rfl rfl rfl (Nat.le_of_ble_eq_true rfl) (Nat.le_of_ble_eq_true rfl) rfl (Nat.le_of_ble_eq_true rfl) ⟨Nat.zero_le _, Nat.zero_le _⟩ ?_
          refine J_iinc E (lv' := [(4, .int (nI (i + 1))), (3, .int 0), (5, .int (y 8 0 i)), (0, .ref (b 0)), (1, .int (nI 0)), (2, .int (nI j))]) dX6_isSo_61 5 rfl (nI_inc _) (by decide) rfl ?_
          refine J_goto E (tgt := 5) dX6_isSo_64 (by decide) ?_
          refine J_lv [3, 4, 5, 1, 0] rfl ?_
          refine J_w (ws' := wM G b (upG (upG y 5 (hd5 r d)) 0 (hourR0 r))) (wM_c rfl rfl rfl rfl rfl rfl rfl rfl rfl rfl rfl) ?_
          exact ih5 (i + 1) 0 (hd5 r d) (hourR0 r) (by omega) (by rw [hr]; rfl) (by first | exact so_z hs c_31 | exact so_y hs c_31 (Or.inl c_37) | exact so_y hs c_31 (Or.inr (by rw [← hr]; exact c_48)) | exact so_n (fun z => z.elim c_37 (fun e => c_48 (by rw [hr]; exact e)))) (by omega)
        · skip
          refine J_iload E dX6_isSo_34 0 rfl ?_
          refine J_iconst E dX6_isSo_36 ic_m1 ?_
          refine J_icmp_eq E (tgt := 51) dX6_isSo_37 (by decide) (fun c_37 => ?_) (fun c_37 => ?_)
          · skip
            refine J_iconst E dX6_isSo_51 ic_1 ?_
            refine J_goto E (tgt := 56) dX6_isSo_52 (by decide) ?_
            refine J_istore_n E (lv' := [(3, .int 1), (5, .int (y 8 0 i)), (0, .ref (b 0)), (1, .int (nI 0)), (2, .int (nI j)), (4, .int (nI i))]) dX6_isSo_56 rfl (by decide) rfl ?_
            refine J_aload_n E dX6_isSo_57 rfl 2 rfl ?_
            refine J_cVv0 E (As := []) (c_X6_anHour l G b (upG (upG y 5 d) 0 r) (by rw [hr]; exact okQ_hs hok i)) cl_X6_138 yo_X6_anHour dX6_isSo_58 rfl rfl rfl (Nat.le_of_ble_eq_true rfl) (Nat.le_of_ble_eq_true rfl) rfl (Nat.le_of_ble_eq_true rfl) ⟨Nat.zero_le _, Nat.zero_le _⟩ ?_
            refine J_iinc E (lv' := [(4, .int (nI (i + 1))), (3, .int 1), (5, .int (y 8 0 i)), (0, .ref (b 0)), (1, .int (nI 0)), (2, .int (nI j))]) dX6_isSo_61 5 rfl (nI_inc _) (by decide) rfl ?_
            refine J_goto E (tgt := 5) dX6_isSo_64 (by decide) ?_
            refine J_lv [3, 4, 5, 1, 0] rfl ?_
            refine J_w (ws' := wM G b (upG (upG y 5 (hd5 r d)) 0 (hourR0 r))) (wM_c rfl rfl rfl rfl rfl rfl rfl rfl rfl rfl rfl) ?_
            exact ih5 (i + 1) 1 (hd5 r d) (hourR0 r) (by omega) (by rw [hr]; rfl) (by first | exact so_z hs c_31 | exact so_y hs c_31 (Or.inl c_37) | exact so_y hs c_31 (Or.inr (by rw [← hr]; exact c_48)) | exact so_n (fun z => z.elim c_37 (fun e => c_48 (by rw [hr]; exact e)))) (by omega)
          · skip
            refine J_iload E dX6_isSo_40 0 rfl ?_
            refine J_aload_n E dX6_isSo_42 rfl 1 rfl ?_
            refine J_iload_n E dX6_isSo_43 rfl 3 rfl ?_
            refine J_iconst E dX6_isSo_44 ic_1 ?_
            refine J_cVi0 E (As := [.int (nI j), .int 1]) (c_X6_its l G b (upG (upG y 5 d) 0 r) j 1 (by omega) (by omega)) cl_X6_64 yo_X6_its dX6_isSo_45 rfl rfl rfl (Nat.le_of_ble_eq_true rfl) (Nat.le_of_ble_eq_true rfl) rfl (Nat.le_of_ble_eq_true rfl) ⟨Nat.zero_le _, Nat.zero_le _⟩ ?_
            refine J_top (x' := r 1 j) (upG_s) ?_
            refine J_icmp_ne E (tgt := 55) dX6_isSo_48 (by decide) (fun c_48 => ?_) (fun c_48 => ?_)
            · skip
              refine J_iconst E dX6_isSo_55 ic_0 ?_
              refine J_istore_n E (lv' := [(3, .int 0), (5, .int (y 8 0 i)), (0, .ref (b 0)), (1, .int (nI 0)), (2, .int (nI j)), (4, .int (nI i))]) dX6_isSo_56 rfl (by decide) rfl ?_
              refine J_aload_n E dX6_isSo_57 rfl 2 rfl ?_
              refine J_cVv0 E (As := []) (c_X6_anHour l G b (upG (upG y 5 d) 0 r) (by rw [hr]; exact okQ_hs hok i)) cl_X6_138 yo_X6_anHour dX6_isSo_58 rfl rfl rfl (Nat.le_of_ble_eq_true rfl) (Nat.le_of_ble_eq_true rfl) rfl (Nat.le_of_ble_eq_true rfl) ⟨Nat.zero_le _, Nat.zero_le _⟩ ?_
              refine J_iinc E (lv' := [(4, .int (nI (i + 1))), (3, .int 0), (5, .int (y 8 0 i)), (0, .ref (b 0)), (1, .int (nI 0)), (2, .int (nI j))]) dX6_isSo_61 5 rfl (nI_inc _) (by decide) rfl ?_
              refine J_goto E (tgt := 5) dX6_isSo_64 (by decide) ?_
              refine J_lv [3, 4, 5, 1, 0] rfl ?_
              refine J_w (ws' := wM G b (upG (upG y 5 (hd5 r d)) 0 (hourR0 r))) (wM_c rfl rfl rfl rfl rfl rfl rfl rfl rfl rfl rfl) ?_
              exact ih5 (i + 1) 0 (hd5 r d) (hourR0 r) (by omega) (by rw [hr]; rfl) (by first | exact so_z hs c_31 | exact so_y hs c_31 (Or.inl c_37) | exact so_y hs c_31 (Or.inr (by rw [← hr]; exact c_48)) | exact so_n (fun z => z.elim c_37 (fun e => c_48 (by rw [hr]; exact e)))) (by omega)
            · skip
              refine J_iconst E dX6_isSo_51 ic_1 ?_
              refine J_goto E (tgt := 56) dX6_isSo_52 (by decide) ?_
              refine J_istore_n E (lv' := [(3, .int 1), (5, .int (y 8 0 i)), (0, .ref (b 0)), (1, .int (nI 0)), (2, .int (nI j)), (4, .int (nI i))]) dX6_isSo_56 rfl (by decide) rfl ?_
              refine J_aload_n E dX6_isSo_57 rfl 2 rfl ?_
              refine J_cVv0 E (As := []) (c_X6_anHour l G b (upG (upG y 5 d) 0 r) (by rw [hr]; exact okQ_hs hok i)) cl_X6_138 yo_X6_anHour dX6_isSo_58 rfl rfl rfl (Nat.le_of_ble_eq_true rfl) (Nat.le_of_ble_eq_true rfl) rfl (Nat.le_of_ble_eq_true rfl) ⟨Nat.zero_le _, Nat.zero_le _⟩ ?_
              refine J_iinc E (lv' := [(4, .int (nI (i + 1))), (3, .int 1), (5, .int (y 8 0 i)), (0, .ref (b 0)), (1, .int (nI 0)), (2, .int (nI j))]) dX6_isSo_61 5 rfl (nI_inc _) (by decide) rfl ?_
              refine J_goto E (tgt := 5) dX6_isSo_64 (by decide) ?_
              refine J_lv [3, 4, 5, 1, 0] rfl ?_
              refine J_w (ws' := wM G b (upG (upG y 5 (hd5 r d)) 0 (hourR0 r))) (wM_c rfl rfl rfl rfl rfl rfl rfl rfl rfl rfl rfl) ?_
              exact ih5 (i + 1) 1 (hd5 r d) (hourR0 r) (by omega) (by rw [hr]; rfl) (by first | exact so_z hs c_31 | exact so_y hs c_31 (Or.inl c_37) | exact so_y hs c_31 (Or.inr (by rw [← hr]; exact c_48)) | exact so_n (fun z => z.elim c_37 (fun e => c_48 (by rw [hr]; exact e)))) (by omega)
  refine J_lv [2, 3, 4, 1, 0] rfl ?_
  refine J_w (ws' := wM G b (upG (upG y 5 (y 5)) 0 (y 0))) (wM_c rfl rfl rfl rfl rfl rfl rfl rfl rfl rfl rfl) ?_
  exact lp5 _ 0 1 (y 5) (y 0) (by omega) rfl rfl (Nat.lt_succ_self _)

set_option maxHeartbeats 4000000 in
set_option maxRecDepth 20000 in
theorem c_X6_isSo_1 (l : Launch) (G : GB) (b : Nat → Nat) (y : Q3) (j n : Nat) (hj : j < 11) (hn : y 9 1 1 = nI n) (hn2 : n ≤ 40) (hok : okQ (y 0))  : CI l yX6_isSo cX6_isSo 6 .boolean 4 91 G [.ref (b 0), .int (nI 1), .int (nI j)] (wM G b y) (fun vR w' => vR = bI (soF (y 9 0) j (y 0) n = true) ∧ ∃ d : Q2, w' = wM G b (upG (upG y 5 d) 0 (hoursR (y 0) n))) := by
  refine CI.mk (own := RX6) (by decide) rfl (Nat.le_of_ble_eq_true rfl) ?_
  intro X E ret
  show J X G 6 0 0 (wM G b y) [(0, .ref (b 0)), (1, .int (nI 1)), (2, .int (nI j))] 0 []
  refine J_iconst E dX6_isSo_0 ic_1 ?_
  refine J_istore_n E (lv' := [(3, .int 1), (0, .ref (b 0)), (1, .int (nI 1)), (2, .int (nI j))]) dX6_isSo_1 rfl (by decide) rfl ?_
  refine J_iconst E dX6_isSo_2 ic_0 ?_
  refine J_istore E (lv' := [(4, .int 0), (3, .int 1), (0, .ref (b 0)), (1, .int (nI 1)), (2, .int (nI j))]) dX6_isSo_3 (by decide) rfl ?_
  refine J_w (ws' := wM G b (upG y 5 (y 5))) (congrArg (wM G b) upG_id.symm) ?_
  have lp5 : ∀ (fu : Nat) (i : Nat) (t : Int32) (d : Q2) (r : Q2), (i ≤ n) → (r = hoursR (y 0) i) → (t = bI (soF (y 9 0) j (y 0) i = true)) → n - i < fu → J X G 6 0 0 (wM G b (upG (upG y 5 d) 0 r)) [(0, .ref (b 0)), (1, .int (nI 1)), (2, .int (nI j)), (3, .int t), (4, .int (nI i))] 5 [] := by
    intro fu
    induction fu with
    | zero => intro i t d r hi hr hs hm; exact absurd hm (Nat.not_lt_zero _)
    | succ fu ih5 =>
      intro i t d r hi hr hs hm
      refine J_iload E dX6_isSo_5 4 rfl ?_
      refine J_aload_n E dX6_isSo_7 rfl 0 rfl ?_
      refine gM0_X6_34 E dX6_isSo_8 ?_
      refine J_iload_n E dX6_isSo_11 rfl 1 rfl ?_
      refine lMz_1 E  dX6_isSo_12 ?_
      refine J_top (x' := y 9 1 1) (Eq.trans (upG_n (by decide)) (upG_n (by decide))) ?_
      refine J_top (x' := nI n) (hn) ?_
      refine J_icmp_ge E (tgt := 67) dX6_isSo_13 (by decide) (fun c_13 => ?_) (fun c_13 => ?_)
      · skip
        have n_13 : n ≤ i := cmp_le (a := n) (b := i) (by omega) (by omega) c_13
        refine J_iload_n E dX6_isSo_67 rfl 3 rfl ?_
        exact ret _ _ _ _ ⟨by rw [hs, show i = n by omega], d, by subst hr; rw [show n = i by omega]⟩ (by rw [hs]; exact bI_nar) dX6_isSo_68
      · skip
        have n_13 : ¬ n ≤ i := cmp_nle (a := n) (b := i) (by omega) (by omega) c_13
        refine J_aload_n E dX6_isSo_16 rfl 0 rfl ?_
        refine gM0_X6_37 E dX6_isSo_17 ?_
        refine J_bipush E dX6_isSo_20 bp_40 ?_
        refine J_iload_n E dX6_isSo_22 rfl 1 rfl ?_
        refine J_imul E dX6_isSo_23 ?_
        refine J_top (x' := nI 40) (by decide) ?_
        refine J_iload E dX6_isSo_24 4 rfl ?_
        refine J_iadd E dX6_isSo_26 ?_
        refine J_top (x' := nI (40 + i)) (nI_add 40 i) ?_
        refine lMn_1 E (j := (40 + i)) (i := i) rfl (by omega) dX6_isSo_27 ?_
        refine J_top (x' := y 9 0 i) (Eq.trans (upG_n (by decide)) (upG_n (by decide))) ?_
        refine J_istore E (lv' := [(5, .int (y 9 0 i)), (0, .ref (b 0)), (1, .int (nI 1)), (2, .int (nI j)), (3, .int t), (4, .int (nI i))]) dX6_isSo_28 (by decide) rfl ?_
        refine J_iload_n E dX6_isSo_30 rfl 4 rfl ?_
        refine J_if_eq E (tgt := 55) dX6_isSo_31 (by decide) (fun c_31 => ?_) (fun c_31 => ?_)
        · skip
          refine J_iconst E dX6_isSo_55 ic_0 ?_
          refine J_istore_n E (lv' := [(3, .int 0), (5, .int (y 9 0 i)), (0, .ref (b 0)), (1, .int (nI 1)), (2, .int (nI j)), (4, .int (nI i))]) dX6_isSo_56 rfl (by decide) rfl ?_
          refine J_aload_n E dX6_isSo_57 rfl 2 rfl ?_
          refine J_cVv0 E (As := []) (c_X6_anHour l G b (upG (upG y 5 d) 0 r) (by rw [hr]; exact okQ_hs hok i)) cl_X6_138 yo_X6_anHour dX6_isSo_58 rfl rfl rfl (Nat.le_of_ble_eq_true rfl) (Nat.le_of_ble_eq_true rfl) rfl (Nat.le_of_ble_eq_true rfl) ⟨Nat.zero_le _, Nat.zero_le _⟩ ?_
          refine J_iinc E (lv' := [(4, .int (nI (i + 1))), (3, .int 0), (5, .int (y 9 0 i)), (0, .ref (b 0)), (1, .int (nI 1)), (2, .int (nI j))]) dX6_isSo_61 5 rfl (nI_inc _) (by decide) rfl ?_
          refine J_goto E (tgt := 5) dX6_isSo_64 (by decide) ?_
          refine J_lv [3, 4, 5, 1, 0] rfl ?_
          refine J_w (ws' := wM G b (upG (upG y 5 (hd5 r d)) 0 (hourR0 r))) (wM_c rfl rfl rfl rfl rfl rfl rfl rfl rfl rfl rfl) ?_
          exact ih5 (i + 1) 0 (hd5 r d) (hourR0 r) (by omega) (by rw [hr]; rfl) (by first | exact so_z hs c_31 | exact so_y hs c_31 (Or.inl c_37) | exact so_y hs c_31 (Or.inr (by rw [← hr]; exact c_48)) | exact so_n (fun z => z.elim c_37 (fun e => c_48 (by rw [hr]; exact e)))) (by omega)
        · skip
          refine J_iload E dX6_isSo_34 0 rfl ?_
          refine J_iconst E dX6_isSo_36 ic_m1 ?_
          refine J_icmp_eq E (tgt := 51) dX6_isSo_37 (by decide) (fun c_37 => ?_) (fun c_37 => ?_)
          · skip
            refine J_iconst E dX6_isSo_51 ic_1 ?_
            refine J_goto E (tgt := 56) dX6_isSo_52 (by decide) ?_
            refine J_istore_n E (lv' := [(3, .int 1), (5, .int (y 9 0 i)), (0, .ref (b 0)), (1, .int (nI 1)), (2, .int (nI j)), (4, .int (nI i))]) dX6_isSo_56 rfl (by decide) rfl ?_
            refine J_aload_n E dX6_isSo_57 rfl 2 rfl ?_
            refine J_cVv0 E (As := []) (c_X6_anHour l G b (upG (upG y 5 d) 0 r) (by rw [hr]; exact okQ_hs hok i)) cl_X6_138 yo_X6_anHour dX6_isSo_58 rfl rfl rfl (Nat.le_of_ble_eq_true rfl) (Nat.le_of_ble_eq_true rfl) rfl (Nat.le_of_ble_eq_true rfl) ⟨Nat.zero_le _, Nat.zero_le _⟩ ?_
            refine J_iinc E (lv' := [(4, .int (nI (i + 1))), (3, .int 1), (5, .int (y 9 0 i)), (0, .ref (b 0)), (1, .int (nI 1)), (2, .int (nI j))]) dX6_isSo_61 5 rfl (nI_inc _) (by decide) rfl ?_
            refine J_goto E (tgt := 5) dX6_isSo_64 (by decide) ?_
            refine J_lv [3, 4, 5, 1, 0] rfl ?_
            refine J_w (ws' := wM G b (upG (upG y 5 (hd5 r d)) 0 (hourR0 r))) (wM_c rfl rfl rfl rfl rfl rfl rfl rfl rfl rfl rfl) ?_
            exact ih5 (i + 1) 1 (hd5 r d) (hourR0 r) (by omega) (by rw [hr]; rfl) (by first | exact so_z hs c_31 | exact so_y hs c_31 (Or.inl c_37) | exact so_y hs c_31 (Or.inr (by rw [← hr]; exact c_48)) | exact so_n (fun z => z.elim c_37 (fun e => c_48 (by rw [hr]; exact e)))) (by omega)
          · skip
            refine J_iload E dX6_isSo_40 0 rfl ?_
            refine J_aload_n E dX6_isSo_42 rfl 1 rfl ?_
            refine J_iload_n E dX6_isSo_43 rfl 3 rfl ?_
            refine J_iconst E dX6_isSo_44 ic_1 ?_
            refine J_cVi0 E (As := [.int (nI j), .int 1]) (c_X6_its l G b (upG (upG y 5 d) 0 r) j 1 (by omega) (by omega)) cl_X6_64 yo_X6_its dX6_isSo_45 rfl rfl rfl (Nat.le_of_ble_eq_true rfl) (Nat.le_of_ble_eq_true rfl) rfl (Nat.le_of_ble_eq_true rfl) ⟨Nat.zero_le _, Nat.zero_le _⟩ ?_
            refine J_top (x' := r 1 j) (upG_s) ?_
            refine J_icmp_ne E (tgt := 55) dX6_isSo_48 (by decide) (fun c_48 => ?_) (fun c_48 => ?_)
            · skip
              refine J_iconst E dX6_isSo_55 ic_0 ?_
              refine J_istore_n E (lv' := [(3, .int 0), (5, .int (y 9 0 i)), (0, .ref (b 0)), (1, .int (nI 1)), (2, .int (nI j)), (4, .int (nI i))]) dX6_isSo_56 rfl (by decide) rfl ?_
              refine J_aload_n E dX6_isSo_57 rfl 2 rfl ?_
              refine J_cVv0 E (As := []) (c_X6_anHour l G b (upG (upG y 5 d) 0 r) (by rw [hr]; exact okQ_hs hok i)) cl_X6_138 yo_X6_anHour dX6_isSo_58 rfl rfl rfl (Nat.le_of_ble_eq_true rfl) (Nat.le_of_ble_eq_true rfl) rfl (Nat.le_of_ble_eq_true rfl) ⟨Nat.zero_le _, Nat.zero_le _⟩ ?_
              refine J_iinc E (lv' := [(4, .int (nI (i + 1))), (3, .int 0), (5, .int (y 9 0 i)), (0, .ref (b 0)), (1, .int (nI 1)), (2, .int (nI j))]) dX6_isSo_61 5 rfl (nI_inc _) (by decide) rfl ?_
              refine J_goto E (tgt := 5) dX6_isSo_64 (by decide) ?_
              refine J_lv [3, 4, 5, 1, 0] rfl ?_
              refine J_w (ws' := wM G b (upG (upG y 5 (hd5 r d)) 0 (hourR0 r))) (wM_c rfl rfl rfl rfl rfl rfl rfl rfl rfl rfl rfl) ?_
              exact ih5 (i + 1) 0 (hd5 r d) (hourR0 r) (by omega) (by rw [hr]; rfl) (by first | exact so_z hs c_31 | exact so_y hs c_31 (Or.inl c_37) | exact so_y hs c_31 (Or.inr (by rw [← hr]; exact c_48)) | exact so_n (fun z => z.elim c_37 (fun e => c_48 (by rw [hr]; exact e)))) (by omega)
            · skip
              refine J_iconst E dX6_isSo_51 ic_1 ?_
              refine J_goto E (tgt := 56) dX6_isSo_52 (by decide) ?_
              refine J_istore_n E (lv' := [(3, .int 1), (5, .int (y 9 0 i)), (0, .ref (b 0)), (1, .int (nI 1)), (2, .int (nI j)), (4, .int (nI i))]) dX6_isSo_56 rfl (by decide) rfl ?_
              refine J_aload_n E dX6_isSo_57 rfl 2 rfl ?_
              refine J_cVv0 E (As := []) (c_X6_anHour l G b (upG (upG y 5 d) 0 r) (by rw [hr]; exact okQ_hs hok i)) cl_X6_138 yo_X6_anHour dX6_isSo_58 rfl rfl rfl (Nat.le_of_ble_eq_true rfl) (Nat.le_of_ble_eq_true rfl) rfl (Nat.le_of_ble_eq_true rfl) ⟨Nat.zero_le _, Nat.zero_le _⟩ ?_
              refine J_iinc E (lv' := [(4, .int (nI (i + 1))), (3, .int 1), (5, .int (y 9 0 i)), (0, .ref (b 0)), (1, .int (nI 1)), (2, .int (nI j))]) dX6_isSo_61 5 rfl (nI_inc _) (by decide) rfl ?_
              refine J_goto E (tgt := 5) dX6_isSo_64 (by decide) ?_
              refine J_lv [3, 4, 5, 1, 0] rfl ?_
              refine J_w (ws' := wM G b (upG (upG y 5 (hd5 r d)) 0 (hourR0 r))) (wM_c rfl rfl rfl rfl rfl rfl rfl rfl rfl rfl rfl) ?_
              exact ih5 (i + 1) 1 (hd5 r d) (hourR0 r) (by omega) (by rw [hr]; rfl) (by first | exact so_z hs c_31 | exact so_y hs c_31 (Or.inl c_37) | exact so_y hs c_31 (Or.inr (by rw [← hr]; exact c_48)) | exact so_n (fun z => z.elim c_37 (fun e => c_48 (by rw [hr]; exact e)))) (by omega)
  refine J_lv [2, 3, 4, 1, 0] rfl ?_
  refine J_w (ws' := wM G b (upG (upG y 5 (y 5)) 0 (y 0))) (wM_c rfl rfl rfl rfl rfl rfl rfl rfl rfl rfl rfl) ?_
  exact lp5 _ 0 1 (y 5) (y 0) (by omega) rfl rfl (Nat.lt_succ_self _)

set_option maxHeartbeats 4000000 in
set_option maxRecDepth 20000 in
theorem c_X6_isSo_2 (l : Launch) (G : GB) (b : Nat → Nat) (y : Q3) (j n : Nat) (hj : j < 11) (hn : y 10 1 1 = nI n) (hn2 : n ≤ 40) (hok : okQ (y 0))  : CI l yX6_isSo cX6_isSo 6 .boolean 4 91 G [.ref (b 0), .int (nI 2), .int (nI j)] (wM G b y) (fun vR w' => vR = bI (soF (y 10 0) j (y 0) n = true) ∧ ∃ d : Q2, w' = wM G b (upG (upG y 5 d) 0 (hoursR (y 0) n))) := by
  refine CI.mk (own := RX6) (by decide) rfl (Nat.le_of_ble_eq_true rfl) ?_
  intro X E ret
  show J X G 6 0 0 (wM G b y) [(0, .ref (b 0)), (1, .int (nI 2)), (2, .int (nI j))] 0 []
  refine J_iconst E dX6_isSo_0 ic_1 ?_
  refine J_istore_n E (lv' := [(3, .int 1), (0, .ref (b 0)), (1, .int (nI 2)), (2, .int (nI j))]) dX6_isSo_1 rfl (by decide) rfl ?_
  refine J_iconst E dX6_isSo_2 ic_0 ?_
  refine J_istore E (lv' := [(4, .int 0), (3, .int 1), (0, .ref (b 0)), (1, .int (nI 2)), (2, .int (nI j))]) dX6_isSo_3 (by decide) rfl ?_
  refine J_w (ws' := wM G b (upG y 5 (y 5))) (congrArg (wM G b) upG_id.symm) ?_
  have lp5 : ∀ (fu : Nat) (i : Nat) (t : Int32) (d : Q2) (r : Q2), (i ≤ n) → (r = hoursR (y 0) i) → (t = bI (soF (y 10 0) j (y 0) i = true)) → n - i < fu → J X G 6 0 0 (wM G b (upG (upG y 5 d) 0 r)) [(0, .ref (b 0)), (1, .int (nI 2)), (2, .int (nI j)), (3, .int t), (4, .int (nI i))] 5 [] := by
    intro fu
    induction fu with
    | zero => intro i t d r hi hr hs hm; exact absurd hm (Nat.not_lt_zero _)
    | succ fu ih5 =>
      intro i t d r hi hr hs hm
      refine J_iload E dX6_isSo_5 4 rfl ?_
      refine J_aload_n E dX6_isSo_7 rfl 0 rfl ?_
      refine gM0_X6_34 E dX6_isSo_8 ?_
      refine J_iload_n E dX6_isSo_11 rfl 1 rfl ?_
      refine lMz_2 E  dX6_isSo_12 ?_
      refine J_top (x' := y 10 1 1) (Eq.trans (upG_n (by decide)) (upG_n (by decide))) ?_
      refine J_top (x' := nI n) (hn) ?_
      refine J_icmp_ge E (tgt := 67) dX6_isSo_13 (by decide) (fun c_13 => ?_) (fun c_13 => ?_)
      · skip
        have n_13 : n ≤ i := cmp_le (a := n) (b := i) (by omega) (by omega) c_13
        refine J_iload_n E dX6_isSo_67 rfl 3 rfl ?_
        exact ret _ _ _ _ ⟨by rw [hs, show i = n by omega], d, by subst hr; rw [show n = i by omega]⟩ (by rw [hs]; exact bI_nar) dX6_isSo_68
      · skip
        have n_13 : ¬ n ≤ i := cmp_nle (a := n) (b := i) (by omega) (by omega) c_13
        refine J_aload_n E dX6_isSo_16 rfl 0 rfl ?_
        refine gM0_X6_37 E dX6_isSo_17 ?_
        refine J_bipush E dX6_isSo_20 bp_40 ?_
        refine J_iload_n E dX6_isSo_22 rfl 1 rfl ?_
        refine J_imul E dX6_isSo_23 ?_
        refine J_top (x' := nI 80) (by decide) ?_
        refine J_iload E dX6_isSo_24 4 rfl ?_
        refine J_iadd E dX6_isSo_26 ?_
        refine J_top (x' := nI (80 + i)) (nI_add 80 i) ?_
        refine lMn_2 E (j := (80 + i)) (i := i) rfl (by omega) dX6_isSo_27 ?_
        refine J_top (x' := y 10 0 i) (Eq.trans (upG_n (by decide)) (upG_n (by decide))) ?_
        refine J_istore E (lv' := [(5, .int (y 10 0 i)), (0, .ref (b 0)), (1, .int (nI 2)), (2, .int (nI j)), (3, .int t), (4, .int (nI i))]) dX6_isSo_28 (by decide) rfl ?_
        refine J_iload_n E dX6_isSo_30 rfl 4 rfl ?_
        refine J_if_eq E (tgt := 55) dX6_isSo_31 (by decide) (fun c_31 => ?_) (fun c_31 => ?_)
        · skip
          refine J_iconst E dX6_isSo_55 ic_0 ?_
          refine J_istore_n E (lv' := [(3, .int 0), (5, .int (y 10 0 i)), (0, .ref (b 0)), (1, .int (nI 2)), (2, .int (nI j)), (4, .int (nI i))]) dX6_isSo_56 rfl (by decide) rfl ?_
          refine J_aload_n E dX6_isSo_57 rfl 2 rfl ?_
          refine J_cVv0 E (As := []) (c_X6_anHour l G b (upG (upG y 5 d) 0 r) (by rw [hr]; exact okQ_hs hok i)) cl_X6_138 yo_X6_anHour dX6_isSo_58 rfl rfl rfl (Nat.le_of_ble_eq_true rfl) (Nat.le_of_ble_eq_true rfl) rfl (Nat.le_of_ble_eq_true rfl) ⟨Nat.zero_le _, Nat.zero_le _⟩ ?_
          refine J_iinc E (lv' := [(4, .int (nI (i + 1))), (3, .int 0), (5, .int (y 10 0 i)), (0, .ref (b 0)), (1, .int (nI 2)), (2, .int (nI j))]) dX6_isSo_61 5 rfl (nI_inc _) (by decide) rfl ?_
          refine J_goto E (tgt := 5) dX6_isSo_64 (by decide) ?_
          refine J_lv [3, 4, 5, 1, 0] rfl ?_
          refine J_w (ws' := wM G b (upG (upG y 5 (hd5 r d)) 0 (hourR0 r))) (wM_c rfl rfl rfl rfl rfl rfl rfl rfl rfl rfl rfl) ?_
          exact ih5 (i + 1) 0 (hd5 r d) (hourR0 r) (by omega) (by rw [hr]; rfl) (by first | exact so_z hs c_31 | exact so_y hs c_31 (Or.inl c_37) | exact so_y hs c_31 (Or.inr (by rw [← hr]; exact c_48)) | exact so_n (fun z => z.elim c_37 (fun e => c_48 (by rw [hr]; exact e)))) (by omega)
        · skip
          refine J_iload E dX6_isSo_34 0 rfl ?_
          refine J_iconst E dX6_isSo_36 ic_m1 ?_
          refine J_icmp_eq E (tgt := 51) dX6_isSo_37 (by decide) (fun c_37 => ?_) (fun c_37 => ?_)
          · skip
            refine J_iconst E dX6_isSo_51 ic_1 ?_
            refine J_goto E (tgt := 56) dX6_isSo_52 (by decide) ?_
            refine J_istore_n E (lv' := [(3, .int 1), (5, .int (y 10 0 i)), (0, .ref (b 0)), (1, .int (nI 2)), (2, .int (nI j)), (4, .int (nI i))]) dX6_isSo_56 rfl (by decide) rfl ?_
            refine J_aload_n E dX6_isSo_57 rfl 2 rfl ?_
            refine J_cVv0 E (As := []) (c_X6_anHour l G b (upG (upG y 5 d) 0 r) (by rw [hr]; exact okQ_hs hok i)) cl_X6_138 yo_X6_anHour dX6_isSo_58 rfl rfl rfl (Nat.le_of_ble_eq_true rfl) (Nat.le_of_ble_eq_true rfl) rfl (Nat.le_of_ble_eq_true rfl) ⟨Nat.zero_le _, Nat.zero_le _⟩ ?_
            refine J_iinc E (lv' := [(4, .int (nI (i + 1))), (3, .int 1), (5, .int (y 10 0 i)), (0, .ref (b 0)), (1, .int (nI 2)), (2, .int (nI j))]) dX6_isSo_61 5 rfl (nI_inc _) (by decide) rfl ?_
            refine J_goto E (tgt := 5) dX6_isSo_64 (by decide) ?_
            refine J_lv [3, 4, 5, 1, 0] rfl ?_
            refine J_w (ws' := wM G b (upG (upG y 5 (hd5 r d)) 0 (hourR0 r))) (wM_c rfl rfl rfl rfl rfl rfl rfl rfl rfl rfl rfl) ?_
            exact ih5 (i + 1) 1 (hd5 r d) (hourR0 r) (by omega) (by rw [hr]; rfl) (by first | exact so_z hs c_31 | exact so_y hs c_31 (Or.inl c_37) | exact so_y hs c_31 (Or.inr (by rw [← hr]; exact c_48)) | exact so_n (fun z => z.elim c_37 (fun e => c_48 (by rw [hr]; exact e)))) (by omega)
          · skip
            refine J_iload E dX6_isSo_40 0 rfl ?_
            refine J_aload_n E dX6_isSo_42 rfl 1 rfl ?_
            refine J_iload_n E dX6_isSo_43 rfl 3 rfl ?_
            refine J_iconst E dX6_isSo_44 ic_1 ?_
            refine J_cVi0 E (As := [.int (nI j), .int 1]) (c_X6_its l G b (upG (upG y 5 d) 0 r) j 1 (by omega) (by omega)) cl_X6_64 yo_X6_its dX6_isSo_45 rfl rfl rfl (Nat.le_of_ble_eq_true rfl) (Nat.le_of_ble_eq_true rfl) rfl (Nat.le_of_ble_eq_true rfl) ⟨Nat.zero_le _, Nat.zero_le _⟩ ?_
            refine J_top (x' := r 1 j) (upG_s) ?_
            refine J_icmp_ne E (tgt := 55) dX6_isSo_48 (by decide) (fun c_48 => ?_) (fun c_48 => ?_)
            · skip
              refine J_iconst E dX6_isSo_55 ic_0 ?_
              refine J_istore_n E (lv' := [(3, .int 0), (5, .int (y 10 0 i)), (0, .ref (b 0)), (1, .int (nI 2)), (2, .int (nI j)), (4, .int (nI i))]) dX6_isSo_56 rfl (by decide) rfl ?_
              refine J_aload_n E dX6_isSo_57 rfl 2 rfl ?_
              refine J_cVv0 E (As := []) (c_X6_anHour l G b (upG (upG y 5 d) 0 r) (by rw [hr]; exact okQ_hs hok i)) cl_X6_138 yo_X6_anHour dX6_isSo_58 rfl rfl rfl (Nat.le_of_ble_eq_true rfl) (Nat.le_of_ble_eq_true rfl) rfl (Nat.le_of_ble_eq_true rfl) ⟨Nat.zero_le _, Nat.zero_le _⟩ ?_
              refine J_iinc E (lv' := [(4, .int (nI (i + 1))), (3, .int 0), (5, .int (y 10 0 i)), (0, .ref (b 0)), (1, .int (nI 2)), (2, .int (nI j))]) dX6_isSo_61 5 rfl (nI_inc _) (by decide) rfl ?_
              refine J_goto E (tgt := 5) dX6_isSo_64 (by decide) ?_
              refine J_lv [3, 4, 5, 1, 0] rfl ?_
              refine J_w (ws' := wM G b (upG (upG y 5 (hd5 r d)) 0 (hourR0 r))) (wM_c rfl rfl rfl rfl rfl rfl rfl rfl rfl rfl rfl) ?_
              exact ih5 (i + 1) 0 (hd5 r d) (hourR0 r) (by omega) (by rw [hr]; rfl) (by first | exact so_z hs c_31 | exact so_y hs c_31 (Or.inl c_37) | exact so_y hs c_31 (Or.inr (by rw [← hr]; exact c_48)) | exact so_n (fun z => z.elim c_37 (fun e => c_48 (by rw [hr]; exact e)))) (by omega)
            · skip
              refine J_iconst E dX6_isSo_51 ic_1 ?_
              refine J_goto E (tgt := 56) dX6_isSo_52 (by decide) ?_
              refine J_istore_n E (lv' := [(3, .int 1), (5, .int (y 10 0 i)), (0, .ref (b 0)), (1, .int (nI 2)), (2, .int (nI j)), (4, .int (nI i))]) dX6_isSo_56 rfl (by decide) rfl ?_
              refine J_aload_n E dX6_isSo_57 rfl 2 rfl ?_
              refine J_cVv0 E (As := []) (c_X6_anHour l G b (upG (upG y 5 d) 0 r) (by rw [hr]; exact okQ_hs hok i)) cl_X6_138 yo_X6_anHour dX6_isSo_58 rfl rfl rfl (Nat.le_of_ble_eq_true rfl) (Nat.le_of_ble_eq_true rfl) rfl (Nat.le_of_ble_eq_true rfl) ⟨Nat.zero_le _, Nat.zero_le _⟩ ?_
              refine J_iinc E (lv' := [(4, .int (nI (i + 1))), (3, .int 1), (5, .int (y 10 0 i)), (0, .ref (b 0)), (1, .int (nI 2)), (2, .int (nI j))]) dX6_isSo_61 5 rfl (nI_inc _) (by decide) rfl ?_
              refine J_goto E (tgt := 5) dX6_isSo_64 (by decide) ?_
              refine J_lv [3, 4, 5, 1, 0] rfl ?_
              refine J_w (ws' := wM G b (upG (upG y 5 (hd5 r d)) 0 (hourR0 r))) (wM_c rfl rfl rfl rfl rfl rfl rfl rfl rfl rfl rfl) ?_
              exact ih5 (i + 1) 1 (hd5 r d) (hourR0 r) (by omega) (by rw [hr]; rfl) (by first | exact so_z hs c_31 | exact so_y hs c_31 (Or.inl c_37) | exact so_y hs c_31 (Or.inr (by rw [← hr]; exact c_48)) | exact so_n (fun z => z.elim c_37 (fun e => c_48 (by rw [hr]; exact e)))) (by omega)
  refine J_lv [2, 3, 4, 1, 0] rfl ?_
  refine J_w (ws' := wM G b (upG (upG y 5 (y 5)) 0 (y 0))) (wM_c rfl rfl rfl rfl rfl rfl rfl rfl rfl rfl rfl) ?_
  exact lp5 _ 0 1 (y 5) (y 0) (by omega) rfl rfl (Nat.lt_succ_self _)

set_option maxHeartbeats 4000000 in
set_option maxRecDepth 20000 in
theorem c_X6_isSo_3 (l : Launch) (G : GB) (b : Nat → Nat) (y : Q3) (j n : Nat) (hj : j < 11) (hn : y 11 1 1 = nI n) (hn2 : n ≤ 40) (hok : okQ (y 0))  : CI l yX6_isSo cX6_isSo 6 .boolean 4 91 G [.ref (b 0), .int (nI 3), .int (nI j)] (wM G b y) (fun vR w' => vR = bI (soF (y 11 0) j (y 0) n = true) ∧ ∃ d : Q2, w' = wM G b (upG (upG y 5 d) 0 (hoursR (y 0) n))) := by
  refine CI.mk (own := RX6) (by decide) rfl (Nat.le_of_ble_eq_true rfl) ?_
  intro X E ret
  show J X G 6 0 0 (wM G b y) [(0, .ref (b 0)), (1, .int (nI 3)), (2, .int (nI j))] 0 []
  refine J_iconst E dX6_isSo_0 ic_1 ?_
  refine J_istore_n E (lv' := [(3, .int 1), (0, .ref (b 0)), (1, .int (nI 3)), (2, .int (nI j))]) dX6_isSo_1 rfl (by decide) rfl ?_
  refine J_iconst E dX6_isSo_2 ic_0 ?_
  refine J_istore E (lv' := [(4, .int 0), (3, .int 1), (0, .ref (b 0)), (1, .int (nI 3)), (2, .int (nI j))]) dX6_isSo_3 (by decide) rfl ?_
  refine J_w (ws' := wM G b (upG y 5 (y 5))) (congrArg (wM G b) upG_id.symm) ?_
  have lp5 : ∀ (fu : Nat) (i : Nat) (t : Int32) (d : Q2) (r : Q2), (i ≤ n) → (r = hoursR (y 0) i) → (t = bI (soF (y 11 0) j (y 0) i = true)) → n - i < fu → J X G 6 0 0 (wM G b (upG (upG y 5 d) 0 r)) [(0, .ref (b 0)), (1, .int (nI 3)), (2, .int (nI j)), (3, .int t), (4, .int (nI i))] 5 [] := by
    intro fu
    induction fu with
    | zero => intro i t d r hi hr hs hm; exact absurd hm (Nat.not_lt_zero _)
    | succ fu ih5 =>
      intro i t d r hi hr hs hm
      refine J_iload E dX6_isSo_5 4 rfl ?_
      refine J_aload_n E dX6_isSo_7 rfl 0 rfl ?_
      refine gM0_X6_34 E dX6_isSo_8 ?_
      refine J_iload_n E dX6_isSo_11 rfl 1 rfl ?_
      refine lMz_3 E  dX6_isSo_12 ?_
      refine J_top (x' := y 11 1 1) (Eq.trans (upG_n (by decide)) (upG_n (by decide))) ?_
      refine J_top (x' := nI n) (hn) ?_
      refine J_icmp_ge E (tgt := 67) dX6_isSo_13 (by decide) (fun c_13 => ?_) (fun c_13 => ?_)
      · skip
        have n_13 : n ≤ i := cmp_le (a := n) (b := i) (by omega) (by omega) c_13
        refine J_iload_n E dX6_isSo_67 rfl 3 rfl ?_
        exact ret _ _ _ _ ⟨by rw [hs, show i = n by omega], d, by subst hr; rw [show n = i by omega]⟩ (by rw [hs]; exact bI_nar) dX6_isSo_68
      · skip
        have n_13 : ¬ n ≤ i := cmp_nle (a := n) (b := i) (by omega) (by omega) c_13
        refine J_aload_n E dX6_isSo_16 rfl 0 rfl ?_
        refine gM0_X6_37 E dX6_isSo_17 ?_
        refine J_bipush E dX6_isSo_20 bp_40 ?_
        refine J_iload_n E dX6_isSo_22 rfl 1 rfl ?_
        refine J_imul E dX6_isSo_23 ?_
        refine J_top (x' := nI 120) (by decide) ?_
        refine J_iload E dX6_isSo_24 4 rfl ?_
        refine J_iadd E dX6_isSo_26 ?_
        refine J_top (x' := nI (120 + i)) (nI_add 120 i) ?_
        refine lMn_3 E (j := (120 + i)) (i := i) rfl (by omega) dX6_isSo_27 ?_
        refine J_top (x' := y 11 0 i) (Eq.trans (upG_n (by decide)) (upG_n (by decide))) ?_
        refine J_istore E (lv' := [(5, .int (y 11 0 i)), (0, .ref (b 0)), (1, .int (nI 3)), (2, .int (nI j)), (3, .int t), (4, .int (nI i))]) dX6_isSo_28 (by decide) rfl ?_
        refine J_iload_n E dX6_isSo_30 rfl 4 rfl ?_
        refine J_if_eq E (tgt := 55) dX6_isSo_31 (by decide) (fun c_31 => ?_) (fun c_31 => ?_)
        · skip
          refine J_iconst E dX6_isSo_55 ic_0 ?_
          refine J_istore_n E (lv' := [(3, .int 0), (5, .int (y 11 0 i)), (0, .ref (b 0)), (1, .int (nI 3)), (2, .int (nI j)), (4, .int (nI i))]) dX6_isSo_56 rfl (by decide) rfl ?_
          refine J_aload_n E dX6_isSo_57 rfl 2 rfl ?_
          refine J_cVv0 E (As := []) (c_X6_anHour l G b (upG (upG y 5 d) 0 r) (by rw [hr]; exact okQ_hs hok i)) cl_X6_138 yo_X6_anHour dX6_isSo_58 rfl rfl rfl (Nat.le_of_ble_eq_true rfl) (Nat.le_of_ble_eq_true rfl) rfl (Nat.le_of_ble_eq_true rfl) ⟨Nat.zero_le _, Nat.zero_le _⟩ ?_
          refine J_iinc E (lv' := [(4, .int (nI (i + 1))), (3, .int 0), (5, .int (y 11 0 i)), (0, .ref (b 0)), (1, .int (nI 3)), (2, .int (nI j))]) dX6_isSo_61 5 rfl (nI_inc _) (by decide) rfl ?_
          refine J_goto E (tgt := 5) dX6_isSo_64 (by decide) ?_
          refine J_lv [3, 4, 5, 1, 0] rfl ?_
          refine J_w (ws' := wM G b (upG (upG y 5 (hd5 r d)) 0 (hourR0 r))) (wM_c rfl rfl rfl rfl rfl rfl rfl rfl rfl rfl rfl) ?_
          exact ih5 (i + 1) 0 (hd5 r d) (hourR0 r) (by omega) (by rw [hr]; rfl) (by first | exact so_z hs c_31 | exact so_y hs c_31 (Or.inl c_37) | exact so_y hs c_31 (Or.inr (by rw [← hr]; exact c_48)) | exact so_n (fun z => z.elim c_37 (fun e => c_48 (by rw [hr]; exact e)))) (by omega)
        · skip
          refine J_iload E dX6_isSo_34 0 rfl ?_
          refine J_iconst E dX6_isSo_36 ic_m1 ?_
          refine J_icmp_eq E (tgt := 51) dX6_isSo_37 (by decide) (fun c_37 => ?_) (fun c_37 => ?_)
          · skip
            refine J_iconst E dX6_isSo_51 ic_1 ?_
            refine J_goto E (tgt := 56) dX6_isSo_52 (by decide) ?_
            refine J_istore_n E (lv' := [(3, .int 1), (5, .int (y 11 0 i)), (0, .ref (b 0)), (1, .int (nI 3)), (2, .int (nI j)), (4, .int (nI i))]) dX6_isSo_56 rfl (by decide) rfl ?_
            refine J_aload_n E dX6_isSo_57 rfl 2 rfl ?_
            refine J_cVv0 E (As := []) (c_X6_anHour l G b (upG (upG y 5 d) 0 r) (by rw [hr]; exact okQ_hs hok i)) cl_X6_138 yo_X6_anHour dX6_isSo_58 rfl rfl rfl (Nat.le_of_ble_eq_true rfl) (Nat.le_of_ble_eq_true rfl) rfl (Nat.le_of_ble_eq_true rfl) ⟨Nat.zero_le _, Nat.zero_le _⟩ ?_
            refine J_iinc E (lv' := [(4, .int (nI (i + 1))), (3, .int 1), (5, .int (y 11 0 i)), (0, .ref (b 0)), (1, .int (nI 3)), (2, .int (nI j))]) dX6_isSo_61 5 rfl (nI_inc _) (by decide) rfl ?_
            refine J_goto E (tgt := 5) dX6_isSo_64 (by decide) ?_
            refine J_lv [3, 4, 5, 1, 0] rfl ?_
            refine J_w (ws' := wM G b (upG (upG y 5 (hd5 r d)) 0 (hourR0 r))) (wM_c rfl rfl rfl rfl rfl rfl rfl rfl rfl rfl rfl) ?_
            exact ih5 (i + 1) 1 (hd5 r d) (hourR0 r) (by omega) (by rw [hr]; rfl) (by first | exact so_z hs c_31 | exact so_y hs c_31 (Or.inl c_37) | exact so_y hs c_31 (Or.inr (by rw [← hr]; exact c_48)) | exact so_n (fun z => z.elim c_37 (fun e => c_48 (by rw [hr]; exact e)))) (by omega)
          · skip
            refine J_iload E dX6_isSo_40 0 rfl ?_
            refine J_aload_n E dX6_isSo_42 rfl 1 rfl ?_
            refine J_iload_n E dX6_isSo_43 rfl 3 rfl ?_
            refine J_iconst E dX6_isSo_44 ic_1 ?_
            refine J_cVi0 E (As := [.int (nI j), .int 1]) (c_X6_its l G b (upG (upG y 5 d) 0 r) j 1 (by omega) (by omega)) cl_X6_64 yo_X6_its dX6_isSo_45 rfl rfl rfl (Nat.le_of_ble_eq_true rfl) (Nat.le_of_ble_eq_true rfl) rfl (Nat.le_of_ble_eq_true rfl) ⟨Nat.zero_le _, Nat.zero_le _⟩ ?_
            refine J_top (x' := r 1 j) (upG_s) ?_
            refine J_icmp_ne E (tgt := 55) dX6_isSo_48 (by decide) (fun c_48 => ?_) (fun c_48 => ?_)
            · skip
              refine J_iconst E dX6_isSo_55 ic_0 ?_
              refine J_istore_n E (lv' := [(3, .int 0), (5, .int (y 11 0 i)), (0, .ref (b 0)), (1, .int (nI 3)), (2, .int (nI j)), (4, .int (nI i))]) dX6_isSo_56 rfl (by decide) rfl ?_
              refine J_aload_n E dX6_isSo_57 rfl 2 rfl ?_
              refine J_cVv0 E (As := []) (c_X6_anHour l G b (upG (upG y 5 d) 0 r) (by rw [hr]; exact okQ_hs hok i)) cl_X6_138 yo_X6_anHour dX6_isSo_58 rfl rfl rfl (Nat.le_of_ble_eq_true rfl) (Nat.le_of_ble_eq_true rfl) rfl (Nat.le_of_ble_eq_true rfl) ⟨Nat.zero_le _, Nat.zero_le _⟩ ?_
              refine J_iinc E (lv' := [(4, .int (nI (i + 1))), (3, .int 0), (5, .int (y 11 0 i)), (0, .ref (b 0)), (1, .int (nI 3)), (2, .int (nI j))]) dX6_isSo_61 5 rfl (nI_inc _) (by decide) rfl ?_
              refine J_goto E (tgt := 5) dX6_isSo_64 (by decide) ?_
              refine J_lv [3, 4, 5, 1, 0] rfl ?_
              refine J_w (ws' := wM G b (upG (upG y 5 (hd5 r d)) 0 (hourR0 r))) (wM_c rfl rfl rfl rfl rfl rfl rfl rfl rfl rfl rfl) ?_
              exact ih5 (i + 1) 0 (hd5 r d) (hourR0 r) (by omega) (by rw [hr]; rfl) (by first | exact so_z hs c_31 | exact so_y hs c_31 (Or.inl c_37) | exact so_y hs c_31 (Or.inr (by rw [← hr]; exact c_48)) | exact so_n (fun z => z.elim c_37 (fun e => c_48 (by rw [hr]; exact e)))) (by omega)
            · skip
              refine J_iconst E dX6_isSo_51 ic_1 ?_
              refine J_goto E (tgt := 56) dX6_isSo_52 (by decide) ?_
              refine J_istore_n E (lv' := [(3, .int 1), (5, .int (y 11 0 i)), (0, .ref (b 0)), (1, .int (nI 3)), (2, .int (nI j)), (4, .int (nI i))]) dX6_isSo_56 rfl (by decide) rfl ?_
              refine J_aload_n E dX6_isSo_57 rfl 2 rfl ?_
              refine J_cVv0 E (As := []) (c_X6_anHour l G b (upG (upG y 5 d) 0 r) (by rw [hr]; exact okQ_hs hok i)) cl_X6_138 yo_X6_anHour dX6_isSo_58 rfl rfl rfl (Nat.le_of_ble_eq_true rfl) (Nat.le_of_ble_eq_true rfl) rfl (Nat.le_of_ble_eq_true rfl) ⟨Nat.zero_le _, Nat.zero_le _⟩ ?_
              refine J_iinc E (lv' := [(4, .int (nI (i + 1))), (3, .int 1), (5, .int (y 11 0 i)), (0, .ref (b 0)), (1, .int (nI 3)), (2, .int (nI j))]) dX6_isSo_61 5 rfl (nI_inc _) (by decide) rfl ?_
              refine J_goto E (tgt := 5) dX6_isSo_64 (by decide) ?_
              refine J_lv [3, 4, 5, 1, 0] rfl ?_
              refine J_w (ws' := wM G b (upG (upG y 5 (hd5 r d)) 0 (hourR0 r))) (wM_c rfl rfl rfl rfl rfl rfl rfl rfl rfl rfl rfl) ?_
              exact ih5 (i + 1) 1 (hd5 r d) (hourR0 r) (by omega) (by rw [hr]; rfl) (by first | exact so_z hs c_31 | exact so_y hs c_31 (Or.inl c_37) | exact so_y hs c_31 (Or.inr (by rw [← hr]; exact c_48)) | exact so_n (fun z => z.elim c_37 (fun e => c_48 (by rw [hr]; exact e)))) (by omega)
  refine J_lv [2, 3, 4, 1, 0] rfl ?_
  refine J_w (ws' := wM G b (upG (upG y 5 (y 5)) 0 (y 0))) (wM_c rfl rfl rfl rfl rfl rfl rfl rfl rfl rfl rfl) ?_
  exact lp5 _ 0 1 (y 5) (y 0) (by omega) rfl rfl (Nat.lt_succ_self _)

set_option maxHeartbeats 4000000 in
set_option maxRecDepth 20000 in
theorem c_X6_turned_out (l : Launch) (G : GB) (b : Nat → Nat) (y : Q3) (s h : Int32) (hs : ¬ (0 ≤ s ∧ s ≤ 3)) : CI l yX6_turned cX6_turned 6 .int 4 89 G [.ref (b 0), .int s, .int h] (wM G b y) (fun vR w' => vR = tellR 0 ∧ PubM G b (tellX y 0) w') := by
  refine CI.mk (own := RX6) (by decide) rfl (Nat.le_of_ble_eq_true rfl) ?_
  intro X E ret
  show J X G 6 0 0 (wM G b y) [(0, .ref (b 0)), (1, .int s), (2, .int h)] 0 []
  refine J_aload_n E dX6_turned_0 rfl 0 rfl ?_
  refine J_iload_n E dX6_turned_1 rfl 1 rfl ?_
  refine J_iload_n E dX6_turned_2 rfl 2 rfl ?_
  refine J_cVi0 E (As := [.int s, .int h]) (c_X6_lacksHouse_out l G b y s h hs ) cl_X6_200 yo_X6_lacksHouse dX6_turned_3 rfl rfl rfl (Nat.le_of_ble_eq_true rfl) (Nat.le_of_ble_eq_true rfl) rfl (Nat.le_of_ble_eq_true rfl) ⟨Nat.zero_le _, Nat.zero_le _⟩ ?_
  refine J_istore_n E (lv' := [(3, .int 0), (0, .ref (b 0)), (1, .int s), (2, .int h)]) dX6_turned_6 rfl (by decide) rfl ?_
  refine J_iload_n E dX6_turned_7 rfl 0 rfl ?_
  refine J_if_lt E (tgt := 17) dX6_turned_8 (by decide) (fun c_8 => ?_) (fun c_8 => ?_)
  · skip
    have n_8 : 0 < 0 := cmp_lt (a := 0) (b := 0) (by omega) (by omega) c_8
    exact absurd n_8 (by decide)
  · skip
    have n_8 : ¬ 0 < 0 := cmp_nlt (a := 0) (b := 0) (by omega) (by omega) c_8
    refine J_aload_n E dX6_turned_11 rfl 1 rfl ?_
    refine J_iload_n E dX6_turned_12 rfl 0 rfl ?_
    refine J_cVi0 E (As := [.int 0]) (c_X6_finds l G b y 0 (by omega)) cl_X6_96 yo_X6_finds dX6_turned_13 rfl rfl rfl (Nat.le_of_ble_eq_true rfl) (Nat.le_of_ble_eq_true rfl) rfl (Nat.le_of_ble_eq_true rfl) ⟨Nat.zero_le _, Nat.zero_le _⟩ ?_
    exact ret _ _ _ _ ⟨rfl, _, rfl, by intro g h2 h5 h6; by_cases h0 : g = 0 <;> simp [tellX, upG, up3, up3R, up2, h0, h2, h5, h6]⟩ rfl dX6_turned_16

set_option maxHeartbeats 4000000 in
set_option maxRecDepth 20000 in
theorem c_X6_turned_miss_0 (l : Launch) (G : GB) (b : Nat → Nat) (y : Q3) (h : Int32) (hb : y 8 1 0 = 0) : CI l yX6_turned cX6_turned 6 .int 4 89 G [.ref (b 0), .int (nI 0), .int h] (wM G b y) (fun vR w' => vR = tellR 5 ∧ PubM G b (tellX y 5) w') := by
  refine CI.mk (own := RX6) (by decide) rfl (Nat.le_of_ble_eq_true rfl) ?_
  intro X E ret
  show J X G 6 0 0 (wM G b y) [(0, .ref (b 0)), (1, .int (nI 0)), (2, .int h)] 0 []
  refine J_aload_n E dX6_turned_0 rfl 0 rfl ?_
  refine J_iload_n E dX6_turned_1 rfl 1 rfl ?_
  refine J_iload_n E dX6_turned_2 rfl 2 rfl ?_
  refine J_cVi0 E (As := [.int (nI 0), .int h]) (c_X6_lacksHouse_0_0 l G b y h hb ) cl_X6_200 yo_X6_lacksHouse dX6_turned_3 rfl rfl rfl (Nat.le_of_ble_eq_true rfl) (Nat.le_of_ble_eq_true rfl) rfl (Nat.le_of_ble_eq_true rfl) ⟨Nat.zero_le _, Nat.zero_le _⟩ ?_
  refine J_istore_n E (lv' := [(3, .int 5), (0, .ref (b 0)), (1, .int (nI 0)), (2, .int h)]) dX6_turned_6 rfl (by decide) rfl ?_
  refine J_iload_n E dX6_turned_7 rfl 0 rfl ?_
  refine J_if_lt E (tgt := 17) dX6_turned_8 (by decide) (fun c_8 => ?_) (fun c_8 => ?_)
  · skip
    have n_8 : 5 < 0 := cmp_lt (a := 5) (b := 0) (by omega) (by omega) c_8
    exact absurd n_8 (by decide)
  · skip
    have n_8 : ¬ 5 < 0 := cmp_nlt (a := 5) (b := 0) (by omega) (by omega) c_8
    refine J_aload_n E dX6_turned_11 rfl 1 rfl ?_
    refine J_iload_n E dX6_turned_12 rfl 0 rfl ?_
    refine J_cVi0 E (As := [.int 5]) (c_X6_finds l G b y 5 (by omega)) cl_X6_96 yo_X6_finds dX6_turned_13 rfl rfl rfl (Nat.le_of_ble_eq_true rfl) (Nat.le_of_ble_eq_true rfl) rfl (Nat.le_of_ble_eq_true rfl) ⟨Nat.zero_le _, Nat.zero_le _⟩ ?_
    exact ret _ _ _ _ ⟨rfl, _, rfl, by intro g h2 h5 h6; by_cases h0 : g = 0 <;> simp [tellX, upG, up3, up3R, up2, h0, h2, h5, h6]⟩ rfl dX6_turned_16

set_option maxHeartbeats 4000000 in
set_option maxRecDepth 20000 in
theorem c_X6_turned_bad_0 (l : Launch) (G : GB) (b : Nat → Nat) (y : Q3) (h : Int32) (hb : ¬ y 8 1 0 = 0) (hh : ¬ okH h) : CI l yX6_turned cX6_turned 6 .int 4 89 G [.ref (b 0), .int (nI 0), .int h] (wM G b y) (fun vR w' => vR = tellR 0 ∧ PubM G b (tellX y 0) w') := by
  refine CI.mk (own := RX6) (by decide) rfl (Nat.le_of_ble_eq_true rfl) ?_
  intro X E ret
  show J X G 6 0 0 (wM G b y) [(0, .ref (b 0)), (1, .int (nI 0)), (2, .int h)] 0 []
  refine J_aload_n E dX6_turned_0 rfl 0 rfl ?_
  refine J_iload_n E dX6_turned_1 rfl 1 rfl ?_
  refine J_iload_n E dX6_turned_2 rfl 2 rfl ?_
  refine J_cVi0 E (As := [.int (nI 0), .int h]) (c_X6_lacksHouse_0_2 l G b y h hb hh ) cl_X6_200 yo_X6_lacksHouse dX6_turned_3 rfl rfl rfl (Nat.le_of_ble_eq_true rfl) (Nat.le_of_ble_eq_true rfl) rfl (Nat.le_of_ble_eq_true rfl) ⟨Nat.zero_le _, Nat.zero_le _⟩ ?_
  refine J_istore_n E (lv' := [(3, .int 0), (0, .ref (b 0)), (1, .int (nI 0)), (2, .int h)]) dX6_turned_6 rfl (by decide) rfl ?_
  refine J_iload_n E dX6_turned_7 rfl 0 rfl ?_
  refine J_if_lt E (tgt := 17) dX6_turned_8 (by decide) (fun c_8 => ?_) (fun c_8 => ?_)
  · skip
    have n_8 : 0 < 0 := cmp_lt (a := 0) (b := 0) (by omega) (by omega) c_8
    exact absurd n_8 (by decide)
  · skip
    have n_8 : ¬ 0 < 0 := cmp_nlt (a := 0) (b := 0) (by omega) (by omega) c_8
    refine J_aload_n E dX6_turned_11 rfl 1 rfl ?_
    refine J_iload_n E dX6_turned_12 rfl 0 rfl ?_
    refine J_cVi0 E (As := [.int 0]) (c_X6_finds l G b y 0 (by omega)) cl_X6_96 yo_X6_finds dX6_turned_13 rfl rfl rfl (Nat.le_of_ble_eq_true rfl) (Nat.le_of_ble_eq_true rfl) rfl (Nat.le_of_ble_eq_true rfl) ⟨Nat.zero_le _, Nat.zero_le _⟩ ?_
    exact ret _ _ _ _ ⟨rfl, _, rfl, by intro g h2 h5 h6; by_cases h0 : g = 0 <;> simp [tellX, upG, up3, up3R, up2, h0, h2, h5, h6]⟩ rfl dX6_turned_16

set_option maxHeartbeats 4000000 in
set_option maxRecDepth 20000 in
theorem c_X6_turned_ok_0 (l : Launch) (G : GB) (b : Nat → Nat) (y : Q3) (j n : Nat) (hb : ¬ y 8 1 0 = 0) (hj : j < 11) (hn : y 8 1 1 = nI n) (hn2 : n ≤ 40) (hok : okQ (y 0))  : CI l yX6_turned cX6_turned 6 .int 5 116 G [.ref (b 0), .int (nI 0), .int (nI j)] (wM G b y) (fun vR w' => vR = setF (fun o => soF (y 8 0) j (turn1 (y 0) o) n) 11 ∧ PubM G b y w') := by
  refine CI.mk (own := RX6) (by decide) rfl (Nat.le_of_ble_eq_true rfl) ?_
  intro X E ret
  show J X G 6 0 0 (wM G b y) [(0, .ref (b 0)), (1, .int (nI 0)), (2, .int (nI j))] 0 []
  refine J_aload_n E dX6_turned_0 rfl 0 rfl ?_
  refine J_iload_n E dX6_turned_1 rfl 1 rfl ?_
  refine J_iload_n E dX6_turned_2 rfl 2 rfl ?_
  refine J_cVi0 E (As := [.int (nI 0), .int (nI j)]) (c_X6_lacksHouse_0_1 l G b y (nI j) hb (inB (a := j) (b := 10) (by omega) (by decide)) ) cl_X6_200 yo_X6_lacksHouse dX6_turned_3 rfl rfl rfl (Nat.le_of_ble_eq_true rfl) (Nat.le_of_ble_eq_true rfl) rfl (Nat.le_of_ble_eq_true rfl) ⟨Nat.zero_le _, Nat.zero_le _⟩ ?_
  refine J_istore_n E (lv' := [(3, .int (-1)), (0, .ref (b 0)), (1, .int (nI 0)), (2, .int (nI j))]) dX6_turned_6 rfl (by decide) rfl ?_
  refine J_iload_n E dX6_turned_7 rfl 0 rfl ?_
  refine J_if_lt E (tgt := 17) dX6_turned_8 (by decide) (fun c_8 => ?_) (fun c_8 => ?_)
  · skip
    refine J_iconst E dX6_turned_17 ic_0 ?_
    refine J_istore E (lv' := [(4, .int 0), (3, .int (-1)), (0, .ref (b 0)), (1, .int (nI 0)), (2, .int (nI j))]) dX6_turned_18 (by decide) rfl ?_
    refine J_iconst E dX6_turned_20 ic_0 ?_
    refine J_istore E (lv' := [(5, .int 0), (4, .int 0), (3, .int (-1)), (0, .ref (b 0)), (1, .int (nI 0)), (2, .int (nI j))]) dX6_turned_21 (by decide) rfl ?_
    refine J_w (ws' := wM G b (upG y 5 (y 5))) (congrArg (wM G b) upG_id.symm) ?_
    have lp23 : ∀ (fu : Nat) (o : Nat) (t : Int32) (d : Q2) (z : Q2), (o ≤ 11) → (t = setF (fun o => soF (y 8 0) j (turn1 (y 0) o) n) o) → 11 - o < fu → J X G 6 0 0 (wM G b (upG (upG y 5 d) 2 z)) [(0, .ref (b 0)), (1, .int (nI 0)), (2, .int (nI j)), (4, .int t), (5, .int (nI o))] 23 [] := by
      intro fu
      induction fu with
      | zero => intro o t d z hi h1 hm; exact absurd hm (Nat.not_lt_zero _)
      | succ fu ih23 =>
        intro o t d z hi h1 hm
        refine J_iload E dX6_turned_23 4 rfl ?_
        refine J_bipush E dX6_turned_25 bp_11 ?_
        refine J_icmp_ge E (tgt := 72) dX6_turned_27 (by decide) (fun c_27 => ?_) (fun c_27 => ?_)
        · skip
          have n_27 : 11 ≤ o := cmp_le (a := 11) (b := o) (by omega) (by omega) c_27
          refine J_iload E dX6_turned_72 3 rfl ?_
          exact ret _ _ _ _ ⟨by rw [h1, show o = 11 by omega], _, rfl, by intro g h2 h5 h6; by_cases h0 : g = 0 <;> simp [tellX, upG, up3, up3R, up2, h0, h2, h5, h6]⟩ rfl dX6_turned_74
        · skip
          have n_27 : ¬ 11 ≤ o := cmp_nle (a := 11) (b := o) (by omega) (by omega) c_27
          refine J_aload_n E dX6_turned_30 rfl 0 rfl ?_
          refine J_cVv0 E (As := []) (c_X6_lends l G b (upG (upG y 5 d) 2 z) ) cl_X6_160 yo_X6_lends dX6_turned_31 rfl rfl rfl (Nat.le_of_ble_eq_true rfl) (Nat.le_of_ble_eq_true rfl) rfl (Nat.le_of_ble_eq_true rfl) ⟨Nat.zero_le _, Nat.zero_le _⟩ ?_
          refine J_aload_n E dX6_turned_34 rfl 0 rfl ?_
          refine J_iload E dX6_turned_35 4 rfl ?_
          refine J_cVv0 E (As := [.int (nI o)]) (c_X6_turns l G b (upG (upG (upG y 5 d) 2 z) 2 (y 0)) o (by omega)) cl_X6_186 yo_X6_turns dX6_turned_37 rfl rfl rfl (Nat.le_of_ble_eq_true rfl) (Nat.le_of_ble_eq_true rfl) rfl (Nat.le_of_ble_eq_true rfl) ⟨Nat.zero_le _, Nat.zero_le _⟩ ?_
          refine J_iload E dX6_turned_40 3 rfl ?_
          refine J_aload_n E dX6_turned_42 rfl 0 rfl ?_
          refine J_iload_n E dX6_turned_43 rfl 1 rfl ?_
          refine J_iload_n E dX6_turned_44 rfl 2 rfl ?_
          refine J_callEi E (As := [.int (nI 0), .int (nI j)]) (c_X6_isSo_0 l G b (upG (upG (upG (upG y 5 d) 2 z) 2 (y 0)) 0 (turn1 (y 0) o)) j n hj hn hn2 (okQ_1 hok _ (by omega))) cl_X6_203 yo_X6_isSo dX6_turned_45 rfl (Nat.le_of_ble_eq_true rfl) (Nat.le_of_ble_eq_true rfl) rfl (Nat.le_of_ble_eq_true rfl) ⟨Nat.zero_le _, Nat.zero_le _⟩ (fun d45_1 => ?_)
          refine J_w (ws' := wM G b (upG (upG (upG (upG (upG (upG y 5 d) 2 z) 2 (y 0)) 0 (turn1 (y 0) o)) 5 d45_1) 0 (hoursR (turn1 (y 0) o) n))) (wM_c rfl rfl rfl rfl rfl rfl rfl rfl rfl rfl rfl) ?_
          refine J_top (x' := bI (soF (y 8 0) j (turn1 (y 0) o) n = true)) rfl ?_
          refine J_if_eq E (tgt := 58) dX6_turned_48 (by decide) (fun c_48 => ?_) (fun c_48 => ?_)
          · skip
            have c_48 := bI_0 c_48
            refine J_iconst E dX6_turned_58 ic_0 ?_
            refine J_ior E dX6_turned_59 ?_
            refine J_istore E (lv' := [(4, .int (t ||| 0)), (0, .ref (b 0)), (1, .int (nI 0)), (2, .int (nI j)), (5, .int (nI o))]) dX6_turned_60 (by decide) rfl ?_
            refine J_aload_n E dX6_turned_62 rfl 1 rfl ?_
            refine J_cVv0 E (As := []) (c_X6_laysBack l G b (upG (upG (upG (upG (upG (upG y 5 d) 2 z) 2 (y 0)) 0 (turn1 (y 0) o)) 5 d45_1) 0 (hoursR (turn1 (y 0) o) n)) ) cl_X6_163 yo_X6_laysBack dX6_turned_63 rfl rfl rfl (Nat.le_of_ble_eq_true rfl) (Nat.le_of_ble_eq_true rfl) rfl (Nat.le_of_ble_eq_true rfl) ⟨Nat.zero_le _, Nat.zero_le _⟩ ?_
            refine J_iinc E (lv' := [(5, .int (nI (o + 1))), (4, .int (t ||| 0)), (0, .ref (b 0)), (1, .int (nI 0)), (2, .int (nI j))]) dX6_turned_66 4 rfl (nI_inc _) (by decide) rfl ?_
            refine J_goto E (tgt := 23) dX6_turned_69 (by decide) ?_
            refine J_lv [2, 3, 4, 1, 0] rfl ?_
            refine J_w (ws' := wM G b (upG (upG y 5 d45_1) 2 (y 0))) (wM_c rfl rfl rfl rfl rfl rfl rfl rfl rfl rfl rfl) ?_
            exact ih23 (o + 1) (t ||| 0) d45_1 (y 0) (by omega) (by rw [h1, setF]; first | (rw [if_pos c_48]; rfl) | (rw [if_neg c_48, or_0])) (by omega)
          · skip
            have c_48 := bI_1 c_48
            refine J_iconst E dX6_turned_51 ic_1 ?_
            refine J_iload E dX6_turned_52 4 rfl ?_
            refine J_ishl E dX6_turned_54 ?_
            refine J_goto E (tgt := 59) dX6_turned_55 (by decide) ?_
            refine J_ior E dX6_turned_59 ?_
            refine J_istore E (lv' := [(4, .int (t ||| (1 <<< ((nI o) &&& 31)))), (0, .ref (b 0)), (1, .int (nI 0)), (2, .int (nI j)), (5, .int (nI o))]) dX6_turned_60 (by decide) rfl ?_
            refine J_aload_n E dX6_turned_62 rfl 1 rfl ?_
            refine J_cVv0 E (As := []) (c_X6_laysBack l G b (upG (upG (upG (upG (upG (upG y 5 d) 2 z) 2 (y 0)) 0 (turn1 (y 0) o)) 5 d45_1) 0 (hoursR (turn1 (y 0) o) n)) ) cl_X6_163 yo_X6_laysBack dX6_turned_63 rfl rfl rfl (Nat.le_of_ble_eq_true rfl) (Nat.le_of_ble_eq_true rfl) rfl (Nat.le_of_ble_eq_true rfl) ⟨Nat.zero_le _, Nat.zero_le _⟩ ?_
            refine J_iinc E (lv' := [(5, .int (nI (o + 1))), (4, .int (t ||| (1 <<< ((nI o) &&& 31)))), (0, .ref (b 0)), (1, .int (nI 0)), (2, .int (nI j))]) dX6_turned_66 4 rfl (nI_inc _) (by decide) rfl ?_
            refine J_goto E (tgt := 23) dX6_turned_69 (by decide) ?_
            refine J_lv [2, 3, 4, 1, 0] rfl ?_
            refine J_w (ws' := wM G b (upG (upG y 5 d45_1) 2 (y 0))) (wM_c rfl rfl rfl rfl rfl rfl rfl rfl rfl rfl rfl) ?_
            exact ih23 (o + 1) (t ||| (1 <<< ((nI o) &&& 31))) d45_1 (y 0) (by omega) (by rw [h1, setF]; first | (rw [if_pos c_48]; rfl) | (rw [if_neg c_48, or_0])) (by omega)
    refine J_lv [3, 4, 5, 1, 0] rfl ?_
    refine J_w (ws' := wM G b (upG (upG y 5 (y 5)) 2 (y 2))) (wM_c rfl rfl rfl rfl rfl rfl rfl rfl rfl rfl rfl) ?_
    exact lp23 _ 0 0 (y 5) (y 2) (by omega) rfl (Nat.lt_succ_self _)
  · skip
    exact absurd c_8 (by decide)

set_option maxHeartbeats 4000000 in
set_option maxRecDepth 20000 in
theorem c_X6_turned_miss_1 (l : Launch) (G : GB) (b : Nat → Nat) (y : Q3) (h : Int32) (hb : y 9 1 0 = 0) : CI l yX6_turned cX6_turned 6 .int 4 89 G [.ref (b 0), .int (nI 1), .int h] (wM G b y) (fun vR w' => vR = tellR 5 ∧ PubM G b (tellX y 5) w') := by
  refine CI.mk (own := RX6) (by decide) rfl (Nat.le_of_ble_eq_true rfl) ?_
  intro X E ret
  show J X G 6 0 0 (wM G b y) [(0, .ref (b 0)), (1, .int (nI 1)), (2, .int h)] 0 []
  refine J_aload_n E dX6_turned_0 rfl 0 rfl ?_
  refine J_iload_n E dX6_turned_1 rfl 1 rfl ?_
  refine J_iload_n E dX6_turned_2 rfl 2 rfl ?_
  refine J_cVi0 E (As := [.int (nI 1), .int h]) (c_X6_lacksHouse_1_0 l G b y h hb ) cl_X6_200 yo_X6_lacksHouse dX6_turned_3 rfl rfl rfl (Nat.le_of_ble_eq_true rfl) (Nat.le_of_ble_eq_true rfl) rfl (Nat.le_of_ble_eq_true rfl) ⟨Nat.zero_le _, Nat.zero_le _⟩ ?_
  refine J_istore_n E (lv' := [(3, .int 5), (0, .ref (b 0)), (1, .int (nI 1)), (2, .int h)]) dX6_turned_6 rfl (by decide) rfl ?_
  refine J_iload_n E dX6_turned_7 rfl 0 rfl ?_
  refine J_if_lt E (tgt := 17) dX6_turned_8 (by decide) (fun c_8 => ?_) (fun c_8 => ?_)
  · skip
    have n_8 : 5 < 0 := cmp_lt (a := 5) (b := 0) (by omega) (by omega) c_8
    exact absurd n_8 (by decide)
  · skip
    have n_8 : ¬ 5 < 0 := cmp_nlt (a := 5) (b := 0) (by omega) (by omega) c_8
    refine J_aload_n E dX6_turned_11 rfl 1 rfl ?_
    refine J_iload_n E dX6_turned_12 rfl 0 rfl ?_
    refine J_cVi0 E (As := [.int 5]) (c_X6_finds l G b y 5 (by omega)) cl_X6_96 yo_X6_finds dX6_turned_13 rfl rfl rfl (Nat.le_of_ble_eq_true rfl) (Nat.le_of_ble_eq_true rfl) rfl (Nat.le_of_ble_eq_true rfl) ⟨Nat.zero_le _, Nat.zero_le _⟩ ?_
    exact ret _ _ _ _ ⟨rfl, _, rfl, by intro g h2 h5 h6; by_cases h0 : g = 0 <;> simp [tellX, upG, up3, up3R, up2, h0, h2, h5, h6]⟩ rfl dX6_turned_16

set_option maxHeartbeats 4000000 in
set_option maxRecDepth 20000 in
theorem c_X6_turned_bad_1 (l : Launch) (G : GB) (b : Nat → Nat) (y : Q3) (h : Int32) (hb : ¬ y 9 1 0 = 0) (hh : ¬ okH h) : CI l yX6_turned cX6_turned 6 .int 4 89 G [.ref (b 0), .int (nI 1), .int h] (wM G b y) (fun vR w' => vR = tellR 0 ∧ PubM G b (tellX y 0) w') := by
  refine CI.mk (own := RX6) (by decide) rfl (Nat.le_of_ble_eq_true rfl) ?_
  intro X E ret
  show J X G 6 0 0 (wM G b y) [(0, .ref (b 0)), (1, .int (nI 1)), (2, .int h)] 0 []
  refine J_aload_n E dX6_turned_0 rfl 0 rfl ?_
  refine J_iload_n E dX6_turned_1 rfl 1 rfl ?_
  refine J_iload_n E dX6_turned_2 rfl 2 rfl ?_
  refine J_cVi0 E (As := [.int (nI 1), .int h]) (c_X6_lacksHouse_1_2 l G b y h hb hh ) cl_X6_200 yo_X6_lacksHouse dX6_turned_3 rfl rfl rfl (Nat.le_of_ble_eq_true rfl) (Nat.le_of_ble_eq_true rfl) rfl (Nat.le_of_ble_eq_true rfl) ⟨Nat.zero_le _, Nat.zero_le _⟩ ?_
  refine J_istore_n E (lv' := [(3, .int 0), (0, .ref (b 0)), (1, .int (nI 1)), (2, .int h)]) dX6_turned_6 rfl (by decide) rfl ?_
  refine J_iload_n E dX6_turned_7 rfl 0 rfl ?_
  refine J_if_lt E (tgt := 17) dX6_turned_8 (by decide) (fun c_8 => ?_) (fun c_8 => ?_)
  · skip
    have n_8 : 0 < 0 := cmp_lt (a := 0) (b := 0) (by omega) (by omega) c_8
    exact absurd n_8 (by decide)
  · skip
    have n_8 : ¬ 0 < 0 := cmp_nlt (a := 0) (b := 0) (by omega) (by omega) c_8
    refine J_aload_n E dX6_turned_11 rfl 1 rfl ?_
    refine J_iload_n E dX6_turned_12 rfl 0 rfl ?_
    refine J_cVi0 E (As := [.int 0]) (c_X6_finds l G b y 0 (by omega)) cl_X6_96 yo_X6_finds dX6_turned_13 rfl rfl rfl (Nat.le_of_ble_eq_true rfl) (Nat.le_of_ble_eq_true rfl) rfl (Nat.le_of_ble_eq_true rfl) ⟨Nat.zero_le _, Nat.zero_le _⟩ ?_
    exact ret _ _ _ _ ⟨rfl, _, rfl, by intro g h2 h5 h6; by_cases h0 : g = 0 <;> simp [tellX, upG, up3, up3R, up2, h0, h2, h5, h6]⟩ rfl dX6_turned_16

set_option maxHeartbeats 4000000 in
set_option maxRecDepth 20000 in
theorem c_X6_turned_ok_1 (l : Launch) (G : GB) (b : Nat → Nat) (y : Q3) (j n : Nat) (hb : ¬ y 9 1 0 = 0) (hj : j < 11) (hn : y 9 1 1 = nI n) (hn2 : n ≤ 40) (hok : okQ (y 0))  : CI l yX6_turned cX6_turned 6 .int 5 116 G [.ref (b 0), .int (nI 1), .int (nI j)] (wM G b y) (fun vR w' => vR = setF (fun o => soF (y 9 0) j (turn1 (y 0) o) n) 11 ∧ PubM G b y w') := by
  refine CI.mk (own := RX6) (by decide) rfl (Nat.le_of_ble_eq_true rfl) ?_
  intro X E ret
  show J X G 6 0 0 (wM G b y) [(0, .ref (b 0)), (1, .int (nI 1)), (2, .int (nI j))] 0 []
  refine J_aload_n E dX6_turned_0 rfl 0 rfl ?_
  refine J_iload_n E dX6_turned_1 rfl 1 rfl ?_
  refine J_iload_n E dX6_turned_2 rfl 2 rfl ?_
  refine J_cVi0 E (As := [.int (nI 1), .int (nI j)]) (c_X6_lacksHouse_1_1 l G b y (nI j) hb (inB (a := j) (b := 10) (by omega) (by decide)) ) cl_X6_200 yo_X6_lacksHouse dX6_turned_3 rfl rfl rfl (Nat.le_of_ble_eq_true rfl) (Nat.le_of_ble_eq_true rfl) rfl (Nat.le_of_ble_eq_true rfl) ⟨Nat.zero_le _, Nat.zero_le _⟩ ?_
  refine J_istore_n E (lv' := [(3, .int (-1)), (0, .ref (b 0)), (1, .int (nI 1)), (2, .int (nI j))]) dX6_turned_6 rfl (by decide) rfl ?_
  refine J_iload_n E dX6_turned_7 rfl 0 rfl ?_
  refine J_if_lt E (tgt := 17) dX6_turned_8 (by decide) (fun c_8 => ?_) (fun c_8 => ?_)
  · skip
    refine J_iconst E dX6_turned_17 ic_0 ?_
    refine J_istore E (lv' := [(4, .int 0), (3, .int (-1)), (0, .ref (b 0)), (1, .int (nI 1)), (2, .int (nI j))]) dX6_turned_18 (by decide) rfl ?_
    refine J_iconst E dX6_turned_20 ic_0 ?_
    refine J_istore E (lv' := [(5, .int 0), (4, .int 0), (3, .int (-1)), (0, .ref (b 0)), (1, .int (nI 1)), (2, .int (nI j))]) dX6_turned_21 (by decide) rfl ?_
    refine J_w (ws' := wM G b (upG y 5 (y 5))) (congrArg (wM G b) upG_id.symm) ?_
    have lp23 : ∀ (fu : Nat) (o : Nat) (t : Int32) (d : Q2) (z : Q2), (o ≤ 11) → (t = setF (fun o => soF (y 9 0) j (turn1 (y 0) o) n) o) → 11 - o < fu → J X G 6 0 0 (wM G b (upG (upG y 5 d) 2 z)) [(0, .ref (b 0)), (1, .int (nI 1)), (2, .int (nI j)), (4, .int t), (5, .int (nI o))] 23 [] := by
      intro fu
      induction fu with
      | zero => intro o t d z hi h1 hm; exact absurd hm (Nat.not_lt_zero _)
      | succ fu ih23 =>
        intro o t d z hi h1 hm
        refine J_iload E dX6_turned_23 4 rfl ?_
        refine J_bipush E dX6_turned_25 bp_11 ?_
        refine J_icmp_ge E (tgt := 72) dX6_turned_27 (by decide) (fun c_27 => ?_) (fun c_27 => ?_)
        · skip
          have n_27 : 11 ≤ o := cmp_le (a := 11) (b := o) (by omega) (by omega) c_27
          refine J_iload E dX6_turned_72 3 rfl ?_
          exact ret _ _ _ _ ⟨by rw [h1, show o = 11 by omega], _, rfl, by intro g h2 h5 h6; by_cases h0 : g = 0 <;> simp [tellX, upG, up3, up3R, up2, h0, h2, h5, h6]⟩ rfl dX6_turned_74
        · skip
          have n_27 : ¬ 11 ≤ o := cmp_nle (a := 11) (b := o) (by omega) (by omega) c_27
          refine J_aload_n E dX6_turned_30 rfl 0 rfl ?_
          refine J_cVv0 E (As := []) (c_X6_lends l G b (upG (upG y 5 d) 2 z) ) cl_X6_160 yo_X6_lends dX6_turned_31 rfl rfl rfl (Nat.le_of_ble_eq_true rfl) (Nat.le_of_ble_eq_true rfl) rfl (Nat.le_of_ble_eq_true rfl) ⟨Nat.zero_le _, Nat.zero_le _⟩ ?_
          refine J_aload_n E dX6_turned_34 rfl 0 rfl ?_
          refine J_iload E dX6_turned_35 4 rfl ?_
          refine J_cVv0 E (As := [.int (nI o)]) (c_X6_turns l G b (upG (upG (upG y 5 d) 2 z) 2 (y 0)) o (by omega)) cl_X6_186 yo_X6_turns dX6_turned_37 rfl rfl rfl (Nat.le_of_ble_eq_true rfl) (Nat.le_of_ble_eq_true rfl) rfl (Nat.le_of_ble_eq_true rfl) ⟨Nat.zero_le _, Nat.zero_le _⟩ ?_
          refine J_iload E dX6_turned_40 3 rfl ?_
          refine J_aload_n E dX6_turned_42 rfl 0 rfl ?_
          refine J_iload_n E dX6_turned_43 rfl 1 rfl ?_
          refine J_iload_n E dX6_turned_44 rfl 2 rfl ?_
          refine J_callEi E (As := [.int (nI 1), .int (nI j)]) (c_X6_isSo_1 l G b (upG (upG (upG (upG y 5 d) 2 z) 2 (y 0)) 0 (turn1 (y 0) o)) j n hj hn hn2 (okQ_1 hok _ (by omega))) cl_X6_203 yo_X6_isSo dX6_turned_45 rfl (Nat.le_of_ble_eq_true rfl) (Nat.le_of_ble_eq_true rfl) rfl (Nat.le_of_ble_eq_true rfl) ⟨Nat.zero_le _, Nat.zero_le _⟩ (fun d45_1 => ?_)
          refine J_w (ws' := wM G b (upG (upG (upG (upG (upG (upG y 5 d) 2 z) 2 (y 0)) 0 (turn1 (y 0) o)) 5 d45_1) 0 (hoursR (turn1 (y 0) o) n))) (wM_c rfl rfl rfl rfl rfl rfl rfl rfl rfl rfl rfl) ?_
          refine J_top (x' := bI (soF (y 9 0) j (turn1 (y 0) o) n = true)) rfl ?_
          refine J_if_eq E (tgt := 58) dX6_turned_48 (by decide) (fun c_48 => ?_) (fun c_48 => ?_)
          · skip
            have c_48 := bI_0 c_48
            refine J_iconst E dX6_turned_58 ic_0 ?_
            refine J_ior E dX6_turned_59 ?_
            refine J_istore E (lv' := [(4, .int (t ||| 0)), (0, .ref (b 0)), (1, .int (nI 1)), (2, .int (nI j)), (5, .int (nI o))]) dX6_turned_60 (by decide) rfl ?_
            refine J_aload_n E dX6_turned_62 rfl 1 rfl ?_
            refine J_cVv0 E (As := []) (c_X6_laysBack l G b (upG (upG (upG (upG (upG (upG y 5 d) 2 z) 2 (y 0)) 0 (turn1 (y 0) o)) 5 d45_1) 0 (hoursR (turn1 (y 0) o) n)) ) cl_X6_163 yo_X6_laysBack dX6_turned_63 rfl rfl rfl (Nat.le_of_ble_eq_true rfl) (Nat.le_of_ble_eq_true rfl) rfl (Nat.le_of_ble_eq_true rfl) ⟨Nat.zero_le _, Nat.zero_le _⟩ ?_
            refine J_iinc E (lv' := [(5, .int (nI (o + 1))), (4, .int (t ||| 0)), (0, .ref (b 0)), (1, .int (nI 1)), (2, .int (nI j))]) dX6_turned_66 4 rfl (nI_inc _) (by decide) rfl ?_
            refine J_goto E (tgt := 23) dX6_turned_69 (by decide) ?_
            refine J_lv [2, 3, 4, 1, 0] rfl ?_
            refine J_w (ws' := wM G b (upG (upG y 5 d45_1) 2 (y 0))) (wM_c rfl rfl rfl rfl rfl rfl rfl rfl rfl rfl rfl) ?_
            exact ih23 (o + 1) (t ||| 0) d45_1 (y 0) (by omega) (by rw [h1, setF]; first | (rw [if_pos c_48]; rfl) | (rw [if_neg c_48, or_0])) (by omega)
          · skip
            have c_48 := bI_1 c_48
            refine J_iconst E dX6_turned_51 ic_1 ?_
            refine J_iload E dX6_turned_52 4 rfl ?_
            refine J_ishl E dX6_turned_54 ?_
            refine J_goto E (tgt := 59) dX6_turned_55 (by decide) ?_
            refine J_ior E dX6_turned_59 ?_
            refine J_istore E (lv' := [(4, .int (t ||| (1 <<< ((nI o) &&& 31)))), (0, .ref (b 0)), (1, .int (nI 1)), (2, .int (nI j)), (5, .int (nI o))]) dX6_turned_60 (by decide) rfl ?_
            refine J_aload_n E dX6_turned_62 rfl 1 rfl ?_
            refine J_cVv0 E (As := []) (c_X6_laysBack l G b (upG (upG (upG (upG (upG (upG y 5 d) 2 z) 2 (y 0)) 0 (turn1 (y 0) o)) 5 d45_1) 0 (hoursR (turn1 (y 0) o) n)) ) cl_X6_163 yo_X6_laysBack dX6_turned_63 rfl rfl rfl (Nat.le_of_ble_eq_true rfl) (Nat.le_of_ble_eq_true rfl) rfl (Nat.le_of_ble_eq_true rfl) ⟨Nat.zero_le _, Nat.zero_le _⟩ ?_
            refine J_iinc E (lv' := [(5, .int (nI (o + 1))), (4, .int (t ||| (1 <<< ((nI o) &&& 31)))), (0, .ref (b 0)), (1, .int (nI 1)), (2, .int (nI j))]) dX6_turned_66 4 rfl (nI_inc _) (by decide) rfl ?_
            refine J_goto E (tgt := 23) dX6_turned_69 (by decide) ?_
            refine J_lv [2, 3, 4, 1, 0] rfl ?_
            refine J_w (ws' := wM G b (upG (upG y 5 d45_1) 2 (y 0))) (wM_c rfl rfl rfl rfl rfl rfl rfl rfl rfl rfl rfl) ?_
            exact ih23 (o + 1) (t ||| (1 <<< ((nI o) &&& 31))) d45_1 (y 0) (by omega) (by rw [h1, setF]; first | (rw [if_pos c_48]; rfl) | (rw [if_neg c_48, or_0])) (by omega)
    refine J_lv [3, 4, 5, 1, 0] rfl ?_
    refine J_w (ws' := wM G b (upG (upG y 5 (y 5)) 2 (y 2))) (wM_c rfl rfl rfl rfl rfl rfl rfl rfl rfl rfl rfl) ?_
    exact lp23 _ 0 0 (y 5) (y 2) (by omega) rfl (Nat.lt_succ_self _)
  · skip
    exact absurd c_8 (by decide)

set_option maxHeartbeats 4000000 in
set_option maxRecDepth 20000 in
theorem c_X6_turned_miss_2 (l : Launch) (G : GB) (b : Nat → Nat) (y : Q3) (h : Int32) (hb : y 10 1 0 = 0) : CI l yX6_turned cX6_turned 6 .int 4 89 G [.ref (b 0), .int (nI 2), .int h] (wM G b y) (fun vR w' => vR = tellR 5 ∧ PubM G b (tellX y 5) w') := by
  refine CI.mk (own := RX6) (by decide) rfl (Nat.le_of_ble_eq_true rfl) ?_
  intro X E ret
  show J X G 6 0 0 (wM G b y) [(0, .ref (b 0)), (1, .int (nI 2)), (2, .int h)] 0 []
  refine J_aload_n E dX6_turned_0 rfl 0 rfl ?_
  refine J_iload_n E dX6_turned_1 rfl 1 rfl ?_
  refine J_iload_n E dX6_turned_2 rfl 2 rfl ?_
  refine J_cVi0 E (As := [.int (nI 2), .int h]) (c_X6_lacksHouse_2_0 l G b y h hb ) cl_X6_200 yo_X6_lacksHouse dX6_turned_3 rfl rfl rfl (Nat.le_of_ble_eq_true rfl) (Nat.le_of_ble_eq_true rfl) rfl (Nat.le_of_ble_eq_true rfl) ⟨Nat.zero_le _, Nat.zero_le _⟩ ?_
  refine J_istore_n E (lv' := [(3, .int 5), (0, .ref (b 0)), (1, .int (nI 2)), (2, .int h)]) dX6_turned_6 rfl (by decide) rfl ?_
  refine J_iload_n E dX6_turned_7 rfl 0 rfl ?_
  refine J_if_lt E (tgt := 17) dX6_turned_8 (by decide) (fun c_8 => ?_) (fun c_8 => ?_)
  · skip
    have n_8 : 5 < 0 := cmp_lt (a := 5) (b := 0) (by omega) (by omega) c_8
    exact absurd n_8 (by decide)
  · skip
    have n_8 : ¬ 5 < 0 := cmp_nlt (a := 5) (b := 0) (by omega) (by omega) c_8
    refine J_aload_n E dX6_turned_11 rfl 1 rfl ?_
    refine J_iload_n E dX6_turned_12 rfl 0 rfl ?_
    refine J_cVi0 E (As := [.int 5]) (c_X6_finds l G b y 5 (by omega)) cl_X6_96 yo_X6_finds dX6_turned_13 rfl rfl rfl (Nat.le_of_ble_eq_true rfl) (Nat.le_of_ble_eq_true rfl) rfl (Nat.le_of_ble_eq_true rfl) ⟨Nat.zero_le _, Nat.zero_le _⟩ ?_
    exact ret _ _ _ _ ⟨rfl, _, rfl, by intro g h2 h5 h6; by_cases h0 : g = 0 <;> simp [tellX, upG, up3, up3R, up2, h0, h2, h5, h6]⟩ rfl dX6_turned_16

set_option maxHeartbeats 4000000 in
set_option maxRecDepth 20000 in
theorem c_X6_turned_bad_2 (l : Launch) (G : GB) (b : Nat → Nat) (y : Q3) (h : Int32) (hb : ¬ y 10 1 0 = 0) (hh : ¬ okH h) : CI l yX6_turned cX6_turned 6 .int 4 89 G [.ref (b 0), .int (nI 2), .int h] (wM G b y) (fun vR w' => vR = tellR 0 ∧ PubM G b (tellX y 0) w') := by
  refine CI.mk (own := RX6) (by decide) rfl (Nat.le_of_ble_eq_true rfl) ?_
  intro X E ret
  show J X G 6 0 0 (wM G b y) [(0, .ref (b 0)), (1, .int (nI 2)), (2, .int h)] 0 []
  refine J_aload_n E dX6_turned_0 rfl 0 rfl ?_
  refine J_iload_n E dX6_turned_1 rfl 1 rfl ?_
  refine J_iload_n E dX6_turned_2 rfl 2 rfl ?_
  refine J_cVi0 E (As := [.int (nI 2), .int h]) (c_X6_lacksHouse_2_2 l G b y h hb hh ) cl_X6_200 yo_X6_lacksHouse dX6_turned_3 rfl rfl rfl (Nat.le_of_ble_eq_true rfl) (Nat.le_of_ble_eq_true rfl) rfl (Nat.le_of_ble_eq_true rfl) ⟨Nat.zero_le _, Nat.zero_le _⟩ ?_
  refine J_istore_n E (lv' := [(3, .int 0), (0, .ref (b 0)), (1, .int (nI 2)), (2, .int h)]) dX6_turned_6 rfl (by decide) rfl ?_
  refine J_iload_n E dX6_turned_7 rfl 0 rfl ?_
  refine J_if_lt E (tgt := 17) dX6_turned_8 (by decide) (fun c_8 => ?_) (fun c_8 => ?_)
  · skip
    have n_8 : 0 < 0 := cmp_lt (a := 0) (b := 0) (by omega) (by omega) c_8
    exact absurd n_8 (by decide)
  · skip
    have n_8 : ¬ 0 < 0 := cmp_nlt (a := 0) (b := 0) (by omega) (by omega) c_8
    refine J_aload_n E dX6_turned_11 rfl 1 rfl ?_
    refine J_iload_n E dX6_turned_12 rfl 0 rfl ?_
    refine J_cVi0 E (As := [.int 0]) (c_X6_finds l G b y 0 (by omega)) cl_X6_96 yo_X6_finds dX6_turned_13 rfl rfl rfl (Nat.le_of_ble_eq_true rfl) (Nat.le_of_ble_eq_true rfl) rfl (Nat.le_of_ble_eq_true rfl) ⟨Nat.zero_le _, Nat.zero_le _⟩ ?_
    exact ret _ _ _ _ ⟨rfl, _, rfl, by intro g h2 h5 h6; by_cases h0 : g = 0 <;> simp [tellX, upG, up3, up3R, up2, h0, h2, h5, h6]⟩ rfl dX6_turned_16

set_option maxHeartbeats 4000000 in
set_option maxRecDepth 20000 in
theorem c_X6_turned_ok_2 (l : Launch) (G : GB) (b : Nat → Nat) (y : Q3) (j n : Nat) (hb : ¬ y 10 1 0 = 0) (hj : j < 11) (hn : y 10 1 1 = nI n) (hn2 : n ≤ 40) (hok : okQ (y 0))  : CI l yX6_turned cX6_turned 6 .int 5 116 G [.ref (b 0), .int (nI 2), .int (nI j)] (wM G b y) (fun vR w' => vR = setF (fun o => soF (y 10 0) j (turn1 (y 0) o) n) 11 ∧ PubM G b y w') := by
  refine CI.mk (own := RX6) (by decide) rfl (Nat.le_of_ble_eq_true rfl) ?_
  intro X E ret
  show J X G 6 0 0 (wM G b y) [(0, .ref (b 0)), (1, .int (nI 2)), (2, .int (nI j))] 0 []
  refine J_aload_n E dX6_turned_0 rfl 0 rfl ?_
  refine J_iload_n E dX6_turned_1 rfl 1 rfl ?_
  refine J_iload_n E dX6_turned_2 rfl 2 rfl ?_
  refine J_cVi0 E (As := [.int (nI 2), .int (nI j)]) (c_X6_lacksHouse_2_1 l G b y (nI j) hb (inB (a := j) (b := 10) (by omega) (by decide)) ) cl_X6_200 yo_X6_lacksHouse dX6_turned_3 rfl rfl rfl (Nat.le_of_ble_eq_true rfl) (Nat.le_of_ble_eq_true rfl) rfl (Nat.le_of_ble_eq_true rfl) ⟨Nat.zero_le _, Nat.zero_le _⟩ ?_
  refine J_istore_n E (lv' := [(3, .int (-1)), (0, .ref (b 0)), (1, .int (nI 2)), (2, .int (nI j))]) dX6_turned_6 rfl (by decide) rfl ?_
  refine J_iload_n E dX6_turned_7 rfl 0 rfl ?_
  refine J_if_lt E (tgt := 17) dX6_turned_8 (by decide) (fun c_8 => ?_) (fun c_8 => ?_)
  · skip
    refine J_iconst E dX6_turned_17 ic_0 ?_
    refine J_istore E (lv' := [(4, .int 0), (3, .int (-1)), (0, .ref (b 0)), (1, .int (nI 2)), (2, .int (nI j))]) dX6_turned_18 (by decide) rfl ?_
    refine J_iconst E dX6_turned_20 ic_0 ?_
    refine J_istore E (lv' := [(5, .int 0), (4, .int 0), (3, .int (-1)), (0, .ref (b 0)), (1, .int (nI 2)), (2, .int (nI j))]) dX6_turned_21 (by decide) rfl ?_
    refine J_w (ws' := wM G b (upG y 5 (y 5))) (congrArg (wM G b) upG_id.symm) ?_
    have lp23 : ∀ (fu : Nat) (o : Nat) (t : Int32) (d : Q2) (z : Q2), (o ≤ 11) → (t = setF (fun o => soF (y 10 0) j (turn1 (y 0) o) n) o) → 11 - o < fu → J X G 6 0 0 (wM G b (upG (upG y 5 d) 2 z)) [(0, .ref (b 0)), (1, .int (nI 2)), (2, .int (nI j)), (4, .int t), (5, .int (nI o))] 23 [] := by
      intro fu
      induction fu with
      | zero => intro o t d z hi h1 hm; exact absurd hm (Nat.not_lt_zero _)
      | succ fu ih23 =>
        intro o t d z hi h1 hm
        refine J_iload E dX6_turned_23 4 rfl ?_
        refine J_bipush E dX6_turned_25 bp_11 ?_
        refine J_icmp_ge E (tgt := 72) dX6_turned_27 (by decide) (fun c_27 => ?_) (fun c_27 => ?_)
        · skip
          have n_27 : 11 ≤ o := cmp_le (a := 11) (b := o) (by omega) (by omega) c_27
          refine J_iload E dX6_turned_72 3 rfl ?_
          exact ret _ _ _ _ ⟨by rw [h1, show o = 11 by omega], _, rfl, by intro g h2 h5 h6; by_cases h0 : g = 0 <;> simp [tellX, upG, up3, up3R, up2, h0, h2, h5, h6]⟩ rfl dX6_turned_74
        · skip
          have n_27 : ¬ 11 ≤ o := cmp_nle (a := 11) (b := o) (by omega) (by omega) c_27
          refine J_aload_n E dX6_turned_30 rfl 0 rfl ?_
          refine J_cVv0 E (As := []) (c_X6_lends l G b (upG (upG y 5 d) 2 z) ) cl_X6_160 yo_X6_lends dX6_turned_31 rfl rfl rfl (Nat.le_of_ble_eq_true rfl) (Nat.le_of_ble_eq_true rfl) rfl (Nat.le_of_ble_eq_true rfl) ⟨Nat.zero_le _, Nat.zero_le _⟩ ?_
          refine J_aload_n E dX6_turned_34 rfl 0 rfl ?_
          refine J_iload E dX6_turned_35 4 rfl ?_
          refine J_cVv0 E (As := [.int (nI o)]) (c_X6_turns l G b (upG (upG (upG y 5 d) 2 z) 2 (y 0)) o (by omega)) cl_X6_186 yo_X6_turns dX6_turned_37 rfl rfl rfl (Nat.le_of_ble_eq_true rfl) (Nat.le_of_ble_eq_true rfl) rfl (Nat.le_of_ble_eq_true rfl) ⟨Nat.zero_le _, Nat.zero_le _⟩ ?_
          refine J_iload E dX6_turned_40 3 rfl ?_
          refine J_aload_n E dX6_turned_42 rfl 0 rfl ?_
          refine J_iload_n E dX6_turned_43 rfl 1 rfl ?_
          refine J_iload_n E dX6_turned_44 rfl 2 rfl ?_
          refine J_callEi E (As := [.int (nI 2), .int (nI j)]) (c_X6_isSo_2 l G b (upG (upG (upG (upG y 5 d) 2 z) 2 (y 0)) 0 (turn1 (y 0) o)) j n hj hn hn2 (okQ_1 hok _ (by omega))) cl_X6_203 yo_X6_isSo dX6_turned_45 rfl (Nat.le_of_ble_eq_true rfl) (Nat.le_of_ble_eq_true rfl) rfl (Nat.le_of_ble_eq_true rfl) ⟨Nat.zero_le _, Nat.zero_le _⟩ (fun d45_1 => ?_)
          refine J_w (ws' := wM G b (upG (upG (upG (upG (upG (upG y 5 d) 2 z) 2 (y 0)) 0 (turn1 (y 0) o)) 5 d45_1) 0 (hoursR (turn1 (y 0) o) n))) (wM_c rfl rfl rfl rfl rfl rfl rfl rfl rfl rfl rfl) ?_
          refine J_top (x' := bI (soF (y 10 0) j (turn1 (y 0) o) n = true)) rfl ?_
          refine J_if_eq E (tgt := 58) dX6_turned_48 (by decide) (fun c_48 => ?_) (fun c_48 => ?_)
          · skip
            have c_48 := bI_0 c_48
            refine J_iconst E dX6_turned_58 ic_0 ?_
            refine J_ior E dX6_turned_59 ?_
            refine J_istore E (lv' := [(4, .int (t ||| 0)), (0, .ref (b 0)), (1, .int (nI 2)), (2, .int (nI j)), (5, .int (nI o))]) dX6_turned_60 (by decide) rfl ?_
            refine J_aload_n E dX6_turned_62 rfl 1 rfl ?_
            refine J_cVv0 E (As := []) (c_X6_laysBack l G b (upG (upG (upG (upG (upG (upG y 5 d) 2 z) 2 (y 0)) 0 (turn1 (y 0) o)) 5 d45_1) 0 (hoursR (turn1 (y 0) o) n)) ) cl_X6_163 yo_X6_laysBack dX6_turned_63 rfl rfl rfl (Nat.le_of_ble_eq_true rfl) (Nat.le_of_ble_eq_true rfl) rfl (Nat.le_of_ble_eq_true rfl) ⟨Nat.zero_le _, Nat.zero_le _⟩ ?_
            refine J_iinc E (lv' := [(5, .int (nI (o + 1))), (4, .int (t ||| 0)), (0, .ref (b 0)), (1, .int (nI 2)), (2, .int (nI j))]) dX6_turned_66 4 rfl (nI_inc _) (by decide) rfl ?_
            refine J_goto E (tgt := 23) dX6_turned_69 (by decide) ?_
            refine J_lv [2, 3, 4, 1, 0] rfl ?_
            refine J_w (ws' := wM G b (upG (upG y 5 d45_1) 2 (y 0))) (wM_c rfl rfl rfl rfl rfl rfl rfl rfl rfl rfl rfl) ?_
            exact ih23 (o + 1) (t ||| 0) d45_1 (y 0) (by omega) (by rw [h1, setF]; first | (rw [if_pos c_48]; rfl) | (rw [if_neg c_48, or_0])) (by omega)
          · skip
            have c_48 := bI_1 c_48
            refine J_iconst E dX6_turned_51 ic_1 ?_
            refine J_iload E dX6_turned_52 4 rfl ?_
            refine J_ishl E dX6_turned_54 ?_
            refine J_goto E (tgt := 59) dX6_turned_55 (by decide) ?_
            refine J_ior E dX6_turned_59 ?_
            refine J_istore E (lv' := [(4, .int (t ||| (1 <<< ((nI o) &&& 31)))), (0, .ref (b 0)), (1, .int (nI 2)), (2, .int (nI j)), (5, .int (nI o))]) dX6_turned_60 (by decide) rfl ?_
            refine J_aload_n E dX6_turned_62 rfl 1 rfl ?_
            refine J_cVv0 E (As := []) (c_X6_laysBack l G b (upG (upG (upG (upG (upG (upG y 5 d) 2 z) 2 (y 0)) 0 (turn1 (y 0) o)) 5 d45_1) 0 (hoursR (turn1 (y 0) o) n)) ) cl_X6_163 yo_X6_laysBack dX6_turned_63 rfl rfl rfl (Nat.le_of_ble_eq_true rfl) (Nat.le_of_ble_eq_true rfl) rfl (Nat.le_of_ble_eq_true rfl) ⟨Nat.zero_le _, Nat.zero_le _⟩ ?_
            refine J_iinc E (lv' := [(5, .int (nI (o + 1))), (4, .int (t ||| (1 <<< ((nI o) &&& 31)))), (0, .ref (b 0)), (1, .int (nI 2)), (2, .int (nI j))]) dX6_turned_66 4 rfl (nI_inc _) (by decide) rfl ?_
            refine J_goto E (tgt := 23) dX6_turned_69 (by decide) ?_
            refine J_lv [2, 3, 4, 1, 0] rfl ?_
            refine J_w (ws' := wM G b (upG (upG y 5 d45_1) 2 (y 0))) (wM_c rfl rfl rfl rfl rfl rfl rfl rfl rfl rfl rfl) ?_
            exact ih23 (o + 1) (t ||| (1 <<< ((nI o) &&& 31))) d45_1 (y 0) (by omega) (by rw [h1, setF]; first | (rw [if_pos c_48]; rfl) | (rw [if_neg c_48, or_0])) (by omega)
    refine J_lv [3, 4, 5, 1, 0] rfl ?_
    refine J_w (ws' := wM G b (upG (upG y 5 (y 5)) 2 (y 2))) (wM_c rfl rfl rfl rfl rfl rfl rfl rfl rfl rfl rfl) ?_
    exact lp23 _ 0 0 (y 5) (y 2) (by omega) rfl (Nat.lt_succ_self _)
  · skip
    exact absurd c_8 (by decide)

set_option maxHeartbeats 4000000 in
set_option maxRecDepth 20000 in
theorem c_X6_turned_miss_3 (l : Launch) (G : GB) (b : Nat → Nat) (y : Q3) (h : Int32) (hb : y 11 1 0 = 0) : CI l yX6_turned cX6_turned 6 .int 4 89 G [.ref (b 0), .int (nI 3), .int h] (wM G b y) (fun vR w' => vR = tellR 5 ∧ PubM G b (tellX y 5) w') := by
  refine CI.mk (own := RX6) (by decide) rfl (Nat.le_of_ble_eq_true rfl) ?_
  intro X E ret
  show J X G 6 0 0 (wM G b y) [(0, .ref (b 0)), (1, .int (nI 3)), (2, .int h)] 0 []
  refine J_aload_n E dX6_turned_0 rfl 0 rfl ?_
  refine J_iload_n E dX6_turned_1 rfl 1 rfl ?_
  refine J_iload_n E dX6_turned_2 rfl 2 rfl ?_
  refine J_cVi0 E (As := [.int (nI 3), .int h]) (c_X6_lacksHouse_3_0 l G b y h hb ) cl_X6_200 yo_X6_lacksHouse dX6_turned_3 rfl rfl rfl (Nat.le_of_ble_eq_true rfl) (Nat.le_of_ble_eq_true rfl) rfl (Nat.le_of_ble_eq_true rfl) ⟨Nat.zero_le _, Nat.zero_le _⟩ ?_
  refine J_istore_n E (lv' := [(3, .int 5), (0, .ref (b 0)), (1, .int (nI 3)), (2, .int h)]) dX6_turned_6 rfl (by decide) rfl ?_
  refine J_iload_n E dX6_turned_7 rfl 0 rfl ?_
  refine J_if_lt E (tgt := 17) dX6_turned_8 (by decide) (fun c_8 => ?_) (fun c_8 => ?_)
  · skip
    have n_8 : 5 < 0 := cmp_lt (a := 5) (b := 0) (by omega) (by omega) c_8
    exact absurd n_8 (by decide)
  · skip
    have n_8 : ¬ 5 < 0 := cmp_nlt (a := 5) (b := 0) (by omega) (by omega) c_8
    refine J_aload_n E dX6_turned_11 rfl 1 rfl ?_
    refine J_iload_n E dX6_turned_12 rfl 0 rfl ?_
    refine J_cVi0 E (As := [.int 5]) (c_X6_finds l G b y 5 (by omega)) cl_X6_96 yo_X6_finds dX6_turned_13 rfl rfl rfl (Nat.le_of_ble_eq_true rfl) (Nat.le_of_ble_eq_true rfl) rfl (Nat.le_of_ble_eq_true rfl) ⟨Nat.zero_le _, Nat.zero_le _⟩ ?_
    exact ret _ _ _ _ ⟨rfl, _, rfl, by intro g h2 h5 h6; by_cases h0 : g = 0 <;> simp [tellX, upG, up3, up3R, up2, h0, h2, h5, h6]⟩ rfl dX6_turned_16

set_option maxHeartbeats 4000000 in
set_option maxRecDepth 20000 in
theorem c_X6_turned_bad_3 (l : Launch) (G : GB) (b : Nat → Nat) (y : Q3) (h : Int32) (hb : ¬ y 11 1 0 = 0) (hh : ¬ okH h) : CI l yX6_turned cX6_turned 6 .int 4 89 G [.ref (b 0), .int (nI 3), .int h] (wM G b y) (fun vR w' => vR = tellR 0 ∧ PubM G b (tellX y 0) w') := by
  refine CI.mk (own := RX6) (by decide) rfl (Nat.le_of_ble_eq_true rfl) ?_
  intro X E ret
  show J X G 6 0 0 (wM G b y) [(0, .ref (b 0)), (1, .int (nI 3)), (2, .int h)] 0 []
  refine J_aload_n E dX6_turned_0 rfl 0 rfl ?_
  refine J_iload_n E dX6_turned_1 rfl 1 rfl ?_
  refine J_iload_n E dX6_turned_2 rfl 2 rfl ?_
  refine J_cVi0 E (As := [.int (nI 3), .int h]) (c_X6_lacksHouse_3_2 l G b y h hb hh ) cl_X6_200 yo_X6_lacksHouse dX6_turned_3 rfl rfl rfl (Nat.le_of_ble_eq_true rfl) (Nat.le_of_ble_eq_true rfl) rfl (Nat.le_of_ble_eq_true rfl) ⟨Nat.zero_le _, Nat.zero_le _⟩ ?_
  refine J_istore_n E (lv' := [(3, .int 0), (0, .ref (b 0)), (1, .int (nI 3)), (2, .int h)]) dX6_turned_6 rfl (by decide) rfl ?_
  refine J_iload_n E dX6_turned_7 rfl 0 rfl ?_
  refine J_if_lt E (tgt := 17) dX6_turned_8 (by decide) (fun c_8 => ?_) (fun c_8 => ?_)
  · skip
    have n_8 : 0 < 0 := cmp_lt (a := 0) (b := 0) (by omega) (by omega) c_8
    exact absurd n_8 (by decide)
  · skip
    have n_8 : ¬ 0 < 0 := cmp_nlt (a := 0) (b := 0) (by omega) (by omega) c_8
    refine J_aload_n E dX6_turned_11 rfl 1 rfl ?_
    refine J_iload_n E dX6_turned_12 rfl 0 rfl ?_
    refine J_cVi0 E (As := [.int 0]) (c_X6_finds l G b y 0 (by omega)) cl_X6_96 yo_X6_finds dX6_turned_13 rfl rfl rfl (Nat.le_of_ble_eq_true rfl) (Nat.le_of_ble_eq_true rfl) rfl (Nat.le_of_ble_eq_true rfl) ⟨Nat.zero_le _, Nat.zero_le _⟩ ?_
    exact ret _ _ _ _ ⟨rfl, _, rfl, by intro g h2 h5 h6; by_cases h0 : g = 0 <;> simp [tellX, upG, up3, up3R, up2, h0, h2, h5, h6]⟩ rfl dX6_turned_16

set_option maxHeartbeats 4000000 in
set_option maxRecDepth 20000 in
theorem c_X6_turned_ok_3 (l : Launch) (G : GB) (b : Nat → Nat) (y : Q3) (j n : Nat) (hb : ¬ y 11 1 0 = 0) (hj : j < 11) (hn : y 11 1 1 = nI n) (hn2 : n ≤ 40) (hok : okQ (y 0))  : CI l yX6_turned cX6_turned 6 .int 5 116 G [.ref (b 0), .int (nI 3), .int (nI j)] (wM G b y) (fun vR w' => vR = setF (fun o => soF (y 11 0) j (turn1 (y 0) o) n) 11 ∧ PubM G b y w') := by
  refine CI.mk (own := RX6) (by decide) rfl (Nat.le_of_ble_eq_true rfl) ?_
  intro X E ret
  show J X G 6 0 0 (wM G b y) [(0, .ref (b 0)), (1, .int (nI 3)), (2, .int (nI j))] 0 []
  refine J_aload_n E dX6_turned_0 rfl 0 rfl ?_
  refine J_iload_n E dX6_turned_1 rfl 1 rfl ?_
  refine J_iload_n E dX6_turned_2 rfl 2 rfl ?_
  refine J_cVi0 E (As := [.int (nI 3), .int (nI j)]) (c_X6_lacksHouse_3_1 l G b y (nI j) hb (inB (a := j) (b := 10) (by omega) (by decide)) ) cl_X6_200 yo_X6_lacksHouse dX6_turned_3 rfl rfl rfl (Nat.le_of_ble_eq_true rfl) (Nat.le_of_ble_eq_true rfl) rfl (Nat.le_of_ble_eq_true rfl) ⟨Nat.zero_le _, Nat.zero_le _⟩ ?_
  refine J_istore_n E (lv' := [(3, .int (-1)), (0, .ref (b 0)), (1, .int (nI 3)), (2, .int (nI j))]) dX6_turned_6 rfl (by decide) rfl ?_
  refine J_iload_n E dX6_turned_7 rfl 0 rfl ?_
  refine J_if_lt E (tgt := 17) dX6_turned_8 (by decide) (fun c_8 => ?_) (fun c_8 => ?_)
  · skip
    refine J_iconst E dX6_turned_17 ic_0 ?_
    refine J_istore E (lv' := [(4, .int 0), (3, .int (-1)), (0, .ref (b 0)), (1, .int (nI 3)), (2, .int (nI j))]) dX6_turned_18 (by decide) rfl ?_
    refine J_iconst E dX6_turned_20 ic_0 ?_
    refine J_istore E (lv' := [(5, .int 0), (4, .int 0), (3, .int (-1)), (0, .ref (b 0)), (1, .int (nI 3)), (2, .int (nI j))]) dX6_turned_21 (by decide) rfl ?_
    refine J_w (ws' := wM G b (upG y 5 (y 5))) (congrArg (wM G b) upG_id.symm) ?_
    have lp23 : ∀ (fu : Nat) (o : Nat) (t : Int32) (d : Q2) (z : Q2), (o ≤ 11) → (t = setF (fun o => soF (y 11 0) j (turn1 (y 0) o) n) o) → 11 - o < fu → J X G 6 0 0 (wM G b (upG (upG y 5 d) 2 z)) [(0, .ref (b 0)), (1, .int (nI 3)), (2, .int (nI j)), (4, .int t), (5, .int (nI o))] 23 [] := by
      intro fu
      induction fu with
      | zero => intro o t d z hi h1 hm; exact absurd hm (Nat.not_lt_zero _)
      | succ fu ih23 =>
        intro o t d z hi h1 hm
        refine J_iload E dX6_turned_23 4 rfl ?_
        refine J_bipush E dX6_turned_25 bp_11 ?_
        refine J_icmp_ge E (tgt := 72) dX6_turned_27 (by decide) (fun c_27 => ?_) (fun c_27 => ?_)
        · skip
          have n_27 : 11 ≤ o := cmp_le (a := 11) (b := o) (by omega) (by omega) c_27
          refine J_iload E dX6_turned_72 3 rfl ?_
          exact ret _ _ _ _ ⟨by rw [h1, show o = 11 by omega], _, rfl, by intro g h2 h5 h6; by_cases h0 : g = 0 <;> simp [tellX, upG, up3, up3R, up2, h0, h2, h5, h6]⟩ rfl dX6_turned_74
        · skip
          have n_27 : ¬ 11 ≤ o := cmp_nle (a := 11) (b := o) (by omega) (by omega) c_27
          refine J_aload_n E dX6_turned_30 rfl 0 rfl ?_
          refine J_cVv0 E (As := []) (c_X6_lends l G b (upG (upG y 5 d) 2 z) ) cl_X6_160 yo_X6_lends dX6_turned_31 rfl rfl rfl (Nat.le_of_ble_eq_true rfl) (Nat.le_of_ble_eq_true rfl) rfl (Nat.le_of_ble_eq_true rfl) ⟨Nat.zero_le _, Nat.zero_le _⟩ ?_
          refine J_aload_n E dX6_turned_34 rfl 0 rfl ?_
          refine J_iload E dX6_turned_35 4 rfl ?_
          refine J_cVv0 E (As := [.int (nI o)]) (c_X6_turns l G b (upG (upG (upG y 5 d) 2 z) 2 (y 0)) o (by omega)) cl_X6_186 yo_X6_turns dX6_turned_37 rfl rfl rfl (Nat.le_of_ble_eq_true rfl) (Nat.le_of_ble_eq_true rfl) rfl (Nat.le_of_ble_eq_true rfl) ⟨Nat.zero_le _, Nat.zero_le _⟩ ?_
          refine J_iload E dX6_turned_40 3 rfl ?_
          refine J_aload_n E dX6_turned_42 rfl 0 rfl ?_
          refine J_iload_n E dX6_turned_43 rfl 1 rfl ?_
          refine J_iload_n E dX6_turned_44 rfl 2 rfl ?_
          refine J_callEi E (As := [.int (nI 3), .int (nI j)]) (c_X6_isSo_3 l G b (upG (upG (upG (upG y 5 d) 2 z) 2 (y 0)) 0 (turn1 (y 0) o)) j n hj hn hn2 (okQ_1 hok _ (by omega))) cl_X6_203 yo_X6_isSo dX6_turned_45 rfl (Nat.le_of_ble_eq_true rfl) (Nat.le_of_ble_eq_true rfl) rfl (Nat.le_of_ble_eq_true rfl) ⟨Nat.zero_le _, Nat.zero_le _⟩ (fun d45_1 => ?_)
          refine J_w (ws' := wM G b (upG (upG (upG (upG (upG (upG y 5 d) 2 z) 2 (y 0)) 0 (turn1 (y 0) o)) 5 d45_1) 0 (hoursR (turn1 (y 0) o) n))) (wM_c rfl rfl rfl rfl rfl rfl rfl rfl rfl rfl rfl) ?_
          refine J_top (x' := bI (soF (y 11 0) j (turn1 (y 0) o) n = true)) rfl ?_
          refine J_if_eq E (tgt := 58) dX6_turned_48 (by decide) (fun c_48 => ?_) (fun c_48 => ?_)
          · skip
            have c_48 := bI_0 c_48
            refine J_iconst E dX6_turned_58 ic_0 ?_
            refine J_ior E dX6_turned_59 ?_
            refine J_istore E (lv' := [(4, .int (t ||| 0)), (0, .ref (b 0)), (1, .int (nI 3)), (2, .int (nI j)), (5, .int (nI o))]) dX6_turned_60 (by decide) rfl ?_
            refine J_aload_n E dX6_turned_62 rfl 1 rfl ?_
            refine J_cVv0 E (As := []) (c_X6_laysBack l G b (upG (upG (upG (upG (upG (upG y 5 d) 2 z) 2 (y 0)) 0 (turn1 (y 0) o)) 5 d45_1) 0 (hoursR (turn1 (y 0) o) n)) ) cl_X6_163 yo_X6_laysBack dX6_turned_63 rfl rfl rfl (Nat.le_of_ble_eq_true rfl) (Nat.le_of_ble_eq_true rfl) rfl (Nat.le_of_ble_eq_true rfl) ⟨Nat.zero_le _, Nat.zero_le _⟩ ?_
            refine J_iinc E (lv' := [(5, .int (nI (o + 1))), (4, .int (t ||| 0)), (0, .ref (b 0)), (1, .int (nI 3)), (2, .int (nI j))]) dX6_turned_66 4 rfl (nI_inc _) (by decide) rfl ?_
            refine J_goto E (tgt := 23) dX6_turned_69 (by decide) ?_
            refine J_lv [2, 3, 4, 1, 0] rfl ?_
            refine J_w (ws' := wM G b (upG (upG y 5 d45_1) 2 (y 0))) (wM_c rfl rfl rfl rfl rfl rfl rfl rfl rfl rfl rfl) ?_
            exact ih23 (o + 1) (t ||| 0) d45_1 (y 0) (by omega) (by rw [h1, setF]; first | (rw [if_pos c_48]; rfl) | (rw [if_neg c_48, or_0])) (by omega)
          · skip
            have c_48 := bI_1 c_48
            refine J_iconst E dX6_turned_51 ic_1 ?_
            refine J_iload E dX6_turned_52 4 rfl ?_
            refine J_ishl E dX6_turned_54 ?_
            refine J_goto E (tgt := 59) dX6_turned_55 (by decide) ?_
            refine J_ior E dX6_turned_59 ?_
            refine J_istore E (lv' := [(4, .int (t ||| (1 <<< ((nI o) &&& 31)))), (0, .ref (b 0)), (1, .int (nI 3)), (2, .int (nI j)), (5, .int (nI o))]) dX6_turned_60 (by decide) rfl ?_
            refine J_aload_n E dX6_turned_62 rfl 1 rfl ?_
            refine J_cVv0 E (As := []) (c_X6_laysBack l G b (upG (upG (upG (upG (upG (upG y 5 d) 2 z) 2 (y 0)) 0 (turn1 (y 0) o)) 5 d45_1) 0 (hoursR (turn1 (y 0) o) n)) ) cl_X6_163 yo_X6_laysBack dX6_turned_63 rfl rfl rfl (Nat.le_of_ble_eq_true rfl) (Nat.le_of_ble_eq_true rfl) rfl (Nat.le_of_ble_eq_true rfl) ⟨Nat.zero_le _, Nat.zero_le _⟩ ?_
            refine J_iinc E (lv' := [(5, .int (nI (o + 1))), (4, .int (t ||| (1 <<< ((nI o) &&& 31)))), (0, .ref (b 0)), (1, .int (nI 3)), (2, .int (nI j))]) dX6_turned_66 4 rfl (nI_inc _) (by decide) rfl ?_
            refine J_goto E (tgt := 23) dX6_turned_69 (by decide) ?_
            refine J_lv [2, 3, 4, 1, 0] rfl ?_
            refine J_w (ws' := wM G b (upG (upG y 5 d45_1) 2 (y 0))) (wM_c rfl rfl rfl rfl rfl rfl rfl rfl rfl rfl rfl) ?_
            exact ih23 (o + 1) (t ||| (1 <<< ((nI o) &&& 31))) d45_1 (y 0) (by omega) (by rw [h1, setF]; first | (rw [if_pos c_48]; rfl) | (rw [if_neg c_48, or_0])) (by omega)
    refine J_lv [3, 4, 5, 1, 0] rfl ?_
    refine J_w (ws' := wM G b (upG (upG y 5 (y 5)) 2 (y 2))) (wM_c rfl rfl rfl rfl rfl rfl rfl rfl rfl rfl rfl) ?_
    exact lp23 _ 0 0 (y 5) (y 2) (by omega) rfl (Nat.lt_succ_self _)
  · skip
    exact absurd c_8 (by decide)

set_option maxHeartbeats 4000000 in
set_option maxRecDepth 20000 in
theorem c_X6_kinds_out (l : Launch) (G : GB) (b : Nat → Nat) (y : Q3) (s h : Int32) (hs : ¬ (0 ≤ s ∧ s ≤ 3)) : CI l yX6_kinds cX6_kinds 6 .int 4 89 G [.ref (b 0), .int s, .int h] (wM G b y) (fun vR w' => vR = tellR 0 ∧ PubM G b (tellX y 0) w') := by
  refine CI.mk (own := RX6) (by decide) rfl (Nat.le_of_ble_eq_true rfl) ?_
  intro X E ret
  show J X G 6 0 0 (wM G b y) [(0, .ref (b 0)), (1, .int s), (2, .int h)] 0 []
  refine J_aload_n E dX6_kinds_0 rfl 0 rfl ?_
  refine J_iload_n E dX6_kinds_1 rfl 1 rfl ?_
  refine J_iload_n E dX6_kinds_2 rfl 2 rfl ?_
  refine J_cVi0 E (As := [.int s, .int h]) (c_X6_lacksHouse_out l G b y s h hs ) cl_X6_200 yo_X6_lacksHouse dX6_kinds_3 rfl rfl rfl (Nat.le_of_ble_eq_true rfl) (Nat.le_of_ble_eq_true rfl) rfl (Nat.le_of_ble_eq_true rfl) ⟨Nat.zero_le _, Nat.zero_le _⟩ ?_
  refine J_istore_n E (lv' := [(3, .int 0), (0, .ref (b 0)), (1, .int s), (2, .int h)]) dX6_kinds_6 rfl (by decide) rfl ?_
  refine J_iload_n E dX6_kinds_7 rfl 0 rfl ?_
  refine J_if_lt E (tgt := 17) dX6_kinds_8 (by decide) (fun c_8 => ?_) (fun c_8 => ?_)
  · skip
    have n_8 : 0 < 0 := cmp_lt (a := 0) (b := 0) (by omega) (by omega) c_8
    exact absurd n_8 (by decide)
  · skip
    have n_8 : ¬ 0 < 0 := cmp_nlt (a := 0) (b := 0) (by omega) (by omega) c_8
    refine J_aload_n E dX6_kinds_11 rfl 1 rfl ?_
    refine J_iload_n E dX6_kinds_12 rfl 0 rfl ?_
    refine J_cVi0 E (As := [.int 0]) (c_X6_finds l G b y 0 (by omega)) cl_X6_96 yo_X6_finds dX6_kinds_13 rfl rfl rfl (Nat.le_of_ble_eq_true rfl) (Nat.le_of_ble_eq_true rfl) rfl (Nat.le_of_ble_eq_true rfl) ⟨Nat.zero_le _, Nat.zero_le _⟩ ?_
    exact ret _ _ _ _ ⟨rfl, _, rfl, by intro g h2 h5 h6; by_cases h0 : g = 0 <;> simp [tellX, upG, up3, up3R, up2, h0, h2, h5, h6]⟩ rfl dX6_kinds_16

set_option maxHeartbeats 4000000 in
set_option maxRecDepth 20000 in
theorem c_X6_kinds_miss_0 (l : Launch) (G : GB) (b : Nat → Nat) (y : Q3) (h : Int32) (hb : y 8 1 0 = 0) : CI l yX6_kinds cX6_kinds 6 .int 4 89 G [.ref (b 0), .int (nI 0), .int h] (wM G b y) (fun vR w' => vR = tellR 5 ∧ PubM G b (tellX y 5) w') := by
  refine CI.mk (own := RX6) (by decide) rfl (Nat.le_of_ble_eq_true rfl) ?_
  intro X E ret
  show J X G 6 0 0 (wM G b y) [(0, .ref (b 0)), (1, .int (nI 0)), (2, .int h)] 0 []
  refine J_aload_n E dX6_kinds_0 rfl 0 rfl ?_
  refine J_iload_n E dX6_kinds_1 rfl 1 rfl ?_
  refine J_iload_n E dX6_kinds_2 rfl 2 rfl ?_
  refine J_cVi0 E (As := [.int (nI 0), .int h]) (c_X6_lacksHouse_0_0 l G b y h hb ) cl_X6_200 yo_X6_lacksHouse dX6_kinds_3 rfl rfl rfl (Nat.le_of_ble_eq_true rfl) (Nat.le_of_ble_eq_true rfl) rfl (Nat.le_of_ble_eq_true rfl) ⟨Nat.zero_le _, Nat.zero_le _⟩ ?_
  refine J_istore_n E (lv' := [(3, .int 5), (0, .ref (b 0)), (1, .int (nI 0)), (2, .int h)]) dX6_kinds_6 rfl (by decide) rfl ?_
  refine J_iload_n E dX6_kinds_7 rfl 0 rfl ?_
  refine J_if_lt E (tgt := 17) dX6_kinds_8 (by decide) (fun c_8 => ?_) (fun c_8 => ?_)
  · skip
    have n_8 : 5 < 0 := cmp_lt (a := 5) (b := 0) (by omega) (by omega) c_8
    exact absurd n_8 (by decide)
  · skip
    have n_8 : ¬ 5 < 0 := cmp_nlt (a := 5) (b := 0) (by omega) (by omega) c_8
    refine J_aload_n E dX6_kinds_11 rfl 1 rfl ?_
    refine J_iload_n E dX6_kinds_12 rfl 0 rfl ?_
    refine J_cVi0 E (As := [.int 5]) (c_X6_finds l G b y 5 (by omega)) cl_X6_96 yo_X6_finds dX6_kinds_13 rfl rfl rfl (Nat.le_of_ble_eq_true rfl) (Nat.le_of_ble_eq_true rfl) rfl (Nat.le_of_ble_eq_true rfl) ⟨Nat.zero_le _, Nat.zero_le _⟩ ?_
    exact ret _ _ _ _ ⟨rfl, _, rfl, by intro g h2 h5 h6; by_cases h0 : g = 0 <;> simp [tellX, upG, up3, up3R, up2, h0, h2, h5, h6]⟩ rfl dX6_kinds_16

set_option maxHeartbeats 4000000 in
set_option maxRecDepth 20000 in
theorem c_X6_kinds_bad_0 (l : Launch) (G : GB) (b : Nat → Nat) (y : Q3) (h : Int32) (hb : ¬ y 8 1 0 = 0) (hh : ¬ okH h) : CI l yX6_kinds cX6_kinds 6 .int 4 89 G [.ref (b 0), .int (nI 0), .int h] (wM G b y) (fun vR w' => vR = tellR 0 ∧ PubM G b (tellX y 0) w') := by
  refine CI.mk (own := RX6) (by decide) rfl (Nat.le_of_ble_eq_true rfl) ?_
  intro X E ret
  show J X G 6 0 0 (wM G b y) [(0, .ref (b 0)), (1, .int (nI 0)), (2, .int h)] 0 []
  refine J_aload_n E dX6_kinds_0 rfl 0 rfl ?_
  refine J_iload_n E dX6_kinds_1 rfl 1 rfl ?_
  refine J_iload_n E dX6_kinds_2 rfl 2 rfl ?_
  refine J_cVi0 E (As := [.int (nI 0), .int h]) (c_X6_lacksHouse_0_2 l G b y h hb hh ) cl_X6_200 yo_X6_lacksHouse dX6_kinds_3 rfl rfl rfl (Nat.le_of_ble_eq_true rfl) (Nat.le_of_ble_eq_true rfl) rfl (Nat.le_of_ble_eq_true rfl) ⟨Nat.zero_le _, Nat.zero_le _⟩ ?_
  refine J_istore_n E (lv' := [(3, .int 0), (0, .ref (b 0)), (1, .int (nI 0)), (2, .int h)]) dX6_kinds_6 rfl (by decide) rfl ?_
  refine J_iload_n E dX6_kinds_7 rfl 0 rfl ?_
  refine J_if_lt E (tgt := 17) dX6_kinds_8 (by decide) (fun c_8 => ?_) (fun c_8 => ?_)
  · skip
    have n_8 : 0 < 0 := cmp_lt (a := 0) (b := 0) (by omega) (by omega) c_8
    exact absurd n_8 (by decide)
  · skip
    have n_8 : ¬ 0 < 0 := cmp_nlt (a := 0) (b := 0) (by omega) (by omega) c_8
    refine J_aload_n E dX6_kinds_11 rfl 1 rfl ?_
    refine J_iload_n E dX6_kinds_12 rfl 0 rfl ?_
    refine J_cVi0 E (As := [.int 0]) (c_X6_finds l G b y 0 (by omega)) cl_X6_96 yo_X6_finds dX6_kinds_13 rfl rfl rfl (Nat.le_of_ble_eq_true rfl) (Nat.le_of_ble_eq_true rfl) rfl (Nat.le_of_ble_eq_true rfl) ⟨Nat.zero_le _, Nat.zero_le _⟩ ?_
    exact ret _ _ _ _ ⟨rfl, _, rfl, by intro g h2 h5 h6; by_cases h0 : g = 0 <;> simp [tellX, upG, up3, up3R, up2, h0, h2, h5, h6]⟩ rfl dX6_kinds_16

set_option maxHeartbeats 4000000 in
set_option maxRecDepth 20000 in
theorem c_X6_kinds_ok_0 (l : Launch) (G : GB) (b : Nat → Nat) (y : Q3) (j n : Nat) (hb : ¬ y 8 1 0 = 0) (hj : j < 11) (hn : y 8 1 1 = nI n) (hn2 : n ≤ 40) (hok : okQ (y 0))  : CI l yX6_kinds cX6_kinds 6 .int 5 116 G [.ref (b 0), .int (nI 0), .int (nI j)] (wM G b y) (fun vR w' => vR = setF (fun o => soF (y 8 0) j (up2 (y 0) 0 j (nI o)) n) 7 ∧ PubM G b y w') := by
  refine CI.mk (own := RX6) (by decide) rfl (Nat.le_of_ble_eq_true rfl) ?_
  intro X E ret
  show J X G 6 0 0 (wM G b y) [(0, .ref (b 0)), (1, .int (nI 0)), (2, .int (nI j))] 0 []
  refine J_aload_n E dX6_kinds_0 rfl 0 rfl ?_
  refine J_iload_n E dX6_kinds_1 rfl 1 rfl ?_
  refine J_iload_n E dX6_kinds_2 rfl 2 rfl ?_
  refine J_cVi0 E (As := [.int (nI 0), .int (nI j)]) (c_X6_lacksHouse_0_1 l G b y (nI j) hb (inB (a := j) (b := 10) (by omega) (by decide)) ) cl_X6_200 yo_X6_lacksHouse dX6_kinds_3 rfl rfl rfl (Nat.le_of_ble_eq_true rfl) (Nat.le_of_ble_eq_true rfl) rfl (Nat.le_of_ble_eq_true rfl) ⟨Nat.zero_le _, Nat.zero_le _⟩ ?_
  refine J_istore_n E (lv' := [(3, .int (-1)), (0, .ref (b 0)), (1, .int (nI 0)), (2, .int (nI j))]) dX6_kinds_6 rfl (by decide) rfl ?_
  refine J_iload_n E dX6_kinds_7 rfl 0 rfl ?_
  refine J_if_lt E (tgt := 17) dX6_kinds_8 (by decide) (fun c_8 => ?_) (fun c_8 => ?_)
  · skip
    refine J_iconst E dX6_kinds_17 ic_0 ?_
    refine J_istore E (lv' := [(4, .int 0), (3, .int (-1)), (0, .ref (b 0)), (1, .int (nI 0)), (2, .int (nI j))]) dX6_kinds_18 (by decide) rfl ?_
    refine J_iconst E dX6_kinds_20 ic_0 ?_
    refine J_istore E (lv' := [(5, .int 0), (4, .int 0), (3, .int (-1)), (0, .ref (b 0)), (1, .int (nI 0)), (2, .int (nI j))]) dX6_kinds_21 (by decide) rfl ?_
    refine J_w (ws' := wM G b (upG y 5 (y 5))) (congrArg (wM G b) upG_id.symm) ?_
    have lp23 : ∀ (fu : Nat) (o : Nat) (t : Int32) (d : Q2) (z : Q2), (o ≤ 7) → (t = setF (fun o => soF (y 8 0) j (up2 (y 0) 0 j (nI o)) n) o) → 7 - o < fu → J X G 6 0 0 (wM G b (upG (upG y 5 d) 2 z)) [(0, .ref (b 0)), (1, .int (nI 0)), (2, .int (nI j)), (4, .int t), (5, .int (nI o))] 23 [] := by
      intro fu
      induction fu with
      | zero => intro o t d z hi h1 hm; exact absurd hm (Nat.not_lt_zero _)
      | succ fu ih23 =>
        intro o t d z hi h1 hm
        refine J_iload E dX6_kinds_23 4 rfl ?_
        refine J_bipush E dX6_kinds_25 bp_6 ?_
        refine J_icmp_gt E (tgt := 74) dX6_kinds_27 (by decide) (fun c_27 => ?_) (fun c_27 => ?_)
        · skip
          have n_27 : 6 < o := cmp_lt (a := 6) (b := o) (by omega) (by omega) c_27
          refine J_iload E dX6_kinds_74 3 rfl ?_
          exact ret _ _ _ _ ⟨by rw [h1, show o = 7 by omega], _, rfl, by intro g h2 h5 h6; by_cases h0 : g = 0 <;> simp [tellX, upG, up3, up3R, up2, h0, h2, h5, h6]⟩ rfl dX6_kinds_76
        · skip
          have n_27 : ¬ 6 < o := cmp_nlt (a := 6) (b := o) (by omega) (by omega) c_27
          refine J_aload_n E dX6_kinds_30 rfl 0 rfl ?_
          refine J_cVv0 E (As := []) (c_X6_lends l G b (upG (upG y 5 d) 2 z) ) cl_X6_160 yo_X6_lends dX6_kinds_31 rfl rfl rfl (Nat.le_of_ble_eq_true rfl) (Nat.le_of_ble_eq_true rfl) rfl (Nat.le_of_ble_eq_true rfl) ⟨Nat.zero_le _, Nat.zero_le _⟩ ?_
          refine J_aload_n E dX6_kinds_34 rfl 0 rfl ?_
          refine J_iload_n E dX6_kinds_35 rfl 2 rfl ?_
          refine J_iconst E dX6_kinds_36 ic_0 ?_
          refine J_iload E dX6_kinds_37 4 rfl ?_
          refine J_cVv0 E (As := [.int (nI j), .int 0, .int (nI o)]) (c_X6_sets l G b (upG (upG (upG y 5 d) 2 z) 2 (y 0)) j 0 (nI o) (by omega) (by omega)) cl_X6_43 yo_X6_sets dX6_kinds_39 rfl rfl rfl (Nat.le_of_ble_eq_true rfl) (Nat.le_of_ble_eq_true rfl) rfl (Nat.le_of_ble_eq_true rfl) ⟨Nat.zero_le _, Nat.zero_le _⟩ ?_
          refine J_iload E dX6_kinds_42 3 rfl ?_
          refine J_aload_n E dX6_kinds_44 rfl 0 rfl ?_
          refine J_iload_n E dX6_kinds_45 rfl 1 rfl ?_
          refine J_iload_n E dX6_kinds_46 rfl 2 rfl ?_
          refine J_callEi E (As := [.int (nI 0), .int (nI j)]) (c_X6_isSo_0 l G b (upG (upG (upG (upG y 5 d) 2 z) 2 (y 0)) 0 (up2 (y 0) 0 j (nI o))) j n hj hn hn2 (okQ_k hok _ (by omega))) cl_X6_203 yo_X6_isSo dX6_kinds_47 rfl (Nat.le_of_ble_eq_true rfl) (Nat.le_of_ble_eq_true rfl) rfl (Nat.le_of_ble_eq_true rfl) ⟨Nat.zero_le _, Nat.zero_le _⟩ (fun d47_1 => ?_)
          refine J_w (ws' := wM G b (upG (upG (upG (upG (upG (upG y 5 d) 2 z) 2 (y 0)) 0 (up2 (y 0) 0 j (nI o))) 5 d47_1) 0 (hoursR (up2 (y 0) 0 j (nI o)) n))) (wM_c rfl rfl rfl rfl rfl rfl rfl rfl rfl rfl rfl) ?_
          refine J_top (x' := bI (soF (y 8 0) j (up2 (y 0) 0 j (nI o)) n = true)) rfl ?_
          refine J_if_eq E (tgt := 60) dX6_kinds_50 (by decide) (fun c_50 => ?_) (fun c_50 => ?_)
          · skip
            have c_50 := bI_0 c_50
            refine J_iconst E dX6_kinds_60 ic_0 ?_
            refine J_ior E dX6_kinds_61 ?_
            refine J_istore E (lv' := [(4, .int (t ||| 0)), (0, .ref (b 0)), (1, .int (nI 0)), (2, .int (nI j)), (5, .int (nI o))]) dX6_kinds_62 (by decide) rfl ?_
            refine J_aload_n E dX6_kinds_64 rfl 1 rfl ?_
            refine J_cVv0 E (As := []) (c_X6_laysBack l G b (upG (upG (upG (upG (upG (upG y 5 d) 2 z) 2 (y 0)) 0 (up2 (y 0) 0 j (nI o))) 5 d47_1) 0 (hoursR (up2 (y 0) 0 j (nI o)) n)) ) cl_X6_163 yo_X6_laysBack dX6_kinds_65 rfl rfl rfl (Nat.le_of_ble_eq_true rfl) (Nat.le_of_ble_eq_true rfl) rfl (Nat.le_of_ble_eq_true rfl) ⟨Nat.zero_le _, Nat.zero_le _⟩ ?_
            refine J_iinc E (lv' := [(5, .int (nI (o + 1))), (4, .int (t ||| 0)), (0, .ref (b 0)), (1, .int (nI 0)), (2, .int (nI j))]) dX6_kinds_68 4 rfl (nI_inc _) (by decide) rfl ?_
            refine J_goto E (tgt := 23) dX6_kinds_71 (by decide) ?_
            refine J_lv [2, 3, 4, 1, 0] rfl ?_
            refine J_w (ws' := wM G b (upG (upG y 5 d47_1) 2 (y 0))) (wM_c rfl rfl rfl rfl rfl rfl rfl rfl rfl rfl rfl) ?_
            exact ih23 (o + 1) (t ||| 0) d47_1 (y 0) (by omega) (by rw [h1, setF]; first | (rw [if_pos c_50]; rfl) | (rw [if_neg c_50, or_0])) (by omega)
          · skip
            have c_50 := bI_1 c_50
            refine J_iconst E dX6_kinds_53 ic_1 ?_
            refine J_iload E dX6_kinds_54 4 rfl ?_
            refine J_ishl E dX6_kinds_56 ?_
            refine J_goto E (tgt := 61) dX6_kinds_57 (by decide) ?_
            refine J_ior E dX6_kinds_61 ?_
            refine J_istore E (lv' := [(4, .int (t ||| (1 <<< ((nI o) &&& 31)))), (0, .ref (b 0)), (1, .int (nI 0)), (2, .int (nI j)), (5, .int (nI o))]) dX6_kinds_62 (by decide) rfl ?_
            refine J_aload_n E dX6_kinds_64 rfl 1 rfl ?_
            refine J_cVv0 E (As := []) (c_X6_laysBack l G b (upG (upG (upG (upG (upG (upG y 5 d) 2 z) 2 (y 0)) 0 (up2 (y 0) 0 j (nI o))) 5 d47_1) 0 (hoursR (up2 (y 0) 0 j (nI o)) n)) ) cl_X6_163 yo_X6_laysBack dX6_kinds_65 rfl rfl rfl (Nat.le_of_ble_eq_true rfl) (Nat.le_of_ble_eq_true rfl) rfl (Nat.le_of_ble_eq_true rfl) ⟨Nat.zero_le _, Nat.zero_le _⟩ ?_
            refine J_iinc E (lv' := [(5, .int (nI (o + 1))), (4, .int (t ||| (1 <<< ((nI o) &&& 31)))), (0, .ref (b 0)), (1, .int (nI 0)), (2, .int (nI j))]) dX6_kinds_68 4 rfl (nI_inc _) (by decide) rfl ?_
            refine J_goto E (tgt := 23) dX6_kinds_71 (by decide) ?_
            refine J_lv [2, 3, 4, 1, 0] rfl ?_
            refine J_w (ws' := wM G b (upG (upG y 5 d47_1) 2 (y 0))) (wM_c rfl rfl rfl rfl rfl rfl rfl rfl rfl rfl rfl) ?_
            exact ih23 (o + 1) (t ||| (1 <<< ((nI o) &&& 31))) d47_1 (y 0) (by omega) (by rw [h1, setF]; first | (rw [if_pos c_50]; rfl) | (rw [if_neg c_50, or_0])) (by omega)
    refine J_lv [3, 4, 5, 1, 0] rfl ?_
    refine J_w (ws' := wM G b (upG (upG y 5 (y 5)) 2 (y 2))) (wM_c rfl rfl rfl rfl rfl rfl rfl rfl rfl rfl rfl) ?_
    exact lp23 _ 0 0 (y 5) (y 2) (by omega) rfl (Nat.lt_succ_self _)
  · skip
    exact absurd c_8 (by decide)

set_option maxHeartbeats 4000000 in
set_option maxRecDepth 20000 in
theorem c_X6_kinds_miss_1 (l : Launch) (G : GB) (b : Nat → Nat) (y : Q3) (h : Int32) (hb : y 9 1 0 = 0) : CI l yX6_kinds cX6_kinds 6 .int 4 89 G [.ref (b 0), .int (nI 1), .int h] (wM G b y) (fun vR w' => vR = tellR 5 ∧ PubM G b (tellX y 5) w') := by
  refine CI.mk (own := RX6) (by decide) rfl (Nat.le_of_ble_eq_true rfl) ?_
  intro X E ret
  show J X G 6 0 0 (wM G b y) [(0, .ref (b 0)), (1, .int (nI 1)), (2, .int h)] 0 []
  refine J_aload_n E dX6_kinds_0 rfl 0 rfl ?_
  refine J_iload_n E dX6_kinds_1 rfl 1 rfl ?_
  refine J_iload_n E dX6_kinds_2 rfl 2 rfl ?_
  refine J_cVi0 E (As := [.int (nI 1), .int h]) (c_X6_lacksHouse_1_0 l G b y h hb ) cl_X6_200 yo_X6_lacksHouse dX6_kinds_3 rfl rfl rfl (Nat.le_of_ble_eq_true rfl) (Nat.le_of_ble_eq_true rfl) rfl (Nat.le_of_ble_eq_true rfl) ⟨Nat.zero_le _, Nat.zero_le _⟩ ?_
  refine J_istore_n E (lv' := [(3, .int 5), (0, .ref (b 0)), (1, .int (nI 1)), (2, .int h)]) dX6_kinds_6 rfl (by decide) rfl ?_
  refine J_iload_n E dX6_kinds_7 rfl 0 rfl ?_
  refine J_if_lt E (tgt := 17) dX6_kinds_8 (by decide) (fun c_8 => ?_) (fun c_8 => ?_)
  · skip
    have n_8 : 5 < 0 := cmp_lt (a := 5) (b := 0) (by omega) (by omega) c_8
    exact absurd n_8 (by decide)
  · skip
    have n_8 : ¬ 5 < 0 := cmp_nlt (a := 5) (b := 0) (by omega) (by omega) c_8
    refine J_aload_n E dX6_kinds_11 rfl 1 rfl ?_
    refine J_iload_n E dX6_kinds_12 rfl 0 rfl ?_
    refine J_cVi0 E (As := [.int 5]) (c_X6_finds l G b y 5 (by omega)) cl_X6_96 yo_X6_finds dX6_kinds_13 rfl rfl rfl (Nat.le_of_ble_eq_true rfl) (Nat.le_of_ble_eq_true rfl) rfl (Nat.le_of_ble_eq_true rfl) ⟨Nat.zero_le _, Nat.zero_le _⟩ ?_
    exact ret _ _ _ _ ⟨rfl, _, rfl, by intro g h2 h5 h6; by_cases h0 : g = 0 <;> simp [tellX, upG, up3, up3R, up2, h0, h2, h5, h6]⟩ rfl dX6_kinds_16

set_option maxHeartbeats 4000000 in
set_option maxRecDepth 20000 in
theorem c_X6_kinds_bad_1 (l : Launch) (G : GB) (b : Nat → Nat) (y : Q3) (h : Int32) (hb : ¬ y 9 1 0 = 0) (hh : ¬ okH h) : CI l yX6_kinds cX6_kinds 6 .int 4 89 G [.ref (b 0), .int (nI 1), .int h] (wM G b y) (fun vR w' => vR = tellR 0 ∧ PubM G b (tellX y 0) w') := by
  refine CI.mk (own := RX6) (by decide) rfl (Nat.le_of_ble_eq_true rfl) ?_
  intro X E ret
  show J X G 6 0 0 (wM G b y) [(0, .ref (b 0)), (1, .int (nI 1)), (2, .int h)] 0 []
  refine J_aload_n E dX6_kinds_0 rfl 0 rfl ?_
  refine J_iload_n E dX6_kinds_1 rfl 1 rfl ?_
  refine J_iload_n E dX6_kinds_2 rfl 2 rfl ?_
  refine J_cVi0 E (As := [.int (nI 1), .int h]) (c_X6_lacksHouse_1_2 l G b y h hb hh ) cl_X6_200 yo_X6_lacksHouse dX6_kinds_3 rfl rfl rfl (Nat.le_of_ble_eq_true rfl) (Nat.le_of_ble_eq_true rfl) rfl (Nat.le_of_ble_eq_true rfl) ⟨Nat.zero_le _, Nat.zero_le _⟩ ?_
  refine J_istore_n E (lv' := [(3, .int 0), (0, .ref (b 0)), (1, .int (nI 1)), (2, .int h)]) dX6_kinds_6 rfl (by decide) rfl ?_
  refine J_iload_n E dX6_kinds_7 rfl 0 rfl ?_
  refine J_if_lt E (tgt := 17) dX6_kinds_8 (by decide) (fun c_8 => ?_) (fun c_8 => ?_)
  · skip
    have n_8 : 0 < 0 := cmp_lt (a := 0) (b := 0) (by omega) (by omega) c_8
    exact absurd n_8 (by decide)
  · skip
    have n_8 : ¬ 0 < 0 := cmp_nlt (a := 0) (b := 0) (by omega) (by omega) c_8
    refine J_aload_n E dX6_kinds_11 rfl 1 rfl ?_
    refine J_iload_n E dX6_kinds_12 rfl 0 rfl ?_
    refine J_cVi0 E (As := [.int 0]) (c_X6_finds l G b y 0 (by omega)) cl_X6_96 yo_X6_finds dX6_kinds_13 rfl rfl rfl (Nat.le_of_ble_eq_true rfl) (Nat.le_of_ble_eq_true rfl) rfl (Nat.le_of_ble_eq_true rfl) ⟨Nat.zero_le _, Nat.zero_le _⟩ ?_
    exact ret _ _ _ _ ⟨rfl, _, rfl, by intro g h2 h5 h6; by_cases h0 : g = 0 <;> simp [tellX, upG, up3, up3R, up2, h0, h2, h5, h6]⟩ rfl dX6_kinds_16

set_option maxHeartbeats 4000000 in
set_option maxRecDepth 20000 in
theorem c_X6_kinds_ok_1 (l : Launch) (G : GB) (b : Nat → Nat) (y : Q3) (j n : Nat) (hb : ¬ y 9 1 0 = 0) (hj : j < 11) (hn : y 9 1 1 = nI n) (hn2 : n ≤ 40) (hok : okQ (y 0))  : CI l yX6_kinds cX6_kinds 6 .int 5 116 G [.ref (b 0), .int (nI 1), .int (nI j)] (wM G b y) (fun vR w' => vR = setF (fun o => soF (y 9 0) j (up2 (y 0) 0 j (nI o)) n) 7 ∧ PubM G b y w') := by
  refine CI.mk (own := RX6) (by decide) rfl (Nat.le_of_ble_eq_true rfl) ?_
  intro X E ret
  show J X G 6 0 0 (wM G b y) [(0, .ref (b 0)), (1, .int (nI 1)), (2, .int (nI j))] 0 []
  refine J_aload_n E dX6_kinds_0 rfl 0 rfl ?_
  refine J_iload_n E dX6_kinds_1 rfl 1 rfl ?_
  refine J_iload_n E dX6_kinds_2 rfl 2 rfl ?_
  refine J_cVi0 E (As := [.int (nI 1), .int (nI j)]) (c_X6_lacksHouse_1_1 l G b y (nI j) hb (inB (a := j) (b := 10) (by omega) (by decide)) ) cl_X6_200 yo_X6_lacksHouse dX6_kinds_3 rfl rfl rfl (Nat.le_of_ble_eq_true rfl) (Nat.le_of_ble_eq_true rfl) rfl (Nat.le_of_ble_eq_true rfl) ⟨Nat.zero_le _, Nat.zero_le _⟩ ?_
  refine J_istore_n E (lv' := [(3, .int (-1)), (0, .ref (b 0)), (1, .int (nI 1)), (2, .int (nI j))]) dX6_kinds_6 rfl (by decide) rfl ?_
  refine J_iload_n E dX6_kinds_7 rfl 0 rfl ?_
  refine J_if_lt E (tgt := 17) dX6_kinds_8 (by decide) (fun c_8 => ?_) (fun c_8 => ?_)
  · skip
    refine J_iconst E dX6_kinds_17 ic_0 ?_
    refine J_istore E (lv' := [(4, .int 0), (3, .int (-1)), (0, .ref (b 0)), (1, .int (nI 1)), (2, .int (nI j))]) dX6_kinds_18 (by decide) rfl ?_
    refine J_iconst E dX6_kinds_20 ic_0 ?_
    refine J_istore E (lv' := [(5, .int 0), (4, .int 0), (3, .int (-1)), (0, .ref (b 0)), (1, .int (nI 1)), (2, .int (nI j))]) dX6_kinds_21 (by decide) rfl ?_
    refine J_w (ws' := wM G b (upG y 5 (y 5))) (congrArg (wM G b) upG_id.symm) ?_
    have lp23 : ∀ (fu : Nat) (o : Nat) (t : Int32) (d : Q2) (z : Q2), (o ≤ 7) → (t = setF (fun o => soF (y 9 0) j (up2 (y 0) 0 j (nI o)) n) o) → 7 - o < fu → J X G 6 0 0 (wM G b (upG (upG y 5 d) 2 z)) [(0, .ref (b 0)), (1, .int (nI 1)), (2, .int (nI j)), (4, .int t), (5, .int (nI o))] 23 [] := by
      intro fu
      induction fu with
      | zero => intro o t d z hi h1 hm; exact absurd hm (Nat.not_lt_zero _)
      | succ fu ih23 =>
        intro o t d z hi h1 hm
        refine J_iload E dX6_kinds_23 4 rfl ?_
        refine J_bipush E dX6_kinds_25 bp_6 ?_
        refine J_icmp_gt E (tgt := 74) dX6_kinds_27 (by decide) (fun c_27 => ?_) (fun c_27 => ?_)
        · skip
          have n_27 : 6 < o := cmp_lt (a := 6) (b := o) (by omega) (by omega) c_27
          refine J_iload E dX6_kinds_74 3 rfl ?_
          exact ret _ _ _ _ ⟨by rw [h1, show o = 7 by omega], _, rfl, by intro g h2 h5 h6; by_cases h0 : g = 0 <;> simp [tellX, upG, up3, up3R, up2, h0, h2, h5, h6]⟩ rfl dX6_kinds_76
        · skip
          have n_27 : ¬ 6 < o := cmp_nlt (a := 6) (b := o) (by omega) (by omega) c_27
          refine J_aload_n E dX6_kinds_30 rfl 0 rfl ?_
          refine J_cVv0 E (As := []) (c_X6_lends l G b (upG (upG y 5 d) 2 z) ) cl_X6_160 yo_X6_lends dX6_kinds_31 rfl rfl rfl (Nat.le_of_ble_eq_true rfl) (Nat.le_of_ble_eq_true rfl) rfl (Nat.le_of_ble_eq_true rfl) ⟨Nat.zero_le _, Nat.zero_le _⟩ ?_
          refine J_aload_n E dX6_kinds_34 rfl 0 rfl ?_
          refine J_iload_n E dX6_kinds_35 rfl 2 rfl ?_
          refine J_iconst E dX6_kinds_36 ic_0 ?_
          refine J_iload E dX6_kinds_37 4 rfl ?_
          refine J_cVv0 E (As := [.int (nI j), .int 0, .int (nI o)]) (c_X6_sets l G b (upG (upG (upG y 5 d) 2 z) 2 (y 0)) j 0 (nI o) (by omega) (by omega)) cl_X6_43 yo_X6_sets dX6_kinds_39 rfl rfl rfl (Nat.le_of_ble_eq_true rfl) (Nat.le_of_ble_eq_true rfl) rfl (Nat.le_of_ble_eq_true rfl) ⟨Nat.zero_le _, Nat.zero_le _⟩ ?_
          refine J_iload E dX6_kinds_42 3 rfl ?_
          refine J_aload_n E dX6_kinds_44 rfl 0 rfl ?_
          refine J_iload_n E dX6_kinds_45 rfl 1 rfl ?_
          refine J_iload_n E dX6_kinds_46 rfl 2 rfl ?_
          refine J_callEi E (As := [.int (nI 1), .int (nI j)]) (c_X6_isSo_1 l G b (upG (upG (upG (upG y 5 d) 2 z) 2 (y 0)) 0 (up2 (y 0) 0 j (nI o))) j n hj hn hn2 (okQ_k hok _ (by omega))) cl_X6_203 yo_X6_isSo dX6_kinds_47 rfl (Nat.le_of_ble_eq_true rfl) (Nat.le_of_ble_eq_true rfl) rfl (Nat.le_of_ble_eq_true rfl) ⟨Nat.zero_le _, Nat.zero_le _⟩ (fun d47_1 => ?_)
          refine J_w (ws' := wM G b (upG (upG (upG (upG (upG (upG y 5 d) 2 z) 2 (y 0)) 0 (up2 (y 0) 0 j (nI o))) 5 d47_1) 0 (hoursR (up2 (y 0) 0 j (nI o)) n))) (wM_c rfl rfl rfl rfl rfl rfl rfl rfl rfl rfl rfl) ?_
          refine J_top (x' := bI (soF (y 9 0) j (up2 (y 0) 0 j (nI o)) n = true)) rfl ?_
          refine J_if_eq E (tgt := 60) dX6_kinds_50 (by decide) (fun c_50 => ?_) (fun c_50 => ?_)
          · skip
            have c_50 := bI_0 c_50
            refine J_iconst E dX6_kinds_60 ic_0 ?_
            refine J_ior E dX6_kinds_61 ?_
            refine J_istore E (lv' := [(4, .int (t ||| 0)), (0, .ref (b 0)), (1, .int (nI 1)), (2, .int (nI j)), (5, .int (nI o))]) dX6_kinds_62 (by decide) rfl ?_
            refine J_aload_n E dX6_kinds_64 rfl 1 rfl ?_
            refine J_cVv0 E (As := []) (c_X6_laysBack l G b (upG (upG (upG (upG (upG (upG y 5 d) 2 z) 2 (y 0)) 0 (up2 (y 0) 0 j (nI o))) 5 d47_1) 0 (hoursR (up2 (y 0) 0 j (nI o)) n)) ) cl_X6_163 yo_X6_laysBack dX6_kinds_65 rfl rfl rfl (Nat.le_of_ble_eq_true rfl) (Nat.le_of_ble_eq_true rfl) rfl (Nat.le_of_ble_eq_true rfl) ⟨Nat.zero_le _, Nat.zero_le _⟩ ?_
            refine J_iinc E (lv' := [(5, .int (nI (o + 1))), (4, .int (t ||| 0)), (0, .ref (b 0)), (1, .int (nI 1)), (2, .int (nI j))]) dX6_kinds_68 4 rfl (nI_inc _) (by decide) rfl ?_
            refine J_goto E (tgt := 23) dX6_kinds_71 (by decide) ?_
            refine J_lv [2, 3, 4, 1, 0] rfl ?_
            refine J_w (ws' := wM G b (upG (upG y 5 d47_1) 2 (y 0))) (wM_c rfl rfl rfl rfl rfl rfl rfl rfl rfl rfl rfl) ?_
            exact ih23 (o + 1) (t ||| 0) d47_1 (y 0) (by omega) (by rw [h1, setF]; first | (rw [if_pos c_50]; rfl) | (rw [if_neg c_50, or_0])) (by omega)
          · skip
            have c_50 := bI_1 c_50
            refine J_iconst E dX6_kinds_53 ic_1 ?_
            refine J_iload E dX6_kinds_54 4 rfl ?_
            refine J_ishl E dX6_kinds_56 ?_
            refine J_goto E (tgt := 61) dX6_kinds_57 (by decide) ?_
            refine J_ior E dX6_kinds_61 ?_
            refine J_istore E (lv' := [(4, .int (t ||| (1 <<< ((nI o) &&& 31)))), (0, .ref (b 0)), (1, .int (nI 1)), (2, .int (nI j)), (5, .int (nI o))]) dX6_kinds_62 (by decide) rfl ?_
            refine J_aload_n E dX6_kinds_64 rfl 1 rfl ?_
            refine J_cVv0 E (As := []) (c_X6_laysBack l G b (upG (upG (upG (upG (upG (upG y 5 d) 2 z) 2 (y 0)) 0 (up2 (y 0) 0 j (nI o))) 5 d47_1) 0 (hoursR (up2 (y 0) 0 j (nI o)) n)) ) cl_X6_163 yo_X6_laysBack dX6_kinds_65 rfl rfl rfl (Nat.le_of_ble_eq_true rfl) (Nat.le_of_ble_eq_true rfl) rfl (Nat.le_of_ble_eq_true rfl) ⟨Nat.zero_le _, Nat.zero_le _⟩ ?_
            refine J_iinc E (lv' := [(5, .int (nI (o + 1))), (4, .int (t ||| (1 <<< ((nI o) &&& 31)))), (0, .ref (b 0)), (1, .int (nI 1)), (2, .int (nI j))]) dX6_kinds_68 4 rfl (nI_inc _) (by decide) rfl ?_
            refine J_goto E (tgt := 23) dX6_kinds_71 (by decide) ?_
            refine J_lv [2, 3, 4, 1, 0] rfl ?_
            refine J_w (ws' := wM G b (upG (upG y 5 d47_1) 2 (y 0))) (wM_c rfl rfl rfl rfl rfl rfl rfl rfl rfl rfl rfl) ?_
            exact ih23 (o + 1) (t ||| (1 <<< ((nI o) &&& 31))) d47_1 (y 0) (by omega) (by rw [h1, setF]; first | (rw [if_pos c_50]; rfl) | (rw [if_neg c_50, or_0])) (by omega)
    refine J_lv [3, 4, 5, 1, 0] rfl ?_
    refine J_w (ws' := wM G b (upG (upG y 5 (y 5)) 2 (y 2))) (wM_c rfl rfl rfl rfl rfl rfl rfl rfl rfl rfl rfl) ?_
    exact lp23 _ 0 0 (y 5) (y 2) (by omega) rfl (Nat.lt_succ_self _)
  · skip
    exact absurd c_8 (by decide)

set_option maxHeartbeats 4000000 in
set_option maxRecDepth 20000 in
theorem c_X6_kinds_miss_2 (l : Launch) (G : GB) (b : Nat → Nat) (y : Q3) (h : Int32) (hb : y 10 1 0 = 0) : CI l yX6_kinds cX6_kinds 6 .int 4 89 G [.ref (b 0), .int (nI 2), .int h] (wM G b y) (fun vR w' => vR = tellR 5 ∧ PubM G b (tellX y 5) w') := by
  refine CI.mk (own := RX6) (by decide) rfl (Nat.le_of_ble_eq_true rfl) ?_
  intro X E ret
  show J X G 6 0 0 (wM G b y) [(0, .ref (b 0)), (1, .int (nI 2)), (2, .int h)] 0 []
  refine J_aload_n E dX6_kinds_0 rfl 0 rfl ?_
  refine J_iload_n E dX6_kinds_1 rfl 1 rfl ?_
  refine J_iload_n E dX6_kinds_2 rfl 2 rfl ?_
  refine J_cVi0 E (As := [.int (nI 2), .int h]) (c_X6_lacksHouse_2_0 l G b y h hb ) cl_X6_200 yo_X6_lacksHouse dX6_kinds_3 rfl rfl rfl (Nat.le_of_ble_eq_true rfl) (Nat.le_of_ble_eq_true rfl) rfl (Nat.le_of_ble_eq_true rfl) ⟨Nat.zero_le _, Nat.zero_le _⟩ ?_
  refine J_istore_n E (lv' := [(3, .int 5), (0, .ref (b 0)), (1, .int (nI 2)), (2, .int h)]) dX6_kinds_6 rfl (by decide) rfl ?_
  refine J_iload_n E dX6_kinds_7 rfl 0 rfl ?_
  refine J_if_lt E (tgt := 17) dX6_kinds_8 (by decide) (fun c_8 => ?_) (fun c_8 => ?_)
  · skip
    have n_8 : 5 < 0 := cmp_lt (a := 5) (b := 0) (by omega) (by omega) c_8
    exact absurd n_8 (by decide)
  · skip
    have n_8 : ¬ 5 < 0 := cmp_nlt (a := 5) (b := 0) (by omega) (by omega) c_8
    refine J_aload_n E dX6_kinds_11 rfl 1 rfl ?_
    refine J_iload_n E dX6_kinds_12 rfl 0 rfl ?_
    refine J_cVi0 E (As := [.int 5]) (c_X6_finds l G b y 5 (by omega)) cl_X6_96 yo_X6_finds dX6_kinds_13 rfl rfl rfl (Nat.le_of_ble_eq_true rfl) (Nat.le_of_ble_eq_true rfl) rfl (Nat.le_of_ble_eq_true rfl) ⟨Nat.zero_le _, Nat.zero_le _⟩ ?_
    exact ret _ _ _ _ ⟨rfl, _, rfl, by intro g h2 h5 h6; by_cases h0 : g = 0 <;> simp [tellX, upG, up3, up3R, up2, h0, h2, h5, h6]⟩ rfl dX6_kinds_16

set_option maxHeartbeats 4000000 in
set_option maxRecDepth 20000 in
theorem c_X6_kinds_bad_2 (l : Launch) (G : GB) (b : Nat → Nat) (y : Q3) (h : Int32) (hb : ¬ y 10 1 0 = 0) (hh : ¬ okH h) : CI l yX6_kinds cX6_kinds 6 .int 4 89 G [.ref (b 0), .int (nI 2), .int h] (wM G b y) (fun vR w' => vR = tellR 0 ∧ PubM G b (tellX y 0) w') := by
  refine CI.mk (own := RX6) (by decide) rfl (Nat.le_of_ble_eq_true rfl) ?_
  intro X E ret
  show J X G 6 0 0 (wM G b y) [(0, .ref (b 0)), (1, .int (nI 2)), (2, .int h)] 0 []
  refine J_aload_n E dX6_kinds_0 rfl 0 rfl ?_
  refine J_iload_n E dX6_kinds_1 rfl 1 rfl ?_
  refine J_iload_n E dX6_kinds_2 rfl 2 rfl ?_
  refine J_cVi0 E (As := [.int (nI 2), .int h]) (c_X6_lacksHouse_2_2 l G b y h hb hh ) cl_X6_200 yo_X6_lacksHouse dX6_kinds_3 rfl rfl rfl (Nat.le_of_ble_eq_true rfl) (Nat.le_of_ble_eq_true rfl) rfl (Nat.le_of_ble_eq_true rfl) ⟨Nat.zero_le _, Nat.zero_le _⟩ ?_
  refine J_istore_n E (lv' := [(3, .int 0), (0, .ref (b 0)), (1, .int (nI 2)), (2, .int h)]) dX6_kinds_6 rfl (by decide) rfl ?_
  refine J_iload_n E dX6_kinds_7 rfl 0 rfl ?_
  refine J_if_lt E (tgt := 17) dX6_kinds_8 (by decide) (fun c_8 => ?_) (fun c_8 => ?_)
  · skip
    have n_8 : 0 < 0 := cmp_lt (a := 0) (b := 0) (by omega) (by omega) c_8
    exact absurd n_8 (by decide)
  · skip
    have n_8 : ¬ 0 < 0 := cmp_nlt (a := 0) (b := 0) (by omega) (by omega) c_8
    refine J_aload_n E dX6_kinds_11 rfl 1 rfl ?_
    refine J_iload_n E dX6_kinds_12 rfl 0 rfl ?_
    refine J_cVi0 E (As := [.int 0]) (c_X6_finds l G b y 0 (by omega)) cl_X6_96 yo_X6_finds dX6_kinds_13 rfl rfl rfl (Nat.le_of_ble_eq_true rfl) (Nat.le_of_ble_eq_true rfl) rfl (Nat.le_of_ble_eq_true rfl) ⟨Nat.zero_le _, Nat.zero_le _⟩ ?_
    exact ret _ _ _ _ ⟨rfl, _, rfl, by intro g h2 h5 h6; by_cases h0 : g = 0 <;> simp [tellX, upG, up3, up3R, up2, h0, h2, h5, h6]⟩ rfl dX6_kinds_16

set_option maxHeartbeats 4000000 in
set_option maxRecDepth 20000 in
theorem c_X6_kinds_ok_2 (l : Launch) (G : GB) (b : Nat → Nat) (y : Q3) (j n : Nat) (hb : ¬ y 10 1 0 = 0) (hj : j < 11) (hn : y 10 1 1 = nI n) (hn2 : n ≤ 40) (hok : okQ (y 0))  : CI l yX6_kinds cX6_kinds 6 .int 5 116 G [.ref (b 0), .int (nI 2), .int (nI j)] (wM G b y) (fun vR w' => vR = setF (fun o => soF (y 10 0) j (up2 (y 0) 0 j (nI o)) n) 7 ∧ PubM G b y w') := by
  refine CI.mk (own := RX6) (by decide) rfl (Nat.le_of_ble_eq_true rfl) ?_
  intro X E ret
  show J X G 6 0 0 (wM G b y) [(0, .ref (b 0)), (1, .int (nI 2)), (2, .int (nI j))] 0 []
  refine J_aload_n E dX6_kinds_0 rfl 0 rfl ?_
  refine J_iload_n E dX6_kinds_1 rfl 1 rfl ?_
  refine J_iload_n E dX6_kinds_2 rfl 2 rfl ?_
  refine J_cVi0 E (As := [.int (nI 2), .int (nI j)]) (c_X6_lacksHouse_2_1 l G b y (nI j) hb (inB (a := j) (b := 10) (by omega) (by decide)) ) cl_X6_200 yo_X6_lacksHouse dX6_kinds_3 rfl rfl rfl (Nat.le_of_ble_eq_true rfl) (Nat.le_of_ble_eq_true rfl) rfl (Nat.le_of_ble_eq_true rfl) ⟨Nat.zero_le _, Nat.zero_le _⟩ ?_
  refine J_istore_n E (lv' := [(3, .int (-1)), (0, .ref (b 0)), (1, .int (nI 2)), (2, .int (nI j))]) dX6_kinds_6 rfl (by decide) rfl ?_
  refine J_iload_n E dX6_kinds_7 rfl 0 rfl ?_
  refine J_if_lt E (tgt := 17) dX6_kinds_8 (by decide) (fun c_8 => ?_) (fun c_8 => ?_)
  · skip
    refine J_iconst E dX6_kinds_17 ic_0 ?_
    refine J_istore E (lv' := [(4, .int 0), (3, .int (-1)), (0, .ref (b 0)), (1, .int (nI 2)), (2, .int (nI j))]) dX6_kinds_18 (by decide) rfl ?_
    refine J_iconst E dX6_kinds_20 ic_0 ?_
    refine J_istore E (lv' := [(5, .int 0), (4, .int 0), (3, .int (-1)), (0, .ref (b 0)), (1, .int (nI 2)), (2, .int (nI j))]) dX6_kinds_21 (by decide) rfl ?_
    refine J_w (ws' := wM G b (upG y 5 (y 5))) (congrArg (wM G b) upG_id.symm) ?_
    have lp23 : ∀ (fu : Nat) (o : Nat) (t : Int32) (d : Q2) (z : Q2), (o ≤ 7) → (t = setF (fun o => soF (y 10 0) j (up2 (y 0) 0 j (nI o)) n) o) → 7 - o < fu → J X G 6 0 0 (wM G b (upG (upG y 5 d) 2 z)) [(0, .ref (b 0)), (1, .int (nI 2)), (2, .int (nI j)), (4, .int t), (5, .int (nI o))] 23 [] := by
      intro fu
      induction fu with
      | zero => intro o t d z hi h1 hm; exact absurd hm (Nat.not_lt_zero _)
      | succ fu ih23 =>
        intro o t d z hi h1 hm
        refine J_iload E dX6_kinds_23 4 rfl ?_
        refine J_bipush E dX6_kinds_25 bp_6 ?_
        refine J_icmp_gt E (tgt := 74) dX6_kinds_27 (by decide) (fun c_27 => ?_) (fun c_27 => ?_)
        · skip
          have n_27 : 6 < o := cmp_lt (a := 6) (b := o) (by omega) (by omega) c_27
          refine J_iload E dX6_kinds_74 3 rfl ?_
          exact ret _ _ _ _ ⟨by rw [h1, show o = 7 by omega], _, rfl, by intro g h2 h5 h6; by_cases h0 : g = 0 <;> simp [tellX, upG, up3, up3R, up2, h0, h2, h5, h6]⟩ rfl dX6_kinds_76
        · skip
          have n_27 : ¬ 6 < o := cmp_nlt (a := 6) (b := o) (by omega) (by omega) c_27
          refine J_aload_n E dX6_kinds_30 rfl 0 rfl ?_
          refine J_cVv0 E (As := []) (c_X6_lends l G b (upG (upG y 5 d) 2 z) ) cl_X6_160 yo_X6_lends dX6_kinds_31 rfl rfl rfl (Nat.le_of_ble_eq_true rfl) (Nat.le_of_ble_eq_true rfl) rfl (Nat.le_of_ble_eq_true rfl) ⟨Nat.zero_le _, Nat.zero_le _⟩ ?_
          refine J_aload_n E dX6_kinds_34 rfl 0 rfl ?_
          refine J_iload_n E dX6_kinds_35 rfl 2 rfl ?_
          refine J_iconst E dX6_kinds_36 ic_0 ?_
          refine J_iload E dX6_kinds_37 4 rfl ?_
          refine J_cVv0 E (As := [.int (nI j), .int 0, .int (nI o)]) (c_X6_sets l G b (upG (upG (upG y 5 d) 2 z) 2 (y 0)) j 0 (nI o) (by omega) (by omega)) cl_X6_43 yo_X6_sets dX6_kinds_39 rfl rfl rfl (Nat.le_of_ble_eq_true rfl) (Nat.le_of_ble_eq_true rfl) rfl (Nat.le_of_ble_eq_true rfl) ⟨Nat.zero_le _, Nat.zero_le _⟩ ?_
          refine J_iload E dX6_kinds_42 3 rfl ?_
          refine J_aload_n E dX6_kinds_44 rfl 0 rfl ?_
          refine J_iload_n E dX6_kinds_45 rfl 1 rfl ?_
          refine J_iload_n E dX6_kinds_46 rfl 2 rfl ?_
          refine J_callEi E (As := [.int (nI 2), .int (nI j)]) (c_X6_isSo_2 l G b (upG (upG (upG (upG y 5 d) 2 z) 2 (y 0)) 0 (up2 (y 0) 0 j (nI o))) j n hj hn hn2 (okQ_k hok _ (by omega))) cl_X6_203 yo_X6_isSo dX6_kinds_47 rfl (Nat.le_of_ble_eq_true rfl) (Nat.le_of_ble_eq_true rfl) rfl (Nat.le_of_ble_eq_true rfl) ⟨Nat.zero_le _, Nat.zero_le _⟩ (fun d47_1 => ?_)
          refine J_w (ws' := wM G b (upG (upG (upG (upG (upG (upG y 5 d) 2 z) 2 (y 0)) 0 (up2 (y 0) 0 j (nI o))) 5 d47_1) 0 (hoursR (up2 (y 0) 0 j (nI o)) n))) (wM_c rfl rfl rfl rfl rfl rfl rfl rfl rfl rfl rfl) ?_
          refine J_top (x' := bI (soF (y 10 0) j (up2 (y 0) 0 j (nI o)) n = true)) rfl ?_
          refine J_if_eq E (tgt := 60) dX6_kinds_50 (by decide) (fun c_50 => ?_) (fun c_50 => ?_)
          · skip
            have c_50 := bI_0 c_50
            refine J_iconst E dX6_kinds_60 ic_0 ?_
            refine J_ior E dX6_kinds_61 ?_
            refine J_istore E (lv' := [(4, .int (t ||| 0)), (0, .ref (b 0)), (1, .int (nI 2)), (2, .int (nI j)), (5, .int (nI o))]) dX6_kinds_62 (by decide) rfl ?_
            refine J_aload_n E dX6_kinds_64 rfl 1 rfl ?_
            refine J_cVv0 E (As := []) (c_X6_laysBack l G b (upG (upG (upG (upG (upG (upG y 5 d) 2 z) 2 (y 0)) 0 (up2 (y 0) 0 j (nI o))) 5 d47_1) 0 (hoursR (up2 (y 0) 0 j (nI o)) n)) ) cl_X6_163 yo_X6_laysBack dX6_kinds_65 rfl rfl rfl (Nat.le_of_ble_eq_true rfl) (Nat.le_of_ble_eq_true rfl) rfl (Nat.le_of_ble_eq_true rfl) ⟨Nat.zero_le _, Nat.zero_le _⟩ ?_
            refine J_iinc E (lv' := [(5, .int (nI (o + 1))), (4, .int (t ||| 0)), (0, .ref (b 0)), (1, .int (nI 2)), (2, .int (nI j))]) dX6_kinds_68 4 rfl (nI_inc _) (by decide) rfl ?_
            refine J_goto E (tgt := 23) dX6_kinds_71 (by decide) ?_
            refine J_lv [2, 3, 4, 1, 0] rfl ?_
            refine J_w (ws' := wM G b (upG (upG y 5 d47_1) 2 (y 0))) (wM_c rfl rfl rfl rfl rfl rfl rfl rfl rfl rfl rfl) ?_
            exact ih23 (o + 1) (t ||| 0) d47_1 (y 0) (by omega) (by rw [h1, setF]; first | (rw [if_pos c_50]; rfl) | (rw [if_neg c_50, or_0])) (by omega)
          · skip
            have c_50 := bI_1 c_50
            refine J_iconst E dX6_kinds_53 ic_1 ?_
            refine J_iload E dX6_kinds_54 4 rfl ?_
            refine J_ishl E dX6_kinds_56 ?_
            refine J_goto E (tgt := 61) dX6_kinds_57 (by decide) ?_
            refine J_ior E dX6_kinds_61 ?_
            refine J_istore E (lv' := [(4, .int (t ||| (1 <<< ((nI o) &&& 31)))), (0, .ref (b 0)), (1, .int (nI 2)), (2, .int (nI j)), (5, .int (nI o))]) dX6_kinds_62 (by decide) rfl ?_
            refine J_aload_n E dX6_kinds_64 rfl 1 rfl ?_
            refine J_cVv0 E (As := []) (c_X6_laysBack l G b (upG (upG (upG (upG (upG (upG y 5 d) 2 z) 2 (y 0)) 0 (up2 (y 0) 0 j (nI o))) 5 d47_1) 0 (hoursR (up2 (y 0) 0 j (nI o)) n)) ) cl_X6_163 yo_X6_laysBack dX6_kinds_65 rfl rfl rfl (Nat.le_of_ble_eq_true rfl) (Nat.le_of_ble_eq_true rfl) rfl (Nat.le_of_ble_eq_true rfl) ⟨Nat.zero_le _, Nat.zero_le _⟩ ?_
            refine J_iinc E (lv' := [(5, .int (nI (o + 1))), (4, .int (t ||| (1 <<< ((nI o) &&& 31)))), (0, .ref (b 0)), (1, .int (nI 2)), (2, .int (nI j))]) dX6_kinds_68 4 rfl (nI_inc _) (by decide) rfl ?_
            refine J_goto E (tgt := 23) dX6_kinds_71 (by decide) ?_
            refine J_lv [2, 3, 4, 1, 0] rfl ?_
            refine J_w (ws' := wM G b (upG (upG y 5 d47_1) 2 (y 0))) (wM_c rfl rfl rfl rfl rfl rfl rfl rfl rfl rfl rfl) ?_
            exact ih23 (o + 1) (t ||| (1 <<< ((nI o) &&& 31))) d47_1 (y 0) (by omega) (by rw [h1, setF]; first | (rw [if_pos c_50]; rfl) | (rw [if_neg c_50, or_0])) (by omega)
    refine J_lv [3, 4, 5, 1, 0] rfl ?_
    refine J_w (ws' := wM G b (upG (upG y 5 (y 5)) 2 (y 2))) (wM_c rfl rfl rfl rfl rfl rfl rfl rfl rfl rfl rfl) ?_
    exact lp23 _ 0 0 (y 5) (y 2) (by omega) rfl (Nat.lt_succ_self _)
  · skip
    exact absurd c_8 (by decide)

set_option maxHeartbeats 4000000 in
set_option maxRecDepth 20000 in
theorem c_X6_kinds_miss_3 (l : Launch) (G : GB) (b : Nat → Nat) (y : Q3) (h : Int32) (hb : y 11 1 0 = 0) : CI l yX6_kinds cX6_kinds 6 .int 4 89 G [.ref (b 0), .int (nI 3), .int h] (wM G b y) (fun vR w' => vR = tellR 5 ∧ PubM G b (tellX y 5) w') := by
  refine CI.mk (own := RX6) (by decide) rfl (Nat.le_of_ble_eq_true rfl) ?_
  intro X E ret
  show J X G 6 0 0 (wM G b y) [(0, .ref (b 0)), (1, .int (nI 3)), (2, .int h)] 0 []
  refine J_aload_n E dX6_kinds_0 rfl 0 rfl ?_
  refine J_iload_n E dX6_kinds_1 rfl 1 rfl ?_
  refine J_iload_n E dX6_kinds_2 rfl 2 rfl ?_
  refine J_cVi0 E (As := [.int (nI 3), .int h]) (c_X6_lacksHouse_3_0 l G b y h hb ) cl_X6_200 yo_X6_lacksHouse dX6_kinds_3 rfl rfl rfl (Nat.le_of_ble_eq_true rfl) (Nat.le_of_ble_eq_true rfl) rfl (Nat.le_of_ble_eq_true rfl) ⟨Nat.zero_le _, Nat.zero_le _⟩ ?_
  refine J_istore_n E (lv' := [(3, .int 5), (0, .ref (b 0)), (1, .int (nI 3)), (2, .int h)]) dX6_kinds_6 rfl (by decide) rfl ?_
  refine J_iload_n E dX6_kinds_7 rfl 0 rfl ?_
  refine J_if_lt E (tgt := 17) dX6_kinds_8 (by decide) (fun c_8 => ?_) (fun c_8 => ?_)
  · skip
    have n_8 : 5 < 0 := cmp_lt (a := 5) (b := 0) (by omega) (by omega) c_8
    exact absurd n_8 (by decide)
  · skip
    have n_8 : ¬ 5 < 0 := cmp_nlt (a := 5) (b := 0) (by omega) (by omega) c_8
    refine J_aload_n E dX6_kinds_11 rfl 1 rfl ?_
    refine J_iload_n E dX6_kinds_12 rfl 0 rfl ?_
    refine J_cVi0 E (As := [.int 5]) (c_X6_finds l G b y 5 (by omega)) cl_X6_96 yo_X6_finds dX6_kinds_13 rfl rfl rfl (Nat.le_of_ble_eq_true rfl) (Nat.le_of_ble_eq_true rfl) rfl (Nat.le_of_ble_eq_true rfl) ⟨Nat.zero_le _, Nat.zero_le _⟩ ?_
    exact ret _ _ _ _ ⟨rfl, _, rfl, by intro g h2 h5 h6; by_cases h0 : g = 0 <;> simp [tellX, upG, up3, up3R, up2, h0, h2, h5, h6]⟩ rfl dX6_kinds_16

set_option maxHeartbeats 4000000 in
set_option maxRecDepth 20000 in
theorem c_X6_kinds_bad_3 (l : Launch) (G : GB) (b : Nat → Nat) (y : Q3) (h : Int32) (hb : ¬ y 11 1 0 = 0) (hh : ¬ okH h) : CI l yX6_kinds cX6_kinds 6 .int 4 89 G [.ref (b 0), .int (nI 3), .int h] (wM G b y) (fun vR w' => vR = tellR 0 ∧ PubM G b (tellX y 0) w') := by
  refine CI.mk (own := RX6) (by decide) rfl (Nat.le_of_ble_eq_true rfl) ?_
  intro X E ret
  show J X G 6 0 0 (wM G b y) [(0, .ref (b 0)), (1, .int (nI 3)), (2, .int h)] 0 []
  refine J_aload_n E dX6_kinds_0 rfl 0 rfl ?_
  refine J_iload_n E dX6_kinds_1 rfl 1 rfl ?_
  refine J_iload_n E dX6_kinds_2 rfl 2 rfl ?_
  refine J_cVi0 E (As := [.int (nI 3), .int h]) (c_X6_lacksHouse_3_2 l G b y h hb hh ) cl_X6_200 yo_X6_lacksHouse dX6_kinds_3 rfl rfl rfl (Nat.le_of_ble_eq_true rfl) (Nat.le_of_ble_eq_true rfl) rfl (Nat.le_of_ble_eq_true rfl) ⟨Nat.zero_le _, Nat.zero_le _⟩ ?_
  refine J_istore_n E (lv' := [(3, .int 0), (0, .ref (b 0)), (1, .int (nI 3)), (2, .int h)]) dX6_kinds_6 rfl (by decide) rfl ?_
  refine J_iload_n E dX6_kinds_7 rfl 0 rfl ?_
  refine J_if_lt E (tgt := 17) dX6_kinds_8 (by decide) (fun c_8 => ?_) (fun c_8 => ?_)
  · skip
    have n_8 : 0 < 0 := cmp_lt (a := 0) (b := 0) (by omega) (by omega) c_8
    exact absurd n_8 (by decide)
  · skip
    have n_8 : ¬ 0 < 0 := cmp_nlt (a := 0) (b := 0) (by omega) (by omega) c_8
    refine J_aload_n E dX6_kinds_11 rfl 1 rfl ?_
    refine J_iload_n E dX6_kinds_12 rfl 0 rfl ?_
    refine J_cVi0 E (As := [.int 0]) (c_X6_finds l G b y 0 (by omega)) cl_X6_96 yo_X6_finds dX6_kinds_13 rfl rfl rfl (Nat.le_of_ble_eq_true rfl) (Nat.le_of_ble_eq_true rfl) rfl (Nat.le_of_ble_eq_true rfl) ⟨Nat.zero_le _, Nat.zero_le _⟩ ?_
    exact ret _ _ _ _ ⟨rfl, _, rfl, by intro g h2 h5 h6; by_cases h0 : g = 0 <;> simp [tellX, upG, up3, up3R, up2, h0, h2, h5, h6]⟩ rfl dX6_kinds_16

set_option maxHeartbeats 4000000 in
set_option maxRecDepth 20000 in
theorem c_X6_kinds_ok_3 (l : Launch) (G : GB) (b : Nat → Nat) (y : Q3) (j n : Nat) (hb : ¬ y 11 1 0 = 0) (hj : j < 11) (hn : y 11 1 1 = nI n) (hn2 : n ≤ 40) (hok : okQ (y 0))  : CI l yX6_kinds cX6_kinds 6 .int 5 116 G [.ref (b 0), .int (nI 3), .int (nI j)] (wM G b y) (fun vR w' => vR = setF (fun o => soF (y 11 0) j (up2 (y 0) 0 j (nI o)) n) 7 ∧ PubM G b y w') := by
  refine CI.mk (own := RX6) (by decide) rfl (Nat.le_of_ble_eq_true rfl) ?_
  intro X E ret
  show J X G 6 0 0 (wM G b y) [(0, .ref (b 0)), (1, .int (nI 3)), (2, .int (nI j))] 0 []
  refine J_aload_n E dX6_kinds_0 rfl 0 rfl ?_
  refine J_iload_n E dX6_kinds_1 rfl 1 rfl ?_
  refine J_iload_n E dX6_kinds_2 rfl 2 rfl ?_
  refine J_cVi0 E (As := [.int (nI 3), .int (nI j)]) (c_X6_lacksHouse_3_1 l G b y (nI j) hb (inB (a := j) (b := 10) (by omega) (by decide)) ) cl_X6_200 yo_X6_lacksHouse dX6_kinds_3 rfl rfl rfl (Nat.le_of_ble_eq_true rfl) (Nat.le_of_ble_eq_true rfl) rfl (Nat.le_of_ble_eq_true rfl) ⟨Nat.zero_le _, Nat.zero_le _⟩ ?_
  refine J_istore_n E (lv' := [(3, .int (-1)), (0, .ref (b 0)), (1, .int (nI 3)), (2, .int (nI j))]) dX6_kinds_6 rfl (by decide) rfl ?_
  refine J_iload_n E dX6_kinds_7 rfl 0 rfl ?_
  refine J_if_lt E (tgt := 17) dX6_kinds_8 (by decide) (fun c_8 => ?_) (fun c_8 => ?_)
  · skip
    refine J_iconst E dX6_kinds_17 ic_0 ?_
    refine J_istore E (lv' := [(4, .int 0), (3, .int (-1)), (0, .ref (b 0)), (1, .int (nI 3)), (2, .int (nI j))]) dX6_kinds_18 (by decide) rfl ?_
    refine J_iconst E dX6_kinds_20 ic_0 ?_
    refine J_istore E (lv' := [(5, .int 0), (4, .int 0), (3, .int (-1)), (0, .ref (b 0)), (1, .int (nI 3)), (2, .int (nI j))]) dX6_kinds_21 (by decide) rfl ?_
    refine J_w (ws' := wM G b (upG y 5 (y 5))) (congrArg (wM G b) upG_id.symm) ?_
    have lp23 : ∀ (fu : Nat) (o : Nat) (t : Int32) (d : Q2) (z : Q2), (o ≤ 7) → (t = setF (fun o => soF (y 11 0) j (up2 (y 0) 0 j (nI o)) n) o) → 7 - o < fu → J X G 6 0 0 (wM G b (upG (upG y 5 d) 2 z)) [(0, .ref (b 0)), (1, .int (nI 3)), (2, .int (nI j)), (4, .int t), (5, .int (nI o))] 23 [] := by
      intro fu
      induction fu with
      | zero => intro o t d z hi h1 hm; exact absurd hm (Nat.not_lt_zero _)
      | succ fu ih23 =>
        intro o t d z hi h1 hm
        refine J_iload E dX6_kinds_23 4 rfl ?_
        refine J_bipush E dX6_kinds_25 bp_6 ?_
        refine J_icmp_gt E (tgt := 74) dX6_kinds_27 (by decide) (fun c_27 => ?_) (fun c_27 => ?_)
        · skip
          have n_27 : 6 < o := cmp_lt (a := 6) (b := o) (by omega) (by omega) c_27
          refine J_iload E dX6_kinds_74 3 rfl ?_
          exact ret _ _ _ _ ⟨by rw [h1, show o = 7 by omega], _, rfl, by intro g h2 h5 h6; by_cases h0 : g = 0 <;> simp [tellX, upG, up3, up3R, up2, h0, h2, h5, h6]⟩ rfl dX6_kinds_76
        · skip
          have n_27 : ¬ 6 < o := cmp_nlt (a := 6) (b := o) (by omega) (by omega) c_27
          refine J_aload_n E dX6_kinds_30 rfl 0 rfl ?_
          refine J_cVv0 E (As := []) (c_X6_lends l G b (upG (upG y 5 d) 2 z) ) cl_X6_160 yo_X6_lends dX6_kinds_31 rfl rfl rfl (Nat.le_of_ble_eq_true rfl) (Nat.le_of_ble_eq_true rfl) rfl (Nat.le_of_ble_eq_true rfl) ⟨Nat.zero_le _, Nat.zero_le _⟩ ?_
          refine J_aload_n E dX6_kinds_34 rfl 0 rfl ?_
          refine J_iload_n E dX6_kinds_35 rfl 2 rfl ?_
          refine J_iconst E dX6_kinds_36 ic_0 ?_
          refine J_iload E dX6_kinds_37 4 rfl ?_
          refine J_cVv0 E (As := [.int (nI j), .int 0, .int (nI o)]) (c_X6_sets l G b (upG (upG (upG y 5 d) 2 z) 2 (y 0)) j 0 (nI o) (by omega) (by omega)) cl_X6_43 yo_X6_sets dX6_kinds_39 rfl rfl rfl (Nat.le_of_ble_eq_true rfl) (Nat.le_of_ble_eq_true rfl) rfl (Nat.le_of_ble_eq_true rfl) ⟨Nat.zero_le _, Nat.zero_le _⟩ ?_
          refine J_iload E dX6_kinds_42 3 rfl ?_
          refine J_aload_n E dX6_kinds_44 rfl 0 rfl ?_
          refine J_iload_n E dX6_kinds_45 rfl 1 rfl ?_
          refine J_iload_n E dX6_kinds_46 rfl 2 rfl ?_
          refine J_callEi E (As := [.int (nI 3), .int (nI j)]) (c_X6_isSo_3 l G b (upG (upG (upG (upG y 5 d) 2 z) 2 (y 0)) 0 (up2 (y 0) 0 j (nI o))) j n hj hn hn2 (okQ_k hok _ (by omega))) cl_X6_203 yo_X6_isSo dX6_kinds_47 rfl (Nat.le_of_ble_eq_true rfl) (Nat.le_of_ble_eq_true rfl) rfl (Nat.le_of_ble_eq_true rfl) ⟨Nat.zero_le _, Nat.zero_le _⟩ (fun d47_1 => ?_)
          refine J_w (ws' := wM G b (upG (upG (upG (upG (upG (upG y 5 d) 2 z) 2 (y 0)) 0 (up2 (y 0) 0 j (nI o))) 5 d47_1) 0 (hoursR (up2 (y 0) 0 j (nI o)) n))) (wM_c rfl rfl rfl rfl rfl rfl rfl rfl rfl rfl rfl) ?_
          refine J_top (x' := bI (soF (y 11 0) j (up2 (y 0) 0 j (nI o)) n = true)) rfl ?_
          refine J_if_eq E (tgt := 60) dX6_kinds_50 (by decide) (fun c_50 => ?_) (fun c_50 => ?_)
          · skip
            have c_50 := bI_0 c_50
            refine J_iconst E dX6_kinds_60 ic_0 ?_
            refine J_ior E dX6_kinds_61 ?_
            refine J_istore E (lv' := [(4, .int (t ||| 0)), (0, .ref (b 0)), (1, .int (nI 3)), (2, .int (nI j)), (5, .int (nI o))]) dX6_kinds_62 (by decide) rfl ?_
            refine J_aload_n E dX6_kinds_64 rfl 1 rfl ?_
            refine J_cVv0 E (As := []) (c_X6_laysBack l G b (upG (upG (upG (upG (upG (upG y 5 d) 2 z) 2 (y 0)) 0 (up2 (y 0) 0 j (nI o))) 5 d47_1) 0 (hoursR (up2 (y 0) 0 j (nI o)) n)) ) cl_X6_163 yo_X6_laysBack dX6_kinds_65 rfl rfl rfl (Nat.le_of_ble_eq_true rfl) (Nat.le_of_ble_eq_true rfl) rfl (Nat.le_of_ble_eq_true rfl) ⟨Nat.zero_le _, Nat.zero_le _⟩ ?_
            refine J_iinc E (lv' := [(5, .int (nI (o + 1))), (4, .int (t ||| 0)), (0, .ref (b 0)), (1, .int (nI 3)), (2, .int (nI j))]) dX6_kinds_68 4 rfl (nI_inc _) (by decide) rfl ?_
            refine J_goto E (tgt := 23) dX6_kinds_71 (by decide) ?_
            refine J_lv [2, 3, 4, 1, 0] rfl ?_
            refine J_w (ws' := wM G b (upG (upG y 5 d47_1) 2 (y 0))) (wM_c rfl rfl rfl rfl rfl rfl rfl rfl rfl rfl rfl) ?_
            exact ih23 (o + 1) (t ||| 0) d47_1 (y 0) (by omega) (by rw [h1, setF]; first | (rw [if_pos c_50]; rfl) | (rw [if_neg c_50, or_0])) (by omega)
          · skip
            have c_50 := bI_1 c_50
            refine J_iconst E dX6_kinds_53 ic_1 ?_
            refine J_iload E dX6_kinds_54 4 rfl ?_
            refine J_ishl E dX6_kinds_56 ?_
            refine J_goto E (tgt := 61) dX6_kinds_57 (by decide) ?_
            refine J_ior E dX6_kinds_61 ?_
            refine J_istore E (lv' := [(4, .int (t ||| (1 <<< ((nI o) &&& 31)))), (0, .ref (b 0)), (1, .int (nI 3)), (2, .int (nI j)), (5, .int (nI o))]) dX6_kinds_62 (by decide) rfl ?_
            refine J_aload_n E dX6_kinds_64 rfl 1 rfl ?_
            refine J_cVv0 E (As := []) (c_X6_laysBack l G b (upG (upG (upG (upG (upG (upG y 5 d) 2 z) 2 (y 0)) 0 (up2 (y 0) 0 j (nI o))) 5 d47_1) 0 (hoursR (up2 (y 0) 0 j (nI o)) n)) ) cl_X6_163 yo_X6_laysBack dX6_kinds_65 rfl rfl rfl (Nat.le_of_ble_eq_true rfl) (Nat.le_of_ble_eq_true rfl) rfl (Nat.le_of_ble_eq_true rfl) ⟨Nat.zero_le _, Nat.zero_le _⟩ ?_
            refine J_iinc E (lv' := [(5, .int (nI (o + 1))), (4, .int (t ||| (1 <<< ((nI o) &&& 31)))), (0, .ref (b 0)), (1, .int (nI 3)), (2, .int (nI j))]) dX6_kinds_68 4 rfl (nI_inc _) (by decide) rfl ?_
            refine J_goto E (tgt := 23) dX6_kinds_71 (by decide) ?_
            refine J_lv [2, 3, 4, 1, 0] rfl ?_
            refine J_w (ws' := wM G b (upG (upG y 5 d47_1) 2 (y 0))) (wM_c rfl rfl rfl rfl rfl rfl rfl rfl rfl rfl rfl) ?_
            exact ih23 (o + 1) (t ||| (1 <<< ((nI o) &&& 31))) d47_1 (y 0) (by omega) (by rw [h1, setF]; first | (rw [if_pos c_50]; rfl) | (rw [if_neg c_50, or_0])) (by omega)
    refine J_lv [3, 4, 5, 1, 0] rfl ?_
    refine J_w (ws' := wM G b (upG (upG y 5 (y 5)) 2 (y 2))) (wM_c rfl rfl rfl rfl rfl rfl rfl rfl rfl rfl rfl) ?_
    exact lp23 _ 0 0 (y 5) (y 2) (by omega) rfl (Nat.lt_succ_self _)
  · skip
    exact absurd c_8 (by decide)

set_option maxHeartbeats 4000000 in
set_option maxRecDepth 20000 in
theorem c_X6_draw (l : Launch) (G : GB) (b : Nat → Nat) (y : Q3)  : CI l yX6_draw cX6_draw 1 .int 0 0 G [.ref (b 0)] (wM G b y) (fun vR w' => vR = ((drawF (y 0 7 1)).toUInt32 >>> ((8 : Int32).toUInt32 &&& Int32.toUInt32 31)).toInt32 ∧ w' = wM G b (upG y 0 (up2 (y 0) 7 1 (drawF (y 0 7 1))))) := by
  refine CI.mk (own := RX6) (by decide) rfl (Nat.le_of_ble_eq_true rfl) ?_
  intro X E ret
  show J X G 1 0 0 (wM G b y) [(0, .ref (b 0))] 0 []
  refine J_aload_n E dX6_draw_0 rfl 0 rfl ?_
  refine gM0_X6_9 E dX6_draw_1 ?_
  refine J_iconst E dX6_draw_4 ic_1 ?_
  refine J_aload_n E dX6_draw_5 rfl 0 rfl ?_
  refine gM0_X6_9 E dX6_draw_6 ?_
  refine J_iconst E dX6_draw_9 ic_1 ?_
  refine lMs E (j := 1) (r := 7) (i := 1) (at_7 (by decide)) dX6_draw_10 ?_
  refine J_ldc E kn_X6_206 dX6_draw_11 ?_
  refine J_imul E dX6_draw_13 ?_
  refine J_sipush E dX6_draw_14 sp_12345 ?_
  refine J_iadd E dX6_draw_17 ?_
  refine sMs E (j := 1) (r := 7) (i := 1) (at_7 (by decide)) dX6_draw_18 ?_
  refine J_w (ws' := wM G b (upG y 0 (up2 (y 0) 7 1 (((y 0 7 1) * 1103515245) + 12345)))) rfl ?_
  refine J_aload_n E dX6_draw_19 rfl 0 rfl ?_
  refine gM0_X6_9 E dX6_draw_20 ?_
  refine J_iconst E dX6_draw_23 ic_1 ?_
  refine lMs E (j := 1) (r := 7) (i := 1) (at_7 (by decide)) dX6_draw_24 ?_
  refine J_top (x' := (up2 (y 0) 7 1 (((y 0 7 1) * 1103515245) + 12345)) 7 1) upG_s ?_
  refine J_top (x' := drawF (y 0 7 1)) (up2_s) ?_
  refine J_bipush E dX6_draw_25 bp_8 ?_
  refine J_iushr E dX6_draw_27 rfl ?_
  exact ret _ _ _ _ ⟨rfl, (congrArg (wM G b) (rfl))⟩ rfl dX6_draw_28

set_option maxHeartbeats 4000000 in
set_option maxRecDepth 20000 in
theorem c_X6_showers_bad (l : Launch) (G : GB) (b : Nat → Nat) (y : Q3) (n : Int32) (hb : ¬ (1 ≤ n ∧ n ≤ 20)) : CI l yX6_showers cX6_showers 4 .int 1 25 G [.ref (b 0), .int n] (wM G b y) (fun vR w' => vR = tellR 0 ∧ PubM G b (tellX y 0) w') := by
  refine CI.mk (own := RX6) (by decide) rfl (Nat.le_of_ble_eq_true rfl) ?_
  intro X E ret
  show J X G 4 0 0 (wM G b y) [(0, .ref (b 0)), (1, .int n)] 0 []
  refine J_iload_n E dX6_showers_0 rfl 1 rfl ?_
  refine J_i2l E dX6_showers_1 rfl ?_
  refine J_lconst E dX6_showers_2 lc_1 ?_
  refine J_ldc2 E kl_X6_207 dX6_showers_3 ?_
  refine J_cSiN E (As := [.long (Int32.toInt64 n), .long 1, .long 20]) (c_X6_in l G n 1 20 1 20 (by decide) (by decide) ) cl_X6_54 yo_X6_in dX6_showers_6 rfl (Nat.le_of_ble_eq_true rfl) (Nat.le_of_ble_eq_true rfl) rfl (Nat.le_of_ble_eq_true rfl) ⟨Nat.zero_le _, Nat.zero_le _⟩ ?_
  refine J_if_ne E (tgt := 18) dX6_showers_9 (by decide) (fun c_9 => ?_) (fun c_9 => ?_)
  · skip
    have c_9 := bI_1 c_9
    exact absurd c_9 hb
  · skip
    have c_9 := bI_0 c_9
    refine J_aload_n E dX6_showers_12 rfl 0 rfl ?_
    refine J_iconst E dX6_showers_13 ic_0 ?_
    refine J_cVi0 E (As := [.int 0]) (c_X6_finds l G b y 0 (by omega)) cl_X6_96 yo_X6_finds dX6_showers_14 rfl rfl rfl (Nat.le_of_ble_eq_true rfl) (Nat.le_of_ble_eq_true rfl) rfl (Nat.le_of_ble_eq_true rfl) ⟨Nat.zero_le _, Nat.zero_le _⟩ ?_
    exact ret _ _ _ _ ⟨rfl, _, rfl, by intro g h2 h5 h6; by_cases h0 : g = 0 <;> simp [tellX, upG, up3, up3R, up2, h0, h2, h5, h6]⟩ rfl dX6_showers_17

set_option maxHeartbeats 4000000 in
set_option maxRecDepth 20000 in
theorem c_X6_showers_state (l : Launch) (G : GB) (b : Nat → Nat) (y : Q3) (n : Nat) (h1 : 1 ≤ n) (h2 : n ≤ 20) (hh : ¬ y 0 7 0 + nI n ≤ 99999) : CI l yX6_showers cX6_showers 4 .int 1 25 G [.ref (b 0), .int (nI n)] (wM G b y) (fun vR w' => vR = tellR 4 ∧ PubM G b (tellX y 4) w') := by
  refine CI.mk (own := RX6) (by decide) rfl (Nat.le_of_ble_eq_true rfl) ?_
  intro X E ret
  show J X G 4 0 0 (wM G b y) [(0, .ref (b 0)), (1, .int (nI n))] 0 []
  refine J_iload_n E dX6_showers_0 rfl 1 rfl ?_
  refine J_i2l E dX6_showers_1 rfl ?_
  refine J_lconst E dX6_showers_2 lc_1 ?_
  refine J_ldc2 E kl_X6_207 dX6_showers_3 ?_
  refine J_cSiN E (As := [.long (Int32.toInt64 (nI n)), .long 1, .long 20]) (c_X6_in l G (nI n) 1 20 1 20 (by decide) (by decide) ) cl_X6_54 yo_X6_in dX6_showers_6 rfl (Nat.le_of_ble_eq_true rfl) (Nat.le_of_ble_eq_true rfl) rfl (Nat.le_of_ble_eq_true rfl) ⟨Nat.zero_le _, Nat.zero_le _⟩ ?_
  refine J_if_ne E (tgt := 18) dX6_showers_9 (by decide) (fun c_9 => ?_) (fun c_9 => ?_)
  · skip
    have c_9 := bI_1 c_9
    refine J_aload_n E dX6_showers_18 rfl 0 rfl ?_
    refine gM0_X6_9 E dX6_showers_19 ?_
    refine J_iconst E dX6_showers_22 ic_0 ?_
    refine lMs E (j := 0) (r := 7) (i := 0) (at_7 (by decide)) dX6_showers_23 ?_
    refine J_iload_n E dX6_showers_24 rfl 1 rfl ?_
    refine J_iadd E dX6_showers_25 ?_
    refine J_ldc E kn_X6_143 dX6_showers_26 ?_
    refine J_icmp_le E (tgt := 37) dX6_showers_28 (by decide) (fun c_28 => ?_) (fun c_28 => ?_)
    · skip
      exact absurd c_28 hh
    · skip
      refine J_aload_n E dX6_showers_31 rfl 0 rfl ?_
      refine J_iconst E dX6_showers_32 ic_4 ?_
      refine J_cVi0 E (As := [.int 4]) (c_X6_finds l G b y 4 (by omega)) cl_X6_96 yo_X6_finds dX6_showers_33 rfl rfl rfl (Nat.le_of_ble_eq_true rfl) (Nat.le_of_ble_eq_true rfl) rfl (Nat.le_of_ble_eq_true rfl) ⟨Nat.zero_le _, Nat.zero_le _⟩ ?_
      exact ret _ _ _ _ ⟨rfl, _, rfl, by intro g h2 h5 h6; by_cases h0 : g = 0 <;> simp [tellX, upG, up3, up3R, up2, h0, h2, h5, h6]⟩ rfl dX6_showers_36
  · skip
    have c_9 := bI_0 c_9
    exact absurd (inB1 (b := 20) h1 h2 (by decide)) c_9

set_option maxHeartbeats 4000000 in
set_option maxRecDepth 20000 in
theorem c_X6_showers_ok (l : Launch) (G : GB) (b : Nat → Nat) (y : Q3) (n : Nat) (h1 : 1 ≤ n) (h2 : n ≤ 20) (hh : y 0 7 0 + nI n ≤ 99999) (hok : okQ (y 0))  : CI l yX6_showers cX6_showers 4 .int 4 91 G [.ref (b 0), .int (nI n)] (wM G b y) (fun vR w' => vR = showRN (y 0) n ∧ PubM G b (upG y 0 (showR (y 0) n)) w') := by
  refine CI.mk (own := RX6) (by decide) rfl (Nat.le_of_ble_eq_true rfl) ?_
  intro X E ret
  show J X G 4 0 0 (wM G b y) [(0, .ref (b 0)), (1, .int (nI n))] 0 []
  refine J_iload_n E dX6_showers_0 rfl 1 rfl ?_
  refine J_i2l E dX6_showers_1 rfl ?_
  refine J_lconst E dX6_showers_2 lc_1 ?_
  refine J_ldc2 E kl_X6_207 dX6_showers_3 ?_
  refine J_cSiN E (As := [.long (Int32.toInt64 (nI n)), .long 1, .long 20]) (c_X6_in l G (nI n) 1 20 1 20 (by decide) (by decide) ) cl_X6_54 yo_X6_in dX6_showers_6 rfl (Nat.le_of_ble_eq_true rfl) (Nat.le_of_ble_eq_true rfl) rfl (Nat.le_of_ble_eq_true rfl) ⟨Nat.zero_le _, Nat.zero_le _⟩ ?_
  refine J_if_ne E (tgt := 18) dX6_showers_9 (by decide) (fun c_9 => ?_) (fun c_9 => ?_)
  · skip
    have c_9 := bI_1 c_9
    refine J_aload_n E dX6_showers_18 rfl 0 rfl ?_
    refine gM0_X6_9 E dX6_showers_19 ?_
    refine J_iconst E dX6_showers_22 ic_0 ?_
    refine lMs E (j := 0) (r := 7) (i := 0) (at_7 (by decide)) dX6_showers_23 ?_
    refine J_iload_n E dX6_showers_24 rfl 1 rfl ?_
    refine J_iadd E dX6_showers_25 ?_
    refine J_ldc E kn_X6_143 dX6_showers_26 ?_
    refine J_icmp_le E (tgt := 37) dX6_showers_28 (by decide) (fun c_28 => ?_) (fun c_28 => ?_)
    · skip
      refine J_iconst E dX6_showers_37 ic_0 ?_
      refine J_istore_n E (lv' := [(2, .int 0), (0, .ref (b 0)), (1, .int (nI n))]) dX6_showers_38 rfl (by decide) rfl ?_
      refine J_iconst E dX6_showers_39 ic_0 ?_
      refine J_istore_n E (lv' := [(3, .int 0), (2, .int 0), (0, .ref (b 0)), (1, .int (nI n))]) dX6_showers_40 rfl (by decide) rfl ?_
      refine J_w (ws' := wM G b (upG y 5 (y 5))) (congrArg (wM G b) upG_id.symm) ?_
      have lp41 : ∀ (fu : Nat) (i : Nat) (c : Int32) (d : Q2) (r : Q2), (i ≤ n) → (r = showR (y 0) i) → (c = showRN (y 0) i) → n - i < fu → J X G 4 0 0 (wM G b (upG (upG y 5 d) 0 r)) [(0, .ref (b 0)), (1, .int (nI n)), (2, .int c), (3, .int (nI i))] 41 [] := by
        intro fu
        induction fu with
        | zero => intro i c d r hi hr hc hm; exact absurd hm (Nat.not_lt_zero _)
        | succ fu ih41 =>
          intro i c d r hi hr hc hm
          refine J_iload_n E dX6_showers_41 rfl 3 rfl ?_
          refine J_iload_n E dX6_showers_42 rfl 1 rfl ?_
          refine J_icmp_ge E (tgt := 84) dX6_showers_43 (by decide) (fun c_43 => ?_) (fun c_43 => ?_)
          · skip
            have n_43 : n ≤ i := cmp_le (a := n) (b := i) (by omega) (by omega) c_43
            refine J_iload_n E dX6_showers_84 rfl 2 rfl ?_
            exact ret _ _ _ _ ⟨by rw [hc, show i = n by omega], _, rfl, by rw [hr, show i = n by omega]; intro g h2 h5 h6; by_cases h0 : g = 0 <;> simp [upG, h0, h5]⟩ rfl dX6_showers_85
          · skip
            have n_43 : ¬ n ≤ i := cmp_nle (a := n) (b := i) (by omega) (by omega) c_43
            refine J_aload_n E dX6_showers_46 rfl 0 rfl ?_
            refine gM0_X6_9 E dX6_showers_47 ?_
            refine J_iconst E dX6_showers_50 ic_2 ?_
            refine J_aload_n E dX6_showers_51 rfl 0 rfl ?_
            refine J_cVi0 E (As := []) (c_X6_draw l G b (upG (upG y 5 d) 0 r) ) cl_X6_209 yo_X6_draw dX6_showers_52 rfl rfl rfl (Nat.le_of_ble_eq_true rfl) (Nat.le_of_ble_eq_true rfl) rfl (Nat.le_of_ble_eq_true rfl) ⟨Nat.zero_le _, Nat.zero_le _⟩ ?_
            refine J_top (x' := ((drawF (r 7 1)).toUInt32 >>> ((8 : Int32).toUInt32 &&& Int32.toUInt32 31)).toInt32) rfl ?_
            refine J_bipush E dX6_showers_55 bp_100 ?_
            refine J_irem E dX6_showers_57 (by decide) ?_
            refine sMs E (j := 2) (r := 7) (i := 2) (at_7 (by decide)) dX6_showers_58 ?_
            refine J_w (ws' := wM G b (upG (upG (upG (upG y 5 d) 0 r) 0 (up2 r 7 1 (drawF (r 7 1)))) 0 (up2 (up2 r 7 1 (drawF (r 7 1))) 7 2 ((((drawF (r 7 1)).toUInt32 >>> ((8 : Int32).toUInt32 &&& Int32.toUInt32 31)).toInt32) - (((drawF (r 7 1)).toUInt32 >>> ((8 : Int32).toUInt32 &&& Int32.toUInt32 31)).toInt32) / 100 * 100)))) rfl ?_
            refine J_w (ws' := wM G b (upG (upG (upG (upG (upG y 5 d) 0 r) 0 (up2 r 7 1 (drawF (r 7 1)))) 0 (up2 (up2 r 7 1 (drawF (r 7 1))) 7 2 ((((drawF (r 7 1)).toUInt32 >>> ((8 : Int32).toUInt32 &&& Int32.toUInt32 31)).toInt32) - (((drawF (r 7 1)).toUInt32 >>> ((8 : Int32).toUInt32 &&& Int32.toUInt32 31)).toInt32) / 100 * 100))) 0 (rainD r))) (rfl) ?_
            refine J_aload_n E dX6_showers_59 rfl 0 rfl ?_
            refine J_cVv0 E (As := []) (c_X6_anHour l G b (upG (upG (upG (upG (upG y 5 d) 0 r) 0 (up2 r 7 1 (drawF (r 7 1)))) 0 (up2 (up2 r 7 1 (drawF (r 7 1))) 7 2 ((((drawF (r 7 1)).toUInt32 >>> ((8 : Int32).toUInt32 &&& Int32.toUInt32 31)).toInt32) - (((drawF (r 7 1)).toUInt32 >>> ((8 : Int32).toUInt32 &&& Int32.toUInt32 31)).toInt32) / 100 * 100))) 0 (rainD r)) (by rw [hr]; exact okQ_rain (okQ_show hok i))) cl_X6_138 yo_X6_anHour dX6_showers_60 rfl rfl rfl (Nat.le_of_ble_eq_true rfl) (Nat.le_of_ble_eq_true rfl) rfl (Nat.le_of_ble_eq_true rfl) ⟨Nat.zero_le _, Nat.zero_le _⟩ ?_
            refine J_iload_n E dX6_showers_63 rfl 2 rfl ?_
            refine J_aload_n E dX6_showers_64 rfl 0 rfl ?_
            refine gM0_X6_131 E dX6_showers_65 ?_
            refine J_top (x' := (hd5 (rainD r) d) 2 0) (Eq.trans (upG_n (by decide)) upG_s) ?_
            refine J_top (x' := dryR (rainD r)) (hd5_2 _ _) ?_
            refine J_if_ne E (tgt := 75) dX6_showers_68 (by decide) (fun c_68 => ?_) (fun c_68 => ?_)
            · skip
              refine J_iconst E dX6_showers_75 ic_1 ?_
              refine J_iadd E dX6_showers_76 ?_
              refine J_istore_n E (lv' := [(2, .int (c + 1)), (0, .ref (b 0)), (1, .int (nI n)), (3, .int (nI i))]) dX6_showers_77 rfl (by decide) rfl ?_
              refine J_iinc E (lv' := [(3, .int (nI (i + 1))), (2, .int (c + 1)), (0, .ref (b 0)), (1, .int (nI n))]) dX6_showers_78 3 rfl (nI_inc _) (by decide) rfl ?_
              refine J_goto E (tgt := 41) dX6_showers_81 (by decide) ?_
              refine J_lv [2, 3, 1, 0] rfl ?_
              refine J_w (ws' := wM G b (upG (upG y 5 (hd5 (rainD r) d)) 0 (hourR0 (rainD r)))) (wM_c rfl rfl rfl rfl rfl rfl rfl rfl rfl rfl rfl) ?_
              exact ih41 (i + 1) (c + 1) (hd5 (rainD r) d) (hourR0 (rainD r)) (by omega) (by rw [hr]; rfl) (by rw [hc, showRN, ← hr]; first | (rw [if_pos c_68, Int32.add_zero]) | rw [if_neg c_68]) (by omega)
            · skip
              refine J_iconst E dX6_showers_71 ic_0 ?_
              refine J_goto E (tgt := 76) dX6_showers_72 (by decide) ?_
              refine J_iadd E dX6_showers_76 ?_
              refine J_istore_n E (lv' := [(2, .int (c + 0)), (0, .ref (b 0)), (1, .int (nI n)), (3, .int (nI i))]) dX6_showers_77 rfl (by decide) rfl ?_
              refine J_iinc E (lv' := [(3, .int (nI (i + 1))), (2, .int (c + 0)), (0, .ref (b 0)), (1, .int (nI n))]) dX6_showers_78 3 rfl (nI_inc _) (by decide) rfl ?_
              refine J_goto E (tgt := 41) dX6_showers_81 (by decide) ?_
              refine J_lv [2, 3, 1, 0] rfl ?_
              refine J_w (ws' := wM G b (upG (upG y 5 (hd5 (rainD r) d)) 0 (hourR0 (rainD r)))) (wM_c rfl rfl rfl rfl rfl rfl rfl rfl rfl rfl rfl) ?_
              exact ih41 (i + 1) (c + 0) (hd5 (rainD r) d) (hourR0 (rainD r)) (by omega) (by rw [hr]; rfl) (by rw [hc, showRN, ← hr]; first | (rw [if_pos c_68, Int32.add_zero]) | rw [if_neg c_68]) (by omega)
      refine J_lv [2, 3, 1, 0] rfl ?_
      refine J_w (ws' := wM G b (upG (upG y 5 (y 5)) 0 (y 0))) (wM_c rfl rfl rfl rfl rfl rfl rfl rfl rfl rfl rfl) ?_
      exact lp41 _ 0 0 (y 5) (y 0) (by omega) rfl rfl (Nat.lt_succ_self _)
    · skip
      exact absurd hh c_28
  · skip
    have c_9 := bI_0 c_9
    exact absurd (inB1 (b := 20) h1 h2 (by decide)) c_9

set_option maxHeartbeats 4000000 in
set_option maxRecDepth 20000 in
theorem c_X6_odds_bad (l : Launch) (G : GB) (b : Nat → Nat) (y : Q3) (v n w : Int32) (hb : ¬ ((0 ≤ v ∧ v ≤ 100) ∧ (0 ≤ n ∧ n ≤ 9) ∧ 0 ≤ w ∧ w ≤ 1)) : CL l yX6_odds cX6_odds 14 1 25 G [.ref (b 0), .int v, .int n, .int w] (wM G b y) (fun vR w' => vR = Int32.toInt64 (tellR 0) ∧ PubM G b (tellX y 0) w') := by
  refine CL.mk (own := RX6) (by decide) rfl (Nat.le_of_ble_eq_true rfl) ?_
  intro X E ret
  show J X G 14 0 0 (wM G b y) [(0, .ref (b 0)), (1, .int v), (2, .int n), (3, .int w)] 0 []
  refine J_iload_n E dX6_odds_0 rfl 1 rfl ?_
  refine J_i2l E dX6_odds_1 rfl ?_
  refine J_lconst E dX6_odds_2 lc_0 ?_
  refine J_ldc2 E kl_X6_153 dX6_odds_3 ?_
  refine J_cSiN E (As := [.long (Int32.toInt64 v), .long 0, .long 100]) (c_X6_in l G v 0 100 0 100 (by decide) (by decide) ) cl_X6_54 yo_X6_in dX6_odds_6 rfl (Nat.le_of_ble_eq_true rfl) (Nat.le_of_ble_eq_true rfl) rfl (Nat.le_of_ble_eq_true rfl) ⟨Nat.zero_le _, Nat.zero_le _⟩ ?_
  refine J_if_eq E (tgt := 34) dX6_odds_9 (by decide) (fun c_9 => ?_) (fun c_9 => ?_)
  · skip
    have c_9 := bI_0 c_9
    refine J_aload_n E dX6_odds_34 rfl 0 rfl ?_
    refine J_iconst E dX6_odds_35 ic_0 ?_
    refine J_cVi0 E (As := [.int 0]) (c_X6_finds l G b y 0 (by omega)) cl_X6_96 yo_X6_finds dX6_odds_36 rfl rfl rfl (Nat.le_of_ble_eq_true rfl) (Nat.le_of_ble_eq_true rfl) rfl (Nat.le_of_ble_eq_true rfl) ⟨Nat.zero_le _, Nat.zero_le _⟩ ?_
    refine J_i2l E dX6_odds_39 rfl ?_
    exact ret _ _ _ _ ⟨rfl, _, rfl, by intro g h2 h5 h6; by_cases h0 : g = 0 <;> simp [tellX, upG, up3, up3R, up2, h0, h2, h5, h6]⟩ dX6_odds_40
  · skip
    have c_9 := bI_1 c_9
    refine J_iload_n E dX6_odds_12 rfl 2 rfl ?_
    refine J_i2l E dX6_odds_13 rfl ?_
    refine J_lconst E dX6_odds_14 lc_0 ?_
    refine J_ldc2 E kl_X6_99 dX6_odds_15 ?_
    refine J_cSiN E (As := [.long (Int32.toInt64 n), .long 0, .long 9]) (c_X6_in l G n 0 9 0 9 (by decide) (by decide) ) cl_X6_54 yo_X6_in dX6_odds_18 rfl (Nat.le_of_ble_eq_true rfl) (Nat.le_of_ble_eq_true rfl) rfl (Nat.le_of_ble_eq_true rfl) ⟨Nat.zero_le _, Nat.zero_le _⟩ ?_
    refine J_if_eq E (tgt := 34) dX6_odds_21 (by decide) (fun c_21 => ?_) (fun c_21 => ?_)
    · skip
      have c_21 := bI_0 c_21
      refine J_aload_n E dX6_odds_34 rfl 0 rfl ?_
      refine J_iconst E dX6_odds_35 ic_0 ?_
      refine J_cVi0 E (As := [.int 0]) (c_X6_finds l G b y 0 (by omega)) cl_X6_96 yo_X6_finds dX6_odds_36 rfl rfl rfl (Nat.le_of_ble_eq_true rfl) (Nat.le_of_ble_eq_true rfl) rfl (Nat.le_of_ble_eq_true rfl) ⟨Nat.zero_le _, Nat.zero_le _⟩ ?_
      refine J_i2l E dX6_odds_39 rfl ?_
      exact ret _ _ _ _ ⟨rfl, _, rfl, by intro g h2 h5 h6; by_cases h0 : g = 0 <;> simp [tellX, upG, up3, up3R, up2, h0, h2, h5, h6]⟩ dX6_odds_40
    · skip
      have c_21 := bI_1 c_21
      refine J_iload_n E dX6_odds_24 rfl 3 rfl ?_
      refine J_i2l E dX6_odds_25 rfl ?_
      refine J_lconst E dX6_odds_26 lc_0 ?_
      refine J_lconst E dX6_odds_27 lc_1 ?_
      refine J_cSiN E (As := [.long (Int32.toInt64 w), .long 0, .long 1]) (c_X6_in l G w 0 1 0 1 (by decide) (by decide) ) cl_X6_54 yo_X6_in dX6_odds_28 rfl (Nat.le_of_ble_eq_true rfl) (Nat.le_of_ble_eq_true rfl) rfl (Nat.le_of_ble_eq_true rfl) ⟨Nat.zero_le _, Nat.zero_le _⟩ ?_
      refine J_if_ne E (tgt := 41) dX6_odds_31 (by decide) (fun c_31 => ?_) (fun c_31 => ?_)
      · skip
        have c_31 := bI_1 c_31
        exact absurd ⟨c_9, c_21, c_31⟩ hb
      · skip
        have c_31 := bI_0 c_31
        refine J_aload_n E dX6_odds_34 rfl 0 rfl ?_
        refine J_iconst E dX6_odds_35 ic_0 ?_
        refine J_cVi0 E (As := [.int 0]) (c_X6_finds l G b y 0 (by omega)) cl_X6_96 yo_X6_finds dX6_odds_36 rfl rfl rfl (Nat.le_of_ble_eq_true rfl) (Nat.le_of_ble_eq_true rfl) rfl (Nat.le_of_ble_eq_true rfl) ⟨Nat.zero_le _, Nat.zero_le _⟩ ?_
        refine J_i2l E dX6_odds_39 rfl ?_
        exact ret _ _ _ _ ⟨rfl, _, rfl, by intro g h2 h5 h6; by_cases h0 : g = 0 <;> simp [tellX, upG, up3, up3R, up2, h0, h2, h5, h6]⟩ dX6_odds_40

set_option maxHeartbeats 4000000 in
set_option maxRecDepth 20000 in
theorem c_X6_odds_0 (l : Launch) (G : GB) (b : Nat → Nat) (y : Q3) (v ab n : Nat) (hv : v + ab = 100) (hn : n < 10) : CL l yX6_odds cX6_odds 14 1 25 G [.ref (b 0), .int (nI v), .int (nI n), .int (nI 0)] (wM G b y) (fun vR w' => vR = lN ((ab ^ n) / Nat.gcd (ab ^ n) (100 ^ n)) ∧ PubM G b y w') := by
  refine CL.mk (own := RX6) (by decide) rfl (Nat.le_of_ble_eq_true rfl) ?_
  intro X E ret
  show J X G 14 0 0 (wM G b y) [(0, .ref (b 0)), (1, .int (nI v)), (2, .int (nI n)), (3, .int (nI 0))] 0 []
  refine J_iload_n E dX6_odds_0 rfl 1 rfl ?_
  refine J_i2l E dX6_odds_1 rfl ?_
  refine J_lconst E dX6_odds_2 lc_0 ?_
  refine J_ldc2 E kl_X6_153 dX6_odds_3 ?_
  refine J_cSiN E (As := [.long (Int32.toInt64 (nI v)), .long 0, .long 100]) (c_X6_in l G (nI v) 0 100 0 100 (by decide) (by decide) ) cl_X6_54 yo_X6_in dX6_odds_6 rfl (Nat.le_of_ble_eq_true rfl) (Nat.le_of_ble_eq_true rfl) rfl (Nat.le_of_ble_eq_true rfl) ⟨Nat.zero_le _, Nat.zero_le _⟩ ?_
  refine J_if_eq E (tgt := 34) dX6_odds_9 (by decide) (fun c_9 => ?_) (fun c_9 => ?_)
  · skip
    have c_9 := bI_0 c_9
    exact absurd (inB (a := v) (b := 100) (by omega) (by decide)) c_9
  · skip
    have c_9 := bI_1 c_9
    refine J_iload_n E dX6_odds_12 rfl 2 rfl ?_
    refine J_i2l E dX6_odds_13 rfl ?_
    refine J_lconst E dX6_odds_14 lc_0 ?_
    refine J_ldc2 E kl_X6_99 dX6_odds_15 ?_
    refine J_cSiN E (As := [.long (Int32.toInt64 (nI n)), .long 0, .long 9]) (c_X6_in l G (nI n) 0 9 0 9 (by decide) (by decide) ) cl_X6_54 yo_X6_in dX6_odds_18 rfl (Nat.le_of_ble_eq_true rfl) (Nat.le_of_ble_eq_true rfl) rfl (Nat.le_of_ble_eq_true rfl) ⟨Nat.zero_le _, Nat.zero_le _⟩ ?_
    refine J_if_eq E (tgt := 34) dX6_odds_21 (by decide) (fun c_21 => ?_) (fun c_21 => ?_)
    · skip
      have c_21 := bI_0 c_21
      exact absurd (inB (a := n) (b := 9) (by omega) (by decide)) c_21
    · skip
      have c_21 := bI_1 c_21
      refine J_iload_n E dX6_odds_24 rfl 3 rfl ?_
      refine J_i2l E dX6_odds_25 rfl ?_
      refine J_lconst E dX6_odds_26 lc_0 ?_
      refine J_lconst E dX6_odds_27 lc_1 ?_
      refine J_cSiN E (As := [.long (Int32.toInt64 (nI 0)), .long 0, .long 1]) (c_X6_in l G (nI 0) 0 1 0 1 (by decide) (by decide) ) cl_X6_54 yo_X6_in dX6_odds_28 rfl (Nat.le_of_ble_eq_true rfl) (Nat.le_of_ble_eq_true rfl) rfl (Nat.le_of_ble_eq_true rfl) ⟨Nat.zero_le _, Nat.zero_le _⟩ ?_
      refine J_if_ne E (tgt := 41) dX6_odds_31 (by decide) (fun c_31 => ?_) (fun c_31 => ?_)
      · skip
        have c_31 := bI_1 c_31
        refine J_lconst E dX6_odds_41 lc_1 ?_
        refine J_lstore E (lv' := [(4, .long 1), (0, .ref (b 0)), (1, .int (nI v)), (2, .int (nI n)), (3, .int (nI 0))]) dX6_odds_42 (by decide) rfl ?_
        refine J_lconst E dX6_odds_44 lc_1 ?_
        refine J_lstore E (lv' := [(6, .long 1), (4, .long 1), (0, .ref (b 0)), (1, .int (nI v)), (2, .int (nI n)), (3, .int (nI 0))]) dX6_odds_45 (by decide) rfl ?_
        refine J_iconst E dX6_odds_47 ic_0 ?_
        refine J_istore E (lv' := [(8, .int 0), (6, .long 1), (4, .long 1), (0, .ref (b 0)), (1, .int (nI v)), (2, .int (nI n)), (3, .int (nI 0))]) dX6_odds_48 (by decide) rfl ?_
        have lp50 : ∀ (fu : Nat) (i : Nat), (i ≤ n) → n - i < fu → J X G 14 0 0 (wM G b y) [(0, .ref (b 0)), (1, .int (nI v)), (2, .int (nI n)), (3, .int (nI 0)), (4, .long (lN (ab ^ i))), (6, .long (lN (100 ^ i))), (8, .int (nI i))] 50 [] := by
          intro fu
          induction fu with
          | zero => intro i hi hm; exact absurd hm (Nat.not_lt_zero _)
          | succ fu ih50 =>
            intro i hi hm
            refine J_iload E dX6_odds_50 6 rfl ?_
            refine J_iload_n E dX6_odds_52 rfl 2 rfl ?_
            refine J_icmp_ge E (tgt := 80) dX6_odds_53 (by decide) (fun c_53 => ?_) (fun c_53 => ?_)
            · skip
              have n_53 : n ≤ i := cmp_le (a := n) (b := i) (by omega) (by omega) c_53
              have hin : i = n := by omega
              rw [hin]
              refine J_lload E dX6_odds_80 4 rfl ?_
              refine J_lstore E (lv' := [(8, .long (lN (ab ^ n))), (0, .ref (b 0)), (1, .int (nI v)), (2, .int (nI n)), (3, .int (nI 0)), (4, .long (lN (ab ^ n))), (6, .long (lN (100 ^ n)))]) dX6_odds_82 (by decide) rfl ?_
              refine J_lload E dX6_odds_84 6 rfl ?_
              refine J_lstore E (lv' := [(10, .long (lN (100 ^ n))), (8, .long (lN (ab ^ n))), (0, .ref (b 0)), (1, .int (nI v)), (2, .int (nI n)), (3, .int (nI 0)), (4, .long (lN (ab ^ n))), (6, .long (lN (100 ^ n)))]) dX6_odds_86 (by decide) rfl ?_
              have lp88 : ∀ (fu : Nat) (x : Nat) (z : Nat), (x ≤ 1000000000000000000) → (z ≤ 1000000000000000000) → (Nat.gcd x z = Nat.gcd (ab ^ n) (100 ^ n)) → z < fu → J X G 14 0 0 (wM G b y) [(0, .ref (b 0)), (3, .int (nI 0)), (4, .long (lN (ab ^ n))), (6, .long (lN (100 ^ n))), (8, .long (lN x)), (10, .long (lN z))] 88 [] := by
                intro fu
                induction fu with
                | zero => intro x z hx hz hg hm; exact absurd hm (Nat.not_lt_zero _)
                | succ fu ih88 =>
                  intro x z hx hz hg hm
                  refine J_lload E dX6_odds_88 5 rfl ?_
                  refine J_lconst E dX6_odds_90 lc_0 ?_
                  refine J_lcmp E dX6_odds_91 ?_
                  refine J_if_eq E (tgt := 113) dX6_odds_92 (by decide) (fun c_92 => ?_) (fun c_92 => ?_)
                  · skip
                    have z1 : z = 0 := (pk_lEQ (a := z) (b := 0) (by omega) (by decide)).mp ((lg_cmp_eq _ _).mp c_92)
                    have hx1 : x = Nat.gcd (ab ^ n) (100 ^ n) := by rw [← hg, z1, Nat.gcd_zero_right]
                    have hx0 : 0 < x := by rw [hx1]; exact Nat.gcd_pos_of_pos_right _ (Nat.pow_pos (by decide))
                    have hA := pow_b (ab := ab) (n := n) (by omega) (by omega)
                    have hB := pow_b (ab := 100) (n := n) (by decide) (by omega)
                    refine J_iload_n E dX6_odds_113 rfl 1 rfl ?_
                    refine J_if_ne E (tgt := 122) dX6_odds_114 (by decide) (fun c_114 => ?_) (fun c_114 => ?_)
                    · skip
                      have n_114 : ¬ 0 = 0 := cmp_ne (a := 0) (b := 0) (by omega) (by omega) c_114
                      exact absurd n_114 (by decide)
                    · skip
                      have n_114 : 0 = 0 := cmp_eq (a := 0) (b := 0) (by omega) (by omega) c_114
                      refine J_lload E dX6_odds_117 2 rfl ?_
                      refine J_goto E (tgt := 124) dX6_odds_119 (by decide) ?_
                      refine J_lload E dX6_odds_124 4 rfl ?_
                      refine J_ldiv E dX6_odds_126 (fun e => absurd ((pk_lEQ (a := x) (b := 0) (by omega) (by decide)).mp e) (by omega)) ?_
                      refine J_topl (x' := lN ((ab ^ n) / x)) (pk_lDiv (by omega) (by omega) (by omega)) ?_
                      exact ret _ _ _ _ ⟨by rw [hx1], _, rfl, by intro g h2 h5 h6; by_cases h0 : g = 0 <;> simp [tellX, upG, up3, up3R, up2, h0, h2, h5, h6]⟩ dX6_odds_127
                  · skip
                    have z0 : ¬ z = 0 := fun e => c_92 (by rw [e]; exact (lg_cmp_eq _ _).mpr rfl)
                    refine J_lload E dX6_odds_95 4 rfl ?_
                    refine J_lload E dX6_odds_97 5 rfl ?_
                    refine J_lrem E dX6_odds_99 (fun e => z0 ((pk_lEQ (a := z) (b := 0) (by omega) (by decide)).mp e)) ?_
                    refine J_topl (x' := lN (x % z)) (pk_lRem (by omega) (by omega) (by omega)) ?_
                    refine J_lstore E (lv' := [(12, .long (lN (x % z))), (0, .ref (b 0)), (3, .int (nI 0)), (4, .long (lN (ab ^ n))), (6, .long (lN (100 ^ n))), (8, .long (lN x)), (10, .long (lN z))]) dX6_odds_100 (by decide) rfl ?_
                    refine J_lload E dX6_odds_102 6 rfl ?_
                    refine J_lstore E (lv' := [(8, .long (lN z)), (12, .long (lN (x % z))), (0, .ref (b 0)), (3, .int (nI 0)), (4, .long (lN (ab ^ n))), (6, .long (lN (100 ^ n))), (10, .long (lN z))]) dX6_odds_104 (by decide) rfl ?_
                    refine J_lload E dX6_odds_106 1 rfl ?_
                    refine J_lstore E (lv' := [(10, .long (lN (x % z))), (8, .long (lN z)), (12, .long (lN (x % z))), (0, .ref (b 0)), (3, .int (nI 0)), (4, .long (lN (ab ^ n))), (6, .long (lN (100 ^ n)))]) dX6_odds_108 (by decide) rfl ?_
                    refine J_goto E (tgt := 88) dX6_odds_110 (by decide) ?_
                    refine J_lv [3, 4, 5, 6, 1, 0] rfl ?_
                    exact ih88 z (x % z) hz (by have := Nat.mod_lt x (show 0 < z by omega); omega) (by rw [← hg, Nat.gcd_comm z (x % z), ← Nat.gcd_rec, Nat.gcd_comm]) (by omega)
              refine J_lv [2, 5, 6, 7, 1, 0] rfl ?_
              exact lp88 _ (ab ^ n) (100 ^ n) (pow_b (by omega) (by omega)) (pow_b (by decide) (by omega)) rfl (Nat.lt_succ_self _)
            · skip
              have n_53 : ¬ n ≤ i := cmp_nle (a := n) (b := i) (by omega) (by omega) c_53
              refine J_lload E dX6_odds_56 4 rfl ?_
              refine J_bipush E dX6_odds_58 bp_100 ?_
              refine J_iload_n E dX6_odds_60 rfl 1 rfl ?_
              refine J_isub E dX6_odds_61 ?_
              refine J_top (x' := nI ab) (sub100 hv) ?_
              refine J_i2l E dX6_odds_62 rfl ?_
              refine J_topl (x' := lN ab) (nI_l (by omega)) ?_
              refine J_lmul E dX6_odds_63 ?_
              refine J_topl (x' := lN (ab ^ i * ab)) (lN_mul _ _) ?_
              refine J_lstore E (lv' := [(4, .long (lN (ab ^ i * ab))), (0, .ref (b 0)), (1, .int (nI v)), (2, .int (nI n)), (3, .int (nI 0)), (6, .long (lN (100 ^ i))), (8, .int (nI i))]) dX6_odds_64 (by decide) rfl ?_
              refine J_lload E dX6_odds_66 5 rfl ?_
              refine J_ldc2 E kl_X6_153 dX6_odds_68 ?_
              refine J_topl (x' := lN 100) (rfl) ?_
              refine J_lmul E dX6_odds_71 ?_
              refine J_topl (x' := lN (100 ^ i * 100)) (lN_mul _ _) ?_
              refine J_lstore E (lv' := [(6, .long (lN (100 ^ i * 100))), (4, .long (lN (ab ^ i * ab))), (0, .ref (b 0)), (1, .int (nI v)), (2, .int (nI n)), (3, .int (nI 0)), (8, .int (nI i))]) dX6_odds_72 (by decide) rfl ?_
              refine J_iinc E (lv' := [(8, .int (nI (i + 1))), (6, .long (lN (100 ^ i * 100))), (4, .long (lN (ab ^ i * ab))), (0, .ref (b 0)), (1, .int (nI v)), (2, .int (nI n)), (3, .int (nI 0))]) dX6_odds_74 6 rfl (nI_inc _) (by decide) rfl ?_
              refine J_goto E (tgt := 50) dX6_odds_77 (by decide) ?_
              refine J_lv [3, 4, 5, 6, 2, 1, 0] rfl ?_
              exact ih50 (i + 1) (by omega) (by omega)
        refine J_lv [3, 4, 5, 6, 2, 1, 0] rfl ?_
        exact lp50 _ 0 (by omega) (Nat.lt_succ_self _)
      · skip
        have c_31 := bI_0 c_31
        exact absurd (inB (a := 0) (b := 1) (by omega) (by decide)) c_31

set_option maxHeartbeats 4000000 in
set_option maxRecDepth 20000 in
theorem c_X6_odds_1 (l : Launch) (G : GB) (b : Nat → Nat) (y : Q3) (v ab n : Nat) (hv : v + ab = 100) (hn : n < 10) : CL l yX6_odds cX6_odds 14 1 25 G [.ref (b 0), .int (nI v), .int (nI n), .int (nI 1)] (wM G b y) (fun vR w' => vR = lN ((100 ^ n) / Nat.gcd (ab ^ n) (100 ^ n)) ∧ PubM G b y w') := by
  refine CL.mk (own := RX6) (by decide) rfl (Nat.le_of_ble_eq_true rfl) ?_
  intro X E ret
  show J X G 14 0 0 (wM G b y) [(0, .ref (b 0)), (1, .int (nI v)), (2, .int (nI n)), (3, .int (nI 1))] 0 []
  refine J_iload_n E dX6_odds_0 rfl 1 rfl ?_
  refine J_i2l E dX6_odds_1 rfl ?_
  refine J_lconst E dX6_odds_2 lc_0 ?_
  refine J_ldc2 E kl_X6_153 dX6_odds_3 ?_
  refine J_cSiN E (As := [.long (Int32.toInt64 (nI v)), .long 0, .long 100]) (c_X6_in l G (nI v) 0 100 0 100 (by decide) (by decide) ) cl_X6_54 yo_X6_in dX6_odds_6 rfl (Nat.le_of_ble_eq_true rfl) (Nat.le_of_ble_eq_true rfl) rfl (Nat.le_of_ble_eq_true rfl) ⟨Nat.zero_le _, Nat.zero_le _⟩ ?_
  refine J_if_eq E (tgt := 34) dX6_odds_9 (by decide) (fun c_9 => ?_) (fun c_9 => ?_)
  · skip
    have c_9 := bI_0 c_9
    exact absurd (inB (a := v) (b := 100) (by omega) (by decide)) c_9
  · skip
    have c_9 := bI_1 c_9
    refine J_iload_n E dX6_odds_12 rfl 2 rfl ?_
    refine J_i2l E dX6_odds_13 rfl ?_
    refine J_lconst E dX6_odds_14 lc_0 ?_
    refine J_ldc2 E kl_X6_99 dX6_odds_15 ?_
    refine J_cSiN E (As := [.long (Int32.toInt64 (nI n)), .long 0, .long 9]) (c_X6_in l G (nI n) 0 9 0 9 (by decide) (by decide) ) cl_X6_54 yo_X6_in dX6_odds_18 rfl (Nat.le_of_ble_eq_true rfl) (Nat.le_of_ble_eq_true rfl) rfl (Nat.le_of_ble_eq_true rfl) ⟨Nat.zero_le _, Nat.zero_le _⟩ ?_
    refine J_if_eq E (tgt := 34) dX6_odds_21 (by decide) (fun c_21 => ?_) (fun c_21 => ?_)
    · skip
      have c_21 := bI_0 c_21
      exact absurd (inB (a := n) (b := 9) (by omega) (by decide)) c_21
    · skip
      have c_21 := bI_1 c_21
      refine J_iload_n E dX6_odds_24 rfl 3 rfl ?_
      refine J_i2l E dX6_odds_25 rfl ?_
      refine J_lconst E dX6_odds_26 lc_0 ?_
      refine J_lconst E dX6_odds_27 lc_1 ?_
      refine J_cSiN E (As := [.long (Int32.toInt64 (nI 1)), .long 0, .long 1]) (c_X6_in l G (nI 1) 0 1 0 1 (by decide) (by decide) ) cl_X6_54 yo_X6_in dX6_odds_28 rfl (Nat.le_of_ble_eq_true rfl) (Nat.le_of_ble_eq_true rfl) rfl (Nat.le_of_ble_eq_true rfl) ⟨Nat.zero_le _, Nat.zero_le _⟩ ?_
      refine J_if_ne E (tgt := 41) dX6_odds_31 (by decide) (fun c_31 => ?_) (fun c_31 => ?_)
      · skip
        have c_31 := bI_1 c_31
        refine J_lconst E dX6_odds_41 lc_1 ?_
        refine J_lstore E (lv' := [(4, .long 1), (0, .ref (b 0)), (1, .int (nI v)), (2, .int (nI n)), (3, .int (nI 1))]) dX6_odds_42 (by decide) rfl ?_
        refine J_lconst E dX6_odds_44 lc_1 ?_
        refine J_lstore E (lv' := [(6, .long 1), (4, .long 1), (0, .ref (b 0)), (1, .int (nI v)), (2, .int (nI n)), (3, .int (nI 1))]) dX6_odds_45 (by decide) rfl ?_
        refine J_iconst E dX6_odds_47 ic_0 ?_
        refine J_istore E (lv' := [(8, .int 0), (6, .long 1), (4, .long 1), (0, .ref (b 0)), (1, .int (nI v)), (2, .int (nI n)), (3, .int (nI 1))]) dX6_odds_48 (by decide) rfl ?_
        have lp50 : ∀ (fu : Nat) (i : Nat), (i ≤ n) → n - i < fu → J X G 14 0 0 (wM G b y) [(0, .ref (b 0)), (1, .int (nI v)), (2, .int (nI n)), (3, .int (nI 1)), (4, .long (lN (ab ^ i))), (6, .long (lN (100 ^ i))), (8, .int (nI i))] 50 [] := by
          intro fu
          induction fu with
          | zero => intro i hi hm; exact absurd hm (Nat.not_lt_zero _)
          | succ fu ih50 =>
            intro i hi hm
            refine J_iload E dX6_odds_50 6 rfl ?_
            refine J_iload_n E dX6_odds_52 rfl 2 rfl ?_
            refine J_icmp_ge E (tgt := 80) dX6_odds_53 (by decide) (fun c_53 => ?_) (fun c_53 => ?_)
            · skip
              have n_53 : n ≤ i := cmp_le (a := n) (b := i) (by omega) (by omega) c_53
              have hin : i = n := by omega
              rw [hin]
              refine J_lload E dX6_odds_80 4 rfl ?_
              refine J_lstore E (lv' := [(8, .long (lN (ab ^ n))), (0, .ref (b 0)), (1, .int (nI v)), (2, .int (nI n)), (3, .int (nI 1)), (4, .long (lN (ab ^ n))), (6, .long (lN (100 ^ n)))]) dX6_odds_82 (by decide) rfl ?_
              refine J_lload E dX6_odds_84 6 rfl ?_
              refine J_lstore E (lv' := [(10, .long (lN (100 ^ n))), (8, .long (lN (ab ^ n))), (0, .ref (b 0)), (1, .int (nI v)), (2, .int (nI n)), (3, .int (nI 1)), (4, .long (lN (ab ^ n))), (6, .long (lN (100 ^ n)))]) dX6_odds_86 (by decide) rfl ?_
              have lp88 : ∀ (fu : Nat) (x : Nat) (z : Nat), (x ≤ 1000000000000000000) → (z ≤ 1000000000000000000) → (Nat.gcd x z = Nat.gcd (ab ^ n) (100 ^ n)) → z < fu → J X G 14 0 0 (wM G b y) [(0, .ref (b 0)), (3, .int (nI 1)), (4, .long (lN (ab ^ n))), (6, .long (lN (100 ^ n))), (8, .long (lN x)), (10, .long (lN z))] 88 [] := by
                intro fu
                induction fu with
                | zero => intro x z hx hz hg hm; exact absurd hm (Nat.not_lt_zero _)
                | succ fu ih88 =>
                  intro x z hx hz hg hm
                  refine J_lload E dX6_odds_88 5 rfl ?_
                  refine J_lconst E dX6_odds_90 lc_0 ?_
                  refine J_lcmp E dX6_odds_91 ?_
                  refine J_if_eq E (tgt := 113) dX6_odds_92 (by decide) (fun c_92 => ?_) (fun c_92 => ?_)
                  · skip
                    have z1 : z = 0 := (pk_lEQ (a := z) (b := 0) (by omega) (by decide)).mp ((lg_cmp_eq _ _).mp c_92)
                    have hx1 : x = Nat.gcd (ab ^ n) (100 ^ n) := by rw [← hg, z1, Nat.gcd_zero_right]
                    have hx0 : 0 < x := by rw [hx1]; exact Nat.gcd_pos_of_pos_right _ (Nat.pow_pos (by decide))
                    have hA := pow_b (ab := ab) (n := n) (by omega) (by omega)
                    have hB := pow_b (ab := 100) (n := n) (by decide) (by omega)
                    refine J_iload_n E dX6_odds_113 rfl 1 rfl ?_
                    refine J_if_ne E (tgt := 122) dX6_odds_114 (by decide) (fun c_114 => ?_) (fun c_114 => ?_)
                    · skip
                      have n_114 : ¬ 1 = 0 := cmp_ne (a := 1) (b := 0) (by omega) (by omega) c_114
                      refine J_lload E dX6_odds_122 3 rfl ?_
                      refine J_lload E dX6_odds_124 4 rfl ?_
                      refine J_ldiv E dX6_odds_126 (fun e => absurd ((pk_lEQ (a := x) (b := 0) (by omega) (by decide)).mp e) (by omega)) ?_
                      refine J_topl (x' := lN ((100 ^ n) / x)) (pk_lDiv (by omega) (by omega) (by omega)) ?_
                      exact ret _ _ _ _ ⟨by rw [hx1], _, rfl, by intro g h2 h5 h6; by_cases h0 : g = 0 <;> simp [tellX, upG, up3, up3R, up2, h0, h2, h5, h6]⟩ dX6_odds_127
                    · skip
                      have n_114 : 1 = 0 := cmp_eq (a := 1) (b := 0) (by omega) (by omega) c_114
                      exact absurd n_114 (by decide)
                  · skip
                    have z0 : ¬ z = 0 := fun e => c_92 (by rw [e]; exact (lg_cmp_eq _ _).mpr rfl)
                    refine J_lload E dX6_odds_95 4 rfl ?_
                    refine J_lload E dX6_odds_97 5 rfl ?_
                    refine J_lrem E dX6_odds_99 (fun e => z0 ((pk_lEQ (a := z) (b := 0) (by omega) (by decide)).mp e)) ?_
                    refine J_topl (x' := lN (x % z)) (pk_lRem (by omega) (by omega) (by omega)) ?_
                    refine J_lstore E (lv' := [(12, .long (lN (x % z))), (0, .ref (b 0)), (3, .int (nI 1)), (4, .long (lN (ab ^ n))), (6, .long (lN (100 ^ n))), (8, .long (lN x)), (10, .long (lN z))]) dX6_odds_100 (by decide) rfl ?_
                    refine J_lload E dX6_odds_102 6 rfl ?_
                    refine J_lstore E (lv' := [(8, .long (lN z)), (12, .long (lN (x % z))), (0, .ref (b 0)), (3, .int (nI 1)), (4, .long (lN (ab ^ n))), (6, .long (lN (100 ^ n))), (10, .long (lN z))]) dX6_odds_104 (by decide) rfl ?_
                    refine J_lload E dX6_odds_106 1 rfl ?_
                    refine J_lstore E (lv' := [(10, .long (lN (x % z))), (8, .long (lN z)), (12, .long (lN (x % z))), (0, .ref (b 0)), (3, .int (nI 1)), (4, .long (lN (ab ^ n))), (6, .long (lN (100 ^ n)))]) dX6_odds_108 (by decide) rfl ?_
                    refine J_goto E (tgt := 88) dX6_odds_110 (by decide) ?_
                    refine J_lv [3, 4, 5, 6, 1, 0] rfl ?_
                    exact ih88 z (x % z) hz (by have := Nat.mod_lt x (show 0 < z by omega); omega) (by rw [← hg, Nat.gcd_comm z (x % z), ← Nat.gcd_rec, Nat.gcd_comm]) (by omega)
              refine J_lv [2, 5, 6, 7, 1, 0] rfl ?_
              exact lp88 _ (ab ^ n) (100 ^ n) (pow_b (by omega) (by omega)) (pow_b (by decide) (by omega)) rfl (Nat.lt_succ_self _)
            · skip
              have n_53 : ¬ n ≤ i := cmp_nle (a := n) (b := i) (by omega) (by omega) c_53
              refine J_lload E dX6_odds_56 4 rfl ?_
              refine J_bipush E dX6_odds_58 bp_100 ?_
              refine J_iload_n E dX6_odds_60 rfl 1 rfl ?_
              refine J_isub E dX6_odds_61 ?_
              refine J_top (x' := nI ab) (sub100 hv) ?_
              refine J_i2l E dX6_odds_62 rfl ?_
              refine J_topl (x' := lN ab) (nI_l (by omega)) ?_
              refine J_lmul E dX6_odds_63 ?_
              refine J_topl (x' := lN (ab ^ i * ab)) (lN_mul _ _) ?_
              refine J_lstore E (lv' := [(4, .long (lN (ab ^ i * ab))), (0, .ref (b 0)), (1, .int (nI v)), (2, .int (nI n)), (3, .int (nI 1)), (6, .long (lN (100 ^ i))), (8, .int (nI i))]) dX6_odds_64 (by decide) rfl ?_
              refine J_lload E dX6_odds_66 5 rfl ?_
              refine J_ldc2 E kl_X6_153 dX6_odds_68 ?_
              refine J_topl (x' := lN 100) (rfl) ?_
              refine J_lmul E dX6_odds_71 ?_
              refine J_topl (x' := lN (100 ^ i * 100)) (lN_mul _ _) ?_
              refine J_lstore E (lv' := [(6, .long (lN (100 ^ i * 100))), (4, .long (lN (ab ^ i * ab))), (0, .ref (b 0)), (1, .int (nI v)), (2, .int (nI n)), (3, .int (nI 1)), (8, .int (nI i))]) dX6_odds_72 (by decide) rfl ?_
              refine J_iinc E (lv' := [(8, .int (nI (i + 1))), (6, .long (lN (100 ^ i * 100))), (4, .long (lN (ab ^ i * ab))), (0, .ref (b 0)), (1, .int (nI v)), (2, .int (nI n)), (3, .int (nI 1))]) dX6_odds_74 6 rfl (nI_inc _) (by decide) rfl ?_
              refine J_goto E (tgt := 50) dX6_odds_77 (by decide) ?_
              refine J_lv [3, 4, 5, 6, 2, 1, 0] rfl ?_
              exact ih50 (i + 1) (by omega) (by omega)
        refine J_lv [3, 4, 5, 6, 2, 1, 0] rfl ?_
        exact lp50 _ 0 (by omega) (Nat.lt_succ_self _)
      · skip
        have c_31 := bI_0 c_31
        exact absurd (inB (a := 1) (b := 1) (by omega) (by decide)) c_31

set_option maxHeartbeats 4000000 in
set_option maxRecDepth 20000 in
theorem c_X6_seed (l : Launch) (G : GB) (b : Nat → Nat) (y : Q3) (v : Int32) : CI l yX6_seed cX6_seed 2 .int 1 23 G [.ref (b 0), .int v] (wM G b y) (fun vR w' => vR = y 0 7 1 ∧ PubM G b (up3 y 0 7 1 v) w') := by
  refine CI.mk (own := RX6) (by decide) rfl (Nat.le_of_ble_eq_true rfl) ?_
  intro X E ret
  show J X G 2 0 0 (wM G b y) [(0, .ref (b 0)), (1, .int v)] 0 []
  refine J_aload_n E dX6_seed_0 rfl 0 rfl ?_
  refine J_iconst E dX6_seed_1 ic_1 ?_
  refine J_iload_n E dX6_seed_2 rfl 1 rfl ?_
  refine J_cVi0 E (As := [.int 1, .int v]) (c_X6_becomes l G b y 1 7 1 v (at_7 (by decide))) cl_X6_93 yo_X6_becomes dX6_seed_3 rfl rfl rfl (Nat.le_of_ble_eq_true rfl) (Nat.le_of_ble_eq_true rfl) rfl (Nat.le_of_ble_eq_true rfl) ⟨Nat.zero_le _, Nat.zero_le _⟩ ?_
  exact ret _ _ _ _ ⟨rfl, _, rfl, by intro g h2 h5 h6; by_cases h0 : g = 0 <;> simp [tellX, upG, up3, up3R, up2, h0, h2, h5, h6]⟩ rfl dX6_seed_6

set_option maxHeartbeats 4000000 in
set_option maxRecDepth 20000 in
theorem c_X6_feed_bad (l : Launch) (G : GB) (b : Nat → Nat) (y : Q3) (c n : Int32) (hb : ¬ (1 ≤ n ∧ n ≤ 4)) : CI l yX6_feed cX6_feed 4 .int 1 25 G [.ref (b 0), .int c, .int n] (wM G b y) (fun vR w' => vR = tellR 0 ∧ PubM G b (tellX y 0) w') := by
  refine CI.mk (own := RX6) (by decide) rfl (Nat.le_of_ble_eq_true rfl) ?_
  intro X E ret
  show J X G 4 0 0 (wM G b y) [(0, .ref (b 0)), (1, .int c), (2, .int n)] 0 []
  refine J_iload_n E dX6_feed_0 rfl 2 rfl ?_
  refine J_i2l E dX6_feed_1 rfl ?_
  refine J_lconst E dX6_feed_2 lc_1 ?_
  refine J_ldc2 E kl_X6_212 dX6_feed_3 ?_
  refine J_cSiN E (As := [.long (Int32.toInt64 n), .long 1, .long 4]) (c_X6_in l G n 1 4 1 4 (by decide) (by decide) ) cl_X6_54 yo_X6_in dX6_feed_6 rfl (Nat.le_of_ble_eq_true rfl) (Nat.le_of_ble_eq_true rfl) rfl (Nat.le_of_ble_eq_true rfl) ⟨Nat.zero_le _, Nat.zero_le _⟩ ?_
  refine J_if_ne E (tgt := 18) dX6_feed_9 (by decide) (fun c_9 => ?_) (fun c_9 => ?_)
  · skip
    have c_9 := bI_1 c_9
    exact absurd c_9 hb
  · skip
    have c_9 := bI_0 c_9
    refine J_aload_n E dX6_feed_12 rfl 0 rfl ?_
    refine J_iconst E dX6_feed_13 ic_0 ?_
    refine J_cVi0 E (As := [.int 0]) (c_X6_finds l G b y 0 (by omega)) cl_X6_96 yo_X6_finds dX6_feed_14 rfl rfl rfl (Nat.le_of_ble_eq_true rfl) (Nat.le_of_ble_eq_true rfl) rfl (Nat.le_of_ble_eq_true rfl) ⟨Nat.zero_le _, Nat.zero_le _⟩ ?_
    exact ret _ _ _ _ ⟨rfl, _, rfl, by intro g h2 h5 h6; by_cases h0 : g = 0 <;> simp [tellX, upG, up3, up3R, up2, h0, h2, h5, h6]⟩ rfl dX6_feed_17

set_option maxHeartbeats 4000000 in
set_option maxRecDepth 20000 in
theorem c_X6_feed_full (l : Launch) (G : GB) (b : Nat → Nat) (y : Q3) (c : Int32) (n k : Nat) (h1 : 1 ≤ n) (h2 : n ≤ 4) (hk : y 7 1 0 = nI k) (hk2 : k ≤ 120) (hf : 120 < k + n) : CI l yX6_feed cX6_feed 4 .int 1 25 G [.ref (b 0), .int c, .int (nI n)] (wM G b y) (fun vR w' => vR = tellR 1 ∧ PubM G b (tellX y 1) w') := by
  refine CI.mk (own := RX6) (by decide) rfl (Nat.le_of_ble_eq_true rfl) ?_
  intro X E ret
  show J X G 4 0 0 (wM G b y) [(0, .ref (b 0)), (1, .int c), (2, .int (nI n))] 0 []
  refine J_iload_n E dX6_feed_0 rfl 2 rfl ?_
  refine J_i2l E dX6_feed_1 rfl ?_
  refine J_lconst E dX6_feed_2 lc_1 ?_
  refine J_ldc2 E kl_X6_212 dX6_feed_3 ?_
  refine J_cSiN E (As := [.long (Int32.toInt64 (nI n)), .long 1, .long 4]) (c_X6_in l G (nI n) 1 4 1 4 (by decide) (by decide) ) cl_X6_54 yo_X6_in dX6_feed_6 rfl (Nat.le_of_ble_eq_true rfl) (Nat.le_of_ble_eq_true rfl) rfl (Nat.le_of_ble_eq_true rfl) ⟨Nat.zero_le _, Nat.zero_le _⟩ ?_
  refine J_if_ne E (tgt := 18) dX6_feed_9 (by decide) (fun c_9 => ?_) (fun c_9 => ?_)
  · skip
    have c_9 := bI_1 c_9
    refine J_aload_n E dX6_feed_18 rfl 0 rfl ?_
    refine gM0_X6_214 E dX6_feed_19 ?_
    refine J_top (x' := nI k) (hk) ?_
    refine J_iload_n E dX6_feed_22 rfl 2 rfl ?_
    refine J_iadd E dX6_feed_23 ?_
    refine J_top (x' := nI (k + n)) (nI_add _ _) ?_
    refine J_bipush E dX6_feed_24 bp_120 ?_
    refine J_icmp_le E (tgt := 35) dX6_feed_26 (by decide) (fun c_26 => ?_) (fun c_26 => ?_)
    · skip
      have n_26 : (k + n) ≤ 120 := cmp_le (a := (k + n)) (b := 120) (by omega) (by omega) c_26
      exact absurd n_26 (by omega)
    · skip
      have n_26 : ¬ (k + n) ≤ 120 := cmp_nle (a := (k + n)) (b := 120) (by omega) (by omega) c_26
      refine J_aload_n E dX6_feed_29 rfl 0 rfl ?_
      refine J_iconst E dX6_feed_30 ic_1 ?_
      refine J_cVi0 E (As := [.int 1]) (c_X6_finds l G b y 1 (by omega)) cl_X6_96 yo_X6_finds dX6_feed_31 rfl rfl rfl (Nat.le_of_ble_eq_true rfl) (Nat.le_of_ble_eq_true rfl) rfl (Nat.le_of_ble_eq_true rfl) ⟨Nat.zero_le _, Nat.zero_le _⟩ ?_
      exact ret _ _ _ _ ⟨rfl, _, rfl, by intro g h2 h5 h6; by_cases h0 : g = 0 <;> simp [tellX, upG, up3, up3R, up2, h0, h2, h5, h6]⟩ rfl dX6_feed_34
  · skip
    have c_9 := bI_0 c_9
    exact absurd (inB1 (b := 4) h1 h2 (by decide)) c_9

set_option maxHeartbeats 4000000 in
set_option maxRecDepth 20000 in
theorem c_X6_feed_ok (l : Launch) (G : GB) (b : Nat → Nat) (y : Q3) (c : Int32) (n k : Nat) (h1 : 1 ≤ n) (h2 : n ≤ 4) (hk : y 7 1 0 = nI k) (hk2 : k ≤ 120) (hf : k + n ≤ 120) : CI l yX6_feed cX6_feed 4 .int 1 25 G [.ref (b 0), .int c, .int (nI n)] (wM G b y) (fun vR w' => vR = feedT (y 7) c n 1 0 ∧ PubM G b (upG y 7 (feedT (y 7) c n)) w') := by
  refine CI.mk (own := RX6) (by decide) rfl (Nat.le_of_ble_eq_true rfl) ?_
  intro X E ret
  show J X G 4 0 0 (wM G b y) [(0, .ref (b 0)), (1, .int c), (2, .int (nI n))] 0 []
  refine J_iload_n E dX6_feed_0 rfl 2 rfl ?_
  refine J_i2l E dX6_feed_1 rfl ?_
  refine J_lconst E dX6_feed_2 lc_1 ?_
  refine J_ldc2 E kl_X6_212 dX6_feed_3 ?_
  refine J_cSiN E (As := [.long (Int32.toInt64 (nI n)), .long 1, .long 4]) (c_X6_in l G (nI n) 1 4 1 4 (by decide) (by decide) ) cl_X6_54 yo_X6_in dX6_feed_6 rfl (Nat.le_of_ble_eq_true rfl) (Nat.le_of_ble_eq_true rfl) rfl (Nat.le_of_ble_eq_true rfl) ⟨Nat.zero_le _, Nat.zero_le _⟩ ?_
  refine J_if_ne E (tgt := 18) dX6_feed_9 (by decide) (fun c_9 => ?_) (fun c_9 => ?_)
  · skip
    have c_9 := bI_1 c_9
    refine J_aload_n E dX6_feed_18 rfl 0 rfl ?_
    refine gM0_X6_214 E dX6_feed_19 ?_
    refine J_top (x' := nI k) (hk) ?_
    refine J_iload_n E dX6_feed_22 rfl 2 rfl ?_
    refine J_iadd E dX6_feed_23 ?_
    refine J_top (x' := nI (k + n)) (nI_add _ _) ?_
    refine J_bipush E dX6_feed_24 bp_120 ?_
    refine J_icmp_le E (tgt := 35) dX6_feed_26 (by decide) (fun c_26 => ?_) (fun c_26 => ?_)
    · skip
      have n_26 : (k + n) ≤ 120 := cmp_le (a := (k + n)) (b := 120) (by omega) (by omega) c_26
      refine J_iload_n E dX6_feed_35 rfl 2 rfl ?_
      refine J_iconst E dX6_feed_36 ic_1 ?_
      refine J_isub E dX6_feed_37 ?_
      refine J_top (x' := nI n + (-1)) (sub1m) ?_
      refine J_istore_n E (lv' := [(3, .int (nI n + (-1))), (0, .ref (b 0)), (1, .int c), (2, .int (nI n))]) dX6_feed_38 rfl (by decide) rfl ?_
      refine J_w (ws' := wM G b (upG y 7 (y 7))) (congrArg (wM G b) upG_id.symm) ?_
      have lp39 : ∀ (fu : Nat) (i : Nat) (xh : Int32) (r : Q2), (xh = nI i + (-1)) → (i ≤ n) → (feedT (y 7) c n = feedT r c i) → (r 1 0 = nI (k + (n - i))) → i < fu → J X G 4 0 0 (wM G b (upG y 7 r)) [(0, .ref (b 0)), (1, .int c), (2, .int (nI n)), (3, .int xh)] 39 [] := by
        intro fu
        induction fu with
        | zero => intro i xh r hxh hi h3 h4 hm; exact absurd hm (Nat.not_lt_zero _)
        | succ fu ih39 =>
          intro i xh r hxh hi h3 h4 hm
          refine J_iload_n E dX6_feed_39 rfl 3 rfl ?_
          refine J_if_lt E (tgt := 78) dX6_feed_40 (by decide) (fun c_40 => ?_) (fun c_40 => ?_)
          · skip
            have hi0 := dec_neg hxh (by omega) c_40
            refine J_aload_n E dX6_feed_78 rfl 0 rfl ?_
            refine gM0_X6_214 E dX6_feed_79 ?_
            refine J_top (x' := r 1 0) upG_s ?_
            exact ret _ _ _ _ ⟨by rw [h3, hi0]; rfl, _, rfl, by rw [h3, hi0]; exact ShM.rfl'⟩ rfl dX6_feed_82
          · skip
            obtain ⟨u, rfl, rfl⟩ := dec_pos hxh (by omega) c_40
            refine J_aload_n E dX6_feed_43 rfl 0 rfl ?_
            refine gM0_X6_28 E dX6_feed_44 ?_
            refine J_aload_n E dX6_feed_47 rfl 0 rfl ?_
            refine gM0_X6_214 E dX6_feed_48 ?_
            refine J_top (x' := r 1 0) upG_s ?_
            refine J_top (x' := nI (k + (n - (u + 1)))) (h4) ?_
            refine J_iload_n E dX6_feed_51 rfl 1 rfl ?_
            refine J_bipush E dX6_feed_52 bp_8 ?_
            refine J_iload_n E dX6_feed_54 rfl 3 rfl ?_
            refine J_imul E dX6_feed_55 ?_
            refine J_top (x' := nI (8 * u)) (mul8 u) ?_
            refine J_ishr E dX6_feed_56 ?_
            refine J_sipush E dX6_feed_57 sp_255 ?_
            refine J_iand E dX6_feed_60 ?_
            refine sM_7 E (j := (k + (n - (u + 1)))) dX6_feed_61 (by omega) ?_
            refine J_aload_n E dX6_feed_62 rfl 0 rfl ?_
            refine J_dup E dX6_feed_63 rfl ?_
            refine gM0_X6_214 E dX6_feed_64 ?_
            refine J_top (x' := r 1 0) (Eq.trans (up3_row (by decide)) upG_s) ?_
            refine J_iconst E dX6_feed_67 ic_1 ?_
            refine J_iadd E dX6_feed_68 ?_
            refine pM0_X6_214 E dX6_feed_69 ?_
            refine J_w (ws' := wM G b (upG (up3 (up3 (upG y 7 r) 7 0 (k + (n - (u + 1))) ((c >>> ((nI (8 * u)) &&& 31)) &&& 255)) 7 1 0 ((r 1 0) + 1)) 7 (addT r (c >>> (nI (8 * u) &&& 31) &&& 255)))) (by rw [addT, h4, nI_clamp (by omega)]; rfl) ?_
            refine J_iinc E (lv' := [(3, .int ((nI u) + (-1))), (0, .ref (b 0)), (1, .int c), (2, .int (nI n))]) dX6_feed_72 3 rfl (i_dec _) (by decide) rfl ?_
            refine J_goto E (tgt := 39) dX6_feed_75 (by decide) ?_
            refine J_lv [1, 2, 3, 0] rfl ?_
            refine J_w (ws' := wM G b (upG y 7 (addT r (c >>> (nI (8 * u) &&& 31) &&& 255)))) (wM_c rfl rfl rfl rfl rfl rfl rfl rfl rfl rfl rfl) ?_
            exact ih39 u ((nI u) + (-1)) (addT r (c >>> (nI (8 * u) &&& 31) &&& 255)) rfl (by omega) (by rw [h3]; rfl) (by rw [addT_sz h4, show k + (n - (u + 1)) + 1 = k + (n - u) by omega]) (by omega)
      refine J_lv [1, 2, 3, 0] rfl ?_
      refine J_w (ws' := wM G b (upG y 7 (y 7))) (wM_c rfl rfl rfl rfl rfl rfl rfl rfl rfl rfl rfl) ?_
      exact lp39 _ n (nI n + (-1)) (y 7) rfl (by omega) rfl (by rw [Nat.sub_self]; exact hk) (Nat.lt_succ_self _)
    · skip
      have n_26 : ¬ (k + n) ≤ 120 := cmp_nle (a := (k + n)) (b := 120) (by omega) (by omega) c_26
      exact absurd hf n_26
  · skip
    have c_9 := bI_0 c_9
    exact absurd (inB1 (b := 4) h1 h2 (by decide)) c_9

set_option maxHeartbeats 4000000 in
set_option maxRecDepth 20000 in
theorem c_X6_wipe (l : Launch) (G : GB) (b : Nat → Nat) (y : Q3)  : CI l yX6_wipe cX6_wipe 2 .int 0 0 G [.ref (b 0)] (wM G b y) (fun vR w' => vR = y 7 1 0 ∧ PubM G b (up3 y 7 1 0 0) w') := by
  refine CI.mk (own := RX6) (by decide) rfl (Nat.le_of_ble_eq_true rfl) ?_
  intro X E ret
  show J X G 2 0 0 (wM G b y) [(0, .ref (b 0))] 0 []
  refine J_aload_n E dX6_wipe_0 rfl 0 rfl ?_
  refine gM0_X6_214 E dX6_wipe_1 ?_
  refine J_istore_n E (lv' := [(1, .int (y 7 1 0)), (0, .ref (b 0))]) dX6_wipe_4 rfl (by decide) rfl ?_
  refine J_aload_n E dX6_wipe_5 rfl 1 rfl ?_
  refine J_iconst E dX6_wipe_6 ic_0 ?_
  refine pM0_X6_214 E dX6_wipe_7 ?_
  refine J_iload_n E dX6_wipe_10 rfl 0 rfl ?_
  exact ret _ _ _ _ ⟨rfl, _, rfl, by intro g h2 h5 h6; by_cases h0 : g = 0 <;> simp [tellX, upG, up3, up3R, up2, h0, h2, h5, h6]⟩ rfl dX6_wipe_11

set_option maxHeartbeats 4000000 in
set_option maxRecDepth 20000 in
theorem c_X6_hold_bad (l : Launch) (G : GB) (b : Nat → Nat) (y : Q3) (s h : Int32) (hb : ¬ ((0 ≤ s ∧ s ≤ 9) ∧ (h = -1 ∨ okH h))) : CI l yX6_hold cX6_hold 3 .int 2 45 G [.ref (b 0), .int s, .int h] (wM G b y) (fun vR w' => vR = tellR 0 ∧ PubM G b (tellX y 0) w') := by
  refine CI.mk (own := RX6) (by decide) rfl (Nat.le_of_ble_eq_true rfl) ?_
  intro X E ret
  show J X G 3 0 0 (wM G b y) [(0, .ref (b 0)), (1, .int s), (2, .int h)] 0 []
  refine J_iload_n E dX6_hold_0 rfl 1 rfl ?_
  refine J_cSiN E (As := [.int s]) (c_X6_isSpot l G s ) cl_X6_298 yo_X6_isSpot dX6_hold_1 rfl (Nat.le_of_ble_eq_true rfl) (Nat.le_of_ble_eq_true rfl) rfl (Nat.le_of_ble_eq_true rfl) ⟨Nat.zero_le _, Nat.zero_le _⟩ ?_
  refine J_if_eq E (tgt := 19) dX6_hold_4 (by decide) (fun c_4 => ?_) (fun c_4 => ?_)
  · skip
    have c_4 := bI_0 c_4
    refine J_aload_n E dX6_hold_19 rfl 0 rfl ?_
    refine J_iconst E dX6_hold_20 ic_0 ?_
    refine J_cVi0 E (As := [.int 0]) (c_X6_finds l G b y 0 (by omega)) cl_X6_96 yo_X6_finds dX6_hold_21 rfl rfl rfl (Nat.le_of_ble_eq_true rfl) (Nat.le_of_ble_eq_true rfl) rfl (Nat.le_of_ble_eq_true rfl) ⟨Nat.zero_le _, Nat.zero_le _⟩ ?_
    exact ret _ _ _ _ ⟨rfl, _, rfl, by intro g h2 h5 h6; by_cases h0 : g = 0 <;> simp [tellX, upG, up3, up3R, up2, h0, h2, h5, h6]⟩ rfl dX6_hold_24
  · skip
    have c_4 := bI_1 c_4
    refine J_iload_n E dX6_hold_7 rfl 2 rfl ?_
    refine J_iconst E dX6_hold_8 ic_m1 ?_
    refine J_icmp_eq E (tgt := 25) dX6_hold_9 (by decide) (fun c_9 => ?_) (fun c_9 => ?_)
    · skip
      have hw : h = -1 ∨ okH h := Or.inl c_9
      exact absurd ⟨c_4, hw⟩ hb
    · skip
      refine J_iload_n E dX6_hold_12 rfl 2 rfl ?_
      refine J_cSiN E (As := [.int h]) (c_X6_isHouse l G h ) cl_X6_87 yo_X6_isHouse dX6_hold_13 rfl (Nat.le_of_ble_eq_true rfl) (Nat.le_of_ble_eq_true rfl) rfl (Nat.le_of_ble_eq_true rfl) ⟨Nat.zero_le _, Nat.zero_le _⟩ ?_
      refine J_if_ne E (tgt := 25) dX6_hold_16 (by decide) (fun c_16 => ?_) (fun c_16 => ?_)
      · skip
        have c_16 := bI_1 c_16
        have hw : h = -1 ∨ okH h := Or.inr c_16
        exact absurd ⟨c_4, hw⟩ hb
      · skip
        have c_16 := bI_0 c_16
        refine J_aload_n E dX6_hold_19 rfl 0 rfl ?_
        refine J_iconst E dX6_hold_20 ic_0 ?_
        refine J_cVi0 E (As := [.int 0]) (c_X6_finds l G b y 0 (by omega)) cl_X6_96 yo_X6_finds dX6_hold_21 rfl rfl rfl (Nat.le_of_ble_eq_true rfl) (Nat.le_of_ble_eq_true rfl) rfl (Nat.le_of_ble_eq_true rfl) ⟨Nat.zero_le _, Nat.zero_le _⟩ ?_
        exact ret _ _ _ _ ⟨rfl, _, rfl, by intro g h2 h5 h6; by_cases h0 : g = 0 <;> simp [tellX, upG, up3, up3R, up2, h0, h2, h5, h6]⟩ rfl dX6_hold_24

set_option maxHeartbeats 4000000 in
set_option maxRecDepth 20000 in
theorem c_X6_hold_ok (l : Launch) (G : GB) (b : Nat → Nat) (y : Q3) (s : Nat) (h : Int32) (hs : s < 10) (hh : h = -1 ∨ okH h) : CI l yX6_hold cX6_hold 3 .int 2 45 G [.ref (b 0), .int (nI s), .int h] (wM G b y) (fun vR w' => vR = 1 ∧ PubM G b (up3 y 0 6 s h) w') := by
  refine CI.mk (own := RX6) (by decide) rfl (Nat.le_of_ble_eq_true rfl) ?_
  intro X E ret
  show J X G 3 0 0 (wM G b y) [(0, .ref (b 0)), (1, .int (nI s)), (2, .int h)] 0 []
  refine J_iload_n E dX6_hold_0 rfl 1 rfl ?_
  refine J_cSiN E (As := [.int (nI s)]) (c_X6_isSpot l G (nI s) ) cl_X6_298 yo_X6_isSpot dX6_hold_1 rfl (Nat.le_of_ble_eq_true rfl) (Nat.le_of_ble_eq_true rfl) rfl (Nat.le_of_ble_eq_true rfl) ⟨Nat.zero_le _, Nat.zero_le _⟩ ?_
  refine J_if_eq E (tgt := 19) dX6_hold_4 (by decide) (fun c_4 => ?_) (fun c_4 => ?_)
  · skip
    have c_4 := bI_0 c_4
    exact absurd (inB (a := s) (b := 9) (by omega) (by decide)) c_4
  · skip
    have c_4 := bI_1 c_4
    refine J_iload_n E dX6_hold_7 rfl 2 rfl ?_
    refine J_iconst E dX6_hold_8 ic_m1 ?_
    refine J_icmp_eq E (tgt := 25) dX6_hold_9 (by decide) (fun c_9 => ?_) (fun c_9 => ?_)
    · skip
      refine J_aload_n E dX6_hold_25 rfl 0 rfl ?_
      refine gM0_X6_9 E dX6_hold_26 ?_
      refine J_bipush E dX6_hold_29 bp_71 ?_
      refine J_iload_n E dX6_hold_31 rfl 1 rfl ?_
      refine J_iadd E dX6_hold_32 ?_
      refine J_top (x' := nI (71 + s)) (nI_add 71 s) ?_
      refine J_iload_n E dX6_hold_33 rfl 2 rfl ?_
      refine sMs E (j := (71 + s)) (r := 6) (i := s) (at_s (by omega) rfl) dX6_hold_34 ?_
      refine J_w (ws' := wM G b (upG y 0 (up2 (y 0) 6 s h))) rfl ?_
      refine J_iconst E dX6_hold_35 ic_1 ?_
      exact ret _ _ _ _ ⟨rfl, _, rfl, by intro g h2 h5 h6; by_cases h0 : g = 0 <;> simp [tellX, upG, up3, up3R, up2, h0, h2, h5, h6]⟩ rfl dX6_hold_36
    · skip
      refine J_iload_n E dX6_hold_12 rfl 2 rfl ?_
      refine J_cSiN E (As := [.int h]) (c_X6_isHouse l G h ) cl_X6_87 yo_X6_isHouse dX6_hold_13 rfl (Nat.le_of_ble_eq_true rfl) (Nat.le_of_ble_eq_true rfl) rfl (Nat.le_of_ble_eq_true rfl) ⟨Nat.zero_le _, Nat.zero_le _⟩ ?_
      refine J_if_ne E (tgt := 25) dX6_hold_16 (by decide) (fun c_16 => ?_) (fun c_16 => ?_)
      · skip
        have c_16 := bI_1 c_16
        refine J_aload_n E dX6_hold_25 rfl 0 rfl ?_
        refine gM0_X6_9 E dX6_hold_26 ?_
        refine J_bipush E dX6_hold_29 bp_71 ?_
        refine J_iload_n E dX6_hold_31 rfl 1 rfl ?_
        refine J_iadd E dX6_hold_32 ?_
        refine J_top (x' := nI (71 + s)) (nI_add 71 s) ?_
        refine J_iload_n E dX6_hold_33 rfl 2 rfl ?_
        refine sMs E (j := (71 + s)) (r := 6) (i := s) (at_s (by omega) rfl) dX6_hold_34 ?_
        refine J_w (ws' := wM G b (upG y 0 (up2 (y 0) 6 s h))) rfl ?_
        refine J_iconst E dX6_hold_35 ic_1 ?_
        exact ret _ _ _ _ ⟨rfl, _, rfl, by intro g h2 h5 h6; by_cases h0 : g = 0 <;> simp [tellX, upG, up3, up3R, up2, h0, h2, h5, h6]⟩ rfl dX6_hold_36
      · skip
        have c_16 := bI_0 c_16
        exact absurd (hh.resolve_left c_9) c_16

set_option maxHeartbeats 4000000 in
set_option maxRecDepth 20000 in
theorem c_X6_as_bad (l : Launch) (G : GB) (b : Nat → Nat) (y : Q3) (s k : Int32) (hb : ¬ ((0 ≤ s ∧ s ≤ 9) ∧ 0 ≤ k ∧ k ≤ 6)) : CI l yX6_as cX6_as 4 .int 2 45 G [.ref (b 0), .int s, .int k] (wM G b y) (fun vR w' => vR = tellR 0 ∧ PubM G b (tellX y 0) w') := by
  refine CI.mk (own := RX6) (by decide) rfl (Nat.le_of_ble_eq_true rfl) ?_
  intro X E ret
  show J X G 4 0 0 (wM G b y) [(0, .ref (b 0)), (1, .int s), (2, .int k)] 0 []
  refine J_iload_n E dX6_as_0 rfl 1 rfl ?_
  refine J_cSiN E (As := [.int s]) (c_X6_isSpot l G s ) cl_X6_298 yo_X6_isSpot dX6_as_1 rfl (Nat.le_of_ble_eq_true rfl) (Nat.le_of_ble_eq_true rfl) rfl (Nat.le_of_ble_eq_true rfl) ⟨Nat.zero_le _, Nat.zero_le _⟩ ?_
  refine J_if_eq E (tgt := 14) dX6_as_4 (by decide) (fun c_4 => ?_) (fun c_4 => ?_)
  · skip
    have c_4 := bI_0 c_4
    refine J_aload_n E dX6_as_14 rfl 0 rfl ?_
    refine J_iconst E dX6_as_15 ic_0 ?_
    refine J_cVi0 E (As := [.int 0]) (c_X6_finds l G b y 0 (by omega)) cl_X6_96 yo_X6_finds dX6_as_16 rfl rfl rfl (Nat.le_of_ble_eq_true rfl) (Nat.le_of_ble_eq_true rfl) rfl (Nat.le_of_ble_eq_true rfl) ⟨Nat.zero_le _, Nat.zero_le _⟩ ?_
    exact ret _ _ _ _ ⟨rfl, _, rfl, by intro g h2 h5 h6; by_cases h0 : g = 0 <;> simp [tellX, upG, up3, up3R, up2, h0, h2, h5, h6]⟩ rfl dX6_as_19
  · skip
    have c_4 := bI_1 c_4
    refine J_iload_n E dX6_as_7 rfl 2 rfl ?_
    refine J_cSiN E (As := [.int k]) (c_X6_isKind l G k ) cl_X6_77 yo_X6_isKind dX6_as_8 rfl (Nat.le_of_ble_eq_true rfl) (Nat.le_of_ble_eq_true rfl) rfl (Nat.le_of_ble_eq_true rfl) ⟨Nat.zero_le _, Nat.zero_le _⟩ ?_
    refine J_if_ne E (tgt := 20) dX6_as_11 (by decide) (fun c_11 => ?_) (fun c_11 => ?_)
    · skip
      have c_11 := bI_1 c_11
      exact absurd ⟨c_4, c_11⟩ hb
    · skip
      have c_11 := bI_0 c_11
      refine J_aload_n E dX6_as_14 rfl 0 rfl ?_
      refine J_iconst E dX6_as_15 ic_0 ?_
      refine J_cVi0 E (As := [.int 0]) (c_X6_finds l G b y 0 (by omega)) cl_X6_96 yo_X6_finds dX6_as_16 rfl rfl rfl (Nat.le_of_ble_eq_true rfl) (Nat.le_of_ble_eq_true rfl) rfl (Nat.le_of_ble_eq_true rfl) ⟨Nat.zero_le _, Nat.zero_le _⟩ ?_
      exact ret _ _ _ _ ⟨rfl, _, rfl, by intro g h2 h5 h6; by_cases h0 : g = 0 <;> simp [tellX, upG, up3, up3R, up2, h0, h2, h5, h6]⟩ rfl dX6_as_19

set_option maxHeartbeats 4000000 in
set_option maxRecDepth 20000 in
theorem c_X6_as_miss (l : Launch) (G : GB) (b : Nat → Nat) (y : Q3) (s k : Nat) (hs : s < 10) (hk : k < 7) (hv : y 0 6 s = -1) : CI l yX6_as cX6_as 4 .int 2 45 G [.ref (b 0), .int (nI s), .int (nI k)] (wM G b y) (fun vR w' => vR = tellR 5 ∧ PubM G b (tellX y 5) w') := by
  refine CI.mk (own := RX6) (by decide) rfl (Nat.le_of_ble_eq_true rfl) ?_
  intro X E ret
  show J X G 4 0 0 (wM G b y) [(0, .ref (b 0)), (1, .int (nI s)), (2, .int (nI k))] 0 []
  refine J_iload_n E dX6_as_0 rfl 1 rfl ?_
  refine J_cSiN E (As := [.int (nI s)]) (c_X6_isSpot l G (nI s) ) cl_X6_298 yo_X6_isSpot dX6_as_1 rfl (Nat.le_of_ble_eq_true rfl) (Nat.le_of_ble_eq_true rfl) rfl (Nat.le_of_ble_eq_true rfl) ⟨Nat.zero_le _, Nat.zero_le _⟩ ?_
  refine J_if_eq E (tgt := 14) dX6_as_4 (by decide) (fun c_4 => ?_) (fun c_4 => ?_)
  · skip
    have c_4 := bI_0 c_4
    exact absurd (inB (a := s) (b := 9) (by omega) (by decide)) c_4
  · skip
    have c_4 := bI_1 c_4
    refine J_iload_n E dX6_as_7 rfl 2 rfl ?_
    refine J_cSiN E (As := [.int (nI k)]) (c_X6_isKind l G (nI k) ) cl_X6_77 yo_X6_isKind dX6_as_8 rfl (Nat.le_of_ble_eq_true rfl) (Nat.le_of_ble_eq_true rfl) rfl (Nat.le_of_ble_eq_true rfl) ⟨Nat.zero_le _, Nat.zero_le _⟩ ?_
    refine J_if_ne E (tgt := 20) dX6_as_11 (by decide) (fun c_11 => ?_) (fun c_11 => ?_)
    · skip
      have c_11 := bI_1 c_11
      refine J_aload_n E dX6_as_20 rfl 0 rfl ?_
      refine gM0_X6_9 E dX6_as_21 ?_
      refine J_bipush E dX6_as_24 bp_71 ?_
      refine J_iload_n E dX6_as_26 rfl 1 rfl ?_
      refine J_iadd E dX6_as_27 ?_
      refine J_top (x' := nI (71 + s)) (nI_add 71 s) ?_
      refine lMs E (j := (71 + s)) (r := 6) (i := s) (at_s (by omega) rfl) dX6_as_28 ?_
      refine J_top (x' := (-1)) (hv) ?_
      refine J_istore_n E (lv' := [(3, .int (-1)), (0, .ref (b 0)), (1, .int (nI s)), (2, .int (nI k))]) dX6_as_29 rfl (by decide) rfl ?_
      refine J_iload_n E dX6_as_30 rfl 0 rfl ?_
      refine J_if_ge E (tgt := 40) dX6_as_31 (by decide) (fun c_31 => ?_) (fun c_31 => ?_)
      · skip
        exact absurd c_31 (by decide)
      · skip
        refine J_aload_n E dX6_as_34 rfl 1 rfl ?_
        refine J_iconst E dX6_as_35 ic_5 ?_
        refine J_cVi0 E (As := [.int 5]) (c_X6_finds l G b y 5 (by omega)) cl_X6_96 yo_X6_finds dX6_as_36 rfl rfl rfl (Nat.le_of_ble_eq_true rfl) (Nat.le_of_ble_eq_true rfl) rfl (Nat.le_of_ble_eq_true rfl) ⟨Nat.zero_le _, Nat.zero_le _⟩ ?_
        exact ret _ _ _ _ ⟨rfl, _, rfl, by intro g h2 h5 h6; by_cases h0 : g = 0 <;> simp [tellX, upG, up3, up3R, up2, h0, h2, h5, h6]⟩ rfl dX6_as_39
    · skip
      have c_11 := bI_0 c_11
      exact absurd (inB (a := k) (b := 6) (by omega) (by decide)) c_11

set_option maxHeartbeats 4000000 in
set_option maxRecDepth 20000 in
theorem c_X6_as_no (l : Launch) (G : GB) (b : Nat → Nat) (y : Q3) (s k j kd : Nat) (hs : s < 10) (hk : k < 7) (hj : j < 11) (hkd : kd < 7) (hv : y 0 6 s = nI j) (hw : y 0 0 j = nI kd) (hu : ¬ undF kd k = true) : CI l yX6_as cX6_as 4 .int 2 45 G [.ref (b 0), .int (nI s), .int (nI k)] (wM G b y) (fun vR w' => vR = tellR 2 ∧ PubM G b (tellX y 2) w') := by
  refine CI.mk (own := RX6) (by decide) rfl (Nat.le_of_ble_eq_true rfl) ?_
  intro X E ret
  show J X G 4 0 0 (wM G b y) [(0, .ref (b 0)), (1, .int (nI s)), (2, .int (nI k))] 0 []
  refine J_iload_n E dX6_as_0 rfl 1 rfl ?_
  refine J_cSiN E (As := [.int (nI s)]) (c_X6_isSpot l G (nI s) ) cl_X6_298 yo_X6_isSpot dX6_as_1 rfl (Nat.le_of_ble_eq_true rfl) (Nat.le_of_ble_eq_true rfl) rfl (Nat.le_of_ble_eq_true rfl) ⟨Nat.zero_le _, Nat.zero_le _⟩ ?_
  refine J_if_eq E (tgt := 14) dX6_as_4 (by decide) (fun c_4 => ?_) (fun c_4 => ?_)
  · skip
    have c_4 := bI_0 c_4
    exact absurd (inB (a := s) (b := 9) (by omega) (by decide)) c_4
  · skip
    have c_4 := bI_1 c_4
    refine J_iload_n E dX6_as_7 rfl 2 rfl ?_
    refine J_cSiN E (As := [.int (nI k)]) (c_X6_isKind l G (nI k) ) cl_X6_77 yo_X6_isKind dX6_as_8 rfl (Nat.le_of_ble_eq_true rfl) (Nat.le_of_ble_eq_true rfl) rfl (Nat.le_of_ble_eq_true rfl) ⟨Nat.zero_le _, Nat.zero_le _⟩ ?_
    refine J_if_ne E (tgt := 20) dX6_as_11 (by decide) (fun c_11 => ?_) (fun c_11 => ?_)
    · skip
      have c_11 := bI_1 c_11
      refine J_aload_n E dX6_as_20 rfl 0 rfl ?_
      refine gM0_X6_9 E dX6_as_21 ?_
      refine J_bipush E dX6_as_24 bp_71 ?_
      refine J_iload_n E dX6_as_26 rfl 1 rfl ?_
      refine J_iadd E dX6_as_27 ?_
      refine J_top (x' := nI (71 + s)) (nI_add 71 s) ?_
      refine lMs E (j := (71 + s)) (r := 6) (i := s) (at_s (by omega) rfl) dX6_as_28 ?_
      refine J_top (x' := nI j) (hv) ?_
      refine J_istore_n E (lv' := [(3, .int (nI j)), (0, .ref (b 0)), (1, .int (nI s)), (2, .int (nI k))]) dX6_as_29 rfl (by decide) rfl ?_
      refine J_iload_n E dX6_as_30 rfl 0 rfl ?_
      refine J_if_ge E (tgt := 40) dX6_as_31 (by decide) (fun c_31 => ?_) (fun c_31 => ?_)
      · skip
        have n_31 : 0 ≤ j := cmp_le (a := 0) (b := j) (by omega) (by omega) c_31
        refine J_aload_n E dX6_as_40 rfl 1 rfl ?_
        refine J_iload_n E dX6_as_41 rfl 0 rfl ?_
        refine J_iconst E dX6_as_42 ic_0 ?_
        refine J_cVi0 E (As := [.int (nI j), .int 0]) (c_X6_its l G b y j 0 (by omega) (by omega)) cl_X6_64 yo_X6_its dX6_as_43 rfl rfl rfl (Nat.le_of_ble_eq_true rfl) (Nat.le_of_ble_eq_true rfl) rfl (Nat.le_of_ble_eq_true rfl) ⟨Nat.zero_le _, Nat.zero_le _⟩ ?_
        refine J_top (x' := nI kd) (hw) ?_
        refine J_iload_n E dX6_as_46 rfl 3 rfl ?_
        refine J_cSiN E (As := [.int (nI kd), .int (nI k)]) (c_X6_isUnder l G kd k (by omega) (by omega)) cl_X6_73 yo_X6_isUnder dX6_as_47 rfl (Nat.le_of_ble_eq_true rfl) (Nat.le_of_ble_eq_true rfl) rfl (Nat.le_of_ble_eq_true rfl) ⟨Nat.zero_le _, Nat.zero_le _⟩ ?_
        refine J_if_eq E (tgt := 57) dX6_as_50 (by decide) (fun c_50 => ?_) (fun c_50 => ?_)
        · skip
          have c_50 := bI_0 c_50
          refine J_aload_n E dX6_as_57 rfl 1 rfl ?_
          refine J_iconst E dX6_as_58 ic_2 ?_
          refine J_cVi0 E (As := [.int 2]) (c_X6_finds l G b y 2 (by omega)) cl_X6_96 yo_X6_finds dX6_as_59 rfl rfl rfl (Nat.le_of_ble_eq_true rfl) (Nat.le_of_ble_eq_true rfl) rfl (Nat.le_of_ble_eq_true rfl) ⟨Nat.zero_le _, Nat.zero_le _⟩ ?_
          exact ret _ _ _ _ ⟨rfl, _, rfl, by intro g h2 h5 h6; by_cases h0 : g = 0 <;> simp [tellX, upG, up3, up3R, up2, h0, h2, h5, h6]⟩ rfl dX6_as_62
        · skip
          have c_50 := bI_1 c_50
          exact absurd c_50 hu
      · skip
        have n_31 : ¬ 0 ≤ j := cmp_nle (a := 0) (b := j) (by omega) (by omega) c_31
        exact absurd n_31 (by omega)
    · skip
      have c_11 := bI_0 c_11
      exact absurd (inB (a := k) (b := 6) (by omega) (by decide)) c_11

set_option maxHeartbeats 4000000 in
set_option maxRecDepth 20000 in
theorem c_X6_as_ok (l : Launch) (G : GB) (b : Nat → Nat) (y : Q3) (s k j kd : Nat) (hs : s < 10) (hk : k < 7) (hj : j < 11) (hkd : kd < 7) (hv : y 0 6 s = nI j) (hw : y 0 0 j = nI kd) (hu : undF kd k = true) : CI l yX6_as cX6_as 4 .int 2 45 G [.ref (b 0), .int (nI s), .int (nI k)] (wM G b y) (fun vR w' => vR = nI j ∧ PubM G b y w') := by
  refine CI.mk (own := RX6) (by decide) rfl (Nat.le_of_ble_eq_true rfl) ?_
  intro X E ret
  show J X G 4 0 0 (wM G b y) [(0, .ref (b 0)), (1, .int (nI s)), (2, .int (nI k))] 0 []
  refine J_iload_n E dX6_as_0 rfl 1 rfl ?_
  refine J_cSiN E (As := [.int (nI s)]) (c_X6_isSpot l G (nI s) ) cl_X6_298 yo_X6_isSpot dX6_as_1 rfl (Nat.le_of_ble_eq_true rfl) (Nat.le_of_ble_eq_true rfl) rfl (Nat.le_of_ble_eq_true rfl) ⟨Nat.zero_le _, Nat.zero_le _⟩ ?_
  refine J_if_eq E (tgt := 14) dX6_as_4 (by decide) (fun c_4 => ?_) (fun c_4 => ?_)
  · skip
    have c_4 := bI_0 c_4
    exact absurd (inB (a := s) (b := 9) (by omega) (by decide)) c_4
  · skip
    have c_4 := bI_1 c_4
    refine J_iload_n E dX6_as_7 rfl 2 rfl ?_
    refine J_cSiN E (As := [.int (nI k)]) (c_X6_isKind l G (nI k) ) cl_X6_77 yo_X6_isKind dX6_as_8 rfl (Nat.le_of_ble_eq_true rfl) (Nat.le_of_ble_eq_true rfl) rfl (Nat.le_of_ble_eq_true rfl) ⟨Nat.zero_le _, Nat.zero_le _⟩ ?_
    refine J_if_ne E (tgt := 20) dX6_as_11 (by decide) (fun c_11 => ?_) (fun c_11 => ?_)
    · skip
      have c_11 := bI_1 c_11
      refine J_aload_n E dX6_as_20 rfl 0 rfl ?_
      refine gM0_X6_9 E dX6_as_21 ?_
      refine J_bipush E dX6_as_24 bp_71 ?_
      refine J_iload_n E dX6_as_26 rfl 1 rfl ?_
      refine J_iadd E dX6_as_27 ?_
      refine J_top (x' := nI (71 + s)) (nI_add 71 s) ?_
      refine lMs E (j := (71 + s)) (r := 6) (i := s) (at_s (by omega) rfl) dX6_as_28 ?_
      refine J_top (x' := nI j) (hv) ?_
      refine J_istore_n E (lv' := [(3, .int (nI j)), (0, .ref (b 0)), (1, .int (nI s)), (2, .int (nI k))]) dX6_as_29 rfl (by decide) rfl ?_
      refine J_iload_n E dX6_as_30 rfl 0 rfl ?_
      refine J_if_ge E (tgt := 40) dX6_as_31 (by decide) (fun c_31 => ?_) (fun c_31 => ?_)
      · skip
        have n_31 : 0 ≤ j := cmp_le (a := 0) (b := j) (by omega) (by omega) c_31
        refine J_aload_n E dX6_as_40 rfl 1 rfl ?_
        refine J_iload_n E dX6_as_41 rfl 0 rfl ?_
        refine J_iconst E dX6_as_42 ic_0 ?_
        refine J_cVi0 E (As := [.int (nI j), .int 0]) (c_X6_its l G b y j 0 (by omega) (by omega)) cl_X6_64 yo_X6_its dX6_as_43 rfl rfl rfl (Nat.le_of_ble_eq_true rfl) (Nat.le_of_ble_eq_true rfl) rfl (Nat.le_of_ble_eq_true rfl) ⟨Nat.zero_le _, Nat.zero_le _⟩ ?_
        refine J_top (x' := nI kd) (hw) ?_
        refine J_iload_n E dX6_as_46 rfl 3 rfl ?_
        refine J_cSiN E (As := [.int (nI kd), .int (nI k)]) (c_X6_isUnder l G kd k (by omega) (by omega)) cl_X6_73 yo_X6_isUnder dX6_as_47 rfl (Nat.le_of_ble_eq_true rfl) (Nat.le_of_ble_eq_true rfl) rfl (Nat.le_of_ble_eq_true rfl) ⟨Nat.zero_le _, Nat.zero_le _⟩ ?_
        refine J_if_eq E (tgt := 57) dX6_as_50 (by decide) (fun c_50 => ?_) (fun c_50 => ?_)
        · skip
          have c_50 := bI_0 c_50
          exact absurd hu c_50
        · skip
          have c_50 := bI_1 c_50
          refine J_iload_n E dX6_as_53 rfl 0 rfl ?_
          refine J_goto E (tgt := 62) dX6_as_54 (by decide) ?_
          exact ret _ _ _ _ ⟨rfl, _, rfl, by intro g h2 h5 h6; by_cases h0 : g = 0 <;> simp [tellX, upG, up3, up3R, up2, h0, h2, h5, h6]⟩ rfl dX6_as_62
      · skip
        have n_31 : ¬ 0 ≤ j := cmp_nle (a := 0) (b := j) (by omega) (by omega) c_31
        exact absurd n_31 (by omega)
    · skip
      have c_11 := bI_0 c_11
      exact absurd (inB (a := k) (b := 6) (by omega) (by decide)) c_11

set_option maxHeartbeats 4000000 in
set_option maxRecDepth 20000 in
theorem c_X6_sheet_bad (l : Launch) (G : GB) (b : Nat → Nat) (y : Q3) (s c n : Int32) (hb : ¬ ((0 ≤ s ∧ s ≤ 3) ∧ (c = 0 ∨ c = 8 ∨ c = 16 ∨ c = 32))) : CI l yX6_sheet cX6_sheet 6 .int 2 45 G [.ref (b 0), .int s, .int c, .int n] (wM G b y) (fun vR w' => vR = tellR 0 ∧ PubM G b (tellX y 0) w') := by
  refine CI.mk (own := RX6) (by decide) rfl (Nat.le_of_ble_eq_true rfl) ?_
  intro X E ret
  show J X G 6 0 0 (wM G b y) [(0, .ref (b 0)), (1, .int s), (2, .int c), (3, .int n)] 0 []
  refine J_iload_n E dX6_sheet_0 rfl 2 rfl ?_
  refine J_if_eq E (tgt := 22) dX6_sheet_1 (by decide) (fun c_1 => ?_) (fun c_1 => ?_)
  · skip
    have hw : (c = 0 ∨ c = 8 ∨ c = 16 ∨ c = 32) := Or.inl c_1
    refine J_iconst E dX6_sheet_22 ic_1 ?_
    refine J_goto E (tgt := 27) dX6_sheet_23 (by decide) ?_
    refine J_istore E (lv' := [(4, .int 1), (0, .ref (b 0)), (1, .int s), (2, .int c), (3, .int n)]) dX6_sheet_27 (by decide) rfl ?_
    refine J_iload_n E dX6_sheet_29 rfl 2 rfl ?_
    refine J_cSiN E (As := [.int s]) (c_X6_isSheet l G s ) cl_X6_303 yo_X6_isSheet dX6_sheet_30 rfl (Nat.le_of_ble_eq_true rfl) (Nat.le_of_ble_eq_true rfl) rfl (Nat.le_of_ble_eq_true rfl) ⟨Nat.zero_le _, Nat.zero_le _⟩ ?_
    refine J_if_eq E (tgt := 41) dX6_sheet_33 (by decide) (fun c_33 => ?_) (fun c_33 => ?_)
    · skip
      have c_33 := bI_0 c_33
      refine J_aload_n E dX6_sheet_41 rfl 1 rfl ?_
      refine J_iconst E dX6_sheet_42 ic_0 ?_
      refine J_cVi0 E (As := [.int 0]) (c_X6_finds l G b y 0 (by omega)) cl_X6_96 yo_X6_finds dX6_sheet_43 rfl rfl rfl (Nat.le_of_ble_eq_true rfl) (Nat.le_of_ble_eq_true rfl) rfl (Nat.le_of_ble_eq_true rfl) ⟨Nat.zero_le _, Nat.zero_le _⟩ ?_
      exact ret _ _ _ _ ⟨rfl, _, rfl, by intro g h2 h5 h6; by_cases h0 : g = 0 <;> simp [tellX, upG, up3, up3R, up2, h0, h2, h5, h6]⟩ rfl dX6_sheet_46
    · skip
      have c_33 := bI_1 c_33
      refine J_iload E dX6_sheet_36 0 rfl ?_
      refine J_if_ne E (tgt := 47) dX6_sheet_38 (by decide) (fun c_38 => ?_) (fun c_38 => ?_)
      · skip
        have n_38 : ¬ 1 = 0 := cmp_ne (a := 1) (b := 0) (by omega) (by omega) c_38
        exact absurd ⟨c_33, hw⟩ hb
      · skip
        have n_38 : 1 = 0 := cmp_eq (a := 1) (b := 0) (by omega) (by omega) c_38
        exact absurd n_38 (by decide)
  · skip
    refine J_iload_n E dX6_sheet_4 rfl 2 rfl ?_
    refine J_bipush E dX6_sheet_5 bp_8 ?_
    refine J_icmp_eq E (tgt := 22) dX6_sheet_7 (by decide) (fun c_7 => ?_) (fun c_7 => ?_)
    · skip
      have hw : (c = 0 ∨ c = 8 ∨ c = 16 ∨ c = 32) := Or.inr (Or.inl c_7)
      refine J_iconst E dX6_sheet_22 ic_1 ?_
      refine J_goto E (tgt := 27) dX6_sheet_23 (by decide) ?_
      refine J_istore E (lv' := [(4, .int 1), (0, .ref (b 0)), (1, .int s), (2, .int c), (3, .int n)]) dX6_sheet_27 (by decide) rfl ?_
      refine J_iload_n E dX6_sheet_29 rfl 2 rfl ?_
      refine J_cSiN E (As := [.int s]) (c_X6_isSheet l G s ) cl_X6_303 yo_X6_isSheet dX6_sheet_30 rfl (Nat.le_of_ble_eq_true rfl) (Nat.le_of_ble_eq_true rfl) rfl (Nat.le_of_ble_eq_true rfl) ⟨Nat.zero_le _, Nat.zero_le _⟩ ?_
      refine J_if_eq E (tgt := 41) dX6_sheet_33 (by decide) (fun c_33 => ?_) (fun c_33 => ?_)
      · skip
        have c_33 := bI_0 c_33
        refine J_aload_n E dX6_sheet_41 rfl 1 rfl ?_
        refine J_iconst E dX6_sheet_42 ic_0 ?_
        refine J_cVi0 E (As := [.int 0]) (c_X6_finds l G b y 0 (by omega)) cl_X6_96 yo_X6_finds dX6_sheet_43 rfl rfl rfl (Nat.le_of_ble_eq_true rfl) (Nat.le_of_ble_eq_true rfl) rfl (Nat.le_of_ble_eq_true rfl) ⟨Nat.zero_le _, Nat.zero_le _⟩ ?_
        exact ret _ _ _ _ ⟨rfl, _, rfl, by intro g h2 h5 h6; by_cases h0 : g = 0 <;> simp [tellX, upG, up3, up3R, up2, h0, h2, h5, h6]⟩ rfl dX6_sheet_46
      · skip
        have c_33 := bI_1 c_33
        refine J_iload E dX6_sheet_36 0 rfl ?_
        refine J_if_ne E (tgt := 47) dX6_sheet_38 (by decide) (fun c_38 => ?_) (fun c_38 => ?_)
        · skip
          have n_38 : ¬ 1 = 0 := cmp_ne (a := 1) (b := 0) (by omega) (by omega) c_38
          exact absurd ⟨c_33, hw⟩ hb
        · skip
          have n_38 : 1 = 0 := cmp_eq (a := 1) (b := 0) (by omega) (by omega) c_38
          exact absurd n_38 (by decide)
    · skip
      refine J_iload_n E dX6_sheet_10 rfl 2 rfl ?_
      refine J_bipush E dX6_sheet_11 bp_16 ?_
      refine J_icmp_eq E (tgt := 22) dX6_sheet_13 (by decide) (fun c_13 => ?_) (fun c_13 => ?_)
      · skip
        have hw : (c = 0 ∨ c = 8 ∨ c = 16 ∨ c = 32) := Or.inr (Or.inr (Or.inl c_13))
        refine J_iconst E dX6_sheet_22 ic_1 ?_
        refine J_goto E (tgt := 27) dX6_sheet_23 (by decide) ?_
        refine J_istore E (lv' := [(4, .int 1), (0, .ref (b 0)), (1, .int s), (2, .int c), (3, .int n)]) dX6_sheet_27 (by decide) rfl ?_
        refine J_iload_n E dX6_sheet_29 rfl 2 rfl ?_
        refine J_cSiN E (As := [.int s]) (c_X6_isSheet l G s ) cl_X6_303 yo_X6_isSheet dX6_sheet_30 rfl (Nat.le_of_ble_eq_true rfl) (Nat.le_of_ble_eq_true rfl) rfl (Nat.le_of_ble_eq_true rfl) ⟨Nat.zero_le _, Nat.zero_le _⟩ ?_
        refine J_if_eq E (tgt := 41) dX6_sheet_33 (by decide) (fun c_33 => ?_) (fun c_33 => ?_)
        · skip
          have c_33 := bI_0 c_33
          refine J_aload_n E dX6_sheet_41 rfl 1 rfl ?_
          refine J_iconst E dX6_sheet_42 ic_0 ?_
          refine J_cVi0 E (As := [.int 0]) (c_X6_finds l G b y 0 (by omega)) cl_X6_96 yo_X6_finds dX6_sheet_43 rfl rfl rfl (Nat.le_of_ble_eq_true rfl) (Nat.le_of_ble_eq_true rfl) rfl (Nat.le_of_ble_eq_true rfl) ⟨Nat.zero_le _, Nat.zero_le _⟩ ?_
          exact ret _ _ _ _ ⟨rfl, _, rfl, by intro g h2 h5 h6; by_cases h0 : g = 0 <;> simp [tellX, upG, up3, up3R, up2, h0, h2, h5, h6]⟩ rfl dX6_sheet_46
        · skip
          have c_33 := bI_1 c_33
          refine J_iload E dX6_sheet_36 0 rfl ?_
          refine J_if_ne E (tgt := 47) dX6_sheet_38 (by decide) (fun c_38 => ?_) (fun c_38 => ?_)
          · skip
            have n_38 : ¬ 1 = 0 := cmp_ne (a := 1) (b := 0) (by omega) (by omega) c_38
            exact absurd ⟨c_33, hw⟩ hb
          · skip
            have n_38 : 1 = 0 := cmp_eq (a := 1) (b := 0) (by omega) (by omega) c_38
            exact absurd n_38 (by decide)
      · skip
        refine J_iload_n E dX6_sheet_16 rfl 2 rfl ?_
        refine J_bipush E dX6_sheet_17 bp_32 ?_
        refine J_icmp_ne E (tgt := 26) dX6_sheet_19 (by decide) (fun c_19 => ?_) (fun c_19 => ?_)
        · skip
          refine J_iconst E dX6_sheet_26 ic_0 ?_
          refine J_istore E (lv' := [(4, .int 0), (0, .ref (b 0)), (1, .int s), (2, .int c), (3, .int n)]) dX6_sheet_27 (by decide) rfl ?_
          refine J_iload_n E dX6_sheet_29 rfl 2 rfl ?_
          refine J_cSiN E (As := [.int s]) (c_X6_isSheet l G s ) cl_X6_303 yo_X6_isSheet dX6_sheet_30 rfl (Nat.le_of_ble_eq_true rfl) (Nat.le_of_ble_eq_true rfl) rfl (Nat.le_of_ble_eq_true rfl) ⟨Nat.zero_le _, Nat.zero_le _⟩ ?_
          refine J_if_eq E (tgt := 41) dX6_sheet_33 (by decide) (fun c_33 => ?_) (fun c_33 => ?_)
          · skip
            have c_33 := bI_0 c_33
            refine J_aload_n E dX6_sheet_41 rfl 1 rfl ?_
            refine J_iconst E dX6_sheet_42 ic_0 ?_
            refine J_cVi0 E (As := [.int 0]) (c_X6_finds l G b y 0 (by omega)) cl_X6_96 yo_X6_finds dX6_sheet_43 rfl rfl rfl (Nat.le_of_ble_eq_true rfl) (Nat.le_of_ble_eq_true rfl) rfl (Nat.le_of_ble_eq_true rfl) ⟨Nat.zero_le _, Nat.zero_le _⟩ ?_
            exact ret _ _ _ _ ⟨rfl, _, rfl, by intro g h2 h5 h6; by_cases h0 : g = 0 <;> simp [tellX, upG, up3, up3R, up2, h0, h2, h5, h6]⟩ rfl dX6_sheet_46
          · skip
            have c_33 := bI_1 c_33
            refine J_iload E dX6_sheet_36 0 rfl ?_
            refine J_if_ne E (tgt := 47) dX6_sheet_38 (by decide) (fun c_38 => ?_) (fun c_38 => ?_)
            · skip
              have n_38 : ¬ 0 = 0 := cmp_ne (a := 0) (b := 0) (by omega) (by omega) c_38
              exact absurd n_38 (by decide)
            · skip
              have n_38 : 0 = 0 := cmp_eq (a := 0) (b := 0) (by omega) (by omega) c_38
              refine J_aload_n E dX6_sheet_41 rfl 1 rfl ?_
              refine J_iconst E dX6_sheet_42 ic_0 ?_
              refine J_cVi0 E (As := [.int 0]) (c_X6_finds l G b y 0 (by omega)) cl_X6_96 yo_X6_finds dX6_sheet_43 rfl rfl rfl (Nat.le_of_ble_eq_true rfl) (Nat.le_of_ble_eq_true rfl) rfl (Nat.le_of_ble_eq_true rfl) ⟨Nat.zero_le _, Nat.zero_le _⟩ ?_
              exact ret _ _ _ _ ⟨rfl, _, rfl, by intro g h2 h5 h6; by_cases h0 : g = 0 <;> simp [tellX, upG, up3, up3R, up2, h0, h2, h5, h6]⟩ rfl dX6_sheet_46
        · skip
          have hw : (c = 0 ∨ c = 8 ∨ c = 16 ∨ c = 32) := Or.inr (Or.inr (Or.inr c_19))
          refine J_iconst E dX6_sheet_22 ic_1 ?_
          refine J_goto E (tgt := 27) dX6_sheet_23 (by decide) ?_
          refine J_istore E (lv' := [(4, .int 1), (0, .ref (b 0)), (1, .int s), (2, .int c), (3, .int n)]) dX6_sheet_27 (by decide) rfl ?_
          refine J_iload_n E dX6_sheet_29 rfl 2 rfl ?_
          refine J_cSiN E (As := [.int s]) (c_X6_isSheet l G s ) cl_X6_303 yo_X6_isSheet dX6_sheet_30 rfl (Nat.le_of_ble_eq_true rfl) (Nat.le_of_ble_eq_true rfl) rfl (Nat.le_of_ble_eq_true rfl) ⟨Nat.zero_le _, Nat.zero_le _⟩ ?_
          refine J_if_eq E (tgt := 41) dX6_sheet_33 (by decide) (fun c_33 => ?_) (fun c_33 => ?_)
          · skip
            have c_33 := bI_0 c_33
            refine J_aload_n E dX6_sheet_41 rfl 1 rfl ?_
            refine J_iconst E dX6_sheet_42 ic_0 ?_
            refine J_cVi0 E (As := [.int 0]) (c_X6_finds l G b y 0 (by omega)) cl_X6_96 yo_X6_finds dX6_sheet_43 rfl rfl rfl (Nat.le_of_ble_eq_true rfl) (Nat.le_of_ble_eq_true rfl) rfl (Nat.le_of_ble_eq_true rfl) ⟨Nat.zero_le _, Nat.zero_le _⟩ ?_
            exact ret _ _ _ _ ⟨rfl, _, rfl, by intro g h2 h5 h6; by_cases h0 : g = 0 <;> simp [tellX, upG, up3, up3R, up2, h0, h2, h5, h6]⟩ rfl dX6_sheet_46
          · skip
            have c_33 := bI_1 c_33
            refine J_iload E dX6_sheet_36 0 rfl ?_
            refine J_if_ne E (tgt := 47) dX6_sheet_38 (by decide) (fun c_38 => ?_) (fun c_38 => ?_)
            · skip
              have n_38 : ¬ 1 = 0 := cmp_ne (a := 1) (b := 0) (by omega) (by omega) c_38
              exact absurd ⟨c_33, hw⟩ hb
            · skip
              have n_38 : 1 = 0 := cmp_eq (a := 1) (b := 0) (by omega) (by omega) c_38
              exact absurd n_38 (by decide)

set_option maxHeartbeats 4000000 in
set_option maxRecDepth 20000 in
theorem c_X6_sheet_size (l : Launch) (G : GB) (b : Nat → Nat) (y : Q3) (s c n : Int32) (hs : 0 ≤ s ∧ s ≤ 3) (hbt : (c = 0 ∨ c = 8 ∨ c = 16 ∨ c = 32)) (hn : n < 0) : CI l yX6_sheet cX6_sheet 6 .int 2 45 G [.ref (b 0), .int s, .int c, .int n] (wM G b y) (fun vR w' => vR = tellR 6 ∧ PubM G b (tellX y 6) w') := by
  refine CI.mk (own := RX6) (by decide) rfl (Nat.le_of_ble_eq_true rfl) ?_
  intro X E ret
  show J X G 6 0 0 (wM G b y) [(0, .ref (b 0)), (1, .int s), (2, .int c), (3, .int n)] 0 []
  refine J_iload_n E dX6_sheet_0 rfl 2 rfl ?_
  refine J_if_eq E (tgt := 22) dX6_sheet_1 (by decide) (fun c_1 => ?_) (fun c_1 => ?_)
  · skip
    refine J_iconst E dX6_sheet_22 ic_1 ?_
    refine J_goto E (tgt := 27) dX6_sheet_23 (by decide) ?_
    refine J_istore E (lv' := [(4, .int 1), (0, .ref (b 0)), (1, .int s), (2, .int c), (3, .int n)]) dX6_sheet_27 (by decide) rfl ?_
    refine J_iload_n E dX6_sheet_29 rfl 2 rfl ?_
    refine J_cSiN E (As := [.int s]) (c_X6_isSheet l G s ) cl_X6_303 yo_X6_isSheet dX6_sheet_30 rfl (Nat.le_of_ble_eq_true rfl) (Nat.le_of_ble_eq_true rfl) rfl (Nat.le_of_ble_eq_true rfl) ⟨Nat.zero_le _, Nat.zero_le _⟩ ?_
    refine J_if_eq E (tgt := 41) dX6_sheet_33 (by decide) (fun c_33 => ?_) (fun c_33 => ?_)
    · skip
      have c_33 := bI_0 c_33
      exact absurd hs c_33
    · skip
      have c_33 := bI_1 c_33
      refine J_iload E dX6_sheet_36 0 rfl ?_
      refine J_if_ne E (tgt := 47) dX6_sheet_38 (by decide) (fun c_38 => ?_) (fun c_38 => ?_)
      · skip
        have n_38 : ¬ 1 = 0 := cmp_ne (a := 1) (b := 0) (by omega) (by omega) c_38
        refine J_iload_n E dX6_sheet_47 rfl 4 rfl ?_
        refine J_if_ge E (tgt := 58) dX6_sheet_48 (by decide) (fun c_48 => ?_) (fun c_48 => ?_)
        · skip
          exact absurd hn (Int32.not_lt.mpr c_48)
        · skip
          refine J_aload_n E dX6_sheet_51 rfl 1 rfl ?_
          refine J_bipush E dX6_sheet_52 bp_6 ?_
          refine J_cVi0 E (As := [.int 6]) (c_X6_finds l G b y 6 (by omega)) cl_X6_96 yo_X6_finds dX6_sheet_54 rfl rfl rfl (Nat.le_of_ble_eq_true rfl) (Nat.le_of_ble_eq_true rfl) rfl (Nat.le_of_ble_eq_true rfl) ⟨Nat.zero_le _, Nat.zero_le _⟩ ?_
          exact ret _ _ _ _ ⟨rfl, _, rfl, by intro g h2 h5 h6; by_cases h0 : g = 0 <;> simp [tellX, upG, up3, up3R, up2, h0, h2, h5, h6]⟩ rfl dX6_sheet_57
      · skip
        have n_38 : 1 = 0 := cmp_eq (a := 1) (b := 0) (by omega) (by omega) c_38
        exact absurd n_38 (by decide)
  · skip
    refine J_iload_n E dX6_sheet_4 rfl 2 rfl ?_
    refine J_bipush E dX6_sheet_5 bp_8 ?_
    refine J_icmp_eq E (tgt := 22) dX6_sheet_7 (by decide) (fun c_7 => ?_) (fun c_7 => ?_)
    · skip
      refine J_iconst E dX6_sheet_22 ic_1 ?_
      refine J_goto E (tgt := 27) dX6_sheet_23 (by decide) ?_
      refine J_istore E (lv' := [(4, .int 1), (0, .ref (b 0)), (1, .int s), (2, .int c), (3, .int n)]) dX6_sheet_27 (by decide) rfl ?_
      refine J_iload_n E dX6_sheet_29 rfl 2 rfl ?_
      refine J_cSiN E (As := [.int s]) (c_X6_isSheet l G s ) cl_X6_303 yo_X6_isSheet dX6_sheet_30 rfl (Nat.le_of_ble_eq_true rfl) (Nat.le_of_ble_eq_true rfl) rfl (Nat.le_of_ble_eq_true rfl) ⟨Nat.zero_le _, Nat.zero_le _⟩ ?_
      refine J_if_eq E (tgt := 41) dX6_sheet_33 (by decide) (fun c_33 => ?_) (fun c_33 => ?_)
      · skip
        have c_33 := bI_0 c_33
        exact absurd hs c_33
      · skip
        have c_33 := bI_1 c_33
        refine J_iload E dX6_sheet_36 0 rfl ?_
        refine J_if_ne E (tgt := 47) dX6_sheet_38 (by decide) (fun c_38 => ?_) (fun c_38 => ?_)
        · skip
          have n_38 : ¬ 1 = 0 := cmp_ne (a := 1) (b := 0) (by omega) (by omega) c_38
          refine J_iload_n E dX6_sheet_47 rfl 4 rfl ?_
          refine J_if_ge E (tgt := 58) dX6_sheet_48 (by decide) (fun c_48 => ?_) (fun c_48 => ?_)
          · skip
            exact absurd hn (Int32.not_lt.mpr c_48)
          · skip
            refine J_aload_n E dX6_sheet_51 rfl 1 rfl ?_
            refine J_bipush E dX6_sheet_52 bp_6 ?_
            refine J_cVi0 E (As := [.int 6]) (c_X6_finds l G b y 6 (by omega)) cl_X6_96 yo_X6_finds dX6_sheet_54 rfl rfl rfl (Nat.le_of_ble_eq_true rfl) (Nat.le_of_ble_eq_true rfl) rfl (Nat.le_of_ble_eq_true rfl) ⟨Nat.zero_le _, Nat.zero_le _⟩ ?_
            exact ret _ _ _ _ ⟨rfl, _, rfl, by intro g h2 h5 h6; by_cases h0 : g = 0 <;> simp [tellX, upG, up3, up3R, up2, h0, h2, h5, h6]⟩ rfl dX6_sheet_57
        · skip
          have n_38 : 1 = 0 := cmp_eq (a := 1) (b := 0) (by omega) (by omega) c_38
          exact absurd n_38 (by decide)
    · skip
      refine J_iload_n E dX6_sheet_10 rfl 2 rfl ?_
      refine J_bipush E dX6_sheet_11 bp_16 ?_
      refine J_icmp_eq E (tgt := 22) dX6_sheet_13 (by decide) (fun c_13 => ?_) (fun c_13 => ?_)
      · skip
        refine J_iconst E dX6_sheet_22 ic_1 ?_
        refine J_goto E (tgt := 27) dX6_sheet_23 (by decide) ?_
        refine J_istore E (lv' := [(4, .int 1), (0, .ref (b 0)), (1, .int s), (2, .int c), (3, .int n)]) dX6_sheet_27 (by decide) rfl ?_
        refine J_iload_n E dX6_sheet_29 rfl 2 rfl ?_
        refine J_cSiN E (As := [.int s]) (c_X6_isSheet l G s ) cl_X6_303 yo_X6_isSheet dX6_sheet_30 rfl (Nat.le_of_ble_eq_true rfl) (Nat.le_of_ble_eq_true rfl) rfl (Nat.le_of_ble_eq_true rfl) ⟨Nat.zero_le _, Nat.zero_le _⟩ ?_
        refine J_if_eq E (tgt := 41) dX6_sheet_33 (by decide) (fun c_33 => ?_) (fun c_33 => ?_)
        · skip
          have c_33 := bI_0 c_33
          exact absurd hs c_33
        · skip
          have c_33 := bI_1 c_33
          refine J_iload E dX6_sheet_36 0 rfl ?_
          refine J_if_ne E (tgt := 47) dX6_sheet_38 (by decide) (fun c_38 => ?_) (fun c_38 => ?_)
          · skip
            have n_38 : ¬ 1 = 0 := cmp_ne (a := 1) (b := 0) (by omega) (by omega) c_38
            refine J_iload_n E dX6_sheet_47 rfl 4 rfl ?_
            refine J_if_ge E (tgt := 58) dX6_sheet_48 (by decide) (fun c_48 => ?_) (fun c_48 => ?_)
            · skip
              exact absurd hn (Int32.not_lt.mpr c_48)
            · skip
              refine J_aload_n E dX6_sheet_51 rfl 1 rfl ?_
              refine J_bipush E dX6_sheet_52 bp_6 ?_
              refine J_cVi0 E (As := [.int 6]) (c_X6_finds l G b y 6 (by omega)) cl_X6_96 yo_X6_finds dX6_sheet_54 rfl rfl rfl (Nat.le_of_ble_eq_true rfl) (Nat.le_of_ble_eq_true rfl) rfl (Nat.le_of_ble_eq_true rfl) ⟨Nat.zero_le _, Nat.zero_le _⟩ ?_
              exact ret _ _ _ _ ⟨rfl, _, rfl, by intro g h2 h5 h6; by_cases h0 : g = 0 <;> simp [tellX, upG, up3, up3R, up2, h0, h2, h5, h6]⟩ rfl dX6_sheet_57
          · skip
            have n_38 : 1 = 0 := cmp_eq (a := 1) (b := 0) (by omega) (by omega) c_38
            exact absurd n_38 (by decide)
      · skip
        refine J_iload_n E dX6_sheet_16 rfl 2 rfl ?_
        refine J_bipush E dX6_sheet_17 bp_32 ?_
        refine J_icmp_ne E (tgt := 26) dX6_sheet_19 (by decide) (fun c_19 => ?_) (fun c_19 => ?_)
        · skip
          exact absurd hbt (fun z => z.elim c_1 (fun z => z.elim c_7 (fun z => z.elim c_13 c_19)))
        · skip
          refine J_iconst E dX6_sheet_22 ic_1 ?_
          refine J_goto E (tgt := 27) dX6_sheet_23 (by decide) ?_
          refine J_istore E (lv' := [(4, .int 1), (0, .ref (b 0)), (1, .int s), (2, .int c), (3, .int n)]) dX6_sheet_27 (by decide) rfl ?_
          refine J_iload_n E dX6_sheet_29 rfl 2 rfl ?_
          refine J_cSiN E (As := [.int s]) (c_X6_isSheet l G s ) cl_X6_303 yo_X6_isSheet dX6_sheet_30 rfl (Nat.le_of_ble_eq_true rfl) (Nat.le_of_ble_eq_true rfl) rfl (Nat.le_of_ble_eq_true rfl) ⟨Nat.zero_le _, Nat.zero_le _⟩ ?_
          refine J_if_eq E (tgt := 41) dX6_sheet_33 (by decide) (fun c_33 => ?_) (fun c_33 => ?_)
          · skip
            have c_33 := bI_0 c_33
            exact absurd hs c_33
          · skip
            have c_33 := bI_1 c_33
            refine J_iload E dX6_sheet_36 0 rfl ?_
            refine J_if_ne E (tgt := 47) dX6_sheet_38 (by decide) (fun c_38 => ?_) (fun c_38 => ?_)
            · skip
              have n_38 : ¬ 1 = 0 := cmp_ne (a := 1) (b := 0) (by omega) (by omega) c_38
              refine J_iload_n E dX6_sheet_47 rfl 4 rfl ?_
              refine J_if_ge E (tgt := 58) dX6_sheet_48 (by decide) (fun c_48 => ?_) (fun c_48 => ?_)
              · skip
                exact absurd hn (Int32.not_lt.mpr c_48)
              · skip
                refine J_aload_n E dX6_sheet_51 rfl 1 rfl ?_
                refine J_bipush E dX6_sheet_52 bp_6 ?_
                refine J_cVi0 E (As := [.int 6]) (c_X6_finds l G b y 6 (by omega)) cl_X6_96 yo_X6_finds dX6_sheet_54 rfl rfl rfl (Nat.le_of_ble_eq_true rfl) (Nat.le_of_ble_eq_true rfl) rfl (Nat.le_of_ble_eq_true rfl) ⟨Nat.zero_le _, Nat.zero_le _⟩ ?_
                exact ret _ _ _ _ ⟨rfl, _, rfl, by intro g h2 h5 h6; by_cases h0 : g = 0 <;> simp [tellX, upG, up3, up3R, up2, h0, h2, h5, h6]⟩ rfl dX6_sheet_57
            · skip
              have n_38 : 1 = 0 := cmp_eq (a := 1) (b := 0) (by omega) (by omega) c_38
              exact absurd n_38 (by decide)

set_option maxHeartbeats 4000000 in
set_option maxRecDepth 20000 in
theorem c_X6_sheet_big (l : Launch) (G : GB) (b : Nat → Nat) (y : Q3) (s c n : Int32) (hs : 0 ≤ s ∧ s ≤ 3) (hbt : (c = 0 ∨ c = 8 ∨ c = 16 ∨ c = 32)) (hn : ¬ n < 0) (hn2 : ¬ n ≤ 40) : CI l yX6_sheet cX6_sheet 6 .int 2 45 G [.ref (b 0), .int s, .int c, .int n] (wM G b y) (fun vR w' => vR = tellR 0 ∧ PubM G b (tellX y 0) w') := by
  refine CI.mk (own := RX6) (by decide) rfl (Nat.le_of_ble_eq_true rfl) ?_
  intro X E ret
  show J X G 6 0 0 (wM G b y) [(0, .ref (b 0)), (1, .int s), (2, .int c), (3, .int n)] 0 []
  refine J_iload_n E dX6_sheet_0 rfl 2 rfl ?_
  refine J_if_eq E (tgt := 22) dX6_sheet_1 (by decide) (fun c_1 => ?_) (fun c_1 => ?_)
  · skip
    refine J_iconst E dX6_sheet_22 ic_1 ?_
    refine J_goto E (tgt := 27) dX6_sheet_23 (by decide) ?_
    refine J_istore E (lv' := [(4, .int 1), (0, .ref (b 0)), (1, .int s), (2, .int c), (3, .int n)]) dX6_sheet_27 (by decide) rfl ?_
    refine J_iload_n E dX6_sheet_29 rfl 2 rfl ?_
    refine J_cSiN E (As := [.int s]) (c_X6_isSheet l G s ) cl_X6_303 yo_X6_isSheet dX6_sheet_30 rfl (Nat.le_of_ble_eq_true rfl) (Nat.le_of_ble_eq_true rfl) rfl (Nat.le_of_ble_eq_true rfl) ⟨Nat.zero_le _, Nat.zero_le _⟩ ?_
    refine J_if_eq E (tgt := 41) dX6_sheet_33 (by decide) (fun c_33 => ?_) (fun c_33 => ?_)
    · skip
      have c_33 := bI_0 c_33
      exact absurd hs c_33
    · skip
      have c_33 := bI_1 c_33
      refine J_iload E dX6_sheet_36 0 rfl ?_
      refine J_if_ne E (tgt := 47) dX6_sheet_38 (by decide) (fun c_38 => ?_) (fun c_38 => ?_)
      · skip
        have n_38 : ¬ 1 = 0 := cmp_ne (a := 1) (b := 0) (by omega) (by omega) c_38
        refine J_iload_n E dX6_sheet_47 rfl 4 rfl ?_
        refine J_if_ge E (tgt := 58) dX6_sheet_48 (by decide) (fun c_48 => ?_) (fun c_48 => ?_)
        · skip
          refine J_iload_n E dX6_sheet_58 rfl 4 rfl ?_
          refine J_bipush E dX6_sheet_59 bp_40 ?_
          refine J_icmp_le E (tgt := 70) dX6_sheet_61 (by decide) (fun c_61 => ?_) (fun c_61 => ?_)
          · skip
            exact absurd c_61 hn2
          · skip
            refine J_aload_n E dX6_sheet_64 rfl 1 rfl ?_
            refine J_iconst E dX6_sheet_65 ic_0 ?_
            refine J_cVi0 E (As := [.int 0]) (c_X6_finds l G b y 0 (by omega)) cl_X6_96 yo_X6_finds dX6_sheet_66 rfl rfl rfl (Nat.le_of_ble_eq_true rfl) (Nat.le_of_ble_eq_true rfl) rfl (Nat.le_of_ble_eq_true rfl) ⟨Nat.zero_le _, Nat.zero_le _⟩ ?_
            exact ret _ _ _ _ ⟨rfl, _, rfl, by intro g h2 h5 h6; by_cases h0 : g = 0 <;> simp [tellX, upG, up3, up3R, up2, h0, h2, h5, h6]⟩ rfl dX6_sheet_69
        · skip
          exact absurd (Int32.not_le.mp c_48) hn
      · skip
        have n_38 : 1 = 0 := cmp_eq (a := 1) (b := 0) (by omega) (by omega) c_38
        exact absurd n_38 (by decide)
  · skip
    refine J_iload_n E dX6_sheet_4 rfl 2 rfl ?_
    refine J_bipush E dX6_sheet_5 bp_8 ?_
    refine J_icmp_eq E (tgt := 22) dX6_sheet_7 (by decide) (fun c_7 => ?_) (fun c_7 => ?_)
    · skip
      refine J_iconst E dX6_sheet_22 ic_1 ?_
      refine J_goto E (tgt := 27) dX6_sheet_23 (by decide) ?_
      refine J_istore E (lv' := [(4, .int 1), (0, .ref (b 0)), (1, .int s), (2, .int c), (3, .int n)]) dX6_sheet_27 (by decide) rfl ?_
      refine J_iload_n E dX6_sheet_29 rfl 2 rfl ?_
      refine J_cSiN E (As := [.int s]) (c_X6_isSheet l G s ) cl_X6_303 yo_X6_isSheet dX6_sheet_30 rfl (Nat.le_of_ble_eq_true rfl) (Nat.le_of_ble_eq_true rfl) rfl (Nat.le_of_ble_eq_true rfl) ⟨Nat.zero_le _, Nat.zero_le _⟩ ?_
      refine J_if_eq E (tgt := 41) dX6_sheet_33 (by decide) (fun c_33 => ?_) (fun c_33 => ?_)
      · skip
        have c_33 := bI_0 c_33
        exact absurd hs c_33
      · skip
        have c_33 := bI_1 c_33
        refine J_iload E dX6_sheet_36 0 rfl ?_
        refine J_if_ne E (tgt := 47) dX6_sheet_38 (by decide) (fun c_38 => ?_) (fun c_38 => ?_)
        · skip
          have n_38 : ¬ 1 = 0 := cmp_ne (a := 1) (b := 0) (by omega) (by omega) c_38
          refine J_iload_n E dX6_sheet_47 rfl 4 rfl ?_
          refine J_if_ge E (tgt := 58) dX6_sheet_48 (by decide) (fun c_48 => ?_) (fun c_48 => ?_)
          · skip
            refine J_iload_n E dX6_sheet_58 rfl 4 rfl ?_
            refine J_bipush E dX6_sheet_59 bp_40 ?_
            refine J_icmp_le E (tgt := 70) dX6_sheet_61 (by decide) (fun c_61 => ?_) (fun c_61 => ?_)
            · skip
              exact absurd c_61 hn2
            · skip
              refine J_aload_n E dX6_sheet_64 rfl 1 rfl ?_
              refine J_iconst E dX6_sheet_65 ic_0 ?_
              refine J_cVi0 E (As := [.int 0]) (c_X6_finds l G b y 0 (by omega)) cl_X6_96 yo_X6_finds dX6_sheet_66 rfl rfl rfl (Nat.le_of_ble_eq_true rfl) (Nat.le_of_ble_eq_true rfl) rfl (Nat.le_of_ble_eq_true rfl) ⟨Nat.zero_le _, Nat.zero_le _⟩ ?_
              exact ret _ _ _ _ ⟨rfl, _, rfl, by intro g h2 h5 h6; by_cases h0 : g = 0 <;> simp [tellX, upG, up3, up3R, up2, h0, h2, h5, h6]⟩ rfl dX6_sheet_69
          · skip
            exact absurd (Int32.not_le.mp c_48) hn
        · skip
          have n_38 : 1 = 0 := cmp_eq (a := 1) (b := 0) (by omega) (by omega) c_38
          exact absurd n_38 (by decide)
    · skip
      refine J_iload_n E dX6_sheet_10 rfl 2 rfl ?_
      refine J_bipush E dX6_sheet_11 bp_16 ?_
      refine J_icmp_eq E (tgt := 22) dX6_sheet_13 (by decide) (fun c_13 => ?_) (fun c_13 => ?_)
      · skip
        refine J_iconst E dX6_sheet_22 ic_1 ?_
        refine J_goto E (tgt := 27) dX6_sheet_23 (by decide) ?_
        refine J_istore E (lv' := [(4, .int 1), (0, .ref (b 0)), (1, .int s), (2, .int c), (3, .int n)]) dX6_sheet_27 (by decide) rfl ?_
        refine J_iload_n E dX6_sheet_29 rfl 2 rfl ?_
        refine J_cSiN E (As := [.int s]) (c_X6_isSheet l G s ) cl_X6_303 yo_X6_isSheet dX6_sheet_30 rfl (Nat.le_of_ble_eq_true rfl) (Nat.le_of_ble_eq_true rfl) rfl (Nat.le_of_ble_eq_true rfl) ⟨Nat.zero_le _, Nat.zero_le _⟩ ?_
        refine J_if_eq E (tgt := 41) dX6_sheet_33 (by decide) (fun c_33 => ?_) (fun c_33 => ?_)
        · skip
          have c_33 := bI_0 c_33
          exact absurd hs c_33
        · skip
          have c_33 := bI_1 c_33
          refine J_iload E dX6_sheet_36 0 rfl ?_
          refine J_if_ne E (tgt := 47) dX6_sheet_38 (by decide) (fun c_38 => ?_) (fun c_38 => ?_)
          · skip
            have n_38 : ¬ 1 = 0 := cmp_ne (a := 1) (b := 0) (by omega) (by omega) c_38
            refine J_iload_n E dX6_sheet_47 rfl 4 rfl ?_
            refine J_if_ge E (tgt := 58) dX6_sheet_48 (by decide) (fun c_48 => ?_) (fun c_48 => ?_)
            · skip
              refine J_iload_n E dX6_sheet_58 rfl 4 rfl ?_
              refine J_bipush E dX6_sheet_59 bp_40 ?_
              refine J_icmp_le E (tgt := 70) dX6_sheet_61 (by decide) (fun c_61 => ?_) (fun c_61 => ?_)
              · skip
                exact absurd c_61 hn2
              · skip
                refine J_aload_n E dX6_sheet_64 rfl 1 rfl ?_
                refine J_iconst E dX6_sheet_65 ic_0 ?_
                refine J_cVi0 E (As := [.int 0]) (c_X6_finds l G b y 0 (by omega)) cl_X6_96 yo_X6_finds dX6_sheet_66 rfl rfl rfl (Nat.le_of_ble_eq_true rfl) (Nat.le_of_ble_eq_true rfl) rfl (Nat.le_of_ble_eq_true rfl) ⟨Nat.zero_le _, Nat.zero_le _⟩ ?_
                exact ret _ _ _ _ ⟨rfl, _, rfl, by intro g h2 h5 h6; by_cases h0 : g = 0 <;> simp [tellX, upG, up3, up3R, up2, h0, h2, h5, h6]⟩ rfl dX6_sheet_69
            · skip
              exact absurd (Int32.not_le.mp c_48) hn
          · skip
            have n_38 : 1 = 0 := cmp_eq (a := 1) (b := 0) (by omega) (by omega) c_38
            exact absurd n_38 (by decide)
      · skip
        refine J_iload_n E dX6_sheet_16 rfl 2 rfl ?_
        refine J_bipush E dX6_sheet_17 bp_32 ?_
        refine J_icmp_ne E (tgt := 26) dX6_sheet_19 (by decide) (fun c_19 => ?_) (fun c_19 => ?_)
        · skip
          exact absurd hbt (fun z => z.elim c_1 (fun z => z.elim c_7 (fun z => z.elim c_13 c_19)))
        · skip
          refine J_iconst E dX6_sheet_22 ic_1 ?_
          refine J_goto E (tgt := 27) dX6_sheet_23 (by decide) ?_
          refine J_istore E (lv' := [(4, .int 1), (0, .ref (b 0)), (1, .int s), (2, .int c), (3, .int n)]) dX6_sheet_27 (by decide) rfl ?_
          refine J_iload_n E dX6_sheet_29 rfl 2 rfl ?_
          refine J_cSiN E (As := [.int s]) (c_X6_isSheet l G s ) cl_X6_303 yo_X6_isSheet dX6_sheet_30 rfl (Nat.le_of_ble_eq_true rfl) (Nat.le_of_ble_eq_true rfl) rfl (Nat.le_of_ble_eq_true rfl) ⟨Nat.zero_le _, Nat.zero_le _⟩ ?_
          refine J_if_eq E (tgt := 41) dX6_sheet_33 (by decide) (fun c_33 => ?_) (fun c_33 => ?_)
          · skip
            have c_33 := bI_0 c_33
            exact absurd hs c_33
          · skip
            have c_33 := bI_1 c_33
            refine J_iload E dX6_sheet_36 0 rfl ?_
            refine J_if_ne E (tgt := 47) dX6_sheet_38 (by decide) (fun c_38 => ?_) (fun c_38 => ?_)
            · skip
              have n_38 : ¬ 1 = 0 := cmp_ne (a := 1) (b := 0) (by omega) (by omega) c_38
              refine J_iload_n E dX6_sheet_47 rfl 4 rfl ?_
              refine J_if_ge E (tgt := 58) dX6_sheet_48 (by decide) (fun c_48 => ?_) (fun c_48 => ?_)
              · skip
                refine J_iload_n E dX6_sheet_58 rfl 4 rfl ?_
                refine J_bipush E dX6_sheet_59 bp_40 ?_
                refine J_icmp_le E (tgt := 70) dX6_sheet_61 (by decide) (fun c_61 => ?_) (fun c_61 => ?_)
                · skip
                  exact absurd c_61 hn2
                · skip
                  refine J_aload_n E dX6_sheet_64 rfl 1 rfl ?_
                  refine J_iconst E dX6_sheet_65 ic_0 ?_
                  refine J_cVi0 E (As := [.int 0]) (c_X6_finds l G b y 0 (by omega)) cl_X6_96 yo_X6_finds dX6_sheet_66 rfl rfl rfl (Nat.le_of_ble_eq_true rfl) (Nat.le_of_ble_eq_true rfl) rfl (Nat.le_of_ble_eq_true rfl) ⟨Nat.zero_le _, Nat.zero_le _⟩ ?_
                  exact ret _ _ _ _ ⟨rfl, _, rfl, by intro g h2 h5 h6; by_cases h0 : g = 0 <;> simp [tellX, upG, up3, up3R, up2, h0, h2, h5, h6]⟩ rfl dX6_sheet_69
              · skip
                exact absurd (Int32.not_le.mp c_48) hn
            · skip
              have n_38 : 1 = 0 := cmp_eq (a := 1) (b := 0) (by omega) (by omega) c_38
              exact absurd n_38 (by decide)

set_option maxHeartbeats 4000000 in
set_option maxRecDepth 20000 in
theorem c_X6_sheet_ok_0 (l : Launch) (G : GB) (b : Nat → Nat) (y : Q3) (c n : Int32) (hbt : (c = 0 ∨ c = 8 ∨ c = 16 ∨ c = 32)) (hn : ¬ n < 0) (hn2 : n ≤ 40) : CI l yX6_sheet cX6_sheet 6 .int 2 45 G [.ref (b 0), .int (nI 0), .int c, .int n] (wM G b y) (fun vR w' => vR = (if c = 0 then 0 else n) ∧ PubM G b (upG y 8 (beginS (y 8) c (if c = 0 then 0 else n))) w') := by
  refine CI.mk (own := RX6) (by decide) rfl (Nat.le_of_ble_eq_true rfl) ?_
  intro X E ret
  show J X G 6 0 0 (wM G b y) [(0, .ref (b 0)), (1, .int (nI 0)), (2, .int c), (3, .int n)] 0 []
  rcases hbt with rfl | rfl | rfl | rfl
  · skip
    refine J_iload_n E dX6_sheet_0 rfl 2 rfl ?_
    refine J_if_eq E (tgt := 22) dX6_sheet_1 (by decide) (fun c_1 => ?_) (fun c_1 => ?_)
    · skip
      have n_1 : 0 = 0 := cmp_eq (a := 0) (b := 0) (by omega) (by omega) c_1
      refine J_iconst E dX6_sheet_22 ic_1 ?_
      refine J_goto E (tgt := 27) dX6_sheet_23 (by decide) ?_
      refine J_istore E (lv' := [(4, .int 1), (0, .ref (b 0)), (1, .int (nI 0)), (2, .int 0), (3, .int n)]) dX6_sheet_27 (by decide) rfl ?_
      refine J_iload_n E dX6_sheet_29 rfl 2 rfl ?_
      refine J_cSiN E (As := [.int (nI 0)]) (c_X6_isSheet l G (nI 0) ) cl_X6_303 yo_X6_isSheet dX6_sheet_30 rfl (Nat.le_of_ble_eq_true rfl) (Nat.le_of_ble_eq_true rfl) rfl (Nat.le_of_ble_eq_true rfl) ⟨Nat.zero_le _, Nat.zero_le _⟩ ?_
      refine J_if_eq E (tgt := 41) dX6_sheet_33 (by decide) (fun c_33 => ?_) (fun c_33 => ?_)
      · skip
        have c_33 := bI_0 c_33
        exact absurd (in3 (by decide)) c_33
      · skip
        have c_33 := bI_1 c_33
        refine J_iload E dX6_sheet_36 0 rfl ?_
        refine J_if_ne E (tgt := 47) dX6_sheet_38 (by decide) (fun c_38 => ?_) (fun c_38 => ?_)
        · skip
          have n_38 : ¬ 1 = 0 := cmp_ne (a := 1) (b := 0) (by omega) (by omega) c_38
          refine J_iload_n E dX6_sheet_47 rfl 4 rfl ?_
          refine J_if_ge E (tgt := 58) dX6_sheet_48 (by decide) (fun c_48 => ?_) (fun c_48 => ?_)
          · skip
            refine J_iload_n E dX6_sheet_58 rfl 4 rfl ?_
            refine J_bipush E dX6_sheet_59 bp_40 ?_
            refine J_icmp_le E (tgt := 70) dX6_sheet_61 (by decide) (fun c_61 => ?_) (fun c_61 => ?_)
            · skip
              refine J_aload_n E dX6_sheet_70 rfl 1 rfl ?_
              refine gM0_X6_31 E dX6_sheet_71 ?_
              refine J_iload_n E dX6_sheet_74 rfl 2 rfl ?_
              refine J_iload_n E dX6_sheet_75 rfl 3 rfl ?_
              refine sMb_0 E  dX6_sheet_76 ?_
              refine J_aload_n E dX6_sheet_77 rfl 1 rfl ?_
              refine gM0_X6_34 E dX6_sheet_78 ?_
              refine J_iload_n E dX6_sheet_81 rfl 2 rfl ?_
              refine J_iload_n E dX6_sheet_82 rfl 3 rfl ?_
              refine J_if_ne E (tgt := 90) dX6_sheet_83 (by decide) (fun c_83 => ?_) (fun c_83 => ?_)
              · skip
                have n_83 : ¬ 0 = 0 := cmp_ne (a := 0) (b := 0) (by omega) (by omega) c_83
                exact absurd n_83 (by decide)
              · skip
                have n_83 : 0 = 0 := cmp_eq (a := 0) (b := 0) (by omega) (by omega) c_83
                refine J_iconst E dX6_sheet_86 ic_0 ?_
                refine J_goto E (tgt := 91) dX6_sheet_87 (by decide) ?_
                refine sMz_0 E  dX6_sheet_91 ?_
                refine J_iconst E dX6_sheet_92 ic_0 ?_
                refine J_istore E (lv' := [(5, .int 0), (4, .int 1), (0, .ref (b 0)), (1, .int (nI 0)), (2, .int 0), (3, .int n)]) dX6_sheet_93 (by decide) rfl ?_
                have lp95 : ∀ (fu : Nat) (i : Nat) (r : Q2), (i ≤ 40) → (r = upR ((up3 (up3 y 8 1 0 0) 8 1 1 0) 8) 0 (fillF (y 8 0) 0 i)) → 40 - i < fu → J X G 6 0 0 (wM G b (upG y 8 r)) [(0, .ref (b 0)), (1, .int (nI 0)), (2, .int 0), (3, .int n), (5, .int (nI i))] 95 [] := by
                  intro fu
                  induction fu with
                  | zero => intro i r hi hr hm; exact absurd hm (Nat.not_lt_zero _)
                  | succ fu ih95 =>
                    intro i r hi hr hm
                    refine J_iload E dX6_sheet_95 4 rfl ?_
                    refine J_bipush E dX6_sheet_97 bp_40 ?_
                    refine J_icmp_ge E (tgt := 121) dX6_sheet_99 (by decide) (fun c_99 => ?_) (fun c_99 => ?_)
                    · skip
                      have n_99 : 40 ≤ i := cmp_le (a := 40) (b := i) (by omega) (by omega) c_99
                      refine J_aload_n E dX6_sheet_121 rfl 0 rfl ?_
                      refine gM0_X6_34 E dX6_sheet_122 ?_
                      refine J_iload_n E dX6_sheet_125 rfl 1 rfl ?_
                      refine lMz_0 E  dX6_sheet_126 ?_
                      refine J_top (x' := r 1 1) upG_s ?_
                      refine J_mr8 (f := fun _ => 0) (fun j hj => by rw [hr, show i = 40 by omega]; exact fillF_lt _ _ 40 j hj) ?_
                      exact ret _ _ _ _ ⟨by rw [hr]; rfl, _, rfl, by rw [hr, upR_upR]; exact ShM.rfl'⟩ rfl dX6_sheet_127
                    · skip
                      have n_99 : ¬ 40 ≤ i := cmp_nle (a := 40) (b := i) (by omega) (by omega) c_99
                      refine J_aload_n E dX6_sheet_102 rfl 0 rfl ?_
                      refine gM0_X6_37 E dX6_sheet_103 ?_
                      refine J_bipush E dX6_sheet_106 bp_40 ?_
                      refine J_iload_n E dX6_sheet_108 rfl 1 rfl ?_
                      refine J_imul E dX6_sheet_109 ?_
                      refine J_top (x' := nI 0) (by decide) ?_
                      refine J_iload E dX6_sheet_110 4 rfl ?_
                      refine J_iadd E dX6_sheet_112 ?_
                      refine J_top (x' := nI (0 + i)) (nI_add 0 i) ?_
                      refine J_iconst E dX6_sheet_113 ic_0 ?_
                      refine sMn_0 E (j := (0 + i)) (i := i) rfl (by omega) dX6_sheet_114 ?_
                      refine J_iinc E (lv' := [(5, .int (nI (i + 1))), (0, .ref (b 0)), (1, .int (nI 0)), (2, .int 0), (3, .int n)]) dX6_sheet_115 4 rfl (nI_inc _) (by decide) rfl ?_
                      refine J_goto E (tgt := 95) dX6_sheet_118 (by decide) ?_
                      refine J_lv [1, 2, 3, 4, 0] rfl ?_
                      refine J_w (ws' := wM G b (upG y 8 ((up3 (upG y 8 r) 8 0 i 0) 8))) (wM_c rfl rfl rfl rfl rfl rfl rfl rfl rfl rfl rfl) ?_
                      exact ih95 (i + 1) ((up3 (upG y 8 r) 8 0 i 0) 8) (by omega) (by rw [hr]; exact up2_upR) (by omega)
                refine J_lv [2, 3, 4, 5, 0] rfl ?_
                refine J_w (ws' := wM G b (upG y 8 ((up3 (up3 y 8 1 0 0) 8 1 1 0) 8))) (wM_c rfl rfl rfl rfl rfl rfl rfl rfl rfl rfl rfl) ?_
                exact lp95 _ 0 ((up3 (up3 y 8 1 0 0) 8 1 1 0) 8) (by omega) (upR_id (r := 0)).symm (Nat.lt_succ_self _)
            · skip
              exact absurd hn2 c_61
          · skip
            exact absurd (Int32.not_le.mp c_48) hn
        · skip
          have n_38 : 1 = 0 := cmp_eq (a := 1) (b := 0) (by omega) (by omega) c_38
          exact absurd n_38 (by decide)
    · skip
      have n_1 : ¬ 0 = 0 := cmp_ne (a := 0) (b := 0) (by omega) (by omega) c_1
      exact absurd n_1 (by decide)
  · skip
    refine J_iload_n E dX6_sheet_0 rfl 2 rfl ?_
    refine J_if_eq E (tgt := 22) dX6_sheet_1 (by decide) (fun c_1 => ?_) (fun c_1 => ?_)
    · skip
      have n_1 : 8 = 0 := cmp_eq (a := 8) (b := 0) (by omega) (by omega) c_1
      exact absurd n_1 (by decide)
    · skip
      have n_1 : ¬ 8 = 0 := cmp_ne (a := 8) (b := 0) (by omega) (by omega) c_1
      refine J_iload_n E dX6_sheet_4 rfl 2 rfl ?_
      refine J_bipush E dX6_sheet_5 bp_8 ?_
      refine J_icmp_eq E (tgt := 22) dX6_sheet_7 (by decide) (fun c_7 => ?_) (fun c_7 => ?_)
      · skip
        have n_7 : 8 = 8 := cmp_eq (a := 8) (b := 8) (by omega) (by omega) c_7
        refine J_iconst E dX6_sheet_22 ic_1 ?_
        refine J_goto E (tgt := 27) dX6_sheet_23 (by decide) ?_
        refine J_istore E (lv' := [(4, .int 1), (0, .ref (b 0)), (1, .int (nI 0)), (2, .int 8), (3, .int n)]) dX6_sheet_27 (by decide) rfl ?_
        refine J_iload_n E dX6_sheet_29 rfl 2 rfl ?_
        refine J_cSiN E (As := [.int (nI 0)]) (c_X6_isSheet l G (nI 0) ) cl_X6_303 yo_X6_isSheet dX6_sheet_30 rfl (Nat.le_of_ble_eq_true rfl) (Nat.le_of_ble_eq_true rfl) rfl (Nat.le_of_ble_eq_true rfl) ⟨Nat.zero_le _, Nat.zero_le _⟩ ?_
        refine J_if_eq E (tgt := 41) dX6_sheet_33 (by decide) (fun c_33 => ?_) (fun c_33 => ?_)
        · skip
          have c_33 := bI_0 c_33
          exact absurd (in3 (by decide)) c_33
        · skip
          have c_33 := bI_1 c_33
          refine J_iload E dX6_sheet_36 0 rfl ?_
          refine J_if_ne E (tgt := 47) dX6_sheet_38 (by decide) (fun c_38 => ?_) (fun c_38 => ?_)
          · skip
            have n_38 : ¬ 1 = 0 := cmp_ne (a := 1) (b := 0) (by omega) (by omega) c_38
            refine J_iload_n E dX6_sheet_47 rfl 4 rfl ?_
            refine J_if_ge E (tgt := 58) dX6_sheet_48 (by decide) (fun c_48 => ?_) (fun c_48 => ?_)
            · skip
              refine J_iload_n E dX6_sheet_58 rfl 4 rfl ?_
              refine J_bipush E dX6_sheet_59 bp_40 ?_
              refine J_icmp_le E (tgt := 70) dX6_sheet_61 (by decide) (fun c_61 => ?_) (fun c_61 => ?_)
              · skip
                refine J_aload_n E dX6_sheet_70 rfl 1 rfl ?_
                refine gM0_X6_31 E dX6_sheet_71 ?_
                refine J_iload_n E dX6_sheet_74 rfl 2 rfl ?_
                refine J_iload_n E dX6_sheet_75 rfl 3 rfl ?_
                refine sMb_0 E  dX6_sheet_76 ?_
                refine J_aload_n E dX6_sheet_77 rfl 1 rfl ?_
                refine gM0_X6_34 E dX6_sheet_78 ?_
                refine J_iload_n E dX6_sheet_81 rfl 2 rfl ?_
                refine J_iload_n E dX6_sheet_82 rfl 3 rfl ?_
                refine J_if_ne E (tgt := 90) dX6_sheet_83 (by decide) (fun c_83 => ?_) (fun c_83 => ?_)
                · skip
                  have n_83 : ¬ 8 = 0 := cmp_ne (a := 8) (b := 0) (by omega) (by omega) c_83
                  refine J_iload_n E dX6_sheet_90 rfl 4 rfl ?_
                  refine sMz_0 E  dX6_sheet_91 ?_
                  refine J_iconst E dX6_sheet_92 ic_0 ?_
                  refine J_istore E (lv' := [(5, .int 0), (4, .int 1), (0, .ref (b 0)), (1, .int (nI 0)), (2, .int 8), (3, .int n)]) dX6_sheet_93 (by decide) rfl ?_
                  have lp95 : ∀ (fu : Nat) (i : Nat) (r : Q2), (i ≤ 40) → (r = upR ((up3 (up3 y 8 1 0 8) 8 1 1 n) 8) 0 (fillF (y 8 0) 0 i)) → 40 - i < fu → J X G 6 0 0 (wM G b (upG y 8 r)) [(0, .ref (b 0)), (1, .int (nI 0)), (2, .int 8), (3, .int n), (5, .int (nI i))] 95 [] := by
                    intro fu
                    induction fu with
                    | zero => intro i r hi hr hm; exact absurd hm (Nat.not_lt_zero _)
                    | succ fu ih95 =>
                      intro i r hi hr hm
                      refine J_iload E dX6_sheet_95 4 rfl ?_
                      refine J_bipush E dX6_sheet_97 bp_40 ?_
                      refine J_icmp_ge E (tgt := 121) dX6_sheet_99 (by decide) (fun c_99 => ?_) (fun c_99 => ?_)
                      · skip
                        have n_99 : 40 ≤ i := cmp_le (a := 40) (b := i) (by omega) (by omega) c_99
                        refine J_aload_n E dX6_sheet_121 rfl 0 rfl ?_
                        refine gM0_X6_34 E dX6_sheet_122 ?_
                        refine J_iload_n E dX6_sheet_125 rfl 1 rfl ?_
                        refine lMz_0 E  dX6_sheet_126 ?_
                        refine J_top (x' := r 1 1) upG_s ?_
                        refine J_mr8 (f := fun _ => 0) (fun j hj => by rw [hr, show i = 40 by omega]; exact fillF_lt _ _ 40 j hj) ?_
                        exact ret _ _ _ _ ⟨by rw [hr]; rfl, _, rfl, by rw [hr, upR_upR]; exact ShM.rfl'⟩ rfl dX6_sheet_127
                      · skip
                        have n_99 : ¬ 40 ≤ i := cmp_nle (a := 40) (b := i) (by omega) (by omega) c_99
                        refine J_aload_n E dX6_sheet_102 rfl 0 rfl ?_
                        refine gM0_X6_37 E dX6_sheet_103 ?_
                        refine J_bipush E dX6_sheet_106 bp_40 ?_
                        refine J_iload_n E dX6_sheet_108 rfl 1 rfl ?_
                        refine J_imul E dX6_sheet_109 ?_
                        refine J_top (x' := nI 0) (by decide) ?_
                        refine J_iload E dX6_sheet_110 4 rfl ?_
                        refine J_iadd E dX6_sheet_112 ?_
                        refine J_top (x' := nI (0 + i)) (nI_add 0 i) ?_
                        refine J_iconst E dX6_sheet_113 ic_0 ?_
                        refine sMn_0 E (j := (0 + i)) (i := i) rfl (by omega) dX6_sheet_114 ?_
                        refine J_iinc E (lv' := [(5, .int (nI (i + 1))), (0, .ref (b 0)), (1, .int (nI 0)), (2, .int 8), (3, .int n)]) dX6_sheet_115 4 rfl (nI_inc _) (by decide) rfl ?_
                        refine J_goto E (tgt := 95) dX6_sheet_118 (by decide) ?_
                        refine J_lv [1, 2, 3, 4, 0] rfl ?_
                        refine J_w (ws' := wM G b (upG y 8 ((up3 (upG y 8 r) 8 0 i 0) 8))) (wM_c rfl rfl rfl rfl rfl rfl rfl rfl rfl rfl rfl) ?_
                        exact ih95 (i + 1) ((up3 (upG y 8 r) 8 0 i 0) 8) (by omega) (by rw [hr]; exact up2_upR) (by omega)
                  refine J_lv [2, 3, 4, 5, 0] rfl ?_
                  refine J_w (ws' := wM G b (upG y 8 ((up3 (up3 y 8 1 0 8) 8 1 1 n) 8))) (wM_c rfl rfl rfl rfl rfl rfl rfl rfl rfl rfl rfl) ?_
                  exact lp95 _ 0 ((up3 (up3 y 8 1 0 8) 8 1 1 n) 8) (by omega) (upR_id (r := 0)).symm (Nat.lt_succ_self _)
                · skip
                  have n_83 : 8 = 0 := cmp_eq (a := 8) (b := 0) (by omega) (by omega) c_83
                  exact absurd n_83 (by decide)
              · skip
                exact absurd hn2 c_61
            · skip
              exact absurd (Int32.not_le.mp c_48) hn
          · skip
            have n_38 : 1 = 0 := cmp_eq (a := 1) (b := 0) (by omega) (by omega) c_38
            exact absurd n_38 (by decide)
      · skip
        have n_7 : ¬ 8 = 8 := cmp_ne (a := 8) (b := 8) (by omega) (by omega) c_7
        exact absurd n_7 (by decide)
  · skip
    refine J_iload_n E dX6_sheet_0 rfl 2 rfl ?_
    refine J_if_eq E (tgt := 22) dX6_sheet_1 (by decide) (fun c_1 => ?_) (fun c_1 => ?_)
    · skip
      have n_1 : 16 = 0 := cmp_eq (a := 16) (b := 0) (by omega) (by omega) c_1
      exact absurd n_1 (by decide)
    · skip
      have n_1 : ¬ 16 = 0 := cmp_ne (a := 16) (b := 0) (by omega) (by omega) c_1
      refine J_iload_n E dX6_sheet_4 rfl 2 rfl ?_
      refine J_bipush E dX6_sheet_5 bp_8 ?_
      refine J_icmp_eq E (tgt := 22) dX6_sheet_7 (by decide) (fun c_7 => ?_) (fun c_7 => ?_)
      · skip
        have n_7 : 16 = 8 := cmp_eq (a := 16) (b := 8) (by omega) (by omega) c_7
        exact absurd n_7 (by decide)
      · skip
        have n_7 : ¬ 16 = 8 := cmp_ne (a := 16) (b := 8) (by omega) (by omega) c_7
        refine J_iload_n E dX6_sheet_10 rfl 2 rfl ?_
        refine J_bipush E dX6_sheet_11 bp_16 ?_
        refine J_icmp_eq E (tgt := 22) dX6_sheet_13 (by decide) (fun c_13 => ?_) (fun c_13 => ?_)
        · skip
          have n_13 : 16 = 16 := cmp_eq (a := 16) (b := 16) (by omega) (by omega) c_13
          refine J_iconst E dX6_sheet_22 ic_1 ?_
          refine J_goto E (tgt := 27) dX6_sheet_23 (by decide) ?_
          refine J_istore E (lv' := [(4, .int 1), (0, .ref (b 0)), (1, .int (nI 0)), (2, .int 16), (3, .int n)]) dX6_sheet_27 (by decide) rfl ?_
          refine J_iload_n E dX6_sheet_29 rfl 2 rfl ?_
          refine J_cSiN E (As := [.int (nI 0)]) (c_X6_isSheet l G (nI 0) ) cl_X6_303 yo_X6_isSheet dX6_sheet_30 rfl (Nat.le_of_ble_eq_true rfl) (Nat.le_of_ble_eq_true rfl) rfl (Nat.le_of_ble_eq_true rfl) ⟨Nat.zero_le _, Nat.zero_le _⟩ ?_
          refine J_if_eq E (tgt := 41) dX6_sheet_33 (by decide) (fun c_33 => ?_) (fun c_33 => ?_)
          · skip
            have c_33 := bI_0 c_33
            exact absurd (in3 (by decide)) c_33
          · skip
            have c_33 := bI_1 c_33
            refine J_iload E dX6_sheet_36 0 rfl ?_
            refine J_if_ne E (tgt := 47) dX6_sheet_38 (by decide) (fun c_38 => ?_) (fun c_38 => ?_)
            · skip
              have n_38 : ¬ 1 = 0 := cmp_ne (a := 1) (b := 0) (by omega) (by omega) c_38
              refine J_iload_n E dX6_sheet_47 rfl 4 rfl ?_
              refine J_if_ge E (tgt := 58) dX6_sheet_48 (by decide) (fun c_48 => ?_) (fun c_48 => ?_)
              · skip
                refine J_iload_n E dX6_sheet_58 rfl 4 rfl ?_
                refine J_bipush E dX6_sheet_59 bp_40 ?_
                refine J_icmp_le E (tgt := 70) dX6_sheet_61 (by decide) (fun c_61 => ?_) (fun c_61 => ?_)
                · skip
                  refine J_aload_n E dX6_sheet_70 rfl 1 rfl ?_
                  refine gM0_X6_31 E dX6_sheet_71 ?_
                  refine J_iload_n E dX6_sheet_74 rfl 2 rfl ?_
                  refine J_iload_n E dX6_sheet_75 rfl 3 rfl ?_
                  refine sMb_0 E  dX6_sheet_76 ?_
                  refine J_aload_n E dX6_sheet_77 rfl 1 rfl ?_
                  refine gM0_X6_34 E dX6_sheet_78 ?_
                  refine J_iload_n E dX6_sheet_81 rfl 2 rfl ?_
                  refine J_iload_n E dX6_sheet_82 rfl 3 rfl ?_
                  refine J_if_ne E (tgt := 90) dX6_sheet_83 (by decide) (fun c_83 => ?_) (fun c_83 => ?_)
                  · skip
                    have n_83 : ¬ 16 = 0 := cmp_ne (a := 16) (b := 0) (by omega) (by omega) c_83
                    refine J_iload_n E dX6_sheet_90 rfl 4 rfl ?_
                    refine sMz_0 E  dX6_sheet_91 ?_
                    refine J_iconst E dX6_sheet_92 ic_0 ?_
                    refine J_istore E (lv' := [(5, .int 0), (4, .int 1), (0, .ref (b 0)), (1, .int (nI 0)), (2, .int 16), (3, .int n)]) dX6_sheet_93 (by decide) rfl ?_
                    have lp95 : ∀ (fu : Nat) (i : Nat) (r : Q2), (i ≤ 40) → (r = upR ((up3 (up3 y 8 1 0 16) 8 1 1 n) 8) 0 (fillF (y 8 0) 0 i)) → 40 - i < fu → J X G 6 0 0 (wM G b (upG y 8 r)) [(0, .ref (b 0)), (1, .int (nI 0)), (2, .int 16), (3, .int n), (5, .int (nI i))] 95 [] := by
                      intro fu
                      induction fu with
                      | zero => intro i r hi hr hm; exact absurd hm (Nat.not_lt_zero _)
                      | succ fu ih95 =>
                        intro i r hi hr hm
                        refine J_iload E dX6_sheet_95 4 rfl ?_
                        refine J_bipush E dX6_sheet_97 bp_40 ?_
                        refine J_icmp_ge E (tgt := 121) dX6_sheet_99 (by decide) (fun c_99 => ?_) (fun c_99 => ?_)
                        · skip
                          have n_99 : 40 ≤ i := cmp_le (a := 40) (b := i) (by omega) (by omega) c_99
                          refine J_aload_n E dX6_sheet_121 rfl 0 rfl ?_
                          refine gM0_X6_34 E dX6_sheet_122 ?_
                          refine J_iload_n E dX6_sheet_125 rfl 1 rfl ?_
                          refine lMz_0 E  dX6_sheet_126 ?_
                          refine J_top (x' := r 1 1) upG_s ?_
                          refine J_mr8 (f := fun _ => 0) (fun j hj => by rw [hr, show i = 40 by omega]; exact fillF_lt _ _ 40 j hj) ?_
                          exact ret _ _ _ _ ⟨by rw [hr]; rfl, _, rfl, by rw [hr, upR_upR]; exact ShM.rfl'⟩ rfl dX6_sheet_127
                        · skip
                          have n_99 : ¬ 40 ≤ i := cmp_nle (a := 40) (b := i) (by omega) (by omega) c_99
                          refine J_aload_n E dX6_sheet_102 rfl 0 rfl ?_
                          refine gM0_X6_37 E dX6_sheet_103 ?_
                          refine J_bipush E dX6_sheet_106 bp_40 ?_
                          refine J_iload_n E dX6_sheet_108 rfl 1 rfl ?_
                          refine J_imul E dX6_sheet_109 ?_
                          refine J_top (x' := nI 0) (by decide) ?_
                          refine J_iload E dX6_sheet_110 4 rfl ?_
                          refine J_iadd E dX6_sheet_112 ?_
                          refine J_top (x' := nI (0 + i)) (nI_add 0 i) ?_
                          refine J_iconst E dX6_sheet_113 ic_0 ?_
                          refine sMn_0 E (j := (0 + i)) (i := i) rfl (by omega) dX6_sheet_114 ?_
                          refine J_iinc E (lv' := [(5, .int (nI (i + 1))), (0, .ref (b 0)), (1, .int (nI 0)), (2, .int 16), (3, .int n)]) dX6_sheet_115 4 rfl (nI_inc _) (by decide) rfl ?_
                          refine J_goto E (tgt := 95) dX6_sheet_118 (by decide) ?_
                          refine J_lv [1, 2, 3, 4, 0] rfl ?_
                          refine J_w (ws' := wM G b (upG y 8 ((up3 (upG y 8 r) 8 0 i 0) 8))) (wM_c rfl rfl rfl rfl rfl rfl rfl rfl rfl rfl rfl) ?_
                          exact ih95 (i + 1) ((up3 (upG y 8 r) 8 0 i 0) 8) (by omega) (by rw [hr]; exact up2_upR) (by omega)
                    refine J_lv [2, 3, 4, 5, 0] rfl ?_
                    refine J_w (ws' := wM G b (upG y 8 ((up3 (up3 y 8 1 0 16) 8 1 1 n) 8))) (wM_c rfl rfl rfl rfl rfl rfl rfl rfl rfl rfl rfl) ?_
                    exact lp95 _ 0 ((up3 (up3 y 8 1 0 16) 8 1 1 n) 8) (by omega) (upR_id (r := 0)).symm (Nat.lt_succ_self _)
                  · skip
                    have n_83 : 16 = 0 := cmp_eq (a := 16) (b := 0) (by omega) (by omega) c_83
                    exact absurd n_83 (by decide)
                · skip
                  exact absurd hn2 c_61
              · skip
                exact absurd (Int32.not_le.mp c_48) hn
            · skip
              have n_38 : 1 = 0 := cmp_eq (a := 1) (b := 0) (by omega) (by omega) c_38
              exact absurd n_38 (by decide)
        · skip
          have n_13 : ¬ 16 = 16 := cmp_ne (a := 16) (b := 16) (by omega) (by omega) c_13
          exact absurd n_13 (by decide)
  · skip
    refine J_iload_n E dX6_sheet_0 rfl 2 rfl ?_
    refine J_if_eq E (tgt := 22) dX6_sheet_1 (by decide) (fun c_1 => ?_) (fun c_1 => ?_)
    · skip
      have n_1 : 32 = 0 := cmp_eq (a := 32) (b := 0) (by omega) (by omega) c_1
      exact absurd n_1 (by decide)
    · skip
      have n_1 : ¬ 32 = 0 := cmp_ne (a := 32) (b := 0) (by omega) (by omega) c_1
      refine J_iload_n E dX6_sheet_4 rfl 2 rfl ?_
      refine J_bipush E dX6_sheet_5 bp_8 ?_
      refine J_icmp_eq E (tgt := 22) dX6_sheet_7 (by decide) (fun c_7 => ?_) (fun c_7 => ?_)
      · skip
        have n_7 : 32 = 8 := cmp_eq (a := 32) (b := 8) (by omega) (by omega) c_7
        exact absurd n_7 (by decide)
      · skip
        have n_7 : ¬ 32 = 8 := cmp_ne (a := 32) (b := 8) (by omega) (by omega) c_7
        refine J_iload_n E dX6_sheet_10 rfl 2 rfl ?_
        refine J_bipush E dX6_sheet_11 bp_16 ?_
        refine J_icmp_eq E (tgt := 22) dX6_sheet_13 (by decide) (fun c_13 => ?_) (fun c_13 => ?_)
        · skip
          have n_13 : 32 = 16 := cmp_eq (a := 32) (b := 16) (by omega) (by omega) c_13
          exact absurd n_13 (by decide)
        · skip
          have n_13 : ¬ 32 = 16 := cmp_ne (a := 32) (b := 16) (by omega) (by omega) c_13
          refine J_iload_n E dX6_sheet_16 rfl 2 rfl ?_
          refine J_bipush E dX6_sheet_17 bp_32 ?_
          refine J_icmp_ne E (tgt := 26) dX6_sheet_19 (by decide) (fun c_19 => ?_) (fun c_19 => ?_)
          · skip
            have n_19 : ¬ 32 = 32 := cmp_ne (a := 32) (b := 32) (by omega) (by omega) c_19
            exact absurd n_19 (by decide)
          · skip
            have n_19 : 32 = 32 := cmp_eq (a := 32) (b := 32) (by omega) (by omega) c_19
            refine J_iconst E dX6_sheet_22 ic_1 ?_
            refine J_goto E (tgt := 27) dX6_sheet_23 (by decide) ?_
            refine J_istore E (lv' := [(4, .int 1), (0, .ref (b 0)), (1, .int (nI 0)), (2, .int 32), (3, .int n)]) dX6_sheet_27 (by decide) rfl ?_
            refine J_iload_n E dX6_sheet_29 rfl 2 rfl ?_
            refine J_cSiN E (As := [.int (nI 0)]) (c_X6_isSheet l G (nI 0) ) cl_X6_303 yo_X6_isSheet dX6_sheet_30 rfl (Nat.le_of_ble_eq_true rfl) (Nat.le_of_ble_eq_true rfl) rfl (Nat.le_of_ble_eq_true rfl) ⟨Nat.zero_le _, Nat.zero_le _⟩ ?_
            refine J_if_eq E (tgt := 41) dX6_sheet_33 (by decide) (fun c_33 => ?_) (fun c_33 => ?_)
            · skip
              have c_33 := bI_0 c_33
              exact absurd (in3 (by decide)) c_33
            · skip
              have c_33 := bI_1 c_33
              refine J_iload E dX6_sheet_36 0 rfl ?_
              refine J_if_ne E (tgt := 47) dX6_sheet_38 (by decide) (fun c_38 => ?_) (fun c_38 => ?_)
              · skip
                have n_38 : ¬ 1 = 0 := cmp_ne (a := 1) (b := 0) (by omega) (by omega) c_38
                refine J_iload_n E dX6_sheet_47 rfl 4 rfl ?_
                refine J_if_ge E (tgt := 58) dX6_sheet_48 (by decide) (fun c_48 => ?_) (fun c_48 => ?_)
                · skip
                  refine J_iload_n E dX6_sheet_58 rfl 4 rfl ?_
                  refine J_bipush E dX6_sheet_59 bp_40 ?_
                  refine J_icmp_le E (tgt := 70) dX6_sheet_61 (by decide) (fun c_61 => ?_) (fun c_61 => ?_)
                  · skip
                    refine J_aload_n E dX6_sheet_70 rfl 1 rfl ?_
                    refine gM0_X6_31 E dX6_sheet_71 ?_
                    refine J_iload_n E dX6_sheet_74 rfl 2 rfl ?_
                    refine J_iload_n E dX6_sheet_75 rfl 3 rfl ?_
                    refine sMb_0 E  dX6_sheet_76 ?_
                    refine J_aload_n E dX6_sheet_77 rfl 1 rfl ?_
                    refine gM0_X6_34 E dX6_sheet_78 ?_
                    refine J_iload_n E dX6_sheet_81 rfl 2 rfl ?_
                    refine J_iload_n E dX6_sheet_82 rfl 3 rfl ?_
                    refine J_if_ne E (tgt := 90) dX6_sheet_83 (by decide) (fun c_83 => ?_) (fun c_83 => ?_)
                    · skip
                      have n_83 : ¬ 32 = 0 := cmp_ne (a := 32) (b := 0) (by omega) (by omega) c_83
                      refine J_iload_n E dX6_sheet_90 rfl 4 rfl ?_
                      refine sMz_0 E  dX6_sheet_91 ?_
                      refine J_iconst E dX6_sheet_92 ic_0 ?_
                      refine J_istore E (lv' := [(5, .int 0), (4, .int 1), (0, .ref (b 0)), (1, .int (nI 0)), (2, .int 32), (3, .int n)]) dX6_sheet_93 (by decide) rfl ?_
                      have lp95 : ∀ (fu : Nat) (i : Nat) (r : Q2), (i ≤ 40) → (r = upR ((up3 (up3 y 8 1 0 32) 8 1 1 n) 8) 0 (fillF (y 8 0) 0 i)) → 40 - i < fu → J X G 6 0 0 (wM G b (upG y 8 r)) [(0, .ref (b 0)), (1, .int (nI 0)), (2, .int 32), (3, .int n), (5, .int (nI i))] 95 [] := by
                        intro fu
                        induction fu with
                        | zero => intro i r hi hr hm; exact absurd hm (Nat.not_lt_zero _)
                        | succ fu ih95 =>
                          intro i r hi hr hm
                          refine J_iload E dX6_sheet_95 4 rfl ?_
                          refine J_bipush E dX6_sheet_97 bp_40 ?_
                          refine J_icmp_ge E (tgt := 121) dX6_sheet_99 (by decide) (fun c_99 => ?_) (fun c_99 => ?_)
                          · skip
                            have n_99 : 40 ≤ i := cmp_le (a := 40) (b := i) (by omega) (by omega) c_99
                            refine J_aload_n E dX6_sheet_121 rfl 0 rfl ?_
                            refine gM0_X6_34 E dX6_sheet_122 ?_
                            refine J_iload_n E dX6_sheet_125 rfl 1 rfl ?_
                            refine lMz_0 E  dX6_sheet_126 ?_
                            refine J_top (x' := r 1 1) upG_s ?_
                            refine J_mr8 (f := fun _ => 0) (fun j hj => by rw [hr, show i = 40 by omega]; exact fillF_lt _ _ 40 j hj) ?_
                            exact ret _ _ _ _ ⟨by rw [hr]; rfl, _, rfl, by rw [hr, upR_upR]; exact ShM.rfl'⟩ rfl dX6_sheet_127
                          · skip
                            have n_99 : ¬ 40 ≤ i := cmp_nle (a := 40) (b := i) (by omega) (by omega) c_99
                            refine J_aload_n E dX6_sheet_102 rfl 0 rfl ?_
                            refine gM0_X6_37 E dX6_sheet_103 ?_
                            refine J_bipush E dX6_sheet_106 bp_40 ?_
                            refine J_iload_n E dX6_sheet_108 rfl 1 rfl ?_
                            refine J_imul E dX6_sheet_109 ?_
                            refine J_top (x' := nI 0) (by decide) ?_
                            refine J_iload E dX6_sheet_110 4 rfl ?_
                            refine J_iadd E dX6_sheet_112 ?_
                            refine J_top (x' := nI (0 + i)) (nI_add 0 i) ?_
                            refine J_iconst E dX6_sheet_113 ic_0 ?_
                            refine sMn_0 E (j := (0 + i)) (i := i) rfl (by omega) dX6_sheet_114 ?_
                            refine J_iinc E (lv' := [(5, .int (nI (i + 1))), (0, .ref (b 0)), (1, .int (nI 0)), (2, .int 32), (3, .int n)]) dX6_sheet_115 4 rfl (nI_inc _) (by decide) rfl ?_
                            refine J_goto E (tgt := 95) dX6_sheet_118 (by decide) ?_
                            refine J_lv [1, 2, 3, 4, 0] rfl ?_
                            refine J_w (ws' := wM G b (upG y 8 ((up3 (upG y 8 r) 8 0 i 0) 8))) (wM_c rfl rfl rfl rfl rfl rfl rfl rfl rfl rfl rfl) ?_
                            exact ih95 (i + 1) ((up3 (upG y 8 r) 8 0 i 0) 8) (by omega) (by rw [hr]; exact up2_upR) (by omega)
                      refine J_lv [2, 3, 4, 5, 0] rfl ?_
                      refine J_w (ws' := wM G b (upG y 8 ((up3 (up3 y 8 1 0 32) 8 1 1 n) 8))) (wM_c rfl rfl rfl rfl rfl rfl rfl rfl rfl rfl rfl) ?_
                      exact lp95 _ 0 ((up3 (up3 y 8 1 0 32) 8 1 1 n) 8) (by omega) (upR_id (r := 0)).symm (Nat.lt_succ_self _)
                    · skip
                      have n_83 : 32 = 0 := cmp_eq (a := 32) (b := 0) (by omega) (by omega) c_83
                      exact absurd n_83 (by decide)
                  · skip
                    exact absurd hn2 c_61
                · skip
                  exact absurd (Int32.not_le.mp c_48) hn
              · skip
                have n_38 : 1 = 0 := cmp_eq (a := 1) (b := 0) (by omega) (by omega) c_38
                exact absurd n_38 (by decide)

set_option maxHeartbeats 4000000 in
set_option maxRecDepth 20000 in
theorem c_X6_sheet_ok_1 (l : Launch) (G : GB) (b : Nat → Nat) (y : Q3) (c n : Int32) (hbt : (c = 0 ∨ c = 8 ∨ c = 16 ∨ c = 32)) (hn : ¬ n < 0) (hn2 : n ≤ 40) : CI l yX6_sheet cX6_sheet 6 .int 2 45 G [.ref (b 0), .int (nI 1), .int c, .int n] (wM G b y) (fun vR w' => vR = (if c = 0 then 0 else n) ∧ PubM G b (upG y 9 (beginS (y 9) c (if c = 0 then 0 else n))) w') := by
  refine CI.mk (own := RX6) (by decide) rfl (Nat.le_of_ble_eq_true rfl) ?_
  intro X E ret
  show J X G 6 0 0 (wM G b y) [(0, .ref (b 0)), (1, .int (nI 1)), (2, .int c), (3, .int n)] 0 []
  rcases hbt with rfl | rfl | rfl | rfl
  · skip
    refine J_iload_n E dX6_sheet_0 rfl 2 rfl ?_
    refine J_if_eq E (tgt := 22) dX6_sheet_1 (by decide) (fun c_1 => ?_) (fun c_1 => ?_)
    · skip
      have n_1 : 0 = 0 := cmp_eq (a := 0) (b := 0) (by omega) (by omega) c_1
      refine J_iconst E dX6_sheet_22 ic_1 ?_
      refine J_goto E (tgt := 27) dX6_sheet_23 (by decide) ?_
      refine J_istore E (lv' := [(4, .int 1), (0, .ref (b 0)), (1, .int (nI 1)), (2, .int 0), (3, .int n)]) dX6_sheet_27 (by decide) rfl ?_
      refine J_iload_n E dX6_sheet_29 rfl 2 rfl ?_
      refine J_cSiN E (As := [.int (nI 1)]) (c_X6_isSheet l G (nI 1) ) cl_X6_303 yo_X6_isSheet dX6_sheet_30 rfl (Nat.le_of_ble_eq_true rfl) (Nat.le_of_ble_eq_true rfl) rfl (Nat.le_of_ble_eq_true rfl) ⟨Nat.zero_le _, Nat.zero_le _⟩ ?_
      refine J_if_eq E (tgt := 41) dX6_sheet_33 (by decide) (fun c_33 => ?_) (fun c_33 => ?_)
      · skip
        have c_33 := bI_0 c_33
        exact absurd (in3 (by decide)) c_33
      · skip
        have c_33 := bI_1 c_33
        refine J_iload E dX6_sheet_36 0 rfl ?_
        refine J_if_ne E (tgt := 47) dX6_sheet_38 (by decide) (fun c_38 => ?_) (fun c_38 => ?_)
        · skip
          have n_38 : ¬ 1 = 0 := cmp_ne (a := 1) (b := 0) (by omega) (by omega) c_38
          refine J_iload_n E dX6_sheet_47 rfl 4 rfl ?_
          refine J_if_ge E (tgt := 58) dX6_sheet_48 (by decide) (fun c_48 => ?_) (fun c_48 => ?_)
          · skip
            refine J_iload_n E dX6_sheet_58 rfl 4 rfl ?_
            refine J_bipush E dX6_sheet_59 bp_40 ?_
            refine J_icmp_le E (tgt := 70) dX6_sheet_61 (by decide) (fun c_61 => ?_) (fun c_61 => ?_)
            · skip
              refine J_aload_n E dX6_sheet_70 rfl 1 rfl ?_
              refine gM0_X6_31 E dX6_sheet_71 ?_
              refine J_iload_n E dX6_sheet_74 rfl 2 rfl ?_
              refine J_iload_n E dX6_sheet_75 rfl 3 rfl ?_
              refine sMb_1 E  dX6_sheet_76 ?_
              refine J_aload_n E dX6_sheet_77 rfl 1 rfl ?_
              refine gM0_X6_34 E dX6_sheet_78 ?_
              refine J_iload_n E dX6_sheet_81 rfl 2 rfl ?_
              refine J_iload_n E dX6_sheet_82 rfl 3 rfl ?_
              refine J_if_ne E (tgt := 90) dX6_sheet_83 (by decide) (fun c_83 => ?_) (fun c_83 => ?_)
              · skip
                have n_83 : ¬ 0 = 0 := cmp_ne (a := 0) (b := 0) (by omega) (by omega) c_83
                exact absurd n_83 (by decide)
              · skip
                have n_83 : 0 = 0 := cmp_eq (a := 0) (b := 0) (by omega) (by omega) c_83
                refine J_iconst E dX6_sheet_86 ic_0 ?_
                refine J_goto E (tgt := 91) dX6_sheet_87 (by decide) ?_
                refine sMz_1 E  dX6_sheet_91 ?_
                refine J_iconst E dX6_sheet_92 ic_0 ?_
                refine J_istore E (lv' := [(5, .int 0), (4, .int 1), (0, .ref (b 0)), (1, .int (nI 1)), (2, .int 0), (3, .int n)]) dX6_sheet_93 (by decide) rfl ?_
                have lp95 : ∀ (fu : Nat) (i : Nat) (r : Q2), (i ≤ 40) → (r = upR ((up3 (up3 y 9 1 0 0) 9 1 1 0) 9) 0 (fillF (y 9 0) 0 i)) → 40 - i < fu → J X G 6 0 0 (wM G b (upG y 9 r)) [(0, .ref (b 0)), (1, .int (nI 1)), (2, .int 0), (3, .int n), (5, .int (nI i))] 95 [] := by
                  intro fu
                  induction fu with
                  | zero => intro i r hi hr hm; exact absurd hm (Nat.not_lt_zero _)
                  | succ fu ih95 =>
                    intro i r hi hr hm
                    refine J_iload E dX6_sheet_95 4 rfl ?_
                    refine J_bipush E dX6_sheet_97 bp_40 ?_
                    refine J_icmp_ge E (tgt := 121) dX6_sheet_99 (by decide) (fun c_99 => ?_) (fun c_99 => ?_)
                    · skip
                      have n_99 : 40 ≤ i := cmp_le (a := 40) (b := i) (by omega) (by omega) c_99
                      refine J_aload_n E dX6_sheet_121 rfl 0 rfl ?_
                      refine gM0_X6_34 E dX6_sheet_122 ?_
                      refine J_iload_n E dX6_sheet_125 rfl 1 rfl ?_
                      refine lMz_1 E  dX6_sheet_126 ?_
                      refine J_top (x' := r 1 1) upG_s ?_
                      refine J_mr9 (f := fun _ => 0) (fun j hj => by rw [hr, show i = 40 by omega]; exact fillF_lt _ _ 40 j hj) ?_
                      exact ret _ _ _ _ ⟨by rw [hr]; rfl, _, rfl, by rw [hr, upR_upR]; exact ShM.rfl'⟩ rfl dX6_sheet_127
                    · skip
                      have n_99 : ¬ 40 ≤ i := cmp_nle (a := 40) (b := i) (by omega) (by omega) c_99
                      refine J_aload_n E dX6_sheet_102 rfl 0 rfl ?_
                      refine gM0_X6_37 E dX6_sheet_103 ?_
                      refine J_bipush E dX6_sheet_106 bp_40 ?_
                      refine J_iload_n E dX6_sheet_108 rfl 1 rfl ?_
                      refine J_imul E dX6_sheet_109 ?_
                      refine J_top (x' := nI 40) (by decide) ?_
                      refine J_iload E dX6_sheet_110 4 rfl ?_
                      refine J_iadd E dX6_sheet_112 ?_
                      refine J_top (x' := nI (40 + i)) (nI_add 40 i) ?_
                      refine J_iconst E dX6_sheet_113 ic_0 ?_
                      refine sMn_1 E (j := (40 + i)) (i := i) rfl (by omega) dX6_sheet_114 ?_
                      refine J_iinc E (lv' := [(5, .int (nI (i + 1))), (0, .ref (b 0)), (1, .int (nI 1)), (2, .int 0), (3, .int n)]) dX6_sheet_115 4 rfl (nI_inc _) (by decide) rfl ?_
                      refine J_goto E (tgt := 95) dX6_sheet_118 (by decide) ?_
                      refine J_lv [1, 2, 3, 4, 0] rfl ?_
                      refine J_w (ws' := wM G b (upG y 9 ((up3 (upG y 9 r) 9 0 i 0) 9))) (wM_c rfl rfl rfl rfl rfl rfl rfl rfl rfl rfl rfl) ?_
                      exact ih95 (i + 1) ((up3 (upG y 9 r) 9 0 i 0) 9) (by omega) (by rw [hr]; exact up2_upR) (by omega)
                refine J_lv [2, 3, 4, 5, 0] rfl ?_
                refine J_w (ws' := wM G b (upG y 9 ((up3 (up3 y 9 1 0 0) 9 1 1 0) 9))) (wM_c rfl rfl rfl rfl rfl rfl rfl rfl rfl rfl rfl) ?_
                exact lp95 _ 0 ((up3 (up3 y 9 1 0 0) 9 1 1 0) 9) (by omega) (upR_id (r := 0)).symm (Nat.lt_succ_self _)
            · skip
              exact absurd hn2 c_61
          · skip
            exact absurd (Int32.not_le.mp c_48) hn
        · skip
          have n_38 : 1 = 0 := cmp_eq (a := 1) (b := 0) (by omega) (by omega) c_38
          exact absurd n_38 (by decide)
    · skip
      have n_1 : ¬ 0 = 0 := cmp_ne (a := 0) (b := 0) (by omega) (by omega) c_1
      exact absurd n_1 (by decide)
  · skip
    refine J_iload_n E dX6_sheet_0 rfl 2 rfl ?_
    refine J_if_eq E (tgt := 22) dX6_sheet_1 (by decide) (fun c_1 => ?_) (fun c_1 => ?_)
    · skip
      have n_1 : 8 = 0 := cmp_eq (a := 8) (b := 0) (by omega) (by omega) c_1
      exact absurd n_1 (by decide)
    · skip
      have n_1 : ¬ 8 = 0 := cmp_ne (a := 8) (b := 0) (by omega) (by omega) c_1
      refine J_iload_n E dX6_sheet_4 rfl 2 rfl ?_
      refine J_bipush E dX6_sheet_5 bp_8 ?_
      refine J_icmp_eq E (tgt := 22) dX6_sheet_7 (by decide) (fun c_7 => ?_) (fun c_7 => ?_)
      · skip
        have n_7 : 8 = 8 := cmp_eq (a := 8) (b := 8) (by omega) (by omega) c_7
        refine J_iconst E dX6_sheet_22 ic_1 ?_
        refine J_goto E (tgt := 27) dX6_sheet_23 (by decide) ?_
        refine J_istore E (lv' := [(4, .int 1), (0, .ref (b 0)), (1, .int (nI 1)), (2, .int 8), (3, .int n)]) dX6_sheet_27 (by decide) rfl ?_
        refine J_iload_n E dX6_sheet_29 rfl 2 rfl ?_
        refine J_cSiN E (As := [.int (nI 1)]) (c_X6_isSheet l G (nI 1) ) cl_X6_303 yo_X6_isSheet dX6_sheet_30 rfl (Nat.le_of_ble_eq_true rfl) (Nat.le_of_ble_eq_true rfl) rfl (Nat.le_of_ble_eq_true rfl) ⟨Nat.zero_le _, Nat.zero_le _⟩ ?_
        refine J_if_eq E (tgt := 41) dX6_sheet_33 (by decide) (fun c_33 => ?_) (fun c_33 => ?_)
        · skip
          have c_33 := bI_0 c_33
          exact absurd (in3 (by decide)) c_33
        · skip
          have c_33 := bI_1 c_33
          refine J_iload E dX6_sheet_36 0 rfl ?_
          refine J_if_ne E (tgt := 47) dX6_sheet_38 (by decide) (fun c_38 => ?_) (fun c_38 => ?_)
          · skip
            have n_38 : ¬ 1 = 0 := cmp_ne (a := 1) (b := 0) (by omega) (by omega) c_38
            refine J_iload_n E dX6_sheet_47 rfl 4 rfl ?_
            refine J_if_ge E (tgt := 58) dX6_sheet_48 (by decide) (fun c_48 => ?_) (fun c_48 => ?_)
            · skip
              refine J_iload_n E dX6_sheet_58 rfl 4 rfl ?_
              refine J_bipush E dX6_sheet_59 bp_40 ?_
              refine J_icmp_le E (tgt := 70) dX6_sheet_61 (by decide) (fun c_61 => ?_) (fun c_61 => ?_)
              · skip
                refine J_aload_n E dX6_sheet_70 rfl 1 rfl ?_
                refine gM0_X6_31 E dX6_sheet_71 ?_
                refine J_iload_n E dX6_sheet_74 rfl 2 rfl ?_
                refine J_iload_n E dX6_sheet_75 rfl 3 rfl ?_
                refine sMb_1 E  dX6_sheet_76 ?_
                refine J_aload_n E dX6_sheet_77 rfl 1 rfl ?_
                refine gM0_X6_34 E dX6_sheet_78 ?_
                refine J_iload_n E dX6_sheet_81 rfl 2 rfl ?_
                refine J_iload_n E dX6_sheet_82 rfl 3 rfl ?_
                refine J_if_ne E (tgt := 90) dX6_sheet_83 (by decide) (fun c_83 => ?_) (fun c_83 => ?_)
                · skip
                  have n_83 : ¬ 8 = 0 := cmp_ne (a := 8) (b := 0) (by omega) (by omega) c_83
                  refine J_iload_n E dX6_sheet_90 rfl 4 rfl ?_
                  refine sMz_1 E  dX6_sheet_91 ?_
                  refine J_iconst E dX6_sheet_92 ic_0 ?_
                  refine J_istore E (lv' := [(5, .int 0), (4, .int 1), (0, .ref (b 0)), (1, .int (nI 1)), (2, .int 8), (3, .int n)]) dX6_sheet_93 (by decide) rfl ?_
                  have lp95 : ∀ (fu : Nat) (i : Nat) (r : Q2), (i ≤ 40) → (r = upR ((up3 (up3 y 9 1 0 8) 9 1 1 n) 9) 0 (fillF (y 9 0) 0 i)) → 40 - i < fu → J X G 6 0 0 (wM G b (upG y 9 r)) [(0, .ref (b 0)), (1, .int (nI 1)), (2, .int 8), (3, .int n), (5, .int (nI i))] 95 [] := by
                    intro fu
                    induction fu with
                    | zero => intro i r hi hr hm; exact absurd hm (Nat.not_lt_zero _)
                    | succ fu ih95 =>
                      intro i r hi hr hm
                      refine J_iload E dX6_sheet_95 4 rfl ?_
                      refine J_bipush E dX6_sheet_97 bp_40 ?_
                      refine J_icmp_ge E (tgt := 121) dX6_sheet_99 (by decide) (fun c_99 => ?_) (fun c_99 => ?_)
                      · skip
                        have n_99 : 40 ≤ i := cmp_le (a := 40) (b := i) (by omega) (by omega) c_99
                        refine J_aload_n E dX6_sheet_121 rfl 0 rfl ?_
                        refine gM0_X6_34 E dX6_sheet_122 ?_
                        refine J_iload_n E dX6_sheet_125 rfl 1 rfl ?_
                        refine lMz_1 E  dX6_sheet_126 ?_
                        refine J_top (x' := r 1 1) upG_s ?_
                        refine J_mr9 (f := fun _ => 0) (fun j hj => by rw [hr, show i = 40 by omega]; exact fillF_lt _ _ 40 j hj) ?_
                        exact ret _ _ _ _ ⟨by rw [hr]; rfl, _, rfl, by rw [hr, upR_upR]; exact ShM.rfl'⟩ rfl dX6_sheet_127
                      · skip
                        have n_99 : ¬ 40 ≤ i := cmp_nle (a := 40) (b := i) (by omega) (by omega) c_99
                        refine J_aload_n E dX6_sheet_102 rfl 0 rfl ?_
                        refine gM0_X6_37 E dX6_sheet_103 ?_
                        refine J_bipush E dX6_sheet_106 bp_40 ?_
                        refine J_iload_n E dX6_sheet_108 rfl 1 rfl ?_
                        refine J_imul E dX6_sheet_109 ?_
                        refine J_top (x' := nI 40) (by decide) ?_
                        refine J_iload E dX6_sheet_110 4 rfl ?_
                        refine J_iadd E dX6_sheet_112 ?_
                        refine J_top (x' := nI (40 + i)) (nI_add 40 i) ?_
                        refine J_iconst E dX6_sheet_113 ic_0 ?_
                        refine sMn_1 E (j := (40 + i)) (i := i) rfl (by omega) dX6_sheet_114 ?_
                        refine J_iinc E (lv' := [(5, .int (nI (i + 1))), (0, .ref (b 0)), (1, .int (nI 1)), (2, .int 8), (3, .int n)]) dX6_sheet_115 4 rfl (nI_inc _) (by decide) rfl ?_
                        refine J_goto E (tgt := 95) dX6_sheet_118 (by decide) ?_
                        refine J_lv [1, 2, 3, 4, 0] rfl ?_
                        refine J_w (ws' := wM G b (upG y 9 ((up3 (upG y 9 r) 9 0 i 0) 9))) (wM_c rfl rfl rfl rfl rfl rfl rfl rfl rfl rfl rfl) ?_
                        exact ih95 (i + 1) ((up3 (upG y 9 r) 9 0 i 0) 9) (by omega) (by rw [hr]; exact up2_upR) (by omega)
                  refine J_lv [2, 3, 4, 5, 0] rfl ?_
                  refine J_w (ws' := wM G b (upG y 9 ((up3 (up3 y 9 1 0 8) 9 1 1 n) 9))) (wM_c rfl rfl rfl rfl rfl rfl rfl rfl rfl rfl rfl) ?_
                  exact lp95 _ 0 ((up3 (up3 y 9 1 0 8) 9 1 1 n) 9) (by omega) (upR_id (r := 0)).symm (Nat.lt_succ_self _)
                · skip
                  have n_83 : 8 = 0 := cmp_eq (a := 8) (b := 0) (by omega) (by omega) c_83
                  exact absurd n_83 (by decide)
              · skip
                exact absurd hn2 c_61
            · skip
              exact absurd (Int32.not_le.mp c_48) hn
          · skip
            have n_38 : 1 = 0 := cmp_eq (a := 1) (b := 0) (by omega) (by omega) c_38
            exact absurd n_38 (by decide)
      · skip
        have n_7 : ¬ 8 = 8 := cmp_ne (a := 8) (b := 8) (by omega) (by omega) c_7
        exact absurd n_7 (by decide)
  · skip
    refine J_iload_n E dX6_sheet_0 rfl 2 rfl ?_
    refine J_if_eq E (tgt := 22) dX6_sheet_1 (by decide) (fun c_1 => ?_) (fun c_1 => ?_)
    · skip
      have n_1 : 16 = 0 := cmp_eq (a := 16) (b := 0) (by omega) (by omega) c_1
      exact absurd n_1 (by decide)
    · skip
      have n_1 : ¬ 16 = 0 := cmp_ne (a := 16) (b := 0) (by omega) (by omega) c_1
      refine J_iload_n E dX6_sheet_4 rfl 2 rfl ?_
      refine J_bipush E dX6_sheet_5 bp_8 ?_
      refine J_icmp_eq E (tgt := 22) dX6_sheet_7 (by decide) (fun c_7 => ?_) (fun c_7 => ?_)
      · skip
        have n_7 : 16 = 8 := cmp_eq (a := 16) (b := 8) (by omega) (by omega) c_7
        exact absurd n_7 (by decide)
      · skip
        have n_7 : ¬ 16 = 8 := cmp_ne (a := 16) (b := 8) (by omega) (by omega) c_7
        refine J_iload_n E dX6_sheet_10 rfl 2 rfl ?_
        refine J_bipush E dX6_sheet_11 bp_16 ?_
        refine J_icmp_eq E (tgt := 22) dX6_sheet_13 (by decide) (fun c_13 => ?_) (fun c_13 => ?_)
        · skip
          have n_13 : 16 = 16 := cmp_eq (a := 16) (b := 16) (by omega) (by omega) c_13
          refine J_iconst E dX6_sheet_22 ic_1 ?_
          refine J_goto E (tgt := 27) dX6_sheet_23 (by decide) ?_
          refine J_istore E (lv' := [(4, .int 1), (0, .ref (b 0)), (1, .int (nI 1)), (2, .int 16), (3, .int n)]) dX6_sheet_27 (by decide) rfl ?_
          refine J_iload_n E dX6_sheet_29 rfl 2 rfl ?_
          refine J_cSiN E (As := [.int (nI 1)]) (c_X6_isSheet l G (nI 1) ) cl_X6_303 yo_X6_isSheet dX6_sheet_30 rfl (Nat.le_of_ble_eq_true rfl) (Nat.le_of_ble_eq_true rfl) rfl (Nat.le_of_ble_eq_true rfl) ⟨Nat.zero_le _, Nat.zero_le _⟩ ?_
          refine J_if_eq E (tgt := 41) dX6_sheet_33 (by decide) (fun c_33 => ?_) (fun c_33 => ?_)
          · skip
            have c_33 := bI_0 c_33
            exact absurd (in3 (by decide)) c_33
          · skip
            have c_33 := bI_1 c_33
            refine J_iload E dX6_sheet_36 0 rfl ?_
            refine J_if_ne E (tgt := 47) dX6_sheet_38 (by decide) (fun c_38 => ?_) (fun c_38 => ?_)
            · skip
              have n_38 : ¬ 1 = 0 := cmp_ne (a := 1) (b := 0) (by omega) (by omega) c_38
              refine J_iload_n E dX6_sheet_47 rfl 4 rfl ?_
              refine J_if_ge E (tgt := 58) dX6_sheet_48 (by decide) (fun c_48 => ?_) (fun c_48 => ?_)
              · skip
                refine J_iload_n E dX6_sheet_58 rfl 4 rfl ?_
                refine J_bipush E dX6_sheet_59 bp_40 ?_
                refine J_icmp_le E (tgt := 70) dX6_sheet_61 (by decide) (fun c_61 => ?_) (fun c_61 => ?_)
                · skip
                  refine J_aload_n E dX6_sheet_70 rfl 1 rfl ?_
                  refine gM0_X6_31 E dX6_sheet_71 ?_
                  refine J_iload_n E dX6_sheet_74 rfl 2 rfl ?_
                  refine J_iload_n E dX6_sheet_75 rfl 3 rfl ?_
                  refine sMb_1 E  dX6_sheet_76 ?_
                  refine J_aload_n E dX6_sheet_77 rfl 1 rfl ?_
                  refine gM0_X6_34 E dX6_sheet_78 ?_
                  refine J_iload_n E dX6_sheet_81 rfl 2 rfl ?_
                  refine J_iload_n E dX6_sheet_82 rfl 3 rfl ?_
                  refine J_if_ne E (tgt := 90) dX6_sheet_83 (by decide) (fun c_83 => ?_) (fun c_83 => ?_)
                  · skip
                    have n_83 : ¬ 16 = 0 := cmp_ne (a := 16) (b := 0) (by omega) (by omega) c_83
                    refine J_iload_n E dX6_sheet_90 rfl 4 rfl ?_
                    refine sMz_1 E  dX6_sheet_91 ?_
                    refine J_iconst E dX6_sheet_92 ic_0 ?_
                    refine J_istore E (lv' := [(5, .int 0), (4, .int 1), (0, .ref (b 0)), (1, .int (nI 1)), (2, .int 16), (3, .int n)]) dX6_sheet_93 (by decide) rfl ?_
                    have lp95 : ∀ (fu : Nat) (i : Nat) (r : Q2), (i ≤ 40) → (r = upR ((up3 (up3 y 9 1 0 16) 9 1 1 n) 9) 0 (fillF (y 9 0) 0 i)) → 40 - i < fu → J X G 6 0 0 (wM G b (upG y 9 r)) [(0, .ref (b 0)), (1, .int (nI 1)), (2, .int 16), (3, .int n), (5, .int (nI i))] 95 [] := by
                      intro fu
                      induction fu with
                      | zero => intro i r hi hr hm; exact absurd hm (Nat.not_lt_zero _)
                      | succ fu ih95 =>
                        intro i r hi hr hm
                        refine J_iload E dX6_sheet_95 4 rfl ?_
                        refine J_bipush E dX6_sheet_97 bp_40 ?_
                        refine J_icmp_ge E (tgt := 121) dX6_sheet_99 (by decide) (fun c_99 => ?_) (fun c_99 => ?_)
                        · skip
                          have n_99 : 40 ≤ i := cmp_le (a := 40) (b := i) (by omega) (by omega) c_99
                          refine J_aload_n E dX6_sheet_121 rfl 0 rfl ?_
                          refine gM0_X6_34 E dX6_sheet_122 ?_
                          refine J_iload_n E dX6_sheet_125 rfl 1 rfl ?_
                          refine lMz_1 E  dX6_sheet_126 ?_
                          refine J_top (x' := r 1 1) upG_s ?_
                          refine J_mr9 (f := fun _ => 0) (fun j hj => by rw [hr, show i = 40 by omega]; exact fillF_lt _ _ 40 j hj) ?_
                          exact ret _ _ _ _ ⟨by rw [hr]; rfl, _, rfl, by rw [hr, upR_upR]; exact ShM.rfl'⟩ rfl dX6_sheet_127
                        · skip
                          have n_99 : ¬ 40 ≤ i := cmp_nle (a := 40) (b := i) (by omega) (by omega) c_99
                          refine J_aload_n E dX6_sheet_102 rfl 0 rfl ?_
                          refine gM0_X6_37 E dX6_sheet_103 ?_
                          refine J_bipush E dX6_sheet_106 bp_40 ?_
                          refine J_iload_n E dX6_sheet_108 rfl 1 rfl ?_
                          refine J_imul E dX6_sheet_109 ?_
                          refine J_top (x' := nI 40) (by decide) ?_
                          refine J_iload E dX6_sheet_110 4 rfl ?_
                          refine J_iadd E dX6_sheet_112 ?_
                          refine J_top (x' := nI (40 + i)) (nI_add 40 i) ?_
                          refine J_iconst E dX6_sheet_113 ic_0 ?_
                          refine sMn_1 E (j := (40 + i)) (i := i) rfl (by omega) dX6_sheet_114 ?_
                          refine J_iinc E (lv' := [(5, .int (nI (i + 1))), (0, .ref (b 0)), (1, .int (nI 1)), (2, .int 16), (3, .int n)]) dX6_sheet_115 4 rfl (nI_inc _) (by decide) rfl ?_
                          refine J_goto E (tgt := 95) dX6_sheet_118 (by decide) ?_
                          refine J_lv [1, 2, 3, 4, 0] rfl ?_
                          refine J_w (ws' := wM G b (upG y 9 ((up3 (upG y 9 r) 9 0 i 0) 9))) (wM_c rfl rfl rfl rfl rfl rfl rfl rfl rfl rfl rfl) ?_
                          exact ih95 (i + 1) ((up3 (upG y 9 r) 9 0 i 0) 9) (by omega) (by rw [hr]; exact up2_upR) (by omega)
                    refine J_lv [2, 3, 4, 5, 0] rfl ?_
                    refine J_w (ws' := wM G b (upG y 9 ((up3 (up3 y 9 1 0 16) 9 1 1 n) 9))) (wM_c rfl rfl rfl rfl rfl rfl rfl rfl rfl rfl rfl) ?_
                    exact lp95 _ 0 ((up3 (up3 y 9 1 0 16) 9 1 1 n) 9) (by omega) (upR_id (r := 0)).symm (Nat.lt_succ_self _)
                  · skip
                    have n_83 : 16 = 0 := cmp_eq (a := 16) (b := 0) (by omega) (by omega) c_83
                    exact absurd n_83 (by decide)
                · skip
                  exact absurd hn2 c_61
              · skip
                exact absurd (Int32.not_le.mp c_48) hn
            · skip
              have n_38 : 1 = 0 := cmp_eq (a := 1) (b := 0) (by omega) (by omega) c_38
              exact absurd n_38 (by decide)
        · skip
          have n_13 : ¬ 16 = 16 := cmp_ne (a := 16) (b := 16) (by omega) (by omega) c_13
          exact absurd n_13 (by decide)
  · skip
    refine J_iload_n E dX6_sheet_0 rfl 2 rfl ?_
    refine J_if_eq E (tgt := 22) dX6_sheet_1 (by decide) (fun c_1 => ?_) (fun c_1 => ?_)
    · skip
      have n_1 : 32 = 0 := cmp_eq (a := 32) (b := 0) (by omega) (by omega) c_1
      exact absurd n_1 (by decide)
    · skip
      have n_1 : ¬ 32 = 0 := cmp_ne (a := 32) (b := 0) (by omega) (by omega) c_1
      refine J_iload_n E dX6_sheet_4 rfl 2 rfl ?_
      refine J_bipush E dX6_sheet_5 bp_8 ?_
      refine J_icmp_eq E (tgt := 22) dX6_sheet_7 (by decide) (fun c_7 => ?_) (fun c_7 => ?_)
      · skip
        have n_7 : 32 = 8 := cmp_eq (a := 32) (b := 8) (by omega) (by omega) c_7
        exact absurd n_7 (by decide)
      · skip
        have n_7 : ¬ 32 = 8 := cmp_ne (a := 32) (b := 8) (by omega) (by omega) c_7
        refine J_iload_n E dX6_sheet_10 rfl 2 rfl ?_
        refine J_bipush E dX6_sheet_11 bp_16 ?_
        refine J_icmp_eq E (tgt := 22) dX6_sheet_13 (by decide) (fun c_13 => ?_) (fun c_13 => ?_)
        · skip
          have n_13 : 32 = 16 := cmp_eq (a := 32) (b := 16) (by omega) (by omega) c_13
          exact absurd n_13 (by decide)
        · skip
          have n_13 : ¬ 32 = 16 := cmp_ne (a := 32) (b := 16) (by omega) (by omega) c_13
          refine J_iload_n E dX6_sheet_16 rfl 2 rfl ?_
          refine J_bipush E dX6_sheet_17 bp_32 ?_
          refine J_icmp_ne E (tgt := 26) dX6_sheet_19 (by decide) (fun c_19 => ?_) (fun c_19 => ?_)
          · skip
            have n_19 : ¬ 32 = 32 := cmp_ne (a := 32) (b := 32) (by omega) (by omega) c_19
            exact absurd n_19 (by decide)
          · skip
            have n_19 : 32 = 32 := cmp_eq (a := 32) (b := 32) (by omega) (by omega) c_19
            refine J_iconst E dX6_sheet_22 ic_1 ?_
            refine J_goto E (tgt := 27) dX6_sheet_23 (by decide) ?_
            refine J_istore E (lv' := [(4, .int 1), (0, .ref (b 0)), (1, .int (nI 1)), (2, .int 32), (3, .int n)]) dX6_sheet_27 (by decide) rfl ?_
            refine J_iload_n E dX6_sheet_29 rfl 2 rfl ?_
            refine J_cSiN E (As := [.int (nI 1)]) (c_X6_isSheet l G (nI 1) ) cl_X6_303 yo_X6_isSheet dX6_sheet_30 rfl (Nat.le_of_ble_eq_true rfl) (Nat.le_of_ble_eq_true rfl) rfl (Nat.le_of_ble_eq_true rfl) ⟨Nat.zero_le _, Nat.zero_le _⟩ ?_
            refine J_if_eq E (tgt := 41) dX6_sheet_33 (by decide) (fun c_33 => ?_) (fun c_33 => ?_)
            · skip
              have c_33 := bI_0 c_33
              exact absurd (in3 (by decide)) c_33
            · skip
              have c_33 := bI_1 c_33
              refine J_iload E dX6_sheet_36 0 rfl ?_
              refine J_if_ne E (tgt := 47) dX6_sheet_38 (by decide) (fun c_38 => ?_) (fun c_38 => ?_)
              · skip
                have n_38 : ¬ 1 = 0 := cmp_ne (a := 1) (b := 0) (by omega) (by omega) c_38
                refine J_iload_n E dX6_sheet_47 rfl 4 rfl ?_
                refine J_if_ge E (tgt := 58) dX6_sheet_48 (by decide) (fun c_48 => ?_) (fun c_48 => ?_)
                · skip
                  refine J_iload_n E dX6_sheet_58 rfl 4 rfl ?_
                  refine J_bipush E dX6_sheet_59 bp_40 ?_
                  refine J_icmp_le E (tgt := 70) dX6_sheet_61 (by decide) (fun c_61 => ?_) (fun c_61 => ?_)
                  · skip
                    refine J_aload_n E dX6_sheet_70 rfl 1 rfl ?_
                    refine gM0_X6_31 E dX6_sheet_71 ?_
                    refine J_iload_n E dX6_sheet_74 rfl 2 rfl ?_
                    refine J_iload_n E dX6_sheet_75 rfl 3 rfl ?_
                    refine sMb_1 E  dX6_sheet_76 ?_
                    refine J_aload_n E dX6_sheet_77 rfl 1 rfl ?_
                    refine gM0_X6_34 E dX6_sheet_78 ?_
                    refine J_iload_n E dX6_sheet_81 rfl 2 rfl ?_
                    refine J_iload_n E dX6_sheet_82 rfl 3 rfl ?_
                    refine J_if_ne E (tgt := 90) dX6_sheet_83 (by decide) (fun c_83 => ?_) (fun c_83 => ?_)
                    · skip
                      have n_83 : ¬ 32 = 0 := cmp_ne (a := 32) (b := 0) (by omega) (by omega) c_83
                      refine J_iload_n E dX6_sheet_90 rfl 4 rfl ?_
                      refine sMz_1 E  dX6_sheet_91 ?_
                      refine J_iconst E dX6_sheet_92 ic_0 ?_
                      refine J_istore E (lv' := [(5, .int 0), (4, .int 1), (0, .ref (b 0)), (1, .int (nI 1)), (2, .int 32), (3, .int n)]) dX6_sheet_93 (by decide) rfl ?_
                      have lp95 : ∀ (fu : Nat) (i : Nat) (r : Q2), (i ≤ 40) → (r = upR ((up3 (up3 y 9 1 0 32) 9 1 1 n) 9) 0 (fillF (y 9 0) 0 i)) → 40 - i < fu → J X G 6 0 0 (wM G b (upG y 9 r)) [(0, .ref (b 0)), (1, .int (nI 1)), (2, .int 32), (3, .int n), (5, .int (nI i))] 95 [] := by
                        intro fu
                        induction fu with
                        | zero => intro i r hi hr hm; exact absurd hm (Nat.not_lt_zero _)
                        | succ fu ih95 =>
                          intro i r hi hr hm
                          refine J_iload E dX6_sheet_95 4 rfl ?_
                          refine J_bipush E dX6_sheet_97 bp_40 ?_
                          refine J_icmp_ge E (tgt := 121) dX6_sheet_99 (by decide) (fun c_99 => ?_) (fun c_99 => ?_)
                          · skip
                            have n_99 : 40 ≤ i := cmp_le (a := 40) (b := i) (by omega) (by omega) c_99
                            refine J_aload_n E dX6_sheet_121 rfl 0 rfl ?_
                            refine gM0_X6_34 E dX6_sheet_122 ?_
                            refine J_iload_n E dX6_sheet_125 rfl 1 rfl ?_
                            refine lMz_1 E  dX6_sheet_126 ?_
                            refine J_top (x' := r 1 1) upG_s ?_
                            refine J_mr9 (f := fun _ => 0) (fun j hj => by rw [hr, show i = 40 by omega]; exact fillF_lt _ _ 40 j hj) ?_
                            exact ret _ _ _ _ ⟨by rw [hr]; rfl, _, rfl, by rw [hr, upR_upR]; exact ShM.rfl'⟩ rfl dX6_sheet_127
                          · skip
                            have n_99 : ¬ 40 ≤ i := cmp_nle (a := 40) (b := i) (by omega) (by omega) c_99
                            refine J_aload_n E dX6_sheet_102 rfl 0 rfl ?_
                            refine gM0_X6_37 E dX6_sheet_103 ?_
                            refine J_bipush E dX6_sheet_106 bp_40 ?_
                            refine J_iload_n E dX6_sheet_108 rfl 1 rfl ?_
                            refine J_imul E dX6_sheet_109 ?_
                            refine J_top (x' := nI 40) (by decide) ?_
                            refine J_iload E dX6_sheet_110 4 rfl ?_
                            refine J_iadd E dX6_sheet_112 ?_
                            refine J_top (x' := nI (40 + i)) (nI_add 40 i) ?_
                            refine J_iconst E dX6_sheet_113 ic_0 ?_
                            refine sMn_1 E (j := (40 + i)) (i := i) rfl (by omega) dX6_sheet_114 ?_
                            refine J_iinc E (lv' := [(5, .int (nI (i + 1))), (0, .ref (b 0)), (1, .int (nI 1)), (2, .int 32), (3, .int n)]) dX6_sheet_115 4 rfl (nI_inc _) (by decide) rfl ?_
                            refine J_goto E (tgt := 95) dX6_sheet_118 (by decide) ?_
                            refine J_lv [1, 2, 3, 4, 0] rfl ?_
                            refine J_w (ws' := wM G b (upG y 9 ((up3 (upG y 9 r) 9 0 i 0) 9))) (wM_c rfl rfl rfl rfl rfl rfl rfl rfl rfl rfl rfl) ?_
                            exact ih95 (i + 1) ((up3 (upG y 9 r) 9 0 i 0) 9) (by omega) (by rw [hr]; exact up2_upR) (by omega)
                      refine J_lv [2, 3, 4, 5, 0] rfl ?_
                      refine J_w (ws' := wM G b (upG y 9 ((up3 (up3 y 9 1 0 32) 9 1 1 n) 9))) (wM_c rfl rfl rfl rfl rfl rfl rfl rfl rfl rfl rfl) ?_
                      exact lp95 _ 0 ((up3 (up3 y 9 1 0 32) 9 1 1 n) 9) (by omega) (upR_id (r := 0)).symm (Nat.lt_succ_self _)
                    · skip
                      have n_83 : 32 = 0 := cmp_eq (a := 32) (b := 0) (by omega) (by omega) c_83
                      exact absurd n_83 (by decide)
                  · skip
                    exact absurd hn2 c_61
                · skip
                  exact absurd (Int32.not_le.mp c_48) hn
              · skip
                have n_38 : 1 = 0 := cmp_eq (a := 1) (b := 0) (by omega) (by omega) c_38
                exact absurd n_38 (by decide)

set_option maxHeartbeats 4000000 in
set_option maxRecDepth 20000 in
theorem c_X6_sheet_ok_2 (l : Launch) (G : GB) (b : Nat → Nat) (y : Q3) (c n : Int32) (hbt : (c = 0 ∨ c = 8 ∨ c = 16 ∨ c = 32)) (hn : ¬ n < 0) (hn2 : n ≤ 40) : CI l yX6_sheet cX6_sheet 6 .int 2 45 G [.ref (b 0), .int (nI 2), .int c, .int n] (wM G b y) (fun vR w' => vR = (if c = 0 then 0 else n) ∧ PubM G b (upG y 10 (beginS (y 10) c (if c = 0 then 0 else n))) w') := by
  refine CI.mk (own := RX6) (by decide) rfl (Nat.le_of_ble_eq_true rfl) ?_
  intro X E ret
  show J X G 6 0 0 (wM G b y) [(0, .ref (b 0)), (1, .int (nI 2)), (2, .int c), (3, .int n)] 0 []
  rcases hbt with rfl | rfl | rfl | rfl
  · skip
    refine J_iload_n E dX6_sheet_0 rfl 2 rfl ?_
    refine J_if_eq E (tgt := 22) dX6_sheet_1 (by decide) (fun c_1 => ?_) (fun c_1 => ?_)
    · skip
      have n_1 : 0 = 0 := cmp_eq (a := 0) (b := 0) (by omega) (by omega) c_1
      refine J_iconst E dX6_sheet_22 ic_1 ?_
      refine J_goto E (tgt := 27) dX6_sheet_23 (by decide) ?_
      refine J_istore E (lv' := [(4, .int 1), (0, .ref (b 0)), (1, .int (nI 2)), (2, .int 0), (3, .int n)]) dX6_sheet_27 (by decide) rfl ?_
      refine J_iload_n E dX6_sheet_29 rfl 2 rfl ?_
      refine J_cSiN E (As := [.int (nI 2)]) (c_X6_isSheet l G (nI 2) ) cl_X6_303 yo_X6_isSheet dX6_sheet_30 rfl (Nat.le_of_ble_eq_true rfl) (Nat.le_of_ble_eq_true rfl) rfl (Nat.le_of_ble_eq_true rfl) ⟨Nat.zero_le _, Nat.zero_le _⟩ ?_
      refine J_if_eq E (tgt := 41) dX6_sheet_33 (by decide) (fun c_33 => ?_) (fun c_33 => ?_)
      · skip
        have c_33 := bI_0 c_33
        exact absurd (in3 (by decide)) c_33
      · skip
        have c_33 := bI_1 c_33
        refine J_iload E dX6_sheet_36 0 rfl ?_
        refine J_if_ne E (tgt := 47) dX6_sheet_38 (by decide) (fun c_38 => ?_) (fun c_38 => ?_)
        · skip
          have n_38 : ¬ 1 = 0 := cmp_ne (a := 1) (b := 0) (by omega) (by omega) c_38
          refine J_iload_n E dX6_sheet_47 rfl 4 rfl ?_
          refine J_if_ge E (tgt := 58) dX6_sheet_48 (by decide) (fun c_48 => ?_) (fun c_48 => ?_)
          · skip
            refine J_iload_n E dX6_sheet_58 rfl 4 rfl ?_
            refine J_bipush E dX6_sheet_59 bp_40 ?_
            refine J_icmp_le E (tgt := 70) dX6_sheet_61 (by decide) (fun c_61 => ?_) (fun c_61 => ?_)
            · skip
              refine J_aload_n E dX6_sheet_70 rfl 1 rfl ?_
              refine gM0_X6_31 E dX6_sheet_71 ?_
              refine J_iload_n E dX6_sheet_74 rfl 2 rfl ?_
              refine J_iload_n E dX6_sheet_75 rfl 3 rfl ?_
              refine sMb_2 E  dX6_sheet_76 ?_
              refine J_aload_n E dX6_sheet_77 rfl 1 rfl ?_
              refine gM0_X6_34 E dX6_sheet_78 ?_
              refine J_iload_n E dX6_sheet_81 rfl 2 rfl ?_
              refine J_iload_n E dX6_sheet_82 rfl 3 rfl ?_
              refine J_if_ne E (tgt := 90) dX6_sheet_83 (by decide) (fun c_83 => ?_) (fun c_83 => ?_)
              · skip
                have n_83 : ¬ 0 = 0 := cmp_ne (a := 0) (b := 0) (by omega) (by omega) c_83
                exact absurd n_83 (by decide)
              · skip
                have n_83 : 0 = 0 := cmp_eq (a := 0) (b := 0) (by omega) (by omega) c_83
                refine J_iconst E dX6_sheet_86 ic_0 ?_
                refine J_goto E (tgt := 91) dX6_sheet_87 (by decide) ?_
                refine sMz_2 E  dX6_sheet_91 ?_
                refine J_iconst E dX6_sheet_92 ic_0 ?_
                refine J_istore E (lv' := [(5, .int 0), (4, .int 1), (0, .ref (b 0)), (1, .int (nI 2)), (2, .int 0), (3, .int n)]) dX6_sheet_93 (by decide) rfl ?_
                have lp95 : ∀ (fu : Nat) (i : Nat) (r : Q2), (i ≤ 40) → (r = upR ((up3 (up3 y 10 1 0 0) 10 1 1 0) 10) 0 (fillF (y 10 0) 0 i)) → 40 - i < fu → J X G 6 0 0 (wM G b (upG y 10 r)) [(0, .ref (b 0)), (1, .int (nI 2)), (2, .int 0), (3, .int n), (5, .int (nI i))] 95 [] := by
                  intro fu
                  induction fu with
                  | zero => intro i r hi hr hm; exact absurd hm (Nat.not_lt_zero _)
                  | succ fu ih95 =>
                    intro i r hi hr hm
                    refine J_iload E dX6_sheet_95 4 rfl ?_
                    refine J_bipush E dX6_sheet_97 bp_40 ?_
                    refine J_icmp_ge E (tgt := 121) dX6_sheet_99 (by decide) (fun c_99 => ?_) (fun c_99 => ?_)
                    · skip
                      have n_99 : 40 ≤ i := cmp_le (a := 40) (b := i) (by omega) (by omega) c_99
                      refine J_aload_n E dX6_sheet_121 rfl 0 rfl ?_
                      refine gM0_X6_34 E dX6_sheet_122 ?_
                      refine J_iload_n E dX6_sheet_125 rfl 1 rfl ?_
                      refine lMz_2 E  dX6_sheet_126 ?_
                      refine J_top (x' := r 1 1) upG_s ?_
                      refine J_mr10 (f := fun _ => 0) (fun j hj => by rw [hr, show i = 40 by omega]; exact fillF_lt _ _ 40 j hj) ?_
                      exact ret _ _ _ _ ⟨by rw [hr]; rfl, _, rfl, by rw [hr, upR_upR]; exact ShM.rfl'⟩ rfl dX6_sheet_127
                    · skip
                      have n_99 : ¬ 40 ≤ i := cmp_nle (a := 40) (b := i) (by omega) (by omega) c_99
                      refine J_aload_n E dX6_sheet_102 rfl 0 rfl ?_
                      refine gM0_X6_37 E dX6_sheet_103 ?_
                      refine J_bipush E dX6_sheet_106 bp_40 ?_
                      refine J_iload_n E dX6_sheet_108 rfl 1 rfl ?_
                      refine J_imul E dX6_sheet_109 ?_
                      refine J_top (x' := nI 80) (by decide) ?_
                      refine J_iload E dX6_sheet_110 4 rfl ?_
                      refine J_iadd E dX6_sheet_112 ?_
                      refine J_top (x' := nI (80 + i)) (nI_add 80 i) ?_
                      refine J_iconst E dX6_sheet_113 ic_0 ?_
                      refine sMn_2 E (j := (80 + i)) (i := i) rfl (by omega) dX6_sheet_114 ?_
                      refine J_iinc E (lv' := [(5, .int (nI (i + 1))), (0, .ref (b 0)), (1, .int (nI 2)), (2, .int 0), (3, .int n)]) dX6_sheet_115 4 rfl (nI_inc _) (by decide) rfl ?_
                      refine J_goto E (tgt := 95) dX6_sheet_118 (by decide) ?_
                      refine J_lv [1, 2, 3, 4, 0] rfl ?_
                      refine J_w (ws' := wM G b (upG y 10 ((up3 (upG y 10 r) 10 0 i 0) 10))) (wM_c rfl rfl rfl rfl rfl rfl rfl rfl rfl rfl rfl) ?_
                      exact ih95 (i + 1) ((up3 (upG y 10 r) 10 0 i 0) 10) (by omega) (by rw [hr]; exact up2_upR) (by omega)
                refine J_lv [2, 3, 4, 5, 0] rfl ?_
                refine J_w (ws' := wM G b (upG y 10 ((up3 (up3 y 10 1 0 0) 10 1 1 0) 10))) (wM_c rfl rfl rfl rfl rfl rfl rfl rfl rfl rfl rfl) ?_
                exact lp95 _ 0 ((up3 (up3 y 10 1 0 0) 10 1 1 0) 10) (by omega) (upR_id (r := 0)).symm (Nat.lt_succ_self _)
            · skip
              exact absurd hn2 c_61
          · skip
            exact absurd (Int32.not_le.mp c_48) hn
        · skip
          have n_38 : 1 = 0 := cmp_eq (a := 1) (b := 0) (by omega) (by omega) c_38
          exact absurd n_38 (by decide)
    · skip
      have n_1 : ¬ 0 = 0 := cmp_ne (a := 0) (b := 0) (by omega) (by omega) c_1
      exact absurd n_1 (by decide)
  · skip
    refine J_iload_n E dX6_sheet_0 rfl 2 rfl ?_
    refine J_if_eq E (tgt := 22) dX6_sheet_1 (by decide) (fun c_1 => ?_) (fun c_1 => ?_)
    · skip
      have n_1 : 8 = 0 := cmp_eq (a := 8) (b := 0) (by omega) (by omega) c_1
      exact absurd n_1 (by decide)
    · skip
      have n_1 : ¬ 8 = 0 := cmp_ne (a := 8) (b := 0) (by omega) (by omega) c_1
      refine J_iload_n E dX6_sheet_4 rfl 2 rfl ?_
      refine J_bipush E dX6_sheet_5 bp_8 ?_
      refine J_icmp_eq E (tgt := 22) dX6_sheet_7 (by decide) (fun c_7 => ?_) (fun c_7 => ?_)
      · skip
        have n_7 : 8 = 8 := cmp_eq (a := 8) (b := 8) (by omega) (by omega) c_7
        refine J_iconst E dX6_sheet_22 ic_1 ?_
        refine J_goto E (tgt := 27) dX6_sheet_23 (by decide) ?_
        refine J_istore E (lv' := [(4, .int 1), (0, .ref (b 0)), (1, .int (nI 2)), (2, .int 8), (3, .int n)]) dX6_sheet_27 (by decide) rfl ?_
        refine J_iload_n E dX6_sheet_29 rfl 2 rfl ?_
        refine J_cSiN E (As := [.int (nI 2)]) (c_X6_isSheet l G (nI 2) ) cl_X6_303 yo_X6_isSheet dX6_sheet_30 rfl (Nat.le_of_ble_eq_true rfl) (Nat.le_of_ble_eq_true rfl) rfl (Nat.le_of_ble_eq_true rfl) ⟨Nat.zero_le _, Nat.zero_le _⟩ ?_
        refine J_if_eq E (tgt := 41) dX6_sheet_33 (by decide) (fun c_33 => ?_) (fun c_33 => ?_)
        · skip
          have c_33 := bI_0 c_33
          exact absurd (in3 (by decide)) c_33
        · skip
          have c_33 := bI_1 c_33
          refine J_iload E dX6_sheet_36 0 rfl ?_
          refine J_if_ne E (tgt := 47) dX6_sheet_38 (by decide) (fun c_38 => ?_) (fun c_38 => ?_)
          · skip
            have n_38 : ¬ 1 = 0 := cmp_ne (a := 1) (b := 0) (by omega) (by omega) c_38
            refine J_iload_n E dX6_sheet_47 rfl 4 rfl ?_
            refine J_if_ge E (tgt := 58) dX6_sheet_48 (by decide) (fun c_48 => ?_) (fun c_48 => ?_)
            · skip
              refine J_iload_n E dX6_sheet_58 rfl 4 rfl ?_
              refine J_bipush E dX6_sheet_59 bp_40 ?_
              refine J_icmp_le E (tgt := 70) dX6_sheet_61 (by decide) (fun c_61 => ?_) (fun c_61 => ?_)
              · skip
                refine J_aload_n E dX6_sheet_70 rfl 1 rfl ?_
                refine gM0_X6_31 E dX6_sheet_71 ?_
                refine J_iload_n E dX6_sheet_74 rfl 2 rfl ?_
                refine J_iload_n E dX6_sheet_75 rfl 3 rfl ?_
                refine sMb_2 E  dX6_sheet_76 ?_
                refine J_aload_n E dX6_sheet_77 rfl 1 rfl ?_
                refine gM0_X6_34 E dX6_sheet_78 ?_
                refine J_iload_n E dX6_sheet_81 rfl 2 rfl ?_
                refine J_iload_n E dX6_sheet_82 rfl 3 rfl ?_
                refine J_if_ne E (tgt := 90) dX6_sheet_83 (by decide) (fun c_83 => ?_) (fun c_83 => ?_)
                · skip
                  have n_83 : ¬ 8 = 0 := cmp_ne (a := 8) (b := 0) (by omega) (by omega) c_83
                  refine J_iload_n E dX6_sheet_90 rfl 4 rfl ?_
                  refine sMz_2 E  dX6_sheet_91 ?_
                  refine J_iconst E dX6_sheet_92 ic_0 ?_
                  refine J_istore E (lv' := [(5, .int 0), (4, .int 1), (0, .ref (b 0)), (1, .int (nI 2)), (2, .int 8), (3, .int n)]) dX6_sheet_93 (by decide) rfl ?_
                  have lp95 : ∀ (fu : Nat) (i : Nat) (r : Q2), (i ≤ 40) → (r = upR ((up3 (up3 y 10 1 0 8) 10 1 1 n) 10) 0 (fillF (y 10 0) 0 i)) → 40 - i < fu → J X G 6 0 0 (wM G b (upG y 10 r)) [(0, .ref (b 0)), (1, .int (nI 2)), (2, .int 8), (3, .int n), (5, .int (nI i))] 95 [] := by
                    intro fu
                    induction fu with
                    | zero => intro i r hi hr hm; exact absurd hm (Nat.not_lt_zero _)
                    | succ fu ih95 =>
                      intro i r hi hr hm
                      refine J_iload E dX6_sheet_95 4 rfl ?_
                      refine J_bipush E dX6_sheet_97 bp_40 ?_
                      refine J_icmp_ge E (tgt := 121) dX6_sheet_99 (by decide) (fun c_99 => ?_) (fun c_99 => ?_)
                      · skip
                        have n_99 : 40 ≤ i := cmp_le (a := 40) (b := i) (by omega) (by omega) c_99
                        refine J_aload_n E dX6_sheet_121 rfl 0 rfl ?_
                        refine gM0_X6_34 E dX6_sheet_122 ?_
                        refine J_iload_n E dX6_sheet_125 rfl 1 rfl ?_
                        refine lMz_2 E  dX6_sheet_126 ?_
                        refine J_top (x' := r 1 1) upG_s ?_
                        refine J_mr10 (f := fun _ => 0) (fun j hj => by rw [hr, show i = 40 by omega]; exact fillF_lt _ _ 40 j hj) ?_
                        exact ret _ _ _ _ ⟨by rw [hr]; rfl, _, rfl, by rw [hr, upR_upR]; exact ShM.rfl'⟩ rfl dX6_sheet_127
                      · skip
                        have n_99 : ¬ 40 ≤ i := cmp_nle (a := 40) (b := i) (by omega) (by omega) c_99
                        refine J_aload_n E dX6_sheet_102 rfl 0 rfl ?_
                        refine gM0_X6_37 E dX6_sheet_103 ?_
                        refine J_bipush E dX6_sheet_106 bp_40 ?_
                        refine J_iload_n E dX6_sheet_108 rfl 1 rfl ?_
                        refine J_imul E dX6_sheet_109 ?_
                        refine J_top (x' := nI 80) (by decide) ?_
                        refine J_iload E dX6_sheet_110 4 rfl ?_
                        refine J_iadd E dX6_sheet_112 ?_
                        refine J_top (x' := nI (80 + i)) (nI_add 80 i) ?_
                        refine J_iconst E dX6_sheet_113 ic_0 ?_
                        refine sMn_2 E (j := (80 + i)) (i := i) rfl (by omega) dX6_sheet_114 ?_
                        refine J_iinc E (lv' := [(5, .int (nI (i + 1))), (0, .ref (b 0)), (1, .int (nI 2)), (2, .int 8), (3, .int n)]) dX6_sheet_115 4 rfl (nI_inc _) (by decide) rfl ?_
                        refine J_goto E (tgt := 95) dX6_sheet_118 (by decide) ?_
                        refine J_lv [1, 2, 3, 4, 0] rfl ?_
                        refine J_w (ws' := wM G b (upG y 10 ((up3 (upG y 10 r) 10 0 i 0) 10))) (wM_c rfl rfl rfl rfl rfl rfl rfl rfl rfl rfl rfl) ?_
                        exact ih95 (i + 1) ((up3 (upG y 10 r) 10 0 i 0) 10) (by omega) (by rw [hr]; exact up2_upR) (by omega)
                  refine J_lv [2, 3, 4, 5, 0] rfl ?_
                  refine J_w (ws' := wM G b (upG y 10 ((up3 (up3 y 10 1 0 8) 10 1 1 n) 10))) (wM_c rfl rfl rfl rfl rfl rfl rfl rfl rfl rfl rfl) ?_
                  exact lp95 _ 0 ((up3 (up3 y 10 1 0 8) 10 1 1 n) 10) (by omega) (upR_id (r := 0)).symm (Nat.lt_succ_self _)
                · skip
                  have n_83 : 8 = 0 := cmp_eq (a := 8) (b := 0) (by omega) (by omega) c_83
                  exact absurd n_83 (by decide)
              · skip
                exact absurd hn2 c_61
            · skip
              exact absurd (Int32.not_le.mp c_48) hn
          · skip
            have n_38 : 1 = 0 := cmp_eq (a := 1) (b := 0) (by omega) (by omega) c_38
            exact absurd n_38 (by decide)
      · skip
        have n_7 : ¬ 8 = 8 := cmp_ne (a := 8) (b := 8) (by omega) (by omega) c_7
        exact absurd n_7 (by decide)
  · skip
    refine J_iload_n E dX6_sheet_0 rfl 2 rfl ?_
    refine J_if_eq E (tgt := 22) dX6_sheet_1 (by decide) (fun c_1 => ?_) (fun c_1 => ?_)
    · skip
      have n_1 : 16 = 0 := cmp_eq (a := 16) (b := 0) (by omega) (by omega) c_1
      exact absurd n_1 (by decide)
    · skip
      have n_1 : ¬ 16 = 0 := cmp_ne (a := 16) (b := 0) (by omega) (by omega) c_1
      refine J_iload_n E dX6_sheet_4 rfl 2 rfl ?_
      refine J_bipush E dX6_sheet_5 bp_8 ?_
      refine J_icmp_eq E (tgt := 22) dX6_sheet_7 (by decide) (fun c_7 => ?_) (fun c_7 => ?_)
      · skip
        have n_7 : 16 = 8 := cmp_eq (a := 16) (b := 8) (by omega) (by omega) c_7
        exact absurd n_7 (by decide)
      · skip
        have n_7 : ¬ 16 = 8 := cmp_ne (a := 16) (b := 8) (by omega) (by omega) c_7
        refine J_iload_n E dX6_sheet_10 rfl 2 rfl ?_
        refine J_bipush E dX6_sheet_11 bp_16 ?_
        refine J_icmp_eq E (tgt := 22) dX6_sheet_13 (by decide) (fun c_13 => ?_) (fun c_13 => ?_)
        · skip
          have n_13 : 16 = 16 := cmp_eq (a := 16) (b := 16) (by omega) (by omega) c_13
          refine J_iconst E dX6_sheet_22 ic_1 ?_
          refine J_goto E (tgt := 27) dX6_sheet_23 (by decide) ?_
          refine J_istore E (lv' := [(4, .int 1), (0, .ref (b 0)), (1, .int (nI 2)), (2, .int 16), (3, .int n)]) dX6_sheet_27 (by decide) rfl ?_
          refine J_iload_n E dX6_sheet_29 rfl 2 rfl ?_
          refine J_cSiN E (As := [.int (nI 2)]) (c_X6_isSheet l G (nI 2) ) cl_X6_303 yo_X6_isSheet dX6_sheet_30 rfl (Nat.le_of_ble_eq_true rfl) (Nat.le_of_ble_eq_true rfl) rfl (Nat.le_of_ble_eq_true rfl) ⟨Nat.zero_le _, Nat.zero_le _⟩ ?_
          refine J_if_eq E (tgt := 41) dX6_sheet_33 (by decide) (fun c_33 => ?_) (fun c_33 => ?_)
          · skip
            have c_33 := bI_0 c_33
            exact absurd (in3 (by decide)) c_33
          · skip
            have c_33 := bI_1 c_33
            refine J_iload E dX6_sheet_36 0 rfl ?_
            refine J_if_ne E (tgt := 47) dX6_sheet_38 (by decide) (fun c_38 => ?_) (fun c_38 => ?_)
            · skip
              have n_38 : ¬ 1 = 0 := cmp_ne (a := 1) (b := 0) (by omega) (by omega) c_38
              refine J_iload_n E dX6_sheet_47 rfl 4 rfl ?_
              refine J_if_ge E (tgt := 58) dX6_sheet_48 (by decide) (fun c_48 => ?_) (fun c_48 => ?_)
              · skip
                refine J_iload_n E dX6_sheet_58 rfl 4 rfl ?_
                refine J_bipush E dX6_sheet_59 bp_40 ?_
                refine J_icmp_le E (tgt := 70) dX6_sheet_61 (by decide) (fun c_61 => ?_) (fun c_61 => ?_)
                · skip
                  refine J_aload_n E dX6_sheet_70 rfl 1 rfl ?_
                  refine gM0_X6_31 E dX6_sheet_71 ?_
                  refine J_iload_n E dX6_sheet_74 rfl 2 rfl ?_
                  refine J_iload_n E dX6_sheet_75 rfl 3 rfl ?_
                  refine sMb_2 E  dX6_sheet_76 ?_
                  refine J_aload_n E dX6_sheet_77 rfl 1 rfl ?_
                  refine gM0_X6_34 E dX6_sheet_78 ?_
                  refine J_iload_n E dX6_sheet_81 rfl 2 rfl ?_
                  refine J_iload_n E dX6_sheet_82 rfl 3 rfl ?_
                  refine J_if_ne E (tgt := 90) dX6_sheet_83 (by decide) (fun c_83 => ?_) (fun c_83 => ?_)
                  · skip
                    have n_83 : ¬ 16 = 0 := cmp_ne (a := 16) (b := 0) (by omega) (by omega) c_83
                    refine J_iload_n E dX6_sheet_90 rfl 4 rfl ?_
                    refine sMz_2 E  dX6_sheet_91 ?_
                    refine J_iconst E dX6_sheet_92 ic_0 ?_
                    refine J_istore E (lv' := [(5, .int 0), (4, .int 1), (0, .ref (b 0)), (1, .int (nI 2)), (2, .int 16), (3, .int n)]) dX6_sheet_93 (by decide) rfl ?_
                    have lp95 : ∀ (fu : Nat) (i : Nat) (r : Q2), (i ≤ 40) → (r = upR ((up3 (up3 y 10 1 0 16) 10 1 1 n) 10) 0 (fillF (y 10 0) 0 i)) → 40 - i < fu → J X G 6 0 0 (wM G b (upG y 10 r)) [(0, .ref (b 0)), (1, .int (nI 2)), (2, .int 16), (3, .int n), (5, .int (nI i))] 95 [] := by
                      intro fu
                      induction fu with
                      | zero => intro i r hi hr hm; exact absurd hm (Nat.not_lt_zero _)
                      | succ fu ih95 =>
                        intro i r hi hr hm
                        refine J_iload E dX6_sheet_95 4 rfl ?_
                        refine J_bipush E dX6_sheet_97 bp_40 ?_
                        refine J_icmp_ge E (tgt := 121) dX6_sheet_99 (by decide) (fun c_99 => ?_) (fun c_99 => ?_)
                        · skip
                          have n_99 : 40 ≤ i := cmp_le (a := 40) (b := i) (by omega) (by omega) c_99
                          refine J_aload_n E dX6_sheet_121 rfl 0 rfl ?_
                          refine gM0_X6_34 E dX6_sheet_122 ?_
                          refine J_iload_n E dX6_sheet_125 rfl 1 rfl ?_
                          refine lMz_2 E  dX6_sheet_126 ?_
                          refine J_top (x' := r 1 1) upG_s ?_
                          refine J_mr10 (f := fun _ => 0) (fun j hj => by rw [hr, show i = 40 by omega]; exact fillF_lt _ _ 40 j hj) ?_
                          exact ret _ _ _ _ ⟨by rw [hr]; rfl, _, rfl, by rw [hr, upR_upR]; exact ShM.rfl'⟩ rfl dX6_sheet_127
                        · skip
                          have n_99 : ¬ 40 ≤ i := cmp_nle (a := 40) (b := i) (by omega) (by omega) c_99
                          refine J_aload_n E dX6_sheet_102 rfl 0 rfl ?_
                          refine gM0_X6_37 E dX6_sheet_103 ?_
                          refine J_bipush E dX6_sheet_106 bp_40 ?_
                          refine J_iload_n E dX6_sheet_108 rfl 1 rfl ?_
                          refine J_imul E dX6_sheet_109 ?_
                          refine J_top (x' := nI 80) (by decide) ?_
                          refine J_iload E dX6_sheet_110 4 rfl ?_
                          refine J_iadd E dX6_sheet_112 ?_
                          refine J_top (x' := nI (80 + i)) (nI_add 80 i) ?_
                          refine J_iconst E dX6_sheet_113 ic_0 ?_
                          refine sMn_2 E (j := (80 + i)) (i := i) rfl (by omega) dX6_sheet_114 ?_
                          refine J_iinc E (lv' := [(5, .int (nI (i + 1))), (0, .ref (b 0)), (1, .int (nI 2)), (2, .int 16), (3, .int n)]) dX6_sheet_115 4 rfl (nI_inc _) (by decide) rfl ?_
                          refine J_goto E (tgt := 95) dX6_sheet_118 (by decide) ?_
                          refine J_lv [1, 2, 3, 4, 0] rfl ?_
                          refine J_w (ws' := wM G b (upG y 10 ((up3 (upG y 10 r) 10 0 i 0) 10))) (wM_c rfl rfl rfl rfl rfl rfl rfl rfl rfl rfl rfl) ?_
                          exact ih95 (i + 1) ((up3 (upG y 10 r) 10 0 i 0) 10) (by omega) (by rw [hr]; exact up2_upR) (by omega)
                    refine J_lv [2, 3, 4, 5, 0] rfl ?_
                    refine J_w (ws' := wM G b (upG y 10 ((up3 (up3 y 10 1 0 16) 10 1 1 n) 10))) (wM_c rfl rfl rfl rfl rfl rfl rfl rfl rfl rfl rfl) ?_
                    exact lp95 _ 0 ((up3 (up3 y 10 1 0 16) 10 1 1 n) 10) (by omega) (upR_id (r := 0)).symm (Nat.lt_succ_self _)
                  · skip
                    have n_83 : 16 = 0 := cmp_eq (a := 16) (b := 0) (by omega) (by omega) c_83
                    exact absurd n_83 (by decide)
                · skip
                  exact absurd hn2 c_61
              · skip
                exact absurd (Int32.not_le.mp c_48) hn
            · skip
              have n_38 : 1 = 0 := cmp_eq (a := 1) (b := 0) (by omega) (by omega) c_38
              exact absurd n_38 (by decide)
        · skip
          have n_13 : ¬ 16 = 16 := cmp_ne (a := 16) (b := 16) (by omega) (by omega) c_13
          exact absurd n_13 (by decide)
  · skip
    refine J_iload_n E dX6_sheet_0 rfl 2 rfl ?_
    refine J_if_eq E (tgt := 22) dX6_sheet_1 (by decide) (fun c_1 => ?_) (fun c_1 => ?_)
    · skip
      have n_1 : 32 = 0 := cmp_eq (a := 32) (b := 0) (by omega) (by omega) c_1
      exact absurd n_1 (by decide)
    · skip
      have n_1 : ¬ 32 = 0 := cmp_ne (a := 32) (b := 0) (by omega) (by omega) c_1
      refine J_iload_n E dX6_sheet_4 rfl 2 rfl ?_
      refine J_bipush E dX6_sheet_5 bp_8 ?_
      refine J_icmp_eq E (tgt := 22) dX6_sheet_7 (by decide) (fun c_7 => ?_) (fun c_7 => ?_)
      · skip
        have n_7 : 32 = 8 := cmp_eq (a := 32) (b := 8) (by omega) (by omega) c_7
        exact absurd n_7 (by decide)
      · skip
        have n_7 : ¬ 32 = 8 := cmp_ne (a := 32) (b := 8) (by omega) (by omega) c_7
        refine J_iload_n E dX6_sheet_10 rfl 2 rfl ?_
        refine J_bipush E dX6_sheet_11 bp_16 ?_
        refine J_icmp_eq E (tgt := 22) dX6_sheet_13 (by decide) (fun c_13 => ?_) (fun c_13 => ?_)
        · skip
          have n_13 : 32 = 16 := cmp_eq (a := 32) (b := 16) (by omega) (by omega) c_13
          exact absurd n_13 (by decide)
        · skip
          have n_13 : ¬ 32 = 16 := cmp_ne (a := 32) (b := 16) (by omega) (by omega) c_13
          refine J_iload_n E dX6_sheet_16 rfl 2 rfl ?_
          refine J_bipush E dX6_sheet_17 bp_32 ?_
          refine J_icmp_ne E (tgt := 26) dX6_sheet_19 (by decide) (fun c_19 => ?_) (fun c_19 => ?_)
          · skip
            have n_19 : ¬ 32 = 32 := cmp_ne (a := 32) (b := 32) (by omega) (by omega) c_19
            exact absurd n_19 (by decide)
          · skip
            have n_19 : 32 = 32 := cmp_eq (a := 32) (b := 32) (by omega) (by omega) c_19
            refine J_iconst E dX6_sheet_22 ic_1 ?_
            refine J_goto E (tgt := 27) dX6_sheet_23 (by decide) ?_
            refine J_istore E (lv' := [(4, .int 1), (0, .ref (b 0)), (1, .int (nI 2)), (2, .int 32), (3, .int n)]) dX6_sheet_27 (by decide) rfl ?_
            refine J_iload_n E dX6_sheet_29 rfl 2 rfl ?_
            refine J_cSiN E (As := [.int (nI 2)]) (c_X6_isSheet l G (nI 2) ) cl_X6_303 yo_X6_isSheet dX6_sheet_30 rfl (Nat.le_of_ble_eq_true rfl) (Nat.le_of_ble_eq_true rfl) rfl (Nat.le_of_ble_eq_true rfl) ⟨Nat.zero_le _, Nat.zero_le _⟩ ?_
            refine J_if_eq E (tgt := 41) dX6_sheet_33 (by decide) (fun c_33 => ?_) (fun c_33 => ?_)
            · skip
              have c_33 := bI_0 c_33
              exact absurd (in3 (by decide)) c_33
            · skip
              have c_33 := bI_1 c_33
              refine J_iload E dX6_sheet_36 0 rfl ?_
              refine J_if_ne E (tgt := 47) dX6_sheet_38 (by decide) (fun c_38 => ?_) (fun c_38 => ?_)
              · skip
                have n_38 : ¬ 1 = 0 := cmp_ne (a := 1) (b := 0) (by omega) (by omega) c_38
                refine J_iload_n E dX6_sheet_47 rfl 4 rfl ?_
                refine J_if_ge E (tgt := 58) dX6_sheet_48 (by decide) (fun c_48 => ?_) (fun c_48 => ?_)
                · skip
                  refine J_iload_n E dX6_sheet_58 rfl 4 rfl ?_
                  refine J_bipush E dX6_sheet_59 bp_40 ?_
                  refine J_icmp_le E (tgt := 70) dX6_sheet_61 (by decide) (fun c_61 => ?_) (fun c_61 => ?_)
                  · skip
                    refine J_aload_n E dX6_sheet_70 rfl 1 rfl ?_
                    refine gM0_X6_31 E dX6_sheet_71 ?_
                    refine J_iload_n E dX6_sheet_74 rfl 2 rfl ?_
                    refine J_iload_n E dX6_sheet_75 rfl 3 rfl ?_
                    refine sMb_2 E  dX6_sheet_76 ?_
                    refine J_aload_n E dX6_sheet_77 rfl 1 rfl ?_
                    refine gM0_X6_34 E dX6_sheet_78 ?_
                    refine J_iload_n E dX6_sheet_81 rfl 2 rfl ?_
                    refine J_iload_n E dX6_sheet_82 rfl 3 rfl ?_
                    refine J_if_ne E (tgt := 90) dX6_sheet_83 (by decide) (fun c_83 => ?_) (fun c_83 => ?_)
                    · skip
                      have n_83 : ¬ 32 = 0 := cmp_ne (a := 32) (b := 0) (by omega) (by omega) c_83
                      refine J_iload_n E dX6_sheet_90 rfl 4 rfl ?_
                      refine sMz_2 E  dX6_sheet_91 ?_
                      refine J_iconst E dX6_sheet_92 ic_0 ?_
                      refine J_istore E (lv' := [(5, .int 0), (4, .int 1), (0, .ref (b 0)), (1, .int (nI 2)), (2, .int 32), (3, .int n)]) dX6_sheet_93 (by decide) rfl ?_
                      have lp95 : ∀ (fu : Nat) (i : Nat) (r : Q2), (i ≤ 40) → (r = upR ((up3 (up3 y 10 1 0 32) 10 1 1 n) 10) 0 (fillF (y 10 0) 0 i)) → 40 - i < fu → J X G 6 0 0 (wM G b (upG y 10 r)) [(0, .ref (b 0)), (1, .int (nI 2)), (2, .int 32), (3, .int n), (5, .int (nI i))] 95 [] := by
                        intro fu
                        induction fu with
                        | zero => intro i r hi hr hm; exact absurd hm (Nat.not_lt_zero _)
                        | succ fu ih95 =>
                          intro i r hi hr hm
                          refine J_iload E dX6_sheet_95 4 rfl ?_
                          refine J_bipush E dX6_sheet_97 bp_40 ?_
                          refine J_icmp_ge E (tgt := 121) dX6_sheet_99 (by decide) (fun c_99 => ?_) (fun c_99 => ?_)
                          · skip
                            have n_99 : 40 ≤ i := cmp_le (a := 40) (b := i) (by omega) (by omega) c_99
                            refine J_aload_n E dX6_sheet_121 rfl 0 rfl ?_
                            refine gM0_X6_34 E dX6_sheet_122 ?_
                            refine J_iload_n E dX6_sheet_125 rfl 1 rfl ?_
                            refine lMz_2 E  dX6_sheet_126 ?_
                            refine J_top (x' := r 1 1) upG_s ?_
                            refine J_mr10 (f := fun _ => 0) (fun j hj => by rw [hr, show i = 40 by omega]; exact fillF_lt _ _ 40 j hj) ?_
                            exact ret _ _ _ _ ⟨by rw [hr]; rfl, _, rfl, by rw [hr, upR_upR]; exact ShM.rfl'⟩ rfl dX6_sheet_127
                          · skip
                            have n_99 : ¬ 40 ≤ i := cmp_nle (a := 40) (b := i) (by omega) (by omega) c_99
                            refine J_aload_n E dX6_sheet_102 rfl 0 rfl ?_
                            refine gM0_X6_37 E dX6_sheet_103 ?_
                            refine J_bipush E dX6_sheet_106 bp_40 ?_
                            refine J_iload_n E dX6_sheet_108 rfl 1 rfl ?_
                            refine J_imul E dX6_sheet_109 ?_
                            refine J_top (x' := nI 80) (by decide) ?_
                            refine J_iload E dX6_sheet_110 4 rfl ?_
                            refine J_iadd E dX6_sheet_112 ?_
                            refine J_top (x' := nI (80 + i)) (nI_add 80 i) ?_
                            refine J_iconst E dX6_sheet_113 ic_0 ?_
                            refine sMn_2 E (j := (80 + i)) (i := i) rfl (by omega) dX6_sheet_114 ?_
                            refine J_iinc E (lv' := [(5, .int (nI (i + 1))), (0, .ref (b 0)), (1, .int (nI 2)), (2, .int 32), (3, .int n)]) dX6_sheet_115 4 rfl (nI_inc _) (by decide) rfl ?_
                            refine J_goto E (tgt := 95) dX6_sheet_118 (by decide) ?_
                            refine J_lv [1, 2, 3, 4, 0] rfl ?_
                            refine J_w (ws' := wM G b (upG y 10 ((up3 (upG y 10 r) 10 0 i 0) 10))) (wM_c rfl rfl rfl rfl rfl rfl rfl rfl rfl rfl rfl) ?_
                            exact ih95 (i + 1) ((up3 (upG y 10 r) 10 0 i 0) 10) (by omega) (by rw [hr]; exact up2_upR) (by omega)
                      refine J_lv [2, 3, 4, 5, 0] rfl ?_
                      refine J_w (ws' := wM G b (upG y 10 ((up3 (up3 y 10 1 0 32) 10 1 1 n) 10))) (wM_c rfl rfl rfl rfl rfl rfl rfl rfl rfl rfl rfl) ?_
                      exact lp95 _ 0 ((up3 (up3 y 10 1 0 32) 10 1 1 n) 10) (by omega) (upR_id (r := 0)).symm (Nat.lt_succ_self _)
                    · skip
                      have n_83 : 32 = 0 := cmp_eq (a := 32) (b := 0) (by omega) (by omega) c_83
                      exact absurd n_83 (by decide)
                  · skip
                    exact absurd hn2 c_61
                · skip
                  exact absurd (Int32.not_le.mp c_48) hn
              · skip
                have n_38 : 1 = 0 := cmp_eq (a := 1) (b := 0) (by omega) (by omega) c_38
                exact absurd n_38 (by decide)

set_option maxHeartbeats 4000000 in
set_option maxRecDepth 20000 in
theorem c_X6_sheet_ok_3 (l : Launch) (G : GB) (b : Nat → Nat) (y : Q3) (c n : Int32) (hbt : (c = 0 ∨ c = 8 ∨ c = 16 ∨ c = 32)) (hn : ¬ n < 0) (hn2 : n ≤ 40) : CI l yX6_sheet cX6_sheet 6 .int 2 45 G [.ref (b 0), .int (nI 3), .int c, .int n] (wM G b y) (fun vR w' => vR = (if c = 0 then 0 else n) ∧ PubM G b (upG y 11 (beginS (y 11) c (if c = 0 then 0 else n))) w') := by
  refine CI.mk (own := RX6) (by decide) rfl (Nat.le_of_ble_eq_true rfl) ?_
  intro X E ret
  show J X G 6 0 0 (wM G b y) [(0, .ref (b 0)), (1, .int (nI 3)), (2, .int c), (3, .int n)] 0 []
  rcases hbt with rfl | rfl | rfl | rfl
  · skip
    refine J_iload_n E dX6_sheet_0 rfl 2 rfl ?_
    refine J_if_eq E (tgt := 22) dX6_sheet_1 (by decide) (fun c_1 => ?_) (fun c_1 => ?_)
    · skip
      have n_1 : 0 = 0 := cmp_eq (a := 0) (b := 0) (by omega) (by omega) c_1
      refine J_iconst E dX6_sheet_22 ic_1 ?_
      refine J_goto E (tgt := 27) dX6_sheet_23 (by decide) ?_
      refine J_istore E (lv' := [(4, .int 1), (0, .ref (b 0)), (1, .int (nI 3)), (2, .int 0), (3, .int n)]) dX6_sheet_27 (by decide) rfl ?_
      refine J_iload_n E dX6_sheet_29 rfl 2 rfl ?_
      refine J_cSiN E (As := [.int (nI 3)]) (c_X6_isSheet l G (nI 3) ) cl_X6_303 yo_X6_isSheet dX6_sheet_30 rfl (Nat.le_of_ble_eq_true rfl) (Nat.le_of_ble_eq_true rfl) rfl (Nat.le_of_ble_eq_true rfl) ⟨Nat.zero_le _, Nat.zero_le _⟩ ?_
      refine J_if_eq E (tgt := 41) dX6_sheet_33 (by decide) (fun c_33 => ?_) (fun c_33 => ?_)
      · skip
        have c_33 := bI_0 c_33
        exact absurd (in3 (by decide)) c_33
      · skip
        have c_33 := bI_1 c_33
        refine J_iload E dX6_sheet_36 0 rfl ?_
        refine J_if_ne E (tgt := 47) dX6_sheet_38 (by decide) (fun c_38 => ?_) (fun c_38 => ?_)
        · skip
          have n_38 : ¬ 1 = 0 := cmp_ne (a := 1) (b := 0) (by omega) (by omega) c_38
          refine J_iload_n E dX6_sheet_47 rfl 4 rfl ?_
          refine J_if_ge E (tgt := 58) dX6_sheet_48 (by decide) (fun c_48 => ?_) (fun c_48 => ?_)
          · skip
            refine J_iload_n E dX6_sheet_58 rfl 4 rfl ?_
            refine J_bipush E dX6_sheet_59 bp_40 ?_
            refine J_icmp_le E (tgt := 70) dX6_sheet_61 (by decide) (fun c_61 => ?_) (fun c_61 => ?_)
            · skip
              refine J_aload_n E dX6_sheet_70 rfl 1 rfl ?_
              refine gM0_X6_31 E dX6_sheet_71 ?_
              refine J_iload_n E dX6_sheet_74 rfl 2 rfl ?_
              refine J_iload_n E dX6_sheet_75 rfl 3 rfl ?_
              refine sMb_3 E  dX6_sheet_76 ?_
              refine J_aload_n E dX6_sheet_77 rfl 1 rfl ?_
              refine gM0_X6_34 E dX6_sheet_78 ?_
              refine J_iload_n E dX6_sheet_81 rfl 2 rfl ?_
              refine J_iload_n E dX6_sheet_82 rfl 3 rfl ?_
              refine J_if_ne E (tgt := 90) dX6_sheet_83 (by decide) (fun c_83 => ?_) (fun c_83 => ?_)
              · skip
                have n_83 : ¬ 0 = 0 := cmp_ne (a := 0) (b := 0) (by omega) (by omega) c_83
                exact absurd n_83 (by decide)
              · skip
                have n_83 : 0 = 0 := cmp_eq (a := 0) (b := 0) (by omega) (by omega) c_83
                refine J_iconst E dX6_sheet_86 ic_0 ?_
                refine J_goto E (tgt := 91) dX6_sheet_87 (by decide) ?_
                refine sMz_3 E  dX6_sheet_91 ?_
                refine J_iconst E dX6_sheet_92 ic_0 ?_
                refine J_istore E (lv' := [(5, .int 0), (4, .int 1), (0, .ref (b 0)), (1, .int (nI 3)), (2, .int 0), (3, .int n)]) dX6_sheet_93 (by decide) rfl ?_
                have lp95 : ∀ (fu : Nat) (i : Nat) (r : Q2), (i ≤ 40) → (r = upR ((up3 (up3 y 11 1 0 0) 11 1 1 0) 11) 0 (fillF (y 11 0) 0 i)) → 40 - i < fu → J X G 6 0 0 (wM G b (upG y 11 r)) [(0, .ref (b 0)), (1, .int (nI 3)), (2, .int 0), (3, .int n), (5, .int (nI i))] 95 [] := by
                  intro fu
                  induction fu with
                  | zero => intro i r hi hr hm; exact absurd hm (Nat.not_lt_zero _)
                  | succ fu ih95 =>
                    intro i r hi hr hm
                    refine J_iload E dX6_sheet_95 4 rfl ?_
                    refine J_bipush E dX6_sheet_97 bp_40 ?_
                    refine J_icmp_ge E (tgt := 121) dX6_sheet_99 (by decide) (fun c_99 => ?_) (fun c_99 => ?_)
                    · skip
                      have n_99 : 40 ≤ i := cmp_le (a := 40) (b := i) (by omega) (by omega) c_99
                      refine J_aload_n E dX6_sheet_121 rfl 0 rfl ?_
                      refine gM0_X6_34 E dX6_sheet_122 ?_
                      refine J_iload_n E dX6_sheet_125 rfl 1 rfl ?_
                      refine lMz_3 E  dX6_sheet_126 ?_
                      refine J_top (x' := r 1 1) upG_s ?_
                      refine J_mr11 (f := fun _ => 0) (fun j hj => by rw [hr, show i = 40 by omega]; exact fillF_lt _ _ 40 j hj) ?_
                      exact ret _ _ _ _ ⟨by rw [hr]; rfl, _, rfl, by rw [hr, upR_upR]; exact ShM.rfl'⟩ rfl dX6_sheet_127
                    · skip
                      have n_99 : ¬ 40 ≤ i := cmp_nle (a := 40) (b := i) (by omega) (by omega) c_99
                      refine J_aload_n E dX6_sheet_102 rfl 0 rfl ?_
                      refine gM0_X6_37 E dX6_sheet_103 ?_
                      refine J_bipush E dX6_sheet_106 bp_40 ?_
                      refine J_iload_n E dX6_sheet_108 rfl 1 rfl ?_
                      refine J_imul E dX6_sheet_109 ?_
                      refine J_top (x' := nI 120) (by decide) ?_
                      refine J_iload E dX6_sheet_110 4 rfl ?_
                      refine J_iadd E dX6_sheet_112 ?_
                      refine J_top (x' := nI (120 + i)) (nI_add 120 i) ?_
                      refine J_iconst E dX6_sheet_113 ic_0 ?_
                      refine sMn_3 E (j := (120 + i)) (i := i) rfl (by omega) dX6_sheet_114 ?_
                      refine J_iinc E (lv' := [(5, .int (nI (i + 1))), (0, .ref (b 0)), (1, .int (nI 3)), (2, .int 0), (3, .int n)]) dX6_sheet_115 4 rfl (nI_inc _) (by decide) rfl ?_
                      refine J_goto E (tgt := 95) dX6_sheet_118 (by decide) ?_
                      refine J_lv [1, 2, 3, 4, 0] rfl ?_
                      refine J_w (ws' := wM G b (upG y 11 ((up3 (upG y 11 r) 11 0 i 0) 11))) (wM_c rfl rfl rfl rfl rfl rfl rfl rfl rfl rfl rfl) ?_
                      exact ih95 (i + 1) ((up3 (upG y 11 r) 11 0 i 0) 11) (by omega) (by rw [hr]; exact up2_upR) (by omega)
                refine J_lv [2, 3, 4, 5, 0] rfl ?_
                refine J_w (ws' := wM G b (upG y 11 ((up3 (up3 y 11 1 0 0) 11 1 1 0) 11))) (wM_c rfl rfl rfl rfl rfl rfl rfl rfl rfl rfl rfl) ?_
                exact lp95 _ 0 ((up3 (up3 y 11 1 0 0) 11 1 1 0) 11) (by omega) (upR_id (r := 0)).symm (Nat.lt_succ_self _)
            · skip
              exact absurd hn2 c_61
          · skip
            exact absurd (Int32.not_le.mp c_48) hn
        · skip
          have n_38 : 1 = 0 := cmp_eq (a := 1) (b := 0) (by omega) (by omega) c_38
          exact absurd n_38 (by decide)
    · skip
      have n_1 : ¬ 0 = 0 := cmp_ne (a := 0) (b := 0) (by omega) (by omega) c_1
      exact absurd n_1 (by decide)
  · skip
    refine J_iload_n E dX6_sheet_0 rfl 2 rfl ?_
    refine J_if_eq E (tgt := 22) dX6_sheet_1 (by decide) (fun c_1 => ?_) (fun c_1 => ?_)
    · skip
      have n_1 : 8 = 0 := cmp_eq (a := 8) (b := 0) (by omega) (by omega) c_1
      exact absurd n_1 (by decide)
    · skip
      have n_1 : ¬ 8 = 0 := cmp_ne (a := 8) (b := 0) (by omega) (by omega) c_1
      refine J_iload_n E dX6_sheet_4 rfl 2 rfl ?_
      refine J_bipush E dX6_sheet_5 bp_8 ?_
      refine J_icmp_eq E (tgt := 22) dX6_sheet_7 (by decide) (fun c_7 => ?_) (fun c_7 => ?_)
      · skip
        have n_7 : 8 = 8 := cmp_eq (a := 8) (b := 8) (by omega) (by omega) c_7
        refine J_iconst E dX6_sheet_22 ic_1 ?_
        refine J_goto E (tgt := 27) dX6_sheet_23 (by decide) ?_
        refine J_istore E (lv' := [(4, .int 1), (0, .ref (b 0)), (1, .int (nI 3)), (2, .int 8), (3, .int n)]) dX6_sheet_27 (by decide) rfl ?_
        refine J_iload_n E dX6_sheet_29 rfl 2 rfl ?_
        refine J_cSiN E (As := [.int (nI 3)]) (c_X6_isSheet l G (nI 3) ) cl_X6_303 yo_X6_isSheet dX6_sheet_30 rfl (Nat.le_of_ble_eq_true rfl) (Nat.le_of_ble_eq_true rfl) rfl (Nat.le_of_ble_eq_true rfl) ⟨Nat.zero_le _, Nat.zero_le _⟩ ?_
        refine J_if_eq E (tgt := 41) dX6_sheet_33 (by decide) (fun c_33 => ?_) (fun c_33 => ?_)
        · skip
          have c_33 := bI_0 c_33
          exact absurd (in3 (by decide)) c_33
        · skip
          have c_33 := bI_1 c_33
          refine J_iload E dX6_sheet_36 0 rfl ?_
          refine J_if_ne E (tgt := 47) dX6_sheet_38 (by decide) (fun c_38 => ?_) (fun c_38 => ?_)
          · skip
            have n_38 : ¬ 1 = 0 := cmp_ne (a := 1) (b := 0) (by omega) (by omega) c_38
            refine J_iload_n E dX6_sheet_47 rfl 4 rfl ?_
            refine J_if_ge E (tgt := 58) dX6_sheet_48 (by decide) (fun c_48 => ?_) (fun c_48 => ?_)
            · skip
              refine J_iload_n E dX6_sheet_58 rfl 4 rfl ?_
              refine J_bipush E dX6_sheet_59 bp_40 ?_
              refine J_icmp_le E (tgt := 70) dX6_sheet_61 (by decide) (fun c_61 => ?_) (fun c_61 => ?_)
              · skip
                refine J_aload_n E dX6_sheet_70 rfl 1 rfl ?_
                refine gM0_X6_31 E dX6_sheet_71 ?_
                refine J_iload_n E dX6_sheet_74 rfl 2 rfl ?_
                refine J_iload_n E dX6_sheet_75 rfl 3 rfl ?_
                refine sMb_3 E  dX6_sheet_76 ?_
                refine J_aload_n E dX6_sheet_77 rfl 1 rfl ?_
                refine gM0_X6_34 E dX6_sheet_78 ?_
                refine J_iload_n E dX6_sheet_81 rfl 2 rfl ?_
                refine J_iload_n E dX6_sheet_82 rfl 3 rfl ?_
                refine J_if_ne E (tgt := 90) dX6_sheet_83 (by decide) (fun c_83 => ?_) (fun c_83 => ?_)
                · skip
                  have n_83 : ¬ 8 = 0 := cmp_ne (a := 8) (b := 0) (by omega) (by omega) c_83
                  refine J_iload_n E dX6_sheet_90 rfl 4 rfl ?_
                  refine sMz_3 E  dX6_sheet_91 ?_
                  refine J_iconst E dX6_sheet_92 ic_0 ?_
                  refine J_istore E (lv' := [(5, .int 0), (4, .int 1), (0, .ref (b 0)), (1, .int (nI 3)), (2, .int 8), (3, .int n)]) dX6_sheet_93 (by decide) rfl ?_
                  have lp95 : ∀ (fu : Nat) (i : Nat) (r : Q2), (i ≤ 40) → (r = upR ((up3 (up3 y 11 1 0 8) 11 1 1 n) 11) 0 (fillF (y 11 0) 0 i)) → 40 - i < fu → J X G 6 0 0 (wM G b (upG y 11 r)) [(0, .ref (b 0)), (1, .int (nI 3)), (2, .int 8), (3, .int n), (5, .int (nI i))] 95 [] := by
                    intro fu
                    induction fu with
                    | zero => intro i r hi hr hm; exact absurd hm (Nat.not_lt_zero _)
                    | succ fu ih95 =>
                      intro i r hi hr hm
                      refine J_iload E dX6_sheet_95 4 rfl ?_
                      refine J_bipush E dX6_sheet_97 bp_40 ?_
                      refine J_icmp_ge E (tgt := 121) dX6_sheet_99 (by decide) (fun c_99 => ?_) (fun c_99 => ?_)
                      · skip
                        have n_99 : 40 ≤ i := cmp_le (a := 40) (b := i) (by omega) (by omega) c_99
                        refine J_aload_n E dX6_sheet_121 rfl 0 rfl ?_
                        refine gM0_X6_34 E dX6_sheet_122 ?_
                        refine J_iload_n E dX6_sheet_125 rfl 1 rfl ?_
                        refine lMz_3 E  dX6_sheet_126 ?_
                        refine J_top (x' := r 1 1) upG_s ?_
                        refine J_mr11 (f := fun _ => 0) (fun j hj => by rw [hr, show i = 40 by omega]; exact fillF_lt _ _ 40 j hj) ?_
                        exact ret _ _ _ _ ⟨by rw [hr]; rfl, _, rfl, by rw [hr, upR_upR]; exact ShM.rfl'⟩ rfl dX6_sheet_127
                      · skip
                        have n_99 : ¬ 40 ≤ i := cmp_nle (a := 40) (b := i) (by omega) (by omega) c_99
                        refine J_aload_n E dX6_sheet_102 rfl 0 rfl ?_
                        refine gM0_X6_37 E dX6_sheet_103 ?_
                        refine J_bipush E dX6_sheet_106 bp_40 ?_
                        refine J_iload_n E dX6_sheet_108 rfl 1 rfl ?_
                        refine J_imul E dX6_sheet_109 ?_
                        refine J_top (x' := nI 120) (by decide) ?_
                        refine J_iload E dX6_sheet_110 4 rfl ?_
                        refine J_iadd E dX6_sheet_112 ?_
                        refine J_top (x' := nI (120 + i)) (nI_add 120 i) ?_
                        refine J_iconst E dX6_sheet_113 ic_0 ?_
                        refine sMn_3 E (j := (120 + i)) (i := i) rfl (by omega) dX6_sheet_114 ?_
                        refine J_iinc E (lv' := [(5, .int (nI (i + 1))), (0, .ref (b 0)), (1, .int (nI 3)), (2, .int 8), (3, .int n)]) dX6_sheet_115 4 rfl (nI_inc _) (by decide) rfl ?_
                        refine J_goto E (tgt := 95) dX6_sheet_118 (by decide) ?_
                        refine J_lv [1, 2, 3, 4, 0] rfl ?_
                        refine J_w (ws' := wM G b (upG y 11 ((up3 (upG y 11 r) 11 0 i 0) 11))) (wM_c rfl rfl rfl rfl rfl rfl rfl rfl rfl rfl rfl) ?_
                        exact ih95 (i + 1) ((up3 (upG y 11 r) 11 0 i 0) 11) (by omega) (by rw [hr]; exact up2_upR) (by omega)
                  refine J_lv [2, 3, 4, 5, 0] rfl ?_
                  refine J_w (ws' := wM G b (upG y 11 ((up3 (up3 y 11 1 0 8) 11 1 1 n) 11))) (wM_c rfl rfl rfl rfl rfl rfl rfl rfl rfl rfl rfl) ?_
                  exact lp95 _ 0 ((up3 (up3 y 11 1 0 8) 11 1 1 n) 11) (by omega) (upR_id (r := 0)).symm (Nat.lt_succ_self _)
                · skip
                  have n_83 : 8 = 0 := cmp_eq (a := 8) (b := 0) (by omega) (by omega) c_83
                  exact absurd n_83 (by decide)
              · skip
                exact absurd hn2 c_61
            · skip
              exact absurd (Int32.not_le.mp c_48) hn
          · skip
            have n_38 : 1 = 0 := cmp_eq (a := 1) (b := 0) (by omega) (by omega) c_38
            exact absurd n_38 (by decide)
      · skip
        have n_7 : ¬ 8 = 8 := cmp_ne (a := 8) (b := 8) (by omega) (by omega) c_7
        exact absurd n_7 (by decide)
  · skip
    refine J_iload_n E dX6_sheet_0 rfl 2 rfl ?_
    refine J_if_eq E (tgt := 22) dX6_sheet_1 (by decide) (fun c_1 => ?_) (fun c_1 => ?_)
    · skip
      have n_1 : 16 = 0 := cmp_eq (a := 16) (b := 0) (by omega) (by omega) c_1
      exact absurd n_1 (by decide)
    · skip
      have n_1 : ¬ 16 = 0 := cmp_ne (a := 16) (b := 0) (by omega) (by omega) c_1
      refine J_iload_n E dX6_sheet_4 rfl 2 rfl ?_
      refine J_bipush E dX6_sheet_5 bp_8 ?_
      refine J_icmp_eq E (tgt := 22) dX6_sheet_7 (by decide) (fun c_7 => ?_) (fun c_7 => ?_)
      · skip
        have n_7 : 16 = 8 := cmp_eq (a := 16) (b := 8) (by omega) (by omega) c_7
        exact absurd n_7 (by decide)
      · skip
        have n_7 : ¬ 16 = 8 := cmp_ne (a := 16) (b := 8) (by omega) (by omega) c_7
        refine J_iload_n E dX6_sheet_10 rfl 2 rfl ?_
        refine J_bipush E dX6_sheet_11 bp_16 ?_
        refine J_icmp_eq E (tgt := 22) dX6_sheet_13 (by decide) (fun c_13 => ?_) (fun c_13 => ?_)
        · skip
          have n_13 : 16 = 16 := cmp_eq (a := 16) (b := 16) (by omega) (by omega) c_13
          refine J_iconst E dX6_sheet_22 ic_1 ?_
          refine J_goto E (tgt := 27) dX6_sheet_23 (by decide) ?_
          refine J_istore E (lv' := [(4, .int 1), (0, .ref (b 0)), (1, .int (nI 3)), (2, .int 16), (3, .int n)]) dX6_sheet_27 (by decide) rfl ?_
          refine J_iload_n E dX6_sheet_29 rfl 2 rfl ?_
          refine J_cSiN E (As := [.int (nI 3)]) (c_X6_isSheet l G (nI 3) ) cl_X6_303 yo_X6_isSheet dX6_sheet_30 rfl (Nat.le_of_ble_eq_true rfl) (Nat.le_of_ble_eq_true rfl) rfl (Nat.le_of_ble_eq_true rfl) ⟨Nat.zero_le _, Nat.zero_le _⟩ ?_
          refine J_if_eq E (tgt := 41) dX6_sheet_33 (by decide) (fun c_33 => ?_) (fun c_33 => ?_)
          · skip
            have c_33 := bI_0 c_33
            exact absurd (in3 (by decide)) c_33
          · skip
            have c_33 := bI_1 c_33
            refine J_iload E dX6_sheet_36 0 rfl ?_
            refine J_if_ne E (tgt := 47) dX6_sheet_38 (by decide) (fun c_38 => ?_) (fun c_38 => ?_)
            · skip
              have n_38 : ¬ 1 = 0 := cmp_ne (a := 1) (b := 0) (by omega) (by omega) c_38
              refine J_iload_n E dX6_sheet_47 rfl 4 rfl ?_
              refine J_if_ge E (tgt := 58) dX6_sheet_48 (by decide) (fun c_48 => ?_) (fun c_48 => ?_)
              · skip
                refine J_iload_n E dX6_sheet_58 rfl 4 rfl ?_
                refine J_bipush E dX6_sheet_59 bp_40 ?_
                refine J_icmp_le E (tgt := 70) dX6_sheet_61 (by decide) (fun c_61 => ?_) (fun c_61 => ?_)
                · skip
                  refine J_aload_n E dX6_sheet_70 rfl 1 rfl ?_
                  refine gM0_X6_31 E dX6_sheet_71 ?_
                  refine J_iload_n E dX6_sheet_74 rfl 2 rfl ?_
                  refine J_iload_n E dX6_sheet_75 rfl 3 rfl ?_
                  refine sMb_3 E  dX6_sheet_76 ?_
                  refine J_aload_n E dX6_sheet_77 rfl 1 rfl ?_
                  refine gM0_X6_34 E dX6_sheet_78 ?_
                  refine J_iload_n E dX6_sheet_81 rfl 2 rfl ?_
                  refine J_iload_n E dX6_sheet_82 rfl 3 rfl ?_
                  refine J_if_ne E (tgt := 90) dX6_sheet_83 (by decide) (fun c_83 => ?_) (fun c_83 => ?_)
                  · skip
                    have n_83 : ¬ 16 = 0 := cmp_ne (a := 16) (b := 0) (by omega) (by omega) c_83
                    refine J_iload_n E dX6_sheet_90 rfl 4 rfl ?_
                    refine sMz_3 E  dX6_sheet_91 ?_
                    refine J_iconst E dX6_sheet_92 ic_0 ?_
                    refine J_istore E (lv' := [(5, .int 0), (4, .int 1), (0, .ref (b 0)), (1, .int (nI 3)), (2, .int 16), (3, .int n)]) dX6_sheet_93 (by decide) rfl ?_
                    have lp95 : ∀ (fu : Nat) (i : Nat) (r : Q2), (i ≤ 40) → (r = upR ((up3 (up3 y 11 1 0 16) 11 1 1 n) 11) 0 (fillF (y 11 0) 0 i)) → 40 - i < fu → J X G 6 0 0 (wM G b (upG y 11 r)) [(0, .ref (b 0)), (1, .int (nI 3)), (2, .int 16), (3, .int n), (5, .int (nI i))] 95 [] := by
                      intro fu
                      induction fu with
                      | zero => intro i r hi hr hm; exact absurd hm (Nat.not_lt_zero _)
                      | succ fu ih95 =>
                        intro i r hi hr hm
                        refine J_iload E dX6_sheet_95 4 rfl ?_
                        refine J_bipush E dX6_sheet_97 bp_40 ?_
                        refine J_icmp_ge E (tgt := 121) dX6_sheet_99 (by decide) (fun c_99 => ?_) (fun c_99 => ?_)
                        · skip
                          have n_99 : 40 ≤ i := cmp_le (a := 40) (b := i) (by omega) (by omega) c_99
                          refine J_aload_n E dX6_sheet_121 rfl 0 rfl ?_
                          refine gM0_X6_34 E dX6_sheet_122 ?_
                          refine J_iload_n E dX6_sheet_125 rfl 1 rfl ?_
                          refine lMz_3 E  dX6_sheet_126 ?_
                          refine J_top (x' := r 1 1) upG_s ?_
                          refine J_mr11 (f := fun _ => 0) (fun j hj => by rw [hr, show i = 40 by omega]; exact fillF_lt _ _ 40 j hj) ?_
                          exact ret _ _ _ _ ⟨by rw [hr]; rfl, _, rfl, by rw [hr, upR_upR]; exact ShM.rfl'⟩ rfl dX6_sheet_127
                        · skip
                          have n_99 : ¬ 40 ≤ i := cmp_nle (a := 40) (b := i) (by omega) (by omega) c_99
                          refine J_aload_n E dX6_sheet_102 rfl 0 rfl ?_
                          refine gM0_X6_37 E dX6_sheet_103 ?_
                          refine J_bipush E dX6_sheet_106 bp_40 ?_
                          refine J_iload_n E dX6_sheet_108 rfl 1 rfl ?_
                          refine J_imul E dX6_sheet_109 ?_
                          refine J_top (x' := nI 120) (by decide) ?_
                          refine J_iload E dX6_sheet_110 4 rfl ?_
                          refine J_iadd E dX6_sheet_112 ?_
                          refine J_top (x' := nI (120 + i)) (nI_add 120 i) ?_
                          refine J_iconst E dX6_sheet_113 ic_0 ?_
                          refine sMn_3 E (j := (120 + i)) (i := i) rfl (by omega) dX6_sheet_114 ?_
                          refine J_iinc E (lv' := [(5, .int (nI (i + 1))), (0, .ref (b 0)), (1, .int (nI 3)), (2, .int 16), (3, .int n)]) dX6_sheet_115 4 rfl (nI_inc _) (by decide) rfl ?_
                          refine J_goto E (tgt := 95) dX6_sheet_118 (by decide) ?_
                          refine J_lv [1, 2, 3, 4, 0] rfl ?_
                          refine J_w (ws' := wM G b (upG y 11 ((up3 (upG y 11 r) 11 0 i 0) 11))) (wM_c rfl rfl rfl rfl rfl rfl rfl rfl rfl rfl rfl) ?_
                          exact ih95 (i + 1) ((up3 (upG y 11 r) 11 0 i 0) 11) (by omega) (by rw [hr]; exact up2_upR) (by omega)
                    refine J_lv [2, 3, 4, 5, 0] rfl ?_
                    refine J_w (ws' := wM G b (upG y 11 ((up3 (up3 y 11 1 0 16) 11 1 1 n) 11))) (wM_c rfl rfl rfl rfl rfl rfl rfl rfl rfl rfl rfl) ?_
                    exact lp95 _ 0 ((up3 (up3 y 11 1 0 16) 11 1 1 n) 11) (by omega) (upR_id (r := 0)).symm (Nat.lt_succ_self _)
                  · skip
                    have n_83 : 16 = 0 := cmp_eq (a := 16) (b := 0) (by omega) (by omega) c_83
                    exact absurd n_83 (by decide)
                · skip
                  exact absurd hn2 c_61
              · skip
                exact absurd (Int32.not_le.mp c_48) hn
            · skip
              have n_38 : 1 = 0 := cmp_eq (a := 1) (b := 0) (by omega) (by omega) c_38
              exact absurd n_38 (by decide)
        · skip
          have n_13 : ¬ 16 = 16 := cmp_ne (a := 16) (b := 16) (by omega) (by omega) c_13
          exact absurd n_13 (by decide)
  · skip
    refine J_iload_n E dX6_sheet_0 rfl 2 rfl ?_
    refine J_if_eq E (tgt := 22) dX6_sheet_1 (by decide) (fun c_1 => ?_) (fun c_1 => ?_)
    · skip
      have n_1 : 32 = 0 := cmp_eq (a := 32) (b := 0) (by omega) (by omega) c_1
      exact absurd n_1 (by decide)
    · skip
      have n_1 : ¬ 32 = 0 := cmp_ne (a := 32) (b := 0) (by omega) (by omega) c_1
      refine J_iload_n E dX6_sheet_4 rfl 2 rfl ?_
      refine J_bipush E dX6_sheet_5 bp_8 ?_
      refine J_icmp_eq E (tgt := 22) dX6_sheet_7 (by decide) (fun c_7 => ?_) (fun c_7 => ?_)
      · skip
        have n_7 : 32 = 8 := cmp_eq (a := 32) (b := 8) (by omega) (by omega) c_7
        exact absurd n_7 (by decide)
      · skip
        have n_7 : ¬ 32 = 8 := cmp_ne (a := 32) (b := 8) (by omega) (by omega) c_7
        refine J_iload_n E dX6_sheet_10 rfl 2 rfl ?_
        refine J_bipush E dX6_sheet_11 bp_16 ?_
        refine J_icmp_eq E (tgt := 22) dX6_sheet_13 (by decide) (fun c_13 => ?_) (fun c_13 => ?_)
        · skip
          have n_13 : 32 = 16 := cmp_eq (a := 32) (b := 16) (by omega) (by omega) c_13
          exact absurd n_13 (by decide)
        · skip
          have n_13 : ¬ 32 = 16 := cmp_ne (a := 32) (b := 16) (by omega) (by omega) c_13
          refine J_iload_n E dX6_sheet_16 rfl 2 rfl ?_
          refine J_bipush E dX6_sheet_17 bp_32 ?_
          refine J_icmp_ne E (tgt := 26) dX6_sheet_19 (by decide) (fun c_19 => ?_) (fun c_19 => ?_)
          · skip
            have n_19 : ¬ 32 = 32 := cmp_ne (a := 32) (b := 32) (by omega) (by omega) c_19
            exact absurd n_19 (by decide)
          · skip
            have n_19 : 32 = 32 := cmp_eq (a := 32) (b := 32) (by omega) (by omega) c_19
            refine J_iconst E dX6_sheet_22 ic_1 ?_
            refine J_goto E (tgt := 27) dX6_sheet_23 (by decide) ?_
            refine J_istore E (lv' := [(4, .int 1), (0, .ref (b 0)), (1, .int (nI 3)), (2, .int 32), (3, .int n)]) dX6_sheet_27 (by decide) rfl ?_
            refine J_iload_n E dX6_sheet_29 rfl 2 rfl ?_
            refine J_cSiN E (As := [.int (nI 3)]) (c_X6_isSheet l G (nI 3) ) cl_X6_303 yo_X6_isSheet dX6_sheet_30 rfl (Nat.le_of_ble_eq_true rfl) (Nat.le_of_ble_eq_true rfl) rfl (Nat.le_of_ble_eq_true rfl) ⟨Nat.zero_le _, Nat.zero_le _⟩ ?_
            refine J_if_eq E (tgt := 41) dX6_sheet_33 (by decide) (fun c_33 => ?_) (fun c_33 => ?_)
            · skip
              have c_33 := bI_0 c_33
              exact absurd (in3 (by decide)) c_33
            · skip
              have c_33 := bI_1 c_33
              refine J_iload E dX6_sheet_36 0 rfl ?_
              refine J_if_ne E (tgt := 47) dX6_sheet_38 (by decide) (fun c_38 => ?_) (fun c_38 => ?_)
              · skip
                have n_38 : ¬ 1 = 0 := cmp_ne (a := 1) (b := 0) (by omega) (by omega) c_38
                refine J_iload_n E dX6_sheet_47 rfl 4 rfl ?_
                refine J_if_ge E (tgt := 58) dX6_sheet_48 (by decide) (fun c_48 => ?_) (fun c_48 => ?_)
                · skip
                  refine J_iload_n E dX6_sheet_58 rfl 4 rfl ?_
                  refine J_bipush E dX6_sheet_59 bp_40 ?_
                  refine J_icmp_le E (tgt := 70) dX6_sheet_61 (by decide) (fun c_61 => ?_) (fun c_61 => ?_)
                  · skip
                    refine J_aload_n E dX6_sheet_70 rfl 1 rfl ?_
                    refine gM0_X6_31 E dX6_sheet_71 ?_
                    refine J_iload_n E dX6_sheet_74 rfl 2 rfl ?_
                    refine J_iload_n E dX6_sheet_75 rfl 3 rfl ?_
                    refine sMb_3 E  dX6_sheet_76 ?_
                    refine J_aload_n E dX6_sheet_77 rfl 1 rfl ?_
                    refine gM0_X6_34 E dX6_sheet_78 ?_
                    refine J_iload_n E dX6_sheet_81 rfl 2 rfl ?_
                    refine J_iload_n E dX6_sheet_82 rfl 3 rfl ?_
                    refine J_if_ne E (tgt := 90) dX6_sheet_83 (by decide) (fun c_83 => ?_) (fun c_83 => ?_)
                    · skip
                      have n_83 : ¬ 32 = 0 := cmp_ne (a := 32) (b := 0) (by omega) (by omega) c_83
                      refine J_iload_n E dX6_sheet_90 rfl 4 rfl ?_
                      refine sMz_3 E  dX6_sheet_91 ?_
                      refine J_iconst E dX6_sheet_92 ic_0 ?_
                      refine J_istore E (lv' := [(5, .int 0), (4, .int 1), (0, .ref (b 0)), (1, .int (nI 3)), (2, .int 32), (3, .int n)]) dX6_sheet_93 (by decide) rfl ?_
                      have lp95 : ∀ (fu : Nat) (i : Nat) (r : Q2), (i ≤ 40) → (r = upR ((up3 (up3 y 11 1 0 32) 11 1 1 n) 11) 0 (fillF (y 11 0) 0 i)) → 40 - i < fu → J X G 6 0 0 (wM G b (upG y 11 r)) [(0, .ref (b 0)), (1, .int (nI 3)), (2, .int 32), (3, .int n), (5, .int (nI i))] 95 [] := by
                        intro fu
                        induction fu with
                        | zero => intro i r hi hr hm; exact absurd hm (Nat.not_lt_zero _)
                        | succ fu ih95 =>
                          intro i r hi hr hm
                          refine J_iload E dX6_sheet_95 4 rfl ?_
                          refine J_bipush E dX6_sheet_97 bp_40 ?_
                          refine J_icmp_ge E (tgt := 121) dX6_sheet_99 (by decide) (fun c_99 => ?_) (fun c_99 => ?_)
                          · skip
                            have n_99 : 40 ≤ i := cmp_le (a := 40) (b := i) (by omega) (by omega) c_99
                            refine J_aload_n E dX6_sheet_121 rfl 0 rfl ?_
                            refine gM0_X6_34 E dX6_sheet_122 ?_
                            refine J_iload_n E dX6_sheet_125 rfl 1 rfl ?_
                            refine lMz_3 E  dX6_sheet_126 ?_
                            refine J_top (x' := r 1 1) upG_s ?_
                            refine J_mr11 (f := fun _ => 0) (fun j hj => by rw [hr, show i = 40 by omega]; exact fillF_lt _ _ 40 j hj) ?_
                            exact ret _ _ _ _ ⟨by rw [hr]; rfl, _, rfl, by rw [hr, upR_upR]; exact ShM.rfl'⟩ rfl dX6_sheet_127
                          · skip
                            have n_99 : ¬ 40 ≤ i := cmp_nle (a := 40) (b := i) (by omega) (by omega) c_99
                            refine J_aload_n E dX6_sheet_102 rfl 0 rfl ?_
                            refine gM0_X6_37 E dX6_sheet_103 ?_
                            refine J_bipush E dX6_sheet_106 bp_40 ?_
                            refine J_iload_n E dX6_sheet_108 rfl 1 rfl ?_
                            refine J_imul E dX6_sheet_109 ?_
                            refine J_top (x' := nI 120) (by decide) ?_
                            refine J_iload E dX6_sheet_110 4 rfl ?_
                            refine J_iadd E dX6_sheet_112 ?_
                            refine J_top (x' := nI (120 + i)) (nI_add 120 i) ?_
                            refine J_iconst E dX6_sheet_113 ic_0 ?_
                            refine sMn_3 E (j := (120 + i)) (i := i) rfl (by omega) dX6_sheet_114 ?_
                            refine J_iinc E (lv' := [(5, .int (nI (i + 1))), (0, .ref (b 0)), (1, .int (nI 3)), (2, .int 32), (3, .int n)]) dX6_sheet_115 4 rfl (nI_inc _) (by decide) rfl ?_
                            refine J_goto E (tgt := 95) dX6_sheet_118 (by decide) ?_
                            refine J_lv [1, 2, 3, 4, 0] rfl ?_
                            refine J_w (ws' := wM G b (upG y 11 ((up3 (upG y 11 r) 11 0 i 0) 11))) (wM_c rfl rfl rfl rfl rfl rfl rfl rfl rfl rfl rfl) ?_
                            exact ih95 (i + 1) ((up3 (upG y 11 r) 11 0 i 0) 11) (by omega) (by rw [hr]; exact up2_upR) (by omega)
                      refine J_lv [2, 3, 4, 5, 0] rfl ?_
                      refine J_w (ws' := wM G b (upG y 11 ((up3 (up3 y 11 1 0 32) 11 1 1 n) 11))) (wM_c rfl rfl rfl rfl rfl rfl rfl rfl rfl rfl rfl) ?_
                      exact lp95 _ 0 ((up3 (up3 y 11 1 0 32) 11 1 1 n) 11) (by omega) (upR_id (r := 0)).symm (Nat.lt_succ_self _)
                    · skip
                      have n_83 : 32 = 0 := cmp_eq (a := 32) (b := 0) (by omega) (by omega) c_83
                      exact absurd n_83 (by decide)
                  · skip
                    exact absurd hn2 c_61
                · skip
                  exact absurd (Int32.not_le.mp c_48) hn
              · skip
                have n_38 : 1 = 0 := cmp_eq (a := 1) (b := 0) (by omega) (by omega) c_38
                exact absurd n_38 (by decide)

set_option maxHeartbeats 4000000 in
set_option maxRecDepth 20000 in
theorem c_X6_write_out (l : Launch) (G : GB) (b : Nat → Nat) (y : Q3) (s : Int32) (i : Int32) (v : Int32) (hs : ¬ (0 ≤ s ∧ s ≤ 3)) : CI l yX6_write cX6_write 5 .int 3 66 G [.ref (b 0), .int s, .int i, .int v] (wM G b y) (fun vR w' => vR = tellR 0 ∧ PubM G b (tellX y 0) w') := by
  refine CI.mk (own := RX6) (by decide) rfl (Nat.le_of_ble_eq_true rfl) ?_
  intro X E ret
  show J X G 5 0 0 (wM G b y) [(0, .ref (b 0)), (1, .int s), (2, .int i), (3, .int v)] 0 []
  refine J_aload_n E dX6_write_0 rfl 0 rfl ?_
  refine J_iload_n E dX6_write_1 rfl 1 rfl ?_
  refine J_cVi0 E (As := [.int s]) (c_X6_lacks_out l G b y s hs ) cl_X6_197 yo_X6_lacks dX6_write_2 rfl rfl rfl (Nat.le_of_ble_eq_true rfl) (Nat.le_of_ble_eq_true rfl) rfl (Nat.le_of_ble_eq_true rfl) ⟨Nat.zero_le _, Nat.zero_le _⟩ ?_
  refine J_istore E (lv' := [(4, .int 0), (0, .ref (b 0)), (1, .int s), (2, .int i), (3, .int v)]) dX6_write_5 (by decide) rfl ?_
  refine J_iload E dX6_write_7 0 rfl ?_
  refine J_if_lt E (tgt := 19) dX6_write_9 (by decide) (fun c_9 => ?_) (fun c_9 => ?_)
  · skip
    have n_9 : 0 < 0 := cmp_lt (a := 0) (b := 0) (by omega) (by omega) c_9
    exact absurd n_9 (by decide)
  · skip
    have n_9 : ¬ 0 < 0 := cmp_nlt (a := 0) (b := 0) (by omega) (by omega) c_9
    refine J_aload_n E dX6_write_12 rfl 1 rfl ?_
    refine J_iload E dX6_write_13 0 rfl ?_
    refine J_cVi0 E (As := [.int 0]) (c_X6_finds l G b y 0 (by omega)) cl_X6_96 yo_X6_finds dX6_write_15 rfl rfl rfl (Nat.le_of_ble_eq_true rfl) (Nat.le_of_ble_eq_true rfl) rfl (Nat.le_of_ble_eq_true rfl) ⟨Nat.zero_le _, Nat.zero_le _⟩ ?_
    exact ret _ _ _ _ ⟨rfl, _, rfl, by intro g h2 h5 h6; by_cases h0 : g = 0 <;> simp [tellX, upG, up3, up3R, up2, h0, h2, h5, h6]⟩ rfl dX6_write_18

set_option maxHeartbeats 4000000 in
set_option maxRecDepth 20000 in
theorem c_X6_write_miss_0 (l : Launch) (G : GB) (b : Nat → Nat) (y : Q3) (i : Int32) (v : Int32) (hb : y 8 1 0 = 0) : CI l yX6_write cX6_write 5 .int 3 66 G [.ref (b 0), .int (nI 0), .int i, .int v] (wM G b y) (fun vR w' => vR = tellR 5 ∧ PubM G b (tellX y 5) w') := by
  refine CI.mk (own := RX6) (by decide) rfl (Nat.le_of_ble_eq_true rfl) ?_
  intro X E ret
  show J X G 5 0 0 (wM G b y) [(0, .ref (b 0)), (1, .int (nI 0)), (2, .int i), (3, .int v)] 0 []
  refine J_aload_n E dX6_write_0 rfl 0 rfl ?_
  refine J_iload_n E dX6_write_1 rfl 1 rfl ?_
  refine J_cVi0 E (As := [.int (nI 0)]) (c_X6_lacks_0_0 l G b y hb ) cl_X6_197 yo_X6_lacks dX6_write_2 rfl rfl rfl (Nat.le_of_ble_eq_true rfl) (Nat.le_of_ble_eq_true rfl) rfl (Nat.le_of_ble_eq_true rfl) ⟨Nat.zero_le _, Nat.zero_le _⟩ ?_
  refine J_istore E (lv' := [(4, .int 5), (0, .ref (b 0)), (1, .int (nI 0)), (2, .int i), (3, .int v)]) dX6_write_5 (by decide) rfl ?_
  refine J_iload E dX6_write_7 0 rfl ?_
  refine J_if_lt E (tgt := 19) dX6_write_9 (by decide) (fun c_9 => ?_) (fun c_9 => ?_)
  · skip
    have n_9 : 5 < 0 := cmp_lt (a := 5) (b := 0) (by omega) (by omega) c_9
    exact absurd n_9 (by decide)
  · skip
    have n_9 : ¬ 5 < 0 := cmp_nlt (a := 5) (b := 0) (by omega) (by omega) c_9
    refine J_aload_n E dX6_write_12 rfl 1 rfl ?_
    refine J_iload E dX6_write_13 0 rfl ?_
    refine J_cVi0 E (As := [.int 5]) (c_X6_finds l G b y 5 (by omega)) cl_X6_96 yo_X6_finds dX6_write_15 rfl rfl rfl (Nat.le_of_ble_eq_true rfl) (Nat.le_of_ble_eq_true rfl) rfl (Nat.le_of_ble_eq_true rfl) ⟨Nat.zero_le _, Nat.zero_le _⟩ ?_
    exact ret _ _ _ _ ⟨rfl, _, rfl, by intro g h2 h5 h6; by_cases h0 : g = 0 <;> simp [tellX, upG, up3, up3R, up2, h0, h2, h5, h6]⟩ rfl dX6_write_18

set_option maxHeartbeats 4000000 in
set_option maxRecDepth 20000 in
theorem c_X6_write_miss_1 (l : Launch) (G : GB) (b : Nat → Nat) (y : Q3) (i : Int32) (v : Int32) (hb : y 9 1 0 = 0) : CI l yX6_write cX6_write 5 .int 3 66 G [.ref (b 0), .int (nI 1), .int i, .int v] (wM G b y) (fun vR w' => vR = tellR 5 ∧ PubM G b (tellX y 5) w') := by
  refine CI.mk (own := RX6) (by decide) rfl (Nat.le_of_ble_eq_true rfl) ?_
  intro X E ret
  show J X G 5 0 0 (wM G b y) [(0, .ref (b 0)), (1, .int (nI 1)), (2, .int i), (3, .int v)] 0 []
  refine J_aload_n E dX6_write_0 rfl 0 rfl ?_
  refine J_iload_n E dX6_write_1 rfl 1 rfl ?_
  refine J_cVi0 E (As := [.int (nI 1)]) (c_X6_lacks_1_0 l G b y hb ) cl_X6_197 yo_X6_lacks dX6_write_2 rfl rfl rfl (Nat.le_of_ble_eq_true rfl) (Nat.le_of_ble_eq_true rfl) rfl (Nat.le_of_ble_eq_true rfl) ⟨Nat.zero_le _, Nat.zero_le _⟩ ?_
  refine J_istore E (lv' := [(4, .int 5), (0, .ref (b 0)), (1, .int (nI 1)), (2, .int i), (3, .int v)]) dX6_write_5 (by decide) rfl ?_
  refine J_iload E dX6_write_7 0 rfl ?_
  refine J_if_lt E (tgt := 19) dX6_write_9 (by decide) (fun c_9 => ?_) (fun c_9 => ?_)
  · skip
    have n_9 : 5 < 0 := cmp_lt (a := 5) (b := 0) (by omega) (by omega) c_9
    exact absurd n_9 (by decide)
  · skip
    have n_9 : ¬ 5 < 0 := cmp_nlt (a := 5) (b := 0) (by omega) (by omega) c_9
    refine J_aload_n E dX6_write_12 rfl 1 rfl ?_
    refine J_iload E dX6_write_13 0 rfl ?_
    refine J_cVi0 E (As := [.int 5]) (c_X6_finds l G b y 5 (by omega)) cl_X6_96 yo_X6_finds dX6_write_15 rfl rfl rfl (Nat.le_of_ble_eq_true rfl) (Nat.le_of_ble_eq_true rfl) rfl (Nat.le_of_ble_eq_true rfl) ⟨Nat.zero_le _, Nat.zero_le _⟩ ?_
    exact ret _ _ _ _ ⟨rfl, _, rfl, by intro g h2 h5 h6; by_cases h0 : g = 0 <;> simp [tellX, upG, up3, up3R, up2, h0, h2, h5, h6]⟩ rfl dX6_write_18

set_option maxHeartbeats 4000000 in
set_option maxRecDepth 20000 in
theorem c_X6_write_miss_2 (l : Launch) (G : GB) (b : Nat → Nat) (y : Q3) (i : Int32) (v : Int32) (hb : y 10 1 0 = 0) : CI l yX6_write cX6_write 5 .int 3 66 G [.ref (b 0), .int (nI 2), .int i, .int v] (wM G b y) (fun vR w' => vR = tellR 5 ∧ PubM G b (tellX y 5) w') := by
  refine CI.mk (own := RX6) (by decide) rfl (Nat.le_of_ble_eq_true rfl) ?_
  intro X E ret
  show J X G 5 0 0 (wM G b y) [(0, .ref (b 0)), (1, .int (nI 2)), (2, .int i), (3, .int v)] 0 []
  refine J_aload_n E dX6_write_0 rfl 0 rfl ?_
  refine J_iload_n E dX6_write_1 rfl 1 rfl ?_
  refine J_cVi0 E (As := [.int (nI 2)]) (c_X6_lacks_2_0 l G b y hb ) cl_X6_197 yo_X6_lacks dX6_write_2 rfl rfl rfl (Nat.le_of_ble_eq_true rfl) (Nat.le_of_ble_eq_true rfl) rfl (Nat.le_of_ble_eq_true rfl) ⟨Nat.zero_le _, Nat.zero_le _⟩ ?_
  refine J_istore E (lv' := [(4, .int 5), (0, .ref (b 0)), (1, .int (nI 2)), (2, .int i), (3, .int v)]) dX6_write_5 (by decide) rfl ?_
  refine J_iload E dX6_write_7 0 rfl ?_
  refine J_if_lt E (tgt := 19) dX6_write_9 (by decide) (fun c_9 => ?_) (fun c_9 => ?_)
  · skip
    have n_9 : 5 < 0 := cmp_lt (a := 5) (b := 0) (by omega) (by omega) c_9
    exact absurd n_9 (by decide)
  · skip
    have n_9 : ¬ 5 < 0 := cmp_nlt (a := 5) (b := 0) (by omega) (by omega) c_9
    refine J_aload_n E dX6_write_12 rfl 1 rfl ?_
    refine J_iload E dX6_write_13 0 rfl ?_
    refine J_cVi0 E (As := [.int 5]) (c_X6_finds l G b y 5 (by omega)) cl_X6_96 yo_X6_finds dX6_write_15 rfl rfl rfl (Nat.le_of_ble_eq_true rfl) (Nat.le_of_ble_eq_true rfl) rfl (Nat.le_of_ble_eq_true rfl) ⟨Nat.zero_le _, Nat.zero_le _⟩ ?_
    exact ret _ _ _ _ ⟨rfl, _, rfl, by intro g h2 h5 h6; by_cases h0 : g = 0 <;> simp [tellX, upG, up3, up3R, up2, h0, h2, h5, h6]⟩ rfl dX6_write_18

set_option maxHeartbeats 4000000 in
set_option maxRecDepth 20000 in
theorem c_X6_write_miss_3 (l : Launch) (G : GB) (b : Nat → Nat) (y : Q3) (i : Int32) (v : Int32) (hb : y 11 1 0 = 0) : CI l yX6_write cX6_write 5 .int 3 66 G [.ref (b 0), .int (nI 3), .int i, .int v] (wM G b y) (fun vR w' => vR = tellR 5 ∧ PubM G b (tellX y 5) w') := by
  refine CI.mk (own := RX6) (by decide) rfl (Nat.le_of_ble_eq_true rfl) ?_
  intro X E ret
  show J X G 5 0 0 (wM G b y) [(0, .ref (b 0)), (1, .int (nI 3)), (2, .int i), (3, .int v)] 0 []
  refine J_aload_n E dX6_write_0 rfl 0 rfl ?_
  refine J_iload_n E dX6_write_1 rfl 1 rfl ?_
  refine J_cVi0 E (As := [.int (nI 3)]) (c_X6_lacks_3_0 l G b y hb ) cl_X6_197 yo_X6_lacks dX6_write_2 rfl rfl rfl (Nat.le_of_ble_eq_true rfl) (Nat.le_of_ble_eq_true rfl) rfl (Nat.le_of_ble_eq_true rfl) ⟨Nat.zero_le _, Nat.zero_le _⟩ ?_
  refine J_istore E (lv' := [(4, .int 5), (0, .ref (b 0)), (1, .int (nI 3)), (2, .int i), (3, .int v)]) dX6_write_5 (by decide) rfl ?_
  refine J_iload E dX6_write_7 0 rfl ?_
  refine J_if_lt E (tgt := 19) dX6_write_9 (by decide) (fun c_9 => ?_) (fun c_9 => ?_)
  · skip
    have n_9 : 5 < 0 := cmp_lt (a := 5) (b := 0) (by omega) (by omega) c_9
    exact absurd n_9 (by decide)
  · skip
    have n_9 : ¬ 5 < 0 := cmp_nlt (a := 5) (b := 0) (by omega) (by omega) c_9
    refine J_aload_n E dX6_write_12 rfl 1 rfl ?_
    refine J_iload E dX6_write_13 0 rfl ?_
    refine J_cVi0 E (As := [.int 5]) (c_X6_finds l G b y 5 (by omega)) cl_X6_96 yo_X6_finds dX6_write_15 rfl rfl rfl (Nat.le_of_ble_eq_true rfl) (Nat.le_of_ble_eq_true rfl) rfl (Nat.le_of_ble_eq_true rfl) ⟨Nat.zero_le _, Nat.zero_le _⟩ ?_
    exact ret _ _ _ _ ⟨rfl, _, rfl, by intro g h2 h5 h6; by_cases h0 : g = 0 <;> simp [tellX, upG, up3, up3R, up2, h0, h2, h5, h6]⟩ rfl dX6_write_18

set_option maxHeartbeats 4000000 in
set_option maxRecDepth 20000 in
theorem c_X6_write_bad_0 (l : Launch) (G : GB) (b : Nat → Nat) (y : Q3) (i v : Int32) (n : Nat) (hb : ¬ y 8 1 0 = 0) (hn : y 8 1 1 = nI n) (hn2 : n ≤ 40) (hi : ¬ (0 ≤ i ∧ i < nI n)) : CI l yX6_write cX6_write 5 .int 3 66 G [.ref (b 0), .int (nI 0), .int i, .int v] (wM G b y) (fun vR w' => vR = tellR 0 ∧ PubM G b (tellX y 0) w') := by
  refine CI.mk (own := RX6) (by decide) rfl (Nat.le_of_ble_eq_true rfl) ?_
  intro X E ret
  show J X G 5 0 0 (wM G b y) [(0, .ref (b 0)), (1, .int (nI 0)), (2, .int i), (3, .int v)] 0 []
  refine J_aload_n E dX6_write_0 rfl 0 rfl ?_
  refine J_iload_n E dX6_write_1 rfl 1 rfl ?_
  refine J_cVi0 E (As := [.int (nI 0)]) (c_X6_lacks_0_1 l G b y hb ) cl_X6_197 yo_X6_lacks dX6_write_2 rfl rfl rfl (Nat.le_of_ble_eq_true rfl) (Nat.le_of_ble_eq_true rfl) rfl (Nat.le_of_ble_eq_true rfl) ⟨Nat.zero_le _, Nat.zero_le _⟩ ?_
  refine J_istore E (lv' := [(4, .int (-1)), (0, .ref (b 0)), (1, .int (nI 0)), (2, .int i), (3, .int v)]) dX6_write_5 (by decide) rfl ?_
  refine J_iload E dX6_write_7 0 rfl ?_
  refine J_if_lt E (tgt := 19) dX6_write_9 (by decide) (fun c_9 => ?_) (fun c_9 => ?_)
  · skip
    refine J_iload_n E dX6_write_19 rfl 3 rfl ?_
    refine J_i2l E dX6_write_20 rfl ?_
    refine J_lconst E dX6_write_21 lc_0 ?_
    refine J_aload_n E dX6_write_22 rfl 1 rfl ?_
    refine gM0_X6_34 E dX6_write_23 ?_
    refine J_iload_n E dX6_write_26 rfl 2 rfl ?_
    refine lMz_0 E  dX6_write_27 ?_
    refine J_top (x' := nI n) (hn) ?_
    refine J_iconst E dX6_write_28 ic_1 ?_
    refine J_isub E dX6_write_29 ?_
    refine J_i2l E dX6_write_30 rfl ?_
    refine J_cSiN E (As := [.long (Int32.toInt64 i), .long 0, .long (Int32.toInt64 ((nI n) - 1))]) (c_X6_in l G i 0 ((nI n) - 1) 0 (Int32.toInt64 ((nI n) - 1)) (by decide) rfl ) cl_X6_54 yo_X6_in dX6_write_31 rfl (Nat.le_of_ble_eq_true rfl) (Nat.le_of_ble_eq_true rfl) rfl (Nat.le_of_ble_eq_true rfl) ⟨Nat.zero_le _, Nat.zero_le _⟩ ?_
    refine J_if_ne E (tgt := 43) dX6_write_34 (by decide) (fun c_34 => ?_) (fun c_34 => ?_)
    · skip
      have c_34 := bI_1 c_34
      exact absurd ((le_pred hn2).mp c_34) hi
    · skip
      have c_34 := bI_0 c_34
      refine J_aload_n E dX6_write_37 rfl 1 rfl ?_
      refine J_iconst E dX6_write_38 ic_0 ?_
      refine J_cVi0 E (As := [.int 0]) (c_X6_finds l G b y 0 (by omega)) cl_X6_96 yo_X6_finds dX6_write_39 rfl rfl rfl (Nat.le_of_ble_eq_true rfl) (Nat.le_of_ble_eq_true rfl) rfl (Nat.le_of_ble_eq_true rfl) ⟨Nat.zero_le _, Nat.zero_le _⟩ ?_
      exact ret _ _ _ _ ⟨rfl, _, rfl, by intro g h2 h5 h6; by_cases h0 : g = 0 <;> simp [tellX, upG, up3, up3R, up2, h0, h2, h5, h6]⟩ rfl dX6_write_42
  · skip
    exact absurd c_9 (by decide)

set_option maxHeartbeats 4000000 in
set_option maxRecDepth 20000 in
theorem c_X6_write_ok_0 (l : Launch) (G : GB) (b : Nat → Nat) (y : Q3) (j n : Nat) (v : Int32) (hb : ¬ y 8 1 0 = 0) (hn : y 8 1 1 = nI n) (hn2 : n ≤ 40) (hj : j < n) : CI l yX6_write cX6_write 5 .int 3 66 G [.ref (b 0), .int (nI 0), .int (nI j), .int v] (wM G b y) (fun vR w' => vR = 1 ∧ PubM G b (upG y 8 (up2 (y 8) 0 j (narS (y 8 1 0) v))) w') := by
  refine CI.mk (own := RX6) (by decide) rfl (Nat.le_of_ble_eq_true rfl) ?_
  intro X E ret
  show J X G 5 0 0 (wM G b y) [(0, .ref (b 0)), (1, .int (nI 0)), (2, .int (nI j)), (3, .int v)] 0 []
  refine J_aload_n E dX6_write_0 rfl 0 rfl ?_
  refine J_iload_n E dX6_write_1 rfl 1 rfl ?_
  refine J_cVi0 E (As := [.int (nI 0)]) (c_X6_lacks_0_1 l G b y hb ) cl_X6_197 yo_X6_lacks dX6_write_2 rfl rfl rfl (Nat.le_of_ble_eq_true rfl) (Nat.le_of_ble_eq_true rfl) rfl (Nat.le_of_ble_eq_true rfl) ⟨Nat.zero_le _, Nat.zero_le _⟩ ?_
  refine J_istore E (lv' := [(4, .int (-1)), (0, .ref (b 0)), (1, .int (nI 0)), (2, .int (nI j)), (3, .int v)]) dX6_write_5 (by decide) rfl ?_
  refine J_iload E dX6_write_7 0 rfl ?_
  refine J_if_lt E (tgt := 19) dX6_write_9 (by decide) (fun c_9 => ?_) (fun c_9 => ?_)
  · skip
    refine J_iload_n E dX6_write_19 rfl 3 rfl ?_
    refine J_i2l E dX6_write_20 rfl ?_
    refine J_lconst E dX6_write_21 lc_0 ?_
    refine J_aload_n E dX6_write_22 rfl 1 rfl ?_
    refine gM0_X6_34 E dX6_write_23 ?_
    refine J_iload_n E dX6_write_26 rfl 2 rfl ?_
    refine lMz_0 E  dX6_write_27 ?_
    refine J_top (x' := nI n) (hn) ?_
    refine J_iconst E dX6_write_28 ic_1 ?_
    refine J_isub E dX6_write_29 ?_
    refine J_i2l E dX6_write_30 rfl ?_
    refine J_cSiN E (As := [.long (Int32.toInt64 (nI j)), .long 0, .long (Int32.toInt64 ((nI n) - 1))]) (c_X6_in l G (nI j) 0 ((nI n) - 1) 0 (Int32.toInt64 ((nI n) - 1)) (by decide) rfl ) cl_X6_54 yo_X6_in dX6_write_31 rfl (Nat.le_of_ble_eq_true rfl) (Nat.le_of_ble_eq_true rfl) rfl (Nat.le_of_ble_eq_true rfl) ⟨Nat.zero_le _, Nat.zero_le _⟩ ?_
    refine J_if_ne E (tgt := 43) dX6_write_34 (by decide) (fun c_34 => ?_) (fun c_34 => ?_)
    · skip
      have c_34 := bI_1 c_34
      refine J_aload_n E dX6_write_43 rfl 1 rfl ?_
      refine gM0_X6_37 E dX6_write_44 ?_
      refine J_bipush E dX6_write_47 bp_40 ?_
      refine J_iload_n E dX6_write_49 rfl 2 rfl ?_
      refine J_imul E dX6_write_50 ?_
      refine J_top (x' := nI 0) (by decide) ?_
      refine J_iload_n E dX6_write_51 rfl 3 rfl ?_
      refine J_iadd E dX6_write_52 ?_
      refine J_top (x' := nI (0 + j)) (nI_add 0 j) ?_
      refine J_aload_n E dX6_write_53 rfl 1 rfl ?_
      refine gM0_X6_31 E dX6_write_54 ?_
      refine J_iload_n E dX6_write_57 rfl 2 rfl ?_
      refine lMb_0 E  dX6_write_58 ?_
      refine J_bipush E dX6_write_59 bp_8 ?_
      refine J_icmp_ne E (tgt := 69) dX6_write_61 (by decide) (fun c_61 => ?_) (fun c_61 => ?_)
      · skip
        refine J_aload_n E dX6_write_69 rfl 1 rfl ?_
        refine gM0_X6_31 E dX6_write_70 ?_
        refine J_iload_n E dX6_write_73 rfl 2 rfl ?_
        refine lMb_0 E  dX6_write_74 ?_
        refine J_bipush E dX6_write_75 bp_16 ?_
        refine J_icmp_ne E (tgt := 85) dX6_write_77 (by decide) (fun c_77 => ?_) (fun c_77 => ?_)
        · skip
          refine J_iload_n E dX6_write_85 rfl 4 rfl ?_
          refine J_top (x' := narS (y 8 1 0) v) (by simp [narS, c_9, c_34, c_61, c_77]) ?_
          refine sMn_0 E (j := (0 + j)) (i := j) rfl (by omega) dX6_write_86 ?_
          refine J_iconst E dX6_write_87 ic_1 ?_
          exact ret _ _ _ _ ⟨rfl, _, rfl, ShM.rfl'⟩ rfl dX6_write_88
        · skip
          refine J_iload_n E dX6_write_80 rfl 4 rfl ?_
          refine J_i2s E dX6_write_81 rfl ?_
          refine J_goto E (tgt := 86) dX6_write_82 (by decide) ?_
          refine J_top (x' := narS (y 8 1 0) v) (by simp [narS, c_9, c_34, c_61, c_77]) ?_
          refine sMn_0 E (j := (0 + j)) (i := j) rfl (by omega) dX6_write_86 ?_
          refine J_iconst E dX6_write_87 ic_1 ?_
          exact ret _ _ _ _ ⟨rfl, _, rfl, ShM.rfl'⟩ rfl dX6_write_88
      · skip
        refine J_iload_n E dX6_write_64 rfl 4 rfl ?_
        refine J_i2b E dX6_write_65 rfl ?_
        refine J_goto E (tgt := 86) dX6_write_66 (by decide) ?_
        refine J_top (x' := narS (y 8 1 0) v) (by simp [narS, c_9, c_34, c_61]) ?_
        refine sMn_0 E (j := (0 + j)) (i := j) rfl (by omega) dX6_write_86 ?_
        refine J_iconst E dX6_write_87 ic_1 ?_
        exact ret _ _ _ _ ⟨rfl, _, rfl, ShM.rfl'⟩ rfl dX6_write_88
    · skip
      have c_34 := bI_0 c_34
      exact absurd ((le_pred hn2).mpr ⟨nI_pos' (by omega), nI_lt hj (by omega)⟩) c_34
  · skip
    exact absurd c_9 (by decide)

set_option maxHeartbeats 4000000 in
set_option maxRecDepth 20000 in
theorem c_X6_write_bad_1 (l : Launch) (G : GB) (b : Nat → Nat) (y : Q3) (i v : Int32) (n : Nat) (hb : ¬ y 9 1 0 = 0) (hn : y 9 1 1 = nI n) (hn2 : n ≤ 40) (hi : ¬ (0 ≤ i ∧ i < nI n)) : CI l yX6_write cX6_write 5 .int 3 66 G [.ref (b 0), .int (nI 1), .int i, .int v] (wM G b y) (fun vR w' => vR = tellR 0 ∧ PubM G b (tellX y 0) w') := by
  refine CI.mk (own := RX6) (by decide) rfl (Nat.le_of_ble_eq_true rfl) ?_
  intro X E ret
  show J X G 5 0 0 (wM G b y) [(0, .ref (b 0)), (1, .int (nI 1)), (2, .int i), (3, .int v)] 0 []
  refine J_aload_n E dX6_write_0 rfl 0 rfl ?_
  refine J_iload_n E dX6_write_1 rfl 1 rfl ?_
  refine J_cVi0 E (As := [.int (nI 1)]) (c_X6_lacks_1_1 l G b y hb ) cl_X6_197 yo_X6_lacks dX6_write_2 rfl rfl rfl (Nat.le_of_ble_eq_true rfl) (Nat.le_of_ble_eq_true rfl) rfl (Nat.le_of_ble_eq_true rfl) ⟨Nat.zero_le _, Nat.zero_le _⟩ ?_
  refine J_istore E (lv' := [(4, .int (-1)), (0, .ref (b 0)), (1, .int (nI 1)), (2, .int i), (3, .int v)]) dX6_write_5 (by decide) rfl ?_
  refine J_iload E dX6_write_7 0 rfl ?_
  refine J_if_lt E (tgt := 19) dX6_write_9 (by decide) (fun c_9 => ?_) (fun c_9 => ?_)
  · skip
    refine J_iload_n E dX6_write_19 rfl 3 rfl ?_
    refine J_i2l E dX6_write_20 rfl ?_
    refine J_lconst E dX6_write_21 lc_0 ?_
    refine J_aload_n E dX6_write_22 rfl 1 rfl ?_
    refine gM0_X6_34 E dX6_write_23 ?_
    refine J_iload_n E dX6_write_26 rfl 2 rfl ?_
    refine lMz_1 E  dX6_write_27 ?_
    refine J_top (x' := nI n) (hn) ?_
    refine J_iconst E dX6_write_28 ic_1 ?_
    refine J_isub E dX6_write_29 ?_
    refine J_i2l E dX6_write_30 rfl ?_
    refine J_cSiN E (As := [.long (Int32.toInt64 i), .long 0, .long (Int32.toInt64 ((nI n) - 1))]) (c_X6_in l G i 0 ((nI n) - 1) 0 (Int32.toInt64 ((nI n) - 1)) (by decide) rfl ) cl_X6_54 yo_X6_in dX6_write_31 rfl (Nat.le_of_ble_eq_true rfl) (Nat.le_of_ble_eq_true rfl) rfl (Nat.le_of_ble_eq_true rfl) ⟨Nat.zero_le _, Nat.zero_le _⟩ ?_
    refine J_if_ne E (tgt := 43) dX6_write_34 (by decide) (fun c_34 => ?_) (fun c_34 => ?_)
    · skip
      have c_34 := bI_1 c_34
      exact absurd ((le_pred hn2).mp c_34) hi
    · skip
      have c_34 := bI_0 c_34
      refine J_aload_n E dX6_write_37 rfl 1 rfl ?_
      refine J_iconst E dX6_write_38 ic_0 ?_
      refine J_cVi0 E (As := [.int 0]) (c_X6_finds l G b y 0 (by omega)) cl_X6_96 yo_X6_finds dX6_write_39 rfl rfl rfl (Nat.le_of_ble_eq_true rfl) (Nat.le_of_ble_eq_true rfl) rfl (Nat.le_of_ble_eq_true rfl) ⟨Nat.zero_le _, Nat.zero_le _⟩ ?_
      exact ret _ _ _ _ ⟨rfl, _, rfl, by intro g h2 h5 h6; by_cases h0 : g = 0 <;> simp [tellX, upG, up3, up3R, up2, h0, h2, h5, h6]⟩ rfl dX6_write_42
  · skip
    exact absurd c_9 (by decide)

set_option maxHeartbeats 4000000 in
set_option maxRecDepth 20000 in
theorem c_X6_write_ok_1 (l : Launch) (G : GB) (b : Nat → Nat) (y : Q3) (j n : Nat) (v : Int32) (hb : ¬ y 9 1 0 = 0) (hn : y 9 1 1 = nI n) (hn2 : n ≤ 40) (hj : j < n) : CI l yX6_write cX6_write 5 .int 3 66 G [.ref (b 0), .int (nI 1), .int (nI j), .int v] (wM G b y) (fun vR w' => vR = 1 ∧ PubM G b (upG y 9 (up2 (y 9) 0 j (narS (y 9 1 0) v))) w') := by
  refine CI.mk (own := RX6) (by decide) rfl (Nat.le_of_ble_eq_true rfl) ?_
  intro X E ret
  show J X G 5 0 0 (wM G b y) [(0, .ref (b 0)), (1, .int (nI 1)), (2, .int (nI j)), (3, .int v)] 0 []
  refine J_aload_n E dX6_write_0 rfl 0 rfl ?_
  refine J_iload_n E dX6_write_1 rfl 1 rfl ?_
  refine J_cVi0 E (As := [.int (nI 1)]) (c_X6_lacks_1_1 l G b y hb ) cl_X6_197 yo_X6_lacks dX6_write_2 rfl rfl rfl (Nat.le_of_ble_eq_true rfl) (Nat.le_of_ble_eq_true rfl) rfl (Nat.le_of_ble_eq_true rfl) ⟨Nat.zero_le _, Nat.zero_le _⟩ ?_
  refine J_istore E (lv' := [(4, .int (-1)), (0, .ref (b 0)), (1, .int (nI 1)), (2, .int (nI j)), (3, .int v)]) dX6_write_5 (by decide) rfl ?_
  refine J_iload E dX6_write_7 0 rfl ?_
  refine J_if_lt E (tgt := 19) dX6_write_9 (by decide) (fun c_9 => ?_) (fun c_9 => ?_)
  · skip
    refine J_iload_n E dX6_write_19 rfl 3 rfl ?_
    refine J_i2l E dX6_write_20 rfl ?_
    refine J_lconst E dX6_write_21 lc_0 ?_
    refine J_aload_n E dX6_write_22 rfl 1 rfl ?_
    refine gM0_X6_34 E dX6_write_23 ?_
    refine J_iload_n E dX6_write_26 rfl 2 rfl ?_
    refine lMz_1 E  dX6_write_27 ?_
    refine J_top (x' := nI n) (hn) ?_
    refine J_iconst E dX6_write_28 ic_1 ?_
    refine J_isub E dX6_write_29 ?_
    refine J_i2l E dX6_write_30 rfl ?_
    refine J_cSiN E (As := [.long (Int32.toInt64 (nI j)), .long 0, .long (Int32.toInt64 ((nI n) - 1))]) (c_X6_in l G (nI j) 0 ((nI n) - 1) 0 (Int32.toInt64 ((nI n) - 1)) (by decide) rfl ) cl_X6_54 yo_X6_in dX6_write_31 rfl (Nat.le_of_ble_eq_true rfl) (Nat.le_of_ble_eq_true rfl) rfl (Nat.le_of_ble_eq_true rfl) ⟨Nat.zero_le _, Nat.zero_le _⟩ ?_
    refine J_if_ne E (tgt := 43) dX6_write_34 (by decide) (fun c_34 => ?_) (fun c_34 => ?_)
    · skip
      have c_34 := bI_1 c_34
      refine J_aload_n E dX6_write_43 rfl 1 rfl ?_
      refine gM0_X6_37 E dX6_write_44 ?_
      refine J_bipush E dX6_write_47 bp_40 ?_
      refine J_iload_n E dX6_write_49 rfl 2 rfl ?_
      refine J_imul E dX6_write_50 ?_
      refine J_top (x' := nI 40) (by decide) ?_
      refine J_iload_n E dX6_write_51 rfl 3 rfl ?_
      refine J_iadd E dX6_write_52 ?_
      refine J_top (x' := nI (40 + j)) (nI_add 40 j) ?_
      refine J_aload_n E dX6_write_53 rfl 1 rfl ?_
      refine gM0_X6_31 E dX6_write_54 ?_
      refine J_iload_n E dX6_write_57 rfl 2 rfl ?_
      refine lMb_1 E  dX6_write_58 ?_
      refine J_bipush E dX6_write_59 bp_8 ?_
      refine J_icmp_ne E (tgt := 69) dX6_write_61 (by decide) (fun c_61 => ?_) (fun c_61 => ?_)
      · skip
        refine J_aload_n E dX6_write_69 rfl 1 rfl ?_
        refine gM0_X6_31 E dX6_write_70 ?_
        refine J_iload_n E dX6_write_73 rfl 2 rfl ?_
        refine lMb_1 E  dX6_write_74 ?_
        refine J_bipush E dX6_write_75 bp_16 ?_
        refine J_icmp_ne E (tgt := 85) dX6_write_77 (by decide) (fun c_77 => ?_) (fun c_77 => ?_)
        · skip
          refine J_iload_n E dX6_write_85 rfl 4 rfl ?_
          refine J_top (x' := narS (y 9 1 0) v) (by simp [narS, c_9, c_34, c_61, c_77]) ?_
          refine sMn_1 E (j := (40 + j)) (i := j) rfl (by omega) dX6_write_86 ?_
          refine J_iconst E dX6_write_87 ic_1 ?_
          exact ret _ _ _ _ ⟨rfl, _, rfl, ShM.rfl'⟩ rfl dX6_write_88
        · skip
          refine J_iload_n E dX6_write_80 rfl 4 rfl ?_
          refine J_i2s E dX6_write_81 rfl ?_
          refine J_goto E (tgt := 86) dX6_write_82 (by decide) ?_
          refine J_top (x' := narS (y 9 1 0) v) (by simp [narS, c_9, c_34, c_61, c_77]) ?_
          refine sMn_1 E (j := (40 + j)) (i := j) rfl (by omega) dX6_write_86 ?_
          refine J_iconst E dX6_write_87 ic_1 ?_
          exact ret _ _ _ _ ⟨rfl, _, rfl, ShM.rfl'⟩ rfl dX6_write_88
      · skip
        refine J_iload_n E dX6_write_64 rfl 4 rfl ?_
        refine J_i2b E dX6_write_65 rfl ?_
        refine J_goto E (tgt := 86) dX6_write_66 (by decide) ?_
        refine J_top (x' := narS (y 9 1 0) v) (by simp [narS, c_9, c_34, c_61]) ?_
        refine sMn_1 E (j := (40 + j)) (i := j) rfl (by omega) dX6_write_86 ?_
        refine J_iconst E dX6_write_87 ic_1 ?_
        exact ret _ _ _ _ ⟨rfl, _, rfl, ShM.rfl'⟩ rfl dX6_write_88
    · skip
      have c_34 := bI_0 c_34
      exact absurd ((le_pred hn2).mpr ⟨nI_pos' (by omega), nI_lt hj (by omega)⟩) c_34
  · skip
    exact absurd c_9 (by decide)

set_option maxHeartbeats 4000000 in
set_option maxRecDepth 20000 in
theorem c_X6_write_bad_2 (l : Launch) (G : GB) (b : Nat → Nat) (y : Q3) (i v : Int32) (n : Nat) (hb : ¬ y 10 1 0 = 0) (hn : y 10 1 1 = nI n) (hn2 : n ≤ 40) (hi : ¬ (0 ≤ i ∧ i < nI n)) : CI l yX6_write cX6_write 5 .int 3 66 G [.ref (b 0), .int (nI 2), .int i, .int v] (wM G b y) (fun vR w' => vR = tellR 0 ∧ PubM G b (tellX y 0) w') := by
  refine CI.mk (own := RX6) (by decide) rfl (Nat.le_of_ble_eq_true rfl) ?_
  intro X E ret
  show J X G 5 0 0 (wM G b y) [(0, .ref (b 0)), (1, .int (nI 2)), (2, .int i), (3, .int v)] 0 []
  refine J_aload_n E dX6_write_0 rfl 0 rfl ?_
  refine J_iload_n E dX6_write_1 rfl 1 rfl ?_
  refine J_cVi0 E (As := [.int (nI 2)]) (c_X6_lacks_2_1 l G b y hb ) cl_X6_197 yo_X6_lacks dX6_write_2 rfl rfl rfl (Nat.le_of_ble_eq_true rfl) (Nat.le_of_ble_eq_true rfl) rfl (Nat.le_of_ble_eq_true rfl) ⟨Nat.zero_le _, Nat.zero_le _⟩ ?_
  refine J_istore E (lv' := [(4, .int (-1)), (0, .ref (b 0)), (1, .int (nI 2)), (2, .int i), (3, .int v)]) dX6_write_5 (by decide) rfl ?_
  refine J_iload E dX6_write_7 0 rfl ?_
  refine J_if_lt E (tgt := 19) dX6_write_9 (by decide) (fun c_9 => ?_) (fun c_9 => ?_)
  · skip
    refine J_iload_n E dX6_write_19 rfl 3 rfl ?_
    refine J_i2l E dX6_write_20 rfl ?_
    refine J_lconst E dX6_write_21 lc_0 ?_
    refine J_aload_n E dX6_write_22 rfl 1 rfl ?_
    refine gM0_X6_34 E dX6_write_23 ?_
    refine J_iload_n E dX6_write_26 rfl 2 rfl ?_
    refine lMz_2 E  dX6_write_27 ?_
    refine J_top (x' := nI n) (hn) ?_
    refine J_iconst E dX6_write_28 ic_1 ?_
    refine J_isub E dX6_write_29 ?_
    refine J_i2l E dX6_write_30 rfl ?_
    refine J_cSiN E (As := [.long (Int32.toInt64 i), .long 0, .long (Int32.toInt64 ((nI n) - 1))]) (c_X6_in l G i 0 ((nI n) - 1) 0 (Int32.toInt64 ((nI n) - 1)) (by decide) rfl ) cl_X6_54 yo_X6_in dX6_write_31 rfl (Nat.le_of_ble_eq_true rfl) (Nat.le_of_ble_eq_true rfl) rfl (Nat.le_of_ble_eq_true rfl) ⟨Nat.zero_le _, Nat.zero_le _⟩ ?_
    refine J_if_ne E (tgt := 43) dX6_write_34 (by decide) (fun c_34 => ?_) (fun c_34 => ?_)
    · skip
      have c_34 := bI_1 c_34
      exact absurd ((le_pred hn2).mp c_34) hi
    · skip
      have c_34 := bI_0 c_34
      refine J_aload_n E dX6_write_37 rfl 1 rfl ?_
      refine J_iconst E dX6_write_38 ic_0 ?_
      refine J_cVi0 E (As := [.int 0]) (c_X6_finds l G b y 0 (by omega)) cl_X6_96 yo_X6_finds dX6_write_39 rfl rfl rfl (Nat.le_of_ble_eq_true rfl) (Nat.le_of_ble_eq_true rfl) rfl (Nat.le_of_ble_eq_true rfl) ⟨Nat.zero_le _, Nat.zero_le _⟩ ?_
      exact ret _ _ _ _ ⟨rfl, _, rfl, by intro g h2 h5 h6; by_cases h0 : g = 0 <;> simp [tellX, upG, up3, up3R, up2, h0, h2, h5, h6]⟩ rfl dX6_write_42
  · skip
    exact absurd c_9 (by decide)

set_option maxHeartbeats 4000000 in
set_option maxRecDepth 20000 in
theorem c_X6_write_ok_2 (l : Launch) (G : GB) (b : Nat → Nat) (y : Q3) (j n : Nat) (v : Int32) (hb : ¬ y 10 1 0 = 0) (hn : y 10 1 1 = nI n) (hn2 : n ≤ 40) (hj : j < n) : CI l yX6_write cX6_write 5 .int 3 66 G [.ref (b 0), .int (nI 2), .int (nI j), .int v] (wM G b y) (fun vR w' => vR = 1 ∧ PubM G b (upG y 10 (up2 (y 10) 0 j (narS (y 10 1 0) v))) w') := by
  refine CI.mk (own := RX6) (by decide) rfl (Nat.le_of_ble_eq_true rfl) ?_
  intro X E ret
  show J X G 5 0 0 (wM G b y) [(0, .ref (b 0)), (1, .int (nI 2)), (2, .int (nI j)), (3, .int v)] 0 []
  refine J_aload_n E dX6_write_0 rfl 0 rfl ?_
  refine J_iload_n E dX6_write_1 rfl 1 rfl ?_
  refine J_cVi0 E (As := [.int (nI 2)]) (c_X6_lacks_2_1 l G b y hb ) cl_X6_197 yo_X6_lacks dX6_write_2 rfl rfl rfl (Nat.le_of_ble_eq_true rfl) (Nat.le_of_ble_eq_true rfl) rfl (Nat.le_of_ble_eq_true rfl) ⟨Nat.zero_le _, Nat.zero_le _⟩ ?_
  refine J_istore E (lv' := [(4, .int (-1)), (0, .ref (b 0)), (1, .int (nI 2)), (2, .int (nI j)), (3, .int v)]) dX6_write_5 (by decide) rfl ?_
  refine J_iload E dX6_write_7 0 rfl ?_
  refine J_if_lt E (tgt := 19) dX6_write_9 (by decide) (fun c_9 => ?_) (fun c_9 => ?_)
  · skip
    refine J_iload_n E dX6_write_19 rfl 3 rfl ?_
    refine J_i2l E dX6_write_20 rfl ?_
    refine J_lconst E dX6_write_21 lc_0 ?_
    refine J_aload_n E dX6_write_22 rfl 1 rfl ?_
    refine gM0_X6_34 E dX6_write_23 ?_
    refine J_iload_n E dX6_write_26 rfl 2 rfl ?_
    refine lMz_2 E  dX6_write_27 ?_
    refine J_top (x' := nI n) (hn) ?_
    refine J_iconst E dX6_write_28 ic_1 ?_
    refine J_isub E dX6_write_29 ?_
    refine J_i2l E dX6_write_30 rfl ?_
    refine J_cSiN E (As := [.long (Int32.toInt64 (nI j)), .long 0, .long (Int32.toInt64 ((nI n) - 1))]) (c_X6_in l G (nI j) 0 ((nI n) - 1) 0 (Int32.toInt64 ((nI n) - 1)) (by decide) rfl ) cl_X6_54 yo_X6_in dX6_write_31 rfl (Nat.le_of_ble_eq_true rfl) (Nat.le_of_ble_eq_true rfl) rfl (Nat.le_of_ble_eq_true rfl) ⟨Nat.zero_le _, Nat.zero_le _⟩ ?_
    refine J_if_ne E (tgt := 43) dX6_write_34 (by decide) (fun c_34 => ?_) (fun c_34 => ?_)
    · skip
      have c_34 := bI_1 c_34
      refine J_aload_n E dX6_write_43 rfl 1 rfl ?_
      refine gM0_X6_37 E dX6_write_44 ?_
      refine J_bipush E dX6_write_47 bp_40 ?_
      refine J_iload_n E dX6_write_49 rfl 2 rfl ?_
      refine J_imul E dX6_write_50 ?_
      refine J_top (x' := nI 80) (by decide) ?_
      refine J_iload_n E dX6_write_51 rfl 3 rfl ?_
      refine J_iadd E dX6_write_52 ?_
      refine J_top (x' := nI (80 + j)) (nI_add 80 j) ?_
      refine J_aload_n E dX6_write_53 rfl 1 rfl ?_
      refine gM0_X6_31 E dX6_write_54 ?_
      refine J_iload_n E dX6_write_57 rfl 2 rfl ?_
      refine lMb_2 E  dX6_write_58 ?_
      refine J_bipush E dX6_write_59 bp_8 ?_
      refine J_icmp_ne E (tgt := 69) dX6_write_61 (by decide) (fun c_61 => ?_) (fun c_61 => ?_)
      · skip
        refine J_aload_n E dX6_write_69 rfl 1 rfl ?_
        refine gM0_X6_31 E dX6_write_70 ?_
        refine J_iload_n E dX6_write_73 rfl 2 rfl ?_
        refine lMb_2 E  dX6_write_74 ?_
        refine J_bipush E dX6_write_75 bp_16 ?_
        refine J_icmp_ne E (tgt := 85) dX6_write_77 (by decide) (fun c_77 => ?_) (fun c_77 => ?_)
        · skip
          refine J_iload_n E dX6_write_85 rfl 4 rfl ?_
          refine J_top (x' := narS (y 10 1 0) v) (by simp [narS, c_9, c_34, c_61, c_77]) ?_
          refine sMn_2 E (j := (80 + j)) (i := j) rfl (by omega) dX6_write_86 ?_
          refine J_iconst E dX6_write_87 ic_1 ?_
          exact ret _ _ _ _ ⟨rfl, _, rfl, ShM.rfl'⟩ rfl dX6_write_88
        · skip
          refine J_iload_n E dX6_write_80 rfl 4 rfl ?_
          refine J_i2s E dX6_write_81 rfl ?_
          refine J_goto E (tgt := 86) dX6_write_82 (by decide) ?_
          refine J_top (x' := narS (y 10 1 0) v) (by simp [narS, c_9, c_34, c_61, c_77]) ?_
          refine sMn_2 E (j := (80 + j)) (i := j) rfl (by omega) dX6_write_86 ?_
          refine J_iconst E dX6_write_87 ic_1 ?_
          exact ret _ _ _ _ ⟨rfl, _, rfl, ShM.rfl'⟩ rfl dX6_write_88
      · skip
        refine J_iload_n E dX6_write_64 rfl 4 rfl ?_
        refine J_i2b E dX6_write_65 rfl ?_
        refine J_goto E (tgt := 86) dX6_write_66 (by decide) ?_
        refine J_top (x' := narS (y 10 1 0) v) (by simp [narS, c_9, c_34, c_61]) ?_
        refine sMn_2 E (j := (80 + j)) (i := j) rfl (by omega) dX6_write_86 ?_
        refine J_iconst E dX6_write_87 ic_1 ?_
        exact ret _ _ _ _ ⟨rfl, _, rfl, ShM.rfl'⟩ rfl dX6_write_88
    · skip
      have c_34 := bI_0 c_34
      exact absurd ((le_pred hn2).mpr ⟨nI_pos' (by omega), nI_lt hj (by omega)⟩) c_34
  · skip
    exact absurd c_9 (by decide)

set_option maxHeartbeats 4000000 in
set_option maxRecDepth 20000 in
theorem c_X6_write_bad_3 (l : Launch) (G : GB) (b : Nat → Nat) (y : Q3) (i v : Int32) (n : Nat) (hb : ¬ y 11 1 0 = 0) (hn : y 11 1 1 = nI n) (hn2 : n ≤ 40) (hi : ¬ (0 ≤ i ∧ i < nI n)) : CI l yX6_write cX6_write 5 .int 3 66 G [.ref (b 0), .int (nI 3), .int i, .int v] (wM G b y) (fun vR w' => vR = tellR 0 ∧ PubM G b (tellX y 0) w') := by
  refine CI.mk (own := RX6) (by decide) rfl (Nat.le_of_ble_eq_true rfl) ?_
  intro X E ret
  show J X G 5 0 0 (wM G b y) [(0, .ref (b 0)), (1, .int (nI 3)), (2, .int i), (3, .int v)] 0 []
  refine J_aload_n E dX6_write_0 rfl 0 rfl ?_
  refine J_iload_n E dX6_write_1 rfl 1 rfl ?_
  refine J_cVi0 E (As := [.int (nI 3)]) (c_X6_lacks_3_1 l G b y hb ) cl_X6_197 yo_X6_lacks dX6_write_2 rfl rfl rfl (Nat.le_of_ble_eq_true rfl) (Nat.le_of_ble_eq_true rfl) rfl (Nat.le_of_ble_eq_true rfl) ⟨Nat.zero_le _, Nat.zero_le _⟩ ?_
  refine J_istore E (lv' := [(4, .int (-1)), (0, .ref (b 0)), (1, .int (nI 3)), (2, .int i), (3, .int v)]) dX6_write_5 (by decide) rfl ?_
  refine J_iload E dX6_write_7 0 rfl ?_
  refine J_if_lt E (tgt := 19) dX6_write_9 (by decide) (fun c_9 => ?_) (fun c_9 => ?_)
  · skip
    refine J_iload_n E dX6_write_19 rfl 3 rfl ?_
    refine J_i2l E dX6_write_20 rfl ?_
    refine J_lconst E dX6_write_21 lc_0 ?_
    refine J_aload_n E dX6_write_22 rfl 1 rfl ?_
    refine gM0_X6_34 E dX6_write_23 ?_
    refine J_iload_n E dX6_write_26 rfl 2 rfl ?_
    refine lMz_3 E  dX6_write_27 ?_
    refine J_top (x' := nI n) (hn) ?_
    refine J_iconst E dX6_write_28 ic_1 ?_
    refine J_isub E dX6_write_29 ?_
    refine J_i2l E dX6_write_30 rfl ?_
    refine J_cSiN E (As := [.long (Int32.toInt64 i), .long 0, .long (Int32.toInt64 ((nI n) - 1))]) (c_X6_in l G i 0 ((nI n) - 1) 0 (Int32.toInt64 ((nI n) - 1)) (by decide) rfl ) cl_X6_54 yo_X6_in dX6_write_31 rfl (Nat.le_of_ble_eq_true rfl) (Nat.le_of_ble_eq_true rfl) rfl (Nat.le_of_ble_eq_true rfl) ⟨Nat.zero_le _, Nat.zero_le _⟩ ?_
    refine J_if_ne E (tgt := 43) dX6_write_34 (by decide) (fun c_34 => ?_) (fun c_34 => ?_)
    · skip
      have c_34 := bI_1 c_34
      exact absurd ((le_pred hn2).mp c_34) hi
    · skip
      have c_34 := bI_0 c_34
      refine J_aload_n E dX6_write_37 rfl 1 rfl ?_
      refine J_iconst E dX6_write_38 ic_0 ?_
      refine J_cVi0 E (As := [.int 0]) (c_X6_finds l G b y 0 (by omega)) cl_X6_96 yo_X6_finds dX6_write_39 rfl rfl rfl (Nat.le_of_ble_eq_true rfl) (Nat.le_of_ble_eq_true rfl) rfl (Nat.le_of_ble_eq_true rfl) ⟨Nat.zero_le _, Nat.zero_le _⟩ ?_
      exact ret _ _ _ _ ⟨rfl, _, rfl, by intro g h2 h5 h6; by_cases h0 : g = 0 <;> simp [tellX, upG, up3, up3R, up2, h0, h2, h5, h6]⟩ rfl dX6_write_42
  · skip
    exact absurd c_9 (by decide)

set_option maxHeartbeats 4000000 in
set_option maxRecDepth 20000 in
theorem c_X6_write_ok_3 (l : Launch) (G : GB) (b : Nat → Nat) (y : Q3) (j n : Nat) (v : Int32) (hb : ¬ y 11 1 0 = 0) (hn : y 11 1 1 = nI n) (hn2 : n ≤ 40) (hj : j < n) : CI l yX6_write cX6_write 5 .int 3 66 G [.ref (b 0), .int (nI 3), .int (nI j), .int v] (wM G b y) (fun vR w' => vR = 1 ∧ PubM G b (upG y 11 (up2 (y 11) 0 j (narS (y 11 1 0) v))) w') := by
  refine CI.mk (own := RX6) (by decide) rfl (Nat.le_of_ble_eq_true rfl) ?_
  intro X E ret
  show J X G 5 0 0 (wM G b y) [(0, .ref (b 0)), (1, .int (nI 3)), (2, .int (nI j)), (3, .int v)] 0 []
  refine J_aload_n E dX6_write_0 rfl 0 rfl ?_
  refine J_iload_n E dX6_write_1 rfl 1 rfl ?_
  refine J_cVi0 E (As := [.int (nI 3)]) (c_X6_lacks_3_1 l G b y hb ) cl_X6_197 yo_X6_lacks dX6_write_2 rfl rfl rfl (Nat.le_of_ble_eq_true rfl) (Nat.le_of_ble_eq_true rfl) rfl (Nat.le_of_ble_eq_true rfl) ⟨Nat.zero_le _, Nat.zero_le _⟩ ?_
  refine J_istore E (lv' := [(4, .int (-1)), (0, .ref (b 0)), (1, .int (nI 3)), (2, .int (nI j)), (3, .int v)]) dX6_write_5 (by decide) rfl ?_
  refine J_iload E dX6_write_7 0 rfl ?_
  refine J_if_lt E (tgt := 19) dX6_write_9 (by decide) (fun c_9 => ?_) (fun c_9 => ?_)
  · skip
    refine J_iload_n E dX6_write_19 rfl 3 rfl ?_
    refine J_i2l E dX6_write_20 rfl ?_
    refine J_lconst E dX6_write_21 lc_0 ?_
    refine J_aload_n E dX6_write_22 rfl 1 rfl ?_
    refine gM0_X6_34 E dX6_write_23 ?_
    refine J_iload_n E dX6_write_26 rfl 2 rfl ?_
    refine lMz_3 E  dX6_write_27 ?_
    refine J_top (x' := nI n) (hn) ?_
    refine J_iconst E dX6_write_28 ic_1 ?_
    refine J_isub E dX6_write_29 ?_
    refine J_i2l E dX6_write_30 rfl ?_
    refine J_cSiN E (As := [.long (Int32.toInt64 (nI j)), .long 0, .long (Int32.toInt64 ((nI n) - 1))]) (c_X6_in l G (nI j) 0 ((nI n) - 1) 0 (Int32.toInt64 ((nI n) - 1)) (by decide) rfl ) cl_X6_54 yo_X6_in dX6_write_31 rfl (Nat.le_of_ble_eq_true rfl) (Nat.le_of_ble_eq_true rfl) rfl (Nat.le_of_ble_eq_true rfl) ⟨Nat.zero_le _, Nat.zero_le _⟩ ?_
    refine J_if_ne E (tgt := 43) dX6_write_34 (by decide) (fun c_34 => ?_) (fun c_34 => ?_)
    · skip
      have c_34 := bI_1 c_34
      refine J_aload_n E dX6_write_43 rfl 1 rfl ?_
      refine gM0_X6_37 E dX6_write_44 ?_
      refine J_bipush E dX6_write_47 bp_40 ?_
      refine J_iload_n E dX6_write_49 rfl 2 rfl ?_
      refine J_imul E dX6_write_50 ?_
      refine J_top (x' := nI 120) (by decide) ?_
      refine J_iload_n E dX6_write_51 rfl 3 rfl ?_
      refine J_iadd E dX6_write_52 ?_
      refine J_top (x' := nI (120 + j)) (nI_add 120 j) ?_
      refine J_aload_n E dX6_write_53 rfl 1 rfl ?_
      refine gM0_X6_31 E dX6_write_54 ?_
      refine J_iload_n E dX6_write_57 rfl 2 rfl ?_
      refine lMb_3 E  dX6_write_58 ?_
      refine J_bipush E dX6_write_59 bp_8 ?_
      refine J_icmp_ne E (tgt := 69) dX6_write_61 (by decide) (fun c_61 => ?_) (fun c_61 => ?_)
      · skip
        refine J_aload_n E dX6_write_69 rfl 1 rfl ?_
        refine gM0_X6_31 E dX6_write_70 ?_
        refine J_iload_n E dX6_write_73 rfl 2 rfl ?_
        refine lMb_3 E  dX6_write_74 ?_
        refine J_bipush E dX6_write_75 bp_16 ?_
        refine J_icmp_ne E (tgt := 85) dX6_write_77 (by decide) (fun c_77 => ?_) (fun c_77 => ?_)
        · skip
          refine J_iload_n E dX6_write_85 rfl 4 rfl ?_
          refine J_top (x' := narS (y 11 1 0) v) (by simp [narS, c_9, c_34, c_61, c_77]) ?_
          refine sMn_3 E (j := (120 + j)) (i := j) rfl (by omega) dX6_write_86 ?_
          refine J_iconst E dX6_write_87 ic_1 ?_
          exact ret _ _ _ _ ⟨rfl, _, rfl, ShM.rfl'⟩ rfl dX6_write_88
        · skip
          refine J_iload_n E dX6_write_80 rfl 4 rfl ?_
          refine J_i2s E dX6_write_81 rfl ?_
          refine J_goto E (tgt := 86) dX6_write_82 (by decide) ?_
          refine J_top (x' := narS (y 11 1 0) v) (by simp [narS, c_9, c_34, c_61, c_77]) ?_
          refine sMn_3 E (j := (120 + j)) (i := j) rfl (by omega) dX6_write_86 ?_
          refine J_iconst E dX6_write_87 ic_1 ?_
          exact ret _ _ _ _ ⟨rfl, _, rfl, ShM.rfl'⟩ rfl dX6_write_88
      · skip
        refine J_iload_n E dX6_write_64 rfl 4 rfl ?_
        refine J_i2b E dX6_write_65 rfl ?_
        refine J_goto E (tgt := 86) dX6_write_66 (by decide) ?_
        refine J_top (x' := narS (y 11 1 0) v) (by simp [narS, c_9, c_34, c_61]) ?_
        refine sMn_3 E (j := (120 + j)) (i := j) rfl (by omega) dX6_write_86 ?_
        refine J_iconst E dX6_write_87 ic_1 ?_
        exact ret _ _ _ _ ⟨rfl, _, rfl, ShM.rfl'⟩ rfl dX6_write_88
    · skip
      have c_34 := bI_0 c_34
      exact absurd ((le_pred hn2).mpr ⟨nI_pos' (by omega), nI_lt hj (by omega)⟩) c_34
  · skip
    exact absurd c_9 (by decide)

set_option maxHeartbeats 4000000 in
set_option maxRecDepth 20000 in
theorem c_X6_load_out (l : Launch) (G : GB) (b : Nat → Nat) (y : Q3) (s : Int32)  (hs : ¬ (0 ≤ s ∧ s ≤ 3)) : CI l yX6_load cX6_load 4 .int 3 66 G [.ref (b 0), .int s] (wM G b y) (fun vR w' => vR = tellR 0 ∧ PubM G b (tellX y 0) w') := by
  refine CI.mk (own := RX6) (by decide) rfl (Nat.le_of_ble_eq_true rfl) ?_
  intro X E ret
  show J X G 4 0 0 (wM G b y) [(0, .ref (b 0)), (1, .int s)] 0 []
  refine J_aload_n E dX6_load_0 rfl 0 rfl ?_
  refine J_iload_n E dX6_load_1 rfl 1 rfl ?_
  refine J_cVi0 E (As := [.int s]) (c_X6_lacks_out l G b y s hs ) cl_X6_197 yo_X6_lacks dX6_load_2 rfl rfl rfl (Nat.le_of_ble_eq_true rfl) (Nat.le_of_ble_eq_true rfl) rfl (Nat.le_of_ble_eq_true rfl) ⟨Nat.zero_le _, Nat.zero_le _⟩ ?_
  refine J_istore_n E (lv' := [(2, .int 0), (0, .ref (b 0)), (1, .int s)]) dX6_load_5 rfl (by decide) rfl ?_
  refine J_iload_n E dX6_load_6 rfl 0 rfl ?_
  refine J_if_lt E (tgt := 16) dX6_load_7 (by decide) (fun c_7 => ?_) (fun c_7 => ?_)
  · skip
    have n_7 : 0 < 0 := cmp_lt (a := 0) (b := 0) (by omega) (by omega) c_7
    exact absurd n_7 (by decide)
  · skip
    have n_7 : ¬ 0 < 0 := cmp_nlt (a := 0) (b := 0) (by omega) (by omega) c_7
    refine J_aload_n E dX6_load_10 rfl 1 rfl ?_
    refine J_iload_n E dX6_load_11 rfl 0 rfl ?_
    refine J_cVi0 E (As := [.int 0]) (c_X6_finds l G b y 0 (by omega)) cl_X6_96 yo_X6_finds dX6_load_12 rfl rfl rfl (Nat.le_of_ble_eq_true rfl) (Nat.le_of_ble_eq_true rfl) rfl (Nat.le_of_ble_eq_true rfl) ⟨Nat.zero_le _, Nat.zero_le _⟩ ?_
    exact ret _ _ _ _ ⟨rfl, _, rfl, by intro g h2 h5 h6; by_cases h0 : g = 0 <;> simp [tellX, upG, up3, up3R, up2, h0, h2, h5, h6]⟩ rfl dX6_load_15

set_option maxHeartbeats 4000000 in
set_option maxRecDepth 20000 in
theorem c_X6_load_miss_0 (l : Launch) (G : GB) (b : Nat → Nat) (y : Q3)  (hb : y 8 1 0 = 0) : CI l yX6_load cX6_load 4 .int 3 66 G [.ref (b 0), .int (nI 0)] (wM G b y) (fun vR w' => vR = tellR 5 ∧ PubM G b (tellX y 5) w') := by
  refine CI.mk (own := RX6) (by decide) rfl (Nat.le_of_ble_eq_true rfl) ?_
  intro X E ret
  show J X G 4 0 0 (wM G b y) [(0, .ref (b 0)), (1, .int (nI 0))] 0 []
  refine J_aload_n E dX6_load_0 rfl 0 rfl ?_
  refine J_iload_n E dX6_load_1 rfl 1 rfl ?_
  refine J_cVi0 E (As := [.int (nI 0)]) (c_X6_lacks_0_0 l G b y hb ) cl_X6_197 yo_X6_lacks dX6_load_2 rfl rfl rfl (Nat.le_of_ble_eq_true rfl) (Nat.le_of_ble_eq_true rfl) rfl (Nat.le_of_ble_eq_true rfl) ⟨Nat.zero_le _, Nat.zero_le _⟩ ?_
  refine J_istore_n E (lv' := [(2, .int 5), (0, .ref (b 0)), (1, .int (nI 0))]) dX6_load_5 rfl (by decide) rfl ?_
  refine J_iload_n E dX6_load_6 rfl 0 rfl ?_
  refine J_if_lt E (tgt := 16) dX6_load_7 (by decide) (fun c_7 => ?_) (fun c_7 => ?_)
  · skip
    have n_7 : 5 < 0 := cmp_lt (a := 5) (b := 0) (by omega) (by omega) c_7
    exact absurd n_7 (by decide)
  · skip
    have n_7 : ¬ 5 < 0 := cmp_nlt (a := 5) (b := 0) (by omega) (by omega) c_7
    refine J_aload_n E dX6_load_10 rfl 1 rfl ?_
    refine J_iload_n E dX6_load_11 rfl 0 rfl ?_
    refine J_cVi0 E (As := [.int 5]) (c_X6_finds l G b y 5 (by omega)) cl_X6_96 yo_X6_finds dX6_load_12 rfl rfl rfl (Nat.le_of_ble_eq_true rfl) (Nat.le_of_ble_eq_true rfl) rfl (Nat.le_of_ble_eq_true rfl) ⟨Nat.zero_le _, Nat.zero_le _⟩ ?_
    exact ret _ _ _ _ ⟨rfl, _, rfl, by intro g h2 h5 h6; by_cases h0 : g = 0 <;> simp [tellX, upG, up3, up3R, up2, h0, h2, h5, h6]⟩ rfl dX6_load_15

set_option maxHeartbeats 4000000 in
set_option maxRecDepth 20000 in
theorem c_X6_load_miss_1 (l : Launch) (G : GB) (b : Nat → Nat) (y : Q3)  (hb : y 9 1 0 = 0) : CI l yX6_load cX6_load 4 .int 3 66 G [.ref (b 0), .int (nI 1)] (wM G b y) (fun vR w' => vR = tellR 5 ∧ PubM G b (tellX y 5) w') := by
  refine CI.mk (own := RX6) (by decide) rfl (Nat.le_of_ble_eq_true rfl) ?_
  intro X E ret
  show J X G 4 0 0 (wM G b y) [(0, .ref (b 0)), (1, .int (nI 1))] 0 []
  refine J_aload_n E dX6_load_0 rfl 0 rfl ?_
  refine J_iload_n E dX6_load_1 rfl 1 rfl ?_
  refine J_cVi0 E (As := [.int (nI 1)]) (c_X6_lacks_1_0 l G b y hb ) cl_X6_197 yo_X6_lacks dX6_load_2 rfl rfl rfl (Nat.le_of_ble_eq_true rfl) (Nat.le_of_ble_eq_true rfl) rfl (Nat.le_of_ble_eq_true rfl) ⟨Nat.zero_le _, Nat.zero_le _⟩ ?_
  refine J_istore_n E (lv' := [(2, .int 5), (0, .ref (b 0)), (1, .int (nI 1))]) dX6_load_5 rfl (by decide) rfl ?_
  refine J_iload_n E dX6_load_6 rfl 0 rfl ?_
  refine J_if_lt E (tgt := 16) dX6_load_7 (by decide) (fun c_7 => ?_) (fun c_7 => ?_)
  · skip
    have n_7 : 5 < 0 := cmp_lt (a := 5) (b := 0) (by omega) (by omega) c_7
    exact absurd n_7 (by decide)
  · skip
    have n_7 : ¬ 5 < 0 := cmp_nlt (a := 5) (b := 0) (by omega) (by omega) c_7
    refine J_aload_n E dX6_load_10 rfl 1 rfl ?_
    refine J_iload_n E dX6_load_11 rfl 0 rfl ?_
    refine J_cVi0 E (As := [.int 5]) (c_X6_finds l G b y 5 (by omega)) cl_X6_96 yo_X6_finds dX6_load_12 rfl rfl rfl (Nat.le_of_ble_eq_true rfl) (Nat.le_of_ble_eq_true rfl) rfl (Nat.le_of_ble_eq_true rfl) ⟨Nat.zero_le _, Nat.zero_le _⟩ ?_
    exact ret _ _ _ _ ⟨rfl, _, rfl, by intro g h2 h5 h6; by_cases h0 : g = 0 <;> simp [tellX, upG, up3, up3R, up2, h0, h2, h5, h6]⟩ rfl dX6_load_15

set_option maxHeartbeats 4000000 in
set_option maxRecDepth 20000 in
theorem c_X6_load_miss_2 (l : Launch) (G : GB) (b : Nat → Nat) (y : Q3)  (hb : y 10 1 0 = 0) : CI l yX6_load cX6_load 4 .int 3 66 G [.ref (b 0), .int (nI 2)] (wM G b y) (fun vR w' => vR = tellR 5 ∧ PubM G b (tellX y 5) w') := by
  refine CI.mk (own := RX6) (by decide) rfl (Nat.le_of_ble_eq_true rfl) ?_
  intro X E ret
  show J X G 4 0 0 (wM G b y) [(0, .ref (b 0)), (1, .int (nI 2))] 0 []
  refine J_aload_n E dX6_load_0 rfl 0 rfl ?_
  refine J_iload_n E dX6_load_1 rfl 1 rfl ?_
  refine J_cVi0 E (As := [.int (nI 2)]) (c_X6_lacks_2_0 l G b y hb ) cl_X6_197 yo_X6_lacks dX6_load_2 rfl rfl rfl (Nat.le_of_ble_eq_true rfl) (Nat.le_of_ble_eq_true rfl) rfl (Nat.le_of_ble_eq_true rfl) ⟨Nat.zero_le _, Nat.zero_le _⟩ ?_
  refine J_istore_n E (lv' := [(2, .int 5), (0, .ref (b 0)), (1, .int (nI 2))]) dX6_load_5 rfl (by decide) rfl ?_
  refine J_iload_n E dX6_load_6 rfl 0 rfl ?_
  refine J_if_lt E (tgt := 16) dX6_load_7 (by decide) (fun c_7 => ?_) (fun c_7 => ?_)
  · skip
    have n_7 : 5 < 0 := cmp_lt (a := 5) (b := 0) (by omega) (by omega) c_7
    exact absurd n_7 (by decide)
  · skip
    have n_7 : ¬ 5 < 0 := cmp_nlt (a := 5) (b := 0) (by omega) (by omega) c_7
    refine J_aload_n E dX6_load_10 rfl 1 rfl ?_
    refine J_iload_n E dX6_load_11 rfl 0 rfl ?_
    refine J_cVi0 E (As := [.int 5]) (c_X6_finds l G b y 5 (by omega)) cl_X6_96 yo_X6_finds dX6_load_12 rfl rfl rfl (Nat.le_of_ble_eq_true rfl) (Nat.le_of_ble_eq_true rfl) rfl (Nat.le_of_ble_eq_true rfl) ⟨Nat.zero_le _, Nat.zero_le _⟩ ?_
    exact ret _ _ _ _ ⟨rfl, _, rfl, by intro g h2 h5 h6; by_cases h0 : g = 0 <;> simp [tellX, upG, up3, up3R, up2, h0, h2, h5, h6]⟩ rfl dX6_load_15

set_option maxHeartbeats 4000000 in
set_option maxRecDepth 20000 in
theorem c_X6_load_miss_3 (l : Launch) (G : GB) (b : Nat → Nat) (y : Q3)  (hb : y 11 1 0 = 0) : CI l yX6_load cX6_load 4 .int 3 66 G [.ref (b 0), .int (nI 3)] (wM G b y) (fun vR w' => vR = tellR 5 ∧ PubM G b (tellX y 5) w') := by
  refine CI.mk (own := RX6) (by decide) rfl (Nat.le_of_ble_eq_true rfl) ?_
  intro X E ret
  show J X G 4 0 0 (wM G b y) [(0, .ref (b 0)), (1, .int (nI 3))] 0 []
  refine J_aload_n E dX6_load_0 rfl 0 rfl ?_
  refine J_iload_n E dX6_load_1 rfl 1 rfl ?_
  refine J_cVi0 E (As := [.int (nI 3)]) (c_X6_lacks_3_0 l G b y hb ) cl_X6_197 yo_X6_lacks dX6_load_2 rfl rfl rfl (Nat.le_of_ble_eq_true rfl) (Nat.le_of_ble_eq_true rfl) rfl (Nat.le_of_ble_eq_true rfl) ⟨Nat.zero_le _, Nat.zero_le _⟩ ?_
  refine J_istore_n E (lv' := [(2, .int 5), (0, .ref (b 0)), (1, .int (nI 3))]) dX6_load_5 rfl (by decide) rfl ?_
  refine J_iload_n E dX6_load_6 rfl 0 rfl ?_
  refine J_if_lt E (tgt := 16) dX6_load_7 (by decide) (fun c_7 => ?_) (fun c_7 => ?_)
  · skip
    have n_7 : 5 < 0 := cmp_lt (a := 5) (b := 0) (by omega) (by omega) c_7
    exact absurd n_7 (by decide)
  · skip
    have n_7 : ¬ 5 < 0 := cmp_nlt (a := 5) (b := 0) (by omega) (by omega) c_7
    refine J_aload_n E dX6_load_10 rfl 1 rfl ?_
    refine J_iload_n E dX6_load_11 rfl 0 rfl ?_
    refine J_cVi0 E (As := [.int 5]) (c_X6_finds l G b y 5 (by omega)) cl_X6_96 yo_X6_finds dX6_load_12 rfl rfl rfl (Nat.le_of_ble_eq_true rfl) (Nat.le_of_ble_eq_true rfl) rfl (Nat.le_of_ble_eq_true rfl) ⟨Nat.zero_le _, Nat.zero_le _⟩ ?_
    exact ret _ _ _ _ ⟨rfl, _, rfl, by intro g h2 h5 h6; by_cases h0 : g = 0 <;> simp [tellX, upG, up3, up3R, up2, h0, h2, h5, h6]⟩ rfl dX6_load_15

set_option maxHeartbeats 4000000 in
set_option maxRecDepth 20000 in
theorem c_X6_load_ok_0 (l : Launch) (G : GB) (b : Nat → Nat) (y : Q3) (n : Nat) (hb : ¬ y 8 1 0 = 0) (hn : y 8 1 1 = nI n) (hn2 : n ≤ 40) : CI l yX6_load cX6_load 4 .int 3 66 G [.ref (b 0), .int (nI 0)] (wM G b y) (fun vR w' => vR = nI (loadN (y 8 0) (min n 11) 0) ∧ PubM G b (upG y 0 (loadQ (y 0) (y 8 0) (loadN (y 8 0) (min n 11) 0))) w') := by
  refine CI.mk (own := RX6) (by decide) rfl (Nat.le_of_ble_eq_true rfl) ?_
  intro X E ret
  show J X G 4 0 0 (wM G b y) [(0, .ref (b 0)), (1, .int (nI 0))] 0 []
  refine J_aload_n E dX6_load_0 rfl 0 rfl ?_
  refine J_iload_n E dX6_load_1 rfl 1 rfl ?_
  refine J_cVi0 E (As := [.int (nI 0)]) (c_X6_lacks_0_1 l G b y hb ) cl_X6_197 yo_X6_lacks dX6_load_2 rfl rfl rfl (Nat.le_of_ble_eq_true rfl) (Nat.le_of_ble_eq_true rfl) rfl (Nat.le_of_ble_eq_true rfl) ⟨Nat.zero_le _, Nat.zero_le _⟩ ?_
  refine J_istore_n E (lv' := [(2, .int (-1)), (0, .ref (b 0)), (1, .int (nI 0))]) dX6_load_5 rfl (by decide) rfl ?_
  refine J_iload_n E dX6_load_6 rfl 0 rfl ?_
  refine J_if_lt E (tgt := 16) dX6_load_7 (by decide) (fun c_7 => ?_) (fun c_7 => ?_)
  · skip
    refine J_iconst E dX6_load_16 ic_0 ?_
    refine J_istore_n E (lv' := [(3, .int 0), (2, .int (-1)), (0, .ref (b 0)), (1, .int (nI 0))]) dX6_load_17 rfl (by decide) rfl ?_
    refine J_w (ws' := wM G b (upG y 0 (y 0))) (congrArg (wM G b) upG_id.symm) ?_
    have lp18 : ∀ (fu : Nat) (i : Nat) (r : Q2), (i ≤ min n 11) → (r = loadQ (y 0) (y 8 0) i) → (loadN (y 8 0) (min n 11) 0 = loadN (y 8 0) (min n 11 - i) i) → min n 11 - i < fu → J X G 4 0 0 (wM G b (upG y 0 r)) [(0, .ref (b 0)), (1, .int (nI 0)), (2, .int (-1)), (3, .int (nI i))] 18 [] := by
      intro fu
      induction fu with
      | zero => intro i r hi hr h1 hm; exact absurd hm (Nat.not_lt_zero _)
      | succ fu ih18 =>
        intro i r hi hr h1 hm
        refine J_iload_n E dX6_load_18 rfl 3 rfl ?_
        refine J_aload_n E dX6_load_19 rfl 0 rfl ?_
        refine gM0_X6_34 E dX6_load_20 ?_
        refine J_iload_n E dX6_load_23 rfl 1 rfl ?_
        refine lMz_0 E  dX6_load_24 ?_
        refine J_top (x' := y 8 1 1) (upG_n (by decide)) ?_
        refine J_top (x' := nI n) (hn) ?_
        refine J_icmp_ge E (tgt := 79) dX6_load_25 (by decide) (fun c_25 => ?_) (fun c_25 => ?_)
        · skip
          have n_25 : n ≤ i := cmp_le (a := n) (b := i) (by omega) (by omega) c_25
          have h2 : loadN (y 8 0) (min n 11) 0 = i := by rw [h1, show min n 11 - i = 0 by omega]; rfl
          refine J_iload_n E dX6_load_79 rfl 3 rfl ?_
          exact ret _ _ _ _ ⟨by rw [h2], _, rfl, by rw [h2, ← hr]; exact ShM.rfl'⟩ rfl dX6_load_80
        · skip
          have n_25 : ¬ n ≤ i := cmp_nle (a := n) (b := i) (by omega) (by omega) c_25
          refine J_iload_n E dX6_load_28 rfl 3 rfl ?_
          refine J_bipush E dX6_load_29 bp_11 ?_
          refine J_icmp_ge E (tgt := 79) dX6_load_31 (by decide) (fun c_31 => ?_) (fun c_31 => ?_)
          · skip
            have n_31 : 11 ≤ i := cmp_le (a := 11) (b := i) (by omega) (by omega) c_31
            have h2 : loadN (y 8 0) (min n 11) 0 = i := by rw [h1, show min n 11 - i = 0 by omega]; rfl
            refine J_iload_n E dX6_load_79 rfl 3 rfl ?_
            exact ret _ _ _ _ ⟨by rw [h2], _, rfl, by rw [h2, ← hr]; exact ShM.rfl'⟩ rfl dX6_load_80
          · skip
            have n_31 : ¬ 11 ≤ i := cmp_nle (a := 11) (b := i) (by omega) (by omega) c_31
            refine J_aload_n E dX6_load_34 rfl 0 rfl ?_
            refine gM0_X6_37 E dX6_load_35 ?_
            refine J_bipush E dX6_load_38 bp_40 ?_
            refine J_iload_n E dX6_load_40 rfl 1 rfl ?_
            refine J_top (x' := nI 0) (by decide) ?_
            refine J_imul E dX6_load_41 ?_
            refine J_iload_n E dX6_load_42 rfl 3 rfl ?_
            refine J_iadd E dX6_load_43 ?_
            refine J_top (x' := nI (0 + i)) (nI_add 0 i) ?_
            refine lMn_0 E (j := (0 + i)) (i := i) rfl (by omega) dX6_load_44 ?_
            refine J_top (x' := y 8 0 i) (upG_n (by decide)) ?_
            refine J_i2l E dX6_load_45 rfl ?_
            refine J_lconst E dX6_load_46 lc_0 ?_
            refine J_ldc2 E kl_X6_83 dX6_load_47 ?_
            refine J_cSiN E (As := [.long (Int32.toInt64 (y 8 0 i)), .long 0, .long 99]) (c_X6_in l G (y 8 0 i) 0 99 0 99 (by decide) (by decide) ) cl_X6_54 yo_X6_in dX6_load_50 rfl (Nat.le_of_ble_eq_true rfl) (Nat.le_of_ble_eq_true rfl) rfl (Nat.le_of_ble_eq_true rfl) ⟨Nat.zero_le _, Nat.zero_le _⟩ ?_
            refine J_if_eq E (tgt := 79) dX6_load_53 (by decide) (fun c_53 => ?_) (fun c_53 => ?_)
            · skip
              have c_53 := bI_0 c_53
              have h2 : loadN (y 8 0) (min n 11) 0 = i := by rw [h1, show min n 11 - i = (min n 11 - (i + 1)) + 1 by omega, loadN, if_neg c_53]
              refine J_iload_n E dX6_load_79 rfl 3 rfl ?_
              exact ret _ _ _ _ ⟨by rw [h2], _, rfl, by rw [h2, ← hr]; exact ShM.rfl'⟩ rfl dX6_load_80
            · skip
              have c_53 := bI_1 c_53
              refine J_aload_n E dX6_load_56 rfl 0 rfl ?_
              refine J_iload_n E dX6_load_57 rfl 3 rfl ?_
              refine J_iconst E dX6_load_58 ic_2 ?_
              refine J_aload_n E dX6_load_59 rfl 0 rfl ?_
              refine gM0_X6_37 E dX6_load_60 ?_
              refine J_bipush E dX6_load_63 bp_40 ?_
              refine J_iload_n E dX6_load_65 rfl 1 rfl ?_
              refine J_top (x' := nI 0) (by decide) ?_
              refine J_imul E dX6_load_66 ?_
              refine J_iload_n E dX6_load_67 rfl 3 rfl ?_
              refine J_iadd E dX6_load_68 ?_
              refine J_top (x' := nI (0 + i)) (nI_add 0 i) ?_
              refine lMn_0 E (j := (0 + i)) (i := i) rfl (by omega) dX6_load_69 ?_
              refine J_top (x' := y 8 0 i) (upG_n (by decide)) ?_
              refine J_cVv0 E (As := [.int (nI i), .int 2, .int (y 8 0 i)]) (c_X6_sets l G b (upG y 0 r) i 2 (y 8 0 i) (by omega) (by omega)) cl_X6_43 yo_X6_sets dX6_load_70 rfl rfl rfl (Nat.le_of_ble_eq_true rfl) (Nat.le_of_ble_eq_true rfl) rfl (Nat.le_of_ble_eq_true rfl) ⟨Nat.zero_le _, Nat.zero_le _⟩ ?_
              refine J_iinc E (lv' := [(3, .int (nI (i + 1))), (0, .ref (b 0)), (1, .int (nI 0)), (2, .int (-1))]) dX6_load_73 3 rfl (nI_inc _) (by decide) rfl ?_
              refine J_goto E (tgt := 18) dX6_load_76 (by decide) ?_
              refine J_lv [1, 2, 3, 0] rfl ?_
              refine J_w (ws' := wM G b (upG y 0 (up2 r 2 i (y 8 0 i)))) (wM_c rfl rfl rfl rfl rfl rfl rfl rfl rfl rfl rfl) ?_
              exact ih18 (i + 1) (up2 r 2 i (y 8 0 i)) (by omega) (by rw [hr]; rfl) (by rw [h1, show min n 11 - i = (min n 11 - (i + 1)) + 1 by omega, loadN, if_pos c_53]) (by omega)
    refine J_lv [2, 3, 1, 0] rfl ?_
    refine J_w (ws' := wM G b (upG y 0 (y 0))) (wM_c rfl rfl rfl rfl rfl rfl rfl rfl rfl rfl rfl) ?_
    exact lp18 _ 0 (y 0) (by omega) rfl rfl (Nat.lt_succ_self _)
  · skip
    exact absurd c_7 (by decide)

set_option maxHeartbeats 4000000 in
set_option maxRecDepth 20000 in
theorem c_X6_load_ok_1 (l : Launch) (G : GB) (b : Nat → Nat) (y : Q3) (n : Nat) (hb : ¬ y 9 1 0 = 0) (hn : y 9 1 1 = nI n) (hn2 : n ≤ 40) : CI l yX6_load cX6_load 4 .int 3 66 G [.ref (b 0), .int (nI 1)] (wM G b y) (fun vR w' => vR = nI (loadN (y 9 0) (min n 11) 0) ∧ PubM G b (upG y 0 (loadQ (y 0) (y 9 0) (loadN (y 9 0) (min n 11) 0))) w') := by
  refine CI.mk (own := RX6) (by decide) rfl (Nat.le_of_ble_eq_true rfl) ?_
  intro X E ret
  show J X G 4 0 0 (wM G b y) [(0, .ref (b 0)), (1, .int (nI 1))] 0 []
  refine J_aload_n E dX6_load_0 rfl 0 rfl ?_
  refine J_iload_n E dX6_load_1 rfl 1 rfl ?_
  refine J_cVi0 E (As := [.int (nI 1)]) (c_X6_lacks_1_1 l G b y hb ) cl_X6_197 yo_X6_lacks dX6_load_2 rfl rfl rfl (Nat.le_of_ble_eq_true rfl) (Nat.le_of_ble_eq_true rfl) rfl (Nat.le_of_ble_eq_true rfl) ⟨Nat.zero_le _, Nat.zero_le _⟩ ?_
  refine J_istore_n E (lv' := [(2, .int (-1)), (0, .ref (b 0)), (1, .int (nI 1))]) dX6_load_5 rfl (by decide) rfl ?_
  refine J_iload_n E dX6_load_6 rfl 0 rfl ?_
  refine J_if_lt E (tgt := 16) dX6_load_7 (by decide) (fun c_7 => ?_) (fun c_7 => ?_)
  · skip
    refine J_iconst E dX6_load_16 ic_0 ?_
    refine J_istore_n E (lv' := [(3, .int 0), (2, .int (-1)), (0, .ref (b 0)), (1, .int (nI 1))]) dX6_load_17 rfl (by decide) rfl ?_
    refine J_w (ws' := wM G b (upG y 0 (y 0))) (congrArg (wM G b) upG_id.symm) ?_
    have lp18 : ∀ (fu : Nat) (i : Nat) (r : Q2), (i ≤ min n 11) → (r = loadQ (y 0) (y 9 0) i) → (loadN (y 9 0) (min n 11) 0 = loadN (y 9 0) (min n 11 - i) i) → min n 11 - i < fu → J X G 4 0 0 (wM G b (upG y 0 r)) [(0, .ref (b 0)), (1, .int (nI 1)), (2, .int (-1)), (3, .int (nI i))] 18 [] := by
      intro fu
      induction fu with
      | zero => intro i r hi hr h1 hm; exact absurd hm (Nat.not_lt_zero _)
      | succ fu ih18 =>
        intro i r hi hr h1 hm
        refine J_iload_n E dX6_load_18 rfl 3 rfl ?_
        refine J_aload_n E dX6_load_19 rfl 0 rfl ?_
        refine gM0_X6_34 E dX6_load_20 ?_
        refine J_iload_n E dX6_load_23 rfl 1 rfl ?_
        refine lMz_1 E  dX6_load_24 ?_
        refine J_top (x' := y 9 1 1) (upG_n (by decide)) ?_
        refine J_top (x' := nI n) (hn) ?_
        refine J_icmp_ge E (tgt := 79) dX6_load_25 (by decide) (fun c_25 => ?_) (fun c_25 => ?_)
        · skip
          have n_25 : n ≤ i := cmp_le (a := n) (b := i) (by omega) (by omega) c_25
          have h2 : loadN (y 9 0) (min n 11) 0 = i := by rw [h1, show min n 11 - i = 0 by omega]; rfl
          refine J_iload_n E dX6_load_79 rfl 3 rfl ?_
          exact ret _ _ _ _ ⟨by rw [h2], _, rfl, by rw [h2, ← hr]; exact ShM.rfl'⟩ rfl dX6_load_80
        · skip
          have n_25 : ¬ n ≤ i := cmp_nle (a := n) (b := i) (by omega) (by omega) c_25
          refine J_iload_n E dX6_load_28 rfl 3 rfl ?_
          refine J_bipush E dX6_load_29 bp_11 ?_
          refine J_icmp_ge E (tgt := 79) dX6_load_31 (by decide) (fun c_31 => ?_) (fun c_31 => ?_)
          · skip
            have n_31 : 11 ≤ i := cmp_le (a := 11) (b := i) (by omega) (by omega) c_31
            have h2 : loadN (y 9 0) (min n 11) 0 = i := by rw [h1, show min n 11 - i = 0 by omega]; rfl
            refine J_iload_n E dX6_load_79 rfl 3 rfl ?_
            exact ret _ _ _ _ ⟨by rw [h2], _, rfl, by rw [h2, ← hr]; exact ShM.rfl'⟩ rfl dX6_load_80
          · skip
            have n_31 : ¬ 11 ≤ i := cmp_nle (a := 11) (b := i) (by omega) (by omega) c_31
            refine J_aload_n E dX6_load_34 rfl 0 rfl ?_
            refine gM0_X6_37 E dX6_load_35 ?_
            refine J_bipush E dX6_load_38 bp_40 ?_
            refine J_iload_n E dX6_load_40 rfl 1 rfl ?_
            refine J_top (x' := nI 40) (by decide) ?_
            refine J_imul E dX6_load_41 ?_
            refine J_iload_n E dX6_load_42 rfl 3 rfl ?_
            refine J_iadd E dX6_load_43 ?_
            refine J_top (x' := nI (40 + i)) (nI_add 40 i) ?_
            refine lMn_1 E (j := (40 + i)) (i := i) rfl (by omega) dX6_load_44 ?_
            refine J_top (x' := y 9 0 i) (upG_n (by decide)) ?_
            refine J_i2l E dX6_load_45 rfl ?_
            refine J_lconst E dX6_load_46 lc_0 ?_
            refine J_ldc2 E kl_X6_83 dX6_load_47 ?_
            refine J_cSiN E (As := [.long (Int32.toInt64 (y 9 0 i)), .long 0, .long 99]) (c_X6_in l G (y 9 0 i) 0 99 0 99 (by decide) (by decide) ) cl_X6_54 yo_X6_in dX6_load_50 rfl (Nat.le_of_ble_eq_true rfl) (Nat.le_of_ble_eq_true rfl) rfl (Nat.le_of_ble_eq_true rfl) ⟨Nat.zero_le _, Nat.zero_le _⟩ ?_
            refine J_if_eq E (tgt := 79) dX6_load_53 (by decide) (fun c_53 => ?_) (fun c_53 => ?_)
            · skip
              have c_53 := bI_0 c_53
              have h2 : loadN (y 9 0) (min n 11) 0 = i := by rw [h1, show min n 11 - i = (min n 11 - (i + 1)) + 1 by omega, loadN, if_neg c_53]
              refine J_iload_n E dX6_load_79 rfl 3 rfl ?_
              exact ret _ _ _ _ ⟨by rw [h2], _, rfl, by rw [h2, ← hr]; exact ShM.rfl'⟩ rfl dX6_load_80
            · skip
              have c_53 := bI_1 c_53
              refine J_aload_n E dX6_load_56 rfl 0 rfl ?_
              refine J_iload_n E dX6_load_57 rfl 3 rfl ?_
              refine J_iconst E dX6_load_58 ic_2 ?_
              refine J_aload_n E dX6_load_59 rfl 0 rfl ?_
              refine gM0_X6_37 E dX6_load_60 ?_
              refine J_bipush E dX6_load_63 bp_40 ?_
              refine J_iload_n E dX6_load_65 rfl 1 rfl ?_
              refine J_top (x' := nI 40) (by decide) ?_
              refine J_imul E dX6_load_66 ?_
              refine J_iload_n E dX6_load_67 rfl 3 rfl ?_
              refine J_iadd E dX6_load_68 ?_
              refine J_top (x' := nI (40 + i)) (nI_add 40 i) ?_
              refine lMn_1 E (j := (40 + i)) (i := i) rfl (by omega) dX6_load_69 ?_
              refine J_top (x' := y 9 0 i) (upG_n (by decide)) ?_
              refine J_cVv0 E (As := [.int (nI i), .int 2, .int (y 9 0 i)]) (c_X6_sets l G b (upG y 0 r) i 2 (y 9 0 i) (by omega) (by omega)) cl_X6_43 yo_X6_sets dX6_load_70 rfl rfl rfl (Nat.le_of_ble_eq_true rfl) (Nat.le_of_ble_eq_true rfl) rfl (Nat.le_of_ble_eq_true rfl) ⟨Nat.zero_le _, Nat.zero_le _⟩ ?_
              refine J_iinc E (lv' := [(3, .int (nI (i + 1))), (0, .ref (b 0)), (1, .int (nI 1)), (2, .int (-1))]) dX6_load_73 3 rfl (nI_inc _) (by decide) rfl ?_
              refine J_goto E (tgt := 18) dX6_load_76 (by decide) ?_
              refine J_lv [1, 2, 3, 0] rfl ?_
              refine J_w (ws' := wM G b (upG y 0 (up2 r 2 i (y 9 0 i)))) (wM_c rfl rfl rfl rfl rfl rfl rfl rfl rfl rfl rfl) ?_
              exact ih18 (i + 1) (up2 r 2 i (y 9 0 i)) (by omega) (by rw [hr]; rfl) (by rw [h1, show min n 11 - i = (min n 11 - (i + 1)) + 1 by omega, loadN, if_pos c_53]) (by omega)
    refine J_lv [2, 3, 1, 0] rfl ?_
    refine J_w (ws' := wM G b (upG y 0 (y 0))) (wM_c rfl rfl rfl rfl rfl rfl rfl rfl rfl rfl rfl) ?_
    exact lp18 _ 0 (y 0) (by omega) rfl rfl (Nat.lt_succ_self _)
  · skip
    exact absurd c_7 (by decide)

set_option maxHeartbeats 4000000 in
set_option maxRecDepth 20000 in
theorem c_X6_load_ok_2 (l : Launch) (G : GB) (b : Nat → Nat) (y : Q3) (n : Nat) (hb : ¬ y 10 1 0 = 0) (hn : y 10 1 1 = nI n) (hn2 : n ≤ 40) : CI l yX6_load cX6_load 4 .int 3 66 G [.ref (b 0), .int (nI 2)] (wM G b y) (fun vR w' => vR = nI (loadN (y 10 0) (min n 11) 0) ∧ PubM G b (upG y 0 (loadQ (y 0) (y 10 0) (loadN (y 10 0) (min n 11) 0))) w') := by
  refine CI.mk (own := RX6) (by decide) rfl (Nat.le_of_ble_eq_true rfl) ?_
  intro X E ret
  show J X G 4 0 0 (wM G b y) [(0, .ref (b 0)), (1, .int (nI 2))] 0 []
  refine J_aload_n E dX6_load_0 rfl 0 rfl ?_
  refine J_iload_n E dX6_load_1 rfl 1 rfl ?_
  refine J_cVi0 E (As := [.int (nI 2)]) (c_X6_lacks_2_1 l G b y hb ) cl_X6_197 yo_X6_lacks dX6_load_2 rfl rfl rfl (Nat.le_of_ble_eq_true rfl) (Nat.le_of_ble_eq_true rfl) rfl (Nat.le_of_ble_eq_true rfl) ⟨Nat.zero_le _, Nat.zero_le _⟩ ?_
  refine J_istore_n E (lv' := [(2, .int (-1)), (0, .ref (b 0)), (1, .int (nI 2))]) dX6_load_5 rfl (by decide) rfl ?_
  refine J_iload_n E dX6_load_6 rfl 0 rfl ?_
  refine J_if_lt E (tgt := 16) dX6_load_7 (by decide) (fun c_7 => ?_) (fun c_7 => ?_)
  · skip
    refine J_iconst E dX6_load_16 ic_0 ?_
    refine J_istore_n E (lv' := [(3, .int 0), (2, .int (-1)), (0, .ref (b 0)), (1, .int (nI 2))]) dX6_load_17 rfl (by decide) rfl ?_
    refine J_w (ws' := wM G b (upG y 0 (y 0))) (congrArg (wM G b) upG_id.symm) ?_
    have lp18 : ∀ (fu : Nat) (i : Nat) (r : Q2), (i ≤ min n 11) → (r = loadQ (y 0) (y 10 0) i) → (loadN (y 10 0) (min n 11) 0 = loadN (y 10 0) (min n 11 - i) i) → min n 11 - i < fu → J X G 4 0 0 (wM G b (upG y 0 r)) [(0, .ref (b 0)), (1, .int (nI 2)), (2, .int (-1)), (3, .int (nI i))] 18 [] := by
      intro fu
      induction fu with
      | zero => intro i r hi hr h1 hm; exact absurd hm (Nat.not_lt_zero _)
      | succ fu ih18 =>
        intro i r hi hr h1 hm
        refine J_iload_n E dX6_load_18 rfl 3 rfl ?_
        refine J_aload_n E dX6_load_19 rfl 0 rfl ?_
        refine gM0_X6_34 E dX6_load_20 ?_
        refine J_iload_n E dX6_load_23 rfl 1 rfl ?_
        refine lMz_2 E  dX6_load_24 ?_
        refine J_top (x' := y 10 1 1) (upG_n (by decide)) ?_
        refine J_top (x' := nI n) (hn) ?_
        refine J_icmp_ge E (tgt := 79) dX6_load_25 (by decide) (fun c_25 => ?_) (fun c_25 => ?_)
        · skip
          have n_25 : n ≤ i := cmp_le (a := n) (b := i) (by omega) (by omega) c_25
          have h2 : loadN (y 10 0) (min n 11) 0 = i := by rw [h1, show min n 11 - i = 0 by omega]; rfl
          refine J_iload_n E dX6_load_79 rfl 3 rfl ?_
          exact ret _ _ _ _ ⟨by rw [h2], _, rfl, by rw [h2, ← hr]; exact ShM.rfl'⟩ rfl dX6_load_80
        · skip
          have n_25 : ¬ n ≤ i := cmp_nle (a := n) (b := i) (by omega) (by omega) c_25
          refine J_iload_n E dX6_load_28 rfl 3 rfl ?_
          refine J_bipush E dX6_load_29 bp_11 ?_
          refine J_icmp_ge E (tgt := 79) dX6_load_31 (by decide) (fun c_31 => ?_) (fun c_31 => ?_)
          · skip
            have n_31 : 11 ≤ i := cmp_le (a := 11) (b := i) (by omega) (by omega) c_31
            have h2 : loadN (y 10 0) (min n 11) 0 = i := by rw [h1, show min n 11 - i = 0 by omega]; rfl
            refine J_iload_n E dX6_load_79 rfl 3 rfl ?_
            exact ret _ _ _ _ ⟨by rw [h2], _, rfl, by rw [h2, ← hr]; exact ShM.rfl'⟩ rfl dX6_load_80
          · skip
            have n_31 : ¬ 11 ≤ i := cmp_nle (a := 11) (b := i) (by omega) (by omega) c_31
            refine J_aload_n E dX6_load_34 rfl 0 rfl ?_
            refine gM0_X6_37 E dX6_load_35 ?_
            refine J_bipush E dX6_load_38 bp_40 ?_
            refine J_iload_n E dX6_load_40 rfl 1 rfl ?_
            refine J_top (x' := nI 80) (by decide) ?_
            refine J_imul E dX6_load_41 ?_
            refine J_iload_n E dX6_load_42 rfl 3 rfl ?_
            refine J_iadd E dX6_load_43 ?_
            refine J_top (x' := nI (80 + i)) (nI_add 80 i) ?_
            refine lMn_2 E (j := (80 + i)) (i := i) rfl (by omega) dX6_load_44 ?_
            refine J_top (x' := y 10 0 i) (upG_n (by decide)) ?_
            refine J_i2l E dX6_load_45 rfl ?_
            refine J_lconst E dX6_load_46 lc_0 ?_
            refine J_ldc2 E kl_X6_83 dX6_load_47 ?_
            refine J_cSiN E (As := [.long (Int32.toInt64 (y 10 0 i)), .long 0, .long 99]) (c_X6_in l G (y 10 0 i) 0 99 0 99 (by decide) (by decide) ) cl_X6_54 yo_X6_in dX6_load_50 rfl (Nat.le_of_ble_eq_true rfl) (Nat.le_of_ble_eq_true rfl) rfl (Nat.le_of_ble_eq_true rfl) ⟨Nat.zero_le _, Nat.zero_le _⟩ ?_
            refine J_if_eq E (tgt := 79) dX6_load_53 (by decide) (fun c_53 => ?_) (fun c_53 => ?_)
            · skip
              have c_53 := bI_0 c_53
              have h2 : loadN (y 10 0) (min n 11) 0 = i := by rw [h1, show min n 11 - i = (min n 11 - (i + 1)) + 1 by omega, loadN, if_neg c_53]
              refine J_iload_n E dX6_load_79 rfl 3 rfl ?_
              exact ret _ _ _ _ ⟨by rw [h2], _, rfl, by rw [h2, ← hr]; exact ShM.rfl'⟩ rfl dX6_load_80
            · skip
              have c_53 := bI_1 c_53
              refine J_aload_n E dX6_load_56 rfl 0 rfl ?_
              refine J_iload_n E dX6_load_57 rfl 3 rfl ?_
              refine J_iconst E dX6_load_58 ic_2 ?_
              refine J_aload_n E dX6_load_59 rfl 0 rfl ?_
              refine gM0_X6_37 E dX6_load_60 ?_
              refine J_bipush E dX6_load_63 bp_40 ?_
              refine J_iload_n E dX6_load_65 rfl 1 rfl ?_
              refine J_top (x' := nI 80) (by decide) ?_
              refine J_imul E dX6_load_66 ?_
              refine J_iload_n E dX6_load_67 rfl 3 rfl ?_
              refine J_iadd E dX6_load_68 ?_
              refine J_top (x' := nI (80 + i)) (nI_add 80 i) ?_
              refine lMn_2 E (j := (80 + i)) (i := i) rfl (by omega) dX6_load_69 ?_
              refine J_top (x' := y 10 0 i) (upG_n (by decide)) ?_
              refine J_cVv0 E (As := [.int (nI i), .int 2, .int (y 10 0 i)]) (c_X6_sets l G b (upG y 0 r) i 2 (y 10 0 i) (by omega) (by omega)) cl_X6_43 yo_X6_sets dX6_load_70 rfl rfl rfl (Nat.le_of_ble_eq_true rfl) (Nat.le_of_ble_eq_true rfl) rfl (Nat.le_of_ble_eq_true rfl) ⟨Nat.zero_le _, Nat.zero_le _⟩ ?_
              refine J_iinc E (lv' := [(3, .int (nI (i + 1))), (0, .ref (b 0)), (1, .int (nI 2)), (2, .int (-1))]) dX6_load_73 3 rfl (nI_inc _) (by decide) rfl ?_
              refine J_goto E (tgt := 18) dX6_load_76 (by decide) ?_
              refine J_lv [1, 2, 3, 0] rfl ?_
              refine J_w (ws' := wM G b (upG y 0 (up2 r 2 i (y 10 0 i)))) (wM_c rfl rfl rfl rfl rfl rfl rfl rfl rfl rfl rfl) ?_
              exact ih18 (i + 1) (up2 r 2 i (y 10 0 i)) (by omega) (by rw [hr]; rfl) (by rw [h1, show min n 11 - i = (min n 11 - (i + 1)) + 1 by omega, loadN, if_pos c_53]) (by omega)
    refine J_lv [2, 3, 1, 0] rfl ?_
    refine J_w (ws' := wM G b (upG y 0 (y 0))) (wM_c rfl rfl rfl rfl rfl rfl rfl rfl rfl rfl rfl) ?_
    exact lp18 _ 0 (y 0) (by omega) rfl rfl (Nat.lt_succ_self _)
  · skip
    exact absurd c_7 (by decide)

set_option maxHeartbeats 4000000 in
set_option maxRecDepth 20000 in
theorem c_X6_load_ok_3 (l : Launch) (G : GB) (b : Nat → Nat) (y : Q3) (n : Nat) (hb : ¬ y 11 1 0 = 0) (hn : y 11 1 1 = nI n) (hn2 : n ≤ 40) : CI l yX6_load cX6_load 4 .int 3 66 G [.ref (b 0), .int (nI 3)] (wM G b y) (fun vR w' => vR = nI (loadN (y 11 0) (min n 11) 0) ∧ PubM G b (upG y 0 (loadQ (y 0) (y 11 0) (loadN (y 11 0) (min n 11) 0))) w') := by
  refine CI.mk (own := RX6) (by decide) rfl (Nat.le_of_ble_eq_true rfl) ?_
  intro X E ret
  show J X G 4 0 0 (wM G b y) [(0, .ref (b 0)), (1, .int (nI 3))] 0 []
  refine J_aload_n E dX6_load_0 rfl 0 rfl ?_
  refine J_iload_n E dX6_load_1 rfl 1 rfl ?_
  refine J_cVi0 E (As := [.int (nI 3)]) (c_X6_lacks_3_1 l G b y hb ) cl_X6_197 yo_X6_lacks dX6_load_2 rfl rfl rfl (Nat.le_of_ble_eq_true rfl) (Nat.le_of_ble_eq_true rfl) rfl (Nat.le_of_ble_eq_true rfl) ⟨Nat.zero_le _, Nat.zero_le _⟩ ?_
  refine J_istore_n E (lv' := [(2, .int (-1)), (0, .ref (b 0)), (1, .int (nI 3))]) dX6_load_5 rfl (by decide) rfl ?_
  refine J_iload_n E dX6_load_6 rfl 0 rfl ?_
  refine J_if_lt E (tgt := 16) dX6_load_7 (by decide) (fun c_7 => ?_) (fun c_7 => ?_)
  · skip
    refine J_iconst E dX6_load_16 ic_0 ?_
    refine J_istore_n E (lv' := [(3, .int 0), (2, .int (-1)), (0, .ref (b 0)), (1, .int (nI 3))]) dX6_load_17 rfl (by decide) rfl ?_
    refine J_w (ws' := wM G b (upG y 0 (y 0))) (congrArg (wM G b) upG_id.symm) ?_
    have lp18 : ∀ (fu : Nat) (i : Nat) (r : Q2), (i ≤ min n 11) → (r = loadQ (y 0) (y 11 0) i) → (loadN (y 11 0) (min n 11) 0 = loadN (y 11 0) (min n 11 - i) i) → min n 11 - i < fu → J X G 4 0 0 (wM G b (upG y 0 r)) [(0, .ref (b 0)), (1, .int (nI 3)), (2, .int (-1)), (3, .int (nI i))] 18 [] := by
      intro fu
      induction fu with
      | zero => intro i r hi hr h1 hm; exact absurd hm (Nat.not_lt_zero _)
      | succ fu ih18 =>
        intro i r hi hr h1 hm
        refine J_iload_n E dX6_load_18 rfl 3 rfl ?_
        refine J_aload_n E dX6_load_19 rfl 0 rfl ?_
        refine gM0_X6_34 E dX6_load_20 ?_
        refine J_iload_n E dX6_load_23 rfl 1 rfl ?_
        refine lMz_3 E  dX6_load_24 ?_
        refine J_top (x' := y 11 1 1) (upG_n (by decide)) ?_
        refine J_top (x' := nI n) (hn) ?_
        refine J_icmp_ge E (tgt := 79) dX6_load_25 (by decide) (fun c_25 => ?_) (fun c_25 => ?_)
        · skip
          have n_25 : n ≤ i := cmp_le (a := n) (b := i) (by omega) (by omega) c_25
          have h2 : loadN (y 11 0) (min n 11) 0 = i := by rw [h1, show min n 11 - i = 0 by omega]; rfl
          refine J_iload_n E dX6_load_79 rfl 3 rfl ?_
          exact ret _ _ _ _ ⟨by rw [h2], _, rfl, by rw [h2, ← hr]; exact ShM.rfl'⟩ rfl dX6_load_80
        · skip
          have n_25 : ¬ n ≤ i := cmp_nle (a := n) (b := i) (by omega) (by omega) c_25
          refine J_iload_n E dX6_load_28 rfl 3 rfl ?_
          refine J_bipush E dX6_load_29 bp_11 ?_
          refine J_icmp_ge E (tgt := 79) dX6_load_31 (by decide) (fun c_31 => ?_) (fun c_31 => ?_)
          · skip
            have n_31 : 11 ≤ i := cmp_le (a := 11) (b := i) (by omega) (by omega) c_31
            have h2 : loadN (y 11 0) (min n 11) 0 = i := by rw [h1, show min n 11 - i = 0 by omega]; rfl
            refine J_iload_n E dX6_load_79 rfl 3 rfl ?_
            exact ret _ _ _ _ ⟨by rw [h2], _, rfl, by rw [h2, ← hr]; exact ShM.rfl'⟩ rfl dX6_load_80
          · skip
            have n_31 : ¬ 11 ≤ i := cmp_nle (a := 11) (b := i) (by omega) (by omega) c_31
            refine J_aload_n E dX6_load_34 rfl 0 rfl ?_
            refine gM0_X6_37 E dX6_load_35 ?_
            refine J_bipush E dX6_load_38 bp_40 ?_
            refine J_iload_n E dX6_load_40 rfl 1 rfl ?_
            refine J_top (x' := nI 120) (by decide) ?_
            refine J_imul E dX6_load_41 ?_
            refine J_iload_n E dX6_load_42 rfl 3 rfl ?_
            refine J_iadd E dX6_load_43 ?_
            refine J_top (x' := nI (120 + i)) (nI_add 120 i) ?_
            refine lMn_3 E (j := (120 + i)) (i := i) rfl (by omega) dX6_load_44 ?_
            refine J_top (x' := y 11 0 i) (upG_n (by decide)) ?_
            refine J_i2l E dX6_load_45 rfl ?_
            refine J_lconst E dX6_load_46 lc_0 ?_
            refine J_ldc2 E kl_X6_83 dX6_load_47 ?_
            refine J_cSiN E (As := [.long (Int32.toInt64 (y 11 0 i)), .long 0, .long 99]) (c_X6_in l G (y 11 0 i) 0 99 0 99 (by decide) (by decide) ) cl_X6_54 yo_X6_in dX6_load_50 rfl (Nat.le_of_ble_eq_true rfl) (Nat.le_of_ble_eq_true rfl) rfl (Nat.le_of_ble_eq_true rfl) ⟨Nat.zero_le _, Nat.zero_le _⟩ ?_
            refine J_if_eq E (tgt := 79) dX6_load_53 (by decide) (fun c_53 => ?_) (fun c_53 => ?_)
            · skip
              have c_53 := bI_0 c_53
              have h2 : loadN (y 11 0) (min n 11) 0 = i := by rw [h1, show min n 11 - i = (min n 11 - (i + 1)) + 1 by omega, loadN, if_neg c_53]
              refine J_iload_n E dX6_load_79 rfl 3 rfl ?_
              exact ret _ _ _ _ ⟨by rw [h2], _, rfl, by rw [h2, ← hr]; exact ShM.rfl'⟩ rfl dX6_load_80
            · skip
              have c_53 := bI_1 c_53
              refine J_aload_n E dX6_load_56 rfl 0 rfl ?_
              refine J_iload_n E dX6_load_57 rfl 3 rfl ?_
              refine J_iconst E dX6_load_58 ic_2 ?_
              refine J_aload_n E dX6_load_59 rfl 0 rfl ?_
              refine gM0_X6_37 E dX6_load_60 ?_
              refine J_bipush E dX6_load_63 bp_40 ?_
              refine J_iload_n E dX6_load_65 rfl 1 rfl ?_
              refine J_top (x' := nI 120) (by decide) ?_
              refine J_imul E dX6_load_66 ?_
              refine J_iload_n E dX6_load_67 rfl 3 rfl ?_
              refine J_iadd E dX6_load_68 ?_
              refine J_top (x' := nI (120 + i)) (nI_add 120 i) ?_
              refine lMn_3 E (j := (120 + i)) (i := i) rfl (by omega) dX6_load_69 ?_
              refine J_top (x' := y 11 0 i) (upG_n (by decide)) ?_
              refine J_cVv0 E (As := [.int (nI i), .int 2, .int (y 11 0 i)]) (c_X6_sets l G b (upG y 0 r) i 2 (y 11 0 i) (by omega) (by omega)) cl_X6_43 yo_X6_sets dX6_load_70 rfl rfl rfl (Nat.le_of_ble_eq_true rfl) (Nat.le_of_ble_eq_true rfl) rfl (Nat.le_of_ble_eq_true rfl) ⟨Nat.zero_le _, Nat.zero_le _⟩ ?_
              refine J_iinc E (lv' := [(3, .int (nI (i + 1))), (0, .ref (b 0)), (1, .int (nI 3)), (2, .int (-1))]) dX6_load_73 3 rfl (nI_inc _) (by decide) rfl ?_
              refine J_goto E (tgt := 18) dX6_load_76 (by decide) ?_
              refine J_lv [1, 2, 3, 0] rfl ?_
              refine J_w (ws' := wM G b (upG y 0 (up2 r 2 i (y 11 0 i)))) (wM_c rfl rfl rfl rfl rfl rfl rfl rfl rfl rfl rfl) ?_
              exact ih18 (i + 1) (up2 r 2 i (y 11 0 i)) (by omega) (by rw [hr]; rfl) (by rw [h1, show min n 11 - i = (min n 11 - (i + 1)) + 1 by omega, loadN, if_pos c_53]) (by omega)
    refine J_lv [2, 3, 1, 0] rfl ?_
    refine J_w (ws' := wM G b (upG y 0 (y 0))) (wM_c rfl rfl rfl rfl rfl rfl rfl rfl rfl rfl rfl) ?_
    exact lp18 _ 0 (y 0) (by omega) rfl rfl (Nat.lt_succ_self _)
  · skip
    exact absurd c_7 (by decide)

set_option maxHeartbeats 4000000 in
set_option maxRecDepth 20000 in
theorem c_X6_judge_out (l : Launch) (G : GB) (b : Nat → Nat) (y : Q3) (s : Int32)  (hs : ¬ (0 ≤ s ∧ s ≤ 3)) : CI l yX6_judge cX6_judge 4 .int 3 66 G [.ref (b 0), .int s] (wM G b y) (fun vR w' => vR = tellR 0 ∧ PubM G b (tellX y 0) w') := by
  refine CI.mk (own := RX6) (by decide) rfl (Nat.le_of_ble_eq_true rfl) ?_
  intro X E ret
  show J X G 4 0 0 (wM G b y) [(0, .ref (b 0)), (1, .int s)] 0 []
  refine J_aload_n E dX6_judge_0 rfl 0 rfl ?_
  refine J_iload_n E dX6_judge_1 rfl 1 rfl ?_
  refine J_cVi0 E (As := [.int s]) (c_X6_lacks_out l G b y s hs ) cl_X6_197 yo_X6_lacks dX6_judge_2 rfl rfl rfl (Nat.le_of_ble_eq_true rfl) (Nat.le_of_ble_eq_true rfl) rfl (Nat.le_of_ble_eq_true rfl) ⟨Nat.zero_le _, Nat.zero_le _⟩ ?_
  refine J_istore_n E (lv' := [(2, .int 0), (0, .ref (b 0)), (1, .int s)]) dX6_judge_5 rfl (by decide) rfl ?_
  refine J_iload_n E dX6_judge_6 rfl 0 rfl ?_
  refine J_if_lt E (tgt := 16) dX6_judge_7 (by decide) (fun c_7 => ?_) (fun c_7 => ?_)
  · skip
    have n_7 : 0 < 0 := cmp_lt (a := 0) (b := 0) (by omega) (by omega) c_7
    exact absurd n_7 (by decide)
  · skip
    have n_7 : ¬ 0 < 0 := cmp_nlt (a := 0) (b := 0) (by omega) (by omega) c_7
    refine J_aload_n E dX6_judge_10 rfl 1 rfl ?_
    refine J_iload_n E dX6_judge_11 rfl 0 rfl ?_
    refine J_cVi0 E (As := [.int 0]) (c_X6_finds l G b y 0 (by omega)) cl_X6_96 yo_X6_finds dX6_judge_12 rfl rfl rfl (Nat.le_of_ble_eq_true rfl) (Nat.le_of_ble_eq_true rfl) rfl (Nat.le_of_ble_eq_true rfl) ⟨Nat.zero_le _, Nat.zero_le _⟩ ?_
    exact ret _ _ _ _ ⟨rfl, _, rfl, by intro g h2 h5 h6; by_cases h0 : g = 0 <;> simp [tellX, upG, up3, up3R, up2, h0, h2, h5, h6]⟩ rfl dX6_judge_15

set_option maxHeartbeats 4000000 in
set_option maxRecDepth 20000 in
theorem c_X6_judge_miss_0 (l : Launch) (G : GB) (b : Nat → Nat) (y : Q3)  (hb : y 8 1 0 = 0) : CI l yX6_judge cX6_judge 4 .int 3 66 G [.ref (b 0), .int (nI 0)] (wM G b y) (fun vR w' => vR = tellR 5 ∧ PubM G b (tellX y 5) w') := by
  refine CI.mk (own := RX6) (by decide) rfl (Nat.le_of_ble_eq_true rfl) ?_
  intro X E ret
  show J X G 4 0 0 (wM G b y) [(0, .ref (b 0)), (1, .int (nI 0))] 0 []
  refine J_aload_n E dX6_judge_0 rfl 0 rfl ?_
  refine J_iload_n E dX6_judge_1 rfl 1 rfl ?_
  refine J_cVi0 E (As := [.int (nI 0)]) (c_X6_lacks_0_0 l G b y hb ) cl_X6_197 yo_X6_lacks dX6_judge_2 rfl rfl rfl (Nat.le_of_ble_eq_true rfl) (Nat.le_of_ble_eq_true rfl) rfl (Nat.le_of_ble_eq_true rfl) ⟨Nat.zero_le _, Nat.zero_le _⟩ ?_
  refine J_istore_n E (lv' := [(2, .int 5), (0, .ref (b 0)), (1, .int (nI 0))]) dX6_judge_5 rfl (by decide) rfl ?_
  refine J_iload_n E dX6_judge_6 rfl 0 rfl ?_
  refine J_if_lt E (tgt := 16) dX6_judge_7 (by decide) (fun c_7 => ?_) (fun c_7 => ?_)
  · skip
    have n_7 : 5 < 0 := cmp_lt (a := 5) (b := 0) (by omega) (by omega) c_7
    exact absurd n_7 (by decide)
  · skip
    have n_7 : ¬ 5 < 0 := cmp_nlt (a := 5) (b := 0) (by omega) (by omega) c_7
    refine J_aload_n E dX6_judge_10 rfl 1 rfl ?_
    refine J_iload_n E dX6_judge_11 rfl 0 rfl ?_
    refine J_cVi0 E (As := [.int 5]) (c_X6_finds l G b y 5 (by omega)) cl_X6_96 yo_X6_finds dX6_judge_12 rfl rfl rfl (Nat.le_of_ble_eq_true rfl) (Nat.le_of_ble_eq_true rfl) rfl (Nat.le_of_ble_eq_true rfl) ⟨Nat.zero_le _, Nat.zero_le _⟩ ?_
    exact ret _ _ _ _ ⟨rfl, _, rfl, by intro g h2 h5 h6; by_cases h0 : g = 0 <;> simp [tellX, upG, up3, up3R, up2, h0, h2, h5, h6]⟩ rfl dX6_judge_15

set_option maxHeartbeats 4000000 in
set_option maxRecDepth 20000 in
theorem c_X6_judge_miss_1 (l : Launch) (G : GB) (b : Nat → Nat) (y : Q3)  (hb : y 9 1 0 = 0) : CI l yX6_judge cX6_judge 4 .int 3 66 G [.ref (b 0), .int (nI 1)] (wM G b y) (fun vR w' => vR = tellR 5 ∧ PubM G b (tellX y 5) w') := by
  refine CI.mk (own := RX6) (by decide) rfl (Nat.le_of_ble_eq_true rfl) ?_
  intro X E ret
  show J X G 4 0 0 (wM G b y) [(0, .ref (b 0)), (1, .int (nI 1))] 0 []
  refine J_aload_n E dX6_judge_0 rfl 0 rfl ?_
  refine J_iload_n E dX6_judge_1 rfl 1 rfl ?_
  refine J_cVi0 E (As := [.int (nI 1)]) (c_X6_lacks_1_0 l G b y hb ) cl_X6_197 yo_X6_lacks dX6_judge_2 rfl rfl rfl (Nat.le_of_ble_eq_true rfl) (Nat.le_of_ble_eq_true rfl) rfl (Nat.le_of_ble_eq_true rfl) ⟨Nat.zero_le _, Nat.zero_le _⟩ ?_
  refine J_istore_n E (lv' := [(2, .int 5), (0, .ref (b 0)), (1, .int (nI 1))]) dX6_judge_5 rfl (by decide) rfl ?_
  refine J_iload_n E dX6_judge_6 rfl 0 rfl ?_
  refine J_if_lt E (tgt := 16) dX6_judge_7 (by decide) (fun c_7 => ?_) (fun c_7 => ?_)
  · skip
    have n_7 : 5 < 0 := cmp_lt (a := 5) (b := 0) (by omega) (by omega) c_7
    exact absurd n_7 (by decide)
  · skip
    have n_7 : ¬ 5 < 0 := cmp_nlt (a := 5) (b := 0) (by omega) (by omega) c_7
    refine J_aload_n E dX6_judge_10 rfl 1 rfl ?_
    refine J_iload_n E dX6_judge_11 rfl 0 rfl ?_
    refine J_cVi0 E (As := [.int 5]) (c_X6_finds l G b y 5 (by omega)) cl_X6_96 yo_X6_finds dX6_judge_12 rfl rfl rfl (Nat.le_of_ble_eq_true rfl) (Nat.le_of_ble_eq_true rfl) rfl (Nat.le_of_ble_eq_true rfl) ⟨Nat.zero_le _, Nat.zero_le _⟩ ?_
    exact ret _ _ _ _ ⟨rfl, _, rfl, by intro g h2 h5 h6; by_cases h0 : g = 0 <;> simp [tellX, upG, up3, up3R, up2, h0, h2, h5, h6]⟩ rfl dX6_judge_15

set_option maxHeartbeats 4000000 in
set_option maxRecDepth 20000 in
theorem c_X6_judge_miss_2 (l : Launch) (G : GB) (b : Nat → Nat) (y : Q3)  (hb : y 10 1 0 = 0) : CI l yX6_judge cX6_judge 4 .int 3 66 G [.ref (b 0), .int (nI 2)] (wM G b y) (fun vR w' => vR = tellR 5 ∧ PubM G b (tellX y 5) w') := by
  refine CI.mk (own := RX6) (by decide) rfl (Nat.le_of_ble_eq_true rfl) ?_
  intro X E ret
  show J X G 4 0 0 (wM G b y) [(0, .ref (b 0)), (1, .int (nI 2))] 0 []
  refine J_aload_n E dX6_judge_0 rfl 0 rfl ?_
  refine J_iload_n E dX6_judge_1 rfl 1 rfl ?_
  refine J_cVi0 E (As := [.int (nI 2)]) (c_X6_lacks_2_0 l G b y hb ) cl_X6_197 yo_X6_lacks dX6_judge_2 rfl rfl rfl (Nat.le_of_ble_eq_true rfl) (Nat.le_of_ble_eq_true rfl) rfl (Nat.le_of_ble_eq_true rfl) ⟨Nat.zero_le _, Nat.zero_le _⟩ ?_
  refine J_istore_n E (lv' := [(2, .int 5), (0, .ref (b 0)), (1, .int (nI 2))]) dX6_judge_5 rfl (by decide) rfl ?_
  refine J_iload_n E dX6_judge_6 rfl 0 rfl ?_
  refine J_if_lt E (tgt := 16) dX6_judge_7 (by decide) (fun c_7 => ?_) (fun c_7 => ?_)
  · skip
    have n_7 : 5 < 0 := cmp_lt (a := 5) (b := 0) (by omega) (by omega) c_7
    exact absurd n_7 (by decide)
  · skip
    have n_7 : ¬ 5 < 0 := cmp_nlt (a := 5) (b := 0) (by omega) (by omega) c_7
    refine J_aload_n E dX6_judge_10 rfl 1 rfl ?_
    refine J_iload_n E dX6_judge_11 rfl 0 rfl ?_
    refine J_cVi0 E (As := [.int 5]) (c_X6_finds l G b y 5 (by omega)) cl_X6_96 yo_X6_finds dX6_judge_12 rfl rfl rfl (Nat.le_of_ble_eq_true rfl) (Nat.le_of_ble_eq_true rfl) rfl (Nat.le_of_ble_eq_true rfl) ⟨Nat.zero_le _, Nat.zero_le _⟩ ?_
    exact ret _ _ _ _ ⟨rfl, _, rfl, by intro g h2 h5 h6; by_cases h0 : g = 0 <;> simp [tellX, upG, up3, up3R, up2, h0, h2, h5, h6]⟩ rfl dX6_judge_15

set_option maxHeartbeats 4000000 in
set_option maxRecDepth 20000 in
theorem c_X6_judge_miss_3 (l : Launch) (G : GB) (b : Nat → Nat) (y : Q3)  (hb : y 11 1 0 = 0) : CI l yX6_judge cX6_judge 4 .int 3 66 G [.ref (b 0), .int (nI 3)] (wM G b y) (fun vR w' => vR = tellR 5 ∧ PubM G b (tellX y 5) w') := by
  refine CI.mk (own := RX6) (by decide) rfl (Nat.le_of_ble_eq_true rfl) ?_
  intro X E ret
  show J X G 4 0 0 (wM G b y) [(0, .ref (b 0)), (1, .int (nI 3))] 0 []
  refine J_aload_n E dX6_judge_0 rfl 0 rfl ?_
  refine J_iload_n E dX6_judge_1 rfl 1 rfl ?_
  refine J_cVi0 E (As := [.int (nI 3)]) (c_X6_lacks_3_0 l G b y hb ) cl_X6_197 yo_X6_lacks dX6_judge_2 rfl rfl rfl (Nat.le_of_ble_eq_true rfl) (Nat.le_of_ble_eq_true rfl) rfl (Nat.le_of_ble_eq_true rfl) ⟨Nat.zero_le _, Nat.zero_le _⟩ ?_
  refine J_istore_n E (lv' := [(2, .int 5), (0, .ref (b 0)), (1, .int (nI 3))]) dX6_judge_5 rfl (by decide) rfl ?_
  refine J_iload_n E dX6_judge_6 rfl 0 rfl ?_
  refine J_if_lt E (tgt := 16) dX6_judge_7 (by decide) (fun c_7 => ?_) (fun c_7 => ?_)
  · skip
    have n_7 : 5 < 0 := cmp_lt (a := 5) (b := 0) (by omega) (by omega) c_7
    exact absurd n_7 (by decide)
  · skip
    have n_7 : ¬ 5 < 0 := cmp_nlt (a := 5) (b := 0) (by omega) (by omega) c_7
    refine J_aload_n E dX6_judge_10 rfl 1 rfl ?_
    refine J_iload_n E dX6_judge_11 rfl 0 rfl ?_
    refine J_cVi0 E (As := [.int 5]) (c_X6_finds l G b y 5 (by omega)) cl_X6_96 yo_X6_finds dX6_judge_12 rfl rfl rfl (Nat.le_of_ble_eq_true rfl) (Nat.le_of_ble_eq_true rfl) rfl (Nat.le_of_ble_eq_true rfl) ⟨Nat.zero_le _, Nat.zero_le _⟩ ?_
    exact ret _ _ _ _ ⟨rfl, _, rfl, by intro g h2 h5 h6; by_cases h0 : g = 0 <;> simp [tellX, upG, up3, up3R, up2, h0, h2, h5, h6]⟩ rfl dX6_judge_15

set_option maxHeartbeats 4000000 in
set_option maxRecDepth 20000 in
theorem c_X6_goesOn_0 (l : Launch) (G : GB) (b : Nat → Nat) (y : Q3) (i : Nat) (hi : i < 40) (hp : 0 < i → okH (y 8 0 (i - 1))) : CI l yX6_goesOn cX6_goesOn 4 .boolean 2 45 G [.ref (b 0), .int (nI 0), .int (nI i)] (wM G b y) (fun vR w' => vR = bI (judgP (y 0) (y 8 0) i = true) ∧ w' = wM G b y) := by
  refine CI.mk (own := RX6) (by decide) rfl (Nat.le_of_ble_eq_true rfl) ?_
  intro X E ret
  show J X G 4 0 0 (wM G b y) [(0, .ref (b 0)), (1, .int (nI 0)), (2, .int (nI i))] 0 []
  refine J_aload_n E dX6_goesOn_0 rfl 0 rfl ?_
  refine gM0_X6_37 E dX6_goesOn_1 ?_
  refine J_bipush E dX6_goesOn_4 bp_40 ?_
  refine J_iload_n E dX6_goesOn_6 rfl 1 rfl ?_
  refine J_top (x' := nI 0) (by decide) ?_
  refine J_imul E dX6_goesOn_7 ?_
  refine J_iload_n E dX6_goesOn_8 rfl 2 rfl ?_
  refine J_iadd E dX6_goesOn_9 ?_
  refine J_top (x' := nI (0 + i)) (nI_add 0 i) ?_
  refine lMn_0 E (j := (0 + i)) (i := i) rfl (by omega) dX6_goesOn_10 ?_
  refine J_istore_n E (lv' := [(3, .int (y 8 0 i)), (0, .ref (b 0)), (1, .int (nI 0)), (2, .int (nI i))]) dX6_goesOn_11 rfl (by decide) rfl ?_
  refine J_iload_n E dX6_goesOn_12 rfl 0 rfl ?_
  refine J_cSiN E (As := [.int (y 8 0 i)]) (c_X6_isHouse l G (y 8 0 i) ) cl_X6_87 yo_X6_isHouse dX6_goesOn_13 rfl (Nat.le_of_ble_eq_true rfl) (Nat.le_of_ble_eq_true rfl) rfl (Nat.le_of_ble_eq_true rfl) ⟨Nat.zero_le _, Nat.zero_le _⟩ ?_
  refine J_if_eq E (tgt := 48) dX6_goesOn_16 (by decide) (fun c_16 => ?_) (fun c_16 => ?_)
  · skip
    have c_16 := bI_0 c_16
    refine J_iconst E dX6_goesOn_48 ic_0 ?_
    exact ret _ _ _ _ ⟨by first | exact (bI_t (show judgP (y 0) (y 8 0) i = true from decide_eq_true ⟨c_16, Or.inl (by omega)⟩)).symm | exact (bI_t (show judgP (y 0) (y 8 0) (u + 1) = true from decide_eq_true ⟨c_16, Or.inr (by rw [show u + 1 - 1 = u by omega, hp2, nI_clamp (by omega)]; exact c_41)⟩)).symm | exact (bI_f (fun z => c_16 (of_decide_eq_true z).1)).symm | exact (bI_f (fun z => by have z2 := (of_decide_eq_true z).2.resolve_left (by omega); rw [show u + 1 - 1 = u by omega, hp2, nI_clamp (by omega)] at z2; exact c_41 z2)).symm, (congrArg (wM G b) (rfl))⟩ rfl dX6_goesOn_49
  · skip
    have c_16 := bI_1 c_16
    refine J_iload_n E dX6_goesOn_19 rfl 3 rfl ?_
    refine J_if_eq E (tgt := 44) dX6_goesOn_20 (by decide) (fun c_20 => ?_) (fun c_20 => ?_)
    · skip
      have n_20 : i = 0 := cmp_eq (a := i) (b := 0) (by omega) (by omega) c_20
      refine J_iconst E dX6_goesOn_44 ic_1 ?_
      refine J_goto E (tgt := 49) dX6_goesOn_45 (by decide) ?_
      exact ret _ _ _ _ ⟨by first | exact (bI_t (show judgP (y 0) (y 8 0) i = true from decide_eq_true ⟨c_16, Or.inl (by omega)⟩)).symm | exact (bI_t (show judgP (y 0) (y 8 0) (u + 1) = true from decide_eq_true ⟨c_16, Or.inr (by rw [show u + 1 - 1 = u by omega, hp2, nI_clamp (by omega)]; exact c_41)⟩)).symm | exact (bI_f (fun z => c_16 (of_decide_eq_true z).1)).symm | exact (bI_f (fun z => by have z2 := (of_decide_eq_true z).2.resolve_left (by omega); rw [show u + 1 - 1 = u by omega, hp2, nI_clamp (by omega)] at z2; exact c_41 z2)).symm, (congrArg (wM G b) (rfl))⟩ rfl dX6_goesOn_49
    · skip
      have n_20 : ¬ i = 0 := cmp_ne (a := i) (b := 0) (by omega) (by omega) c_20
      obtain ⟨u, rfl⟩ : ∃ u, i = u + 1 := ⟨i - 1, by omega⟩
      obtain ⟨p, hp1, hp2⟩ := okH_of (hp (by omega))
      have hp2 : y 8 0 u = nI p := hp2
      refine J_aload_n E dX6_goesOn_23 rfl 1 rfl ?_
      refine J_aload_n E dX6_goesOn_24 rfl 1 rfl ?_
      refine gM0_X6_37 E dX6_goesOn_25 ?_
      refine J_bipush E dX6_goesOn_28 bp_40 ?_
      refine J_iload_n E dX6_goesOn_30 rfl 2 rfl ?_
      refine J_imul E dX6_goesOn_31 ?_
      refine J_top (x' := nI 0) (by decide) ?_
      refine J_iload_n E dX6_goesOn_32 rfl 3 rfl ?_
      refine J_iadd E dX6_goesOn_33 ?_
      refine J_top (x' := nI (0 + (u + 1))) (nI_add 0 (u + 1)) ?_
      refine J_iconst E dX6_goesOn_34 ic_1 ?_
      refine J_isub E dX6_goesOn_35 ?_
      refine J_top (x' := nI (0 + u)) (nI_pred (0 + u)) ?_
      refine lMn_0 E (j := (0 + u)) (i := u) rfl (by omega) dX6_goesOn_36 ?_
      refine J_top (x' := nI p) (hp2) ?_
      refine J_cVi0 E (As := [.int (nI p)]) (c_X6_leads l G b y p (by omega)) cl_X6_110 yo_X6_leads dX6_goesOn_37 rfl rfl rfl (Nat.le_of_ble_eq_true rfl) (Nat.le_of_ble_eq_true rfl) rfl (Nat.le_of_ble_eq_true rfl) ⟨Nat.zero_le _, Nat.zero_le _⟩ ?_
      refine J_iload_n E dX6_goesOn_40 rfl 0 rfl ?_
      refine J_icmp_ne E (tgt := 48) dX6_goesOn_41 (by decide) (fun c_41 => ?_) (fun c_41 => ?_)
      · skip
        refine J_iconst E dX6_goesOn_48 ic_0 ?_
        exact ret _ _ _ _ ⟨by first | exact (bI_t (show judgP (y 0) (y 8 0) i = true from decide_eq_true ⟨c_16, Or.inl (by omega)⟩)).symm | exact (bI_t (show judgP (y 0) (y 8 0) (u + 1) = true from decide_eq_true ⟨c_16, Or.inr (by rw [show u + 1 - 1 = u by omega, hp2, nI_clamp (by omega)]; exact c_41)⟩)).symm | exact (bI_f (fun z => c_16 (of_decide_eq_true z).1)).symm | exact (bI_f (fun z => by have z2 := (of_decide_eq_true z).2.resolve_left (by omega); rw [show u + 1 - 1 = u by omega, hp2, nI_clamp (by omega)] at z2; exact c_41 z2)).symm, (congrArg (wM G b) (rfl))⟩ rfl dX6_goesOn_49
      · skip
        refine J_iconst E dX6_goesOn_44 ic_1 ?_
        refine J_goto E (tgt := 49) dX6_goesOn_45 (by decide) ?_
        exact ret _ _ _ _ ⟨by first | exact (bI_t (show judgP (y 0) (y 8 0) i = true from decide_eq_true ⟨c_16, Or.inl (by omega)⟩)).symm | exact (bI_t (show judgP (y 0) (y 8 0) (u + 1) = true from decide_eq_true ⟨c_16, Or.inr (by rw [show u + 1 - 1 = u by omega, hp2, nI_clamp (by omega)]; exact c_41)⟩)).symm | exact (bI_f (fun z => c_16 (of_decide_eq_true z).1)).symm | exact (bI_f (fun z => by have z2 := (of_decide_eq_true z).2.resolve_left (by omega); rw [show u + 1 - 1 = u by omega, hp2, nI_clamp (by omega)] at z2; exact c_41 z2)).symm, (congrArg (wM G b) (rfl))⟩ rfl dX6_goesOn_49

set_option maxHeartbeats 4000000 in
set_option maxRecDepth 20000 in
theorem c_X6_goesOn_1 (l : Launch) (G : GB) (b : Nat → Nat) (y : Q3) (i : Nat) (hi : i < 40) (hp : 0 < i → okH (y 9 0 (i - 1))) : CI l yX6_goesOn cX6_goesOn 4 .boolean 2 45 G [.ref (b 0), .int (nI 1), .int (nI i)] (wM G b y) (fun vR w' => vR = bI (judgP (y 0) (y 9 0) i = true) ∧ w' = wM G b y) := by
  refine CI.mk (own := RX6) (by decide) rfl (Nat.le_of_ble_eq_true rfl) ?_
  intro X E ret
  show J X G 4 0 0 (wM G b y) [(0, .ref (b 0)), (1, .int (nI 1)), (2, .int (nI i))] 0 []
  refine J_aload_n E dX6_goesOn_0 rfl 0 rfl ?_
  refine gM0_X6_37 E dX6_goesOn_1 ?_
  refine J_bipush E dX6_goesOn_4 bp_40 ?_
  refine J_iload_n E dX6_goesOn_6 rfl 1 rfl ?_
  refine J_top (x' := nI 40) (by decide) ?_
  refine J_imul E dX6_goesOn_7 ?_
  refine J_iload_n E dX6_goesOn_8 rfl 2 rfl ?_
  refine J_iadd E dX6_goesOn_9 ?_
  refine J_top (x' := nI (40 + i)) (nI_add 40 i) ?_
  refine lMn_1 E (j := (40 + i)) (i := i) rfl (by omega) dX6_goesOn_10 ?_
  refine J_istore_n E (lv' := [(3, .int (y 9 0 i)), (0, .ref (b 0)), (1, .int (nI 1)), (2, .int (nI i))]) dX6_goesOn_11 rfl (by decide) rfl ?_
  refine J_iload_n E dX6_goesOn_12 rfl 0 rfl ?_
  refine J_cSiN E (As := [.int (y 9 0 i)]) (c_X6_isHouse l G (y 9 0 i) ) cl_X6_87 yo_X6_isHouse dX6_goesOn_13 rfl (Nat.le_of_ble_eq_true rfl) (Nat.le_of_ble_eq_true rfl) rfl (Nat.le_of_ble_eq_true rfl) ⟨Nat.zero_le _, Nat.zero_le _⟩ ?_
  refine J_if_eq E (tgt := 48) dX6_goesOn_16 (by decide) (fun c_16 => ?_) (fun c_16 => ?_)
  · skip
    have c_16 := bI_0 c_16
    refine J_iconst E dX6_goesOn_48 ic_0 ?_
    exact ret _ _ _ _ ⟨by first | exact (bI_t (show judgP (y 0) (y 9 0) i = true from decide_eq_true ⟨c_16, Or.inl (by omega)⟩)).symm | exact (bI_t (show judgP (y 0) (y 9 0) (u + 1) = true from decide_eq_true ⟨c_16, Or.inr (by rw [show u + 1 - 1 = u by omega, hp2, nI_clamp (by omega)]; exact c_41)⟩)).symm | exact (bI_f (fun z => c_16 (of_decide_eq_true z).1)).symm | exact (bI_f (fun z => by have z2 := (of_decide_eq_true z).2.resolve_left (by omega); rw [show u + 1 - 1 = u by omega, hp2, nI_clamp (by omega)] at z2; exact c_41 z2)).symm, (congrArg (wM G b) (rfl))⟩ rfl dX6_goesOn_49
  · skip
    have c_16 := bI_1 c_16
    refine J_iload_n E dX6_goesOn_19 rfl 3 rfl ?_
    refine J_if_eq E (tgt := 44) dX6_goesOn_20 (by decide) (fun c_20 => ?_) (fun c_20 => ?_)
    · skip
      have n_20 : i = 0 := cmp_eq (a := i) (b := 0) (by omega) (by omega) c_20
      refine J_iconst E dX6_goesOn_44 ic_1 ?_
      refine J_goto E (tgt := 49) dX6_goesOn_45 (by decide) ?_
      exact ret _ _ _ _ ⟨by first | exact (bI_t (show judgP (y 0) (y 9 0) i = true from decide_eq_true ⟨c_16, Or.inl (by omega)⟩)).symm | exact (bI_t (show judgP (y 0) (y 9 0) (u + 1) = true from decide_eq_true ⟨c_16, Or.inr (by rw [show u + 1 - 1 = u by omega, hp2, nI_clamp (by omega)]; exact c_41)⟩)).symm | exact (bI_f (fun z => c_16 (of_decide_eq_true z).1)).symm | exact (bI_f (fun z => by have z2 := (of_decide_eq_true z).2.resolve_left (by omega); rw [show u + 1 - 1 = u by omega, hp2, nI_clamp (by omega)] at z2; exact c_41 z2)).symm, (congrArg (wM G b) (rfl))⟩ rfl dX6_goesOn_49
    · skip
      have n_20 : ¬ i = 0 := cmp_ne (a := i) (b := 0) (by omega) (by omega) c_20
      obtain ⟨u, rfl⟩ : ∃ u, i = u + 1 := ⟨i - 1, by omega⟩
      obtain ⟨p, hp1, hp2⟩ := okH_of (hp (by omega))
      have hp2 : y 9 0 u = nI p := hp2
      refine J_aload_n E dX6_goesOn_23 rfl 1 rfl ?_
      refine J_aload_n E dX6_goesOn_24 rfl 1 rfl ?_
      refine gM0_X6_37 E dX6_goesOn_25 ?_
      refine J_bipush E dX6_goesOn_28 bp_40 ?_
      refine J_iload_n E dX6_goesOn_30 rfl 2 rfl ?_
      refine J_imul E dX6_goesOn_31 ?_
      refine J_top (x' := nI 40) (by decide) ?_
      refine J_iload_n E dX6_goesOn_32 rfl 3 rfl ?_
      refine J_iadd E dX6_goesOn_33 ?_
      refine J_top (x' := nI (40 + (u + 1))) (nI_add 40 (u + 1)) ?_
      refine J_iconst E dX6_goesOn_34 ic_1 ?_
      refine J_isub E dX6_goesOn_35 ?_
      refine J_top (x' := nI (40 + u)) (nI_pred (40 + u)) ?_
      refine lMn_1 E (j := (40 + u)) (i := u) rfl (by omega) dX6_goesOn_36 ?_
      refine J_top (x' := nI p) (hp2) ?_
      refine J_cVi0 E (As := [.int (nI p)]) (c_X6_leads l G b y p (by omega)) cl_X6_110 yo_X6_leads dX6_goesOn_37 rfl rfl rfl (Nat.le_of_ble_eq_true rfl) (Nat.le_of_ble_eq_true rfl) rfl (Nat.le_of_ble_eq_true rfl) ⟨Nat.zero_le _, Nat.zero_le _⟩ ?_
      refine J_iload_n E dX6_goesOn_40 rfl 0 rfl ?_
      refine J_icmp_ne E (tgt := 48) dX6_goesOn_41 (by decide) (fun c_41 => ?_) (fun c_41 => ?_)
      · skip
        refine J_iconst E dX6_goesOn_48 ic_0 ?_
        exact ret _ _ _ _ ⟨by first | exact (bI_t (show judgP (y 0) (y 9 0) i = true from decide_eq_true ⟨c_16, Or.inl (by omega)⟩)).symm | exact (bI_t (show judgP (y 0) (y 9 0) (u + 1) = true from decide_eq_true ⟨c_16, Or.inr (by rw [show u + 1 - 1 = u by omega, hp2, nI_clamp (by omega)]; exact c_41)⟩)).symm | exact (bI_f (fun z => c_16 (of_decide_eq_true z).1)).symm | exact (bI_f (fun z => by have z2 := (of_decide_eq_true z).2.resolve_left (by omega); rw [show u + 1 - 1 = u by omega, hp2, nI_clamp (by omega)] at z2; exact c_41 z2)).symm, (congrArg (wM G b) (rfl))⟩ rfl dX6_goesOn_49
      · skip
        refine J_iconst E dX6_goesOn_44 ic_1 ?_
        refine J_goto E (tgt := 49) dX6_goesOn_45 (by decide) ?_
        exact ret _ _ _ _ ⟨by first | exact (bI_t (show judgP (y 0) (y 9 0) i = true from decide_eq_true ⟨c_16, Or.inl (by omega)⟩)).symm | exact (bI_t (show judgP (y 0) (y 9 0) (u + 1) = true from decide_eq_true ⟨c_16, Or.inr (by rw [show u + 1 - 1 = u by omega, hp2, nI_clamp (by omega)]; exact c_41)⟩)).symm | exact (bI_f (fun z => c_16 (of_decide_eq_true z).1)).symm | exact (bI_f (fun z => by have z2 := (of_decide_eq_true z).2.resolve_left (by omega); rw [show u + 1 - 1 = u by omega, hp2, nI_clamp (by omega)] at z2; exact c_41 z2)).symm, (congrArg (wM G b) (rfl))⟩ rfl dX6_goesOn_49

set_option maxHeartbeats 4000000 in
set_option maxRecDepth 20000 in
theorem c_X6_goesOn_2 (l : Launch) (G : GB) (b : Nat → Nat) (y : Q3) (i : Nat) (hi : i < 40) (hp : 0 < i → okH (y 10 0 (i - 1))) : CI l yX6_goesOn cX6_goesOn 4 .boolean 2 45 G [.ref (b 0), .int (nI 2), .int (nI i)] (wM G b y) (fun vR w' => vR = bI (judgP (y 0) (y 10 0) i = true) ∧ w' = wM G b y) := by
  refine CI.mk (own := RX6) (by decide) rfl (Nat.le_of_ble_eq_true rfl) ?_
  intro X E ret
  show J X G 4 0 0 (wM G b y) [(0, .ref (b 0)), (1, .int (nI 2)), (2, .int (nI i))] 0 []
  refine J_aload_n E dX6_goesOn_0 rfl 0 rfl ?_
  refine gM0_X6_37 E dX6_goesOn_1 ?_
  refine J_bipush E dX6_goesOn_4 bp_40 ?_
  refine J_iload_n E dX6_goesOn_6 rfl 1 rfl ?_
  refine J_top (x' := nI 80) (by decide) ?_
  refine J_imul E dX6_goesOn_7 ?_
  refine J_iload_n E dX6_goesOn_8 rfl 2 rfl ?_
  refine J_iadd E dX6_goesOn_9 ?_
  refine J_top (x' := nI (80 + i)) (nI_add 80 i) ?_
  refine lMn_2 E (j := (80 + i)) (i := i) rfl (by omega) dX6_goesOn_10 ?_
  refine J_istore_n E (lv' := [(3, .int (y 10 0 i)), (0, .ref (b 0)), (1, .int (nI 2)), (2, .int (nI i))]) dX6_goesOn_11 rfl (by decide) rfl ?_
  refine J_iload_n E dX6_goesOn_12 rfl 0 rfl ?_
  refine J_cSiN E (As := [.int (y 10 0 i)]) (c_X6_isHouse l G (y 10 0 i) ) cl_X6_87 yo_X6_isHouse dX6_goesOn_13 rfl (Nat.le_of_ble_eq_true rfl) (Nat.le_of_ble_eq_true rfl) rfl (Nat.le_of_ble_eq_true rfl) ⟨Nat.zero_le _, Nat.zero_le _⟩ ?_
  refine J_if_eq E (tgt := 48) dX6_goesOn_16 (by decide) (fun c_16 => ?_) (fun c_16 => ?_)
  · skip
    have c_16 := bI_0 c_16
    refine J_iconst E dX6_goesOn_48 ic_0 ?_
    exact ret _ _ _ _ ⟨by first | exact (bI_t (show judgP (y 0) (y 10 0) i = true from decide_eq_true ⟨c_16, Or.inl (by omega)⟩)).symm | exact (bI_t (show judgP (y 0) (y 10 0) (u + 1) = true from decide_eq_true ⟨c_16, Or.inr (by rw [show u + 1 - 1 = u by omega, hp2, nI_clamp (by omega)]; exact c_41)⟩)).symm | exact (bI_f (fun z => c_16 (of_decide_eq_true z).1)).symm | exact (bI_f (fun z => by have z2 := (of_decide_eq_true z).2.resolve_left (by omega); rw [show u + 1 - 1 = u by omega, hp2, nI_clamp (by omega)] at z2; exact c_41 z2)).symm, (congrArg (wM G b) (rfl))⟩ rfl dX6_goesOn_49
  · skip
    have c_16 := bI_1 c_16
    refine J_iload_n E dX6_goesOn_19 rfl 3 rfl ?_
    refine J_if_eq E (tgt := 44) dX6_goesOn_20 (by decide) (fun c_20 => ?_) (fun c_20 => ?_)
    · skip
      have n_20 : i = 0 := cmp_eq (a := i) (b := 0) (by omega) (by omega) c_20
      refine J_iconst E dX6_goesOn_44 ic_1 ?_
      refine J_goto E (tgt := 49) dX6_goesOn_45 (by decide) ?_
      exact ret _ _ _ _ ⟨by first | exact (bI_t (show judgP (y 0) (y 10 0) i = true from decide_eq_true ⟨c_16, Or.inl (by omega)⟩)).symm | exact (bI_t (show judgP (y 0) (y 10 0) (u + 1) = true from decide_eq_true ⟨c_16, Or.inr (by rw [show u + 1 - 1 = u by omega, hp2, nI_clamp (by omega)]; exact c_41)⟩)).symm | exact (bI_f (fun z => c_16 (of_decide_eq_true z).1)).symm | exact (bI_f (fun z => by have z2 := (of_decide_eq_true z).2.resolve_left (by omega); rw [show u + 1 - 1 = u by omega, hp2, nI_clamp (by omega)] at z2; exact c_41 z2)).symm, (congrArg (wM G b) (rfl))⟩ rfl dX6_goesOn_49
    · skip
      have n_20 : ¬ i = 0 := cmp_ne (a := i) (b := 0) (by omega) (by omega) c_20
      obtain ⟨u, rfl⟩ : ∃ u, i = u + 1 := ⟨i - 1, by omega⟩
      obtain ⟨p, hp1, hp2⟩ := okH_of (hp (by omega))
      have hp2 : y 10 0 u = nI p := hp2
      refine J_aload_n E dX6_goesOn_23 rfl 1 rfl ?_
      refine J_aload_n E dX6_goesOn_24 rfl 1 rfl ?_
      refine gM0_X6_37 E dX6_goesOn_25 ?_
      refine J_bipush E dX6_goesOn_28 bp_40 ?_
      refine J_iload_n E dX6_goesOn_30 rfl 2 rfl ?_
      refine J_imul E dX6_goesOn_31 ?_
      refine J_top (x' := nI 80) (by decide) ?_
      refine J_iload_n E dX6_goesOn_32 rfl 3 rfl ?_
      refine J_iadd E dX6_goesOn_33 ?_
      refine J_top (x' := nI (80 + (u + 1))) (nI_add 80 (u + 1)) ?_
      refine J_iconst E dX6_goesOn_34 ic_1 ?_
      refine J_isub E dX6_goesOn_35 ?_
      refine J_top (x' := nI (80 + u)) (nI_pred (80 + u)) ?_
      refine lMn_2 E (j := (80 + u)) (i := u) rfl (by omega) dX6_goesOn_36 ?_
      refine J_top (x' := nI p) (hp2) ?_
      refine J_cVi0 E (As := [.int (nI p)]) (c_X6_leads l G b y p (by omega)) cl_X6_110 yo_X6_leads dX6_goesOn_37 rfl rfl rfl (Nat.le_of_ble_eq_true rfl) (Nat.le_of_ble_eq_true rfl) rfl (Nat.le_of_ble_eq_true rfl) ⟨Nat.zero_le _, Nat.zero_le _⟩ ?_
      refine J_iload_n E dX6_goesOn_40 rfl 0 rfl ?_
      refine J_icmp_ne E (tgt := 48) dX6_goesOn_41 (by decide) (fun c_41 => ?_) (fun c_41 => ?_)
      · skip
        refine J_iconst E dX6_goesOn_48 ic_0 ?_
        exact ret _ _ _ _ ⟨by first | exact (bI_t (show judgP (y 0) (y 10 0) i = true from decide_eq_true ⟨c_16, Or.inl (by omega)⟩)).symm | exact (bI_t (show judgP (y 0) (y 10 0) (u + 1) = true from decide_eq_true ⟨c_16, Or.inr (by rw [show u + 1 - 1 = u by omega, hp2, nI_clamp (by omega)]; exact c_41)⟩)).symm | exact (bI_f (fun z => c_16 (of_decide_eq_true z).1)).symm | exact (bI_f (fun z => by have z2 := (of_decide_eq_true z).2.resolve_left (by omega); rw [show u + 1 - 1 = u by omega, hp2, nI_clamp (by omega)] at z2; exact c_41 z2)).symm, (congrArg (wM G b) (rfl))⟩ rfl dX6_goesOn_49
      · skip
        refine J_iconst E dX6_goesOn_44 ic_1 ?_
        refine J_goto E (tgt := 49) dX6_goesOn_45 (by decide) ?_
        exact ret _ _ _ _ ⟨by first | exact (bI_t (show judgP (y 0) (y 10 0) i = true from decide_eq_true ⟨c_16, Or.inl (by omega)⟩)).symm | exact (bI_t (show judgP (y 0) (y 10 0) (u + 1) = true from decide_eq_true ⟨c_16, Or.inr (by rw [show u + 1 - 1 = u by omega, hp2, nI_clamp (by omega)]; exact c_41)⟩)).symm | exact (bI_f (fun z => c_16 (of_decide_eq_true z).1)).symm | exact (bI_f (fun z => by have z2 := (of_decide_eq_true z).2.resolve_left (by omega); rw [show u + 1 - 1 = u by omega, hp2, nI_clamp (by omega)] at z2; exact c_41 z2)).symm, (congrArg (wM G b) (rfl))⟩ rfl dX6_goesOn_49

set_option maxHeartbeats 4000000 in
set_option maxRecDepth 20000 in
theorem c_X6_goesOn_3 (l : Launch) (G : GB) (b : Nat → Nat) (y : Q3) (i : Nat) (hi : i < 40) (hp : 0 < i → okH (y 11 0 (i - 1))) : CI l yX6_goesOn cX6_goesOn 4 .boolean 2 45 G [.ref (b 0), .int (nI 3), .int (nI i)] (wM G b y) (fun vR w' => vR = bI (judgP (y 0) (y 11 0) i = true) ∧ w' = wM G b y) := by
  refine CI.mk (own := RX6) (by decide) rfl (Nat.le_of_ble_eq_true rfl) ?_
  intro X E ret
  show J X G 4 0 0 (wM G b y) [(0, .ref (b 0)), (1, .int (nI 3)), (2, .int (nI i))] 0 []
  refine J_aload_n E dX6_goesOn_0 rfl 0 rfl ?_
  refine gM0_X6_37 E dX6_goesOn_1 ?_
  refine J_bipush E dX6_goesOn_4 bp_40 ?_
  refine J_iload_n E dX6_goesOn_6 rfl 1 rfl ?_
  refine J_top (x' := nI 120) (by decide) ?_
  refine J_imul E dX6_goesOn_7 ?_
  refine J_iload_n E dX6_goesOn_8 rfl 2 rfl ?_
  refine J_iadd E dX6_goesOn_9 ?_
  refine J_top (x' := nI (120 + i)) (nI_add 120 i) ?_
  refine lMn_3 E (j := (120 + i)) (i := i) rfl (by omega) dX6_goesOn_10 ?_
  refine J_istore_n E (lv' := [(3, .int (y 11 0 i)), (0, .ref (b 0)), (1, .int (nI 3)), (2, .int (nI i))]) dX6_goesOn_11 rfl (by decide) rfl ?_
  refine J_iload_n E dX6_goesOn_12 rfl 0 rfl ?_
  refine J_cSiN E (As := [.int (y 11 0 i)]) (c_X6_isHouse l G (y 11 0 i) ) cl_X6_87 yo_X6_isHouse dX6_goesOn_13 rfl (Nat.le_of_ble_eq_true rfl) (Nat.le_of_ble_eq_true rfl) rfl (Nat.le_of_ble_eq_true rfl) ⟨Nat.zero_le _, Nat.zero_le _⟩ ?_
  refine J_if_eq E (tgt := 48) dX6_goesOn_16 (by decide) (fun c_16 => ?_) (fun c_16 => ?_)
  · skip
    have c_16 := bI_0 c_16
    refine J_iconst E dX6_goesOn_48 ic_0 ?_
    exact ret _ _ _ _ ⟨by first | exact (bI_t (show judgP (y 0) (y 11 0) i = true from decide_eq_true ⟨c_16, Or.inl (by omega)⟩)).symm | exact (bI_t (show judgP (y 0) (y 11 0) (u + 1) = true from decide_eq_true ⟨c_16, Or.inr (by rw [show u + 1 - 1 = u by omega, hp2, nI_clamp (by omega)]; exact c_41)⟩)).symm | exact (bI_f (fun z => c_16 (of_decide_eq_true z).1)).symm | exact (bI_f (fun z => by have z2 := (of_decide_eq_true z).2.resolve_left (by omega); rw [show u + 1 - 1 = u by omega, hp2, nI_clamp (by omega)] at z2; exact c_41 z2)).symm, (congrArg (wM G b) (rfl))⟩ rfl dX6_goesOn_49
  · skip
    have c_16 := bI_1 c_16
    refine J_iload_n E dX6_goesOn_19 rfl 3 rfl ?_
    refine J_if_eq E (tgt := 44) dX6_goesOn_20 (by decide) (fun c_20 => ?_) (fun c_20 => ?_)
    · skip
      have n_20 : i = 0 := cmp_eq (a := i) (b := 0) (by omega) (by omega) c_20
      refine J_iconst E dX6_goesOn_44 ic_1 ?_
      refine J_goto E (tgt := 49) dX6_goesOn_45 (by decide) ?_
      exact ret _ _ _ _ ⟨by first | exact (bI_t (show judgP (y 0) (y 11 0) i = true from decide_eq_true ⟨c_16, Or.inl (by omega)⟩)).symm | exact (bI_t (show judgP (y 0) (y 11 0) (u + 1) = true from decide_eq_true ⟨c_16, Or.inr (by rw [show u + 1 - 1 = u by omega, hp2, nI_clamp (by omega)]; exact c_41)⟩)).symm | exact (bI_f (fun z => c_16 (of_decide_eq_true z).1)).symm | exact (bI_f (fun z => by have z2 := (of_decide_eq_true z).2.resolve_left (by omega); rw [show u + 1 - 1 = u by omega, hp2, nI_clamp (by omega)] at z2; exact c_41 z2)).symm, (congrArg (wM G b) (rfl))⟩ rfl dX6_goesOn_49
    · skip
      have n_20 : ¬ i = 0 := cmp_ne (a := i) (b := 0) (by omega) (by omega) c_20
      obtain ⟨u, rfl⟩ : ∃ u, i = u + 1 := ⟨i - 1, by omega⟩
      obtain ⟨p, hp1, hp2⟩ := okH_of (hp (by omega))
      have hp2 : y 11 0 u = nI p := hp2
      refine J_aload_n E dX6_goesOn_23 rfl 1 rfl ?_
      refine J_aload_n E dX6_goesOn_24 rfl 1 rfl ?_
      refine gM0_X6_37 E dX6_goesOn_25 ?_
      refine J_bipush E dX6_goesOn_28 bp_40 ?_
      refine J_iload_n E dX6_goesOn_30 rfl 2 rfl ?_
      refine J_imul E dX6_goesOn_31 ?_
      refine J_top (x' := nI 120) (by decide) ?_
      refine J_iload_n E dX6_goesOn_32 rfl 3 rfl ?_
      refine J_iadd E dX6_goesOn_33 ?_
      refine J_top (x' := nI (120 + (u + 1))) (nI_add 120 (u + 1)) ?_
      refine J_iconst E dX6_goesOn_34 ic_1 ?_
      refine J_isub E dX6_goesOn_35 ?_
      refine J_top (x' := nI (120 + u)) (nI_pred (120 + u)) ?_
      refine lMn_3 E (j := (120 + u)) (i := u) rfl (by omega) dX6_goesOn_36 ?_
      refine J_top (x' := nI p) (hp2) ?_
      refine J_cVi0 E (As := [.int (nI p)]) (c_X6_leads l G b y p (by omega)) cl_X6_110 yo_X6_leads dX6_goesOn_37 rfl rfl rfl (Nat.le_of_ble_eq_true rfl) (Nat.le_of_ble_eq_true rfl) rfl (Nat.le_of_ble_eq_true rfl) ⟨Nat.zero_le _, Nat.zero_le _⟩ ?_
      refine J_iload_n E dX6_goesOn_40 rfl 0 rfl ?_
      refine J_icmp_ne E (tgt := 48) dX6_goesOn_41 (by decide) (fun c_41 => ?_) (fun c_41 => ?_)
      · skip
        refine J_iconst E dX6_goesOn_48 ic_0 ?_
        exact ret _ _ _ _ ⟨by first | exact (bI_t (show judgP (y 0) (y 11 0) i = true from decide_eq_true ⟨c_16, Or.inl (by omega)⟩)).symm | exact (bI_t (show judgP (y 0) (y 11 0) (u + 1) = true from decide_eq_true ⟨c_16, Or.inr (by rw [show u + 1 - 1 = u by omega, hp2, nI_clamp (by omega)]; exact c_41)⟩)).symm | exact (bI_f (fun z => c_16 (of_decide_eq_true z).1)).symm | exact (bI_f (fun z => by have z2 := (of_decide_eq_true z).2.resolve_left (by omega); rw [show u + 1 - 1 = u by omega, hp2, nI_clamp (by omega)] at z2; exact c_41 z2)).symm, (congrArg (wM G b) (rfl))⟩ rfl dX6_goesOn_49
      · skip
        refine J_iconst E dX6_goesOn_44 ic_1 ?_
        refine J_goto E (tgt := 49) dX6_goesOn_45 (by decide) ?_
        exact ret _ _ _ _ ⟨by first | exact (bI_t (show judgP (y 0) (y 11 0) i = true from decide_eq_true ⟨c_16, Or.inl (by omega)⟩)).symm | exact (bI_t (show judgP (y 0) (y 11 0) (u + 1) = true from decide_eq_true ⟨c_16, Or.inr (by rw [show u + 1 - 1 = u by omega, hp2, nI_clamp (by omega)]; exact c_41)⟩)).symm | exact (bI_f (fun z => c_16 (of_decide_eq_true z).1)).symm | exact (bI_f (fun z => by have z2 := (of_decide_eq_true z).2.resolve_left (by omega); rw [show u + 1 - 1 = u by omega, hp2, nI_clamp (by omega)] at z2; exact c_41 z2)).symm, (congrArg (wM G b) (rfl))⟩ rfl dX6_goesOn_49

set_option maxHeartbeats 4000000 in
set_option maxRecDepth 20000 in
theorem c_X6_judge_ok_0 (l : Launch) (G : GB) (b : Nat → Nat) (y : Q3) (n : Nat) (hb : ¬ y 8 1 0 = 0) (hn : y 8 1 1 = nI n) (hn2 : n ≤ 40) : CI l yX6_judge cX6_judge 4 .int 3 68 G [.ref (b 0), .int (nI 0)] (wM G b y) (fun vR w' => vR = judgR (y 0) (y 8 0) n 0 ∧ PubM G b y w') := by
  refine CI.mk (own := RX6) (by decide) rfl (Nat.le_of_ble_eq_true rfl) ?_
  intro X E ret
  show J X G 4 0 0 (wM G b y) [(0, .ref (b 0)), (1, .int (nI 0))] 0 []
  refine J_aload_n E dX6_judge_0 rfl 0 rfl ?_
  refine J_iload_n E dX6_judge_1 rfl 1 rfl ?_
  refine J_cVi0 E (As := [.int (nI 0)]) (c_X6_lacks_0_1 l G b y hb ) cl_X6_197 yo_X6_lacks dX6_judge_2 rfl rfl rfl (Nat.le_of_ble_eq_true rfl) (Nat.le_of_ble_eq_true rfl) rfl (Nat.le_of_ble_eq_true rfl) ⟨Nat.zero_le _, Nat.zero_le _⟩ ?_
  refine J_istore_n E (lv' := [(2, .int (-1)), (0, .ref (b 0)), (1, .int (nI 0))]) dX6_judge_5 rfl (by decide) rfl ?_
  refine J_iload_n E dX6_judge_6 rfl 0 rfl ?_
  refine J_if_lt E (tgt := 16) dX6_judge_7 (by decide) (fun c_7 => ?_) (fun c_7 => ?_)
  · skip
    refine J_iconst E dX6_judge_16 ic_0 ?_
    refine J_istore_n E (lv' := [(3, .int 0), (2, .int (-1)), (0, .ref (b 0)), (1, .int (nI 0))]) dX6_judge_17 rfl (by decide) rfl ?_
    have lp18 : ∀ (fu : Nat) (i : Nat), (i ≤ n) → (judgR (y 0) (y 8 0) n 0 = judgR (y 0) (y 8 0) (n - i) i) → (0 < i → okH (y 8 0 (i - 1))) → n - i < fu → J X G 4 0 0 (wM G b y) [(0, .ref (b 0)), (1, .int (nI 0)), (2, .int (-1)), (3, .int (nI i))] 18 [] := by
      intro fu
      induction fu with
      | zero => intro i hi h1 hp hm; exact absurd hm (Nat.not_lt_zero _)
      | succ fu ih18 =>
        intro i hi h1 hp hm
        refine J_iload_n E dX6_judge_18 rfl 3 rfl ?_
        refine J_aload_n E dX6_judge_19 rfl 0 rfl ?_
        refine gM0_X6_34 E dX6_judge_20 ?_
        refine J_iload_n E dX6_judge_23 rfl 1 rfl ?_
        refine lMz_0 E  dX6_judge_24 ?_
        refine J_top (x' := nI n) (hn) ?_
        refine J_icmp_ge E (tgt := 43) dX6_judge_25 (by decide) (fun c_25 => ?_) (fun c_25 => ?_)
        · skip
          have n_25 : n ≤ i := cmp_le (a := n) (b := i) (by omega) (by omega) c_25
          have h2 : judgR (y 0) (y 8 0) n 0 = 0 := by rw [h1, show n - i = 0 by omega]; rfl
          refine J_iload_n E dX6_judge_43 rfl 3 rfl ?_
          refine J_aload_n E dX6_judge_44 rfl 0 rfl ?_
          refine gM0_X6_34 E dX6_judge_45 ?_
          refine J_iload_n E dX6_judge_48 rfl 1 rfl ?_
          refine lMz_0 E  dX6_judge_49 ?_
          refine J_top (x' := nI n) (hn) ?_
          refine J_icmp_ne E (tgt := 57) dX6_judge_50 (by decide) (fun c_50 => ?_) (fun c_50 => ?_)
          · skip
            have n_50 : ¬ i = n := cmp_ne (a := i) (b := n) (by omega) (by omega) c_50
            refine J_iload_n E dX6_judge_57 rfl 3 rfl ?_
            refine J_iconst E dX6_judge_58 ic_1 ?_
            refine J_iadd E dX6_judge_59 ?_
            exact ret _ _ _ _ ⟨by first | (exfalso; omega) | (rw [h2]; done) | (rw [h2, Int32.add_comm]), _, rfl, by first | exact ShM.rfl' | (exfalso; omega)⟩ rfl dX6_judge_60
          · skip
            have n_50 : i = n := cmp_eq (a := i) (b := n) (by omega) (by omega) c_50
            refine J_iconst E dX6_judge_53 ic_0 ?_
            refine J_goto E (tgt := 60) dX6_judge_54 (by decide) ?_
            exact ret _ _ _ _ ⟨by first | (exfalso; omega) | (rw [h2]; done) | (rw [h2, Int32.add_comm]), _, rfl, by first | exact ShM.rfl' | (exfalso; omega)⟩ rfl dX6_judge_60
        · skip
          have n_25 : ¬ n ≤ i := cmp_nle (a := n) (b := i) (by omega) (by omega) c_25
          refine J_aload_n E dX6_judge_28 rfl 0 rfl ?_
          refine J_iload_n E dX6_judge_29 rfl 1 rfl ?_
          refine J_iload_n E dX6_judge_30 rfl 3 rfl ?_
          refine J_cVi0 E (As := [.int (nI 0), .int (nI i)]) (c_X6_goesOn_0 l G b y i (by omega) hp) cl_X6_306 yo_X6_goesOn dX6_judge_31 rfl rfl rfl (Nat.le_of_ble_eq_true rfl) (Nat.le_of_ble_eq_true rfl) rfl (Nat.le_of_ble_eq_true rfl) ⟨Nat.zero_le _, Nat.zero_le _⟩ ?_
          refine J_if_eq E (tgt := 43) dX6_judge_34 (by decide) (fun c_34 => ?_) (fun c_34 => ?_)
          · skip
            have c_34 := bI_0 c_34
            have h2 : judgR (y 0) (y 8 0) n 0 = 1 + nI i := by rw [h1, show n - i = (n - (i + 1)) + 1 by omega, judgR, if_neg c_34]
            refine J_iload_n E dX6_judge_43 rfl 3 rfl ?_
            refine J_aload_n E dX6_judge_44 rfl 0 rfl ?_
            refine gM0_X6_34 E dX6_judge_45 ?_
            refine J_iload_n E dX6_judge_48 rfl 1 rfl ?_
            refine lMz_0 E  dX6_judge_49 ?_
            refine J_top (x' := nI n) (hn) ?_
            refine J_icmp_ne E (tgt := 57) dX6_judge_50 (by decide) (fun c_50 => ?_) (fun c_50 => ?_)
            · skip
              have n_50 : ¬ i = n := cmp_ne (a := i) (b := n) (by omega) (by omega) c_50
              refine J_iload_n E dX6_judge_57 rfl 3 rfl ?_
              refine J_iconst E dX6_judge_58 ic_1 ?_
              refine J_iadd E dX6_judge_59 ?_
              exact ret _ _ _ _ ⟨by first | (exfalso; omega) | (rw [h2]; done) | (rw [h2, Int32.add_comm]), _, rfl, by first | exact ShM.rfl' | (exfalso; omega)⟩ rfl dX6_judge_60
            · skip
              have n_50 : i = n := cmp_eq (a := i) (b := n) (by omega) (by omega) c_50
              refine J_iconst E dX6_judge_53 ic_0 ?_
              refine J_goto E (tgt := 60) dX6_judge_54 (by decide) ?_
              exact ret _ _ _ _ ⟨by first | (exfalso; omega) | (rw [h2]; done) | (rw [h2, Int32.add_comm]), _, rfl, by first | exact ShM.rfl' | (exfalso; omega)⟩ rfl dX6_judge_60
          · skip
            have c_34 := bI_1 c_34
            refine J_iinc E (lv' := [(3, .int (nI (i + 1))), (0, .ref (b 0)), (1, .int (nI 0)), (2, .int (-1))]) dX6_judge_37 3 rfl (nI_inc _) (by decide) rfl ?_
            refine J_goto E (tgt := 18) dX6_judge_40 (by decide) ?_
            refine J_lv [1, 2, 3, 0] rfl ?_
            exact ih18 (i + 1) (by omega) (by rw [h1, show n - i = (n - (i + 1)) + 1 by omega, judgR, if_pos c_34]) (fun _ => (of_decide_eq_true c_34).1) (by omega)
    refine J_lv [2, 3, 1, 0] rfl ?_
    exact lp18 _ 0 (by omega) rfl (fun z => absurd z (Nat.lt_irrefl 0)) (Nat.lt_succ_self _)
  · skip
    exact absurd c_7 (by decide)

set_option maxHeartbeats 4000000 in
set_option maxRecDepth 20000 in
theorem c_X6_judge_ok_1 (l : Launch) (G : GB) (b : Nat → Nat) (y : Q3) (n : Nat) (hb : ¬ y 9 1 0 = 0) (hn : y 9 1 1 = nI n) (hn2 : n ≤ 40) : CI l yX6_judge cX6_judge 4 .int 3 68 G [.ref (b 0), .int (nI 1)] (wM G b y) (fun vR w' => vR = judgR (y 0) (y 9 0) n 0 ∧ PubM G b y w') := by
  refine CI.mk (own := RX6) (by decide) rfl (Nat.le_of_ble_eq_true rfl) ?_
  intro X E ret
  show J X G 4 0 0 (wM G b y) [(0, .ref (b 0)), (1, .int (nI 1))] 0 []
  refine J_aload_n E dX6_judge_0 rfl 0 rfl ?_
  refine J_iload_n E dX6_judge_1 rfl 1 rfl ?_
  refine J_cVi0 E (As := [.int (nI 1)]) (c_X6_lacks_1_1 l G b y hb ) cl_X6_197 yo_X6_lacks dX6_judge_2 rfl rfl rfl (Nat.le_of_ble_eq_true rfl) (Nat.le_of_ble_eq_true rfl) rfl (Nat.le_of_ble_eq_true rfl) ⟨Nat.zero_le _, Nat.zero_le _⟩ ?_
  refine J_istore_n E (lv' := [(2, .int (-1)), (0, .ref (b 0)), (1, .int (nI 1))]) dX6_judge_5 rfl (by decide) rfl ?_
  refine J_iload_n E dX6_judge_6 rfl 0 rfl ?_
  refine J_if_lt E (tgt := 16) dX6_judge_7 (by decide) (fun c_7 => ?_) (fun c_7 => ?_)
  · skip
    refine J_iconst E dX6_judge_16 ic_0 ?_
    refine J_istore_n E (lv' := [(3, .int 0), (2, .int (-1)), (0, .ref (b 0)), (1, .int (nI 1))]) dX6_judge_17 rfl (by decide) rfl ?_
    have lp18 : ∀ (fu : Nat) (i : Nat), (i ≤ n) → (judgR (y 0) (y 9 0) n 0 = judgR (y 0) (y 9 0) (n - i) i) → (0 < i → okH (y 9 0 (i - 1))) → n - i < fu → J X G 4 0 0 (wM G b y) [(0, .ref (b 0)), (1, .int (nI 1)), (2, .int (-1)), (3, .int (nI i))] 18 [] := by
      intro fu
      induction fu with
      | zero => intro i hi h1 hp hm; exact absurd hm (Nat.not_lt_zero _)
      | succ fu ih18 =>
        intro i hi h1 hp hm
        refine J_iload_n E dX6_judge_18 rfl 3 rfl ?_
        refine J_aload_n E dX6_judge_19 rfl 0 rfl ?_
        refine gM0_X6_34 E dX6_judge_20 ?_
        refine J_iload_n E dX6_judge_23 rfl 1 rfl ?_
        refine lMz_1 E  dX6_judge_24 ?_
        refine J_top (x' := nI n) (hn) ?_
        refine J_icmp_ge E (tgt := 43) dX6_judge_25 (by decide) (fun c_25 => ?_) (fun c_25 => ?_)
        · skip
          have n_25 : n ≤ i := cmp_le (a := n) (b := i) (by omega) (by omega) c_25
          have h2 : judgR (y 0) (y 9 0) n 0 = 0 := by rw [h1, show n - i = 0 by omega]; rfl
          refine J_iload_n E dX6_judge_43 rfl 3 rfl ?_
          refine J_aload_n E dX6_judge_44 rfl 0 rfl ?_
          refine gM0_X6_34 E dX6_judge_45 ?_
          refine J_iload_n E dX6_judge_48 rfl 1 rfl ?_
          refine lMz_1 E  dX6_judge_49 ?_
          refine J_top (x' := nI n) (hn) ?_
          refine J_icmp_ne E (tgt := 57) dX6_judge_50 (by decide) (fun c_50 => ?_) (fun c_50 => ?_)
          · skip
            have n_50 : ¬ i = n := cmp_ne (a := i) (b := n) (by omega) (by omega) c_50
            refine J_iload_n E dX6_judge_57 rfl 3 rfl ?_
            refine J_iconst E dX6_judge_58 ic_1 ?_
            refine J_iadd E dX6_judge_59 ?_
            exact ret _ _ _ _ ⟨by first | (exfalso; omega) | (rw [h2]; done) | (rw [h2, Int32.add_comm]), _, rfl, by first | exact ShM.rfl' | (exfalso; omega)⟩ rfl dX6_judge_60
          · skip
            have n_50 : i = n := cmp_eq (a := i) (b := n) (by omega) (by omega) c_50
            refine J_iconst E dX6_judge_53 ic_0 ?_
            refine J_goto E (tgt := 60) dX6_judge_54 (by decide) ?_
            exact ret _ _ _ _ ⟨by first | (exfalso; omega) | (rw [h2]; done) | (rw [h2, Int32.add_comm]), _, rfl, by first | exact ShM.rfl' | (exfalso; omega)⟩ rfl dX6_judge_60
        · skip
          have n_25 : ¬ n ≤ i := cmp_nle (a := n) (b := i) (by omega) (by omega) c_25
          refine J_aload_n E dX6_judge_28 rfl 0 rfl ?_
          refine J_iload_n E dX6_judge_29 rfl 1 rfl ?_
          refine J_iload_n E dX6_judge_30 rfl 3 rfl ?_
          refine J_cVi0 E (As := [.int (nI 1), .int (nI i)]) (c_X6_goesOn_1 l G b y i (by omega) hp) cl_X6_306 yo_X6_goesOn dX6_judge_31 rfl rfl rfl (Nat.le_of_ble_eq_true rfl) (Nat.le_of_ble_eq_true rfl) rfl (Nat.le_of_ble_eq_true rfl) ⟨Nat.zero_le _, Nat.zero_le _⟩ ?_
          refine J_if_eq E (tgt := 43) dX6_judge_34 (by decide) (fun c_34 => ?_) (fun c_34 => ?_)
          · skip
            have c_34 := bI_0 c_34
            have h2 : judgR (y 0) (y 9 0) n 0 = 1 + nI i := by rw [h1, show n - i = (n - (i + 1)) + 1 by omega, judgR, if_neg c_34]
            refine J_iload_n E dX6_judge_43 rfl 3 rfl ?_
            refine J_aload_n E dX6_judge_44 rfl 0 rfl ?_
            refine gM0_X6_34 E dX6_judge_45 ?_
            refine J_iload_n E dX6_judge_48 rfl 1 rfl ?_
            refine lMz_1 E  dX6_judge_49 ?_
            refine J_top (x' := nI n) (hn) ?_
            refine J_icmp_ne E (tgt := 57) dX6_judge_50 (by decide) (fun c_50 => ?_) (fun c_50 => ?_)
            · skip
              have n_50 : ¬ i = n := cmp_ne (a := i) (b := n) (by omega) (by omega) c_50
              refine J_iload_n E dX6_judge_57 rfl 3 rfl ?_
              refine J_iconst E dX6_judge_58 ic_1 ?_
              refine J_iadd E dX6_judge_59 ?_
              exact ret _ _ _ _ ⟨by first | (exfalso; omega) | (rw [h2]; done) | (rw [h2, Int32.add_comm]), _, rfl, by first | exact ShM.rfl' | (exfalso; omega)⟩ rfl dX6_judge_60
            · skip
              have n_50 : i = n := cmp_eq (a := i) (b := n) (by omega) (by omega) c_50
              refine J_iconst E dX6_judge_53 ic_0 ?_
              refine J_goto E (tgt := 60) dX6_judge_54 (by decide) ?_
              exact ret _ _ _ _ ⟨by first | (exfalso; omega) | (rw [h2]; done) | (rw [h2, Int32.add_comm]), _, rfl, by first | exact ShM.rfl' | (exfalso; omega)⟩ rfl dX6_judge_60
          · skip
            have c_34 := bI_1 c_34
            refine J_iinc E (lv' := [(3, .int (nI (i + 1))), (0, .ref (b 0)), (1, .int (nI 1)), (2, .int (-1))]) dX6_judge_37 3 rfl (nI_inc _) (by decide) rfl ?_
            refine J_goto E (tgt := 18) dX6_judge_40 (by decide) ?_
            refine J_lv [1, 2, 3, 0] rfl ?_
            exact ih18 (i + 1) (by omega) (by rw [h1, show n - i = (n - (i + 1)) + 1 by omega, judgR, if_pos c_34]) (fun _ => (of_decide_eq_true c_34).1) (by omega)
    refine J_lv [2, 3, 1, 0] rfl ?_
    exact lp18 _ 0 (by omega) rfl (fun z => absurd z (Nat.lt_irrefl 0)) (Nat.lt_succ_self _)
  · skip
    exact absurd c_7 (by decide)

set_option maxHeartbeats 4000000 in
set_option maxRecDepth 20000 in
theorem c_X6_judge_ok_2 (l : Launch) (G : GB) (b : Nat → Nat) (y : Q3) (n : Nat) (hb : ¬ y 10 1 0 = 0) (hn : y 10 1 1 = nI n) (hn2 : n ≤ 40) : CI l yX6_judge cX6_judge 4 .int 3 68 G [.ref (b 0), .int (nI 2)] (wM G b y) (fun vR w' => vR = judgR (y 0) (y 10 0) n 0 ∧ PubM G b y w') := by
  refine CI.mk (own := RX6) (by decide) rfl (Nat.le_of_ble_eq_true rfl) ?_
  intro X E ret
  show J X G 4 0 0 (wM G b y) [(0, .ref (b 0)), (1, .int (nI 2))] 0 []
  refine J_aload_n E dX6_judge_0 rfl 0 rfl ?_
  refine J_iload_n E dX6_judge_1 rfl 1 rfl ?_
  refine J_cVi0 E (As := [.int (nI 2)]) (c_X6_lacks_2_1 l G b y hb ) cl_X6_197 yo_X6_lacks dX6_judge_2 rfl rfl rfl (Nat.le_of_ble_eq_true rfl) (Nat.le_of_ble_eq_true rfl) rfl (Nat.le_of_ble_eq_true rfl) ⟨Nat.zero_le _, Nat.zero_le _⟩ ?_
  refine J_istore_n E (lv' := [(2, .int (-1)), (0, .ref (b 0)), (1, .int (nI 2))]) dX6_judge_5 rfl (by decide) rfl ?_
  refine J_iload_n E dX6_judge_6 rfl 0 rfl ?_
  refine J_if_lt E (tgt := 16) dX6_judge_7 (by decide) (fun c_7 => ?_) (fun c_7 => ?_)
  · skip
    refine J_iconst E dX6_judge_16 ic_0 ?_
    refine J_istore_n E (lv' := [(3, .int 0), (2, .int (-1)), (0, .ref (b 0)), (1, .int (nI 2))]) dX6_judge_17 rfl (by decide) rfl ?_
    have lp18 : ∀ (fu : Nat) (i : Nat), (i ≤ n) → (judgR (y 0) (y 10 0) n 0 = judgR (y 0) (y 10 0) (n - i) i) → (0 < i → okH (y 10 0 (i - 1))) → n - i < fu → J X G 4 0 0 (wM G b y) [(0, .ref (b 0)), (1, .int (nI 2)), (2, .int (-1)), (3, .int (nI i))] 18 [] := by
      intro fu
      induction fu with
      | zero => intro i hi h1 hp hm; exact absurd hm (Nat.not_lt_zero _)
      | succ fu ih18 =>
        intro i hi h1 hp hm
        refine J_iload_n E dX6_judge_18 rfl 3 rfl ?_
        refine J_aload_n E dX6_judge_19 rfl 0 rfl ?_
        refine gM0_X6_34 E dX6_judge_20 ?_
        refine J_iload_n E dX6_judge_23 rfl 1 rfl ?_
        refine lMz_2 E  dX6_judge_24 ?_
        refine J_top (x' := nI n) (hn) ?_
        refine J_icmp_ge E (tgt := 43) dX6_judge_25 (by decide) (fun c_25 => ?_) (fun c_25 => ?_)
        · skip
          have n_25 : n ≤ i := cmp_le (a := n) (b := i) (by omega) (by omega) c_25
          have h2 : judgR (y 0) (y 10 0) n 0 = 0 := by rw [h1, show n - i = 0 by omega]; rfl
          refine J_iload_n E dX6_judge_43 rfl 3 rfl ?_
          refine J_aload_n E dX6_judge_44 rfl 0 rfl ?_
          refine gM0_X6_34 E dX6_judge_45 ?_
          refine J_iload_n E dX6_judge_48 rfl 1 rfl ?_
          refine lMz_2 E  dX6_judge_49 ?_
          refine J_top (x' := nI n) (hn) ?_
          refine J_icmp_ne E (tgt := 57) dX6_judge_50 (by decide) (fun c_50 => ?_) (fun c_50 => ?_)
          · skip
            have n_50 : ¬ i = n := cmp_ne (a := i) (b := n) (by omega) (by omega) c_50
            refine J_iload_n E dX6_judge_57 rfl 3 rfl ?_
            refine J_iconst E dX6_judge_58 ic_1 ?_
            refine J_iadd E dX6_judge_59 ?_
            exact ret _ _ _ _ ⟨by first | (exfalso; omega) | (rw [h2]; done) | (rw [h2, Int32.add_comm]), _, rfl, by first | exact ShM.rfl' | (exfalso; omega)⟩ rfl dX6_judge_60
          · skip
            have n_50 : i = n := cmp_eq (a := i) (b := n) (by omega) (by omega) c_50
            refine J_iconst E dX6_judge_53 ic_0 ?_
            refine J_goto E (tgt := 60) dX6_judge_54 (by decide) ?_
            exact ret _ _ _ _ ⟨by first | (exfalso; omega) | (rw [h2]; done) | (rw [h2, Int32.add_comm]), _, rfl, by first | exact ShM.rfl' | (exfalso; omega)⟩ rfl dX6_judge_60
        · skip
          have n_25 : ¬ n ≤ i := cmp_nle (a := n) (b := i) (by omega) (by omega) c_25
          refine J_aload_n E dX6_judge_28 rfl 0 rfl ?_
          refine J_iload_n E dX6_judge_29 rfl 1 rfl ?_
          refine J_iload_n E dX6_judge_30 rfl 3 rfl ?_
          refine J_cVi0 E (As := [.int (nI 2), .int (nI i)]) (c_X6_goesOn_2 l G b y i (by omega) hp) cl_X6_306 yo_X6_goesOn dX6_judge_31 rfl rfl rfl (Nat.le_of_ble_eq_true rfl) (Nat.le_of_ble_eq_true rfl) rfl (Nat.le_of_ble_eq_true rfl) ⟨Nat.zero_le _, Nat.zero_le _⟩ ?_
          refine J_if_eq E (tgt := 43) dX6_judge_34 (by decide) (fun c_34 => ?_) (fun c_34 => ?_)
          · skip
            have c_34 := bI_0 c_34
            have h2 : judgR (y 0) (y 10 0) n 0 = 1 + nI i := by rw [h1, show n - i = (n - (i + 1)) + 1 by omega, judgR, if_neg c_34]
            refine J_iload_n E dX6_judge_43 rfl 3 rfl ?_
            refine J_aload_n E dX6_judge_44 rfl 0 rfl ?_
            refine gM0_X6_34 E dX6_judge_45 ?_
            refine J_iload_n E dX6_judge_48 rfl 1 rfl ?_
            refine lMz_2 E  dX6_judge_49 ?_
            refine J_top (x' := nI n) (hn) ?_
            refine J_icmp_ne E (tgt := 57) dX6_judge_50 (by decide) (fun c_50 => ?_) (fun c_50 => ?_)
            · skip
              have n_50 : ¬ i = n := cmp_ne (a := i) (b := n) (by omega) (by omega) c_50
              refine J_iload_n E dX6_judge_57 rfl 3 rfl ?_
              refine J_iconst E dX6_judge_58 ic_1 ?_
              refine J_iadd E dX6_judge_59 ?_
              exact ret _ _ _ _ ⟨by first | (exfalso; omega) | (rw [h2]; done) | (rw [h2, Int32.add_comm]), _, rfl, by first | exact ShM.rfl' | (exfalso; omega)⟩ rfl dX6_judge_60
            · skip
              have n_50 : i = n := cmp_eq (a := i) (b := n) (by omega) (by omega) c_50
              refine J_iconst E dX6_judge_53 ic_0 ?_
              refine J_goto E (tgt := 60) dX6_judge_54 (by decide) ?_
              exact ret _ _ _ _ ⟨by first | (exfalso; omega) | (rw [h2]; done) | (rw [h2, Int32.add_comm]), _, rfl, by first | exact ShM.rfl' | (exfalso; omega)⟩ rfl dX6_judge_60
          · skip
            have c_34 := bI_1 c_34
            refine J_iinc E (lv' := [(3, .int (nI (i + 1))), (0, .ref (b 0)), (1, .int (nI 2)), (2, .int (-1))]) dX6_judge_37 3 rfl (nI_inc _) (by decide) rfl ?_
            refine J_goto E (tgt := 18) dX6_judge_40 (by decide) ?_
            refine J_lv [1, 2, 3, 0] rfl ?_
            exact ih18 (i + 1) (by omega) (by rw [h1, show n - i = (n - (i + 1)) + 1 by omega, judgR, if_pos c_34]) (fun _ => (of_decide_eq_true c_34).1) (by omega)
    refine J_lv [2, 3, 1, 0] rfl ?_
    exact lp18 _ 0 (by omega) rfl (fun z => absurd z (Nat.lt_irrefl 0)) (Nat.lt_succ_self _)
  · skip
    exact absurd c_7 (by decide)

set_option maxHeartbeats 4000000 in
set_option maxRecDepth 20000 in
theorem c_X6_judge_ok_3 (l : Launch) (G : GB) (b : Nat → Nat) (y : Q3) (n : Nat) (hb : ¬ y 11 1 0 = 0) (hn : y 11 1 1 = nI n) (hn2 : n ≤ 40) : CI l yX6_judge cX6_judge 4 .int 3 68 G [.ref (b 0), .int (nI 3)] (wM G b y) (fun vR w' => vR = judgR (y 0) (y 11 0) n 0 ∧ PubM G b y w') := by
  refine CI.mk (own := RX6) (by decide) rfl (Nat.le_of_ble_eq_true rfl) ?_
  intro X E ret
  show J X G 4 0 0 (wM G b y) [(0, .ref (b 0)), (1, .int (nI 3))] 0 []
  refine J_aload_n E dX6_judge_0 rfl 0 rfl ?_
  refine J_iload_n E dX6_judge_1 rfl 1 rfl ?_
  refine J_cVi0 E (As := [.int (nI 3)]) (c_X6_lacks_3_1 l G b y hb ) cl_X6_197 yo_X6_lacks dX6_judge_2 rfl rfl rfl (Nat.le_of_ble_eq_true rfl) (Nat.le_of_ble_eq_true rfl) rfl (Nat.le_of_ble_eq_true rfl) ⟨Nat.zero_le _, Nat.zero_le _⟩ ?_
  refine J_istore_n E (lv' := [(2, .int (-1)), (0, .ref (b 0)), (1, .int (nI 3))]) dX6_judge_5 rfl (by decide) rfl ?_
  refine J_iload_n E dX6_judge_6 rfl 0 rfl ?_
  refine J_if_lt E (tgt := 16) dX6_judge_7 (by decide) (fun c_7 => ?_) (fun c_7 => ?_)
  · skip
    refine J_iconst E dX6_judge_16 ic_0 ?_
    refine J_istore_n E (lv' := [(3, .int 0), (2, .int (-1)), (0, .ref (b 0)), (1, .int (nI 3))]) dX6_judge_17 rfl (by decide) rfl ?_
    have lp18 : ∀ (fu : Nat) (i : Nat), (i ≤ n) → (judgR (y 0) (y 11 0) n 0 = judgR (y 0) (y 11 0) (n - i) i) → (0 < i → okH (y 11 0 (i - 1))) → n - i < fu → J X G 4 0 0 (wM G b y) [(0, .ref (b 0)), (1, .int (nI 3)), (2, .int (-1)), (3, .int (nI i))] 18 [] := by
      intro fu
      induction fu with
      | zero => intro i hi h1 hp hm; exact absurd hm (Nat.not_lt_zero _)
      | succ fu ih18 =>
        intro i hi h1 hp hm
        refine J_iload_n E dX6_judge_18 rfl 3 rfl ?_
        refine J_aload_n E dX6_judge_19 rfl 0 rfl ?_
        refine gM0_X6_34 E dX6_judge_20 ?_
        refine J_iload_n E dX6_judge_23 rfl 1 rfl ?_
        refine lMz_3 E  dX6_judge_24 ?_
        refine J_top (x' := nI n) (hn) ?_
        refine J_icmp_ge E (tgt := 43) dX6_judge_25 (by decide) (fun c_25 => ?_) (fun c_25 => ?_)
        · skip
          have n_25 : n ≤ i := cmp_le (a := n) (b := i) (by omega) (by omega) c_25
          have h2 : judgR (y 0) (y 11 0) n 0 = 0 := by rw [h1, show n - i = 0 by omega]; rfl
          refine J_iload_n E dX6_judge_43 rfl 3 rfl ?_
          refine J_aload_n E dX6_judge_44 rfl 0 rfl ?_
          refine gM0_X6_34 E dX6_judge_45 ?_
          refine J_iload_n E dX6_judge_48 rfl 1 rfl ?_
          refine lMz_3 E  dX6_judge_49 ?_
          refine J_top (x' := nI n) (hn) ?_
          refine J_icmp_ne E (tgt := 57) dX6_judge_50 (by decide) (fun c_50 => ?_) (fun c_50 => ?_)
          · skip
            have n_50 : ¬ i = n := cmp_ne (a := i) (b := n) (by omega) (by omega) c_50
            refine J_iload_n E dX6_judge_57 rfl 3 rfl ?_
            refine J_iconst E dX6_judge_58 ic_1 ?_
            refine J_iadd E dX6_judge_59 ?_
            exact ret _ _ _ _ ⟨by first | (exfalso; omega) | (rw [h2]; done) | (rw [h2, Int32.add_comm]), _, rfl, by first | exact ShM.rfl' | (exfalso; omega)⟩ rfl dX6_judge_60
          · skip
            have n_50 : i = n := cmp_eq (a := i) (b := n) (by omega) (by omega) c_50
            refine J_iconst E dX6_judge_53 ic_0 ?_
            refine J_goto E (tgt := 60) dX6_judge_54 (by decide) ?_
            exact ret _ _ _ _ ⟨by first | (exfalso; omega) | (rw [h2]; done) | (rw [h2, Int32.add_comm]), _, rfl, by first | exact ShM.rfl' | (exfalso; omega)⟩ rfl dX6_judge_60
        · skip
          have n_25 : ¬ n ≤ i := cmp_nle (a := n) (b := i) (by omega) (by omega) c_25
          refine J_aload_n E dX6_judge_28 rfl 0 rfl ?_
          refine J_iload_n E dX6_judge_29 rfl 1 rfl ?_
          refine J_iload_n E dX6_judge_30 rfl 3 rfl ?_
          refine J_cVi0 E (As := [.int (nI 3), .int (nI i)]) (c_X6_goesOn_3 l G b y i (by omega) hp) cl_X6_306 yo_X6_goesOn dX6_judge_31 rfl rfl rfl (Nat.le_of_ble_eq_true rfl) (Nat.le_of_ble_eq_true rfl) rfl (Nat.le_of_ble_eq_true rfl) ⟨Nat.zero_le _, Nat.zero_le _⟩ ?_
          refine J_if_eq E (tgt := 43) dX6_judge_34 (by decide) (fun c_34 => ?_) (fun c_34 => ?_)
          · skip
            have c_34 := bI_0 c_34
            have h2 : judgR (y 0) (y 11 0) n 0 = 1 + nI i := by rw [h1, show n - i = (n - (i + 1)) + 1 by omega, judgR, if_neg c_34]
            refine J_iload_n E dX6_judge_43 rfl 3 rfl ?_
            refine J_aload_n E dX6_judge_44 rfl 0 rfl ?_
            refine gM0_X6_34 E dX6_judge_45 ?_
            refine J_iload_n E dX6_judge_48 rfl 1 rfl ?_
            refine lMz_3 E  dX6_judge_49 ?_
            refine J_top (x' := nI n) (hn) ?_
            refine J_icmp_ne E (tgt := 57) dX6_judge_50 (by decide) (fun c_50 => ?_) (fun c_50 => ?_)
            · skip
              have n_50 : ¬ i = n := cmp_ne (a := i) (b := n) (by omega) (by omega) c_50
              refine J_iload_n E dX6_judge_57 rfl 3 rfl ?_
              refine J_iconst E dX6_judge_58 ic_1 ?_
              refine J_iadd E dX6_judge_59 ?_
              exact ret _ _ _ _ ⟨by first | (exfalso; omega) | (rw [h2]; done) | (rw [h2, Int32.add_comm]), _, rfl, by first | exact ShM.rfl' | (exfalso; omega)⟩ rfl dX6_judge_60
            · skip
              have n_50 : i = n := cmp_eq (a := i) (b := n) (by omega) (by omega) c_50
              refine J_iconst E dX6_judge_53 ic_0 ?_
              refine J_goto E (tgt := 60) dX6_judge_54 (by decide) ?_
              exact ret _ _ _ _ ⟨by first | (exfalso; omega) | (rw [h2]; done) | (rw [h2, Int32.add_comm]), _, rfl, by first | exact ShM.rfl' | (exfalso; omega)⟩ rfl dX6_judge_60
          · skip
            have c_34 := bI_1 c_34
            refine J_iinc E (lv' := [(3, .int (nI (i + 1))), (0, .ref (b 0)), (1, .int (nI 3)), (2, .int (-1))]) dX6_judge_37 3 rfl (nI_inc _) (by decide) rfl ?_
            refine J_goto E (tgt := 18) dX6_judge_40 (by decide) ?_
            refine J_lv [1, 2, 3, 0] rfl ?_
            exact ih18 (i + 1) (by omega) (by rw [h1, show n - i = (n - (i + 1)) + 1 by omega, judgR, if_pos c_34]) (fun _ => (of_decide_eq_true c_34).1) (by omega)
    refine J_lv [2, 3, 1, 0] rfl ?_
    exact lp18 _ 0 (by omega) rfl (fun z => absurd z (Nat.lt_irrefl 0)) (Nat.lt_succ_self _)
  · skip
    exact absurd c_7 (by decide)

set_option maxHeartbeats 4000000 in
set_option maxRecDepth 20000 in
theorem c_X6_image (l : Launch) (G : GB) (b : Nat → Nat) (y : Q3)  : CI l yX6_image cX6_image 1 .int 1 22 G [.ref (b 0)] (wM G b y) (fun vR w' => vR = 1 ∧ PubM G b (up3 (upG y 1 (y 0)) 3 1 0 1) w') := by
  refine CI.mk (own := RX6) (by decide) rfl (Nat.le_of_ble_eq_true rfl) ?_
  intro X E ret
  show J X G 1 0 0 (wM G b y) [(0, .ref (b 0))] 0 []
  refine J_aload_n E dX6_image_0 rfl 0 rfl ?_
  refine gM0_X6_9 E dX6_image_1 ?_
  refine J_aload_n E dX6_image_4 rfl 0 rfl ?_
  refine gM0_X6_13 E dX6_image_5 ?_
  refine J_m01 E dX6_image_8 (Nat.le_of_ble_eq_true rfl) (Nat.le_of_ble_eq_true rfl) (Nat.le_of_ble_eq_true rfl) ⟨Nat.zero_le _, Nat.zero_le _⟩ ?_
  refine J_aload_n E dX6_image_11 rfl 0 rfl ?_
  refine J_iconst E dX6_image_12 ic_1 ?_
  refine pM0_X6_309 E rfl rfl dX6_image_13 ?_
  refine J_iconst E dX6_image_16 ic_1 ?_
  exact ret _ _ _ _ ⟨rfl, _, rfl, by intro g h2 h5 h6; by_cases h0 : g = 0 <;> simp [tellX, upG, up3, up3R, up2, h0, h2, h5, h6]⟩ rfl dX6_image_17

set_option maxHeartbeats 4000000 in
set_option maxRecDepth 20000 in
theorem c_X6_undo_none (l : Launch) (G : GB) (b : Nat → Nat) (y : Q3) (hk : y 3 1 0 = 0) : CI l yX6_undo cX6_undo 1 .int 1 21 G [.ref (b 0)] (wM G b y) (fun vR w' => vR = tellR 3 ∧ PubM G b (tellX y 3) w') := by
  refine CI.mk (own := RX6) (by decide) rfl (Nat.le_of_ble_eq_true rfl) ?_
  intro X E ret
  show J X G 1 0 0 (wM G b y) [(0, .ref (b 0))] 0 []
  refine J_aload_n E dX6_undo_0 rfl 0 rfl ?_
  refine gM0_X6_309 E dX6_undo_1 ?_
  refine J_if_ne E (tgt := 13) dX6_undo_4 (by decide) (fun c_4 => ?_) (fun c_4 => ?_)
  · skip
    exact absurd hk c_4
  · skip
    refine J_aload_n E dX6_undo_7 rfl 0 rfl ?_
    refine J_iconst E dX6_undo_8 ic_3 ?_
    refine J_cVi0 E (As := [.int 3]) (c_X6_finds l G b y 3 (by omega)) cl_X6_96 yo_X6_finds dX6_undo_9 rfl rfl rfl (Nat.le_of_ble_eq_true rfl) (Nat.le_of_ble_eq_true rfl) rfl (Nat.le_of_ble_eq_true rfl) ⟨Nat.zero_le _, Nat.zero_le _⟩ ?_
    exact ret _ _ _ _ ⟨rfl, _, rfl, by intro g h2 h5 h6; by_cases h0 : g = 0 <;> simp [tellX, upG, up3, up3R, up2, h0, h2, h5, h6]⟩ rfl dX6_undo_12

set_option maxHeartbeats 4000000 in
set_option maxRecDepth 20000 in
theorem c_X6_undo_ok (l : Launch) (G : GB) (b : Nat → Nat) (y : Q3) (hk : ¬ y 3 1 0 = 0) : CI l yX6_undo cX6_undo 1 .int 1 22 G [.ref (b 0)] (wM G b y) (fun vR w' => vR = y 1 7 0 ∧ PubM G b (upG y 0 (y 1)) w') := by
  refine CI.mk (own := RX6) (by decide) rfl (Nat.le_of_ble_eq_true rfl) ?_
  intro X E ret
  show J X G 1 0 0 (wM G b y) [(0, .ref (b 0))] 0 []
  refine J_aload_n E dX6_undo_0 rfl 0 rfl ?_
  refine gM0_X6_309 E dX6_undo_1 ?_
  refine J_if_ne E (tgt := 13) dX6_undo_4 (by decide) (fun c_4 => ?_) (fun c_4 => ?_)
  · skip
    refine J_aload_n E dX6_undo_13 rfl 0 rfl ?_
    refine gM0_X6_13 E dX6_undo_14 ?_
    refine J_aload_n E dX6_undo_17 rfl 0 rfl ?_
    refine gM0_X6_9 E dX6_undo_18 ?_
    refine J_m10 E dX6_undo_21 (Nat.le_of_ble_eq_true rfl) (Nat.le_of_ble_eq_true rfl) (Nat.le_of_ble_eq_true rfl) ⟨Nat.zero_le _, Nat.zero_le _⟩ ?_
    refine J_aload_n E dX6_undo_24 rfl 0 rfl ?_
    refine gM0_X6_9 E dX6_undo_25 ?_
    refine J_iconst E dX6_undo_28 ic_0 ?_
    refine lMs E (j := 0) (r := 7) (i := 0) (at_7 (by decide)) dX6_undo_29 ?_
    refine J_top (x' := (y 1) 7 0) upG_s ?_
    exact ret _ _ _ _ ⟨rfl, _, rfl, by intro g h2 h5 h6; by_cases h0 : g = 0 <;> simp [tellX, upG, up3, up3R, up2, h0, h2, h5, h6]⟩ rfl dX6_undo_30
  · skip
    exact absurd c_4 hk

set_option maxHeartbeats 4000000 in
set_option maxRecDepth 20000 in
theorem c_X6_tear (l : Launch) (G : GB) (b : Nat → Nat) (y : Q3)  : CI l yX6_tear cX6_tear 2 .int 0 0 G [.ref (b 0)] (wM G b y) (fun vR w' => vR = (if y 3 1 0 = 0 then 0 else 1) ∧ PubM G b (up3 y 3 1 0 0) w') := by
  refine CI.mk (own := RX6) (by decide) rfl (Nat.le_of_ble_eq_true rfl) ?_
  intro X E ret
  show J X G 2 0 0 (wM G b y) [(0, .ref (b 0))] 0 []
  refine J_aload_n E dX6_tear_0 rfl 0 rfl ?_
  refine gM0_X6_309 E dX6_tear_1 ?_
  refine J_if_eq E (tgt := 11) dX6_tear_4 (by decide) (fun c_4 => ?_) (fun c_4 => ?_)
  · skip
    refine J_iconst E dX6_tear_11 ic_0 ?_
    refine J_istore_n E (lv' := [(1, .int 0), (0, .ref (b 0))]) dX6_tear_12 rfl (by decide) rfl ?_
    refine J_aload_n E dX6_tear_13 rfl 1 rfl ?_
    refine J_iconst E dX6_tear_14 ic_0 ?_
    refine pM0_X6_309 E rfl rfl dX6_tear_15 ?_
    refine J_iload_n E dX6_tear_18 rfl 0 rfl ?_
    exact ret _ _ _ _ ⟨by first | rw [if_pos c_4] | rw [if_neg c_4], _, rfl, by intro g h2 h5 h6; by_cases h0 : g = 0 <;> simp [tellX, upG, up3, up3R, up2, h0, h2, h5, h6]⟩ rfl dX6_tear_19
  · skip
    refine J_iconst E dX6_tear_7 ic_1 ?_
    refine J_goto E (tgt := 12) dX6_tear_8 (by decide) ?_
    refine J_istore_n E (lv' := [(1, .int 1), (0, .ref (b 0))]) dX6_tear_12 rfl (by decide) rfl ?_
    refine J_aload_n E dX6_tear_13 rfl 1 rfl ?_
    refine J_iconst E dX6_tear_14 ic_0 ?_
    refine pM0_X6_309 E rfl rfl dX6_tear_15 ?_
    refine J_iload_n E dX6_tear_18 rfl 0 rfl ?_
    exact ret _ _ _ _ ⟨by first | rw [if_pos c_4] | rw [if_neg c_4], _, rfl, by intro g h2 h5 h6; by_cases h0 : g = 0 <;> simp [tellX, upG, up3, up3R, up2, h0, h2, h5, h6]⟩ rfl dX6_tear_19

set_option maxHeartbeats 4000000 in
set_option maxRecDepth 20000 in
theorem c_X6_held (l : Launch) (G : GB) (b : Nat → Nat) (y : Q3) (hs : okS (y 0)) : CI l yX6_held cX6_held 3 .int 0 0 G [.ref (b 0)] (wM G b y) (fun vR w' => vR = cntF (fun j => decide (¬ y 0 6 j = -1)) 10 ∧ w' = wM G b y) := by
  refine CI.mk (own := RX6) (by decide) rfl (Nat.le_of_ble_eq_true rfl) ?_
  intro X E ret
  show J X G 3 0 0 (wM G b y) [(0, .ref (b 0))] 0 []
  refine J_iconst E dX6_held_0 ic_0 ?_
  refine J_istore_n E (lv' := [(1, .int 0), (0, .ref (b 0))]) dX6_held_1 rfl (by decide) rfl ?_
  refine J_iconst E dX6_held_2 ic_0 ?_
  refine J_istore_n E (lv' := [(2, .int 0), (1, .int 0), (0, .ref (b 0))]) dX6_held_3 rfl (by decide) rfl ?_
  have lp4 : ∀ (fu : Nat) (i : Nat) (c : Int32), (i ≤ 10) → (c = cntF (fun j => decide (¬ y 0 6 j = -1)) i) → 10 - i < fu → J X G 3 0 0 (wM G b y) [(0, .ref (b 0)), (1, .int c), (2, .int (nI i))] 4 [] := by
    intro fu
    induction fu with
    | zero => intro i c hi h1 hm; exact absurd hm (Nat.not_lt_zero _)
    | succ fu ih4 =>
      intro i c hi h1 hm
      refine J_iload_n E dX6_held_4 rfl 2 rfl ?_
      refine J_bipush E dX6_held_5 bp_10 ?_
      refine J_icmp_ge E (tgt := 36) dX6_held_7 (by decide) (fun c_7 => ?_) (fun c_7 => ?_)
      · skip
        have n_7 : 10 ≤ i := cmp_le (a := 10) (b := i) (by omega) (by omega) c_7
        refine J_iload_n E dX6_held_36 rfl 1 rfl ?_
        exact ret _ _ _ _ ⟨by rw [h1, show i = 10 by omega], (congrArg (wM G b) (rfl))⟩ rfl dX6_held_37
      · skip
        have n_7 : ¬ 10 ≤ i := cmp_nle (a := 10) (b := i) (by omega) (by omega) c_7
        refine J_iload_n E dX6_held_10 rfl 1 rfl ?_
        refine J_aload_n E dX6_held_11 rfl 0 rfl ?_
        refine gM0_X6_9 E dX6_held_12 ?_
        refine J_bipush E dX6_held_15 bp_71 ?_
        refine J_iload_n E dX6_held_17 rfl 2 rfl ?_
        refine J_iadd E dX6_held_18 ?_
        refine J_top (x' := nI (71 + i)) (nI_add 71 i) ?_
        refine lMs E (j := (71 + i)) (r := 6) (i := i) (at_s (by omega) rfl) dX6_held_19 ?_
        refine J_if_ge E (tgt := 27) dX6_held_20 (by decide) (fun c_20 => ?_) (fun c_20 => ?_)
        · skip
          refine J_iconst E dX6_held_27 ic_1 ?_
          refine J_iadd E dX6_held_28 ?_
          refine J_istore_n E (lv' := [(1, .int (c + 1)), (0, .ref (b 0)), (2, .int (nI i))]) dX6_held_29 rfl (by decide) rfl ?_
          refine J_iinc E (lv' := [(2, .int (nI (i + 1))), (1, .int (c + 1)), (0, .ref (b 0))]) dX6_held_30 2 rfl (nI_inc _) (by decide) rfl ?_
          refine J_goto E (tgt := 4) dX6_held_33 (by decide) ?_
          refine J_lv [2, 1, 0] rfl ?_
          exact ih4 (i + 1) (c + 1) (by omega) (by rw [h1, cntF]; rcases hs i (by omega) with e | ⟨w, hw, e⟩ <;> rw [e] at c_20 ⊢ <;> first | exact absurd c_20 (by decide) | exact absurd (nI_pos' (by omega)) c_20 | (rw [if_neg (by decide), Int32.add_zero]) | (rw [if_pos (decide_eq_true (m1_ne hw))])) (by omega)
        · skip
          refine J_iconst E dX6_held_23 ic_0 ?_
          refine J_goto E (tgt := 28) dX6_held_24 (by decide) ?_
          refine J_iadd E dX6_held_28 ?_
          refine J_istore_n E (lv' := [(1, .int (c + 0)), (0, .ref (b 0)), (2, .int (nI i))]) dX6_held_29 rfl (by decide) rfl ?_
          refine J_iinc E (lv' := [(2, .int (nI (i + 1))), (1, .int (c + 0)), (0, .ref (b 0))]) dX6_held_30 2 rfl (nI_inc _) (by decide) rfl ?_
          refine J_goto E (tgt := 4) dX6_held_33 (by decide) ?_
          refine J_lv [2, 1, 0] rfl ?_
          exact ih4 (i + 1) (c + 0) (by omega) (by rw [h1, cntF]; rcases hs i (by omega) with e | ⟨w, hw, e⟩ <;> rw [e] at c_20 ⊢ <;> first | exact absurd c_20 (by decide) | exact absurd (nI_pos' (by omega)) c_20 | (rw [if_neg (by decide), Int32.add_zero]) | (rw [if_pos (decide_eq_true (m1_ne hw))])) (by omega)
  refine J_lv [2, 1, 0] rfl ?_
  exact lp4 _ 0 0 (by omega) rfl (Nat.lt_succ_self _)

set_option maxHeartbeats 4000000 in
set_option maxRecDepth 20000 in
theorem c_X6_unlikeHouses (l : Launch) (G : GB) (b : Nat → Nat) (y : Q3)  : CI l yX6_unlikeHouses cX6_unlikeHouses 3 .int 1 22 G [.ref (b 0)] (wM G b y) (fun vR w' => vR = cntF (fun j => decide (¬ y 0 0 j = 0)) 11 ∧ w' = wM G b y) := by
  refine CI.mk (own := RX6) (by decide) rfl (Nat.le_of_ble_eq_true rfl) ?_
  intro X E ret
  show J X G 3 0 0 (wM G b y) [(0, .ref (b 0))] 0 []
  refine J_iconst E dX6_unlikeHouses_0 ic_0 ?_
  refine J_istore_n E (lv' := [(1, .int 0), (0, .ref (b 0))]) dX6_unlikeHouses_1 rfl (by decide) rfl ?_
  refine J_iconst E dX6_unlikeHouses_2 ic_0 ?_
  refine J_istore_n E (lv' := [(2, .int 0), (1, .int 0), (0, .ref (b 0))]) dX6_unlikeHouses_3 rfl (by decide) rfl ?_
  have lp4 : ∀ (fu : Nat) (i : Nat) (c : Int32), (i ≤ 11) → (c = cntF (fun j => decide (¬ y 0 0 j = 0)) i) → 11 - i < fu → J X G 3 0 0 (wM G b y) [(0, .ref (b 0)), (1, .int c), (2, .int (nI i))] 4 [] := by
    intro fu
    induction fu with
    | zero => intro i c hi h1 hm; exact absurd hm (Nat.not_lt_zero _)
    | succ fu ih4 =>
      intro i c hi h1 hm
      refine J_iload_n E dX6_unlikeHouses_4 rfl 2 rfl ?_
      refine J_bipush E dX6_unlikeHouses_5 bp_11 ?_
      refine J_icmp_ge E (tgt := 33) dX6_unlikeHouses_7 (by decide) (fun c_7 => ?_) (fun c_7 => ?_)
      · skip
        have n_7 : 11 ≤ i := cmp_le (a := 11) (b := i) (by omega) (by omega) c_7
        refine J_iload_n E dX6_unlikeHouses_33 rfl 1 rfl ?_
        exact ret _ _ _ _ ⟨by rw [h1, show i = 11 by omega], (congrArg (wM G b) (rfl))⟩ rfl dX6_unlikeHouses_34
      · skip
        have n_7 : ¬ 11 ≤ i := cmp_nle (a := 11) (b := i) (by omega) (by omega) c_7
        refine J_iload_n E dX6_unlikeHouses_10 rfl 1 rfl ?_
        refine J_aload_n E dX6_unlikeHouses_11 rfl 0 rfl ?_
        refine J_iload_n E dX6_unlikeHouses_12 rfl 2 rfl ?_
        refine J_iconst E dX6_unlikeHouses_13 ic_0 ?_
        refine J_cVi0 E (As := [.int (nI i), .int 0]) (c_X6_its l G b y i 0 (by omega) (by omega)) cl_X6_64 yo_X6_its dX6_unlikeHouses_14 rfl rfl rfl (Nat.le_of_ble_eq_true rfl) (Nat.le_of_ble_eq_true rfl) rfl (Nat.le_of_ble_eq_true rfl) ⟨Nat.zero_le _, Nat.zero_le _⟩ ?_
        refine J_if_ne E (tgt := 24) dX6_unlikeHouses_17 (by decide) (fun c_17 => ?_) (fun c_17 => ?_)
        · skip
          refine J_iconst E dX6_unlikeHouses_24 ic_1 ?_
          refine J_iadd E dX6_unlikeHouses_25 ?_
          refine J_istore_n E (lv' := [(1, .int (c + 1)), (0, .ref (b 0)), (2, .int (nI i))]) dX6_unlikeHouses_26 rfl (by decide) rfl ?_
          refine J_iinc E (lv' := [(2, .int (nI (i + 1))), (1, .int (c + 1)), (0, .ref (b 0))]) dX6_unlikeHouses_27 2 rfl (nI_inc _) (by decide) rfl ?_
          refine J_goto E (tgt := 4) dX6_unlikeHouses_30 (by decide) ?_
          refine J_lv [2, 1, 0] rfl ?_
          exact ih4 (i + 1) (c + 1) (by omega) (by rw [h1, cntF]; first | (rw [if_pos (decide_eq_true c_17)]) | (rw [if_neg (c := decide (¬ y 0 0 i = 0) = true) (fun z => (of_decide_eq_true z) c_17), Int32.add_zero])) (by omega)
        · skip
          refine J_iconst E dX6_unlikeHouses_20 ic_0 ?_
          refine J_goto E (tgt := 25) dX6_unlikeHouses_21 (by decide) ?_
          refine J_iadd E dX6_unlikeHouses_25 ?_
          refine J_istore_n E (lv' := [(1, .int (c + 0)), (0, .ref (b 0)), (2, .int (nI i))]) dX6_unlikeHouses_26 rfl (by decide) rfl ?_
          refine J_iinc E (lv' := [(2, .int (nI (i + 1))), (1, .int (c + 0)), (0, .ref (b 0))]) dX6_unlikeHouses_27 2 rfl (nI_inc _) (by decide) rfl ?_
          refine J_goto E (tgt := 4) dX6_unlikeHouses_30 (by decide) ?_
          refine J_lv [2, 1, 0] rfl ?_
          exact ih4 (i + 1) (c + 0) (by omega) (by rw [h1, cntF]; first | (rw [if_pos (decide_eq_true c_17)]) | (rw [if_neg (c := decide (¬ y 0 0 i = 0) = true) (fun z => (of_decide_eq_true z) c_17), Int32.add_zero])) (by omega)
  refine J_lv [2, 1, 0] rfl ?_
  exact lp4 _ 0 0 (by omega) rfl (Nat.lt_succ_self _)

set_option maxHeartbeats 4000000 in
set_option maxRecDepth 20000 in
theorem c_X6_count_bad (l : Launch) (G : GB) (b : Nat → Nat) (y : Q3) (k : Int32) (hb : ¬ (0 ≤ k ∧ k ≤ 7)) : CI l yX6_count cX6_count 2 .int 1 21 G [.ref (b 0), .int k] (wM G b y) (fun vR w' => vR = tellR 0 ∧ PubM G b (tellX y 0) w') := by
  refine CI.mk (own := RX6) (by decide) rfl (Nat.le_of_ble_eq_true rfl) ?_
  intro X E ret
  show J X G 2 0 0 (wM G b y) [(0, .ref (b 0)), (1, .int k)] 0 []
  refine J_iload_n E dX6_count_0 rfl 1 rfl ?_
  by_cases c_1 : (k).toInt < 0 ∨ 7 < (k).toInt
  · refine J_tabOut E (tgt := 97) dX6_count_1 c_1 (by decide) ?_
    have n_1_0 : ¬ k = 0 := ne_out c_1 (by decide)
    have n_1_1 : ¬ k = 1 := ne_out c_1 (by decide)
    have n_1_2 : ¬ k = 2 := ne_out c_1 (by decide)
    have n_1_3 : ¬ k = 3 := ne_out c_1 (by decide)
    have n_1_4 : ¬ k = 4 := ne_out c_1 (by decide)
    have n_1_5 : ¬ k = 5 := ne_out c_1 (by decide)
    have n_1_6 : ¬ k = 6 := ne_out c_1 (by decide)
    have n_1_7 : ¬ k = 7 := ne_out c_1 (by decide)
    refine J_aload_n E dX6_count_97 rfl 0 rfl ?_
    refine J_iconst E dX6_count_98 ic_0 ?_
    refine J_cVi0 E (As := [.int 0]) (c_X6_finds l G b y 0 (by omega)) cl_X6_96 yo_X6_finds dX6_count_99 rfl rfl rfl (Nat.le_of_ble_eq_true rfl) (Nat.le_of_ble_eq_true rfl) rfl (Nat.le_of_ble_eq_true rfl) ⟨Nat.zero_le _, Nat.zero_le _⟩ ?_
    exact ret _ _ _ _ ⟨rfl, _, rfl, by intro g h2 h5 h6; by_cases h0 : g = 0 <;> simp [tellX, upG, up3, up3R, up2, h0, h2, h5, h6]⟩ rfl dX6_count_102
  · rcases sw_0_7 c_1 with i_1 | i_1 | i_1 | i_1 | i_1 | i_1 | i_1 | i_1
    · refine J_top i_1 ?_
      refine J_tabIn E (tgt := 48) (off := 47) dX6_count_1 (by decide) (by decide) rfl (by decide) ?_
      exact absurd (by rw [i_1]; decide) hb
    · refine J_top i_1 ?_
      refine J_tabIn E (tgt := 55) (off := 54) dX6_count_1 (by decide) (by decide) rfl (by decide) ?_
      exact absurd (by rw [i_1]; decide) hb
    · refine J_top i_1 ?_
      refine J_tabIn E (tgt := 60) (off := 59) dX6_count_1 (by decide) (by decide) rfl (by decide) ?_
      exact absurd (by rw [i_1]; decide) hb
    · refine J_top i_1 ?_
      refine J_tabIn E (tgt := 68) (off := 67) dX6_count_1 (by decide) (by decide) rfl (by decide) ?_
      exact absurd (by rw [i_1]; decide) hb
    · refine J_top i_1 ?_
      refine J_tabIn E (tgt := 73) (off := 72) dX6_count_1 (by decide) (by decide) rfl (by decide) ?_
      exact absurd (by rw [i_1]; decide) hb
    · refine J_top i_1 ?_
      refine J_tabIn E (tgt := 80) (off := 79) dX6_count_1 (by decide) (by decide) rfl (by decide) ?_
      exact absurd (by rw [i_1]; decide) hb
    · refine J_top i_1 ?_
      refine J_tabIn E (tgt := 85) (off := 84) dX6_count_1 (by decide) (by decide) rfl (by decide) ?_
      exact absurd (by rw [i_1]; decide) hb
    · refine J_top i_1 ?_
      refine J_tabIn E (tgt := 92) (off := 91) dX6_count_1 (by decide) (by decide) rfl (by decide) ?_
      exact absurd (by rw [i_1]; decide) hb

set_option maxHeartbeats 4000000 in
set_option maxRecDepth 20000 in
theorem c_X6_count_ok (l : Launch) (G : GB) (b : Nat → Nat) (y : Q3) (k : Nat) (hk : k < 8) (hs : okS (y 0)) : CI l yX6_count cX6_count 2 .int 2 44 G [.ref (b 0), .int (nI k)] (wM G b y) (fun vR w' => vR = countM y k ∧ PubM G b y w') := by
  refine CI.mk (own := RX6) (by decide) rfl (Nat.le_of_ble_eq_true rfl) ?_
  intro X E ret
  show J X G 2 0 0 (wM G b y) [(0, .ref (b 0)), (1, .int (nI k))] 0 []
  rcases (show k = 0 ∨ k = 1 ∨ k = 2 ∨ k = 3 ∨ k = 4 ∨ k = 5 ∨ k = 6 ∨ k = 7 by omega) with rfl | rfl | rfl | rfl | rfl | rfl | rfl | rfl
  · skip
    refine J_iload_n E dX6_count_0 rfl 1 rfl ?_
    refine J_tabIn E (tgt := 48) (off := 47) dX6_count_1 (by decide) (by decide) rfl (by decide) ?_
    refine J_aload_n E dX6_count_48 rfl 0 rfl ?_
    refine gM0_X6_9 E dX6_count_49 ?_
    refine J_iconst E dX6_count_52 ic_0 ?_
    refine lMs E (j := 0) (r := 7) (i := 0) (at_7 (by decide)) dX6_count_53 ?_
    exact ret _ _ _ _ ⟨by simp [countM], _, rfl, by intro g h2 h5 h6; by_cases h0 : g = 0 <;> simp [tellX, upG, up3, up3R, up2, h0, h2, h5, h6]⟩ rfl dX6_count_54
  · skip
    refine J_iload_n E dX6_count_0 rfl 1 rfl ?_
    refine J_tabIn E (tgt := 55) (off := 54) dX6_count_1 (by decide) (by decide) rfl (by decide) ?_
    refine J_aload_n E dX6_count_55 rfl 0 rfl ?_
    refine J_cVi0 E (As := []) (c_X6_unlikeHouses l G b y ) cl_X6_312 yo_X6_unlikeHouses dX6_count_56 rfl rfl rfl (Nat.le_of_ble_eq_true rfl) (Nat.le_of_ble_eq_true rfl) rfl (Nat.le_of_ble_eq_true rfl) ⟨Nat.zero_le _, Nat.zero_le _⟩ ?_
    exact ret _ _ _ _ ⟨by simp [countM], _, rfl, by intro g h2 h5 h6; by_cases h0 : g = 0 <;> simp [tellX, upG, up3, up3R, up2, h0, h2, h5, h6]⟩ rfl dX6_count_59
  · skip
    refine J_iload_n E dX6_count_0 rfl 1 rfl ?_
    refine J_tabIn E (tgt := 60) (off := 59) dX6_count_1 (by decide) (by decide) rfl (by decide) ?_
    refine J_aload_n E dX6_count_60 rfl 0 rfl ?_
    refine J_cVi0 E (As := []) (c_X6_dryEver l G b y ) cl_X6_150 yo_X6_dryEver dX6_count_61 rfl rfl rfl (Nat.le_of_ble_eq_true rfl) (Nat.le_of_ble_eq_true rfl) rfl (Nat.le_of_ble_eq_true rfl) ⟨Nat.zero_le _, Nat.zero_le _⟩ ?_
    refine J_cSiN E (As := [.int (setF (fun j => decide (0 < (y 0) 5 j)) 11)]) (c_X6_ones l G (setF (fun j => decide (0 < (y 0) 5 j)) 11) ) cl_X6_191 yo_X6_ones dX6_count_64 rfl (Nat.le_of_ble_eq_true rfl) (Nat.le_of_ble_eq_true rfl) rfl (Nat.le_of_ble_eq_true rfl) ⟨Nat.zero_le _, Nat.zero_le _⟩ ?_
    exact ret _ _ _ _ ⟨by simp [countM], _, rfl, by intro g h2 h5 h6; by_cases h0 : g = 0 <;> simp [tellX, upG, up3, up3R, up2, h0, h2, h5, h6]⟩ rfl dX6_count_67
  · skip
    refine J_iload_n E dX6_count_0 rfl 1 rfl ?_
    refine J_tabIn E (tgt := 68) (off := 67) dX6_count_1 (by decide) (by decide) rfl (by decide) ?_
    refine J_aload_n E dX6_count_68 rfl 0 rfl ?_
    refine J_cVi0 E (As := []) (c_X6_waters l G b y ) cl_X6_147 yo_X6_waters dX6_count_69 rfl rfl rfl (Nat.le_of_ble_eq_true rfl) (Nat.le_of_ble_eq_true rfl) rfl (Nat.le_of_ble_eq_true rfl) ⟨Nat.zero_le _, Nat.zero_le _⟩ ?_
    exact ret _ _ _ _ ⟨by simp [countM], _, rfl, by intro g h2 h5 h6; by_cases h0 : g = 0 <;> simp [tellX, upG, up3, up3R, up2, h0, h2, h5, h6]⟩ rfl dX6_count_72
  · skip
    refine J_iload_n E dX6_count_0 rfl 1 rfl ?_
    refine J_tabIn E (tgt := 73) (off := 72) dX6_count_1 (by decide) (by decide) rfl (by decide) ?_
    refine J_aload_n E dX6_count_73 rfl 0 rfl ?_
    refine gM0_X6_9 E dX6_count_74 ?_
    refine J_iconst E dX6_count_77 ic_3 ?_
    refine lMs E (j := 3) (r := 7) (i := 3) (at_7 (by decide)) dX6_count_78 ?_
    exact ret _ _ _ _ ⟨by simp [countM], _, rfl, by intro g h2 h5 h6; by_cases h0 : g = 0 <;> simp [tellX, upG, up3, up3R, up2, h0, h2, h5, h6]⟩ rfl dX6_count_79
  · skip
    refine J_iload_n E dX6_count_0 rfl 1 rfl ?_
    refine J_tabIn E (tgt := 80) (off := 79) dX6_count_1 (by decide) (by decide) rfl (by decide) ?_
    refine J_aload_n E dX6_count_80 rfl 0 rfl ?_
    refine gM0_X6_214 E dX6_count_81 ?_
    exact ret _ _ _ _ ⟨by simp [countM], _, rfl, by intro g h2 h5 h6; by_cases h0 : g = 0 <;> simp [tellX, upG, up3, up3R, up2, h0, h2, h5, h6]⟩ rfl dX6_count_84
  · skip
    refine J_iload_n E dX6_count_0 rfl 1 rfl ?_
    refine J_tabIn E (tgt := 85) (off := 84) dX6_count_1 (by decide) (by decide) rfl (by decide) ?_
    refine J_aload_n E dX6_count_85 rfl 0 rfl ?_
    refine gM0_X6_9 E dX6_count_86 ?_
    refine J_iconst E dX6_count_89 ic_1 ?_
    refine lMs E (j := 1) (r := 7) (i := 1) (at_7 (by decide)) dX6_count_90 ?_
    exact ret _ _ _ _ ⟨by simp [countM], _, rfl, by intro g h2 h5 h6; by_cases h0 : g = 0 <;> simp [tellX, upG, up3, up3R, up2, h0, h2, h5, h6]⟩ rfl dX6_count_91
  · skip
    refine J_iload_n E dX6_count_0 rfl 1 rfl ?_
    refine J_tabIn E (tgt := 92) (off := 91) dX6_count_1 (by decide) (by decide) rfl (by decide) ?_
    refine J_aload_n E dX6_count_92 rfl 0 rfl ?_
    refine J_cVi0 E (As := []) (c_X6_held l G b y hs) cl_X6_315 yo_X6_held dX6_count_93 rfl rfl rfl (Nat.le_of_ble_eq_true rfl) (Nat.le_of_ble_eq_true rfl) rfl (Nat.le_of_ble_eq_true rfl) ⟨Nat.zero_le _, Nat.zero_le _⟩ ?_
    exact ret _ _ _ _ ⟨by simp [countM], _, rfl, by intro g h2 h5 h6; by_cases h0 : g = 0 <;> simp [tellX, upG, up3, up3R, up2, h0, h2, h5, h6]⟩ rfl dX6_count_96

set_option maxHeartbeats 4000000 in
set_option maxRecDepth 20000 in
theorem c_X6_status_bad (l : Launch) (G : GB) (b : Nat → Nat) (y : Q3) (w : Int32) (hb : ¬ (-1 ≤ w ∧ w ≤ 6)) : CI l yX6_status cX6_status 4 .int 1 25 G [.ref (b 0), .int w] (wM G b y) (fun vR w' => vR = tellR 0 ∧ PubM G b (tellX y 0) w') := by
  refine CI.mk (own := RX6) (by decide) rfl (Nat.le_of_ble_eq_true rfl) ?_
  intro X E ret
  show J X G 4 0 0 (wM G b y) [(0, .ref (b 0)), (1, .int w)] 0 []
  refine J_iload_n E dX6_status_0 rfl 1 rfl ?_
  refine J_i2l E dX6_status_1 rfl ?_
  refine J_ldc2 E kl_X6_318 dX6_status_2 ?_
  refine J_ldc2 E kl_X6_62 dX6_status_5 ?_
  refine J_cSiN E (As := [.long (Int32.toInt64 w), .long (-1), .long 6]) (c_X6_in l G w (-1) 6 (-1) 6 (by decide) (by decide) ) cl_X6_54 yo_X6_in dX6_status_8 rfl (Nat.le_of_ble_eq_true rfl) (Nat.le_of_ble_eq_true rfl) rfl (Nat.le_of_ble_eq_true rfl) ⟨Nat.zero_le _, Nat.zero_le _⟩ ?_
  refine J_if_ne E (tgt := 20) dX6_status_11 (by decide) (fun c_11 => ?_) (fun c_11 => ?_)
  · skip
    have c_11 := bI_1 c_11
    exact absurd c_11 hb
  · skip
    have c_11 := bI_0 c_11
    refine J_aload_n E dX6_status_14 rfl 0 rfl ?_
    refine J_iconst E dX6_status_15 ic_0 ?_
    refine J_cVi0 E (As := [.int 0]) (c_X6_finds l G b y 0 (by omega)) cl_X6_96 yo_X6_finds dX6_status_16 rfl rfl rfl (Nat.le_of_ble_eq_true rfl) (Nat.le_of_ble_eq_true rfl) rfl (Nat.le_of_ble_eq_true rfl) ⟨Nat.zero_le _, Nat.zero_le _⟩ ?_
    exact ret _ _ _ _ ⟨rfl, _, rfl, by intro g h2 h5 h6; by_cases h0 : g = 0 <;> simp [tellX, upG, up3, up3R, up2, h0, h2, h5, h6]⟩ rfl dX6_status_19

set_option maxHeartbeats 4000000 in
set_option maxRecDepth 20000 in
theorem c_X6_status_one (l : Launch) (G : GB) (b : Nat → Nat) (y : Q3) (k : Nat) (hk : k < 7) : CI l yX6_status cX6_status 4 .int 1 25 G [.ref (b 0), .int (nI k)] (wM G b y) (fun vR w' => vR = y 3 0 k ∧ PubM G b y w') := by
  refine CI.mk (own := RX6) (by decide) rfl (Nat.le_of_ble_eq_true rfl) ?_
  intro X E ret
  show J X G 4 0 0 (wM G b y) [(0, .ref (b 0)), (1, .int (nI k))] 0 []
  refine J_iload_n E dX6_status_0 rfl 1 rfl ?_
  refine J_i2l E dX6_status_1 rfl ?_
  refine J_ldc2 E kl_X6_318 dX6_status_2 ?_
  refine J_ldc2 E kl_X6_62 dX6_status_5 ?_
  refine J_cSiN E (As := [.long (Int32.toInt64 (nI k)), .long (-1), .long 6]) (c_X6_in l G (nI k) (-1) 6 (-1) 6 (by decide) (by decide) ) cl_X6_54 yo_X6_in dX6_status_8 rfl (Nat.le_of_ble_eq_true rfl) (Nat.le_of_ble_eq_true rfl) rfl (Nat.le_of_ble_eq_true rfl) ⟨Nat.zero_le _, Nat.zero_le _⟩ ?_
  refine J_if_ne E (tgt := 20) dX6_status_11 (by decide) (fun c_11 => ?_) (fun c_11 => ?_)
  · skip
    have c_11 := bI_1 c_11
    refine J_iconst E dX6_status_20 ic_0 ?_
    refine J_istore_n E (lv' := [(2, .int 0), (0, .ref (b 0)), (1, .int (nI k))]) dX6_status_21 rfl (by decide) rfl ?_
    refine J_iconst E dX6_status_22 ic_0 ?_
    refine J_istore_n E (lv' := [(3, .int 0), (2, .int 0), (0, .ref (b 0)), (1, .int (nI k))]) dX6_status_23 rfl (by decide) rfl ?_
    have lp24 : ∀ (fu : Nat) (i : Nat) (s : Int32), (i ≤ 7) → (s = if k < i then y 3 0 k else 0) → 7 - i < fu → J X G 4 0 0 (wM G b y) [(0, .ref (b 0)), (1, .int (nI k)), (2, .int s), (3, .int (nI i))] 24 [] := by
      intro fu
      induction fu with
      | zero => intro i s hi h1 hm; exact absurd hm (Nat.not_lt_zero _)
      | succ fu ih24 =>
        intro i s hi h1 hm
        refine J_iload_n E dX6_status_24 rfl 3 rfl ?_
        refine J_bipush E dX6_status_25 bp_7 ?_
        refine J_icmp_ge E (tgt := 58) dX6_status_27 (by decide) (fun c_27 => ?_) (fun c_27 => ?_)
        · skip
          have n_27 : 7 ≤ i := cmp_le (a := 7) (b := i) (by omega) (by omega) c_27
          refine J_iload_n E dX6_status_58 rfl 2 rfl ?_
          exact ret _ _ _ _ ⟨by rw [h1, if_pos (by omega)], _, rfl, by intro g h2 h5 h6; by_cases h0 : g = 0 <;> simp [tellX, upG, up3, up3R, up2, h0, h2, h5, h6]⟩ rfl dX6_status_59
        · skip
          have n_27 : ¬ 7 ≤ i := cmp_nle (a := 7) (b := i) (by omega) (by omega) c_27
          refine J_iload_n E dX6_status_30 rfl 2 rfl ?_
          refine J_iload_n E dX6_status_31 rfl 1 rfl ?_
          refine J_if_lt E (tgt := 40) dX6_status_32 (by decide) (fun c_32 => ?_) (fun c_32 => ?_)
          · skip
            have n_32 : k < 0 := cmp_lt (a := k) (b := 0) (by omega) (by omega) c_32
            exact absurd n_32 (by omega)
          · skip
            have n_32 : ¬ k < 0 := cmp_nlt (a := k) (b := 0) (by omega) (by omega) c_32
            refine J_iload_n E dX6_status_35 rfl 1 rfl ?_
            refine J_iload_n E dX6_status_36 rfl 3 rfl ?_
            refine J_icmp_ne E (tgt := 49) dX6_status_37 (by decide) (fun c_37 => ?_) (fun c_37 => ?_)
            · skip
              have n_37 : ¬ k = i := cmp_ne (a := k) (b := i) (by omega) (by omega) c_37
              refine J_iconst E dX6_status_49 ic_0 ?_
              refine J_iadd E dX6_status_50 ?_
              refine J_istore_n E (lv' := [(2, .int (s + 0)), (0, .ref (b 0)), (1, .int (nI k)), (3, .int (nI i))]) dX6_status_51 rfl (by decide) rfl ?_
              refine J_iinc E (lv' := [(3, .int (nI (i + 1))), (2, .int (s + 0)), (0, .ref (b 0)), (1, .int (nI k))]) dX6_status_52 3 rfl (nI_inc _) (by decide) rfl ?_
              refine J_goto E (tgt := 24) dX6_status_55 (by decide) ?_
              refine J_lv [2, 3, 1, 0] rfl ?_
              exact ih24 (i + 1) (s + 0) (by omega) (by rw [h1]; first | (subst n_37; rw [if_neg (by omega), if_pos (by omega), Int32.zero_add]) | (by_cases e : k < i <;> [rw [if_pos e, if_pos (by omega), Int32.add_zero]; rw [if_neg e, if_neg (by omega), Int32.add_zero]])) (by omega)
            · skip
              have n_37 : k = i := cmp_eq (a := k) (b := i) (by omega) (by omega) c_37
              refine J_aload_n E dX6_status_40 rfl 0 rfl ?_
              refine gM0_X6_19 E dX6_status_41 ?_
              refine J_iload_n E dX6_status_44 rfl 3 rfl ?_
              refine lM_4 E (j := i) dX6_status_45 (by omega) ?_
              refine J_goto E (tgt := 50) dX6_status_46 (by decide) ?_
              refine J_iadd E dX6_status_50 ?_
              refine J_istore_n E (lv' := [(2, .int (s + (y 3 0 i))), (0, .ref (b 0)), (1, .int (nI k)), (3, .int (nI i))]) dX6_status_51 rfl (by decide) rfl ?_
              refine J_iinc E (lv' := [(3, .int (nI (i + 1))), (2, .int (s + (y 3 0 i))), (0, .ref (b 0)), (1, .int (nI k))]) dX6_status_52 3 rfl (nI_inc _) (by decide) rfl ?_
              refine J_goto E (tgt := 24) dX6_status_55 (by decide) ?_
              refine J_lv [2, 3, 1, 0] rfl ?_
              exact ih24 (i + 1) (s + (y 3 0 i)) (by omega) (by rw [h1]; first | (subst n_37; rw [if_neg (by omega), if_pos (by omega), Int32.zero_add]) | (by_cases e : k < i <;> [rw [if_pos e, if_pos (by omega), Int32.add_zero]; rw [if_neg e, if_neg (by omega), Int32.add_zero]])) (by omega)
    refine J_lv [2, 3, 1, 0] rfl ?_
    exact lp24 _ 0 0 (by omega) rfl (Nat.lt_succ_self _)
  · skip
    have c_11 := bI_0 c_11
    exact absurd ⟨Int32.le_trans (by decide) (nI_pos' (by omega)), nI_le (a := k) (b := 6) (by omega) (by decide)⟩ c_11

set_option maxHeartbeats 4000000 in
set_option maxRecDepth 20000 in
theorem c_X6_status_all (l : Launch) (G : GB) (b : Nat → Nat) (y : Q3)  : CI l yX6_status cX6_status 4 .int 1 25 G [.ref (b 0), .int (-1)] (wM G b y) (fun vR w' => vR = sumF (y 3 0) 7 ∧ PubM G b y w') := by
  refine CI.mk (own := RX6) (by decide) rfl (Nat.le_of_ble_eq_true rfl) ?_
  intro X E ret
  show J X G 4 0 0 (wM G b y) [(0, .ref (b 0)), (1, .int (-1))] 0 []
  refine J_iload_n E dX6_status_0 rfl 1 rfl ?_
  refine J_i2l E dX6_status_1 rfl ?_
  refine J_ldc2 E kl_X6_318 dX6_status_2 ?_
  refine J_ldc2 E kl_X6_62 dX6_status_5 ?_
  refine J_cSiN E (As := [.long (Int32.toInt64 (-1)), .long (-1), .long 6]) (c_X6_in l G (-1) (-1) 6 (-1) 6 (by decide) (by decide) ) cl_X6_54 yo_X6_in dX6_status_8 rfl (Nat.le_of_ble_eq_true rfl) (Nat.le_of_ble_eq_true rfl) rfl (Nat.le_of_ble_eq_true rfl) ⟨Nat.zero_le _, Nat.zero_le _⟩ ?_
  refine J_if_ne E (tgt := 20) dX6_status_11 (by decide) (fun c_11 => ?_) (fun c_11 => ?_)
  · skip
    have c_11 := bI_1 c_11
    refine J_iconst E dX6_status_20 ic_0 ?_
    refine J_istore_n E (lv' := [(2, .int 0), (0, .ref (b 0)), (1, .int (-1))]) dX6_status_21 rfl (by decide) rfl ?_
    refine J_iconst E dX6_status_22 ic_0 ?_
    refine J_istore_n E (lv' := [(3, .int 0), (2, .int 0), (0, .ref (b 0)), (1, .int (-1))]) dX6_status_23 rfl (by decide) rfl ?_
    have lp24 : ∀ (fu : Nat) (i : Nat) (s : Int32), (i ≤ 7) → (s = sumF (y 3 0) i) → 7 - i < fu → J X G 4 0 0 (wM G b y) [(0, .ref (b 0)), (1, .int (-1)), (2, .int s), (3, .int (nI i))] 24 [] := by
      intro fu
      induction fu with
      | zero => intro i s hi h1 hm; exact absurd hm (Nat.not_lt_zero _)
      | succ fu ih24 =>
        intro i s hi h1 hm
        refine J_iload_n E dX6_status_24 rfl 3 rfl ?_
        refine J_bipush E dX6_status_25 bp_7 ?_
        refine J_icmp_ge E (tgt := 58) dX6_status_27 (by decide) (fun c_27 => ?_) (fun c_27 => ?_)
        · skip
          have n_27 : 7 ≤ i := cmp_le (a := 7) (b := i) (by omega) (by omega) c_27
          refine J_iload_n E dX6_status_58 rfl 2 rfl ?_
          exact ret _ _ _ _ ⟨by rw [h1, show i = 7 by omega], _, rfl, by intro g h2 h5 h6; by_cases h0 : g = 0 <;> simp [tellX, upG, up3, up3R, up2, h0, h2, h5, h6]⟩ rfl dX6_status_59
        · skip
          have n_27 : ¬ 7 ≤ i := cmp_nle (a := 7) (b := i) (by omega) (by omega) c_27
          refine J_iload_n E dX6_status_30 rfl 2 rfl ?_
          refine J_iload_n E dX6_status_31 rfl 1 rfl ?_
          refine J_if_lt E (tgt := 40) dX6_status_32 (by decide) (fun c_32 => ?_) (fun c_32 => ?_)
          · skip
            refine J_aload_n E dX6_status_40 rfl 0 rfl ?_
            refine gM0_X6_19 E dX6_status_41 ?_
            refine J_iload_n E dX6_status_44 rfl 3 rfl ?_
            refine lM_4 E (j := i) dX6_status_45 (by omega) ?_
            refine J_goto E (tgt := 50) dX6_status_46 (by decide) ?_
            refine J_iadd E dX6_status_50 ?_
            refine J_istore_n E (lv' := [(2, .int (s + (y 3 0 i))), (0, .ref (b 0)), (1, .int (-1)), (3, .int (nI i))]) dX6_status_51 rfl (by decide) rfl ?_
            refine J_iinc E (lv' := [(3, .int (nI (i + 1))), (2, .int (s + (y 3 0 i))), (0, .ref (b 0)), (1, .int (-1))]) dX6_status_52 3 rfl (nI_inc _) (by decide) rfl ?_
            refine J_goto E (tgt := 24) dX6_status_55 (by decide) ?_
            refine J_lv [2, 3, 1, 0] rfl ?_
            exact ih24 (i + 1) (s + (y 3 0 i)) (by omega) (by rw [h1]; rfl) (by omega)
          · skip
            exact absurd c_32 (by decide)
    refine J_lv [2, 3, 1, 0] rfl ?_
    exact lp24 _ 0 0 (by omega) rfl (Nat.lt_succ_self _)
  · skip
    have c_11 := bI_0 c_11
    exact absurd (by decide) c_11
