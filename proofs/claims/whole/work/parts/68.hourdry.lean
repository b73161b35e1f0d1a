def orU (b : Nat → Int32) : Nat → Int32
  | 0 => 0
  | n + 1 => orU b n ||| b n
def orD (b : Nat → Int32) : Nat → Int32
  | 0 => 0
  | k + 1 => orD b k ||| b (10 - k)
theorem orD_U (b : Nat → Int32) : ∀ k, k ≤ 11 → orD b k ||| orU b (11 - k) = orU b 11
  | 0, _ => Int32.zero_or
  | k + 1, h => by
    rw [← orD_U b k (by omega), show 11 - k = (10 - k) + 1 by omega, show 11 - (k + 1) = 10 - k by omega, orU, orD, Int32.or_assoc, Int32.or_comm (b (10 - k))]
def dbA (p : Q2) (j : Nat) : Int32 := if leftF p j < 0 then bitI j else 0
theorem stepD_or (p : Q2) (j : Nat) (d : Int32) : stepD p j d = d ||| dbA p j := by
  unfold stepD dbA
  split
  · rfl
  · exact Int32.or_zero.symm
theorem tkD_or (p : Q2) : ∀ n, tkD p n = orU (dbA p) n
  | 0 => rfl
  | n + 1 => by
    have e : dbA (tkS p n) n = dbA p n := by
      unfold dbA
      rw [tkS_eq, sm_left (tkC_sm (Nat.le_refl n))]
    rw [tkD, stepD_or, tkD_or p n, e]
    rfl
theorem phD_or {q : Q2} (hsp : spOk q) : ∀ k, k ≤ 11 → phD q 10 k = orD (dbA (bringF q 0 (q 7 2))) k
  | 0, _ => rfl
  | k + 1, h => by
    rw [phD_eq hsp k (by omega), stepD_or, phD_or hsp k (by omega)]
    rfl
theorem dry_eq {q : Q2} (h : okR q) : dryM q 10 = dryR q := by
  have g := orD_U (dbA (bringF q 0 (q 7 2))) 11 (Nat.le_refl _)
  rw [show orU (dbA (bringF q 0 (q 7 2))) (11 - 11) = 0 from rfl, Int32.or_zero] at g
  unfold dryM dryR
  rw [phD_or h.1.1 11 (Nat.le_refl _), g, tkD_or, rain_eq h]
/-- an hour keeps the ranges -/
theorem okR_hour {q : Q2} (h : okR q) (hh : inR 99998 (q 7 0)) : okR (hourR0 q) := by
  have hp := okR_rain h
  have hO := okO_up (okO_kp hp) (goA_in hp) 11 (Nat.le_refl _)
  have e1 : hq3 q (fun _ => 0) = upO (kpD (bringF q 0 (q 7 2)) 11) (goA (bringF q 0 (q 7 2))) 11 := by
    unfold hq3 hq1
    rw [rain_eq h, keep_eq hp, ouS_up (okO_kp hp) (goA_in hp) (fun i hi => go_eq hp _ hi) 11 (Nat.le_refl _)]
  have row : ∀ n, n ≤ 11 → ∀ r j, r ≠ 1 → r ≠ 7 → upO (kpD (bringF q 0 (q 7 2)) 11) (goA (bringF q 0 (q 7 2))) n r j = kpD (bringF q 0 (q 7 2)) 11 r j := by
    intro n
    induction n with
    | zero => intro _ r j _ _; rfl
    | succ n ih =>
      intro hn r j h1 h7
      rw [← ih (by omega) r j h1 h7, upO]
      rcases out_cases (okO_up (okO_kp hp) (goA_in hp) n (by omega)).1 (by omega : n < 11) (goA (bringF q 0 (q 7 2)) n) with ⟨_, e⟩ | ⟨u, _, _, _, e⟩
      · rw [e, al_row (fun z => h7 z.1), lose_row (fun z => h7 z.1)]
      · rw [e, ho_row (fun z => h1 z.1) (fun z => h7 z.1), lose_row (fun z => h7 z.1)]
  have e7 : hq3 q (fun _ => 0) 7 0 = q 7 0 := by rw [← ph_eq h]; exact ph_7 h 11 (Nat.le_refl _)
  have e2 : hq3 q (fun _ => 0) 7 2 = q 7 2 := by
    rw [← ph_eq h]
    have : ∀ k, k ≤ 11 → phS q 10 k 7 2 = q 7 2 := by
      intro k
      induction k with
      | zero =>
        intro _
        show bringF q 0 (q 7 2) 7 2 = q 7 2
        rw [show bringF q 0 (q 7 2) = hoF q 0 (q 7 2) from bring_ho q (u := 0) (q 7 2) (by decide), ho_row (fun z => absurd z.1 (by decide)) (by decide)]
      | succ k ih => intro hk; exact (ag_7s (spOk_c h.1.1 (phS_4 q 10 k)) (by omega)).2.trans (ih (by omega))
    exact this 11 (Nat.le_refl _)
  have hr : ∀ r j, r ≠ 7 → hourR0 q r j = hq3 q (fun _ => 0) r j := fun r j h7 => by unfold hourR0 hourR; exact up2_row h7
  have h7' : ∀ j, j ≠ 0 → hourR0 q 7 j = hq3 q (fun _ => 0) 7 j := fun j hj => by unfold hourR0 hourR; exact up2_d hj
  refine ⟨okQ_h h.1, fun j hj => ⟨?_, ?_, ?_, ?_⟩, ?_, ?_, ?_, ?_⟩
  · rw [hr 1 j (by decide), e1]; exact hO.2.1 j hj
  · rw [hr 2 j (by decide), e1, row 11 (Nat.le_refl _) 2 j (by decide) (by decide), kpD_eq _ 11 (Nat.le_refl _)]; exact (hp.2.1 j hj).2.1
  · rw [hr 3 j (by decide), e1, row 11 (Nat.le_refl _) 3 j (by decide) (by decide), kpD_eq _ 11 (Nat.le_refl _)]; exact (hp.2.1 j hj).2.2.1
  · rw [hr 5 j (by decide), e1, row 11 (Nat.le_refl _) 5 j (by decide) (by decide), kpD_eq _ 11 (Nat.le_refl _)]
    unfold kdC
    rw [if_neg (fun z => absurd z.1 (by decide)), if_pos ⟨rfl, by omega, hj⟩]
    obtain ⟨n, hn, e5⟩ := (hp.2.1 j hj).2.2.2
    unfold dhA
    rw [e5]
    split
    · rw [show (9999 : Int32) = nI 9999 from rfl, show (1 : Int32) = nI 1 from rfl, nI_add, mn_nI (by decide) (by omega)]
      exact ⟨_, Nat.min_le_left _ _, rfl⟩
    · exact ⟨n, hn, rfl⟩
  · rw [h7' 3 (by decide), e1]; exact hO.2.2.1
  · rw [h7' 4 (by decide), e1]; exact hO.2.2.2
  · rw [h7' 2 (by decide), e2]; exact h.2.2.2.2.1
  · obtain ⟨n, hn, e⟩ := hh
    refine ⟨n + 1, by omega, ?_⟩
    unfold hourR0 hourR
    rw [up2_s, e7, e]
    exact nI_add n 1
