theorem outQ_eq {q : Q2} {g : Nat → Int32} {i : Nat} (h : okO q) (hi : i < 11) (hv : inR 20000 (g i)) : outQ q g i = outA q i (g i) := by
  have hl := lk_in (k := q 0 i) hv
  unfold outQ outA
  rw [leadF_c (loseF_4 q _)]
  rcases lead_up h.1 hi (Nat.le_refl i) with hx | ⟨u, hu, _, hx⟩ <;> rw [hx]
  · rw [if_pos (by decide), bring_al, alF]
    congr 2
    rw [Int32.sub_eq_add_neg, Int32.add_assoc, ← Int32.sub_eq_add_neg]
  · rw [if_neg (nI_pos (by omega)), nI_clamp (by omega), bring_ho _ _ hu]
    exact comes_ho ((okO_lose h hl.1).2.1 u hu) hl.2
def upO (p : Q2) (v : Nat → Int32) : Nat → Q2
  | 0 => p
  | n + 1 => outA (upO p v n) n (v n)
def dnO (v : Nat → Int32) : Nat → Q2 → Q2
  | 0, p => p
  | n + 1, p => dnO v n (outA p n (v n))
theorem okO_up {p : Q2} {v : Nat → Int32} (h : okO p) (hv : ∀ i, i < 11 → inR 20000 (v i)) : ∀ n, n ≤ 11 → okO (upO p v n)
  | 0, _ => h
  | n + 1, hn => okO_out (okO_up h hv n (by omega)) (by omega) (hv n (by omega))
theorem upO_out {p : Q2} {v : Nat → Int32} (h : okO p) (hv : ∀ i, i < 11 → inR 20000 (v i)) {j : Nat} (hj : j < 11) {w : Int32} (hw : inR 20000 w) : ∀ n, n ≤ 11 → upO (outA p j w) v n = outA (upO p v n) j w
  | 0, _ => rfl
  | n + 1, hn => by
    rw [upO, upO_out h hv hj hw n (by omega), out_out (okO_up h hv n (by omega)) hj (by omega) hw (hv n (by omega))]
    rfl
theorem dnO_up {v : Nat → Int32} (hv : ∀ i, i < 11 → inR 20000 (v i)) : ∀ n, n ≤ 11 → ∀ p, okO p → dnO v n p = upO p v n
  | 0, _, _, _ => rfl
  | n + 1, hn, p, h => by
    rw [dnO, dnO_up hv n (by omega) _ (okO_out h (by omega) (hv n (by omega))), upO_out h hv (by omega) (hv n (by omega)) n (by omega)]
    rfl
theorem ouD_dn (p : Q2) (v : Nat → Int32) : ∀ k, k ≤ 11 → dnO v (11 - k) (ouD p v k) = dnO v 11 p
  | 0, _ => rfl
  | k + 1, hk => by
    rw [← ouD_dn p v k (by omega), show 11 - k = (10 - k) + 1 by omega, show 11 - (k + 1) = 10 - k by omega]
    rfl
theorem ouS_up {p : Q2} {g v : Nat → Int32} (h : okO p) (hv : ∀ i, i < 11 → inR 20000 (v i)) (hg : ∀ i, i < 11 → g i = v i) : ∀ n, n ≤ 11 → ouS p g n = upO p v n
  | 0, _ => rfl
  | n + 1, hn => by
    rw [ouS, ouS_up h hv hg n (by omega), outQ_eq (okO_up h hv n (by omega)) (by omega) (by rw [hg n (by omega)]; exact hv n (by omega)), hg n (by omega)]
    rfl
theorem rain_eq {q : Q2} (h : okR q) : comesR q 0 (q 7 2) = bringF q 0 (q 7 2) := by
  rw [comes_ho (h.2.1 0 (by decide)).1 (inR_le (by decide) h.2.2.2.2.1)]
  exact (bring_ho q (u := 0) (q 7 2) (by decide)).symm
theorem okR_rain {q : Q2} (h : okR q) : okR (bringF q 0 (q 7 2)) := by
  have e : bringF q 0 (q 7 2) = hoF q 0 (q 7 2) := bring_ho q (u := 0) (q 7 2) (by decide)
  have hO : okO q := ⟨h.1.1, fun j hj => (h.2.1 j hj).1, h.2.2.1, h.2.2.2.1⟩
  have hO2 := okO_ho hO (u := 0) (by decide) (inR_le (by decide) h.2.2.2.2.1 : inR 20000 (q 7 2))
  have r : ∀ a j, a ≠ 1 → ¬ (a = 7 ∧ j = 4) → hoF q 0 (q 7 2) a j = q a j := fun a j h1 h2 => ho_row (fun z => h1 z.1) h2
  rw [e]
  refine ⟨⟨hO2.1, fun j hj => ?_⟩, fun j hj => ⟨hO2.2.1 j hj, ?_, ?_, ?_⟩, hO2.2.2.1, hO2.2.2.2, ?_, ?_⟩
  · rw [r 0 j (by decide) (fun z => absurd z.1 (by decide))]; exact h.1.2 j hj
  · rw [r 2 j (by decide) (fun z => absurd z.1 (by decide))]; exact (h.2.1 j hj).2.1
  · rw [r 3 j (by decide) (fun z => absurd z.1 (by decide))]; exact (h.2.1 j hj).2.2.1
  · rw [r 5 j (by decide) (fun z => absurd z.1 (by decide))]; exact (h.2.1 j hj).2.2.2
  · rw [r 7 2 (by decide) (by decide)]; exact h.2.2.2.2.1
  · rw [r 7 0 (by decide) (by decide)]; exact h.2.2.2.2.2
theorem okO_kp {p : Q2} (h : okR p) : okO (kpD p 11) := by
  refine ⟨spOk_c h.1.1 (kpD_4 p 11), fun j hj => ?_, ?_, ?_⟩
  · rw [kpD_eq p 11 (Nat.le_refl _)]
    obtain ⟨a, u, K, ha, hu, hK, e1, hl, hk, hkt, hgo⟩ := okR_v h hj
    unfold kdC
    rw [if_pos ⟨rfl, by omega, hj⟩, hkt]
    exact ⟨_, by omega, rfl⟩
  · rw [kpD_eq p 11 (Nat.le_refl _)]
    exact h.2.2.1
  · rw [kpD_eq p 11 (Nat.le_refl _)]
    exact h.2.2.2.1
theorem goA_in {p : Q2} (h : okR p) : ∀ i, i < 11 → inR 20000 (goA p i) := fun i hi => by
  obtain ⟨a, u, K, ha, hu, hK, e1, hl, hk, hkt, hgo⟩ := okR_v h hi
  rw [hgo]
  exact ⟨_, by omega, rfl⟩
/-- the houses' part of an hour is the same on both sides -/
theorem ph_eq {q : Q2} (h : okR q) : phS q 10 11 = hq3 q (fun _ => 0) := by
  have hp := okR_rain h
  rw [phS_eq h.1.1 11 (Nat.le_refl _)]
  unfold hq3 hq1
  rw [rain_eq h, keep_eq hp, ouS_up (okO_kp hp) (goA_in hp) (fun i hi => go_eq hp _ hi) 11 (Nat.le_refl _), ← dnO_up (goA_in hp) 11 (Nat.le_refl _) _ (okO_kp hp)]
  exact ouD_dn _ _ 11 (Nat.le_refl _)
theorem ag_7s {t : Nat} {q : Q2} (hsp : spOk q) (ht : t < 11) : stepS q t 7 0 = q 7 0 ∧ stepS q t 7 2 = q 7 2 := by
  rw [step_A]
  have hs : spOk (kpA q t) := spOk_c hsp (kpA_4 q t)
  rcases out_cases hs ht (goA q t) with ⟨_, e⟩ | ⟨u, h1, _, _, e⟩
  · rw [e, al_row (by decide), al_row (by decide), lose_row (by decide), lose_row (by decide)]
    simp [kpA, up2]
  · rw [e, ho_row (fun z => absurd z.1 (by decide)) (by decide), ho_row (fun z => absurd z.1 (by decide)) (by decide), lose_row (by decide), lose_row (by decide)]
    simp [kpA, up2]
theorem ph_7 {q : Q2} (h : okR q) : ∀ k, k ≤ 11 → phS q 10 k 7 0 = q 7 0
  | 0, _ => by
    show bringF q 0 (q 7 2) 7 0 = q 7 0
    rw [show bringF q 0 (q 7 2) = hoF q 0 (q 7 2) from bring_ho q (u := 0) (q 7 2) (by decide), ho_row (fun z => absurd z.1 (by decide)) (by decide)]
  | k + 1, hk => (ag_7s (spOk_c h.1.1 (phS_4 q 10 k)) (by omega)).1.trans (ph_7 h k (by omega))
theorem hour_eq {q : Q2} (h : okR q) (hh : inR 99998 (q 7 0)) : hourM q 10 = hourR0 q := by
  have e0 := ph_7 h 11 (Nat.le_refl _)
  unfold hourM hourR0 hourR
  rw [← ph_eq h, e0]
  obtain ⟨n, hn, e⟩ := hh
  rw [e, show (99999 : Int32) = nI 99999 from rfl, show (1 : Int32) = nI 1 from rfl, nI_add, mn_nI (by decide) (by omega), Nat.min_eq_right (by omega)]
