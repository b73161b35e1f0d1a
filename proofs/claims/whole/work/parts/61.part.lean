/-- the same houses down to j, the same hour and rain -/
def ag (j : Nat) (q q' : Q2) : Prop := (∀ r, r ≠ 7 → ∀ i, i ≤ j → q r i = q' r i) ∧ q 7 0 = q' 7 0 ∧ q 7 2 = q' 7 2
theorem ag.rf {j : Nat} {q : Q2} : ag j q q := ⟨fun _ _ _ _ => rfl, rfl, rfl⟩
theorem ag.sy {j : Nat} {q q' : Q2} (h : ag j q q') : ag j q' q := ⟨fun r hr i hi => (h.1 r hr i hi).symm, h.2.1.symm, h.2.2.symm⟩
theorem ag.tr {j : Nat} {q q' q'' : Q2} (h : ag j q q') (g : ag j q' q'') : ag j q q'' := ⟨fun r hr i hi => (h.1 r hr i hi).trans (g.1 r hr i hi), h.2.1.trans g.2.1, h.2.2.trans g.2.2⟩
theorem ag_7 {j k : Nat} {q : Q2} {v : Int32} (h0 : k ≠ 0) (h2 : k ≠ 2) : ag j (up2 q 7 k v) q := ⟨fun r hr i _ => by simp [up2, hr], by simp [up2, upd, h0.symm], by simp [up2, upd, h2.symm]⟩
theorem ag_lose {j : Nat} {q : Q2} {v : Int32} : ag j (loseF q v) q := ag_7 (by decide) (by decide)
theorem ag_out {j r i : Nat} {q : Q2} {v : Int32} (hr : r ≠ 7) (hi : j < i) : ag j (up2 q r i v) q := by
  refine ⟨fun r' _ i' hi' => ?_, by simp [up2, hr.symm], by simp [up2, hr.symm]⟩
  unfold up2
  by_cases h : r' = r
  · subst h; rw [if_pos rfl, pk_un (by omega)]
  · rw [if_neg h]
theorem ag_up2 {j r i : Nat} {q q' : Q2} {v v' : Int32} (h : ag j q q') (hr : r ≠ 7) (hv : i ≤ j → v = v') : ag j (up2 q r i v) (up2 q' r i v') := by
  by_cases hi : i ≤ j
  · rw [hv hi]
    refine ⟨fun r' hr' i' hi' => ?_, by simp [up2, hr.symm, h.2.1], by simp [up2, hr.symm, h.2.2]⟩
    unfold up2
    by_cases e : r' = r
    · subst e
      rw [if_pos rfl, if_pos rfl]
      by_cases e2 : i' = i
      · subst e2; rw [pk_us, pk_us]
      · rw [pk_un e2, pk_un e2]; exact h.1 r' hr' i' hi'
    · rw [if_neg e, if_neg e]; exact h.1 r' hr' i' hi'
  · exact (ag_out hr (by omega)).tr (h.tr (ag_out hr (by omega)).sy)
theorem ag_bring {j : Nat} {q q' : Q2} (h : ag j q q') (x v : Int32) : ag j (bringF q x v) (bringF q' x v) := by
  unfold bringF
  split
  · exact (ag_7 (by decide) (by decide)).tr (h.tr (ag_7 (by decide) (by decide)).sy)
  · exact ag_lose.tr ((ag_up2 h (by decide) (fun hi => by rw [h.1 1 (by decide) _ hi])).tr ag_lose.sy)
theorem ag_bring_o {j : Nat} {q : Q2} {x v : Int32} (hx : x = -1 ∨ ∃ u : Nat, u < 11 ∧ j + 1 ≤ u ∧ x = nI u) : ag j (bringF q x v) q := by
  unfold bringF
  split
  · exact ag_7 (by decide) (by decide)
  · next hn =>
    obtain ⟨u, h1, h2, rfl⟩ := hx.resolve_left hn
    rw [nI_clamp (by omega)]
    exact ag_lose.tr (ag_out (by decide) (by omega))
theorem ag_step_o {j t : Nat} {q : Q2} (hsp : spOk q) (ht : t < 11) (hj : j < t) : ag j (stepS q t) q := by
  have hl : leadF q t = -1 ∨ ∃ u : Nat, u < 11 ∧ j + 1 ≤ u ∧ leadF q t = nI u := by
    rcases lead_up hsp ht (Nat.le_refl t) with h | ⟨u, h1, h2, h3⟩
    · exact Or.inl h
    · exact Or.inr ⟨u, h1, by omega, h3⟩
  unfold stepS stepB
  split
  · exact (ag_bring_o hl).tr (ag_lose.tr ((ag_out (by decide) hj).tr (ag_out (by decide) hj)))
  · exact (ag_bring_o hl).tr (ag_lose.tr (ag_out (by decide) hj))
theorem ag_step {j t : Nat} {q q' : Q2} (h : ag j q q') (ht : t ≤ j) : ag j (stepS q t) (stepS q' t) := by
  have e : ∀ r, r ≠ 7 → q r t = q' r t := fun r hr => h.1 r hr t ht
  have hl : leftF q t = leftF q' t := by unfold leftF; rw [e 1 (by decide), e 0 (by decide), e 2 (by decide), h.2.1]
  have hd : leadF q t = leadF q' t := by unfold leadF; rw [e 4 (by decide)]
  have hB : ∀ {p p' : Q2} (_ : ag j p p') (a b c d : Int32), ag j (stepB p t a b c d) (stepB p' t a b c d) := fun g a b c d => ag_bring (ag_lose.tr ((ag_up2 g (by decide) (fun _ => rfl)).tr ag_lose.sy)) _ _
  unfold stepS
  rw [hl, hd, e 0 (by decide), e 2 (by decide), e 3 (by decide), e 5 (by decide)]
  split
  · exact hB (ag_up2 h (by decide) (fun _ => rfl)) _ _ _ _
  · exact hB h _ _ _ _
theorem ag_ph1 {j : Nat} {q : Q2} (hsp : spOk q) (hj : j ≤ 10) : ∀ k, k ≤ 10 - j → ag j (phS q 10 k) (phS q 10 0)
  | 0, _ => ag.rf
  | k + 1, hk => (ag_step_o (spOk_c hsp (phS_4 q 10 k)) (by omega) (by omega)).tr (ag_ph1 hsp hj k (by omega))
theorem ag_ph2 {j : Nat} {q q' : Q2} (h : ag j q q') (hsp : spOk q) (hj : j ≤ 10) : ∀ k, k ≤ j + 1 → ag j (phS q 10 (10 - j + k)) (phS q' j k)
  | 0, _ => by
    refine (ag_ph1 hsp hj _ (Nat.le_refl _)).tr ?_
    show ag j (bringF q 0 (q 7 2)) (bringF q' 0 (q' 7 2))
    rw [h.2.2]
    exact ag_bring h _ _
  | k + 1, hk => by
    show ag j (stepS (phS q 10 (10 - j + k)) (10 - (10 - j + k))) (stepS (phS q' j k) (j - k))
    rw [show 10 - (10 - j + k) = j - k by omega]
    exact ag_step (ag_ph2 h hsp hj k (by omega)) (by omega)
theorem ag_hour {j : Nat} {q q' : Q2} (h : ag j q q') (hsp : spOk q) (hj : j ≤ 10) : ag j (hourM q 10) (hourM q' j) := by
  have g := ag_ph2 h hsp hj (j + 1) (Nat.le_refl _)
  rw [show 10 - j + (j + 1) = 11 by omega] at g
  refine ⟨fun r hr i hi => ?_, ?_, ?_⟩
  · simp only [hourM, up2, if_neg hr]; exact g.1 r hr i hi
  · simp only [hourM]; rw [up2_s, up2_s, g.2.1]
  · simp only [hourM]; rw [up2_d (by decide), up2_d (by decide)]; exact g.2.2
theorem ag_hours {j : Nat} {q q' : Q2} (h : ag j q q') (hsp : spOk q) (hj : j ≤ 10) : ∀ n, ag j (hoursM q 10 n) (hoursM q' j n)
  | 0 => h
  | n + 1 => ag_hour (ag_hours h hsp hj n) (spOk_c hsp (hoursM_4 q 10 n)) hj
