theorem up2_id {q : Q2} {r i : Nat} : up2 q r i (q r i) = q := by
  funext r' i'
  unfold up2 upd
  by_cases h : r' = r
  · subst h
    by_cases e : i' = i
    · subst e; simp
    · simp [e]
  · simp [h]
/-- a house's dry hours, its water kept, what goes -/
def dhA (q : Q2) (j : Nat) : Int32 := if leftF q j < 0 then mn 9999 (q 5 j + 1) else q 5 j
def ktA (q : Q2) (j : Nat) : Int32 := mn (mx 0 (leftF q j)) (keepF (q 0 j) (q 3 j) (q 2 j))
def goA (q : Q2) (j : Nat) : Int32 := mx 0 (leftF q j) - ktA q j
def kpA (q : Q2) (j : Nat) : Q2 := up2 (up2 q 5 j (dhA q j)) 1 j (ktA q j)
def outA (q : Q2) (j : Nat) (v : Int32) : Q2 := bringF (loseF q (mn v (loseK (q 0 j)))) (leadF q j) (v - mn v (loseK (q 0 j)))
theorem mx0_n {l : Int32} (h : l < 0) : mx 0 l = 0 := if_neg (fun z => absurd h (Int32.not_lt.mpr (Int32.le_of_lt z)))
theorem mx0_p {l : Int32} (h : ¬ l < 0) : mx 0 l = l := by
  unfold mx
  by_cases e : 0 < l
  · rw [if_pos e]
  · rw [if_neg e]; exact Int32.le_antisymm (Int32.not_lt.mp h) (Int32.not_lt.mp e)
theorem kpA_0 (q : Q2) (j : Nat) : kpA q j 0 = q 0 := by simp [kpA, up2]
theorem kpA_4 (q : Q2) (j : Nat) : kpA q j 4 = q 4 := by simp [kpA, up2]
theorem step_A (q : Q2) (j : Nat) : stepS q j = outA (kpA q j) j (goA q j) := by
  unfold outA
  rw [kpA_0, leadF_c (kpA_4 q j)]
  by_cases h : leftF q j < 0
  · rw [stepS, if_pos h, stepB]
    have e : kpA q j = up2 (up2 q 5 j (mn 9999 (q 5 j + 1))) 1 j (mn 0 (keepF (q 0 j) (q 3 j) (q 2 j))) := by rw [kpA, dhA, if_pos h, ktA, mx0_n h]
    have g : goA q j = 0 - mn 0 (keepF (q 0 j) (q 3 j) (q 2 j)) := by rw [goA, ktA, mx0_n h]
    rw [e, g]
  · rw [stepS, if_neg h, stepB]
    have e : kpA q j = up2 q 1 j (mn (leftF q j) (keepF (q 0 j) (q 3 j) (q 2 j))) := by rw [kpA, dhA, if_neg h, up2_id, ktA, mx0_p h]
    have g : goA q j = leftF q j - mn (leftF q j) (keepF (q 0 j) (q 3 j) (q 2 j)) := by rw [goA, ktA, mx0_p h]
    rw [e, g]
/-- the same at the house j, and the hour -/
def sm (j : Nat) (q q' : Q2) : Prop := q 0 j = q' 0 j ∧ q 1 j = q' 1 j ∧ q 2 j = q' 2 j ∧ q 3 j = q' 3 j ∧ q 5 j = q' 5 j ∧ q 7 0 = q' 7 0
theorem sm_left {j : Nat} {q q' : Q2} (h : sm j q q') : leftF q j = leftF q' j := by
  obtain ⟨h0, h1, h2, h3, h5, h7⟩ := h
  unfold leftF; rw [h0, h1, h2, h7]
theorem sm_dh {j : Nat} {q q' : Q2} (h : sm j q q') : dhA q j = dhA q' j := by
  unfold dhA; rw [sm_left h, h.2.2.2.2.1]
theorem sm_kt {j : Nat} {q q' : Q2} (h : sm j q q') : ktA q j = ktA q' j := by
  unfold ktA; rw [sm_left h, h.1, h.2.2.1, h.2.2.2.1]
theorem sm_go {j : Nat} {q q' : Q2} (h : sm j q q') : goA q j = goA q' j := by
  unfold goA; rw [sm_left h, sm_kt h]
theorem sm_lose {j : Nat} {q : Q2} {v : Int32} : sm j (loseF q v) q := ⟨lose_row (fun z => absurd z.1 (by decide)), lose_row (fun z => absurd z.1 (by decide)), lose_row (fun z => absurd z.1 (by decide)), lose_row (fun z => absurd z.1 (by decide)), lose_row (fun z => absurd z.1 (by decide)), lose_row (by decide)⟩
theorem sm_al {j : Nat} {q : Q2} {v : Int32} : sm j (alF q v) q := ⟨al_row (fun z => absurd z.1 (by decide)), al_row (fun z => absurd z.1 (by decide)), al_row (fun z => absurd z.1 (by decide)), al_row (fun z => absurd z.1 (by decide)), al_row (fun z => absurd z.1 (by decide)), al_row (by decide)⟩
theorem sm_ho {j u : Nat} {q : Q2} {v : Int32} (hu : j ≠ u) : sm j (hoF q u v) q :=
  ⟨ho_row (fun z => absurd z.1 (by decide)) (fun z => absurd z.1 (by decide)), ho_row (fun z => hu z.2) (fun z => absurd z.1 (by decide)), ho_row (fun z => absurd z.1 (by decide)) (fun z => absurd z.1 (by decide)), ho_row (fun z => absurd z.1 (by decide)) (fun z => absurd z.1 (by decide)), ho_row (fun z => absurd z.1 (by decide)) (fun z => absurd z.1 (by decide)), ho_row (fun z => absurd z.1 (by decide)) (by decide)⟩
theorem kpA_lose {j : Nat} {q : Q2} {v : Int32} : kpA (loseF q v) j = loseF (kpA q j) v := by
  unfold kpA
  rw [sm_dh sm_lose, sm_kt sm_lose, lose_up (fun z => absurd z.1 (by decide)), lose_up (fun z => absurd z.1 (by decide))]
theorem al_up {q : Q2} {r i : Nat} {v w : Int32} (h : ¬ (r = 7 ∧ i = 3)) : alF (up2 q r i v) w = up2 (alF q w) r i v := by
  unfold alF
  rw [up2_c h]
  congr 2
  unfold up2 upd
  by_cases e : (7 : Nat) = r
  · subst e
    rw [if_pos rfl, if_neg (fun z => h ⟨rfl, z.symm⟩)]
  · rw [if_neg e]
theorem kpA_al {j : Nat} {q : Q2} {v : Int32} : kpA (alF q v) j = alF (kpA q j) v := by
  unfold kpA
  rw [sm_dh sm_al, sm_kt sm_al, al_up (fun z => absurd z.1 (by decide)), al_up (fun z => absurd z.1 (by decide))]
theorem ho_up {q : Q2} {r i u : Nat} {v w : Int32} (h : ¬ (r = 7 ∧ i = 4)) (h1 : ¬ (r = 1 ∧ i = u)) : hoF (up2 q r i v) u w = up2 (hoF q u w) r i v := by
  have e : up2 q r i v 1 u = q 1 u := by
    unfold up2 upd
    by_cases e : (1 : Nat) = r
    · subst e
      rw [if_pos rfl, if_neg (fun z => h1 ⟨rfl, z.symm⟩)]
    · rw [if_neg e]
  unfold hoF
  rw [e, up2_c h1, lose_up h]
theorem kpA_ho {j u : Nat} {q : Q2} {v : Int32} (hu : j ≠ u) : kpA (hoF q u v) j = hoF (kpA q j) u v := by
  unfold kpA
  rw [sm_dh (sm_ho hu), sm_kt (sm_ho hu), ho_up (fun z => absurd z.1 (by decide)) (fun z => hu z.2), ho_up (fun z => absurd z.1 (by decide)) (fun z => absurd z.1 (by decide))]
/-- what goes out of a house leads to the alley or to a house below -/
theorem out_cases {q : Q2} (hsp : spOk q) {i : Nat} (hi : i < 11) (v : Int32) : (leadF q i = -1 ∧ outA q i v = alF (loseF q (mn v (loseK (q 0 i)))) (v - mn v (loseK (q 0 i)))) ∨ ∃ u : Nat, u < 11 ∧ i + 1 ≤ u ∧ leadF q i = nI u ∧ outA q i v = hoF (loseF q (mn v (loseK (q 0 i)))) u (v - mn v (loseK (q 0 i))) := by
  rcases lead_up hsp hi (Nat.le_refl i) with h | ⟨u, h1, h2, h3⟩
  · exact Or.inl ⟨h, by rw [outA, h, bring_al]⟩
  · exact Or.inr ⟨u, h1, h2, h3, by rw [outA, h3, bring_ho _ _ h1]⟩
theorem outA_sm {q : Q2} (hsp : spOk q) {i j : Nat} (hi : i < 11) (hj : j ≤ i) (v : Int32) : sm j (outA q i v) q := by
  have t : ∀ {a b c : Q2}, sm j a b → sm j b c → sm j a c := fun h g => ⟨h.1.trans g.1, h.2.1.trans g.2.1, h.2.2.1.trans g.2.2.1, h.2.2.2.1.trans g.2.2.2.1, h.2.2.2.2.1.trans g.2.2.2.2.1, h.2.2.2.2.2.trans g.2.2.2.2.2⟩
  rcases out_cases hsp hi v with ⟨_, e⟩ | ⟨u, h1, h2, _, e⟩
  · rw [e]; exact t sm_al sm_lose
  · rw [e]; exact t (sm_ho (by omega)) sm_lose
theorem kpA_out {q : Q2} (hsp : spOk q) {i j : Nat} (hi : i < 11) (hj : j < i) (v : Int32) : kpA (outA q i v) j = outA (kpA q j) i v := by
  unfold outA
  rw [kpA_0, leadF_c (kpA_4 q j)]
  rcases lead_up hsp hi (Nat.le_refl i) with h | ⟨u, h1, h2, h3⟩
  · rw [h, bring_al, bring_al, kpA_al, kpA_lose]
  · rw [h3, bring_ho _ _ h1, bring_ho _ _ h1, kpA_ho (by omega), kpA_lose]
/-- the houses 10, 9, .. one after another -/
def kpD (q : Q2) : Nat → Q2
  | 0 => q
  | k + 1 => kpA (kpD q k) (10 - k)
def ouD (p : Q2) (v : Nat → Int32) : Nat → Q2
  | 0 => p
  | k + 1 => outA (ouD p v k) (10 - k) (v (10 - k))
theorem outA_4 (q : Q2) (i : Nat) (v : Int32) : outA q i v 4 = q 4 := by unfold outA; rw [bringF_4, loseF_4]
theorem ouD_4 (p : Q2) (v : Nat → Int32) : ∀ k, ouD p v k 4 = p 4
  | 0 => rfl
  | k + 1 => (outA_4 _ _ _).trans (ouD_4 p v k)
theorem kpD_4 (q : Q2) : ∀ k, kpD q k 4 = q 4
  | 0 => rfl
  | k + 1 => (kpA_4 _ _).trans (kpD_4 q k)
theorem sm.rf {j : Nat} {q : Q2} : sm j q q := ⟨rfl, rfl, rfl, rfl, rfl, rfl⟩
theorem sm.tr {j : Nat} {a b c : Q2} (h : sm j a b) (g : sm j b c) : sm j a c := ⟨h.1.trans g.1, h.2.1.trans g.2.1, h.2.2.1.trans g.2.2.1, h.2.2.2.1.trans g.2.2.2.1, h.2.2.2.2.1.trans g.2.2.2.2.1, h.2.2.2.2.2.trans g.2.2.2.2.2⟩
theorem sm_kp {i j : Nat} {q : Q2} (h : j ≠ i) : sm j (kpA q i) q := by
  have e : ∀ r, kpA q i r j = q r j := fun r => by
    unfold kpA up2 upd
    by_cases h1 : r = 1
    · subst h1; simp [h]
    · by_cases h5 : r = 5
      · subst h5; simp [h]
      · simp [h1, h5]
  exact ⟨e 0, e 1, e 2, e 3, e 5, by simp [kpA, up2]⟩
theorem sm_kpD {q : Q2} {j : Nat} : ∀ k, k + j ≤ 10 → sm j (kpD q k) q
  | 0, _ => sm.rf
  | k + 1, h => (sm_kp (by omega)).tr (sm_kpD k (by omega))
theorem sm_ouD {p : Q2} (hsp : spOk p) (v : Nat → Int32) {j : Nat} : ∀ k, k + j ≤ 11 → sm j (ouD p v k) p
  | 0, _ => sm.rf
  | k + 1, h => (outA_sm (spOk_c hsp (ouD_4 p v k)) (by omega) (by omega) _).tr (sm_ouD hsp v k (by omega))
theorem kpA_ouD {p : Q2} (hsp : spOk p) (v : Nat → Int32) {j : Nat} : ∀ k, k + j ≤ 10 → kpA (ouD p v k) j = ouD (kpA p j) v k
  | 0, _ => rfl
  | k + 1, h => by
    rw [ouD, kpA_out (spOk_c hsp (ouD_4 p v k)) (by omega) (by omega), kpA_ouD hsp v k (by omega)]
    rfl
/-- the class's hour: all houses first keep, then all give on -/
theorem phS_eq {q : Q2} (hsp : spOk q) : ∀ k, k ≤ 11 → phS q 10 k = ouD (kpD (bringF q 0 (q 7 2)) k) (goA (bringF q 0 (q 7 2))) k
  | 0, _ => rfl
  | k + 1, h => by
    have hs0 : spOk (bringF q 0 (q 7 2)) := spOk_c hsp (bringF_4 _ _ _)
    have hs : spOk (kpD (bringF q 0 (q 7 2)) k) := spOk_c hs0 (kpD_4 _ k)
    have e : phS q 10 (k + 1) = stepS (phS q 10 k) (10 - k) := rfl
    rw [e, phS_eq hsp k (by omega), step_A, kpA_ouD hs _ k (by omega), sm_go ((sm_ouD hs (goA (bringF q 0 (q 7 2))) (j := 10 - k) k (by omega)).tr (sm_kpD k (by omega)))]
    rfl
/-- who is dry, as the class finds it -/
theorem phD_eq {q : Q2} (hsp : spOk q) : ∀ k, k ≤ 10 → phD q 10 (k + 1) = stepD (bringF q 0 (q 7 2)) (10 - k) (phD q 10 k)
  | k, h => by
    have hs0 : spOk (bringF q 0 (q 7 2)) := spOk_c hsp (bringF_4 _ _ _)
    have hs : spOk (kpD (bringF q 0 (q 7 2)) k) := spOk_c hs0 (kpD_4 _ k)
    have e : phD q 10 (k + 1) = stepD (phS q 10 k) (10 - k) (phD q 10 k) := rfl
    rw [e, phS_eq hsp k (by omega)]
    unfold stepD
    rw [sm_left ((sm_ouD hs (goA (bringF q 0 (q 7 2))) (j := 10 - k) k (by omega)).tr (sm_kpD k (by omega)))]
