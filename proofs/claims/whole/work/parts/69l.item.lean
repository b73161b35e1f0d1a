section RTI
variable {c : Int32} {S f : Nat → Int32} {n s : Nat} {q y : Q3}
theorem W_sn (h : RT c S f n s q y) {i : Nat} (w : isW q i = true) : s < n := by
  have k := (of_decide_eq_true w).1
  rw [h.2.2.2.1.2.2.1] at k
  unfold tokK at k
  by_cases d : n ≤ s
  · rw [if_pos d] at k; exact absurd k (by decide)
  · omega
theorem kw_sn (h : RT c S f n s q y) (k : ¬ kwF q < 0) : s < n := by
  by_cases d : s < n
  · exact d
  · refine absurd ?_ k
    have no : ∀ i, ¬ isW q i = true := fun i z => d (W_sn h z)
    unfold kwF
    rw [if_neg (no 7), if_neg (no 1), if_neg (no 2), if_neg (no 3), if_neg (no 4), if_neg (no 5), if_neg (no 6)]
    decide
theorem kwF_in (q : Q3) (h : ¬ kwF q < 0) : ∃ k : Nat, k < 7 ∧ kwF q = nI k := by
  unfold kwF at h ⊢
  by_cases a0 : isW q 7 = true
  · rw [if_pos a0]; exact ⟨0, by decide, rfl⟩
  · rw [if_neg a0] at h ⊢
    by_cases a1 : isW q 1 = true
    · rw [if_pos a1]; exact ⟨1, by decide, rfl⟩
    · rw [if_neg a1] at h ⊢
      by_cases a2 : isW q 2 = true
      · rw [if_pos a2]; exact ⟨2, by decide, rfl⟩
      · rw [if_neg a2] at h ⊢
        by_cases a3 : isW q 3 = true
        · rw [if_pos a3]; exact ⟨3, by decide, rfl⟩
        · rw [if_neg a3] at h ⊢
          by_cases a4 : isW q 4 = true
          · rw [if_pos a4]; exact ⟨4, by decide, rfl⟩
          · rw [if_neg a4] at h ⊢
            by_cases a5 : isW q 5 = true
            · rw [if_pos a5]; exact ⟨5, by decide, rfl⟩
            · rw [if_neg a5] at h ⊢
              by_cases a6 : isW q 6 = true
              · rw [if_pos a6]; exact ⟨6, by decide, rfl⟩
              · rw [if_neg a6] at h; exact absurd (by decide) h
theorem bf {b : Bool} (h : ¬ b = true) : b = false := by
  cases b with
  | false => rfl
  | true => exact absurd rfl h
theorem itX_r {y : Q3} (h : kwM y < 0) : itX y = (if nrX (mustX y (isWM y 25)) 999 6 1 2 = 0 then setQ (nrX (mustX y (isWM y 25)) 999) 7 2 (numV (mustX y (isWM y 25))) else nrX (mustX y (isWM y 25)) 999) := if_pos h
theorem itX_k {y : Q3} (h : ¬ kwM y < 0) : itX y = htX y (kwM y) := if_neg h
/-- an item: on both sides the same, or a fault at the same place -/
theorem RT_it (h : RT c S f n s q y) : (riB q = true ∧ ∃ s', s + 1 ≤ s' ∧ RT c S f n s' (riX q) (itX y)) ∨ (riB q = false ∧ BD (riX q) (itX y)) := by
  have hn := h.1.1
  have k1 := RT_next h
  have y2 := RT_y2 h
  have z2 := RT_y2 k1
  have hW := RT_W h (i := 0) (i' := 25) rfl (by decide) (by decide)
  have bad1 : BD (nextX q) (up3 (nextMX y) 6 1 2 1) := RT_bad k1
  have n1 : ¬ up3 (nextMX y) 6 1 2 1 6 1 2 = 0 := by show ¬ (1 : Int32) = 0; decide
  unfold riB riX
  by_cases d : isW q 0 = true
  · have sn := W_sn h d
    have gt := tokE_gt (f := f) sn hn
    have d' : isWM y 25 = true := hW ▸ d
    obtain ⟨e, g⟩ := RT_N k1 (m := 999) (by decide)
    have e : isN (nextX q) 999 = inM (numV (nextMX y)) 999 := e
    have g : isN (nextX q) 999 = true → nextX q 6 1 3 = numV (nextMX y) ∧ ∃ v : Nat, v ≤ 999 ∧ numV (nextMX y) = nI v := g
    rw [if_pos d, if_pos d]
    unfold rrB rrX
    rw [itX_r (by rw [kw_rain d']; decide), d', must_t y2]
    unfold nrX
    by_cases d2 : isN (nextX q) 999 = true
    · obtain ⟨g1, v, hv', g2⟩ := g d2
      have k2 := RT_next (RT_rain k1 (v := nI v) ⟨v, hv', rfl⟩)
      rw [next_set] at k2
      rw [if_pos d2, ← e, d2, must_t z2, if_pos (RT_y2 (RT_next k1)), g1, g2]
      have l1 : tokE f n s ≤ tokS f n (tokE f n s) := endF_ge
      have l2 : tokS f n (tokE f n s) ≤ tokE f n (tokS f n (tokE f n s)) := tokE_ge
      have l3 : tokE f n (tokS f n (tokE f n s)) ≤ tokS f n (tokE f n (tokS f n (tokE f n s))) := endF_ge
      exact Or.inl ⟨rfl, _, by omega, k2⟩
    · rw [if_neg d2, ← e, bf d2, must_f, if_neg n1]
      exact Or.inr ⟨rfl, bad1⟩
  · have d' : isWM y 25 = false := hW ▸ bf d
    rw [if_neg d, if_neg d]
    by_cases kn : kwF q < 0
    · rw [if_pos kn, if_pos kn]
      have b0 := RT_bad h
      have n0 : ¬ up3 y 6 1 2 1 6 1 2 = 0 := b0.1
      have n2 : ¬ up3 (up3 y 6 1 2 1) 6 1 2 1 6 1 2 = 0 := by show ¬ (1 : Int32) = 0; decide
      rw [itX_r (by rw [← kw_eq h]; exact kn), d', must_f]
      unfold nrX
      rw [must_bad n0, if_neg n2]
      exact Or.inr ⟨rfl, n2, b0.2⟩
    · have sn := kw_sn h kn
      have gt := tokE_gt (f := f) sn hn
      obtain ⟨k, hk, ek⟩ := kwF_in q kn
      obtain ⟨e, g⟩ := RT_N k1 (m := 10) (by decide)
      have e : isN (nextX q) 10 = inM (numV (nextMX y)) 10 := e
      have g : isN (nextX q) 10 = true → nextX q 6 1 3 = numV (nextMX y) ∧ ∃ v : Nat, v ≤ 10 ∧ numV (nextMX y) = nI v := g
      rw [if_neg kn, if_neg kn]
      rw [itX_k (by rw [← kw_eq h]; exact kn), ← kw_eq h]
      unfold htX
      rw [must_t y2]
      unfold nrX
      by_cases d2 : isN (nextX q) 10 = true
      · obtain ⟨g1, v, hv', g2⟩ := g d2
        have nn : numN q = v := by unfold numN; rw [g1, g2, nI_clamp (by omega)]
        have k2 := RT_next (RT_set k1 (w := 0) (j := v) (v := nI k) (by decide) (vOk_0 hk))
        rw [next_set] at k2
        rw [if_pos d2, if_pos d2, ← e, d2, must_t z2, if_pos (RT_y2 (RT_next k1)), g2, nI_clamp (by omega), nn, ek]
        have ra : riA q v = nextX (up3 (nextX q) 0 0 v (nI k)) := by unfold riA; rw [ek]
        rw [ra]
        have l1 : tokE f n s ≤ tokS f n (tokE f n s) := endF_ge
        have l2 : tokS f n (tokE f n s) ≤ tokE f n (tokS f n (tokE f n s)) := tokE_ge
        have l3 : tokE f n (tokS f n (tokE f n s)) ≤ tokS f n (tokE f n (tokS f n (tokE f n s))) := endF_ge
        rcases RT_rip k2 v with ⟨a, s', b, c'⟩ | a
        · exact Or.inl ⟨a, s', by omega, c'⟩
        · exact Or.inr a
      · rw [if_neg d2, if_neg d2, ← e, bf d2, must_f, if_neg n1]
        exact Or.inr ⟨rfl, bad1⟩
theorem tlF_f : ∀ f q m, tlF f false q m = (false, q, m)
  | 0, _, _ => rfl
  | f + 1, q, m => by rw [tlF, if_neg (fun z => absurd z.1 (by decide))]
theorem tlF_n {q : Q3} (h : ¬ q 6 1 2 = 3) (b : Bool) : ∀ f m, tlF f b q m = (b, q, m)
  | 0, _ => rfl
  | f + 1, m => by rw [tlF, if_neg (fun z => h z.2)]
/-- what both sides end in -/
def RE (c : Int32) (S : Nat → Int32) (t : Bool × Q3 × Nat) (t' : Q3 × Nat) : Prop :=
  (∃ k : Nat, 1 ≤ k ∧ k ≤ 120 ∧ (t.1 = true ∧ t.2.1 6 1 2 = 0 ∧ t.2.2 = k) ∧ (t'.1 6 1 2 = 0 ∧ t'.2 = k) ∧ t.2.1 0 = t'.1 0 ∧ kpQ c S (t.2.1 0)) ∨ (¬ (t.1 = true ∧ t.2.1 6 1 2 = 0) ∧ BD t.2.1 t'.1)
theorem RE_bad {q y : Q3} (h : BD q y) (F F' m m' : Nat) : RE c S (tlF F false q m) (tmF F' y m') := by
  rw [tlF_f, tmF_end (fun z => h.1 z.1)]
  exact Or.inr ⟨fun z => absurd (show false = true from z.1) (by decide), h⟩
theorem tokK_ne {f : Nat → Int32} {n s : Nat} (h : s < n) : ¬ tokK f n s = 0 := by
  unfold tokK
  rw [if_neg (by omega)]
  split
  · decide
  · split
    · decide
    · split <;> decide
theorem tokK_3 {f : Nat → Int32} {n s : Nat} (h : tokK f n s = 3) : s < n ∧ tokE f n s = s + 1 ∧ f s = 59 := by
  unfold tokK at h
  by_cases a : n ≤ s
  · rw [if_pos a] at h; exact absurd h (by decide)
  · rw [if_neg a] at h
    by_cases b : bet f n 97 122 s = true
    · rw [if_pos b] at h; exact absurd h (by decide)
    · rw [if_neg b] at h
      by_cases d : bet f n 48 57 s = true
      · rw [if_pos d] at h; exact absurd h (by decide)
      · rw [if_neg d] at h
        by_cases e : f s = 59
        · refine ⟨by omega, ?_, e⟩
          unfold tokE
          rw [if_neg b, if_neg d, if_pos (by omega)]
        · rw [if_neg e] at h; exact absurd h (by decide)
theorem RT_end (h : RT c S f n s q y) (sn : ¬ s < n) {m : Nat} (m1 : 1 ≤ m) (ms : m ≤ s) (F F' : Nat) : RE c S (tlF F true q m) (tmF F' y m) := by
  obtain ⟨⟨h1, h2⟩, ⟨_, h4⟩, ⟨_, h6⟩, ⟨_, _, a3, _⟩, ⟨b1, _, b3⟩, h0, hk⟩ := h
  have k0 : tokK f n s = 0 := if_pos (show n ≤ s by omega)
  have nq : ¬ q 6 1 2 = 3 := by rw [a3, k0]; decide
  rw [tlF_n nq, tmF_end (fun z => by have z2 := z.2; rw [b1, h6, nI_clamp (by omega), nI_clamp (by omega)] at z2; omega)]
  exact Or.inl ⟨m, m1, by omega, ⟨rfl, a3.trans k0, rfl⟩, ⟨b3, rfl⟩, h0, hk⟩
theorem RT_loop : ∀ (F F' m s : Nat) (q y : Q3), RT c S f n s q y → 1 ≤ m → m ≤ s → 120 ≤ F + m → n < F' + s → RE c S (tlF F true q m) (tmF F' y m)
  | 0, F', m, s, q, y, h, m1, ms, hF, hF' => RT_end h (by have := h.1; omega) m1 ms 0 F'
  | F + 1, 0, m, s, q, y, h, m1, ms, hF, hF' => absurd hF' (by have := h.1; omega)
  | F + 1, G + 1, m, s, q, y, h, m1, ms, hF, hF' => by
    by_cases sn : s < n
    · have hh := h
      obtain ⟨⟨h1, h2⟩, ⟨h3, h4⟩, ⟨h5, h6⟩, ⟨a1, a2, a3, _⟩, ⟨b1, b2, b3⟩, h0, hk⟩ := h
      have cond : y 6 1 2 = 0 ∧ (y 6 1 0).toNatClampNeg < (y 7 1 0).toNatClampNeg := ⟨b3, by rw [b1, h6, nI_clamp (by omega), nI_clamp (by omega)]; exact sn⟩
      have iff := isWM_iff (i := 26) h1 b1 b2 tokE_ge (tokE_le h2)
      rw [tmF, if_pos cond]
      by_cases k3 : tokK f n s = 3
      · obtain ⟨_, ee, ch⟩ := tokK_3 k3
        have w : isWM y 26 = true := iff.mpr ⟨b3, by rw [ee]; show s + 1 - s = 1; omega, fun j hj => by
          have j0 : j = 0 := by have : j < 1 := hj; omega
          rw [j0, Nat.add_zero, h5, ch]; rfl⟩
        rw [tlF, if_pos ⟨rfl, a3.trans k3⟩, w, must_t b3]
        have k1 := RT_next hh
        have l : tokE f n s ≤ tokS f n (tokE f n s) := endF_ge
        rcases RT_it k1 with ⟨e, s', l', k'⟩ | ⟨e, k'⟩
        · rw [e]
          exact RT_loop F G (m + 1) s' _ _ k' (by omega) (by omega) (by omega) (by omega)
        · rw [e]
          exact RE_bad k' F G (m + 1) (m + 1)
      · have nq : ¬ q 6 1 2 = 3 := by rw [a3]; exact k3
        have w : isWM y 26 = false := bf (fun z => k3 (by
          obtain ⟨_, _, ch⟩ := iff.mp z
          have c0 := ch 0 (by decide)
          rw [Nat.add_zero, h5] at c0
          have c0 : f s = 59 := c0
          unfold tokK
          rw [if_neg (by omega), if_neg (bet_f (fun u => by rw [c0] at u; exact absurd u.2.1 (by decide))), if_neg (bet_f (fun u => by rw [c0] at u; exact absurd u.2.2 (by decide))), if_pos c0]))
        have rb := RT_bad hh
        obtain ⟨i1, i2⟩ := bad_it rb.1
        rw [tlF_n nq, w, must_f, tmF_end (fun z => i1 z.1)]
        exact Or.inr ⟨fun z => tokK_ne (f := f) sn (a3.symm.trans z.2), i1, rb.2.1.trans i2.symm, s, by omega, i2.trans b1⟩
    · exact RT_end h sn m1 ms _ _
end RTI
theorem neg_z : ∀ z, z < 121 → (-1 : Int32) - nI z ≤ 0 := by decide +kernel
/-- text() on both sides -/
theorem text_eq {x y : Q3} {n : Nat} (hn : x 7 1 0 = nI n) (hn2 : n ≤ 120) (h0 : x 0 = y 0) (h7 : x 7 = y 7) (hk : okR (x 0)) : tlR (tl0 (tqX (upG x 2 (x 0)))) = tmR (tmT y) ∧ (if tlR (tl0 (tqX (upG x 2 (x 0)))) ≤ 0 then x 0 else (tl0 (tqX (upG x 2 (x 0)))).2.1 0) = (if (tmT y).1 6 1 2 = 0 then (tmT y).1 0 else y 0) ∧ kpQ (x 0 7 0) (x 0 6) (if (tmT y).1 6 1 2 = 0 then (tmT y).1 0 else y 0) := by
  have r : RE (x 0 7 0) (x 0 6) (tl0 (tqX (upG x 2 (x 0)))) (tmT y) := by
    have st : RT (x 0 7 0) (x 0 6) (x 7 0) n (tokS (x 7 0) n 0) (nextX (up3 (tqX (upG x 2 (x 0))) 6 1 1 0)) (tm0 y) := RT_go hn2 (Nat.zero_le n) rfl hn (by show y 7 0 = x 7 0; rw [h7]) (by show y 7 1 0 = nI n; rw [← h7]; exact hn) rfl rfl rfl h0 ⟨hk, rfl, rfl⟩
    unfold tl0 tmT
    rcases RT_it st with ⟨e, s', l, k⟩ | ⟨e, k⟩
    · rw [e]
      exact RT_loop 119 130 1 s' _ _ k (Nat.le_refl _) (by omega) (by omega) (by omega)
    · rw [e]
      exact RE_bad k 119 130 1 1
  generalize tl0 (tqX (upG x 2 (x 0))) = t at *
  generalize tmT y = t' at *
  rcases r with ⟨k, k1, k2, ⟨t1, t2, t3⟩, ⟨u1, u2⟩, z0, zk⟩ | ⟨nt, nb, e, z, hz, ez⟩
  · have e1 : tlR t = nI k := by unfold tlR; rw [if_pos ⟨t1, t2⟩, t3]
    have e2 : tmR t' = nI k := by unfold tmR; rw [if_pos u1, u2]
    have ng : ¬ nI k ≤ 0 := fun w => by
      have := cmp_le (a := k) (b := 0) (by omega) (by decide) w
      omega
    rw [e1, e2, if_neg ng, if_pos u1, ← z0]
    exact ⟨rfl, rfl, zk⟩
  · have e1 : tlR t = -1 - nI z := by unfold tlR; rw [if_neg nt, e, ez]
    have e2 : tmR t' = -1 - nI z := by unfold tmR; rw [if_neg nb, ez]
    rw [e1, e2, if_pos (neg_z z (by omega)), if_neg nb]
    exact ⟨rfl, h0, by rw [← h0]; exact ⟨hk, rfl, rfl⟩⟩
