/-- what is read into: in its ranges, with this hour and these spots -/
def kpQ (c : Int32) (S : Nat → Int32) (p : Q2) : Prop := okR p ∧ p 7 0 = c ∧ p 6 = S
/-- the class's reader q and the reference's y stand at the same token of the same tape -/
def RT (c : Int32) (S : Nat → Int32) (f : Nat → Int32) (n s : Nat) (q y : Q3) : Prop :=
  (n ≤ 120 ∧ s ≤ n) ∧ (q 7 0 = f ∧ q 7 1 0 = nI n) ∧ (y 7 0 = f ∧ y 7 1 0 = nI n) ∧ (q 6 1 0 = nI s ∧ q 6 1 1 = nI (tokE f n s) ∧ q 6 1 2 = tokK f n s ∧ (tokK f n s = 2 → q 6 1 3 = numF f s (tokE f n s - s))) ∧ (y 6 1 0 = nI s ∧ y 6 1 1 = nI (tokE f n s) ∧ y 6 1 2 = 0) ∧ q 0 = y 0 ∧ kpQ c S (q 0)
theorem RT_go {c : Int32} {S f : Nat → Int32} {n e : Nat} {q y : Q3} (h1 : n ≤ 120) (h2 : e ≤ n) (h3 : q 7 0 = f) (h4 : q 7 1 0 = nI n) (h5 : y 7 0 = f) (h6 : y 7 1 0 = nI n) (h7 : q 6 1 1 = nI e) (h8 : y 6 1 1 = nI e) (h9 : y 6 1 2 = 0) (h0 : q 0 = y 0) (hk : kpQ c S (q 0)) : RT c S f n (tokS f n e) (nextX q) (nextMX y) := by
  subst h3
  rw [← nextX_eq h4 h1 h7 h2 rfl rfl rfl rfl, ← nextM_eq (s := tokS (q 7 0) n e) (e' := tokE (q 7 0) n (tokS (q 7 0) n e)) h6 h1 h8 h2 (by rw [h5]) (by rw [h5])]
  exact ⟨⟨h1, tokS_le h2⟩, ⟨rfl, h4⟩, ⟨h5, h6⟩, ⟨rfl, rfl, rfl, fun z => if_pos z⟩, ⟨rfl, rfl, h9⟩, h0, hk⟩
section RTS
variable {c : Int32} {S f : Nat → Int32} {n s : Nat} {q y : Q3}
theorem RT_next (h : RT c S f n s q y) : RT c S f n (tokS f n (tokE f n s)) (nextX q) (nextMX y) := by
  obtain ⟨⟨h1, h2⟩, ⟨h3, h4⟩, ⟨h5, h6⟩, ⟨_, a2, _, _⟩, ⟨_, b2, b3⟩, h0, hk⟩ := h
  exact RT_go h1 (tokE_le h2) h3 h4 h5 h6 a2 b2 b3 h0 hk
theorem RT_set (h : RT c S f n s q y) {w j : Nat} {v : Int32} (hw : w < 6) (hv : vOk w v) : RT c S f n s (up3 q 0 w j v) (setQ y w j v) := by
  obtain ⟨h1, h2, h3, h4, h5, h0, ⟨k1, k2, k3⟩⟩ := h
  refine ⟨h1, h2, h3, h4, h5, ?_, ?_⟩
  · show up2 (q 0) w j v = up2 (y 0) w j v
    rw [h0]
  · show kpQ c S (up2 (q 0) w j v)
    exact ⟨okR_up k1 (by omega) hv, by rw [up2_n _ _ _ (by omega)]; exact k2, by rw [up2_n _ _ _ (by omega)]; exact k3⟩
theorem RT_rain (h : RT c S f n s q y) {v : Int32} (hv : inR 999 v) : RT c S f n s (up3 q 0 7 2 v) (setQ y 7 2 v) := by
  obtain ⟨h1, h2, h3, h4, h5, h0, ⟨k1, k2, k3⟩⟩ := h
  refine ⟨h1, h2, h3, h4, h5, ?_, ?_⟩
  · show up2 (q 0) 7 2 v = up2 (y 0) 7 2 v
    rw [h0]
  · show kpQ c S (up2 (q 0) 7 2 v)
    exact ⟨okR_72 k1 hv, by rw [up2_sn _ _ _ (by decide)]; exact k2, by rw [up2_n _ _ _ (by decide)]; exact k3⟩
theorem next_set (y : Q3) (w j : Nat) (v : Int32) : nextMX (setQ y w j v) = setQ (nextMX y) w j v := by
  funext g
  unfold setQ
  by_cases e : g = 0
  · subst e; rfl
  · by_cases d : g = 6
    · subst d; rfl
    · simp [nextMX, upG, e, d]
theorem tokE_gt (h : s < n) (hn : n ≤ 120) : s + 1 ≤ tokE f n s := by
  unfold tokE
  split
  · next z => rw [endF_t (by omega) z]; exact endF_ge
  · split
    · next z => rw [endF_t (by omega) z]; exact endF_ge
    · exact Nat.le_refl _
theorem RT_W (h : RT c S f n s q y) {i i' : Nat} (hb : byS i = byS i') (hl : 0 < (byS i').length) (h97 : 97 ≤ (byS i').getD 0 0 ∧ (byS i').getD 0 0 ≤ 122) : isW q i = isWM y i' := by
  obtain ⟨⟨h1, h2⟩, ⟨h3, h4⟩, ⟨h5, h6⟩, ⟨a1, a2, a3, _⟩, ⟨b1, b2, b3⟩, h0, hk⟩ := h
  rw [Bool.eq_iff_iff, isW_iff h1 a1 a2 tokE_ge (tokE_le h2), isWM_iff h1 b1 b2 tokE_ge (tokE_le h2), hb, h3, h5, a3]
  constructor
  · intro z; exact ⟨b3, z.2⟩
  · intro z
    refine ⟨?_, z.2⟩
    have sn : s < n := by
      have := z.2.1
      have := tokE_le (f := f) h2
      omega
    have c0 := z.2.2 0 hl
    rw [Nat.add_zero] at c0
    unfold tokK
    rw [if_neg (by omega), if_pos (bet_t ⟨sn, by rw [c0]; exact h97⟩)]
theorem WM_uni {i i' : Nat} (h : isWM y i = true) (h' : isWM y i' = true) (hl : 0 < (byS i).length ∧ 0 < (byS i').length) : (byS i).length = (byS i').length ∧ (byS i).getD 0 0 = (byS i').getD 0 0 := by
  have a := of_decide_eq_true h
  have b := of_decide_eq_true h'
  exact ⟨a.2.1.symm.trans b.2.1, (a.2.2 0 hl.1).symm.trans (b.2.2 0 hl.2)⟩
theorem kw_eq (h : RT c S f n s q y) : kwF q = kwM y := by
  unfold kwF kwM
  rw [RT_W h (i := 7) (i' := 13) rfl (by decide) (by decide), RT_W h (i := 1) (i' := 14) rfl (by decide) (by decide), RT_W h (i := 2) (i' := 15) rfl (by decide) (by decide), RT_W h (i := 3) (i' := 16) rfl (by decide) (by decide), RT_W h (i := 4) (i' := 17) rfl (by decide) (by decide), RT_W h (i := 5) (i' := 18) rfl (by decide) (by decide), RT_W h (i := 6) (i' := 19) rfl (by decide) (by decide)]
theorem kw_rain (h : isWM y 25 = true) : kwM y = -1 := by
  have ne : ∀ i, (byS i).length ≠ 4 ∨ (byS i).getD 0 0 ≠ 114 → 0 < (byS i).length → ¬ isWM y i = true := by
    intro i hi hl z
    obtain ⟨a, b⟩ := WM_uni z h ⟨hl, by decide⟩
    rcases hi with d | d
    · exact d a
    · exact d b
  unfold kwM
  rw [if_neg (ne 13 (by decide) (by decide)), if_neg (ne 14 (by decide) (by decide)), if_neg (ne 15 (by decide) (by decide)), if_neg (ne 16 (by decide) (by decide)), if_neg (ne 17 (by decide) (by decide)), if_neg (ne 18 (by decide) (by decide)), if_neg (ne 19 (by decide) (by decide))]
/-- a number read on both sides: the same, or both too great -/
def nrel (a v : Int32) : Prop := (∃ x : Nat, x ≤ 9999 ∧ a = nI x ∧ v = nI x) ∨ (a = 10000 ∧ ∃ x : Nat, 9999 < x ∧ x ≤ 99999 ∧ v = nI x)
theorem dig_in {v : Int32} (h : 48 ≤ v ∧ v ≤ 57) : ∃ d : Nat, 48 ≤ d ∧ d ≤ 57 ∧ v = nI d := by
  obtain ⟨d, hd, rfl⟩ := inU_of (n := 57) rfl (x := v) ⟨Int32.le_trans (by decide) h.1, h.2⟩
  exact ⟨d, cmp_le (a := 48) (by decide) (by omega) h.1, hd, rfl⟩
theorem nrel_step {a v d : Int32} (h : nrel a v) (hd : 48 ≤ d ∧ d ≤ 57) : nrel (mn 10000 (a * 10 + d - 48)) (if 9999 < v then v else 10 * v + d - 48) := by
  obtain ⟨d, d1, d2, rfl⟩ := dig_in hd
  rcases h with ⟨x, hx, rfl, rfl⟩ | ⟨rfl, x, hx, hx2, rfl⟩
  · have e1 : nI x * 10 + nI d - 48 = nI (x * 10 + (d - 48)) := by
      rw [show (10 : Int32) = nI 10 from rfl, pk_mul, nI_add, show (48 : Int32) = nI 48 from rfl, pk_sub (by omega)]
      exact congrArg nI (by omega)
    have e2 : 10 * nI x + nI d - 48 = nI (x * 10 + (d - 48)) := by
      rw [show (10 : Int32) = nI 10 from rfl, pk_mul, nI_add, show (48 : Int32) = nI 48 from rfl, pk_sub (by omega)]
      exact congrArg nI (by omega)
    have ng : ¬ (9999 : Int32) < nI x := fun z => by
      have := cmp_lt (a := 9999) (b := x) (by decide) (by omega) z
      omega
    rw [e1, if_neg ng, e2, show (10000 : Int32) = nI 10000 from rfl, mn_nI (by decide) (by omega)]
    by_cases c1 : x * 10 + (d - 48) ≤ 9999
    · exact Or.inl ⟨x * 10 + (d - 48), c1, congrArg nI (by omega), rfl⟩
    · exact Or.inr ⟨(congrArg nI (show min 10000 (x * 10 + (d - 48)) = 10000 by omega)), x * 10 + (d - 48), by omega, by omega, rfl⟩
  · have e1 : (10000 : Int32) * 10 + nI d - 48 = nI (100000 + (d - 48)) := by
      rw [show (10000 : Int32) * 10 = nI 100000 from by decide, nI_add, show (48 : Int32) = nI 48 from rfl, pk_sub (by omega)]
      exact congrArg nI (by omega)
    have g : (9999 : Int32) < nI x := (nI_ltI (a := 9999) (b := x) (by decide) (by omega)).mpr hx
    rw [e1, if_pos g, show (10000 : Int32) = nI 10000 from rfl, mn_nI (by decide) (by omega)]
    exact Or.inr ⟨congrArg nI (show min 10000 (100000 + (d - 48)) = 10000 by omega), x, hx, hx2, rfl⟩
theorem nrel_nn {a v : Int32} (h : nrel a v) : ¬ v < 0 := by
  rcases h with ⟨x, hx, _, rfl⟩ | ⟨_, x, _, hx, rfl⟩ <;> exact nI_pos (by omega)
theorem nrel_lp : ∀ r i v, nrel (numF f s i) v → (∀ k, i ≤ k → k < i + r → 48 ≤ f (s + k) ∧ f (s + k) ≤ 57) → nrel (numF f s (i + r)) (numLp f r (s + i) v)
  | 0, i, v, h, _ => h
  | r + 1, i, v, h, hd => by
    rw [numLp, if_neg (nrel_nn h), show i + (r + 1) = (i + 1) + r by omega, show s + i + 1 = s + (i + 1) by omega]
    refine nrel_lp r (i + 1) _ ?_ (fun k h1 h2 => hd k (by omega) (by omega))
    rw [numF]
    exact nrel_step h (hd i (Nat.le_refl _) (by omega))
theorem numLp_neg : ∀ r k, numLp f r k (-1) = -1
  | 0, _ => rfl
  | r + 1, k => by rw [numLp, if_pos (by decide)]
theorem RT_N (h : RT c S f n s q y) {m : Nat} (hm : m ≤ 9999) : isN q (nI m) = inM (numV y) (nI m) ∧ (isN q (nI m) = true → q 6 1 3 = numV y ∧ ∃ v : Nat, v ≤ m ∧ numV y = nI v) := by
  obtain ⟨⟨h1, h2⟩, ⟨h3, h4⟩, ⟨h5, h6⟩, ⟨a1, a2, a3, a4⟩, ⟨b1, b2, b3⟩, h0, hk⟩ := h
  have le := tokE_le (f := f) h2
  have e : numV y = numLp f (tokE f n s - s) s (if bet f n 48 57 s then 0 else -1) := by
    unfold numV
    rw [b1, b2, h5, h6, nI_clamp (by omega), nI_clamp (by omega), nI_clamp (by omega)]
  by_cases dg : bet f n 48 57 s = true
  · have nl : ¬ bet f n 97 122 s = true := fun z => bet_x z dg
    have sn := bet_lt dg
    have k2 : tokK f n s = 2 := by
      unfold tokK
      rw [if_neg (by omega), if_neg nl, if_pos dg]
    have ee : tokE f n s = endF (bet f n 48 57) s := by unfold tokE; rw [if_neg nl, if_pos dg]
    have r : nrel (numF f s (tokE f n s - s)) (numV y) := by
      rw [e, if_pos dg]
      have g := nrel_lp (f := f) (s := s) (tokE f n s - s) 0 0 (Or.inl ⟨0, by decide, rfl, rfl⟩) (fun k _ hk => by
        have := endF_all (p := bet f n 48 57) (i := s) (j := s + k) (by omega) (by rw [← ee]; omega)
        exact (of_decide_eq_true this).2)
      rw [Nat.zero_add, Nat.add_zero] at g
      exact g
    have a5 := a4 k2
    rw [← a5] at r
    unfold isN inM
    rw [a3, k2]
    rcases r with ⟨x, hx, e1, e2⟩ | ⟨e1, x, hx, hx2, e2⟩
    · rw [e1, e2]
      refine ⟨?_, fun z => ⟨rfl, x, cmp_le (by omega) (by omega) (of_decide_eq_true z).2, rfl⟩⟩
      rw [decide_eq_decide]
      exact ⟨fun z => ⟨nI_pos' (by omega), z.2⟩, fun z => ⟨rfl, z.2⟩⟩
    · rw [e1, e2]
      have no1 : ¬ (10000 : Int32) ≤ nI m := fun z => by
        have := cmp_le (a := 10000) (b := m) (by decide) (by omega) z
        omega
      have no2 : ¬ nI x ≤ nI m := fun z => by
        have := cmp_le (by omega) (by omega) z
        omega
      refine ⟨?_, fun z => absurd (of_decide_eq_true z).2 no1⟩
      rw [decide_eq_decide]
      exact ⟨fun z => absurd z.2 no1, fun z => absurd z.2 no2⟩
  · have nk : ¬ tokK f n s = 2 := fun z => dg (tokK_2 z).2
    have e2 : numV y = -1 := by rw [e, if_neg dg]; exact numLp_neg _ _
    unfold isN inM
    rw [a3, e2]
    refine ⟨?_, fun z => absurd (of_decide_eq_true z).1 nk⟩
    rw [decide_eq_decide]
    exact ⟨fun z => absurd z.1 nk, fun z => absurd z.1 (by decide)⟩
/-- a fault: both stand at its place -/
def BD (q y : Q3) : Prop := ¬ y 6 1 2 = 0 ∧ q 6 1 0 = y 6 1 0 ∧ ∃ z : Nat, z ≤ 120 ∧ y 6 1 0 = nI z
theorem RT_bad (h : RT c S f n s q y) : BD q (up3 y 6 1 2 1) := by
  obtain ⟨⟨h1, h2⟩, _, _, ⟨a1, _⟩, ⟨b1, _⟩, _⟩ := h
  exact ⟨by show ¬ (1 : Int32) = 0; decide, a1.trans b1.symm, s, by omega, b1⟩
theorem bad_W (h : ¬ y 6 1 2 = 0) (i : Nat) : ¬ isWM y i = true := fun z => h (isWM_w z)
theorem bad_pt (h : ¬ y 6 1 2 = 0) (i w j : Nat) (m : Int32) : ptX y i w j m = y := if_neg (bad_W h i)
theorem bad_sp (h : ¬ y 6 1 2 = 0) (j : Nat) : spX y j = y := by
  unfold spX
  rw [if_neg (bad_W h 23), if_neg (bad_W h 24)]
theorem must_bad (h : ¬ y 6 1 2 = 0) (b : Bool) : mustX y b = up3 y 6 1 2 1 := if_neg (fun z => h z.1)
theorem must_f : mustX y false = up3 y 6 1 2 1 := if_neg (fun z => absurd z.2 (by decide))
theorem must_t (h : y 6 1 2 = 0) : mustX y true = nextMX y := if_pos ⟨h, rfl⟩
theorem bad_it (h : ¬ y 6 1 2 = 0) : ¬ itX y 6 1 2 = 0 ∧ itX y 6 1 0 = y 6 1 0 := by
  refine ⟨wr_it h, ?_⟩
  have n1 : ¬ up3 y 6 1 2 1 6 1 2 = 0 := by show ¬ (1 : Int32) = 0; decide
  have n2 : ¬ up3 (up3 y 6 1 2 1) 6 1 2 1 6 1 2 = 0 := by show ¬ (1 : Int32) = 0; decide
  unfold itX
  rw [kwM_wr h, if_pos (by decide), must_bad h]
  unfold nrX
  rw [must_bad n1, if_neg n2]
  rfl
theorem RT_y2 (h : RT c S f n s q y) : y 6 1 2 = 0 := h.2.2.2.2.1.2.2
/-- a part of an item -/
theorem RT_pt (h : RT c S f n s q y) {i i' w j m : Nat} (hb : byS i = byS i') (hl : 0 < (byS i').length) (h97 : 97 ≤ (byS i').getD 0 0 ∧ (byS i').getD 0 0 ≤ 122) (hw : w < 6) (hm : m ≤ 9999) (hv : ∀ v : Nat, v ≤ m → vOk w (nI v)) : (rpB q i (nI m) = true ∧ ∃ s', s ≤ s' ∧ RT c S f n s' (rpX q i w j (nI m)) (ptX y i' w j (nI m))) ∨ (rpB q i (nI m) = false ∧ BD (rpX q i w j (nI m)) (ptX y i' w j (nI m))) := by
  have hW := RT_W h hb hl h97
  unfold rpB rpX ptX
  rw [hW]
  by_cases d : isWM y i' = true
  · rw [if_pos d, if_pos d, d]
    have k1 := RT_next h
    obtain ⟨e, g⟩ := RT_N k1 hm
    have y2 := RT_y2 k1
    by_cases d2 : isN (nextX q) (nI m) = true
    · obtain ⟨g1, v, hv', g2⟩ := g d2
      have en : nrX (nextMX y) (nI m) = nextMX (nextMX y) := by
        unfold nrX
        rw [← e, d2]
        exact must_t y2
      have k2 := RT_next (RT_set k1 (j := j) hw (hv v hv'))
      rw [next_set] at k2
      rw [if_pos d2, d2, en, if_pos (RT_y2 (RT_next k1)), g1, g2]
      exact Or.inl ⟨rfl, _, Nat.le_trans (Nat.le_trans (Nat.le_trans tokE_ge endF_ge) tokE_ge) endF_ge, k2⟩
    · have d3 : isN (nextX q) (nI m) = false := by
        cases z : isN (nextX q) (nI m) with
        | false => rfl
        | true => exact absurd z d2
      have en : nrX (nextMX y) (nI m) = up3 (nextMX y) 6 1 2 1 := by
        unfold nrX
        rw [← e, d3]
        exact must_f
      have n1 : ¬ up3 (nextMX y) 6 1 2 1 6 1 2 = 0 := by show ¬ (1 : Int32) = 0; decide
      rw [if_neg d2, d3, en, if_neg n1]
      exact Or.inr ⟨rfl, RT_bad k1⟩
  · have d3 : isWM y i' = false := by
      cases z : isWM y i' with
      | false => rfl
      | true => exact absurd z d
    rw [if_neg d, if_neg d, d3]
    exact Or.inl ⟨rfl, s, Nat.le_refl _, h⟩
theorem RT_sp (h : RT c S f n s q y) (j : Nat) : ∃ s', s ≤ s' ∧ RT c S f n s' (rsX q j) (spX y j) := by
  have v0 : vOk 4 0 := ⟨fun e => absurd e (by decide), fun e => absurd e (by decide), fun e => absurd e (by decide), fun e => absurd e (by decide), fun _ => Or.inl rfl, fun e => absurd e (by decide)⟩
  have v1 : vOk 4 1 := ⟨fun e => absurd e (by decide), fun e => absurd e (by decide), fun e => absurd e (by decide), fun e => absurd e (by decide), fun _ => Or.inr rfl, fun e => absurd e (by decide)⟩
  unfold rsX spX
  rw [RT_W h (i := 11) (i' := 23) rfl (by decide) (by decide), RT_W h (i := 12) (i' := 24) rfl (by decide) (by decide), ← next_set, ← next_set]
  split
  · exact ⟨_, Nat.le_trans tokE_ge endF_ge, RT_next (RT_set h (by decide) v0)⟩
  · split
    · exact ⟨_, Nat.le_trans tokE_ge endF_ge, RT_next (RT_set h (by decide) v1)⟩
    · exact ⟨s, Nat.le_refl _, h⟩
theorem vOk_1 {n : Nat} (h : n ≤ 9999) : vOk 1 (nI n) := ⟨fun e => absurd e (by decide), fun _ => ⟨n, h, rfl⟩, fun e => absurd e (by decide), fun e => absurd e (by decide), fun e => absurd e (by decide), fun e => absurd e (by decide)⟩
theorem vOk_0 {k : Nat} (h : k < 7) : vOk 0 (nI k) := ⟨fun _ => ⟨k, h, rfl⟩, fun e => absurd e (by decide), fun e => absurd e (by decide), fun e => absurd e (by decide), fun e => absurd e (by decide), fun e => absurd e (by decide)⟩
/-- the parts of an item behind its house -/
theorem RT_rip (h : RT c S f n s q y) (j : Nat) : (ripB q j = true ∧ ∃ s', s ≤ s' ∧ RT c S f n s' (ripX q j) (spX (ptX (ptX (ptX y 20 1 j 9999) 21 2 j 99) 22 3 j 999) j)) ∨ (ripB q j = false ∧ BD (ripX q j) (spX (ptX (ptX (ptX y 20 1 j 9999) 21 2 j 99) 22 3 j 999) j)) := by
  unfold ripB ripX
  rcases RT_pt h (i := 8) (i' := 20) (w := 1) (j := j) (m := 9999) rfl (by decide) (by decide) (by decide) (by decide) (fun v hv => vOk_1 hv) with ⟨e1, s1, l1, k1⟩ | ⟨e1, k1⟩
  · have e1 : rpB q 8 9999 = true := e1
    rw [if_pos e1, e1, Bool.true_and]
    rcases RT_pt k1 (i := 9) (i' := 21) (w := 2) (j := j) (m := 99) rfl (by decide) (by decide) (by decide) (by decide) (fun v hv => vOk_2 hv) with ⟨e2, s2, l2, k2⟩ | ⟨e2, k2⟩
    · have e2 : rpB (rpX q 8 1 j 9999) 9 99 = true := e2
      rw [if_pos e2, e2, Bool.true_and]
      rcases RT_pt k2 (i := 10) (i' := 22) (w := 3) (j := j) (m := 999) rfl (by decide) (by decide) (by decide) (by decide) (fun v hv => vOk_3 hv) with ⟨e3, s3, l3, k3⟩ | ⟨e3, k3⟩
      · have e3 : rpB (rpX (rpX q 8 1 j 9999) 9 2 j 99) 10 999 = true := e3
        rw [if_pos e3, e3]
        obtain ⟨s4, l4, k4⟩ := RT_sp k3 j
        exact Or.inl ⟨rfl, s4, by omega, k4⟩
      · have e3 : rpB (rpX (rpX q 8 1 j 9999) 9 2 j 99) 10 999 = false := e3
        have k3 : BD (rpX (rpX (rpX q 8 1 j 9999) 9 2 j 99) 10 3 j 999) (ptX (ptX (ptX y 20 1 j 9999) 21 2 j 99) 22 3 j 999) := k3
        rw [if_neg (by rw [e3]; decide), e3, bad_sp k3.1]
        exact Or.inr ⟨rfl, k3⟩
    · have e2 : rpB (rpX q 8 1 j 9999) 9 99 = false := e2
      have k2 : BD (rpX (rpX q 8 1 j 9999) 9 2 j 99) (ptX (ptX y 20 1 j 9999) 21 2 j 99) := k2
      rw [if_neg (by rw [e2]; decide), e2, bad_pt k2.1, bad_sp k2.1]
      exact Or.inr ⟨rfl, k2⟩
  · have e1 : rpB q 8 9999 = false := e1
    have k1 : BD (rpX q 8 1 j 9999) (ptX y 20 1 j 9999) := k1
    rw [if_neg (by rw [e1]; decide), e1, bad_pt k1.1, bad_pt k1.1, bad_sp k1.1]
    exact Or.inr ⟨rfl, k1⟩
end RTS
