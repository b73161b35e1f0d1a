theorem hour_7 {q : Q2} (h : okR q) : hourR0 q 7 0 = q 7 0 + 1 := by
  unfold hourR0 hourR
  rw [up2_s, ← ph_eq h, ph_7 h 11 (Nat.le_refl _)]
/-- the hours are the same on both sides -/
theorem hours_eq {q : Q2} (h : okR q) {m : Nat} (hm : q 7 0 = nI m) : ∀ n, m + n ≤ 99999 → hoursM q 10 n = hoursR q n ∧ okR (hoursR q n) ∧ hoursR q n 7 0 = nI (m + n)
  | 0, _ => ⟨rfl, h, hm⟩
  | n + 1, hn => by
    obtain ⟨h1, h2, h3⟩ := hours_eq h hm n (by omega)
    have hh : inR 99998 (hoursR q n 7 0) := ⟨m + n, by omega, h3⟩
    refine ⟨?_, okR_hour h2 hh, ?_⟩
    · show hourM (hoursM q 10 n) 10 = hourR0 (hoursR q n)
      rw [h1]
      exact hour_eq h2 hh
    · show hourR0 (hoursR q n) 7 0 = nI (m + n + 1)
      rw [hour_7 h2, h3]
      exact nI_add (m + n) 1
theorem drys_eq {q : Q2} (h : okR q) {m : Nat} (hm : q 7 0 = nI m) : ∀ n, m + n ≤ 99999 → drysM q 10 n = drysR q n
  | 0, _ => rfl
  | n + 1, hn => by
    obtain ⟨h1, h2, h3⟩ := hours_eq h hm n (by omega)
    show drysM q 10 n ||| dryM (hoursM q 10 n) 10 = drysR q n ||| dryR (hoursR q n)
    rw [drys_eq h hm n (by omega), h1, dry_eq h2]
/-- the hours of the houses down to j alone -/
theorem ahead_eq {q : Q2} (h : okR q) {m : Nat} (hm : q 7 0 = nI m) {n j k : Nat} (hn : m + n ≤ 99999) (hj : j < 11) (hk : k ≠ 7) : hoursM q j n k j = hoursR q n k j := by
  rw [← (hours_eq h hm n hn).1]
  exact ((ag_hours (q := q) (q' := q) ag.rf h.1.1 (show j ≤ 10 by omega) n).1 k hk j (Nat.le_refl _)).symm
theorem pour_eq {q : Q2} {j : Nat} {v : Int32} (h : okR q) (hj : j < 11) (hv : 0 ≤ v ∧ v ≤ 9999) : bringF q (nI j) v = comesR q j v := by
  rw [bring_ho q v hj]
  refine (comes_ho (h.2.1 j hj).1 ?_).symm
  obtain ⟨k, hk, e⟩ := nI_of (x := v) (Int32.not_lt.mpr hv.1)
  have : k ≤ 9999 := cmp_le (a := k) (b := 9999) (by omega) (by omega) (by rw [← e]; exact hv.2)
  exact ⟨k, by omega, e⟩
theorem upF_c {p p' : Nat → Bool} : ∀ (f i : Nat), (∀ k, i ≤ k → k < i + f → p k = p' k) → upF p f i = upF p' f i
  | 0, _, _ => rfl
  | f + 1, i, h => by
    rw [upF, upF, h i (Nat.le_refl _) (by omega), upF_c f (i + 1) (fun k h1 h2 => h k (by omega) (by omega))]
theorem when_eq {q : Q2} (h : okR q) {m j : Nat} (hm : q 7 0 = nI m) (hm2 : m + 101 ≤ 99999) (hj : j < 11) (v : Int32) : upF (fun i => decide (v ≤ hoursM q j i 1 j)) 101 0 = upF (fun i => decide (v ≤ hoursR q i 1 j)) 101 0 := by
  refine upF_c 101 0 (fun k _ h2 => ?_)
  show decide _ = decide _
  rw [ahead_eq h hm (by omega) hj (by decide)]
theorem settles_eq {q : Q2} (h : okR q) {m : Nat} (hm : q 7 0 = nI m) (hm2 : m + 102 ≤ 99999) : upF (fun i => allF (fun y => decide (hoursM q 10 (i + 1) 1 y = hoursM q 10 i 1 y)) 11) 101 0 = upF (fun i => stillB (hoursR q i)) 101 0 := by
  refine upF_c 101 0 (fun k _ h2 => ?_)
  show allF _ 11 = stillB _
  rw [(hours_eq h hm k (by omega)).1, (hours_eq h hm (k + 1) (by omega)).1]
  rfl
