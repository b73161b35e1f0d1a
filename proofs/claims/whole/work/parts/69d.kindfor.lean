theorem okR_ho {q : Q2} (h : okR q) {u : Nat} (hu : u < 11) {v : Int32} (hv : inR 20000 v) : okR (hoF q u v) := by
  have hO : okO q := ⟨h.1.1, fun j hj => (h.2.1 j hj).1, h.2.2.1, h.2.2.2.1⟩
  have hO2 := okO_ho hO hu hv
  have r : ∀ a j, a ≠ 1 → ¬ (a = 7 ∧ j = 4) → hoF q u v a j = q a j := fun a j h1 h2 => ho_row (fun z => h1 z.1) h2
  refine ⟨⟨hO2.1, fun j hj => ?_⟩, fun j hj => ⟨hO2.2.1 j hj, ?_, ?_, ?_⟩, hO2.2.2.1, hO2.2.2.2, ?_, ?_⟩
  · rw [r 0 j (by decide) (fun z => absurd z.1 (by decide))]; exact h.1.2 j hj
  · rw [r 2 j (by decide) (fun z => absurd z.1 (by decide))]; exact (h.2.1 j hj).2.1
  · rw [r 3 j (by decide) (fun z => absurd z.1 (by decide))]; exact (h.2.1 j hj).2.2.1
  · rw [r 5 j (by decide) (fun z => absurd z.1 (by decide))]; exact (h.2.1 j hj).2.2.2
  · rw [r 7 2 (by decide) (by decide)]; exact h.2.2.2.2.1
  · rw [r 7 0 (by decide) (by decide)]; exact h.2.2.2.2.2
theorem in_9999 {v : Int32} (hv : 0 ≤ v ∧ v ≤ 9999) : inR 20000 v := by
  obtain ⟨k, hk, e⟩ := nI_of (x := v) (Int32.not_lt.mpr hv.1)
  have : k ≤ 9999 := cmp_le (a := k) (b := 9999) (by omega) (by omega) (by rw [← e]; exact hv.2)
  exact ⟨k, by omega, e⟩
theorem okR_comes {q : Q2} (h : okR q) {j : Nat} (hj : j < 11) {v : Int32} (hv : 0 ≤ v ∧ v ≤ 9999) : okR (comesR q j v) := by
  rw [← pour_eq h hj hv, bring_ho q v hj]
  exact okR_ho h hj (in_9999 hv)
theorem burst_eq {q : Q2} (h : okR q) {m n j : Nat} (hm : q 7 0 = nI m) (hm2 : m + n ≤ 99999) (hj : j < 11) {v : Int32} (hv : 0 ≤ v ∧ v ≤ 9999) : hoursM (bringF q (nI j) v) 10 n 7 3 - hoursM q 10 n 7 3 = hoursR (comesR q j v) n 7 3 - hoursR q n 7 3 := by
  have h7 : comesR q j v 7 0 = nI m := by
    rw [← pour_eq h hj hv, bring_ho q v hj, ho_row (fun z => absurd z.1 (by decide)) (by decide)]
    exact hm
  rw [pour_eq h hj hv, (hours_eq (okR_comes h hj hv) h7 n hm2).1, (hours_eq h hm n hm2).1]
theorem okR_k {q : Q2} (h : okR q) (j : Nat) {k : Nat} (hk : k < 7) : okR (up2 q 0 j (nI k)) := by
  have e : ∀ r, r ≠ 0 → up2 q 0 j (nI k) r = q r := fun r hr => by simp [up2, hr]
  refine ⟨⟨spOk_c h.1.1 (e 4 (by decide)), fun i hi => ?_⟩, fun i hi => ?_, ?_, ?_, ?_, ?_⟩
  · rw [up2_v]
    by_cases z : i = j
    · rw [if_pos ⟨rfl, z⟩]; exact ⟨k, hk, rfl⟩
    · rw [if_neg (fun y => z y.2)]; exact h.1.2 i hi
  · rw [e 1 (by decide), e 2 (by decide), e 3 (by decide), e 5 (by decide)]; exact h.2.1 i hi
  · rw [e 7 (by decide)]; exact h.2.2.1
  · rw [e 7 (by decide)]; exact h.2.2.2.1
  · rw [e 7 (by decide)]; exact h.2.2.2.2.1
  · rw [e 7 (by decide)]; exact h.2.2.2.2.2
theorem kindFor_eq {q : Q2} (h : okR q) {m n j : Nat} (hm : q 7 0 = nI m) (hm2 : m + n ≤ 99999) : argF (fun k => hoursM (withQ q 0 (nI k) j) 10 n 7 3) 7 = argF (fun k => hoursR (up2 q 0 j (nI k)) n 7 3) 7 := by
  refine argF_c 7 (fun k hk => ?_)
  show hoursM (withQ q 0 (nI k) j) 10 n 7 3 = hoursR (up2 q 0 j (nI k)) n 7 3
  rw [show withQ q 0 (nI k) j = up2 q 0 j (nI k) from if_neg (by decide)]
  rw [(hours_eq (okR_k h j hk) (by rw [up2_row (by decide)]; exact hm) n hm2).1]
