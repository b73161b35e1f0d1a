theorem mn_nI {a b : Nat} (ha : a < 2 ^ 31) (hb : b < 2 ^ 31) : mn (nI a) (nI b) = nI (min a b) := by
  unfold mn
  by_cases h : b < a
  · rw [if_pos (nI_lt h ha), Nat.min_eq_right (by omega)]
  · rw [if_neg (fun z => h (cmp_lt hb ha z)), Nat.min_eq_left (by omega)]
theorem mx_nI {a b : Nat} (ha : a < 2 ^ 31) (hb : b < 2 ^ 31) : mx (nI a) (nI b) = nI (max a b) := by
  unfold mx
  by_cases h : a < b
  · rw [if_pos (nI_lt h hb), Nat.max_eq_right (by omega)]
  · rw [if_neg (fun z => h (cmp_lt ha hb z)), Nat.max_eq_left (by omega)]
/-- 0 to m -/
def inR (m : Nat) (v : Int32) : Prop := ∃ n : Nat, n ≤ m ∧ v = nI n
theorem sat_n {M a b : Nat} (hM : M ≤ 999999) (ha : a ≤ 999999) (hb : b ≤ 99999) : mn (nI M) (nI a + nI b) = nI (min M (a + b)) := by
  rw [nI_add, mn_nI (by omega) (by omega)]
theorem sat_c {a b c : Int32} (ha : inR 999999 a) (hb : inR 99999 b) (hc : inR 99999 c) : mn 999999 (mn 999999 (a + b) + c) = mn 999999 (mn 999999 (a + c) + b) := by
  obtain ⟨a, ha, rfl⟩ := ha
  obtain ⟨b, hb, rfl⟩ := hb
  obtain ⟨c, hc, rfl⟩ := hc
  rw [show (999999 : Int32) = nI 999999 from rfl, sat_n (by omega) ha hb, sat_n (by omega) ha hc, sat_n (by omega) (by omega) hc, sat_n (by omega) (by omega) hb]
  congr 1
  omega
/-- ALLEY and LOST -/
def alF (q : Q2) (v : Int32) : Q2 := up2 q 7 3 (mn 999999 (q 7 3 + v))
/-- water to the house u -/
def hoF (q : Q2) (u : Nat) (v : Int32) : Q2 := loseF (up2 q 1 u (mn 9999 (q 1 u + v))) (q 1 u + v - mn 9999 (q 1 u + v))
theorem bring_al (q : Q2) (v : Int32) : bringF q (-1) v = alF q v := if_pos rfl
theorem bring_ho (q : Q2) {u : Nat} (v : Int32) (hu : u < 11) : bringF q (nI u) v = hoF q u v := by
  unfold bringF hoF
  rw [if_neg (fun z => nI_pos (n := u) (by omega) (by rw [z]; decide)), nI_clamp (by omega)]
theorem up2_c {q : Q2} {r i r' i' : Nat} {v w : Int32} (h : ¬ (r = r' ∧ i = i')) : up2 (up2 q r i v) r' i' w = up2 (up2 q r' i' w) r i v := by
  funext a k
  unfold up2 upd
  by_cases h1 : a = r
  · by_cases h2 : a = r'
    · have hi : i ≠ i' := fun z => h ⟨h1.symm.trans h2, z⟩
      subst h1; subst h2
      by_cases e1 : k = i
      · simp [e1, hi]
      · simp [e1]
    · subst h1; simp [h2]
  · by_cases h2 : a = r'
    · subst h2; simp [h1]
    · simp [h1, h2]
theorem lose_lose {q : Q2} {v w : Int32} (h : inR 999999 (q 7 4)) (hv : inR 99999 v) (hw : inR 99999 w) : loseF (loseF q v) w = loseF (loseF q w) v := by
  unfold loseF
  rw [up2_up2, up2_up2, up2_s, up2_s, sat_c h hv hw]
theorem al_al {q : Q2} {v w : Int32} (h : inR 999999 (q 7 3)) (hv : inR 99999 v) (hw : inR 99999 w) : alF (alF q v) w = alF (alF q w) v := by
  unfold alF
  rw [up2_up2, up2_up2, up2_s, up2_s, sat_c h hv hw]
theorem lose_al {q : Q2} {v w : Int32} : loseF (alF q v) w = alF (loseF q w) v := by
  unfold alF loseF
  rw [up2_c (by decide), up2_d (by decide), up2_d (by decide)]
theorem lose_up {q : Q2} {r i : Nat} {v w : Int32} (h : ¬ (r = 7 ∧ i = 4)) : loseF (up2 q r i v) w = up2 (loseF q w) r i v := by
  unfold loseF
  rw [up2_c h]
  congr 2
  unfold up2 upd
  by_cases e : (7 : Nat) = r
  · subst e
    rw [if_pos rfl, if_neg (fun z => h ⟨rfl, z.symm⟩)]
  · rw [if_neg e]
theorem lose_row {q : Q2} {v : Int32} {r i : Nat} (h : ¬ (r = 7 ∧ i = 4)) : loseF q v r i = q r i := by
  unfold loseF up2 upd
  by_cases e : r = 7
  · subst e
    rw [if_pos rfl, if_neg (fun z => h ⟨rfl, z⟩)]
  · rw [if_neg e]
theorem al_row {q : Q2} {v : Int32} {r i : Nat} (h : ¬ (r = 7 ∧ i = 3)) : alF q v r i = q r i := by
  unfold alF up2 upd
  by_cases e : r = 7
  · subst e
    rw [if_pos rfl, if_neg (fun z => h ⟨rfl, z⟩)]
  · rw [if_neg e]

theorem ho_row {q : Q2} {u : Nat} {v : Int32} {r i : Nat} (h : ¬ (r = 1 ∧ i = u)) (h4 : ¬ (r = 7 ∧ i = 4)) : hoF q u v r i = q r i := by
  unfold hoF
  rw [lose_row h4]
  unfold up2 upd
  by_cases e : r = 1
  · subst e
    rw [if_pos rfl, if_neg (fun z => h ⟨rfl, z⟩)]
  · rw [if_neg e]
theorem ov_in {a v : Int32} (ha : inR 9999 a) (hv : inR 20000 v) : inR 99999 (a + v - mn 9999 (a + v)) ∧ inR 9999 (mn 9999 (a + v)) := by
  obtain ⟨a, ha, rfl⟩ := ha
  obtain ⟨v, hv, rfl⟩ := hv
  rw [show (9999 : Int32) = nI 9999 from rfl, sat_n (by omega) (by omega) (by omega), nI_add, pk_sub (Nat.min_le_right _ _)]
  exact ⟨⟨_, by omega, rfl⟩, ⟨_, Nat.min_le_left _ _, rfl⟩⟩
theorem lose_ho {q : Q2} {u : Nat} {v w : Int32} (h : inR 999999 (q 7 4)) (h1 : inR 9999 (q 1 u)) (hv : inR 20000 v) (hw : inR 99999 w) : loseF (hoF q u v) w = hoF (loseF q w) u v := by
  unfold hoF
  have e : up2 q 1 u (mn 9999 (q 1 u + v)) 7 4 = q 7 4 := up2_row (by decide)
  rw [lose_lose (by rw [e]; exact h) (ov_in h1 hv).1 hw, lose_up (fun z => absurd z.1 (by decide)), lose_row (fun z => absurd z.1 (by decide))]
theorem al_ho {q : Q2} {u : Nat} {v w : Int32} : alF (hoF q u v) w = hoF (alF q w) u v := by
  unfold hoF
  rw [← lose_al, al_row (fun z => absurd z.1 (by decide))]
  congr 1
  unfold alF
  rw [up2_c (fun z => absurd z.1 (by decide)), up2_row (by decide)]
theorem ho_ho_d {q : Q2} {u u' : Nat} {v w : Int32} (hu : u ≠ u') (h : inR 999999 (q 7 4)) (h1 : inR 9999 (q 1 u)) (h2 : inR 9999 (q 1 u')) (hv : inR 20000 v) (hw : inR 20000 w) : hoF (hoF q u v) u' w = hoF (hoF q u' w) u v := by
  have e : ∀ (a : Nat) (x : Int32), up2 q 1 a x 7 4 = q 7 4 := fun a x => up2_row (by decide)
  have r1 : hoF q u v 1 u' = q 1 u' := ho_row (fun z => hu z.2.symm) (fun z => absurd z.1 (by decide))
  have r2 : hoF q u' w 1 u = q 1 u := ho_row (fun z => hu z.2) (fun z => absurd z.1 (by decide))
  rw [show hoF (hoF q u v) u' w = loseF (up2 (hoF q u v) 1 u' (mn 9999 (hoF q u v 1 u' + w))) (hoF q u v 1 u' + w - mn 9999 (hoF q u v 1 u' + w)) from rfl, r1, show hoF (hoF q u' w) u v = loseF (up2 (hoF q u' w) 1 u (mn 9999 (hoF q u' w 1 u + v))) (hoF q u' w 1 u + v - mn 9999 (hoF q u' w 1 u + v)) from rfl, r2]
  unfold hoF
  rw [← lose_up (fun z => absurd z.1 (by decide)), ← lose_up (fun z => absurd z.1 (by decide)), up2_c (fun z => hu z.2)]
  have e2 : up2 (up2 q 1 u' (mn 9999 (q 1 u' + w))) 1 u (mn 9999 (q 1 u + v)) 7 4 = q 7 4 := (up2_row (by decide)).trans (e _ _)
  exact lose_lose (by rw [e2]; exact h) (ov_in h1 hv).1 (ov_in h2 hw).1
theorem ho_ho {q : Q2} {u : Nat} {v w : Int32} (h : inR 999999 (q 7 4)) (h1 : inR 9999 (q 1 u)) (hv : inR 20000 v) (hw : inR 20000 w) : hoF (hoF q u v) u w = hoF (hoF q u w) u v := by
  have key : ∀ {v w : Int32}, inR 20000 v → inR 20000 w → hoF (hoF q u v) u w = up2 (up2 q 1 u (mn 9999 (q 1 u + v + w))) 7 4 (mn 999999 (q 7 4 + (q 1 u + v + w - mn 9999 (q 1 u + v + w)))) := by
    intro v w hv hw
    have r1 : hoF q u v 1 u = mn 9999 (q 1 u + v) := by unfold hoF; rw [lose_row (fun z => absurd z.1 (by decide)), up2_s]
    rw [show hoF (hoF q u v) u w = loseF (up2 (hoF q u v) 1 u (mn 9999 (hoF q u v 1 u + w))) (hoF q u v 1 u + w - mn 9999 (hoF q u v 1 u + w)) from rfl, r1]
    unfold hoF
    rw [← lose_up (fun z => absurd z.1 (by decide)), up2_up2]
    unfold loseF
    rw [up2_up2, up2_s, up2_row (by decide)]
    obtain ⟨a, ha, ea⟩ := h1
    obtain ⟨v, hv, rfl⟩ := hv
    obtain ⟨w, hw, rfl⟩ := hw
    obtain ⟨c, hc, ec⟩ := h
    rw [ea, ec, show (9999 : Int32) = nI 9999 from rfl, show (999999 : Int32) = nI 999999 from rfl]
    simp only [nI_add]
    rw [mn_nI (by omega) (by omega), mn_nI (by omega) (by omega)]
    simp only [nI_add]
    rw [mn_nI (by omega) (by omega)]
    rw [pk_sub (by omega), pk_sub (by omega), pk_sub (by omega)]
    simp only [nI_add]
    rw [mn_nI (by omega) (by omega), mn_nI (by omega) (by omega)]
    simp only [nI_add]
    rw [mn_nI (by omega) (by omega)]
    congr 2
    · congr 1; omega
    · omega
  rw [key hv hw, key hw hv, Int32.add_assoc, Int32.add_comm v w, ← Int32.add_assoc]
