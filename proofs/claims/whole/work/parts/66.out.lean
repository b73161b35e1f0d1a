theorem keep_eq {p : Q2} (h : okR p) : kpS (tkS p 11) 11 = kpD p 11 := by
  rw [kpS_eq, tkS_eq, kpD_eq p 11 (Nat.le_refl _)]
  funext r i
  unfold kpC kdC
  by_cases hi : i < 11
  · have l : 11 ≤ i + 11 ∧ i < 11 := by omega
    by_cases h1 : r = 1
    · subst h1
      obtain ⟨a, u, K, ha, hu, hK, e1, hl, hk, hkt, hgo⟩ := okR_v h hi
      have t1 : tkC p 11 1 i = nI (a - u) := by unfold tkC; rw [if_pos ⟨rfl, hi⟩]; exact hl
      have g1 : goF (tkC p 11) i = nI (a - u - K) := by
        unfold goF
        rw [t1, show tkC p 11 0 i = p 0 i from rfl, show tkC p 11 3 i = p 3 i from rfl, show tkC p 11 2 i = p 2 i from rfl, hk]
        exact mxs (by omega) (by omega)
      rw [if_pos ⟨rfl, hi⟩, if_pos ⟨rfl, l⟩, t1, g1, hkt, pk_sub (by omega)]
      exact congrArg nI (by omega)
    · rw [if_neg (fun z => h1 z.1), if_neg (fun z => h1 z.1)]
      unfold tkC
      rw [if_neg (fun z => h1 z.1)]
      by_cases h5 : r = 5
      · rw [if_pos ⟨h5, hi⟩, if_pos ⟨h5, l⟩]
      · rw [if_neg (fun z => h5 z.1), if_neg (fun z => h5 z.1)]
  · rw [if_neg (fun z => hi z.2), if_neg (fun z => hi z.2.2), if_neg (fun z => hi z.2.2)]
    unfold tkC
    rw [if_neg (fun z => hi z.2), if_neg (fun z => hi z.2)]
theorem go_eq {p : Q2} (h : okR p) (g : Nat → Int32) {i : Nat} (hi : i < 11) : gpS (tkS p 11) g 11 i = goA p i := by
  rw [gpS_eq _ _ 11 i hi, tkS_eq]
  obtain ⟨a, u, K, ha, hu, hK, e1, hl, hk, hkt, hgo⟩ := okR_v h hi
  have t1 : tkC p 11 1 i = nI (a - u) := by unfold tkC; rw [if_pos ⟨rfl, hi⟩]; exact hl
  unfold goF
  rw [t1, show tkC p 11 0 i = p 0 i from rfl, show tkC p 11 3 i = p 3 i from rfl, show tkC p 11 2 i = p 2 i from rfl, hk, hgo]
  exact mxs (by omega) (by omega)
/-- the ranges that outflows need and keep -/
def okO (q : Q2) : Prop := spOk q ∧ (∀ j, j < 11 → inR 9999 (q 1 j)) ∧ inR 999999 (q 7 3) ∧ inR 999999 (q 7 4)
theorem sat_in {a b : Int32} (ha : inR 999999 a) (hb : inR 99999 b) : inR 999999 (mn 999999 (a + b)) := by
  obtain ⟨a, ha, rfl⟩ := ha
  obtain ⟨b, hb, rfl⟩ := hb
  exact ⟨min 999999 (a + b), Nat.min_le_left _ _, sat_n (M := 999999) (by decide) ha hb⟩
theorem inR_le {m n : Nat} (h : m ≤ n) {v : Int32} (hv : inR m v) : inR n v := by
  obtain ⟨a, ha, e⟩ := hv
  exact ⟨a, by omega, e⟩
theorem okO_lose {q : Q2} (h : okO q) {v : Int32} (hv : inR 99999 v) : okO (loseF q v) :=
  ⟨spOk_c h.1 (loseF_4 q v), fun j hj => by rw [lose_row (fun z => absurd z.1 (by decide))]; exact h.2.1 j hj, by rw [lose_row (by decide)]; exact h.2.2.1, by unfold loseF; rw [up2_s]; exact sat_in h.2.2.2 hv⟩
theorem okO_al {q : Q2} (h : okO q) {v : Int32} (hv : inR 99999 v) : okO (alF q v) :=
  ⟨spOk_c h.1 (by simp [alF, up2]), fun j hj => by rw [al_row (fun z => absurd z.1 (by decide))]; exact h.2.1 j hj, by unfold alF; rw [up2_s]; exact sat_in h.2.2.1 hv, by rw [al_row (by decide)]; exact h.2.2.2⟩
theorem okO_ho {q : Q2} (h : okO q) {u : Nat} (hu : u < 11) {v : Int32} (hv : inR 20000 v) : okO (hoF q u v) := by
  have o := ov_in (h.2.1 u hu) hv
  unfold hoF
  refine okO_lose ⟨spOk_c h.1 (by simp [up2]), fun j hj => ?_, by rw [up2_row (by decide)]; exact h.2.2.1, by rw [up2_row (by decide)]; exact h.2.2.2⟩ o.1
  rw [up2_v]
  by_cases e : j = u
  · rw [if_pos ⟨rfl, e⟩]; exact o.2
  · rw [if_neg (fun z => e z.2)]; exact h.2.1 j hj
theorem lk_in {v k : Int32} (hv : inR 20000 v) : inR 99999 (mn v (loseK k)) ∧ inR 20000 (v - mn v (loseK k)) := by
  obtain ⟨w, hw, rfl⟩ := hv
  obtain ⟨c, hc, ec⟩ := lose_in (k := k)
  rw [ec, mn_nI (by omega) (by omega), pk_sub (Nat.min_le_left _ _)]
  exact ⟨⟨_, by omega, rfl⟩, ⟨_, by omega, rfl⟩⟩
theorem okO_out {q : Q2} (h : okO q) {i : Nat} (hi : i < 11) {v : Int32} (hv : inR 20000 v) : okO (outA q i v) := by
  have hl := lk_in (k := q 0 i) hv
  rcases out_cases h.1 hi v with ⟨_, e⟩ | ⟨u, h1, _, _, e⟩
  · rw [e]; exact okO_al (okO_lose h hl.1) (inR_le (by decide) hl.2)
  · rw [e]; exact okO_ho (okO_lose h hl.1) h1 hl.2
theorem outA_0 (q : Q2) (hsp : spOk q) {i : Nat} (hi : i < 11) (v : Int32) : outA q i v 0 = q 0 := by
  rcases out_cases hsp hi v with ⟨_, e⟩ | ⟨u, h1, _, _, e⟩
  · rw [e]; funext j; rw [al_row (fun z => absurd z.1 (by decide)), lose_row (fun z => absurd z.1 (by decide))]
  · rw [e]; funext j; rw [ho_row (fun z => absurd z.1 (by decide)) (fun z => absurd z.1 (by decide)), lose_row (fun z => absurd z.1 (by decide))]
/-- two outflows change places -/
theorem out_out {q : Q2} (h : okO q) {i j : Nat} (hi : i < 11) (hj : j < 11) {v w : Int32} (hv : inR 20000 v) (hw : inR 20000 w) : outA (outA q i v) j w = outA (outA q j w) i v := by
  have ei : ∀ p : Q2, p 0 = q 0 → p 4 = q 4 → ∀ k x, outA p k x = bringF (loseF p (mn x (loseK (q 0 k)))) (leadF q k) (x - mn x (loseK (q 0 k))) := fun p e0 e4 k x => by rw [outA, e0, leadF_c e4]
  rw [ei _ (outA_0 q h.1 hi v) (outA_4 q i v) j w, ei _ (outA_0 q h.1 hj w) (outA_4 q j w) i v, ei q rfl rfl i v, ei q rfl rfl j w]
  have li := lk_in (k := q 0 i) hv
  have lj := lk_in (k := q 0 j) hw
  generalize mn v (loseK (q 0 i)) = a at *
  generalize mn w (loseK (q 0 j)) = b at *
  generalize v - a = c at *
  generalize w - b = d at *
  have hab : loseF (loseF q a) b = loseF (loseF q b) a := lose_lose h.2.2.2 li.1 lj.1
  have oa := okO_lose h li.1
  have ob := okO_lose h lj.1
  have oab := okO_lose oa lj.1
  rcases lead_up h.1 hi (Nat.le_refl i) with hx | ⟨u, hu, _, hx⟩ <;> rcases lead_up h.1 hj (Nat.le_refl j) with hy | ⟨u', hu', _, hy⟩ <;> rw [hx, hy]
  · rw [bring_al, bring_al, bring_al, bring_al, lose_al, lose_al, hab, al_al (by rw [← hab]; exact oab.2.2.1) (inR_le (by decide) li.2) (inR_le (by decide) lj.2)]
  · rw [bring_al, bring_al, bring_ho _ _ hu', bring_ho _ _ hu', lose_al, lose_ho ob.2.2.2 (ob.2.1 u' hu') lj.2 li.1, hab, al_ho]
  · rw [bring_al, bring_al, bring_ho _ _ hu, bring_ho _ _ hu, lose_al, lose_ho oa.2.2.2 (oa.2.1 u hu) li.2 lj.1, hab, al_ho]
  · rw [bring_ho _ _ hu, bring_ho _ _ hu, bring_ho _ _ hu', bring_ho _ _ hu', lose_ho oa.2.2.2 (oa.2.1 u hu) li.2 lj.1, lose_ho ob.2.2.2 (ob.2.1 u' hu') lj.2 li.1, ← hab]
    by_cases e : u = u'
    · subst e; exact ho_ho oab.2.2.2 (oab.2.1 u hu) li.2 lj.2
    · exact ho_ho_d e oab.2.2.2 (oab.2.1 u hu) (oab.2.1 u' hu') li.2 lj.2
