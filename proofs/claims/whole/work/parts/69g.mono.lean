theorem keep_mono {k hd hd' nd : Nat} (h : hd ≤ hd') (hh : hd' ≤ 999) (hn : nd ≤ 99) : ∃ K K' : Nat, K ≤ K' ∧ K' ≤ 1200 ∧ (hd = hd' → K = K') ∧ keepF (nI k) (nI hd) (nI nd) = nI K ∧ keepF (nI k) (nI hd') (nI nd) = nI K' := by
  have h2 : ∀ x, x ≤ 999 → nI x / 2 = nI (x / 2) := fun x hx => pk_div (d := 2) (by omega) (by decide) (by decide)
  by_cases c1 : nI k = 2
  · exact ⟨hd / 2, hd' / 2, by omega, by omega, fun e => by rw [e], by unfold keepF; rw [if_pos c1, h2 hd (by omega)], by unfold keepF; rw [if_pos c1, h2 hd' hh]⟩
  · by_cases c2 : nI k = 3 ∨ nI k = 4
    · exact ⟨hd / 2 + nd, hd' / 2 + nd, by omega, by omega, fun e => by rw [e], by unfold keepF; rw [if_neg c1, if_pos c2, h2 hd (by omega), nI_add], by unfold keepF; rw [if_neg c1, if_pos c2, h2 hd' hh, nI_add]⟩
    · by_cases c3 : nI k = 6
      · exact ⟨hd + 10, hd' + 10, by omega, by omega, fun e => by rw [e], by unfold keepF; rw [if_neg c1, if_neg c2, if_pos c3]; exact nI_add hd 10, by unfold keepF; rw [if_neg c1, if_neg c2, if_pos c3]; exact nI_add hd' 10⟩
      · exact ⟨hd, hd', h, by omega, fun e => e, by unfold keepF; rw [if_neg c1, if_neg c2, if_neg c3], by unfold keepF; rw [if_neg c1, if_neg c2, if_neg c3]⟩
/-- what doesn't change in an hour: of the second j may hold more, and its spout may lead elsewhere -/
def mf (j : Nat) (q q' : Q2) : Prop := spOk q ∧ spOk q' ∧ (∀ i, i < j → q' 4 i = q 4 i) ∧ q' 7 0 = q 7 0 ∧ (∃ hr : Nat, q 7 0 = nI hr) ∧ ∀ i, i ≤ j → ∃ k nd hd hd' : Nat, (k < 7 ∧ nd ≤ 99 ∧ hd ≤ hd' ∧ hd' ≤ 999) ∧ (i < j → hd = hd') ∧ (q 0 i = nI k ∧ q' 0 i = nI k) ∧ (q 2 i = nI nd ∧ q' 2 i = nI nd) ∧ q 3 i = nI hd ∧ q' 3 i = nI hd'
/-- the second has no less water -/
def mw (j : Nat) (q q' : Q2) : Prop := ∀ i, i ≤ j → ∃ a a' : Nat, a ≤ a' ∧ a' ≤ 9999 ∧ q 1 i = nI a ∧ q' 1 i = nI a'
def mr (q q' : Q2) : Prop := ∃ R R' : Nat, R ≤ R' ∧ R' ≤ 999 ∧ q 7 2 = nI R ∧ q' 7 2 = nI R'
theorem mf_c {j : Nat} {q q' p p' : Q2} (h : mf j q q') (e : ∀ r, r ≠ 1 → r ≠ 5 → r ≠ 7 → p r = q r) (e' : ∀ r, r ≠ 1 → r ≠ 5 → r ≠ 7 → p' r = q' r) (g : p 7 0 = q 7 0) (g' : p' 7 0 = q' 7 0) : mf j p p' := by
  refine ⟨spOk_c h.1 (e 4 (by decide) (by decide) (by decide)), spOk_c h.2.1 (e' 4 (by decide) (by decide) (by decide)), ?_, ?_, ?_, ?_⟩
  · rw [e 4 (by decide) (by decide) (by decide), e' 4 (by decide) (by decide) (by decide)]; exact h.2.2.1
  · rw [g, g']; exact h.2.2.2.1
  · rw [g]; exact h.2.2.2.2.1
  · rw [e 0 (by decide) (by decide) (by decide), e' 0 (by decide) (by decide) (by decide), e 2 (by decide) (by decide) (by decide), e' 2 (by decide) (by decide) (by decide), e 3 (by decide) (by decide) (by decide), e' 3 (by decide) (by decide) (by decide)]
    exact h.2.2.2.2.2
theorem step_rows {q : Q2} (hsp : spOk q) {t : Nat} (ht : t < 11) : (∀ r, r ≠ 1 → r ≠ 5 → r ≠ 7 → stepS q t r = q r) ∧ stepS q t 7 0 = q 7 0 ∧ stepS q t 7 2 = q 7 2 := by
  refine ⟨fun r h1 h5 h7 => ?_, ag_7s hsp ht⟩
  funext i
  rw [step_A]
  have hk : spOk (kpA q t) := spOk_c hsp (kpA_4 q t)
  have e : kpA q t r i = q r i := by
    unfold kpA
    rw [up2_v, if_neg (fun z => h1 z.1), up2_v, if_neg (fun z => h5 z.1)]
  rcases out_cases hk ht (goA q t) with ⟨_, z⟩ | ⟨u, _, _, _, z⟩
  · rw [z, al_row (fun y => h7 y.1), lose_row (fun y => h7 y.1), e]
  · rw [z, ho_row (fun y => h1 y.1) (fun y => h7 y.1), lose_row (fun y => h7 y.1), e]
theorem ho_1 {q : Q2} {u i : Nat} {v : Int32} : hoF q u v 1 i = if i = u then mn 9999 (q 1 u + v) else q 1 i := by
  unfold hoF
  rw [lose_row (fun z => absurd z.1 (by decide)), up2_v]
  by_cases e : i = u
  · rw [if_pos ⟨rfl, e⟩, if_pos e]
  · rw [if_neg (fun z => e z.2), if_neg e]
theorem kpA_1 {q : Q2} {t i : Nat} : kpA q t 1 i = if i = t then ktA q t else q 1 i := by
  unfold kpA
  rw [up2_v]
  by_cases e : i = t
  · rw [if_pos ⟨rfl, e⟩, if_pos e]
  · rw [if_neg (fun z => e z.2), if_neg e, up2_v, if_neg (fun z => absurd z.1 (by decide))]
theorem step_1 {q : Q2} (hsp : spOk q) {t : Nat} (ht : t < 11) {i : Nat} (hi : i < 11) : stepS q t 1 i = if i = t then ktA q t else if leadF q t = nI i then mn 9999 (q 1 i + (goA q t - mn (goA q t) (loseK (q 0 t)))) else q 1 i := by
  rw [step_A]
  have hk : spOk (kpA q t) := spOk_c hsp (kpA_4 q t)
  have hl : leadF (kpA q t) t = leadF q t := leadF_c (kpA_4 q t) t
  rcases out_cases hk ht (goA q t) with ⟨e, z⟩ | ⟨u, hu, h2, e, z⟩
  · rw [z, al_row (fun y => absurd y.1 (by decide)), lose_row (fun y => absurd y.1 (by decide)), kpA_1]
    have n : ¬ leadF q t = nI i := by
      rw [← hl, e]
      exact fun y => absurd (y ▸ (by decide : (-1 : Int32) < 0)) (nI_pos (n := i) (by omega))
    rw [if_neg n]
  · rw [z, ho_1, lose_row (fun y => absurd y.1 (by decide)), lose_row (fun y => absurd y.1 (by decide)), kpA_1, kpA_1, kpA_0]
    rw [← hl, e]
    by_cases c : i = u
    · subst c
      rw [if_pos rfl, if_neg (by omega), if_neg (by omega), if_pos rfl]
    · rw [if_neg c]
      have n : ¬ nI u = nI i := fun y => c (cmp_eq (by omega) (by omega) y).symm
      rw [if_neg n]
/-- one house of an hour, in numbers -/
theorem v_of {q : Q2} {j a k nd hd hr : Nat} (e1 : q 1 j = nI a) (e0 : q 0 j = nI k) (e2 : q 2 j = nI nd) (e3 : q 3 j = nI hd) (e7 : q 7 0 = nI hr) (ha : a ≤ 9999) {u K : Nat} (hu : u ≤ 300) (hK : K ≤ 1200) (eu : useF (nI k) (nI nd) (nI hr) = nI u) (eK : keepF (nI k) (nI hd) (nI nd) = nI K) : ktA q j = nI (min (a - u) K) ∧ goA q j = nI (a - u - K) ∧ (leftF q j < 0 ↔ a < u) := by
  have hl : mx 0 (leftF q j) = nI (a - u) := leftF_n e1 (by rw [e0, e2, e7]; exact eu) (by omega) (by omega)
  have hk2 : keepF (q 0 j) (q 3 j) (q 2 j) = nI K := by rw [e0, e3, e2]; exact eK
  have hkt : ktA q j = nI (min (a - u) K) := by rw [ktA, hl, hk2]; exact mn_nI (by omega) (by omega)
  refine ⟨hkt, ?_, ?_⟩
  · rw [goA, hkt, hl, pk_sub (Nat.min_le_left _ _)]
    exact congrArg nI (by omega)
  · unfold leftF
    rw [e1, e0, e2, e7, eu]
    constructor
    · intro z
      by_cases c : a < u
      · exact c
      · rw [pk_sub (by omega)] at z
        exact absurd z (nI_pos (by omega))
    · intro z
      exact sub_lt0 z (by omega)
theorem sat2 {M a b : Nat} (hM : M ≤ 9999) (ha : a ≤ 9999) (hb : b ≤ 20000) : mn (nI M) (nI a + nI b) = nI (min M (a + b)) := by
  rw [nI_add]; exact mn_nI (by omega) (by omega)
theorem mo_step {j t : Nat} {q q' : Q2} (hj : j ≤ 10) (ht : t ≤ j) (h : mf j q q') (w : mw j q q') : mf j (stepS q t) (stepS q' t) ∧ mw j (stepS q t) (stepS q' t) := by
  have r := step_rows h.1 (t := t) (by omega)
  have r' := step_rows h.2.1 (t := t) (by omega)
  refine ⟨mf_c h r.1 r'.1 r.2.1 r'.2.1, fun i hi => ?_⟩
  obtain ⟨hr, e7⟩ := h.2.2.2.2.1
  have e7' : q' 7 0 = nI hr := h.2.2.2.1.trans e7
  obtain ⟨k, nd, hd, hd', ⟨hk, hn, hh, hh'⟩, hs, ⟨e0, e0'⟩, ⟨e2, e2'⟩, e3, e3'⟩ := h.2.2.2.2.2 t ht
  obtain ⟨a, a', ha, ha', e1, e1'⟩ := w t ht
  obtain ⟨u, hu, eu⟩ := use_in (hr := hr) hk hn
  obtain ⟨K, K', hK, hK', hKs, eK, eK'⟩ := keep_mono (k := k) hh hh' hn
  obtain ⟨v1, v2, -⟩ := v_of e1 e0 e2 e3 e7 (by omega) hu (by omega) eu eK
  obtain ⟨v1', v2', -⟩ := v_of e1' e0' e2' e3' e7' (by omega) hu (by omega) eu eK'
  rw [step_1 h.1 (by omega) (by omega), step_1 h.2.1 (by omega) (by omega)]
  by_cases c : i = t
  · rw [if_pos c, if_pos c, v1, v1']
    exact ⟨_, _, by omega, by omega, rfl, rfl⟩
  · rw [if_neg c, if_neg c]
    obtain ⟨b, b', hb, hb', f1, f1'⟩ := w i hi
    by_cases tj : t = j
    · have up : ∀ p : Q2, spOk p → ¬ leadF p t = nI i := by
        intro p hp z
        rcases lead_up hp (show t < 11 by omega) (Nat.le_refl t) with y | ⟨x, hx, hx2, y⟩
        · rw [y] at z
          exact absurd (z ▸ (by decide : (-1 : Int32) < 0)) (nI_pos (n := i) (by omega))
        · rw [y] at z
          have := cmp_eq (by omega) (by omega) z
          omega
      rw [if_neg (up q h.1), if_neg (up q' h.2.1)]
      exact ⟨b, b', hb, hb', f1, f1'⟩
    · have hl : leadF q' t = leadF q t := by unfold leadF; rw [h.2.2.1 t (by omega)]
      have eKs : K = K' := hKs (hs (by omega))
      rw [hl]
      by_cases c2 : leadF q t = nI i
      · rw [if_pos c2, if_pos c2, v2, v2', f1, f1', e0, e0']
        obtain ⟨L, hL, eL⟩ := lose_in (k := nI k)
        rw [eL, mn_nI (by omega) (by omega), mn_nI (by omega) (by omega), pk_sub (Nat.min_le_left _ _), pk_sub (Nat.min_le_left _ _)]
        rw [show (9999 : Int32) = nI 9999 from rfl, sat2 (by omega) (by omega) (by omega), sat2 (by omega) (by omega) (by omega)]
        exact ⟨_, _, by omega, by omega, rfl, rfl⟩
      · rw [if_neg c2, if_neg c2]
        exact ⟨b, b', hb, hb', f1, f1'⟩
theorem mo_rain {j : Nat} {q q' : Q2} (h : mf j q q') (w : mw j q q') (z : mr q q') : mf j (bringF q 0 (q 7 2)) (bringF q' 0 (q' 7 2)) ∧ mw j (bringF q 0 (q 7 2)) (bringF q' 0 (q' 7 2)) := by
  have b : ∀ p : Q2, ∀ v, bringF p 0 v = hoF p 0 v := fun p v => bring_ho p (u := 0) v (by decide)
  have e : ∀ (p : Q2) v r, r ≠ 1 → r ≠ 5 → r ≠ 7 → hoF p 0 v r = p r := fun p v r h1 _ h7 => by funext i; exact ho_row (fun y => h1 y.1) (fun y => h7 y.1)
  rw [b, b]
  refine ⟨mf_c h (e q _) (e q' _) (ho_row (fun y => absurd y.1 (by decide)) (by decide)) (ho_row (fun y => absurd y.1 (by decide)) (by decide)), fun i hi => ?_⟩
  rw [ho_1, ho_1]
  obtain ⟨a, a', ha, ha', f, f'⟩ := w i hi
  obtain ⟨R, R', hR, hR', g, g'⟩ := z
  by_cases c : i = 0
  · subst c
    rw [if_pos rfl, if_pos rfl, f, f', g, g', show (9999 : Int32) = nI 9999 from rfl, sat2 (by omega) (by omega) (by omega), sat2 (by omega) (by omega) (by omega)]
    exact ⟨_, _, by omega, by omega, rfl, rfl⟩
  · rw [if_neg c, if_neg c]
    exact ⟨a, a', ha, ha', f, f'⟩
theorem mo_ph {j : Nat} {q q' : Q2} (hj : j ≤ 10) (h : mf j q q') (w : mw j q q') (z : mr q q') : ∀ k, k ≤ j + 1 → mf j (phS q j k) (phS q' j k) ∧ mw j (phS q j k) (phS q' j k) ∧ phS q j k 7 2 = q 7 2 ∧ phS q' j k 7 2 = q' 7 2
  | 0, _ => by
    have m := mo_rain h w z
    refine ⟨m.1, m.2, ?_, ?_⟩
    · show bringF q 0 (q 7 2) 7 2 = q 7 2
      rw [show bringF q 0 (q 7 2) = hoF q 0 (q 7 2) from bring_ho q (u := 0) (q 7 2) (by decide)]
      exact ho_row (fun y => absurd y.1 (by decide)) (by decide)
    · show bringF q' 0 (q' 7 2) 7 2 = q' 7 2
      rw [show bringF q' 0 (q' 7 2) = hoF q' 0 (q' 7 2) from bring_ho q' (u := 0) (q' 7 2) (by decide)]
      exact ho_row (fun y => absurd y.1 (by decide)) (by decide)
  | k + 1, hk => by
    obtain ⟨m1, m2, m3, m4⟩ := mo_ph hj h w z k (by omega)
    have s := mo_step hj (Nat.sub_le j k) m1 m2
    exact ⟨s.1, s.2, (step_rows m1.1 (by omega)).2.2.trans m3, (step_rows m1.2.1 (by omega)).2.2.trans m4⟩
theorem mo_hour {j : Nat} {q q' : Q2} (hj : j ≤ 10) (h : mf j q q') (w : mw j q q') (z : mr q q') : mf j (hourM q j) (hourM q' j) ∧ mw j (hourM q j) (hourM q' j) ∧ mr (hourM q j) (hourM q' j) := by
  obtain ⟨m1, m2, m3, m4⟩ := mo_ph hj h w z (j + 1) (Nat.le_refl _)
  have e : ∀ (p : Q2) v r, r ≠ 7 → up2 p 7 0 v r = p r := fun p v r hr => up2_n p 0 v hr
  refine ⟨?_, fun i hi => ?_, ?_⟩
  · obtain ⟨a1, a2, a3, a4, ⟨hr, a5⟩, a6⟩ := m1
    unfold hourM
    refine ⟨spOk_c a1 (e _ _ 4 (by decide)), spOk_c a2 (e _ _ 4 (by decide)), ?_, ?_, ?_, ?_⟩
    · rw [e _ _ 4 (by decide), e _ _ 4 (by decide)]; exact a3
    · rw [up2_ss, up2_ss, a4]
    · rw [up2_ss, a5, show nI hr + 1 = nI (hr + 1) from nI_add hr 1]
      unfold mn
      split
      · exact ⟨hr + 1, rfl⟩
      · exact ⟨99999, rfl⟩
    · rw [e _ _ 0 (by decide), e _ _ 0 (by decide), e _ _ 2 (by decide), e _ _ 2 (by decide), e _ _ 3 (by decide), e _ _ 3 (by decide)]; exact a6
  · unfold hourM
    rw [e _ _ 1 (by decide), e _ _ 1 (by decide)]
    exact m2 i hi
  · unfold hourM mr
    rw [up2_sn _ _ _ (by decide), up2_sn _ _ _ (by decide), m3, m4]
    exact z
theorem mo_hours {j : Nat} {q q' : Q2} (hj : j ≤ 10) (h : mf j q q') (w : mw j q q') (z : mr q q') : ∀ n, mf j (hoursM q j n) (hoursM q' j n) ∧ mw j (hoursM q j n) (hoursM q' j n) ∧ mr (hoursM q j n) (hoursM q' j n)
  | 0 => ⟨h, w, z⟩
  | n + 1 => by
    obtain ⟨a, b, c⟩ := mo_hours hj h w z n
    exact mo_hour hj a b c
/-- the wetter quarter is dry no oftener -/
theorem mo_dry {j : Nat} {q q' : Q2} (hj : j ≤ 10) (h : mf j q q') (w : mw j q q') (z : mr q q') (n : Nat) (d : bt (dryM (hoursM q' j n) j) j = true) : bt (dryM (hoursM q j n) j) j = true := by
  obtain ⟨a, b, c⟩ := mo_hours hj h w z n
  rw [dryM_bt a.2.1 hj (by omega)] at d
  rw [dryM_bt a.1 hj (by omega)]
  refine ⟨Nat.le_refl _, ?_⟩
  obtain ⟨a, b⟩ := mo_rain a b c
  have d2 := d.2
  generalize bringF (hoursM q j n) 0 (hoursM q j n 7 2) = p at *
  generalize bringF (hoursM q' j n) 0 (hoursM q' j n 7 2) = p' at *
  obtain ⟨hr, e7⟩ := a.2.2.2.2.1
  have e7' : p' 7 0 = nI hr := a.2.2.2.1.trans e7
  obtain ⟨k, nd, hd, hd', ⟨hk, hn, hh, hh'⟩, hs, ⟨e0, e0'⟩, ⟨e2, e2'⟩, e3, e3'⟩ := a.2.2.2.2.2 j (Nat.le_refl j)
  obtain ⟨x, x', hx, hx', e1, e1'⟩ := b j (Nat.le_refl j)
  obtain ⟨u, hu, eu⟩ := use_in (hr := hr) hk hn
  obtain ⟨K, K', hK, hK', hKs, eK, eK'⟩ := keep_mono (k := k) hh hh' hn
  rw [(v_of e1' e0' e2' e3' e7' (by omega) hu (by omega) eu eK').2.2] at d2
  rw [(v_of e1 e0 e2 e3 e7 (by omega) hu (by omega) eu eK).2.2]
  omega
theorem mo_wet {j : Nat} {q q' : Q2} (hj : j < 11) (h : mf j q q') (w : mw j q q') (z : mr q q') (n : Nat) (d : ¬ wetR (bitI j) j n q = 0) : ¬ wetR (bitI j) j n q' = 0 := by
  rw [wetR_iff] at d ⊢
  intro k hk
  rw [bit_0 hj]
  have y := d k hk
  rw [bit_0 hj] at y
  cases e : bt (dryM (hoursM q' j k) j) j
  · rfl
  · exact absurd (mo_dry (show j ≤ 10 by omega) h w z k e) (by rw [y]; decide)
