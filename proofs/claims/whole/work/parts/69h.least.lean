theorem upF_none {p : Nat → Bool} : ∀ f i, (∀ k, i ≤ k → k < i + f → p k = false) → upF p f i = none
  | 0, _, _ => rfl
  | f + 1, i, h => by
    rw [upF, h i (Nat.le_refl _) (by omega), if_neg (by decide)]
    exact upF_none f (i + 1) (fun k h1 h2 => h k (by omega) (by omega))
theorem upF_some {p : Nat → Bool} {v : Nat} (hv : p v = true) : ∀ f i, i ≤ v → v < i + f → (∀ k, i ≤ k → k < v → p k = false) → upF p f i = some v
  | 0, _, h1, h2, _ => absurd h2 (by omega)
  | f + 1, i, h1, h2, h => by
    rw [upF]
    by_cases e : i = v
    · rw [e, if_pos hv]
    · rw [h i (Nat.le_refl _) (by omega), if_neg (by decide)]
      exact upF_some hv f (i + 1) (by omega) (by omega) (fun k h3 h4 => h k (by omega) h4)
theorem bsF_spec {p : Nat → Bool} {most : Nat} (mono : ∀ v w, v ≤ w → w ≤ most → p v = true → p w = true) : ∀ f lo hi, lo ≤ hi → hi ≤ most → hi - lo < 2 ^ f → p hi = true → (∀ k, k < lo → p k = false) → p (bsF p f lo hi) = true ∧ bsF p f lo hi ≤ most ∧ ∀ k, k < bsF p f lo hi → p k = false
  | 0, lo, hi, h1, h2, h3, h4, h5 => by
    have e : lo = hi := by rw [Nat.pow_zero] at h3; omega
    rw [bsF, e]
    exact ⟨h4, h2, fun k hk => h5 k (by omega)⟩
  | f + 1, lo, hi, h1, h2, h3, h4, h5 => by
    rw [Nat.pow_succ] at h3
    rw [bsF]
    by_cases c : lo < hi
    · rw [if_pos c]
      by_cases d : p ((lo + hi) / 2) = true
      · rw [if_pos d]
        exact bsF_spec mono f lo ((lo + hi) / 2) (by omega) (by omega) (by omega) d h5
      · rw [if_neg d]
        refine bsF_spec mono f ((lo + hi) / 2 + 1) hi (by omega) h2 (by omega) h4 (fun k hk => ?_)
        cases e : p k
        · rfl
        · exact absurd (mono k ((lo + hi) / 2) (by omega) (by omega) e) d
    · rw [if_neg c]
      have e : lo = hi := by omega
      rw [e]
      exact ⟨h4, h2, fun k hk => h5 k (by omega)⟩
theorem least_up {p : Nat → Bool} {most : Nat} (hm : most < 1024) (mono : ∀ v w, v ≤ w → w ≤ most → p v = true → p w = true) : upF p (most + 1) 0 = if p most = true then some (bsF p 10 0 most) else none := by
  by_cases c : p most = true
  · rw [if_pos c]
    obtain ⟨h1, h2, h3⟩ := bsF_spec mono 10 0 most (by omega) (Nat.le_refl _) (by omega) c (fun k hk => absurd hk (Nat.not_lt_zero k))
    exact upF_some h1 (most + 1) 0 (by omega) (by omega) (fun k _ hk => h3 k hk)
  · rw [if_neg c]
    refine upF_none (most + 1) 0 (fun k _ hk => ?_)
    cases e : p k
    · rfl
    · exact absurd (mono k most (by omega) (Nat.le_refl _) e) c
theorem least_res {q : Q2} {k most j m : Nat} (hm : most < 1024) (mono : ∀ v w, v ≤ w → w ≤ most → ¬ wetW q k j m v = 0 → ¬ wetW q k j m w = 0) : leastRes q k most j m = optR (upF (fun v => decide (¬ wetW q k j m v = 0)) (most + 1) 0) ∧ ∀ x : Q3, x 0 = q → leastX x k most j m = optX x (upF (fun v => decide (¬ wetW q k j m v = 0)) (most + 1) 0) := by
  have e := least_up (p := fun v => decide (¬ wetW q k j m v = 0)) hm (fun v w h1 h2 h3 => by
    show decide _ = true
    exact decide_eq_true (mono v w h1 h2 (of_decide_eq_true h3)))
  rw [e]
  by_cases c : wetW q k j m most = 0
  · have d : ¬ decide (¬ wetW q k j m most = 0) = true := fun z => of_decide_eq_true z c
    rw [if_neg d]
    exact ⟨by rw [leastRes, if_pos c]; rfl, fun x hx => by rw [leastX, hx, if_pos c]; rfl⟩
  · have d : decide (¬ wetW q k j m most = 0) = true := decide_eq_true c
    rw [if_pos d]
    exact ⟨by rw [leastRes, if_neg c]; rfl, fun x hx => by rw [leastX, hx, if_neg c]; rfl⟩
/-- what a row of a quarter may hold -/
def vOk (r : Nat) (v : Int32) : Prop := (r = 0 → ∃ k : Nat, k < 7 ∧ v = nI k) ∧ (r = 1 → inR 9999 v) ∧ (r = 2 → inR 99 v) ∧ (r = 3 → inR 999 v) ∧ (r = 4 → v = 0 ∨ v = 1) ∧ (r = 5 → inR 9999 v)
theorem up2_P {q : Q2} {r j : Nat} {v : Int32} (P : Int32 → Prop) {a i : Nat} (h : P (q a i)) (hv : r = a → P v) : P (up2 q r j v a i) := by
  rw [up2_v]
  by_cases e : a = r ∧ i = j
  · rw [if_pos e]; exact hv e.1.symm
  · rw [if_neg e]; exact h
theorem okR_up {q : Q2} (h : okR q) {r j : Nat} {v : Int32} (hr : r ≠ 7) (hv : vOk r v) : okR (up2 q r j v) :=
  ⟨⟨fun i hi => up2_P (fun x => x = 0 ∨ x = 1) (h.1.1 i hi) hv.2.2.2.2.1, fun i hi => up2_P (fun x => ∃ k : Nat, k < 7 ∧ x = nI k) (h.1.2 i hi) hv.1⟩,
    fun i hi => ⟨up2_P (inR 9999) (h.2.1 i hi).1 hv.2.1, up2_P (inR 99) (h.2.1 i hi).2.1 hv.2.2.1, up2_P (inR 999) (h.2.1 i hi).2.2.1 hv.2.2.2.1, up2_P (inR 9999) (h.2.1 i hi).2.2.2 hv.2.2.2.2.2⟩,
    up2_P (inR 999999) h.2.2.1 (fun e => absurd e hr), up2_P (inR 999999) h.2.2.2.1 (fun e => absurd e hr), up2_P (inR 999) h.2.2.2.2.1 (fun e => absurd e hr), up2_P (fun x => ∃ n : Nat, n < 2 ^ 30 ∧ x = nI n) h.2.2.2.2.2 (fun e => absurd e hr)⟩
theorem okR_72 {q : Q2} (h : okR q) {v : Int32} (hv : inR 999 v) : okR (up2 q 7 2 v) := by
  have e : ∀ r, r ≠ 7 → up2 q 7 2 v r = q r := fun r hr => up2_n q 2 v hr
  refine ⟨okQ_c h.1 (e 0 (by decide)) (e 4 (by decide)), fun i hi => ?_, ?_, ?_, ?_, ?_⟩
  · rw [e 1 (by decide), e 2 (by decide), e 3 (by decide), e 5 (by decide)]; exact h.2.1 i hi
  · rw [up2_sn _ _ _ (by decide)]; exact h.2.2.1
  · rw [up2_sn _ _ _ (by decide)]; exact h.2.2.2.1
  · rw [up2_ss]; exact hv
  · rw [up2_sn _ _ _ (by decide)]; exact h.2.2.2.2.2
theorem okR_71 {q : Q2} (h : okR q) {v : Int32} : okR (up2 q 7 1 v) := by
  have e : ∀ r, r ≠ 7 → up2 q 7 1 v r = q r := fun r hr => up2_n q 1 v hr
  refine ⟨okQ_c h.1 (e 0 (by decide)) (e 4 (by decide)), fun i hi => ?_, ?_, ?_, ?_, ?_⟩
  · rw [e 1 (by decide), e 2 (by decide), e 3 (by decide), e 5 (by decide)]; exact h.2.1 i hi
  · rw [up2_sn _ _ _ (by decide)]; exact h.2.2.1
  · rw [up2_sn _ _ _ (by decide)]; exact h.2.2.2.1
  · rw [up2_sn _ _ _ (by decide)]; exact h.2.2.2.2.1
  · rw [up2_sn _ _ _ (by decide)]; exact h.2.2.2.2.2
theorem vOk_3 {n : Nat} (h : n ≤ 999) : vOk 3 (nI n) := ⟨fun e => absurd e (by decide), fun e => absurd e (by decide), fun e => absurd e (by decide), fun _ => ⟨n, h, rfl⟩, fun e => absurd e (by decide), fun e => absurd e (by decide)⟩
theorem vOk_2 {n : Nat} (h : n ≤ 99) : vOk 2 (nI n) := ⟨fun e => absurd e (by decide), fun e => absurd e (by decide), fun _ => ⟨n, h, rfl⟩, fun e => absurd e (by decide), fun e => absurd e (by decide), fun e => absurd e (by decide)⟩
theorem mf_rf {j : Nat} {q : Q2} (h : okR q) (hj : j ≤ 10) : mf j q q := by
  obtain ⟨n, _, e7⟩ := h.2.2.2.2.2
  refine ⟨h.1.1, h.1.1, fun _ _ => rfl, rfl, ⟨n, e7⟩, fun i hi => ?_⟩
  obtain ⟨k, hk, e0⟩ := h.1.2 i (by omega)
  obtain ⟨_, ⟨nd, hn, e2⟩, ⟨hd, hh, e3⟩, _⟩ := h.2.1 i (by omega)
  exact ⟨k, nd, hd, hd, ⟨hk, hn, Nat.le_refl _, hh⟩, fun _ => rfl, ⟨e0, e0⟩, ⟨e2, e2⟩, e3, e3⟩
theorem mw_rf {j : Nat} {q : Q2} (h : okR q) (hj : j ≤ 10) : mw j q q := fun i hi => by
  obtain ⟨⟨a, ha, e1⟩, _⟩ := h.2.1 i (by omega)
  exact ⟨a, a, Nat.le_refl _, ha, e1, e1⟩
theorem mr_rf {q : Q2} (h : okR q) : mr q q := by
  obtain ⟨R, hR, e⟩ := h.2.2.2.2.1
  exact ⟨R, R, Nat.le_refl _, hR, e, e⟩
/-- more rain: no less wet -/
theorem rain_mono {q : Q2} (h : okR q) {j m v w : Nat} (hj : j < 11) (hvw : v ≤ w) (hw : w ≤ 999) (d : ¬ wetW q 6 j m v = 0) : ¬ wetW q 6 j m w = 0 := by
  unfold wetW at d ⊢
  rw [withQ, if_pos rfl] at d ⊢
  have e : ∀ (x : Int32) r, r ≠ 7 → up2 q 7 2 x r = q r := fun x r hr => up2_n q 2 x hr
  refine mo_wet hj (mf_c (p := up2 q 7 2 (nI v)) (p' := up2 q 7 2 (nI w)) (mf_rf h (by omega)) (fun r _ _ h7 => e _ r h7) (fun r _ _ h7 => e _ r h7) (up2_sn _ _ _ (by decide)) (up2_sn _ _ _ (by decide))) ?_ ⟨v, w, hvw, hw, up2_ss _ _ _ _, up2_ss _ _ _ _⟩ m d
  intro i hi
  rw [e _ 1 (by decide), e _ 1 (by decide)]
  exact mw_rf h (show j ≤ 10 by omega) i hi
/-- a house that holds more is no less wet itself -/
theorem holds_mono {q : Q2} (h : okR q) {j m v w : Nat} (hj : j < 11) (hvw : v ≤ w) (hw : w ≤ 999) (d : ¬ wetW q 3 j m v = 0) : ¬ wetW q 3 j m w = 0 := by
  unfold wetW at d ⊢
  rw [withQ, if_neg (by decide)] at d ⊢
  have e : ∀ (x : Int32) r, r ≠ 3 → up2 q 3 j x r = q r := fun x r hr => up2_n q j x hr
  obtain ⟨a1, a2, a3, a4, a5, a6⟩ := mf_rf (j := j) h (by omega)
  refine mo_wet hj ⟨spOk_c a1 (e _ 4 (by decide)), spOk_c a1 (e _ 4 (by decide)), ?_, ?_, ?_, ?_⟩ ?_ ?_ m d
  · rw [e _ 4 (by decide), e _ 4 (by decide)]; exact fun _ _ => rfl
  · rw [e _ 7 (by decide), e _ 7 (by decide)]
  · rw [e _ 7 (by decide)]; exact a5
  · intro i hi
    obtain ⟨k, nd, hd, _, ⟨hk, hn, hh, hh'⟩, _, ⟨e0, _⟩, ⟨e2, _⟩, e3, _⟩ := a6 i hi
    rw [e _ 0 (by decide), e _ 0 (by decide), e _ 2 (by decide), e _ 2 (by decide)]
    by_cases c : i = j
    · subst c
      rw [up2_ss, up2_ss]
      exact ⟨k, nd, v, w, ⟨hk, hn, hvw, hw⟩, fun z => absurd z (Nat.lt_irrefl _), ⟨e0, e0⟩, ⟨e2, e2⟩, rfl, rfl⟩
    · rw [up2_sn _ _ _ c, up2_sn _ _ _ c]
      exact ⟨k, nd, hd, hd, ⟨hk, hn, Nat.le_refl _, by omega⟩, fun _ => rfl, ⟨e0, e0⟩, ⟨e2, e2⟩, e3, e3⟩
  · intro i hi
    rw [e _ 1 (by decide), e _ 1 (by decide)]
    exact mw_rf h (show j ≤ 10 by omega) i hi
  · unfold mr
    rw [e _ 7 (by decide), e _ 7 (by decide)]
    exact mr_rf h
theorem with_6 (q : Q2) (v : Int32) (j : Nat) : withQ q 6 v j = up2 q 7 2 v := if_pos rfl
theorem with_n (q : Q2) {k : Nat} (hk : k ≠ 6) (v : Int32) (j : Nat) : withQ q k v j = up2 q k j v := if_neg hk
theorem rainFor_eq {q : Q2} (h : okR q) {m n j : Nat} (hm : q 7 0 = nI m) (hm2 : m + n ≤ 99999) (hj : j < 11) : upF (fun v => decide (¬ wetW q 6 j n v = 0)) 1000 0 = upF (fun v => wetB (up2 q 7 2 (nI v)) j n) 1000 0 := by
  refine upF_c 1000 0 (fun v _ hv => ?_)
  show decide _ = wetB _ j n
  unfold wetW
  rw [with_6]
  exact wetB_eq (okR_72 h ⟨v, by omega, rfl⟩) (by rw [up2_sn _ _ _ (by decide)]; exact hm) hm2 hj
theorem holdsFor_eq {q : Q2} (h : okR q) {m n j : Nat} (hm : q 7 0 = nI m) (hm2 : m + n ≤ 99999) (hj : j < 11) : upF (fun v => decide (¬ wetW q 3 j n v = 0)) 201 0 = upF (fun v => wetB (up2 q 3 j (nI v)) j n) 201 0 := by
  refine upF_c 201 0 (fun v _ hv => ?_)
  show decide _ = wetB _ j n
  unfold wetW
  rw [with_n q (by decide)]
  exact wetB_eq (okR_up h (by decide) (vOk_3 (by omega))) (by rw [up2_n _ _ _ (by decide)]; exact hm) hm2 hj
theorem needFor_eq {q : Q2} (h : okR q) {m n j : Nat} (hm : q 7 0 = nI m) (hm2 : m + n ≤ 99999) (hj : j < 11) : topF (fun v => decide (¬ wetW q 2 j n v = 0)) 100 = topF (fun v => wetB (up2 q 2 j (nI v)) j n) 100 := by
  refine topF_c 100 (fun v hv => ?_)
  show decide _ = wetB _ j n
  unfold wetW
  rw [with_n q (by decide)]
  exact wetB_eq (okR_up h (by decide) (vOk_2 (by omega))) (by rw [up2_n _ _ _ (by decide)]; exact hm) hm2 hj
theorem kindsFor_eq {q : Q2} (h : okR q) {m n j : Nat} (hm : q 7 0 = nI m) (hm2 : m + n ≤ 99999) (hj : j < 11) : setF (fun v => decide (¬ wetW q 0 j n v = 0)) 7 = setF (fun k => wetB (up2 q 0 j (nI k)) j n) 7 := by
  refine setF_c 7 (fun v hv => ?_)
  show decide _ = wetB _ j n
  unfold wetW
  rw [with_n q (by decide)]
  exact wetB_eq (okR_k h j hv) (by rw [up2_n _ _ _ (by decide)]; exact hm) hm2 hj
theorem turned_eq {q : Q2} (h : okR q) {m n j : Nat} (hm : q 7 0 = nI m) (hm2 : m + n ≤ 99999) (hj : j < 11) (f : Nat → Int32) : setF (fun o => decide (¬ seenR f j n 0 (turnQ q (bitI o)) = 0)) 11 = setF (fun o => soF f j (turn1 q o) n) 11 := by
  refine setF_c 11 (fun o ho => ?_)
  show decide _ = soF f j _ n
  rw [turnQ_1 h.1.1 ho]
  exact seen_eq (okR_t1 h ho) (by rw [turn1_7]; exact hm) hm2 hj f
theorem kinds_eq {q : Q2} (h : okR q) {m n j : Nat} (hm : q 7 0 = nI m) (hm2 : m + n ≤ 99999) (hj : j < 11) (f : Nat → Int32) : setF (fun o => decide (¬ seenR f j n 0 (withQ q 0 (nI o) j) = 0)) 7 = setF (fun o => soF f j (up2 q 0 j (nI o)) n) 7 := by
  refine setF_c 7 (fun o ho => ?_)
  show decide _ = soF f j _ n
  rw [with_n q (by decide)]
  exact seen_eq (okR_k h j ho) (by rw [up2_n _ _ _ (by decide)]; exact hm) hm2 hj f
