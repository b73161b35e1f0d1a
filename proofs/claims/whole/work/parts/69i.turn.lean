/-- how many bits -/
def pcN : Nat → Nat → Nat
  | 0, _ => 0
  | f + 1, n => n % 2 + pcN f (n / 2)
theorem pcN_le : ∀ f n, pcN f n ≤ f
  | 0, _ => Nat.le_refl _
  | f + 1, n => by
    rw [pcN]
    have := pcN_le f (n / 2)
    omega
theorem ones_pc : ∀ n, n < 2048 → onesF (nI n) 11 = nI (pcN 11 n) := by decide +kernel
theorem pc_zero : ∀ f s, s < 2 ^ f → pcN f s = 0 → s = 0
  | 0, s, h, _ => by rw [Nat.pow_zero] at h; omega
  | f + 1, s, h, z => by
    rw [Nat.pow_succ] at h
    rw [pcN] at z
    have := pc_zero f (s / 2) (by omega) (by omega)
    omega
theorem mod_two (s L : Nat) : s % 2 ^ (L + 1) % 2 = s % 2 ∧ s % 2 ^ (L + 1) / 2 = s / 2 % 2 ^ L := by
  have e : s % (2 * 2 ^ L) = s % 2 + 2 * (s / 2 % 2 ^ L) := Nat.mod_mul
  rw [show 2 ^ (L + 1) = 2 * 2 ^ L by rw [Nat.pow_succ, Nat.mul_comm], e]
  omega
theorem pc_md : ∀ f L s, s < 2 ^ f → pcN f (s % 2 ^ L) < pcN f s ∨ s % 2 ^ L = s
  | 0, L, s, h => by
    rw [Nat.pow_zero] at h
    rw [show s = 0 by omega, Nat.zero_mod]
    exact Or.inr rfl
  | f + 1, 0, s, h => by
    rw [Nat.pow_zero, Nat.mod_one]
    by_cases z : pcN (f + 1) s = 0
    · exact Or.inr (pc_zero (f + 1) s h z).symm
    · have e : pcN (f + 1) 0 = 0 := by
        have : ∀ g, pcN g 0 = 0 := fun g => by
          induction g with
          | zero => rfl
          | succ g ih => rw [pcN, ih]
        exact this (f + 1)
      rw [e]
      exact Or.inl (by omega)
  | f + 1, L + 1, s, h => by
    obtain ⟨e1, e2⟩ := mod_two s L
    rw [Nat.pow_succ] at h
    rw [pcN, pcN, e1, e2]
    rcases pc_md f L (s / 2) (by omega) with z | z
    · exact Or.inl (by omega)
    · refine Or.inr ?_
      rw [z] at e2
      omega
theorem pc_mod (L : Nat) (_ : L < 11) (s : Nat) (h : s < 2048) : pcN 11 (s % 2 ^ L) < pcN 11 s ∨ s % 2 ^ L = s := pc_md 11 L s h
theorem pc_sm : ∀ f L s, s < 2 ^ L → pcN f s ≤ L
  | 0, L, s, _ => Nat.zero_le _
  | f + 1, 0, s, h => by
    rw [Nat.pow_zero] at h
    rw [pcN, show s = 0 by omega]
    have := pc_sm f 0 (0 / 2) (by decide)
    omega
  | f + 1, L + 1, s, h => by
    rw [Nat.pow_succ] at h
    rw [pcN]
    have := pc_sm f L (s / 2) (by omega)
    omega
theorem pc_small (L : Nat) (_ : L < 11) (s : Nat) (h : s < 2 ^ L) : pcN 11 s ≤ L := pc_sm 11 L s h
theorem bt_n {k j : Nat} (hj : j < 32) : bt (nI k) j = k.testBit j := by
  show (BitVec.ofNat 32 k).getLsbD j = _
  rw [BitVec.getLsbD_ofNat, decide_eq_true hj, Bool.true_and]
theorem last_bt (v : Int32) : ∀ n, n ≤ 10 → ∀ j, j ≤ n → bt v j = true → j ≤ lastF v n
  | 0, _, j, h, _ => h
  | n + 1, hn, j, h, b => by
    rw [lastF]
    split
    · next c =>
      have z := (shr_0 (j := n + 1) (by omega)).mp c
      refine last_bt v n (by omega) j ?_ b
      by_cases e : j = n + 1
      · rw [e, z] at b; exact absurd b (by decide)
      · omega
    · exact h
theorem set_bt {v : Int32} (hv : 0 ≤ v ∧ v ≤ 2047) {j : Nat} (hj : j < 32) (b : bt v j = true) : j ≤ lastF v 10 := by
  obtain ⟨k, hk, rfl⟩ := inU_of (n := 2047) rfl hv
  refine last_bt (nI k) 10 (Nat.le_refl _) j ?_ b
  rw [bt_n hj] at b
  by_cases c : j ≤ 10
  · exact c
  · have : k < 2 ^ j := Nat.lt_of_lt_of_le (show k < 2 ^ 11 by omega) (Nat.pow_le_pow_right (by decide) (by omega))
    rw [Nat.testBit_lt_two_pow this] at b
    exact absurd b (by decide)
theorem shr_1 {x : Int32} {j : Nat} (hj : j < 11) : x >>> (nI j &&& 31) &&& 1 = 1 ↔ bt x j = true := by
  rcases and1 (x >>> (nI j &&& 31)) with z | z
  · have b := (shr_0 hj).mp z
    rw [z, b]
    exact ⟨fun y => absurd y (by decide), fun y => absurd y (by decide)⟩
  · have b : ¬ bt x j = false := fun y => by
      rw [(shr_0 hj).mpr y] at z
      exact absurd z (by decide)
    rw [z]
    exact ⟨fun _ => by cases e : bt x j with
      | false => exact absurd e b
      | true => rfl, fun _ => rfl⟩
theorem turnRS_4 (q : Q2) (s : Int32) : ∀ n, n ≤ 11 → ∀ i, turnRS q s n 4 i = if i < n ∧ bt s i = true then 1 - q 4 i else q 4 i
  | 0, _, i => by rw [turnRS, if_neg (fun z => absurd z.1 (Nat.not_lt_zero _))]
  | n + 1, hn, i => by
    have ih := turnRS_4 q s n (by omega)
    rw [turnRS]
    by_cases c : s >>> (nI n &&& 31) &&& 1 = 1
    · have b := (shr_1 (show n < 11 by omega)).mp c
      rw [if_pos c, turn1, up2_v]
      by_cases e : i = n
      · subst e
        rw [if_pos ⟨rfl, rfl⟩, ih i, if_neg (fun z => absurd z.1 (Nat.lt_irrefl _)), if_pos ⟨by omega, b⟩]
      · rw [if_neg (fun z => e z.2), ih i]
        by_cases d : i < n ∧ bt s i = true
        · rw [if_pos d, if_pos ⟨by omega, d.2⟩]
        · rw [if_neg d, if_neg (fun z => d ⟨by have := z.1; omega, z.2⟩)]
    · have b : ¬ bt s n = true := fun z => c ((shr_1 (show n < 11 by omega)).mpr z)
      rw [if_neg c, ih i]
      by_cases d : i < n ∧ bt s i = true
      · rw [if_pos d, if_pos ⟨by omega, d.2⟩]
      · rw [if_neg d, if_neg (fun z => ?_)]
        by_cases e : i = n
        · exact b (e ▸ z.2)
        · exact d ⟨by have := z.1; omega, z.2⟩
/-- a set of houses whose spouts are turned does -/
def tOk (q : Q2) (v : Int32) (n s : Nat) : Prop := drysR (turnRQ q (nI s)) n &&& v = 0
theorem mf_turn {q : Q2} (h : okR q) {j s s' : Nat} (hj : j ≤ 10) (e : ∀ i, i < j → s.testBit i = s'.testBit i) : mf j (turnRQ q (nI s)) (turnRQ q (nI s')) ∧ mw j (turnRQ q (nI s)) (turnRQ q (nI s')) ∧ mr (turnRQ q (nI s)) (turnRQ q (nI s')) := by
  have r : ∀ (x : Int32) a, a ≠ 4 → turnRQ q x a = q a := fun x a ha => turnRS_r q x 11 a ha
  have o := okR_RQ h (nI s)
  have o' := okR_RQ h (nI s')
  obtain ⟨_, _, _, _, a5, a6⟩ := mf_rf (j := j) h hj
  refine ⟨⟨o.1.1, o'.1.1, fun i hi => ?_, ?_, ?_, ?_⟩, ?_, ?_⟩
  · unfold turnRQ
    rw [turnRS_4 _ _ 11 (Nat.le_refl _), turnRS_4 _ _ 11 (Nat.le_refl _), bt_n (by omega), bt_n (by omega), e i hi]
  · rw [r _ 7 (by decide), r _ 7 (by decide)]
  · rw [r _ 7 (by decide)]; exact a5
  · rw [r _ 0 (by decide), r _ 0 (by decide), r _ 2 (by decide), r _ 2 (by decide), r _ 3 (by decide), r _ 3 (by decide)]; exact a6
  · unfold mw; rw [r _ 1 (by decide), r _ 1 (by decide)]; exact mw_rf h hj
  · unfold mr; rw [r _ 7 (by decide), r _ 7 (by decide)]; exact mr_rf h
theorem tOk_c {q : Q2} (h : okR q) {m n : Nat} (hm : q 7 0 = nI m) (hm2 : m + n ≤ 99999) {v : Int32} (hv : 0 ≤ v ∧ v ≤ 2047) {s s' : Nat} (e : ∀ i, i < lastF v 10 → s.testBit i = s'.testBit i) (hL : lastF v 10 ≤ 10) (k : tOk q v n s) : tOk q v n s' := by
  have r : ∀ x : Int32, turnRQ q x 7 0 = nI m := fun x => by rw [show turnRQ q x 7 = q 7 from turnRS_r q x 11 7 (by decide)]; exact hm
  unfold tOk at k ⊢
  rw [← drys_eq (okR_RQ h _) (r _) n hm2, and_0] at k ⊢
  intro j hj w
  have jl := set_bt hv hj w.2
  refine k j hj ⟨?_, w.2⟩
  obtain ⟨t, ht, d⟩ := (drysM_bt _ j n).mp w.1
  rw [← dry_last (okR_RQ h _).1.1 (show j ≤ 10 by omega) (Nat.le_refl j) t] at d
  obtain ⟨a, b, c⟩ := mf_turn h (j := j) (s := s) (s' := s') (by omega) (fun i hi => e i (by omega))
  have g := mo_dry (show j ≤ 10 by omega) a b c t d
  rw [dry_last (okR_RQ h _).1.1 (show j ≤ 10 by omega) (Nat.le_refl j) t] at g
  exact (drysM_bt _ j n).mpr ⟨t, ht, g⟩
theorem tnP_iff {q : Q2} (h : okR q) {m n : Nat} (hm : q 7 0 = nI m) (hm2 : m + n ≤ 99999) {v : Int32} (hv : 0 ≤ v ∧ v ≤ 2047) (hL : lastF v 10 ≤ 10) {z s : Nat} (hs : s < 2048) (hz : z ≤ 11) : tnP q v n z s = true ↔ pcN 11 s = z ∧ tOk q v n s := by
  have r : turnRQ q (nI s) 7 0 = nI m := by rw [show turnRQ q (nI s) 7 = q 7 from turnRS_r q _ 11 7 (by decide)]; exact hm
  unfold tnP tOk
  rw [decide_eq_true_iff, turnQ_R h.1.1, wet_eq (okR_RQ h _) r hm2 hL (fun j hj b => set_bt hv hj b), bc_ones s hs, ones_pc s hs]
  have := pcN_le 11 s
  exact ⟨fun y => ⟨cmp_eq (by omega) (by omega) y.1, y.2⟩, fun y => ⟨by rw [y.1], y.2⟩⟩
theorem upF_cases (p : Nat → Bool) : ∀ f i, (upF p f i = none ∧ ∀ k, i ≤ k → k < i + f → p k = false) ∨ ∃ s, i ≤ s ∧ s < i + f ∧ upF p f i = some s ∧ p s = true ∧ ∀ k, i ≤ k → k < s → p k = false
  | 0, i => Or.inl ⟨rfl, fun k h1 h2 => absurd h2 (by omega)⟩
  | f + 1, i => by
    by_cases c : p i = true
    · exact Or.inr ⟨i, Nat.le_refl _, by omega, by rw [upF, if_pos c], c, fun k h1 h2 => absurd h2 (by omega)⟩
    · have c' : p i = false := by cases e : p i with
        | false => rfl
        | true => exact absurd e c
      rcases upF_cases p f (i + 1) with ⟨e, g⟩ | ⟨s, h1, h2, e, ps, g⟩
      · refine Or.inl ⟨by rw [upF, if_neg c, e], fun k h1 h2 => ?_⟩
        by_cases d : k = i
        · rw [d]; exact c'
        · exact g k (by omega) (by omega)
      · refine Or.inr ⟨s, by omega, by omega, by rw [upF, if_neg c, e], ps, fun k h3 h4 => ?_⟩
        by_cases d : k = i
        · rw [d]; exact c'
        · exact g k (by omega) h4
theorem tnF_spec (p : Nat → Nat → Bool) (P : Nat) : ∀ f z, (tnF p P f z = none ∧ ∀ y s, z ≤ y → y < z + f → s < P → p y s = false) ∨ ∃ y s, z ≤ y ∧ y < z + f ∧ s < P ∧ tnF p P f z = some s ∧ p y s = true ∧ (∀ y' s', z ≤ y' → y' < y → s' < P → p y' s' = false) ∧ ∀ s', s' < s → p y s' = false
  | 0, z => Or.inl ⟨rfl, fun y s h1 h2 _ => absurd h2 (by omega)⟩
  | f + 1, z => by
    rcases upF_cases (p z) P 0 with ⟨e, g⟩ | ⟨s, _, h2, e, ps, g⟩
    · rcases tnF_spec p P f (z + 1) with ⟨e2, g2⟩ | ⟨y, s, a1, a2, a3, a4, a5, a6, a7⟩
      · refine Or.inl ⟨by rw [tnF, e]; exact e2, fun y s h1 h2 h3 => ?_⟩
        by_cases d : y = z
        · rw [d]; exact g s (by omega) (by omega)
        · exact g2 y s (by omega) (by omega) h3
      · refine Or.inr ⟨y, s, by omega, by omega, a3, by rw [tnF, e]; exact a4, a5, fun y' s' h1 h2 h3 => ?_, a7⟩
        by_cases d : y' = z
        · rw [d]; exact g s' (by omega) (by omega)
        · exact a6 y' s' (by omega) h2 h3
    · exact Or.inr ⟨z, s, Nat.le_refl _, by omega, by omega, by rw [tnF, e], ps, fun y' s' h1 h2 _ => absurd h2 (by omega), fun s' hs' => g s' (by omega) hs'⟩
theorem tbF_spec (q : Q2) (v : Int32) (n : Nat) : ∀ N, N ≤ 2048 → (tbF q v n N = -1 ∧ ∀ s, s < N → ¬ tOk q v n s) ∨ ∃ b, b < N ∧ tbF q v n N = nI b ∧ tOk q v n b ∧ ∀ s, s < N → tOk q v n s → pcN 11 b < pcN 11 s ∨ (pcN 11 b = pcN 11 s ∧ b ≤ s)
  | 0, _ => Or.inl ⟨rfl, fun s hs => absurd hs (Nat.not_lt_zero s)⟩
  | N + 1, hN => by
    have oN := ones_pc N (by omega)
    rcases tbF_spec q v n N (by omega) with ⟨e, g⟩ | ⟨b, hb, e, ok, g⟩
    · by_cases c : tOk q v n N
      · refine Or.inr ⟨N, by omega, ?_, c, fun s hs o => ?_⟩
        · rw [tbF, if_pos ⟨Or.inl (by rw [e]; decide), c⟩]
        · by_cases d : s = N
          · rw [d]; exact Or.inr ⟨rfl, Nat.le_refl _⟩
          · exact absurd o (g s (by omega))
      · refine Or.inl ⟨?_, fun s hs o => ?_⟩
        · rw [tbF, if_neg (fun z => c z.2), e]
        · by_cases d : s = N
          · rw [d] at o; exact c o
          · exact g s (by omega) o
    · have ob := ones_pc b (by omega)
      have l1 := pcN_le 11 N
      have l2 := pcN_le 11 b
      have cond : ((tbF q v n N < 0 ∨ onesF (nI N) 11 < onesF (tbF q v n N) 11) ∧ drysR (turnRQ q (nI N)) n &&& v = 0) ↔ (pcN 11 N < pcN 11 b ∧ tOk q v n N) := by
        rw [e, oN, ob]
        constructor
        · rintro ⟨z | z, o⟩
          · exact absurd z (nI_pos (by omega))
          · exact ⟨cmp_lt (by omega) (by omega) z, o⟩
        · rintro ⟨z, o⟩
          exact ⟨Or.inr ((nI_ltI (by omega) (by omega)).mpr z), o⟩
      by_cases c : pcN 11 N < pcN 11 b ∧ tOk q v n N
      · refine Or.inr ⟨N, by omega, by rw [tbF, if_pos (cond.mpr c)], c.2, fun s hs o => ?_⟩
        by_cases d : s = N
        · rw [d]; exact Or.inr ⟨rfl, Nat.le_refl _⟩
        · have c1 := c.1
          rcases g s (by omega) o with z | z
          · exact Or.inl (by omega)
          · exact Or.inl (by omega)
      · refine Or.inr ⟨b, by omega, by rw [tbF, if_neg (fun z => c (cond.mp z)), e], ok, fun s hs o => ?_⟩
        by_cases d : s = N
        · subst d
          have : ¬ pcN 11 s < pcN 11 b := fun z => c ⟨z, o⟩
          by_cases eq : pcN 11 b = pcN 11 s
          · exact Or.inr ⟨eq, by omega⟩
          · exact Or.inl (by omega)
        · exact g s (by omega) o
/-- smaller sets first, and the best of all sets: the same -/
theorem turnF_eq {q : Q2} (h : okR q) {m n : Nat} (hm : q 7 0 = nI m) (hm2 : m + n ≤ 99999) {v : Int32} (hv : 0 ≤ v ∧ v ≤ 2047) : (∃ b, b < 2048 ∧ tnF (tnP q v n) (2 ^ lastF v 10) (lastF v 10 + 1) 0 = some b ∧ tbF q v n 2048 = nI b) ∨ (tnF (tnP q v n) (2 ^ lastF v 10) (lastF v 10 + 1) 0 = none ∧ tbF q v n 2048 = -1) := by
  have hL : lastF v 10 ≤ 10 := lastF_le v 10
  have hP : 2 ^ lastF v 10 ≤ 2048 := Nat.le_trans (Nat.pow_le_pow_right (by decide) (show lastF v 10 ≤ 11 by omega)) (by decide)
  have hP0 : 0 < 2 ^ lastF v 10 := Nat.pow_pos (by decide)
  have md : ∀ b, tOk q v n b → tOk q v n (b % 2 ^ lastF v 10) := fun b o => tOk_c h hm hm2 hv (fun i hi => by rw [Nat.testBit_mod_two_pow, decide_eq_true hi, Bool.true_and]) hL o
  rcases tbF_spec q v n 2048 (Nat.le_refl _) with ⟨e, g⟩ | ⟨b, hb, e, ok, g⟩ <;> rcases tnF_spec (tnP q v n) (2 ^ lastF v 10) (lastF v 10 + 1) 0 with ⟨e', g'⟩ | ⟨z, s, _, hz, hs, e', ps, lt, first⟩
  · exact Or.inr ⟨e', e⟩
  · exact absurd ((tnP_iff h hm hm2 hv hL (by omega) (by omega)).mp ps).2 (g s (by omega))
  · have c1 := Nat.mod_lt b hP0
    have c2 := pc_small (lastF v 10) (by omega) (b % 2 ^ lastF v 10) c1
    have t := (tnP_iff h hm hm2 hv hL (z := pcN 11 (b % 2 ^ lastF v 10)) (s := b % 2 ^ lastF v 10) (by omega) (by omega)).mpr ⟨rfl, md b ok⟩
    rw [g' _ _ (by omega) (by omega) c1] at t
    exact absurd t (by decide)
  · refine Or.inl ⟨b, hb, ?_, e⟩
    have c1 := Nat.mod_lt b hP0
    have bb : b % 2 ^ lastF v 10 = b := by
      rcases pc_mod (lastF v 10) (by omega) b hb with y | y
      · rcases g _ (show b % 2 ^ lastF v 10 < 2048 by omega) (md b ok) with w | w
        · omega
        · omega
      · exact y
    rw [bb] at c1
    have sp := (tnP_iff h hm hm2 hv hL (by omega) (by omega)).mp ps
    have l := pcN_le 11 b
    have no : ∀ y, tnP q v n y b = true → pcN 11 b = y → (y < z ∨ (y = z ∧ b < s)) → False := by
      intro y t _ w
      rcases w with w | w
      · rw [lt y b (by omega) w c1] at t; exact absurd t (by decide)
      · rw [w.1, first b w.2] at t; exact absurd t (by decide)
    have tb := (tnP_iff h hm hm2 hv hL (z := pcN 11 b) (s := b) hb l).mpr ⟨rfl, ok⟩
    have sp1 := sp.1
    rcases g s (by omega) sp.2 with w | w
    · exact absurd (Or.inl (by omega)) (no (pcN 11 b) tb rfl)
    · by_cases d : b = s
      · rw [d, e']
      · exact absurd (Or.inr ⟨by omega, by omega⟩) (no (pcN 11 b) tb rfl)
