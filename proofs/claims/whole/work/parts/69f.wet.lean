/-! bits of an int: bt and its rows are pasted from the kit's laws -/
def bt (x : Int32) (i : Nat) : Bool := x.toBitVec.getLsbD i
theorem b_ext {x y : Int32} (h : ∀ i, i < 32 → bt x i = bt y i) : x = y := Int32.toBitVec_inj.mp (BitVec.eq_of_getLsbD_eq (fun i hi => h i hi))
theorem b_or (x y : Int32) (i : Nat) : bt (x ||| y) i = (bt x i || bt y i) := by unfold bt; rw [Int32.toBitVec_or, BitVec.getLsbD_or]
theorem b_and (x y : Int32) (i : Nat) : bt (x &&& y) i = (bt x i && bt y i) := by unfold bt; rw [Int32.toBitVec_and, BitVec.getLsbD_and]
theorem b_0 (i : Nat) : bt 0 i = false := BitVec.getLsbD_zero
theorem s_l : ∀ n, n < 32 → ((nI n &&& 31).toBitVec.smod 32).toNat = n := by decide +kernel
theorem b_sshr (n : Nat) (hn : n < 32) (x : Int32) {i : Nat} (hi : i < 32) : bt (x >>> (nI n &&& 31)) i = if n + i < 32 then bt x (n + i) else bt x 31 := by
  unfold bt
  rw [Int32.toBitVec_shiftRight]
  show (x.toBitVec.sshiftRight ((nI n &&& 31).toBitVec.smod 32).toNat).getLsbD i = _
  rw [s_l n hn, BitVec.getLsbD_sshiftRight, BitVec.msb_eq_getLsbD_last]
  simp [hi]
theorem bt_bit : ∀ t, t < 11 → ∀ j, j < 32 → bt (bitI t) j = decide (j = t) := by decide +kernel
theorem bt_1 : ∀ i, i < 32 → bt 1 i = decide (i = 0) := by decide +kernel
theorem and_0 {a b : Int32} : a &&& b = 0 ↔ ∀ j, j < 32 → ¬ (bt a j = true ∧ bt b j = true) := by
  constructor
  · intro h j _ z
    have e : bt (a &&& b) j = false := by rw [h]; exact b_0 j
    rw [b_and, z.1, z.2] at e
    exact absurd e (by decide)
  · intro h
    refine b_ext (fun j hj => ?_)
    rw [b_and, b_0]
    cases ha : bt a j
    · rfl
    · cases hb : bt b j
      · rfl
      · exact absurd ⟨ha, hb⟩ (h j hj)
theorem shr_0 {x : Int32} {j : Nat} (hj : j < 11) : x >>> (nI j &&& 31) &&& 1 = 0 ↔ bt x j = false := by
  rw [and_0]
  constructor
  · intro h
    have g := h 0 (by decide)
    rw [b_sshr j (by omega) x (by decide), if_pos (by omega), bt_1 0 (by decide)] at g
    cases e : bt x j
    · rfl
    · exact absurd ⟨e, rfl⟩ g
  · intro h i hi z
    have i0 : i = 0 := by
      have z2 := z.2
      rw [bt_1 i hi] at z2
      exact of_decide_eq_true z2
    subst i0
    have z1 := z.1
    rw [b_sshr j (by omega) x (by decide), if_pos (by omega), show j + 0 = j from rfl, h] at z1
    exact absurd z1 (by decide)
theorem ag_left {j t : Nat} {q q' : Q2} (h : ag j q q') (ht : t ≤ j) : leftF q t = leftF q' t := by
  unfold leftF; rw [h.1 1 (by decide) t ht, h.1 0 (by decide) t ht, h.1 2 (by decide) t ht, h.2.1]
theorem ph_left {q : Q2} (hsp : spOk q) {last k : Nat} (hl : last ≤ 10) (hk : k ≤ last) : leftF (phS q last k) (last - k) = leftF (bringF q 0 (q 7 2)) (last - k) := by
  rw [← ag_left (ag_ph2 (q := q) (q' := q) ag.rf hsp hl k (by omega)) (Nat.sub_le last k)]
  rw [phS_eq hsp (10 - last + k) (by omega)]
  have hs : spOk (kpD (bringF q 0 (q 7 2)) (10 - last + k)) := spOk_c hsp (by rw [kpD_4, bringF_4])
  exact sm_left ((sm_ouD hs (goA (bringF q 0 (q 7 2))) (10 - last + k) (by omega)).tr (sm_kpD (10 - last + k) (by omega)))
theorem phD_bt {q : Q2} (hsp : spOk q) {last : Nat} (hl : last ≤ 10) {j : Nat} (hj : j < 32) : ∀ k, k ≤ last + 1 → (bt (phD q last k) j = true ↔ last < j + k ∧ j ≤ last ∧ leftF (bringF q 0 (q 7 2)) j < 0)
  | 0, _ => ⟨fun z => absurd ((b_0 j).symm.trans z) (by decide), fun z => absurd z.2.1 (by have z1 := z.1; omega)⟩
  | k + 1, hk => by
    have ih := phD_bt hsp hl hj k (by omega)
    rw [phD, stepD, ph_left hsp hl (by omega)]
    split
    · next c =>
      rw [b_or, Bool.or_eq_true, ih, bt_bit (last - k) (by omega) j hj, decide_eq_true_iff]
      constructor
      · rintro (z | z)
        · exact ⟨by have z1 := z.1; omega, z.2⟩
        · rw [z]; exact ⟨by omega, by omega, c⟩
      · intro z
        by_cases e : j = last - k
        · exact Or.inr e
        · exact Or.inl ⟨by have z1 := z.1; have z2 := z.2.1; omega, z.2⟩
    · next c =>
      rw [ih]
      constructor
      · exact fun z => ⟨by have z1 := z.1; omega, z.2⟩
      · intro z
        refine ⟨?_, z.2⟩
        by_cases e : j = last - k
        · exact absurd (e ▸ z.2.2) c
        · have z1 := z.1
          have z2 := z.2.1
          omega
theorem dryM_bt {q : Q2} (hsp : spOk q) {last : Nat} (hl : last ≤ 10) {j : Nat} (hj : j < 32) : bt (dryM q last) j = true ↔ j ≤ last ∧ leftF (bringF q 0 (q 7 2)) j < 0 := by
  unfold dryM
  rw [phD_bt hsp hl hj (last + 1) (Nat.le_refl _)]
  exact ⟨fun z => z.2, fun z => ⟨by omega, z⟩⟩
theorem hoursM_s (q : Q2) (last : Nat) : ∀ k, hoursM (hourM q last) last k = hoursM q last (k + 1)
  | 0 => rfl
  | k + 1 => by
    show hourM (hoursM (hourM q last) last k) last = hourM (hoursM q last (k + 1)) last
    rw [hoursM_s q last k]
theorem wetR_iff (hs : Int32) (last : Nat) : ∀ (m : Nat) (q : Q2), (¬ wetR hs last m q = 0) ↔ ∀ k, k < m → dryM (hoursM q last k) last &&& hs = 0
  | 0, q => ⟨fun _ k h => absurd h (Nat.not_lt_zero k), fun _ => by unfold wetR; decide⟩
  | m + 1, q => by
    rw [wetR]
    split
    · next c =>
      rw [wetR_iff hs last m (hourM q last)]
      constructor
      · intro z k hk
        cases k with
        | zero => exact c
        | succ k => rw [← hoursM_s]; exact z k (by omega)
      · intro z k hk
        rw [hoursM_s]
        exact z (k + 1) (by omega)
    · next c => exact ⟨fun z => absurd rfl z, fun z => absurd (z 0 (by omega)) c⟩
theorem drysM_bt (q : Q2) (j : Nat) : ∀ n, bt (drysM q 10 n) j = true ↔ ∃ k, k < n ∧ bt (dryM (hoursM q 10 k) 10) j = true
  | 0 => ⟨fun z => absurd ((b_0 j).symm.trans z) (by decide), fun ⟨k, hk, _⟩ => absurd hk (Nat.not_lt_zero k)⟩
  | n + 1 => by
    rw [drysM, b_or, Bool.or_eq_true, drysM_bt q j n]
    constructor
    · rintro (⟨k, hk, z⟩ | z)
      · exact ⟨k, by omega, z⟩
      · exact ⟨n, by omega, z⟩
    · rintro ⟨k, hk, z⟩
      by_cases e : k = n
      · subst e; exact Or.inr z
      · exact Or.inl ⟨k, by omega, z⟩
/-- the houses down to j alone tell whether j is dry -/
theorem dry_last {q : Q2} (hsp : spOk q) {last j : Nat} (hl : last ≤ 10) (hj : j ≤ last) (k : Nat) : bt (dryM (hoursM q last k) last) j = bt (dryM (hoursM q 10 k) 10) j := by
  have g := ag_hours (q := q) (q' := q) ag.rf hsp hl k
  have s1 : spOk (hoursM q last k) := spOk_c hsp (hoursM_4 q last k)
  have s2 : spOk (hoursM q 10 k) := spOk_c hsp (hoursM_4 q 10 k)
  rw [Bool.eq_iff_iff, dryM_bt s1 hl (by omega), dryM_bt s2 (Nat.le_refl _) (by omega)]
  have e : leftF (bringF (hoursM q last k) 0 (hoursM q last k 7 2)) j = leftF (bringF (hoursM q 10 k) 0 (hoursM q 10 k 7 2)) j := by
    rw [g.2.2]
    exact (ag_left (ag_bring g 0 _) hj).symm
  rw [e]
  exact ⟨fun z => ⟨by omega, z.2⟩, fun z => ⟨hj, z.2⟩⟩
theorem wet_eq {q : Q2} (h : okR q) {m n last : Nat} (hm : q 7 0 = nI m) (hm2 : m + n ≤ 99999) (hl : last ≤ 10) {hs : Int32} (hb : ∀ j, j < 32 → bt hs j = true → j ≤ last) : (¬ wetR hs last n q = 0) ↔ drysR q n &&& hs = 0 := by
  rw [wetR_iff, ← drys_eq h hm n hm2, and_0]
  constructor
  · intro z j hj w
    obtain ⟨k, hk, y⟩ := (drysM_bt q j n).mp w.1
    rw [← dry_last h.1.1 hl (hb j hj w.2) k] at y
    exact (and_0.mp (z k hk)) j hj ⟨y, w.2⟩
  · intro z k hk
    rw [and_0]
    intro j hj w
    refine z j hj ⟨(drysM_bt q j n).mpr ⟨k, hk, ?_⟩, w.2⟩
    rw [← dry_last h.1.1 hl (hb j hj w.2) k]
    exact w.1
theorem bit_0 {x : Int32} {j : Nat} (hj : j < 11) : x &&& bitI j = 0 ↔ bt x j = false := by
  rw [and_0]
  constructor
  · intro z
    cases e : bt x j
    · rfl
    · exact absurd ⟨e, (bt_bit j hj j (by omega)).trans (decide_eq_true rfl)⟩ (z j (by omega))
  · intro z i hi w
    have w2 := w.2
    rw [bt_bit j hj i hi] at w2
    have e := of_decide_eq_true w2
    subst e
    rw [z] at w
    exact absurd w.1 (by decide)
/-- a house stays wet: on both sides the same -/
theorem wetB_eq {q : Q2} (h : okR q) {m n j : Nat} (hm : q 7 0 = nI m) (hm2 : m + n ≤ 99999) (hj : j < 11) : decide (¬ wetR (bitI j) j n q = 0) = wetB q j n := by
  rw [Bool.eq_iff_iff, decide_eq_true_iff, wet_eq h hm hm2 (show j ≤ 10 by omega) (fun i hi z => ?_), bit_0 hj]
  · unfold wetB
    rw [decide_eq_true_iff, shr_0 hj]
  · rw [bt_bit j hj i hi] at z
    exact Nat.le_of_eq (of_decide_eq_true z)
