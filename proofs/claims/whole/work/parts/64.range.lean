theorem sub_lt0 {a b : Nat} (h : a < b) (hb : b < 2 ^ 30) : nI a - nI b < 0 := by
  rw [Int32.lt_iff_toInt_lt, pk_sub_toInt (by omega) hb]
  show (a : Int) - b < 0
  omega
theorem mxs {a b : Nat} (ha : a < 2 ^ 30) (hb : b < 2 ^ 30) : mx 0 (nI a - nI b) = nI (a - b) := by
  by_cases h : b ≤ a
  · rw [pk_sub h, mx0_p (nI_pos (by omega))]
  · rw [mx0_n (sub_lt0 (by omega) hb), show a - b = 0 by omega]; rfl
theorem comes_ho {q : Q2} {u : Nat} {v : Int32} (h1 : inR 9999 (q 1 u)) (hv : inR 20000 v) : comesR q u v = hoF q u v := by
  have e : mx 0 (q 1 u + v - 9999) = q 1 u + v - mn 9999 (q 1 u + v) := by
    obtain ⟨a, ha, ea⟩ := h1
    obtain ⟨v, hv, rfl⟩ := hv
    rw [ea, show (9999 : Int32) = nI 9999 from rfl, nI_add, mxs (by omega) (by omega), mn_nI (by omega) (by omega), pk_sub (by omega)]
    exact congrArg nI (by omega)
  unfold comesR hoF
  rw [lose_up (fun z => absurd z.1 (by decide)), e]
theorem leftF_n {q : Q2} {j a u : Nat} (h1 : q 1 j = nI a) (hu : useF (q 0 j) (q 2 j) (q 7 0) = nI u) (ha : a < 2 ^ 30) (hu2 : u < 2 ^ 30) : mx 0 (leftF q j) = nI (a - u) := by
  unfold leftF; rw [h1, hu]; exact mxs ha hu2

theorem use_in {k nd hr : Nat} (hk : k < 7) (hn : nd ≤ 99) : ∃ u : Nat, u ≤ 300 ∧ useF (nI k) (nI nd) (nI hr) = nI u := by
  have h2 : (2 : Int32) * nI nd = nI (2 * nd) := pk_mul 2 nd
  have h3 : mx 0 (2 * nI nd - 3) = nI (2 * nd - 3) := by rw [h2]; exact mxs (b := 3) (by omega) (by decide)
  have h1 : nI nd + 1 = nI (nd + 1) := nI_add nd 1
  rcases (show k = 0 ∨ k = 1 ∨ k = 2 ∨ k = 3 ∨ k = 4 ∨ k = 5 ∨ k = 6 by omega) with rfl | rfl | rfl | rfl | rfl | rfl | rfl
  · exact ⟨nd, by omega, by unfold useF; rw [if_neg (by decide), if_neg (by decide), if_neg (by decide), if_neg (by decide), if_neg (by decide)]⟩
  · unfold useF; rw [if_pos (by decide)]
    split
    · exact ⟨nd, by omega, rfl⟩
    · exact ⟨0, by omega, rfl⟩
  · exact ⟨2 * nd, by omega, by unfold useF; rw [if_neg (by decide), if_pos (by decide), h2]⟩
  · exact ⟨2 * nd - 3, by omega, by unfold useF; rw [if_neg (by decide), if_neg (by decide), if_pos (by decide), h3]⟩
  · unfold useF; rw [if_neg (by decide), if_neg (by decide), if_neg (by decide), if_pos (by decide)]
    split
    · exact ⟨2 * nd - 3, by omega, h3⟩
    · exact ⟨0, by omega, rfl⟩
  · exact ⟨nd, by omega, by unfold useF; rw [if_neg (by decide), if_neg (by decide), if_neg (by decide), if_neg (by decide), if_neg (by decide)]⟩
  · unfold useF; rw [if_neg (by decide), if_neg (by decide), if_neg (by decide), if_neg (by decide), if_pos (by decide)]
    split
    · exact ⟨nd + 1, by omega, h1⟩
    · exact ⟨1, by omega, rfl⟩
theorem keep_in {k hd nd : Nat} (hk : k < 7) (hh : hd ≤ 999) (hn : nd ≤ 99) : ∃ u : Nat, u ≤ 1200 ∧ keepF (nI k) (nI hd) (nI nd) = nI u := by
  have h2 : nI hd / 2 = nI (hd / 2) := pk_div (d := 2) (by omega) (by decide) (by decide)
  unfold keepF
  split
  · exact ⟨hd / 2, by omega, h2⟩
  · split
    · exact ⟨hd / 2 + nd, by omega, by rw [h2, nI_add]⟩
    · split
      · exact ⟨hd + 10, by omega, nI_add hd 10⟩
      · exact ⟨hd, by omega, rfl⟩
theorem lose_in {k : Int32} : ∃ u : Nat, u ≤ 5 ∧ loseK k = nI u := by
  unfold loseK
  split
  · exact ⟨5, by omega, rfl⟩
  · split
    · exact ⟨1, by omega, rfl⟩
    · exact ⟨0, by omega, rfl⟩
/-- a quarter in its ranges -/
def okR (q : Q2) : Prop := okQ q ∧ (∀ j, j < 11 → inR 9999 (q 1 j) ∧ inR 99 (q 2 j) ∧ inR 999 (q 3 j) ∧ inR 9999 (q 5 j)) ∧ inR 999999 (q 7 3) ∧ inR 999999 (q 7 4) ∧ inR 999 (q 7 2) ∧ ∃ n : Nat, n < 2 ^ 30 ∧ q 7 0 = nI n
theorem okR_v {q : Q2} (h : okR q) {j : Nat} (hj : j < 11) : ∃ a u K : Nat, a ≤ 9999 ∧ u ≤ 300 ∧ K ≤ 1200 ∧ q 1 j = nI a ∧ mx 0 (leftF q j) = nI (a - u) ∧ keepF (q 0 j) (q 3 j) (q 2 j) = nI K ∧ ktA q j = nI (min (a - u) K) ∧ goA q j = nI (a - u - K) := by
  obtain ⟨k, hk, e0⟩ := h.1.2 j hj
  obtain ⟨⟨a, ha, e1⟩, ⟨nd, hn, e2⟩, ⟨hd, hh, e3⟩, _⟩ := h.2.1 j hj
  obtain ⟨n, hn0, e7⟩ := h.2.2.2.2.2
  obtain ⟨u, hu, eu⟩ := use_in (hr := n) hk hn
  obtain ⟨K, hK, eK⟩ := keep_in hk hh hn
  have hl : mx 0 (leftF q j) = nI (a - u) := leftF_n e1 (by rw [e0, e2, e7]; exact eu) (by omega) (by omega)
  have hk2 : keepF (q 0 j) (q 3 j) (q 2 j) = nI K := by rw [e0, e3, e2]; exact eK
  have hkt : ktA q j = nI (min (a - u) K) := by rw [ktA, hl, hk2]; exact mn_nI (by omega) (by omega)
  refine ⟨a, u, K, ha, hu, hK, e1, hl, hk2, hkt, ?_⟩
  rw [goA, hkt, hl, pk_sub (Nat.min_le_left _ _)]
  exact congrArg nI (by omega)
