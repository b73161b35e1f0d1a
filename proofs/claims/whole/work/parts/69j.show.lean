theorem us_n (x : Int32) : ∃ k : Nat, k < 2 ^ 24 ∧ us x 8 = nI k := by
  have l := x.toBitVec.isLt
  refine ⟨x.toBitVec.toNat / 2 ^ 8, by omega, ?_⟩
  apply Int32.toBitVec_inj.mp
  apply BitVec.eq_of_toNat_eq
  rw [show (us x 8).toBitVec.toNat = x.toBitVec.toNat / 2 ^ 8 from pk_ushr x 8 8 (by decide)]
  show _ = (BitVec.ofNat 32 (x.toBitVec.toNat / 2 ^ 8)).toNat
  rw [BitVec.toNat_ofNat, Nat.mod_eq_of_lt (by omega)]
theorem rain_in (x : Int32) : inR 999 (us x 8 - us x 8 / 100 * 100) := by
  obtain ⟨k, hk, e⟩ := us_n x
  rw [e, show (100 : Int32) = nI 100 from rfl, pk_div (d := 100) (by omega) (by decide) (by decide), pk_mul, pk_sub (by omega)]
  exact ⟨_, by omega, rfl⟩
theorem okR_rainD {q : Q2} (h : okR q) : okR (rainD q) := okR_72 (okR_71 h) (rain_in _)
theorem rainD_r (q : Q2) : ∀ r, r ≠ 7 → rainD q r = q r := fun r hr => by
  unfold rainD
  rw [up2_n _ _ _ hr, up2_n _ _ _ hr]
theorem rainD_7 (q : Q2) : rainD q 7 0 = q 7 0 := by
  unfold rainD
  rw [up2_sn _ _ _ (by decide), up2_sn _ _ _ (by decide)]
theorem show_eq {q : Q2} (h : okR q) {m : Nat} (hm : q 7 0 = nI m) : ∀ n, m + n ≤ 99999 → showQ q n = showR q n ∧ okR (showR q n) ∧ showR q n 7 0 = nI (m + n) ∧ showN q n = showRN q n
  | 0, _ => ⟨rfl, h, hm, rfl⟩
  | n + 1, hn => by
    obtain ⟨h1, h2, h3, h4⟩ := show_eq h hm n (by omega)
    have o := okR_rainD h2
    have e7 : rainD (showR q n) 7 0 = nI (m + n) := (rainD_7 _).trans h3
    have hh : inR 99998 (rainD (showR q n) 7 0) := ⟨m + n, by omega, e7⟩
    refine ⟨?_, okR_hour o hh, ?_, ?_⟩
    · show hourM (rainD (showQ q n)) 10 = hourR0 (rainD (showR q n))
      rw [h1]
      exact hour_eq o hh
    · show hourR0 (rainD (showR q n)) 7 0 = nI (m + n + 1)
      rw [hour_7 o, e7]
      exact nI_add (m + n) 1
    · rw [showN, showRN, h1, h4, dry_eq o]
