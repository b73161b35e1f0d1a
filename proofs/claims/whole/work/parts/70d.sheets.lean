section BO3
variable {l : Launch} {G : GB} {a b : Nat → Nat} {k : Nat} {x y : Q3}
theorem s_of {s : Int32} (h : 0 ≤ s ∧ s ≤ 3) : s = nI 0 ∨ s = nI 1 ∨ s = nI 2 ∨ s = nI 3 := by
  obtain ⟨i, hi, rfl⟩ := inU_of (n := 3) rfl h
  rcases (show i = 0 ∨ i = 1 ∨ i = 2 ∨ i = 3 by omega) with rfl | rfl | rfl | rfl
  · exact Or.inl rfl
  · exact Or.inr (Or.inl rfl)
  · exact Or.inr (Or.inr (Or.inl rfl))
  · exact Or.inr (Or.inr (Or.inr rfl))
theorem b_turned (hR : Rel k x y) (hk : k < 512) (s h : Int32) : PairI l G a b yX5_turned cX5_turned 6 yX6_turned cX6_turned 6 [.int s, .int h] k x y := by
  obtain ⟨m, hm, e7⟩ := hR.2.1.2.2
  by_cases hs : 0 ≤ s ∧ s ≤ 3
  · rcases s_of hs with rfl | rfl | rfl | rfl
    · have es : x 8 = y 8 := hR.s (s := 0) (by decide)
      obtain ⟨sn, hsn, esn⟩ : ∃ n : Nat, n ≤ 40 ∧ x 8 1 1 = nI n := hR.2.2.2.2 0 (by decide)
      have esn' : y 8 1 1 = nI sn := by rw [← es]; exact esn
      by_cases hb : x 8 1 0 = 0
      · exact PairI.mk (c_X5_turned_miss_0 l G a x h hb) (c_X6_turned_miss_0 l G b y h (by rw [← es]; exact hb)) (rgp ⟨rfl, rfl, rfl, rfl⟩) rfl (hR.tell 5)
      · by_cases hh : okH h
        · obtain ⟨j, hj, rfl⟩ := okH_of hh
          have e := turned_eq hR.oR e7 (show m + sn ≤ 99999 by omega) hj (x 8 0)
          exact PairI.mk (c_X5_turned_ok_0 l G a x j sn hb hj esn hsn hR.sp) (c_X6_turned_ok_0 l G b y j sn (by rw [← es]; exact hb) hj esn' hsn hR.oM) (rgp ⟨rfl, rfl, rfl, rfl⟩) (by rw [e, es, hR.q]) hR.id
        · exact PairI.mk (c_X5_turned_bad_0 l G a x h hb hh) (c_X6_turned_bad_0 l G b y h (by rw [← es]; exact hb) hh) (rgp ⟨rfl, rfl, rfl, rfl⟩) rfl (hR.tell 0)
    · have es : x 9 = y 9 := hR.s (s := 1) (by decide)
      obtain ⟨sn, hsn, esn⟩ : ∃ n : Nat, n ≤ 40 ∧ x 9 1 1 = nI n := hR.2.2.2.2 1 (by decide)
      have esn' : y 9 1 1 = nI sn := by rw [← es]; exact esn
      by_cases hb : x 9 1 0 = 0
      · exact PairI.mk (c_X5_turned_miss_1 l G a x h hb) (c_X6_turned_miss_1 l G b y h (by rw [← es]; exact hb)) (rgp ⟨rfl, rfl, rfl, rfl⟩) rfl (hR.tell 5)
      · by_cases hh : okH h
        · obtain ⟨j, hj, rfl⟩ := okH_of hh
          have e := turned_eq hR.oR e7 (show m + sn ≤ 99999 by omega) hj (x 9 0)
          exact PairI.mk (c_X5_turned_ok_1 l G a x j sn hb hj esn hsn hR.sp) (c_X6_turned_ok_1 l G b y j sn (by rw [← es]; exact hb) hj esn' hsn hR.oM) (rgp ⟨rfl, rfl, rfl, rfl⟩) (by rw [e, es, hR.q]) hR.id
        · exact PairI.mk (c_X5_turned_bad_1 l G a x h hb hh) (c_X6_turned_bad_1 l G b y h (by rw [← es]; exact hb) hh) (rgp ⟨rfl, rfl, rfl, rfl⟩) rfl (hR.tell 0)
    · have es : x 10 = y 10 := hR.s (s := 2) (by decide)
      obtain ⟨sn, hsn, esn⟩ : ∃ n : Nat, n ≤ 40 ∧ x 10 1 1 = nI n := hR.2.2.2.2 2 (by decide)
      have esn' : y 10 1 1 = nI sn := by rw [← es]; exact esn
      by_cases hb : x 10 1 0 = 0
      · exact PairI.mk (c_X5_turned_miss_2 l G a x h hb) (c_X6_turned_miss_2 l G b y h (by rw [← es]; exact hb)) (rgp ⟨rfl, rfl, rfl, rfl⟩) rfl (hR.tell 5)
      · by_cases hh : okH h
        · obtain ⟨j, hj, rfl⟩ := okH_of hh
          have e := turned_eq hR.oR e7 (show m + sn ≤ 99999 by omega) hj (x 10 0)
          exact PairI.mk (c_X5_turned_ok_2 l G a x j sn hb hj esn hsn hR.sp) (c_X6_turned_ok_2 l G b y j sn (by rw [← es]; exact hb) hj esn' hsn hR.oM) (rgp ⟨rfl, rfl, rfl, rfl⟩) (by rw [e, es, hR.q]) hR.id
        · exact PairI.mk (c_X5_turned_bad_2 l G a x h hb hh) (c_X6_turned_bad_2 l G b y h (by rw [← es]; exact hb) hh) (rgp ⟨rfl, rfl, rfl, rfl⟩) rfl (hR.tell 0)
    · have es : x 11 = y 11 := hR.s (s := 3) (by decide)
      obtain ⟨sn, hsn, esn⟩ : ∃ n : Nat, n ≤ 40 ∧ x 11 1 1 = nI n := hR.2.2.2.2 3 (by decide)
      have esn' : y 11 1 1 = nI sn := by rw [← es]; exact esn
      by_cases hb : x 11 1 0 = 0
      · exact PairI.mk (c_X5_turned_miss_3 l G a x h hb) (c_X6_turned_miss_3 l G b y h (by rw [← es]; exact hb)) (rgp ⟨rfl, rfl, rfl, rfl⟩) rfl (hR.tell 5)
      · by_cases hh : okH h
        · obtain ⟨j, hj, rfl⟩ := okH_of hh
          have e := turned_eq hR.oR e7 (show m + sn ≤ 99999 by omega) hj (x 11 0)
          exact PairI.mk (c_X5_turned_ok_3 l G a x j sn hb hj esn hsn hR.sp) (c_X6_turned_ok_3 l G b y j sn (by rw [← es]; exact hb) hj esn' hsn hR.oM) (rgp ⟨rfl, rfl, rfl, rfl⟩) (by rw [e, es, hR.q]) hR.id
        · exact PairI.mk (c_X5_turned_bad_3 l G a x h hb hh) (c_X6_turned_bad_3 l G b y h (by rw [← es]; exact hb) hh) (rgp ⟨rfl, rfl, rfl, rfl⟩) rfl (hR.tell 0)
  · exact PairI.mk (c_X5_turned_out l G a x s h hs) (c_X6_turned_out l G b y s h hs) (rgp ⟨rfl, rfl, rfl, rfl⟩) rfl (hR.tell 0)
theorem b_kinds (hR : Rel k x y) (hk : k < 512) (s h : Int32) : PairI l G a b yX5_kinds cX5_kinds 6 yX6_kinds cX6_kinds 6 [.int s, .int h] k x y := by
  obtain ⟨m, hm, e7⟩ := hR.2.1.2.2
  by_cases hs : 0 ≤ s ∧ s ≤ 3
  · rcases s_of hs with rfl | rfl | rfl | rfl
    · have es : x 8 = y 8 := hR.s (s := 0) (by decide)
      obtain ⟨sn, hsn, esn⟩ : ∃ n : Nat, n ≤ 40 ∧ x 8 1 1 = nI n := hR.2.2.2.2 0 (by decide)
      have esn' : y 8 1 1 = nI sn := by rw [← es]; exact esn
      by_cases hb : x 8 1 0 = 0
      · exact PairI.mk (c_X5_kinds_miss_0 l G a x h hb) (c_X6_kinds_miss_0 l G b y h (by rw [← es]; exact hb)) (rgp ⟨rfl, rfl, rfl, rfl⟩) rfl (hR.tell 5)
      · by_cases hh : okH h
        · obtain ⟨j, hj, rfl⟩ := okH_of hh
          have e := kinds_eq hR.oR e7 (show m + sn ≤ 99999 by omega) hj (x 8 0)
          exact PairI.mk (c_X5_kinds_ok_0 l G a x j sn hb hj esn hsn hR.sp) (c_X6_kinds_ok_0 l G b y j sn (by rw [← es]; exact hb) hj esn' hsn hR.oM) (rgp ⟨rfl, rfl, rfl, rfl⟩) (by rw [e, es, hR.q]) hR.id
        · exact PairI.mk (c_X5_kinds_bad_0 l G a x h hb hh) (c_X6_kinds_bad_0 l G b y h (by rw [← es]; exact hb) hh) (rgp ⟨rfl, rfl, rfl, rfl⟩) rfl (hR.tell 0)
    · have es : x 9 = y 9 := hR.s (s := 1) (by decide)
      obtain ⟨sn, hsn, esn⟩ : ∃ n : Nat, n ≤ 40 ∧ x 9 1 1 = nI n := hR.2.2.2.2 1 (by decide)
      have esn' : y 9 1 1 = nI sn := by rw [← es]; exact esn
      by_cases hb : x 9 1 0 = 0
      · exact PairI.mk (c_X5_kinds_miss_1 l G a x h hb) (c_X6_kinds_miss_1 l G b y h (by rw [← es]; exact hb)) (rgp ⟨rfl, rfl, rfl, rfl⟩) rfl (hR.tell 5)
      · by_cases hh : okH h
        · obtain ⟨j, hj, rfl⟩ := okH_of hh
          have e := kinds_eq hR.oR e7 (show m + sn ≤ 99999 by omega) hj (x 9 0)
          exact PairI.mk (c_X5_kinds_ok_1 l G a x j sn hb hj esn hsn hR.sp) (c_X6_kinds_ok_1 l G b y j sn (by rw [← es]; exact hb) hj esn' hsn hR.oM) (rgp ⟨rfl, rfl, rfl, rfl⟩) (by rw [e, es, hR.q]) hR.id
        · exact PairI.mk (c_X5_kinds_bad_1 l G a x h hb hh) (c_X6_kinds_bad_1 l G b y h (by rw [← es]; exact hb) hh) (rgp ⟨rfl, rfl, rfl, rfl⟩) rfl (hR.tell 0)
    · have es : x 10 = y 10 := hR.s (s := 2) (by decide)
      obtain ⟨sn, hsn, esn⟩ : ∃ n : Nat, n ≤ 40 ∧ x 10 1 1 = nI n := hR.2.2.2.2 2 (by decide)
      have esn' : y 10 1 1 = nI sn := by rw [← es]; exact esn
      by_cases hb : x 10 1 0 = 0
      · exact PairI.mk (c_X5_kinds_miss_2 l G a x h hb) (c_X6_kinds_miss_2 l G b y h (by rw [← es]; exact hb)) (rgp ⟨rfl, rfl, rfl, rfl⟩) rfl (hR.tell 5)
      · by_cases hh : okH h
        · obtain ⟨j, hj, rfl⟩ := okH_of hh
          have e := kinds_eq hR.oR e7 (show m + sn ≤ 99999 by omega) hj (x 10 0)
          exact PairI.mk (c_X5_kinds_ok_2 l G a x j sn hb hj esn hsn hR.sp) (c_X6_kinds_ok_2 l G b y j sn (by rw [← es]; exact hb) hj esn' hsn hR.oM) (rgp ⟨rfl, rfl, rfl, rfl⟩) (by rw [e, es, hR.q]) hR.id
        · exact PairI.mk (c_X5_kinds_bad_2 l G a x h hb hh) (c_X6_kinds_bad_2 l G b y h (by rw [← es]; exact hb) hh) (rgp ⟨rfl, rfl, rfl, rfl⟩) rfl (hR.tell 0)
    · have es : x 11 = y 11 := hR.s (s := 3) (by decide)
      obtain ⟨sn, hsn, esn⟩ : ∃ n : Nat, n ≤ 40 ∧ x 11 1 1 = nI n := hR.2.2.2.2 3 (by decide)
      have esn' : y 11 1 1 = nI sn := by rw [← es]; exact esn
      by_cases hb : x 11 1 0 = 0
      · exact PairI.mk (c_X5_kinds_miss_3 l G a x h hb) (c_X6_kinds_miss_3 l G b y h (by rw [← es]; exact hb)) (rgp ⟨rfl, rfl, rfl, rfl⟩) rfl (hR.tell 5)
      · by_cases hh : okH h
        · obtain ⟨j, hj, rfl⟩ := okH_of hh
          have e := kinds_eq hR.oR e7 (show m + sn ≤ 99999 by omega) hj (x 11 0)
          exact PairI.mk (c_X5_kinds_ok_3 l G a x j sn hb hj esn hsn hR.sp) (c_X6_kinds_ok_3 l G b y j sn (by rw [← es]; exact hb) hj esn' hsn hR.oM) (rgp ⟨rfl, rfl, rfl, rfl⟩) (by rw [e, es, hR.q]) hR.id
        · exact PairI.mk (c_X5_kinds_bad_3 l G a x h hb hh) (c_X6_kinds_bad_3 l G b y h (by rw [← es]; exact hb) hh) (rgp ⟨rfl, rfl, rfl, rfl⟩) rfl (hR.tell 0)
  · exact PairI.mk (c_X5_kinds_out l G a x s h hs) (c_X6_kinds_out l G b y s h hs) (rgp ⟨rfl, rfl, rfl, rfl⟩) rfl (hR.tell 0)
theorem begin_sz {s : Q2} {c n : Int32} : beginS s c n 1 1 = n := by
  unfold beginS
  show up2 (up2 s 1 0 c) 1 1 n 1 1 = n
  rw [up2_ss]
theorem b_sheet (hR : Rel k x y) (s c n : Int32) : PairI l G a b yX5_sheet cX5_sheet 4 yX6_sheet cX6_sheet 6 [.int s, .int c, .int n] k x y := by
  by_cases hb : (0 ≤ s ∧ s ≤ 3) ∧ (c = 0 ∨ c = 8 ∨ c = 16 ∨ c = 32)
  · obtain ⟨hs, hc⟩ := hb
    by_cases h1 : n < 0
    · exact PairI.mk (c_X5_sheet_size l G a x s c n hs hc h1) (c_X6_sheet_size l G b y s c n hs hc h1) (rgp ⟨rfl, rfl, rfl, rfl⟩) rfl (hR.tell 6)
    · by_cases h2 : n ≤ 40
      · have sz : ∃ t : Nat, t ≤ 40 ∧ (if c = 0 then 0 else n) = nI t := by
          obtain ⟨t, ht, rfl⟩ := inU_of (n := 40) rfl (x := n) ⟨Int32.not_lt.mp h1, h2⟩
          by_cases c0 : c = 0
          · rw [if_pos c0]; exact ⟨0, by decide, rfl⟩
          · rw [if_neg c0]; exact ⟨t, ht, rfl⟩
        rcases s_of hs with rfl | rfl | rfl | rfl
        · exact PairI.mk (c_X5_sheet_ok_0 l G a x c n hc h1 h2) (c_X6_sheet_ok_0 l G b y c n hc h1 h2) (rgp ⟨rfl, rfl, rfl, rfl⟩) rfl (hR.id.goS (s := 0) (by decide) (by rw [hR.s (s := 0) (by decide)]) (by rw [begin_sz]; exact sz))
        · exact PairI.mk (c_X5_sheet_ok_1 l G a x c n hc h1 h2) (c_X6_sheet_ok_1 l G b y c n hc h1 h2) (rgp ⟨rfl, rfl, rfl, rfl⟩) rfl (hR.id.goS (s := 1) (by decide) (by rw [hR.s (s := 1) (by decide)]) (by rw [begin_sz]; exact sz))
        · exact PairI.mk (c_X5_sheet_ok_2 l G a x c n hc h1 h2) (c_X6_sheet_ok_2 l G b y c n hc h1 h2) (rgp ⟨rfl, rfl, rfl, rfl⟩) rfl (hR.id.goS (s := 2) (by decide) (by rw [hR.s (s := 2) (by decide)]) (by rw [begin_sz]; exact sz))
        · exact PairI.mk (c_X5_sheet_ok_3 l G a x c n hc h1 h2) (c_X6_sheet_ok_3 l G b y c n hc h1 h2) (rgp ⟨rfl, rfl, rfl, rfl⟩) rfl (hR.id.goS (s := 3) (by decide) (by rw [hR.s (s := 3) (by decide)]) (by rw [begin_sz]; exact sz))
      · exact PairI.mk (c_X5_sheet_big l G a x s c n hs hc h1 h2) (c_X6_sheet_big l G b y s c n hs hc h1 h2) (rgp ⟨rfl, rfl, rfl, rfl⟩) rfl (hR.tell 0)
  · exact PairI.mk (c_X5_sheet_bad l G a x s c n hb) (c_X6_sheet_bad l G b y s c n hb) (rgp ⟨rfl, rfl, rfl, rfl⟩) rfl (hR.tell 0)
theorem b_write (hR : Rel k x y) (s i v : Int32) : PairI l G a b yX5_write cX5_write 5 yX6_write cX6_write 5 [.int s, .int i, .int v] k x y := by
  by_cases hs : 0 ≤ s ∧ s ≤ 3
  · rcases s_of hs with rfl | rfl | rfl | rfl
    · have es : x 8 = y 8 := hR.s (s := 0) (by decide)
      obtain ⟨sn, hsn, esn⟩ : ∃ n : Nat, n ≤ 40 ∧ x 8 1 1 = nI n := hR.2.2.2.2 0 (by decide)
      have esn' : y 8 1 1 = nI sn := by rw [← es]; exact esn
      by_cases hb : x 8 1 0 = 0
      · exact PairI.mk (c_X5_write_miss_0 l G a x i v hb) (c_X6_write_miss_0 l G b y i v (by rw [← es]; exact hb)) (rgp ⟨rfl, rfl, rfl, rfl⟩) rfl (hR.tell 5)
      · by_cases hi : 0 ≤ i ∧ i < nI sn
        · obtain ⟨j, hj, rfl⟩ := nI_of (x := i) (Int32.not_lt.mpr hi.1)
          have hj2 : j < sn := cmp_lt (by omega) (by omega) hi.2
          exact PairI.mk (c_X5_write_ok_0 l G a x j sn v hb esn hsn hj2) (c_X6_write_ok_0 l G b y j sn v (by rw [← es]; exact hb) esn' hsn hj2) (rgp ⟨rfl, rfl, rfl, rfl⟩) rfl (hR.id.goS (s := 0) (by decide) (by rw [es]) (by rw [up2_n _ _ _ (by decide)]; exact ⟨sn, hsn, esn⟩))
        · exact PairI.mk (c_X5_write_bad_0 l G a x i v hb (by rw [esn]; exact hi)) (c_X6_write_bad_0 l G b y i v sn (by rw [← es]; exact hb) esn' hsn hi) (rgp ⟨rfl, rfl, rfl, rfl⟩) rfl (hR.tell 0)
    · have es : x 9 = y 9 := hR.s (s := 1) (by decide)
      obtain ⟨sn, hsn, esn⟩ : ∃ n : Nat, n ≤ 40 ∧ x 9 1 1 = nI n := hR.2.2.2.2 1 (by decide)
      have esn' : y 9 1 1 = nI sn := by rw [← es]; exact esn
      by_cases hb : x 9 1 0 = 0
      · exact PairI.mk (c_X5_write_miss_1 l G a x i v hb) (c_X6_write_miss_1 l G b y i v (by rw [← es]; exact hb)) (rgp ⟨rfl, rfl, rfl, rfl⟩) rfl (hR.tell 5)
      · by_cases hi : 0 ≤ i ∧ i < nI sn
        · obtain ⟨j, hj, rfl⟩ := nI_of (x := i) (Int32.not_lt.mpr hi.1)
          have hj2 : j < sn := cmp_lt (by omega) (by omega) hi.2
          exact PairI.mk (c_X5_write_ok_1 l G a x j sn v hb esn hsn hj2) (c_X6_write_ok_1 l G b y j sn v (by rw [← es]; exact hb) esn' hsn hj2) (rgp ⟨rfl, rfl, rfl, rfl⟩) rfl (hR.id.goS (s := 1) (by decide) (by rw [es]) (by rw [up2_n _ _ _ (by decide)]; exact ⟨sn, hsn, esn⟩))
        · exact PairI.mk (c_X5_write_bad_1 l G a x i v hb (by rw [esn]; exact hi)) (c_X6_write_bad_1 l G b y i v sn (by rw [← es]; exact hb) esn' hsn hi) (rgp ⟨rfl, rfl, rfl, rfl⟩) rfl (hR.tell 0)
    · have es : x 10 = y 10 := hR.s (s := 2) (by decide)
      obtain ⟨sn, hsn, esn⟩ : ∃ n : Nat, n ≤ 40 ∧ x 10 1 1 = nI n := hR.2.2.2.2 2 (by decide)
      have esn' : y 10 1 1 = nI sn := by rw [← es]; exact esn
      by_cases hb : x 10 1 0 = 0
      · exact PairI.mk (c_X5_write_miss_2 l G a x i v hb) (c_X6_write_miss_2 l G b y i v (by rw [← es]; exact hb)) (rgp ⟨rfl, rfl, rfl, rfl⟩) rfl (hR.tell 5)
      · by_cases hi : 0 ≤ i ∧ i < nI sn
        · obtain ⟨j, hj, rfl⟩ := nI_of (x := i) (Int32.not_lt.mpr hi.1)
          have hj2 : j < sn := cmp_lt (by omega) (by omega) hi.2
          exact PairI.mk (c_X5_write_ok_2 l G a x j sn v hb esn hsn hj2) (c_X6_write_ok_2 l G b y j sn v (by rw [← es]; exact hb) esn' hsn hj2) (rgp ⟨rfl, rfl, rfl, rfl⟩) rfl (hR.id.goS (s := 2) (by decide) (by rw [es]) (by rw [up2_n _ _ _ (by decide)]; exact ⟨sn, hsn, esn⟩))
        · exact PairI.mk (c_X5_write_bad_2 l G a x i v hb (by rw [esn]; exact hi)) (c_X6_write_bad_2 l G b y i v sn (by rw [← es]; exact hb) esn' hsn hi) (rgp ⟨rfl, rfl, rfl, rfl⟩) rfl (hR.tell 0)
    · have es : x 11 = y 11 := hR.s (s := 3) (by decide)
      obtain ⟨sn, hsn, esn⟩ : ∃ n : Nat, n ≤ 40 ∧ x 11 1 1 = nI n := hR.2.2.2.2 3 (by decide)
      have esn' : y 11 1 1 = nI sn := by rw [← es]; exact esn
      by_cases hb : x 11 1 0 = 0
      · exact PairI.mk (c_X5_write_miss_3 l G a x i v hb) (c_X6_write_miss_3 l G b y i v (by rw [← es]; exact hb)) (rgp ⟨rfl, rfl, rfl, rfl⟩) rfl (hR.tell 5)
      · by_cases hi : 0 ≤ i ∧ i < nI sn
        · obtain ⟨j, hj, rfl⟩ := nI_of (x := i) (Int32.not_lt.mpr hi.1)
          have hj2 : j < sn := cmp_lt (by omega) (by omega) hi.2
          exact PairI.mk (c_X5_write_ok_3 l G a x j sn v hb esn hsn hj2) (c_X6_write_ok_3 l G b y j sn v (by rw [← es]; exact hb) esn' hsn hj2) (rgp ⟨rfl, rfl, rfl, rfl⟩) rfl (hR.id.goS (s := 3) (by decide) (by rw [es]) (by rw [up2_n _ _ _ (by decide)]; exact ⟨sn, hsn, esn⟩))
        · exact PairI.mk (c_X5_write_bad_3 l G a x i v hb (by rw [esn]; exact hi)) (c_X6_write_bad_3 l G b y i v sn (by rw [← es]; exact hb) esn' hsn hi) (rgp ⟨rfl, rfl, rfl, rfl⟩) rfl (hR.tell 0)
  · exact PairI.mk (c_X5_write_out l G a x s i v hs) (c_X6_write_out l G b y s i v hs) (rgp ⟨rfl, rfl, rfl, rfl⟩) rfl (hR.tell 0)
theorem loadN_in {f : Nat → Int32} : ∀ n i, (∀ j, j < i → 0 ≤ f j ∧ f j ≤ 99) → ∀ j, j < loadN f n i → 0 ≤ f j ∧ f j ≤ 99
  | 0, i, h, j, hj => h j hj
  | n + 1, i, h, j, hj => by
    rw [loadN] at hj
    by_cases c : 0 ≤ f i ∧ f i ≤ 99
    · rw [if_pos c] at hj
      refine loadN_in n (i + 1) (fun t ht => ?_) j hj
      by_cases e : t = i
      · rw [e]; exact c
      · exact h t (by omega)
    · rw [if_neg c] at hj
      exact h j hj
theorem qOk_load {k : Nat} {q : Q2} (h : qOk k q) {f : Nat → Int32} : ∀ n, (∀ j, j < n → 0 ≤ f j ∧ f j ≤ 99) → qOk k (loadQ q f n)
  | 0, _ => h
  | n + 1, hf => by
    rw [loadQ]
    exact qOk_set (qOk_load h n (fun j hj => hf j (by omega))) (by decide) ⟨fun e => absurd e (by decide), fun e => absurd e (by decide), fun _ => inR_of rfl (hf n (by omega)), fun e => absurd e (by decide), fun e => absurd e (by decide), fun e => absurd e (by decide)⟩
theorem b_load (hR : Rel k x y) (s : Int32) : PairI l G a b yX5_load cX5_load 4 yX6_load cX6_load 4 [.int s] k x y := by
  by_cases hs : 0 ≤ s ∧ s ≤ 3
  · rcases s_of hs with rfl | rfl | rfl | rfl
    · have es : x 8 = y 8 := hR.s (s := 0) (by decide)
      obtain ⟨sn, hsn, esn⟩ : ∃ n : Nat, n ≤ 40 ∧ x 8 1 1 = nI n := hR.2.2.2.2 0 (by decide)
      have esn' : y 8 1 1 = nI sn := by rw [← es]; exact esn
      by_cases hb : x 8 1 0 = 0
      · exact PairI.mk (c_X5_load_miss_0 l G a x hb) (c_X6_load_miss_0 l G b y (by rw [← es]; exact hb)) (rgp ⟨rfl, rfl, rfl, rfl⟩) rfl (hR.tell 5)
      · exact PairI.mk (c_X5_load_ok_0 l G a x sn hb esn hsn) (c_X6_load_ok_0 l G b y sn (by rw [← es]; exact hb) esn' hsn) (rgp ⟨rfl, rfl, rfl, rfl⟩) (by rw [es]) (hR.id.go0 (by rw [es, hR.q]) (qOk_load hR.id.2.1 _ (loadN_in _ 0 (fun j hj => absurd hj (Nat.not_lt_zero j)))))
    · have es : x 9 = y 9 := hR.s (s := 1) (by decide)
      obtain ⟨sn, hsn, esn⟩ : ∃ n : Nat, n ≤ 40 ∧ x 9 1 1 = nI n := hR.2.2.2.2 1 (by decide)
      have esn' : y 9 1 1 = nI sn := by rw [← es]; exact esn
      by_cases hb : x 9 1 0 = 0
      · exact PairI.mk (c_X5_load_miss_1 l G a x hb) (c_X6_load_miss_1 l G b y (by rw [← es]; exact hb)) (rgp ⟨rfl, rfl, rfl, rfl⟩) rfl (hR.tell 5)
      · exact PairI.mk (c_X5_load_ok_1 l G a x sn hb esn hsn) (c_X6_load_ok_1 l G b y sn (by rw [← es]; exact hb) esn' hsn) (rgp ⟨rfl, rfl, rfl, rfl⟩) (by rw [es]) (hR.id.go0 (by rw [es, hR.q]) (qOk_load hR.id.2.1 _ (loadN_in _ 0 (fun j hj => absurd hj (Nat.not_lt_zero j)))))
    · have es : x 10 = y 10 := hR.s (s := 2) (by decide)
      obtain ⟨sn, hsn, esn⟩ : ∃ n : Nat, n ≤ 40 ∧ x 10 1 1 = nI n := hR.2.2.2.2 2 (by decide)
      have esn' : y 10 1 1 = nI sn := by rw [← es]; exact esn
      by_cases hb : x 10 1 0 = 0
      · exact PairI.mk (c_X5_load_miss_2 l G a x hb) (c_X6_load_miss_2 l G b y (by rw [← es]; exact hb)) (rgp ⟨rfl, rfl, rfl, rfl⟩) rfl (hR.tell 5)
      · exact PairI.mk (c_X5_load_ok_2 l G a x sn hb esn hsn) (c_X6_load_ok_2 l G b y sn (by rw [← es]; exact hb) esn' hsn) (rgp ⟨rfl, rfl, rfl, rfl⟩) (by rw [es]) (hR.id.go0 (by rw [es, hR.q]) (qOk_load hR.id.2.1 _ (loadN_in _ 0 (fun j hj => absurd hj (Nat.not_lt_zero j)))))
    · have es : x 11 = y 11 := hR.s (s := 3) (by decide)
      obtain ⟨sn, hsn, esn⟩ : ∃ n : Nat, n ≤ 40 ∧ x 11 1 1 = nI n := hR.2.2.2.2 3 (by decide)
      have esn' : y 11 1 1 = nI sn := by rw [← es]; exact esn
      by_cases hb : x 11 1 0 = 0
      · exact PairI.mk (c_X5_load_miss_3 l G a x hb) (c_X6_load_miss_3 l G b y (by rw [← es]; exact hb)) (rgp ⟨rfl, rfl, rfl, rfl⟩) rfl (hR.tell 5)
      · exact PairI.mk (c_X5_load_ok_3 l G a x sn hb esn hsn) (c_X6_load_ok_3 l G b y sn (by rw [← es]; exact hb) esn' hsn) (rgp ⟨rfl, rfl, rfl, rfl⟩) (by rw [es]) (hR.id.go0 (by rw [es, hR.q]) (qOk_load hR.id.2.1 _ (loadN_in _ 0 (fun j hj => absurd hj (Nat.not_lt_zero j)))))
  · exact PairI.mk (c_X5_load_out l G a x s hs) (c_X6_load_out l G b y s hs) (rgp ⟨rfl, rfl, rfl, rfl⟩) rfl (hR.tell 0)
theorem b_judge (hR : Rel k x y) (s : Int32) : PairI l G a b yX5_judge cX5_judge 5 yX6_judge cX6_judge 4 [.int s] k x y := by
  by_cases hs : 0 ≤ s ∧ s ≤ 3
  · rcases s_of hs with rfl | rfl | rfl | rfl
    · have es : x 8 = y 8 := hR.s (s := 0) (by decide)
      obtain ⟨sn, hsn, esn⟩ : ∃ n : Nat, n ≤ 40 ∧ x 8 1 1 = nI n := hR.2.2.2.2 0 (by decide)
      have esn' : y 8 1 1 = nI sn := by rw [← es]; exact esn
      by_cases hb : x 8 1 0 = 0
      · exact PairI.mk (c_X5_judge_miss_0 l G a x hb) (c_X6_judge_miss_0 l G b y (by rw [← es]; exact hb)) (rgp ⟨rfl, rfl, rfl, rfl⟩) rfl (hR.tell 5)
      · exact PairI.mk (c_X5_judge_ok_0 l G a x sn hb esn hsn hR.sp) (c_X6_judge_ok_0 l G b y sn (by rw [← es]; exact hb) esn' hsn) (rgp ⟨rfl, rfl, rfl, rfl⟩) (by rw [es, hR.q]) hR.id
    · have es : x 9 = y 9 := hR.s (s := 1) (by decide)
      obtain ⟨sn, hsn, esn⟩ : ∃ n : Nat, n ≤ 40 ∧ x 9 1 1 = nI n := hR.2.2.2.2 1 (by decide)
      have esn' : y 9 1 1 = nI sn := by rw [← es]; exact esn
      by_cases hb : x 9 1 0 = 0
      · exact PairI.mk (c_X5_judge_miss_1 l G a x hb) (c_X6_judge_miss_1 l G b y (by rw [← es]; exact hb)) (rgp ⟨rfl, rfl, rfl, rfl⟩) rfl (hR.tell 5)
      · exact PairI.mk (c_X5_judge_ok_1 l G a x sn hb esn hsn hR.sp) (c_X6_judge_ok_1 l G b y sn (by rw [← es]; exact hb) esn' hsn) (rgp ⟨rfl, rfl, rfl, rfl⟩) (by rw [es, hR.q]) hR.id
    · have es : x 10 = y 10 := hR.s (s := 2) (by decide)
      obtain ⟨sn, hsn, esn⟩ : ∃ n : Nat, n ≤ 40 ∧ x 10 1 1 = nI n := hR.2.2.2.2 2 (by decide)
      have esn' : y 10 1 1 = nI sn := by rw [← es]; exact esn
      by_cases hb : x 10 1 0 = 0
      · exact PairI.mk (c_X5_judge_miss_2 l G a x hb) (c_X6_judge_miss_2 l G b y (by rw [← es]; exact hb)) (rgp ⟨rfl, rfl, rfl, rfl⟩) rfl (hR.tell 5)
      · exact PairI.mk (c_X5_judge_ok_2 l G a x sn hb esn hsn hR.sp) (c_X6_judge_ok_2 l G b y sn (by rw [← es]; exact hb) esn' hsn) (rgp ⟨rfl, rfl, rfl, rfl⟩) (by rw [es, hR.q]) hR.id
    · have es : x 11 = y 11 := hR.s (s := 3) (by decide)
      obtain ⟨sn, hsn, esn⟩ : ∃ n : Nat, n ≤ 40 ∧ x 11 1 1 = nI n := hR.2.2.2.2 3 (by decide)
      have esn' : y 11 1 1 = nI sn := by rw [← es]; exact esn
      by_cases hb : x 11 1 0 = 0
      · exact PairI.mk (c_X5_judge_miss_3 l G a x hb) (c_X6_judge_miss_3 l G b y (by rw [← es]; exact hb)) (rgp ⟨rfl, rfl, rfl, rfl⟩) rfl (hR.tell 5)
      · exact PairI.mk (c_X5_judge_ok_3 l G a x sn hb esn hsn hR.sp) (c_X6_judge_ok_3 l G b y sn (by rw [← es]; exact hb) esn' hsn) (rgp ⟨rfl, rfl, rfl, rfl⟩) (by rw [es, hR.q]) hR.id
  · exact PairI.mk (c_X5_judge_out l G a x s hs) (c_X6_judge_out l G b y s hs) (rgp ⟨rfl, rfl, rfl, rfl⟩) rfl (hR.tell 0)
theorem b_copy (hR : Rel k x y) (s f t o n : Int32) : PairI l G a b yX5_copy cX5_copy 8 yX6_copy cX6_copy 8 [.int s, .int f, .int t, .int o, .int n] k x y := by
  by_cases hb : (0 ≤ s ∧ s ≤ 3) ∧ 0 ≤ t ∧ t ≤ 3
  · obtain ⟨hs, ht⟩ := hb
    obtain ⟨i, hi, rfl⟩ := inU_of (n := 3) rfl hs
    obtain ⟨u, hu, rfl⟩ := inU_of (n := 3) rfl ht
    have ei := hR.s (s := i) (by omega)
    have eu := hR.s (s := u) (by omega)
    obtain ⟨n1, hn1, e1⟩ := hR.2.2.2.2 i (by omega)
    obtain ⟨n2, hn2, e2⟩ := hR.2.2.2.2 u (by omega)
    by_cases h0 : x (8 + i) 1 0 = 0 ∨ x (8 + u) 1 0 = 0
    · exact PairI.mk (c_X5_copy_miss l G a x i u f o n (by omega) (by omega) h0) (c_X6_copy_miss l G b y i u f o n (by omega) (by omega) (by rw [← ei, ← eu]; exact h0)) (rgp ⟨rfl, rfl, rfl, rfl⟩) rfl (hR.tell 5)
    · have h1 : ¬ x (8 + i) 1 0 = 0 := fun z => h0 (Or.inl z)
      have h2 : ¬ x (8 + u) 1 0 = 0 := fun z => h0 (Or.inr z)
      by_cases h3 : x (8 + i) 1 0 = x (8 + u) 1 0
      · by_cases hr : (0 ≤ f ∧ 0 ≤ n ∧ f ≤ x (8 + i) 1 1 ∧ n ≤ x (8 + i) 1 1 - f) ∧ (0 ≤ o ∧ 0 ≤ n ∧ o ≤ x (8 + u) 1 1 ∧ n ≤ x (8 + u) 1 1 - o)
        · obtain ⟨⟨f0, n0, f1, nf⟩, o0, _, o1, no⟩ := hr
          obtain ⟨f, hf, rfl⟩ := nI_of (x := f) (Int32.not_lt.mpr f0)
          obtain ⟨o, ho, rfl⟩ := nI_of (x := o) (Int32.not_lt.mpr o0)
          obtain ⟨n, hn, rfl⟩ := nI_of (x := n) (Int32.not_lt.mpr n0)
          rw [e1] at f1 nf
          rw [e2] at o1 no
          have f2 : f ≤ n1 := cmp_le hf (by omega) f1
          have o2 : o ≤ n2 := cmp_le ho (by omega) o1
          rw [pk_sub f2] at nf
          rw [pk_sub o2] at no
          have nf2 : n ≤ n1 - f := cmp_le hn (by omega) nf
          have no2 : n ≤ n2 - o := cmp_le hn (by omega) no
          have hC := c_X5_copy_ok l G a x i u f o n n1 n2 (by omega) (by omega) h1 h2 h3 e1 e2 (by omega) (by omega) hn1 hn2
          have r : Rel (k + 1) (cpyQ x i f u o n) (cpyQ y i f u o n) := hR.id.goS (s := u) (by omega) (by rw [ei, eu]) ⟨n2, hn2, e2⟩
          have g1 : ¬ y (8 + i) 1 0 = 0 := by rw [← ei]; exact h1
          have g2 : ¬ y (8 + u) 1 0 = 0 := by rw [← eu]; exact h2
          have g3 : y (8 + i) 1 0 = y (8 + u) 1 0 := by rw [← ei, ← eu]; exact h3
          have g5 : y (8 + i) 1 1 = nI n1 := by rw [← ei]; exact e1
          have g7 : y (8 + u) 1 1 = nI n2 := by rw [← eu]; exact e2
          rcases (show i = 0 ∨ i = 1 ∨ i = 2 ∨ i = 3 by omega) with rfl | rfl | rfl | rfl <;> rcases (show u = 0 ∨ u = 1 ∨ u = 2 ∨ u = 3 by omega) with rfl | rfl | rfl | rfl
          · exact PairI.mk hC (c_X6_copy_ok_0_0 l G b y f o n n1 n2 g1 g2 g3 g5 g7 (by omega) (by omega) hn1 hn2) (rgp ⟨rfl, rfl, rfl, rfl⟩) rfl r
          · exact PairI.mk hC (c_X6_copy_ok_0_1 l G b y f o n n1 n2 g1 g2 g3 g5 g7 (by omega) (by omega) hn1 hn2) (rgp ⟨rfl, rfl, rfl, rfl⟩) rfl r
          · exact PairI.mk hC (c_X6_copy_ok_0_2 l G b y f o n n1 n2 g1 g2 g3 g5 g7 (by omega) (by omega) hn1 hn2) (rgp ⟨rfl, rfl, rfl, rfl⟩) rfl r
          · exact PairI.mk hC (c_X6_copy_ok_0_3 l G b y f o n n1 n2 g1 g2 g3 g5 g7 (by omega) (by omega) hn1 hn2) (rgp ⟨rfl, rfl, rfl, rfl⟩) rfl r
          · exact PairI.mk hC (c_X6_copy_ok_1_0 l G b y f o n n1 n2 g1 g2 g3 g5 g7 (by omega) (by omega) hn1 hn2) (rgp ⟨rfl, rfl, rfl, rfl⟩) rfl r
          · exact PairI.mk hC (c_X6_copy_ok_1_1 l G b y f o n n1 n2 g1 g2 g3 g5 g7 (by omega) (by omega) hn1 hn2) (rgp ⟨rfl, rfl, rfl, rfl⟩) rfl r
          · exact PairI.mk hC (c_X6_copy_ok_1_2 l G b y f o n n1 n2 g1 g2 g3 g5 g7 (by omega) (by omega) hn1 hn2) (rgp ⟨rfl, rfl, rfl, rfl⟩) rfl r
          · exact PairI.mk hC (c_X6_copy_ok_1_3 l G b y f o n n1 n2 g1 g2 g3 g5 g7 (by omega) (by omega) hn1 hn2) (rgp ⟨rfl, rfl, rfl, rfl⟩) rfl r
          · exact PairI.mk hC (c_X6_copy_ok_2_0 l G b y f o n n1 n2 g1 g2 g3 g5 g7 (by omega) (by omega) hn1 hn2) (rgp ⟨rfl, rfl, rfl, rfl⟩) rfl r
          · exact PairI.mk hC (c_X6_copy_ok_2_1 l G b y f o n n1 n2 g1 g2 g3 g5 g7 (by omega) (by omega) hn1 hn2) (rgp ⟨rfl, rfl, rfl, rfl⟩) rfl r
          · exact PairI.mk hC (c_X6_copy_ok_2_2 l G b y f o n n1 n2 g1 g2 g3 g5 g7 (by omega) (by omega) hn1 hn2) (rgp ⟨rfl, rfl, rfl, rfl⟩) rfl r
          · exact PairI.mk hC (c_X6_copy_ok_2_3 l G b y f o n n1 n2 g1 g2 g3 g5 g7 (by omega) (by omega) hn1 hn2) (rgp ⟨rfl, rfl, rfl, rfl⟩) rfl r
          · exact PairI.mk hC (c_X6_copy_ok_3_0 l G b y f o n n1 n2 g1 g2 g3 g5 g7 (by omega) (by omega) hn1 hn2) (rgp ⟨rfl, rfl, rfl, rfl⟩) rfl r
          · exact PairI.mk hC (c_X6_copy_ok_3_1 l G b y f o n n1 n2 g1 g2 g3 g5 g7 (by omega) (by omega) hn1 hn2) (rgp ⟨rfl, rfl, rfl, rfl⟩) rfl r
          · exact PairI.mk hC (c_X6_copy_ok_3_2 l G b y f o n n1 n2 g1 g2 g3 g5 g7 (by omega) (by omega) hn1 hn2) (rgp ⟨rfl, rfl, rfl, rfl⟩) rfl r
          · exact PairI.mk hC (c_X6_copy_ok_3_3 l G b y f o n n1 n2 g1 g2 g3 g5 g7 (by omega) (by omega) hn1 hn2) (rgp ⟨rfl, rfl, rfl, rfl⟩) rfl r
        · exact PairI.mk (c_X5_copy_run l G a x i u f o n (by omega) (by omega) h1 h2 h3 hr) (c_X6_copy_run l G b y n1 n2 i u f o n (by omega) (by omega) (by rw [← ei]; exact h1) (by rw [← eu]; exact h2) (by rw [← ei, ← eu]; exact h3) (by rw [← ei]; exact e1) (by rw [← eu]; exact e2) hn1 hn2 (by rw [← ei, ← eu]; exact hr)) (rgp ⟨rfl, rfl, rfl, rfl⟩) rfl (hR.tell 0)
      · exact PairI.mk (c_X5_copy_kind l G a x i u f o n (by omega) (by omega) h1 h2 h3) (c_X6_copy_kind l G b y i u f o n (by omega) (by omega) (by rw [← ei]; exact h1) (by rw [← eu]; exact h2) (by rw [← ei, ← eu]; exact h3)) (rgp ⟨rfl, rfl, rfl, rfl⟩) rfl (hR.tell 2)
  · exact PairI.mk (c_X5_copy_bad l G a x s f t o n hb) (c_X6_copy_bad l G b y s f t o n hb) (rgp ⟨rfl, rfl, rfl, rfl⟩) rfl (hR.tell 0)
end BO3
