theorem Rel.sp {k : Nat} {x y : Q3} (h : Rel k x y) : spOk (x 0) := h.2.1.1.1.1
theorem Rel.oR {k : Nat} {x y : Q3} (h : Rel k x y) : okR (x 0) := h.2.1.1
theorem Rel.oM {k : Nat} {x y : Q3} (h : Rel k x y) : okQ (y 0) := by rw [← h.q]; exact h.2.1.1.1
theorem Rel.kd {k : Nat} {x y : Q3} (h : Rel k x y) {j : Nat} (hj : j < 11) : ∃ d : Nat, d < 7 ∧ x 0 0 j = nI d := h.2.1.1.1.2 j hj
theorem okS_up {q : Q2} (h : okS q) {r j : Nat} {v : Int32} (hr : r = 6 → v = -1 ∨ ∃ w : Nat, w < 11 ∧ v = nI w) : okS (up2 q r j v) := fun i hi => up2_P (fun z => z = -1 ∨ ∃ w : Nat, w < 11 ∧ z = nI w) (h i hi) (fun e => hr e)
theorem qOk_set {k : Nat} {q : Q2} (h : qOk k q) {i j : Nat} {v : Int32} (hi : i < 6) (hv : vOk i v) : qOk k (up2 q i j v) := by
  obtain ⟨a, b, m, c, d⟩ := h
  exact ⟨okR_up a (by omega) hv, okS_up b (fun e => absurd e (by omega)), m, c, by rw [up2_n _ _ _ (by omega)]; exact d⟩
theorem inR_of {m : Nat} {M v : Int32} (hM : M.toInt = m) (h : 0 ≤ v ∧ v ≤ M) : inR m v := inU_of hM h
theorem bit_of {v : Int32} (h : 0 ≤ v ∧ v ≤ 1) : v = 0 ∨ v = 1 := by
  obtain ⟨b, hb, rfl⟩ := inU_of (n := 1) rfl h
  rcases (show b = 0 ∨ b = 1 by omega) with rfl | rfl
  · exact Or.inl rfl
  · exact Or.inr rfl
theorem vOk_of {i : Nat} {v : Int32} (hi : i < 6) (h : 0 ≤ v ∧ v ≤ mostF (nI i)) : vOk i v := by
  have no : ∀ {a b : Nat} {P : Prop}, a ≠ b → a = b → P := fun h e => absurd e h
  rcases (show i = 0 ∨ i = 1 ∨ i = 2 ∨ i = 3 ∨ i = 4 ∨ i = 5 by omega) with rfl | rfl | rfl | rfl | rfl | rfl
  · have e : mostF (nI 0) = 6 := by decide
    rw [e] at h
    obtain ⟨b, hb, rfl⟩ := inU_of (n := 6) rfl h
    exact vOk_0 (by omega)
  · have e : mostF (nI 1) = 9999 := by decide
    rw [e] at h
    exact ⟨no (by decide), fun _ => inR_of rfl h, no (by decide), no (by decide), no (by decide), no (by decide)⟩
  · have e : mostF (nI 2) = 99 := by decide
    rw [e] at h
    exact ⟨no (by decide), no (by decide), fun _ => inR_of rfl h, no (by decide), no (by decide), no (by decide)⟩
  · have e : mostF (nI 3) = 999 := by decide
    rw [e] at h
    exact ⟨no (by decide), no (by decide), no (by decide), fun _ => inR_of rfl h, no (by decide), no (by decide)⟩
  · have e : mostF (nI 4) = 1 := by decide
    rw [e] at h
    exact ⟨no (by decide), no (by decide), no (by decide), no (by decide), fun _ => bit_of h, no (by decide)⟩
  · have e : mostF (nI 5) = 9999 := by decide
    rw [e] at h
    exact ⟨no (by decide), no (by decide), no (by decide), no (by decide), no (by decide), fun _ => inR_of rfl h⟩
theorem qOk_72 {k : Nat} {q : Q2} (h : qOk k q) {v : Int32} (hv : 0 ≤ v ∧ v ≤ 999) : qOk k (up2 q 7 2 v) := by
  obtain ⟨a, b, m, c, d⟩ := h
  exact ⟨okR_72 a (inR_of rfl hv), okS_up b (fun e => absurd e (by decide)), m, c, by rw [up2_sn _ _ _ (by decide)]; exact d⟩
theorem qOk_71 {k : Nat} {q : Q2} (h : qOk k q) {v : Int32} : qOk k (up2 q 7 1 v) := by
  obtain ⟨a, b, m, c, d⟩ := h
  exact ⟨okR_71 a, okS_up b (fun e => absurd e (by decide)), m, c, by rw [up2_sn _ _ _ (by decide)]; exact d⟩
theorem sput_r (q : Q2) (v : Int32) : ∀ n r, r ≠ 4 → sputS q v n r = q r
  | 0, _, _ => rfl
  | n + 1, r, h => by rw [sputS, up2_n _ _ _ h]; exact sput_r q v n r h
theorem sput_sp {q : Q2} (h : spOk q) (v : Int32) : ∀ n, spOk (sputS q v n)
  | 0 => h
  | n + 1 => fun j hj => by
    rw [sputS]
    exact up2_P (fun z => z = 0 ∨ z = 1) (sput_sp h v n j hj) (fun _ => and1 _)
theorem qOk_sput {k : Nat} {q : Q2} (h : qOk k q) (v : Int32) : qOk k (sputS q v 11) := by
  obtain ⟨a, b, m, c, d⟩ := h
  refine ⟨okR_row4 a (sput_sp a.1.1 v 11) (sput_r q v 11), ?_, m, c, ?_⟩
  · unfold okS; rw [sput_r q v 11 6 (by decide)]; exact b
  · rw [sput_r q v 11 7 (by decide)]; exact d
theorem comes_r {q : Q2} (h : okR q) {j : Nat} (hj : j < 11) {v : Int32} (hv : 0 ≤ v ∧ v ≤ 9999) : comesR q j v 6 = q 6 ∧ comesR q j v 7 0 = q 7 0 := by
  rw [← pour_eq h hj hv, bring_ho q v hj]
  exact ⟨by funext i; exact ho_row (fun z => absurd z.1 (by decide)) (fun z => absurd z.1 (by decide)), ho_row (fun z => absurd z.1 (by decide)) (by decide)⟩
theorem qOk_comes {k : Nat} {q : Q2} (h : qOk k q) {j : Nat} (hj : j < 11) {v : Int32} (hv : 0 ≤ v ∧ v ≤ 9999) : qOk k (comesR q j v) := by
  obtain ⟨a, b, m, c, d⟩ := h
  obtain ⟨e1, e2⟩ := comes_r a hj hv
  refine ⟨okR_comes a hj hv, ?_, m, c, by rw [e2]; exact d⟩
  unfold okS; rw [e1]; exact b
theorem comesR_6 (q : Q2) (h : Nat) (v : Int32) : comesR q h v 6 = q 6 := rfl
theorem takeQ_6 (q : Q2) (h : Nat) : takeQ q h 6 = q 6 := by unfold takeQ; split <;> rfl
theorem tkS_6 (q : Q2) : ∀ n, tkS q n 6 = q 6
  | 0 => rfl
  | n + 1 => by rw [tkS, takeQ_6, tkS_6 q n]
theorem kpS_6 (q : Q2) : ∀ n, kpS q n 6 = q 6
  | 0 => rfl
  | n + 1 => by rw [kpS, up2_n _ _ _ (by decide), kpS_6 q n]
theorem outQ_6 (q : Q2) (g : Nat → Int32) (h : Nat) : outQ q g h 6 = q 6 := by unfold outQ; split <;> rfl
theorem ouS_6 (q : Q2) (g : Nat → Int32) : ∀ n, ouS q g n 6 = q 6
  | 0 => rfl
  | n + 1 => by rw [ouS, outQ_6, ouS_6 q g n]
theorem hourR_6 (q : Q2) : hourR0 q 6 = q 6 := by
  unfold hourR0 hourR
  rw [up2_n _ _ _ (by decide)]
  unfold hq3 hq1
  rw [ouS_6, kpS_6, tkS_6, comesR_6]
theorem hoursR_6 (q : Q2) : ∀ n, hoursR q n 6 = q 6
  | 0 => rfl
  | n + 1 => by rw [hoursR, hourR_6, hoursR_6 q n]
theorem showR_6 (q : Q2) : ∀ n, showR q n 6 = q 6
  | 0 => rfl
  | n + 1 => by rw [showR, hourR_6, rainD_r _ 6 (by decide), showR_6 q n]
theorem qOk_hours {k n : Nat} {q : Q2} (h : qOk k q) (hk : k < 512) (hn : n ≤ 60) : qOk (k + 1) (hoursR q n) := by
  obtain ⟨a, b, m, c, d⟩ := h
  obtain ⟨_, e1, e2⟩ := hours_eq a d n (by omega)
  refine ⟨e1, ?_, m + n, by omega, e2⟩
  unfold okS; rw [hoursR_6]; exact b
theorem qOk_show {k n : Nat} {q : Q2} (h : qOk k q) (hk : k < 512) (hn : n ≤ 60) : qOk (k + 1) (showR q n) := by
  obtain ⟨a, b, m, c, d⟩ := h
  obtain ⟨_, e1, e2, _⟩ := show_eq a d n (by omega)
  refine ⟨e1, ?_, m + n, by omega, e2⟩
  unfold okS; rw [showR_6]; exact b
theorem rgp {f1 l1 f2 l2 : Nat} (h : Nat.ble f1 11 = true ∧ Nat.ble l1 400 = true ∧ Nat.ble f2 11 = true ∧ Nat.ble l2 400 = true) : f1 ≤ 11 ∧ l1 ≤ 400 ∧ f2 ≤ 11 ∧ l2 ≤ 400 := ⟨Nat.le_of_ble_eq_true h.1, Nat.le_of_ble_eq_true h.2.1, Nat.le_of_ble_eq_true h.2.2.1, Nat.le_of_ble_eq_true h.2.2.2⟩
section BO
variable {l : Launch} {G : GB} {a b : Nat → Nat} {k : Nat} {x y : Q3}
theorem b_change (hR : Rel k x y) (h w v : Int32) : PairI l G a b yX5_change cX5_change 6 yX6_change cX6_change 4 [.int h, .int w, .int v] k x y := by
  by_cases hb : okH h ∧ (0 ≤ w ∧ w ≤ 5) ∧ 0 ≤ v ∧ v ≤ mostF w
  · obtain ⟨hh, hw, hv⟩ := hb
    obtain ⟨j, hj, rfl⟩ := okH_of hh
    obtain ⟨i, hi, rfl⟩ := inU_of (n := 5) rfl hw
    exact PairI.mk (c_X5_change_ok l G a x j i v hj (by omega) hv) (c_X6_change_ok l G b y j i v hj (by omega) hv) (rgp ⟨rfl, rfl, rfl, rfl⟩) (by rw [hR.q]) (hR.id.go0 (by rw [hR.q]) (qOk_set hR.id.2.1 (by omega) (vOk_of (by omega) hv)))
  · by_cases hw : 0 ≤ w ∧ w ≤ 5
    · obtain ⟨i, hi, rfl⟩ := inU_of (n := 5) rfl hw
      exact PairI.mk (c_X5_change_bad l G a x h (nI i) v hb) (c_X6_change_bad l G b y h v i (by omega) (fun z => hb ⟨z.1, hw, z.2⟩)) (rgp ⟨rfl, rfl, rfl, rfl⟩) rfl (hR.tell 0)
    · exact PairI.mk (c_X5_change_bad l G a x h w v hb) (c_X6_change_out l G b y h w v hw) (rgp ⟨rfl, rfl, rfl, rfl⟩) rfl (hR.tell 0)
theorem b_of (hR : Rel k x y) (h w : Int32) : PairI l G a b yX5_of cX5_of 3 yX6_of cX6_of 3 [.int h, .int w] k x y := by
  by_cases hb : okH h ∧ 0 ≤ w ∧ w ≤ 9
  · obtain ⟨hh, hw⟩ := hb
    obtain ⟨j, hj, rfl⟩ := okH_of hh
    obtain ⟨i, hi, rfl⟩ := inU_of (n := 9) rfl hw
    obtain ⟨d, hd, ed⟩ := hR.kd hj
    exact PairI.mk (c_X5_of_ok l G a x j i hj (by omega)) (c_X6_of_ok l G b y j i hj (by omega) d hd (by rw [← hR.q]; exact ed)) (rgp ⟨rfl, rfl, rfl, rfl⟩) (by rw [hR.q]) hR.id
  · exact PairI.mk (c_X5_of_bad l G a x h w hb) (c_X6_of_bad l G b y h w hb) (rgp ⟨rfl, rfl, rfl, rfl⟩) rfl (hR.tell 0)
theorem b_rain (hR : Rel k x y) (v : Int32) : PairI l G a b yX5_rain cX5_rain 3 yX6_rain cX6_rain 2 [.int v] k x y := by
  by_cases hb : 0 ≤ v ∧ v ≤ 999
  · exact PairI.mk (c_X5_rain_ok l G a x v hb) (c_X6_rain_ok l G b y v hb) (rgp ⟨rfl, rfl, rfl, rfl⟩) (by rw [hR.q]) (hR.id.go0 (by rw [hR.q]) (qOk_72 hR.id.2.1 hb))
  · exact PairI.mk (c_X5_rain_bad l G a x v hb) (c_X6_rain_bad l G b y v hb) (rgp ⟨rfl, rfl, rfl, rfl⟩) rfl (hR.tell 0)
theorem b_spouts (hR : Rel k x y) (v : Int32) : PairI l G a b yX5_spouts cX5_spouts 4 yX6_spouts cX6_spouts 4 [.int v] k x y := by
  by_cases hb : 0 ≤ v ∧ v ≤ 2047
  · exact PairI.mk (c_X5_spouts_ok l G a x v hb) (c_X6_spouts_ok l G b y v hb) (rgp ⟨rfl, rfl, rfl, rfl⟩) (by rw [hR.q]) (hR.id.go0 (by rw [hR.q]) (qOk_sput hR.id.2.1 v))
  · exact PairI.mk (c_X5_spouts_bad l G a x v hb) (c_X6_spouts_bad l G b y v hb) (rgp ⟨rfl, rfl, rfl, rfl⟩) rfl (hR.tell 0)
theorem b_pour (hR : Rel k x y) (h v : Int32) : PairI l G a b yX5_pour cX5_pour 3 yX6_pour cX6_pour 3 [.int h, .int v] k x y := by
  by_cases hb : okH h ∧ 0 ≤ v ∧ v ≤ 9999
  · obtain ⟨hh, hv⟩ := hb
    obtain ⟨j, hj, rfl⟩ := okH_of hh
    have e : bringF (x 0) (nI j) v = comesR (y 0) j v := by rw [pour_eq hR.oR hj hv, hR.q]
    exact PairI.mk (c_X5_pour_ok l G a x j v hj hv) (c_X6_pour_ok l G b y j v hj hv) (rgp ⟨rfl, rfl, rfl, rfl⟩) (by rw [e]) (hR.id.go0 e (by rw [pour_eq hR.oR hj hv]; exact qOk_comes hR.id.2.1 hj hv))
  · exact PairI.mk (c_X5_pour_bad l G a x h v hb) (c_X6_pour_bad l G b y h v hb) (rgp ⟨rfl, rfl, rfl, rfl⟩) rfl (hR.tell 0)
theorem in1_of {n M : Int32} {m : Nat} (hM : M.toInt = m) (h : 1 ≤ n ∧ n ≤ M) (hm : m < 2 ^ 31) : ∃ j : Nat, 1 ≤ j ∧ j ≤ m ∧ n = nI j := by
  obtain ⟨j, hj, rfl⟩ := inU_of hM (x := n) ⟨Int32.le_trans (by decide) h.1, h.2⟩
  exact ⟨j, cmp_le (a := 1) (by decide) (by omega) h.1, hj, rfl⟩
theorem b_go (hR : Rel k x y) (hk : k < 512) (n : Int32) : PairI l G a b yX5_go cX5_go 2 yX6_go cX6_go 2 [.int n] k x y := by
  by_cases hb : 1 ≤ n ∧ n ≤ 60
  · obtain ⟨n, h1, h2, rfl⟩ := in1_of (m := 60) rfl hb (by decide)
    obtain ⟨m, hm, e7⟩ := hR.2.1.2.2
    have hh : x 0 7 0 + nI n ≤ 99999 := by rw [e7, nI_add]; exact nI_le (b := 99999) (by omega) (by decide)
    have e := (hours_eq hR.oR e7 n (by omega)).1
    exact PairI.mk (c_X5_go_ok l G a x n h1 h2 hh hR.sp) (c_X6_go_ok l G b y n h1 h2 (by rw [← hR.q]; exact hh) hR.oM) (rgp ⟨rfl, rfl, rfl, rfl⟩) (by rw [e, hR.q]) (hR.id.go0 (by rw [e, hR.q]) (by rw [e]; exact qOk_hours hR.2.1 hk h2))
  · exact PairI.mk (c_X5_go_bad l G a x n hb) (c_X6_go_bad l G b y n hb) (rgp ⟨rfl, rfl, rfl, rfl⟩) rfl (hR.tell 0)
theorem b_now (hR : Rel k x y) (w : Int32) : PairI l G a b yX5_now cX5_now 2 yX6_now cX6_now 2 [.int w] k x y := by
  by_cases hb : 0 ≤ w ∧ w ≤ 6
  · obtain ⟨i, hi, rfl⟩ := inU_of (n := 6) rfl hb
    exact PairI.mk (c_X5_now_ok l G a x i (by omega)) (c_X6_now_ok l G b y i (by omega)) (rgp ⟨rfl, rfl, rfl, rfl⟩) (by rw [hR.q]) hR.id
  · exact PairI.mk (c_X5_now_bad l G a x w hb) (c_X6_now_bad l G b y w hb) (rgp ⟨rfl, rfl, rfl, rfl⟩) rfl (hR.tell 0)
theorem b_ahead (hR : Rel k x y) (hk : k < 512) (h w n : Int32) : PairI l G a b yX5_ahead cX5_ahead 4 yX6_ahead cX6_ahead 5 [.int h, .int w, .int n] k x y := by
  by_cases hb : okH h ∧ (w = 1 ∨ w = 5) ∧ 0 ≤ n ∧ n ≤ 100
  · obtain ⟨hh, hw, hn0⟩ := hb
    obtain ⟨j, hj, rfl⟩ := okH_of hh
    obtain ⟨n, hn, rfl⟩ := inU_of (n := 100) rfl hn0
    obtain ⟨m, hm, e7⟩ := hR.2.1.2.2
    obtain ⟨i, hi, rfl⟩ : ∃ i : Nat, (i = 1 ∨ i = 5) ∧ w = nI i := by
      rcases hw with rfl | rfl
      · exact ⟨1, Or.inl rfl, rfl⟩
      · exact ⟨5, Or.inr rfl, rfl⟩
    exact PairI.mk (c_X5_ahead_ok l G a x j i n hj hi hn hR.sp) (c_X6_ahead_ok l G b y j i n hj hi hn hR.oM) (rgp ⟨rfl, rfl, rfl, rfl⟩) (by rw [ahead_eq hR.oR e7 (by omega) hj (by omega), hR.q]) hR.id
  · exact PairI.mk (c_X5_ahead_bad l G a x h w n hb) (c_X6_ahead_bad l G b y h w n hb) (rgp ⟨rfl, rfl, rfl, rfl⟩) rfl (hR.tell 0)
theorem b_alley (hR : Rel k x y) (hk : k < 512) (n : Int32) : PairI l G a b yX5_alley cX5_alley 2 yX6_alley cX6_alley 2 [.int n] k x y := by
  by_cases hb : 0 ≤ n ∧ n ≤ 100
  · obtain ⟨n, hn, rfl⟩ := inU_of (n := 100) rfl hb
    obtain ⟨m, hm, e7⟩ := hR.2.1.2.2
    exact PairI.mk (c_X5_alley_ok l G a x n hn hR.sp) (c_X6_alley_ok l G b y n hn hR.oM) (rgp ⟨rfl, rfl, rfl, rfl⟩) (by rw [(hours_eq hR.oR e7 n (by omega)).1, hR.q]) hR.id
  · exact PairI.mk (c_X5_alley_bad l G a x n hb) (c_X6_alley_bad l G b y n hb) (rgp ⟨rfl, rfl, rfl, rfl⟩) rfl (hR.tell 0)
theorem b_dry (hR : Rel k x y) (hk : k < 512) (n : Int32) : PairI l G a b yX5_dry cX5_dry 2 yX6_dry cX6_dry 3 [.int n] k x y := by
  by_cases hb : 0 ≤ n ∧ n ≤ 100
  · obtain ⟨n, hn, rfl⟩ := inU_of (n := 100) rfl hb
    obtain ⟨m, hm, e7⟩ := hR.2.1.2.2
    exact PairI.mk (c_X5_dry_ok l G a x n hn hR.sp) (c_X6_dry_ok l G b y n hn hR.oM) (rgp ⟨rfl, rfl, rfl, rfl⟩) (by rw [drys_eq hR.oR e7 n (by omega), hR.q]) hR.id
  · exact PairI.mk (c_X5_dry_bad l G a x n hb) (c_X6_dry_bad l G b y n hb) (rgp ⟨rfl, rfl, rfl, rfl⟩) rfl (hR.tell 0)
theorem b_when (hR : Rel k x y) (hk : k < 512) (h v : Int32) : PairI l G a b yX5_when cX5_when 4 yX6_when cX6_when 4 [.int h, .int v] k x y := by
  by_cases hb : okH h ∧ 0 ≤ v ∧ v ≤ 9999
  · obtain ⟨hh, hv⟩ := hb
    obtain ⟨j, hj, rfl⟩ := okH_of hh
    obtain ⟨m, hm, e7⟩ := hR.2.1.2.2
    have e := when_eq hR.oR e7 (by omega) hj v
    rw [hR.q] at e
    exact PairI.mk (c_X5_when_ok l G a x j v hj hv hR.sp) (c_X6_when_ok l G b y j v hj hv hR.oM) (rgp ⟨rfl, rfl, rfl, rfl⟩) (by rw [hR.q, e]) (hR.opt (by rw [hR.q, e]))
  · exact PairI.mk (c_X5_when_bad l G a x h v hb) (c_X6_when_bad l G b y h v hb) (rgp ⟨rfl, rfl, rfl, rfl⟩) rfl (hR.tell 0)
theorem b_settles (hR : Rel k x y) (hk : k < 512) : PairI l G a b yX5_settles cX5_settles 2 yX6_settles cX6_settles 2 [] k x y := by
  obtain ⟨m, hm, e7⟩ := hR.2.1.2.2
  have e := settles_eq hR.oR e7 (by omega)
  rw [hR.q] at e
  exact PairI.mk (c_X5_settles l G a x hR.sp) (c_X6_settles l G b y hR.oM) (rgp ⟨rfl, rfl, rfl, rfl⟩) (by rw [hR.q, e]) (hR.opt (by rw [hR.q, e]))
theorem b_below (hR : Rel k x y) (h : Int32) : PairI l G a b yX5_below cX5_below 5 yX6_below cX6_below 4 [.int h] k x y := by
  by_cases hb : okH h
  · obtain ⟨j, hj, rfl⟩ := okH_of hb
    exact PairI.mk (c_X5_below_ok l G a x j hj hR.sp) (c_X6_below_ok l G b y j hj hR.oM) (rgp ⟨rfl, rfl, rfl, rfl⟩) (by rw [hR.q]) hR.id
  · exact PairI.mk (c_X5_below_bad l G a x h hb) (c_X6_below_bad l G b y h hb) (rgp ⟨rfl, rfl, rfl, rfl⟩) rfl (hR.tell 0)
end BO
