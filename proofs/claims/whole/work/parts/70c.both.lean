section BO2
variable {l : Launch} {G : GB} {a b : Nat → Nat} {k : Nat} {x y : Q3}
theorem b_rainFor (hR : Rel k x y) (hk : k < 512) (h n : Int32) : PairI l G a b yX5_rainFor cX5_rainFor 3 yX6_rainFor cX6_rainFor 4 [.int h, .int n] k x y := by
  by_cases hb : okH h ∧ 0 ≤ n ∧ n ≤ 40
  · obtain ⟨hh, hn0⟩ := hb
    obtain ⟨j, hj, rfl⟩ := okH_of hh
    obtain ⟨n, hn, rfl⟩ := inU_of (n := 40) rfl hn0
    obtain ⟨m, hm, e7⟩ := hR.2.1.2.2
    have e := rainFor_eq hR.oR e7 (show m + n ≤ 99999 by omega) hj
    have r := least_res (q := x 0) (k := 6) (most := 999) (j := j) (m := n) (by decide) (fun v w h1 h2 d => rain_mono hR.oR hj h1 h2 d)
    have e2 := e
    rw [hR.q] at e2
    exact PairI.mk (c_X5_rainFor_ok l G a x j n hj hn hR.sp) (c_X6_rainFor_ok l G b y j n hj hn hR.oM) (rgp ⟨rfl, rfl, rfl, rfl⟩) (by rw [r.1, e, hR.q]) (by rw [r.2 x rfl]; exact hR.opt (by rw [hR.q, e2]))
  · exact PairI.mk (c_X5_rainFor_bad l G a x h n hb) (c_X6_rainFor_bad l G b y h n hb) (rgp ⟨rfl, rfl, rfl, rfl⟩) rfl (hR.tell 0)
theorem b_holdsFor (hR : Rel k x y) (hk : k < 512) (h n : Int32) : PairI l G a b yX5_holdsFor cX5_holdsFor 3 yX6_holdsFor cX6_holdsFor 4 [.int h, .int n] k x y := by
  by_cases hb : okH h ∧ 0 ≤ n ∧ n ≤ 40
  · obtain ⟨hh, hn0⟩ := hb
    obtain ⟨j, hj, rfl⟩ := okH_of hh
    obtain ⟨n, hn, rfl⟩ := inU_of (n := 40) rfl hn0
    obtain ⟨m, hm, e7⟩ := hR.2.1.2.2
    have e := holdsFor_eq hR.oR e7 (show m + n ≤ 99999 by omega) hj
    have r := least_res (q := x 0) (k := 3) (most := 200) (j := j) (m := n) (by decide) (fun v w h1 h2 d => holds_mono hR.oR hj h1 (by omega) d)
    have e2 := e
    rw [hR.q] at e2
    exact PairI.mk (c_X5_holdsFor_ok l G a x j n hj hn hR.sp) (c_X6_holdsFor_ok l G b y j n hj hn hR.oM) (rgp ⟨rfl, rfl, rfl, rfl⟩) (by rw [r.1, e, hR.q]) (by rw [r.2 x rfl]; exact hR.opt (by rw [hR.q, e2]))
  · exact PairI.mk (c_X5_holdsFor_bad l G a x h n hb) (c_X6_holdsFor_bad l G b y h n hb) (rgp ⟨rfl, rfl, rfl, rfl⟩) rfl (hR.tell 0)
theorem b_needFor (hR : Rel k x y) (hk : k < 512) (h n : Int32) : PairI l G a b yX5_needFor cX5_needFor 4 yX6_needFor cX6_needFor 4 [.int h, .int n] k x y := by
  by_cases hb : okH h ∧ 0 ≤ n ∧ n ≤ 40
  · obtain ⟨hh, hn0⟩ := hb
    obtain ⟨j, hj, rfl⟩ := okH_of hh
    obtain ⟨n, hn, rfl⟩ := inU_of (n := 40) rfl hn0
    obtain ⟨m, hm, e7⟩ := hR.2.1.2.2
    have e := needFor_eq hR.oR e7 (show m + n ≤ 99999 by omega) hj
    rw [hR.q] at e
    exact PairI.mk (c_X5_needFor_ok l G a x j n hj hn hR.sp) (c_X6_needFor_ok l G b y j n hj hn hR.oM) (rgp ⟨rfl, rfl, rfl, rfl⟩) (by rw [hR.q, e]) (hR.opt (by rw [hR.q, e]))
  · exact PairI.mk (c_X5_needFor_bad l G a x h n hb) (c_X6_needFor_bad l G b y h n hb) (rgp ⟨rfl, rfl, rfl, rfl⟩) rfl (hR.tell 0)
theorem b_kindsFor (hR : Rel k x y) (hk : k < 512) (h n : Int32) : PairI l G a b yX5_kindsFor cX5_kindsFor 5 yX6_kindsFor cX6_kindsFor 5 [.int h, .int n] k x y := by
  by_cases hb : okH h ∧ 0 ≤ n ∧ n ≤ 40
  · obtain ⟨hh, hn0⟩ := hb
    obtain ⟨j, hj, rfl⟩ := okH_of hh
    obtain ⟨n, hn, rfl⟩ := inU_of (n := 40) rfl hn0
    obtain ⟨m, hm, e7⟩ := hR.2.1.2.2
    have e := kindsFor_eq hR.oR e7 (show m + n ≤ 99999 by omega) hj
    rw [hR.q] at e
    exact PairI.mk (c_X5_kindsFor_ok l G a x j n hj hn hR.sp) (c_X6_kindsFor_ok l G b y j n hj hn hR.oM) (rgp ⟨rfl, rfl, rfl, rfl⟩) (by rw [hR.q, e]) hR.id
  · exact PairI.mk (c_X5_kindsFor_bad l G a x h n hb) (c_X6_kindsFor_bad l G b y h n hb) (rgp ⟨rfl, rfl, rfl, rfl⟩) rfl (hR.tell 0)
theorem b_kindFor (hR : Rel k x y) (hk : k < 512) (h n : Int32) : PairI l G a b yX5_kindFor cX5_kindFor 6 yX6_kindFor cX6_kindFor 7 [.int h, .int n] k x y := by
  by_cases hb : okH h ∧ 0 ≤ n ∧ n ≤ 40
  · obtain ⟨hh, hn0⟩ := hb
    obtain ⟨j, hj, rfl⟩ := okH_of hh
    obtain ⟨n, hn, rfl⟩ := inU_of (n := 40) rfl hn0
    obtain ⟨m, hm, e7⟩ := hR.2.1.2.2
    have e := kindFor_eq hR.oR e7 (show m + n ≤ 99999 by omega) (j := j)
    rw [hR.q] at e
    exact PairI.mk (c_X5_kindFor_ok l G a x j n hj hn hR.sp) (c_X6_kindFor_ok l G b y j n hj hn hR.oM) (rgp ⟨rfl, rfl, rfl, rfl⟩) (by rw [hR.q, e]) hR.id
  · exact PairI.mk (c_X5_kindFor_bad l G a x h n hb) (c_X6_kindFor_bad l G b y h n hb) (rgp ⟨rfl, rfl, rfl, rfl⟩) rfl (hR.tell 0)
theorem b_turn (hR : Rel k x y) (hk : k < 512) (v n : Int32) : PairI l G a b yX5_turn cX5_turn 6 yX6_turn cX6_turn 6 [.int v, .int n] k x y := by
  by_cases hb : (0 ≤ v ∧ v ≤ 2047) ∧ 0 ≤ n ∧ n ≤ 12
  · obtain ⟨hv, hn0⟩ := hb
    obtain ⟨n, hn, rfl⟩ := inU_of (n := 12) rfl hn0
    obtain ⟨m, hm, e7⟩ := hR.2.1.2.2
    have q0 := hR.q
    refine PairI.mk (c_X5_turn_ok l G a x v n hv hn hR.sp) (c_X6_turn_ok l G b y v n hv hn hR.oM) (rgp ⟨rfl, rfl, rfl, rfl⟩) ?_ ?_
    · rw [← q0]
      rcases turnF_eq hR.oR e7 (show m + n ≤ 99999 by omega) hv with ⟨s, hs, e1, e2⟩ | ⟨e1, e2⟩
      · rw [e1, e2, if_neg (nI_pos (by omega))]; rfl
      · rw [e1, e2, if_pos (by decide)]; rfl
    · rw [← q0]
      rcases turnF_eq hR.oR e7 (show m + n ≤ 99999 by omega) hv with ⟨s, hs, e1, e2⟩ | ⟨e1, e2⟩
      · rw [e1, e2, if_neg (nI_pos (by omega))]; exact hR.id
      · rw [e1, e2, if_pos (by decide)]; exact hR.tell 3
  · exact PairI.mk (c_X5_turn_bad l G a x v n hb) (c_X6_turn_bad l G b y v n hb) (rgp ⟨rfl, rfl, rfl, rfl⟩) rfl (hR.tell 0)
theorem b_best (hR : Rel k x y) (hk : k < 512) (n : Int32) : PairI l G a b yX5_best cX5_best 6 yX6_best cX6_best 6 [.int n] k x y := by
  by_cases hb : 0 ≤ n ∧ n ≤ 40
  · obtain ⟨n, hn, rfl⟩ := inU_of (n := 40) rfl hb
    obtain ⟨m, hm, e7⟩ := hR.2.1.2.2
    have e := best_eq hR.oR e7 (show m + n ≤ 99999 by omega)
    rw [hR.q] at e
    exact PairI.mk (c_X5_best_ok l G a x n hn hR.sp) (c_X6_best_ok l G b y n hn hR.oM) (rgp ⟨rfl, rfl, rfl, rfl⟩) (by rw [hR.q, e]) hR.id
  · exact PairI.mk (c_X5_best_bad l G a x n hb) (c_X6_best_bad l G b y n hb) (rgp ⟨rfl, rfl, rfl, rfl⟩) rfl (hR.tell 0)
theorem b_love (hR : Rel k x y) (hk : k < 512) (h n : Int32) : PairI l G a b yX5_love cX5_love 6 yX6_love cX6_love 7 [.int h, .int n] k x y := by
  by_cases hb : okH h ∧ 0 ≤ n ∧ n ≤ 40
  · obtain ⟨hh, hn0⟩ := hb
    obtain ⟨j, hj, rfl⟩ := okH_of hh
    obtain ⟨n, hn, rfl⟩ := inU_of (n := 40) rfl hn0
    obtain ⟨m, hm, e7⟩ := hR.2.1.2.2
    have e := love_eq hR.oR e7 (show m + n ≤ 99999 by omega) hj
    rw [hR.q] at e
    exact PairI.mk (c_X5_love_ok l G a x j n hj hn hR.sp) (c_X6_love_ok l G b y j n hj hn hR.oM) (rgp ⟨rfl, rfl, rfl, rfl⟩) (by rw [hR.q, e]) hR.id
  · exact PairI.mk (c_X5_love_bad l G a x h n hb) (c_X6_love_bad l G b y h n hb) (rgp ⟨rfl, rfl, rfl, rfl⟩) rfl (hR.tell 0)
theorem b_burst (hR : Rel k x y) (hk : k < 512) (h v n : Int32) : PairI l G a b yX5_burst cX5_burst 5 yX6_burst cX6_burst 5 [.int h, .int v, .int n] k x y := by
  by_cases hb : okH h ∧ (0 ≤ v ∧ v ≤ 9999) ∧ 0 ≤ n ∧ n ≤ 40
  · obtain ⟨hh, hv, hn0⟩ := hb
    obtain ⟨j, hj, rfl⟩ := okH_of hh
    obtain ⟨n, hn, rfl⟩ := inU_of (n := 40) rfl hn0
    obtain ⟨m, hm, e7⟩ := hR.2.1.2.2
    have e := burst_eq hR.oR e7 (show m + n ≤ 99999 by omega) hj hv
    rw [hR.q] at e
    exact PairI.mk (c_X5_burst_ok l G a x j v n hj hv hn hR.sp) (c_X6_burst_ok l G b y j v n hj hv hn hR.oM) (rgp ⟨rfl, rfl, rfl, rfl⟩) (by rw [hR.q, e]) hR.id
  · exact PairI.mk (c_X5_burst_bad l G a x h v n hb) (c_X6_burst_bad l G b y h v n hb) (rgp ⟨rfl, rfl, rfl, rfl⟩) rfl (hR.tell 0)
theorem b_showers (hR : Rel k x y) (hk : k < 512) (n : Int32) : PairI l G a b yX5_showers cX5_showers 4 yX6_showers cX6_showers 4 [.int n] k x y := by
  by_cases hb : 1 ≤ n ∧ n ≤ 20
  · obtain ⟨n, h1, h2, rfl⟩ := in1_of (m := 20) rfl hb (by decide)
    obtain ⟨m, hm, e7⟩ := hR.2.1.2.2
    have hh : x 0 7 0 + nI n ≤ 99999 := by rw [e7, nI_add]; exact nI_le (b := 99999) (by omega) (by decide)
    obtain ⟨e, _, _, e2⟩ := show_eq hR.oR e7 n (by omega)
    exact PairI.mk (c_X5_showers_ok l G a x n h1 h2 hh hR.sp) (c_X6_showers_ok l G b y n h1 h2 (by rw [← hR.q]; exact hh) hR.oM) (rgp ⟨rfl, rfl, rfl, rfl⟩) (by rw [e2, hR.q]) (hR.id.go0 (by rw [e, hR.q]) (by rw [e]; exact qOk_show hR.2.1 hk (by omega)))
  · exact PairI.mk (c_X5_showers_bad l G a x n hb) (c_X6_showers_bad l G b y n hb) (rgp ⟨rfl, rfl, rfl, rfl⟩) rfl (hR.tell 0)
theorem b_odds (hR : Rel k x y) (v n w : Int32) : PairL l G a b yX5_odds cX5_odds 11 yX6_odds cX6_odds 14 [.int v, .int n, .int w] k x y := by
  by_cases hb : (0 ≤ v ∧ v ≤ 100) ∧ (0 ≤ n ∧ n ≤ 9) ∧ 0 ≤ w ∧ w ≤ 1
  · obtain ⟨hv0, hn0, hw⟩ := hb
    obtain ⟨v, hv, rfl⟩ := inU_of (n := 100) rfl hv0
    obtain ⟨n, hn, rfl⟩ := inU_of (n := 9) rfl hn0
    rcases bit_of hw with rfl | rfl
    · exact PairL.mk (c_X5_odds_0 l G a x v (100 - v) n (by omega) (by omega)) (c_X6_odds_0 l G b y v (100 - v) n (by omega) (by omega)) (rgp ⟨rfl, rfl, rfl, rfl⟩) (odds_0 (100 - v) (by omega) n (by omega)) hR.id
    · exact PairL.mk (c_X5_odds_1 l G a x v (100 - v) n (by omega) (by omega)) (c_X6_odds_1 l G b y v (100 - v) n (by omega) (by omega)) (rgp ⟨rfl, rfl, rfl, rfl⟩) (odds_1 (100 - v) (by omega) n (by omega)) hR.id
  · exact PairL.mk (c_X5_odds_bad l G a x v n w hb) (c_X6_odds_bad l G b y v n w hb) (rgp ⟨rfl, rfl, rfl, rfl⟩) rfl (hR.tell 0)
theorem b_seed (hR : Rel k x y) (v : Int32) : PairI l G a b yX5_seed cX5_seed 3 yX6_seed cX6_seed 2 [.int v] k x y :=
  PairI.mk (c_X5_seed l G a x v) (c_X6_seed l G b y v) (rgp ⟨rfl, rfl, rfl, rfl⟩) (by rw [hR.q]) (hR.id.go0 (by rw [hR.q]) (qOk_71 hR.id.2.1))
theorem feedT_sz (c : Int32) : ∀ (n : Nat) (t : Q2) (i : Nat), t 1 0 = nI i → feedT t c n 1 0 = nI (i + n)
  | 0, _, _, h => h
  | n + 1, t, i, h => by
    rw [feedT, feedT_sz c n _ (i + 1) (addT_sz h _), show i + 1 + n = i + (n + 1) by omega]
theorem b_feed (hR : Rel k x y) (c n : Int32) : PairI l G a b yX5_feed cX5_feed 4 yX6_feed cX6_feed 4 [.int c, .int n] k x y := by
  by_cases hb : 1 ≤ n ∧ n ≤ 4
  · obtain ⟨n, h1, h2, rfl⟩ := in1_of (m := 4) rfl hb (by decide)
    obtain ⟨t, ht, et⟩ := hR.2.2.2.1
    have et' : y 7 1 0 = nI t := by rw [← hR.t]; exact et
    by_cases hf : t + n ≤ 120
    · exact PairI.mk (c_X5_feed_ok l G a x c n t h1 h2 et ht hf) (c_X6_feed_ok l G b y c n t h1 h2 et' ht hf) (rgp ⟨rfl, rfl, rfl, rfl⟩) (by rw [hR.t]) (hR.id.go7 (by rw [hR.t]) ⟨t + n, hf, feedT_sz c n _ t et⟩)
    · exact PairI.mk (c_X5_feed_full l G a x c n t h1 h2 et ht (by omega)) (c_X6_feed_full l G b y c n t h1 h2 et' ht (by omega)) (rgp ⟨rfl, rfl, rfl, rfl⟩) rfl (hR.tell 1)
  · exact PairI.mk (c_X5_feed_bad l G a x c n hb) (c_X6_feed_bad l G b y c n hb) (rgp ⟨rfl, rfl, rfl, rfl⟩) rfl (hR.tell 0)
theorem b_wipe (hR : Rel k x y) : PairI l G a b yX5_wipe cX5_wipe 2 yX6_wipe cX6_wipe 2 [] k x y :=
  PairI.mk (c_X5_wipe l G a x) (c_X6_wipe l G b y) (rgp ⟨rfl, rfl, rfl, rfl⟩) (by rw [hR.t]) (hR.id.go7 (by rw [hR.t]) ⟨0, by decide, by rw [up2_ss]; rfl⟩)
theorem b_text (hR : Rel k x y) : PairI l G a b yX5_text cX5_text 2 yX6_text cX6_text 2 [] k x y := by
  obtain ⟨t, ht, et⟩ := hR.2.2.2.1
  have et' : y 7 1 0 = nI t := by rw [← hR.t]; exact et
  obtain ⟨e1, e2, e3⟩ := text_eq et ht hR.q hR.t hR.oR
  refine PairI.mk (c_X5_text l G a x t et ht) (c_X6_text l G b y t et' ht) (rgp ⟨rfl, rfl, rfl, rfl⟩) e1 ?_
  obtain ⟨m, hm, e7⟩ := hR.id.2.1.2.2
  have r := hR.id.go0 e2 (by rw [e2]; exact ⟨e3.1, by unfold okS; rw [e3.2.2]; exact hR.2.1.2.1, m, hm, by rw [e3.2.1]; exact e7⟩)
  exact r.go7 (by rw [r.t]) ⟨0, by decide, by rw [up2_ss]; rfl⟩
theorem vOk_6 (v : Int32) : vOk 6 v := ⟨fun e => absurd e (by decide), fun e => absurd e (by decide), fun e => absurd e (by decide), fun e => absurd e (by decide), fun e => absurd e (by decide), fun e => absurd e (by decide)⟩
theorem qOk_6 {q : Q2} (h : qOk k q) {s : Nat} {v : Int32} (hv : v = -1 ∨ okH v) : qOk k (up2 q 6 s v) := by
  obtain ⟨a, b, m, c, d⟩ := h
  exact ⟨okR_up a (by decide) (vOk_6 v), okS_up b (fun _ => hv.imp (fun z => z) okH_of), m, c, by rw [up2_n _ _ _ (by decide)]; exact d⟩
theorem b_hold (hR : Rel k x y) (s h : Int32) : PairI l G a b yX5_hold cX5_hold 3 yX6_hold cX6_hold 3 [.int s, .int h] k x y := by
  by_cases hb : (0 ≤ s ∧ s ≤ 9) ∧ (h = -1 ∨ okH h)
  · obtain ⟨hs0, hh⟩ := hb
    obtain ⟨s, hs, rfl⟩ := inU_of (n := 9) rfl hs0
    exact PairI.mk (c_X5_hold_ok l G a x s h (by omega) hh) (c_X6_hold_ok l G b y s h (by omega) hh) (rgp ⟨rfl, rfl, rfl, rfl⟩) rfl (hR.id.go0 (by rw [hR.q]) (qOk_6 hR.id.2.1 hh))
  · exact PairI.mk (c_X5_hold_bad l G a x s h hb) (c_X6_hold_bad l G b y s h hb) (rgp ⟨rfl, rfl, rfl, rfl⟩) rfl (hR.tell 0)
theorem b_as (hR : Rel k x y) (s d : Int32) : PairI l G a b yX5_as cX5_as 4 yX6_as cX6_as 4 [.int s, .int d] k x y := by
  by_cases hb : (0 ≤ s ∧ s ≤ 9) ∧ 0 ≤ d ∧ d ≤ 6
  · obtain ⟨hs0, hd0⟩ := hb
    obtain ⟨s, hs, rfl⟩ := inU_of (n := 9) rfl hs0
    obtain ⟨d, hd, rfl⟩ := inU_of (n := 6) rfl hd0
    rcases hR.2.1.2.1 s (by omega) with e | ⟨j, hj, e⟩
    · exact PairI.mk (c_X5_as_miss l G a x s d (by omega) (by omega) e) (c_X6_as_miss l G b y s d (by omega) (by omega) (by rw [← hR.q]; exact e)) (rgp ⟨rfl, rfl, rfl, rfl⟩) rfl (hR.tell 5)
    · obtain ⟨kd, hkd, ekd⟩ := hR.kd hj
      by_cases hu : undF kd d = true
      · exact PairI.mk (c_X5_as_ok l G a x s d j kd (by omega) (by omega) hj hkd e ekd hu) (c_X6_as_ok l G b y s d j kd (by omega) (by omega) hj hkd (by rw [← hR.q]; exact e) (by rw [← hR.q]; exact ekd) hu) (rgp ⟨rfl, rfl, rfl, rfl⟩) rfl hR.id
      · exact PairI.mk (c_X5_as_no l G a x s d j kd (by omega) (by omega) hj hkd e ekd hu) (c_X6_as_no l G b y s d j kd (by omega) (by omega) hj hkd (by rw [← hR.q]; exact e) (by rw [← hR.q]; exact ekd) hu) (rgp ⟨rfl, rfl, rfl, rfl⟩) rfl (hR.tell 2)
  · exact PairI.mk (c_X5_as_bad l G a x s d hb) (c_X6_as_bad l G b y s d hb) (rgp ⟨rfl, rfl, rfl, rfl⟩) rfl (hR.tell 0)
theorem b_image (hR : Rel k x y) : PairI l G a b yX5_image cX5_image 1 yX6_image cX6_image 1 [] k x y := by
  refine PairI.mk (c_X5_image_ok l G a x) (c_X6_image l G b y) (rgp ⟨rfl, rfl, rfl, rfl⟩) rfl ?_
  have h := hR.id
  show Rel (k + 1) (upG (upG x 1 (x 0)) 3 (up2 (upG x 1 (x 0) 3) 1 0 1)) (upG (upG y 1 (y 0)) 3 (up2 (upG y 1 (y 0) 3) 1 0 1))
  refine ⟨fun g hg => ?_, ?_, fun _ => ?_, ?_, fun s hs => ?_⟩
  · have c1 : g ≠ 1 := by rcases hg with z | z | z | z <;> omega
    by_cases c : g = 3
    · rw [c, gG_s, gG_s, gG_n _ _ (by decide), gG_n _ _ (by decide), h.f]
    · rw [gG_n _ _ c, gG_n _ _ c, gG_n _ _ c1, gG_n _ _ c1]; exact h.1 g hg
  · rw [gG_n _ _ (by decide), gG_n _ _ (by decide)]; exact h.2.1
  · rw [gG_n _ _ (show (1 : Nat) ≠ 3 by decide), gG_n _ _ (show (1 : Nat) ≠ 3 by decide), gG_s, gG_s]; exact ⟨h.q, h.2.1⟩
  · rw [gG_n _ _ (by decide), gG_n _ _ (by decide)]; exact h.2.2.2.1
  · rw [gG_n _ _ (by omega), gG_n _ _ (by omega)]; exact h.2.2.2.2 s hs
theorem b_undo (hR : Rel k x y) : PairI l G a b yX5_undo cX5_undo 1 yX6_undo cX6_undo 1 [] k x y := by
  by_cases hb : x 3 1 0 = 0
  · exact PairI.mk (c_X5_undo_none l G a x hb) (c_X6_undo_none l G b y (by rw [← hR.f]; exact hb)) (rgp ⟨rfl, rfl, rfl, rfl⟩) rfl (hR.tell 3)
  · obtain ⟨e, hq⟩ := hR.id.2.2.1 hb
    exact PairI.mk (c_X5_undo_ok l G a x hb) (c_X6_undo_ok l G b y (by rw [← hR.f]; exact hb)) (rgp ⟨rfl, rfl, rfl, rfl⟩) (by rw [e]) (hR.id.go0 e hq)
theorem b_tear (hR : Rel k x y) : PairI l G a b yX5_tear cX5_tear 2 yX6_tear cX6_tear 2 [] k x y := by
  refine PairI.mk (c_X5_tear_ok l G a x) (c_X6_tear l G b y) (rgp ⟨rfl, rfl, rfl, rfl⟩) (by rw [hR.f]) ?_
  have h := hR.id
  show Rel (k + 1) (upG x 3 (up2 (x 3) 1 0 0)) (upG y 3 (up2 (y 3) 1 0 0))
  refine ⟨fun g hg => ?_, ?_, fun z => ?_, ?_, fun s hs => ?_⟩
  · by_cases c : g = 3
    · rw [c, gG_s, gG_s, h.f]
    · rw [gG_n _ _ c, gG_n _ _ c]; exact h.1 g hg
  · rw [gG_n _ _ (by decide)]; exact h.2.1
  · rw [gG_s, up2_ss] at z; exact absurd rfl z
  · rw [gG_n _ _ (by decide)]; exact h.2.2.2.1
  · rw [gG_n _ _ (by omega)]; exact h.2.2.2.2 s hs
theorem countM_c (hR : Rel k x y) (i : Nat) : countM x i = countM y i := by
  unfold countM
  rw [hR.q, hR.t]
theorem b_count (hR : Rel k x y) (w : Int32) : PairI l G a b yX5_count cX5_count 2 yX6_count cX6_count 2 [.int w] k x y := by
  by_cases hb : 0 ≤ w ∧ w ≤ 7
  · obtain ⟨i, hi, rfl⟩ := inU_of (n := 7) rfl hb
    exact PairI.mk (c_X5_count_ok l G a x i (by omega)) (c_X6_count_ok l G b y i (by omega) (by rw [← hR.q]; exact hR.2.1.2.1)) (rgp ⟨rfl, rfl, rfl, rfl⟩) ((count_eq x i).trans (countM_c hR i)) hR.id
  · exact PairI.mk (c_X5_count_bad l G a x w hb) (c_X6_count_bad l G b y w hb) (rgp ⟨rfl, rfl, rfl, rfl⟩) rfl (hR.tell 0)
theorem neg1_in (w : Int32) : (w = -1 ∨ 0 ≤ w ∧ w ≤ 6) ↔ (-1 ≤ w ∧ w ≤ 6) := by
  rw [Int32.le_iff_toInt_le, Int32.le_iff_toInt_le, Int32.le_iff_toInt_le, ← Int32.toInt_inj]
  have h0 : (0 : Int32).toInt = 0 := rfl
  have h1 : (-1 : Int32).toInt = -1 := rfl
  have h6 : (6 : Int32).toInt = 6 := rfl
  rw [h0, h1, h6]
  omega
theorem b_status (hR : Rel k x y) (w : Int32) : PairI l G a b yX5_status cX5_status 4 yX6_status cX6_status 4 [.int w] k x y := by
  by_cases hb : w = -1 ∨ 0 ≤ w ∧ w ≤ 6
  · rcases hb with rfl | hb
    · exact PairI.mk (c_X5_status_all l G a x) (c_X6_status_all l G b y) (rgp ⟨rfl, rfl, rfl, rfl⟩) (by rw [hR.f]) hR.id
    · obtain ⟨i, hi, rfl⟩ := inU_of (n := 6) rfl hb
      exact PairI.mk (c_X5_status_one l G a x i (by omega)) (c_X6_status_one l G b y i (by omega)) (rgp ⟨rfl, rfl, rfl, rfl⟩) (by rw [hR.f]) hR.id
  · exact PairI.mk (c_X5_status_bad l G a x w hb) (c_X6_status_bad l G b y w (fun z => hb ((neg1_in w).mpr z))) (rgp ⟨rfl, rfl, rfl, rfl⟩) rfl (hR.tell 0)
end BO2
