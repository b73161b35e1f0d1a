/-- the reference's row of a quarter -/
def flat (q : Q2) (k : Nat) : Int32 := if k < 5 then q 7 k else if k < 71 then q ((k - 5) % 6) ((k - 5) / 6) else q 6 (k - 71)
def pick4 (k : Nat) (p0 p1 p2 p3 : Int32) : Int32 := if k = 0 then p0 else if k = 1 then p1 else if k = 2 then p2 else p3
def wM (G : GB) (b : Nat → Nat) (y : Q3) : va_W := [(b 0, .inr (5, [.ref (b 1), .ref (b 2), .ref (b 3), .int (y 3 1 0), .ref (b 4), .ref (b 5), .int (y 5 2 0), .ref (b 6), .ref (b 7), .int (y 7 1 0), .int (y 6 1 0), .int (y 6 1 1), .int (y 6 1 2), .ref (b 8), .ref (b 9), .ref (b 10), .ref (b 11)])), (b 1, .inl (G.2.1, 81, .inl (flat (y 0)))), (b 2, .inl (G.2.1, 81, .inl (flat (y 1)))), (b 3, .inl (G.2.1, 81, .inl (flat (y 2)))), (b 4, .inl (G.2.1, 7, .inl (y 3 0))), (b 5, .inl (G.2.1, 11, .inl (y 5 0))), (b 6, .inl (G.2.1, 11, .inl (y 5 1))), (b 7, .inl (G.2.1, 120, .inl (y 7 0))), (b 8, .inl (G.2.1, 4, .inl (fun k => pick4 k (y 8 1 0) (y 9 1 0) (y 10 1 0) (y 11 1 0)))), (b 9, .inl (G.2.1, 4, .inl (fun k => pick4 k (y 8 1 1) (y 9 1 1) (y 10 1 1) (y 11 1 1)))), (b 10, .inl (G.2.1, 160, .inl (fun k => pick4 (k / 40) (y 8 0 (k % 40)) (y 9 0 (k % 40)) (y 10 0 (k % 40)) (y 11 0 (k % 40))))), (b 11, .inl (G.2.1, 40, .inl (y 5 3)))]
/-- the place j of the row is row r, index i of the quarter -/
def at81 (j r i : Nat) : Prop := j < 81 ∧ ∀ (q : Q2) (k : Nat) (v : Int32), (flat q j = q r i) ∧ (upd (flat q) j v = flat (up2 q r i v))
theorem at_7 {j : Nat} (h : j < 5) : at81 j 7 j := by
  refine ⟨by omega, fun q k v => ⟨if_pos h, ?_⟩⟩
  funext m
  unfold upd flat
  by_cases h1 : m < 5
  · by_cases e : m = j
    · subst e; simp [h1, up2, upd]
    · simp [h1, e, up2, upd]
  · have e : ¬ m = j := by omega
    by_cases h2 : m < 71
    · have e7 : ¬ (m - 5) % 6 = 7 := by omega
      simp [h1, h2, e, up2, e7]
    · simp [h1, h2, e, up2]
theorem at_h {j w i : Nat} (hw : w < 6) (hi : i < 11) (hj : j = 5 + 6 * i + w) : at81 j w i := by
  subst hj
  refine ⟨by omega, fun q k v => ⟨?_, ?_⟩⟩
  · unfold flat
    rw [if_neg (by omega), if_pos (by omega), show (5 + 6 * i + w - 5) % 6 = w by omega, show (5 + 6 * i + w - 5) / 6 = i by omega]
  · funext m
    unfold upd flat
    by_cases h1 : m < 5
    · have e : ¬ m = 5 + 6 * i + w := by omega
      have e7 : ¬ 7 = w := by omega
      simp [h1, e, up2, e7]
    · by_cases h2 : m < 71
      · by_cases e : m = 5 + 6 * i + w
        · subst e
          have a1 : (5 + 6 * i + w - 5) % 6 = w := by omega
          have a2 : (5 + 6 * i + w - 5) / 6 = i := by omega
          simp [h1, h2, up2, a1, a2, upd]
        · by_cases a1 : (m - 5) % 6 = w
          · have a2 : ¬ (m - 5) / 6 = i := by omega
            simp [h1, h2, e, up2, a1, a2, upd]
          · simp [h1, h2, e, up2, a1]
      · have e : ¬ m = 5 + 6 * i + w := by omega
        have e6 : ¬ 6 = w := by omega
        simp [h1, h2, e, up2, e6]
theorem at_s {j i : Nat} (hi : i < 10) (hj : j = 71 + i) : at81 j 6 i := by
  subst hj
  refine ⟨by omega, fun q k v => ⟨?_, ?_⟩⟩
  · unfold flat
    rw [if_neg (by omega), if_neg (by omega), show 71 + i - 71 = i by omega]
  · funext m
    unfold upd flat
    by_cases h1 : m < 5
    · have e : ¬ m = 71 + i := by omega
      simp [h1, e, up2]
    · by_cases h2 : m < 71
      · have e : ¬ m = 71 + i := by omega
        have e6 : ¬ (m - 5) % 6 = 6 := by omega
        simp [h1, h2, e, up2, e6]
      · by_cases e : m = 71 + i
        · subst e
          rw [if_pos rfl, if_neg h1, if_neg h2, show 71 + i - 71 = i by omega]
          exact (up2_ss q 6 i v).symm
        · have a2 : ¬ m - 71 = i := by omega
          simp [h1, h2, e, up2, upd, a2]
theorem Int32.toInt64_le' {x y : Int32} : Int32.toInt64 x ≤ Int32.toInt64 y ↔ x ≤ y := by
  rw [Int64.le_iff_toInt_le, Int32.le_iff_toInt_le, Int32.toInt_toInt64, Int32.toInt_toInt64]
theorem Int32.toInt64_lt' {x y : Int32} : Int32.toInt64 x < Int32.toInt64 y ↔ x < y := by
  rw [Int64.lt_iff_toInt_lt, Int32.lt_iff_toInt_lt, Int32.toInt_toInt64, Int32.toInt_toInt64]
theorem fun_p0 {p0 p1 p2 p3 : Int32} (x : Int32) : ∀ k, k < 4 → upd (fun k => pick4 k p0 p1 p2 p3) 0 x k = pick4 k x p1 p2 p3 := by
  intro k hk
  rcases (show k = 0 ∨ k = 1 ∨ k = 2 ∨ k = 3 by omega) with rfl | rfl | rfl | rfl <;> simp [upd, pick4]
theorem pick4_c0 {p0 p1 p2 p3 x : Int32} {t : Nat} (ht : t < 4) (h : ¬ t = 0) : pick4 t p0 p1 p2 p3 = pick4 t x p1 p2 p3 := by
  rcases (show t = 0 ∨ t = 1 ∨ t = 2 ∨ t = 3 by omega) with rfl | rfl | rfl | rfl <;> first | rfl | exact absurd rfl h
theorem fun_p1 {p0 p1 p2 p3 : Int32} (x : Int32) : ∀ k, k < 4 → upd (fun k => pick4 k p0 p1 p2 p3) 1 x k = pick4 k p0 x p2 p3 := by
  intro k hk
  rcases (show k = 0 ∨ k = 1 ∨ k = 2 ∨ k = 3 by omega) with rfl | rfl | rfl | rfl <;> simp [upd, pick4]
theorem pick4_c1 {p0 p1 p2 p3 x : Int32} {t : Nat} (ht : t < 4) (h : ¬ t = 1) : pick4 t p0 p1 p2 p3 = pick4 t p0 x p2 p3 := by
  rcases (show t = 0 ∨ t = 1 ∨ t = 2 ∨ t = 3 by omega) with rfl | rfl | rfl | rfl <;> first | rfl | exact absurd rfl h
theorem fun_p2 {p0 p1 p2 p3 : Int32} (x : Int32) : ∀ k, k < 4 → upd (fun k => pick4 k p0 p1 p2 p3) 2 x k = pick4 k p0 p1 x p3 := by
  intro k hk
  rcases (show k = 0 ∨ k = 1 ∨ k = 2 ∨ k = 3 by omega) with rfl | rfl | rfl | rfl <;> simp [upd, pick4]
theorem pick4_c2 {p0 p1 p2 p3 x : Int32} {t : Nat} (ht : t < 4) (h : ¬ t = 2) : pick4 t p0 p1 p2 p3 = pick4 t p0 p1 x p3 := by
  rcases (show t = 0 ∨ t = 1 ∨ t = 2 ∨ t = 3 by omega) with rfl | rfl | rfl | rfl <;> first | rfl | exact absurd rfl h
theorem fun_p3 {p0 p1 p2 p3 : Int32} (x : Int32) : ∀ k, k < 4 → upd (fun k => pick4 k p0 p1 p2 p3) 3 x k = pick4 k p0 p1 p2 x := by
  intro k hk
  rcases (show k = 0 ∨ k = 1 ∨ k = 2 ∨ k = 3 by omega) with rfl | rfl | rfl | rfl <;> simp [upd, pick4]
theorem pick4_c3 {p0 p1 p2 p3 x : Int32} {t : Nat} (ht : t < 4) (h : ¬ t = 3) : pick4 t p0 p1 p2 p3 = pick4 t p0 p1 p2 x := by
  rcases (show t = 0 ∨ t = 1 ∨ t = 2 ∨ t = 3 by omega) with rfl | rfl | rfl | rfl <;> first | rfl | exact absurd rfl h
theorem fun_n0 {f0 f1 f2 f3 : Nat → Int32} {i j : Nat} (hj : j = 0 + i) (hi : i < 40) (x : Int32) : ∀ k, k < 160 → upd (fun k => pick4 (k / 40) (f0 (k % 40)) (f1 (k % 40)) (f2 (k % 40)) (f3 (k % 40))) j x k = pick4 (k / 40) (upd f0 i x (k % 40)) (f1 (k % 40)) (f2 (k % 40)) (f3 (k % 40)) := by
  subst hj
  intro k hk
  by_cases h : k = 0 + i
  · subst h
    rw [pk_us, show (0 + i) / 40 = 0 by omega, show (0 + i) % 40 = i by omega]
    exact (pk_us (f := f0)).symm
  · rw [pk_un h]
    by_cases h2 : k / 40 = 0
    · rw [pk_un (f := f0) (show k % 40 ≠ i by omega)]
    · exact pick4_c0 (by omega) h2
theorem fun_n1 {f0 f1 f2 f3 : Nat → Int32} {i j : Nat} (hj : j = 40 + i) (hi : i < 40) (x : Int32) : ∀ k, k < 160 → upd (fun k => pick4 (k / 40) (f0 (k % 40)) (f1 (k % 40)) (f2 (k % 40)) (f3 (k % 40))) j x k = pick4 (k / 40) (f0 (k % 40)) (upd f1 i x (k % 40)) (f2 (k % 40)) (f3 (k % 40)) := by
  subst hj
  intro k hk
  by_cases h : k = 40 + i
  · subst h
    rw [pk_us, show (40 + i) / 40 = 1 by omega, show (40 + i) % 40 = i by omega]
    exact (pk_us (f := f1)).symm
  · rw [pk_un h]
    by_cases h2 : k / 40 = 1
    · rw [pk_un (f := f1) (show k % 40 ≠ i by omega)]
    · exact pick4_c1 (by omega) h2
theorem fun_n2 {f0 f1 f2 f3 : Nat → Int32} {i j : Nat} (hj : j = 80 + i) (hi : i < 40) (x : Int32) : ∀ k, k < 160 → upd (fun k => pick4 (k / 40) (f0 (k % 40)) (f1 (k % 40)) (f2 (k % 40)) (f3 (k % 40))) j x k = pick4 (k / 40) (f0 (k % 40)) (f1 (k % 40)) (upd f2 i x (k % 40)) (f3 (k % 40)) := by
  subst hj
  intro k hk
  by_cases h : k = 80 + i
  · subst h
    rw [pk_us, show (80 + i) / 40 = 2 by omega, show (80 + i) % 40 = i by omega]
    exact (pk_us (f := f2)).symm
  · rw [pk_un h]
    by_cases h2 : k / 40 = 2
    · rw [pk_un (f := f2) (show k % 40 ≠ i by omega)]
    · exact pick4_c2 (by omega) h2
theorem fun_n3 {f0 f1 f2 f3 : Nat → Int32} {i j : Nat} (hj : j = 120 + i) (hi : i < 40) (x : Int32) : ∀ k, k < 160 → upd (fun k => pick4 (k / 40) (f0 (k % 40)) (f1 (k % 40)) (f2 (k % 40)) (f3 (k % 40))) j x k = pick4 (k / 40) (f0 (k % 40)) (f1 (k % 40)) (f2 (k % 40)) (upd f3 i x (k % 40)) := by
  subst hj
  intro k hk
  by_cases h : k = 120 + i
  · subst h
    rw [pk_us, show (120 + i) / 40 = 3 by omega, show (120 + i) % 40 = i by omega]
    exact (pk_us (f := f3)).symm
  · rw [pk_un h]
    by_cases h2 : k / 40 = 3
    · rw [pk_un (f := f3) (show k % 40 ≠ i by omega)]
    · exact pick4_c3 (by omega) h2
section WD
variable {X : JX} {l : Launch} {G : GB} {cc : ByteArray} {own : String} {nL fr lo kc ks pc : Nat} {lv : List (Nat × Value)} {st : List Value}
theorem gM0_X6_9 (E : JE X l G cc RX6 nL fr lo) {b : Nat → Nat} {q : Q3} (hd : decode cc pc = .ok (.getfield 9, 3)) (K : J X G nL kc ks (wM G b q) lv (pc + 3) (.ref (b 1) :: st)) : J X G nL kc ks (wM G b q) lv pc (.ref (b 0) :: st) := gf_X6_9 E 0 hd rfl rfl K
theorem gM0_X6_13 (E : JE X l G cc RX6 nL fr lo) {b : Nat → Nat} {q : Q3} (hd : decode cc pc = .ok (.getfield 13, 3)) (K : J X G nL kc ks (wM G b q) lv (pc + 3) (.ref (b 2) :: st)) : J X G nL kc ks (wM G b q) lv pc (.ref (b 0) :: st) := gf_X6_13 E 0 hd rfl rfl K
theorem gM0_X6_16 (E : JE X l G cc RX6 nL fr lo) {b : Nat → Nat} {q : Q3} (hd : decode cc pc = .ok (.getfield 16, 3)) (K : J X G nL kc ks (wM G b q) lv (pc + 3) (.ref (b 3) :: st)) : J X G nL kc ks (wM G b q) lv pc (.ref (b 0) :: st) := gf_X6_16 E 0 hd rfl rfl K
theorem gM0_X6_309 (E : JE X l G cc RX6 nL fr lo) {b : Nat → Nat} {q : Q3} (hd : decode cc pc = .ok (.getfield 309, 3)) (K : J X G nL kc ks (wM G b q) lv (pc + 3) (.int (q 3 1 0) :: st)) : J X G nL kc ks (wM G b q) lv pc (.ref (b 0) :: st) := gf_X6_309 E 0 hd rfl rfl K
theorem pM0_X6_309 (E : JE X l G cc RX6 nL fr lo) {b : Nat → Nat} {q : Q3} {x : Int32} (hn : narrow .boolean (.int x) = .int x) (hf : fits .boolean (.int x) = true) (hd : decode cc pc = .ok (.putfield 309, 3)) (K : J X G nL kc ks (wM G b (up3 q 3 1 0 x)) lv (pc + 3) st) : J X G nL kc ks (wM G b q) lv pc (.int x :: .ref (b 0) :: st) := pf_X6_309 E 0 hn hf hd rfl (Nat.le_of_ble_eq_true rfl) (J_w rfl K)
theorem gM0_X6_19 (E : JE X l G cc RX6 nL fr lo) {b : Nat → Nat} {q : Q3} (hd : decode cc pc = .ok (.getfield 19, 3)) (K : J X G nL kc ks (wM G b q) lv (pc + 3) (.ref (b 4) :: st)) : J X G nL kc ks (wM G b q) lv pc (.ref (b 0) :: st) := gf_X6_19 E 0 hd rfl rfl K
theorem gM0_X6_22 (E : JE X l G cc RX6 nL fr lo) {b : Nat → Nat} {q : Q3} (hd : decode cc pc = .ok (.getfield 22, 3)) (K : J X G nL kc ks (wM G b q) lv (pc + 3) (.ref (b 5) :: st)) : J X G nL kc ks (wM G b q) lv pc (.ref (b 0) :: st) := gf_X6_22 E 0 hd rfl rfl K
theorem gM0_X6_131 (E : JE X l G cc RX6 nL fr lo) {b : Nat → Nat} {q : Q3} (hd : decode cc pc = .ok (.getfield 131, 3)) (K : J X G nL kc ks (wM G b q) lv (pc + 3) (.int (q 5 2 0) :: st)) : J X G nL kc ks (wM G b q) lv pc (.ref (b 0) :: st) := gf_X6_131 E 0 hd rfl rfl K
theorem pM0_X6_131 (E : JE X l G cc RX6 nL fr lo) {b : Nat → Nat} {q : Q3} {x : Int32} (hd : decode cc pc = .ok (.putfield 131, 3)) (K : J X G nL kc ks (wM G b (up3 q 5 2 0 x)) lv (pc + 3) st) : J X G nL kc ks (wM G b q) lv pc (.int x :: .ref (b 0) :: st) := pf_X6_131 E 0 hd rfl (Nat.le_of_ble_eq_true rfl) (J_w rfl K)
theorem gM0_X6_25 (E : JE X l G cc RX6 nL fr lo) {b : Nat → Nat} {q : Q3} (hd : decode cc pc = .ok (.getfield 25, 3)) (K : J X G nL kc ks (wM G b q) lv (pc + 3) (.ref (b 6) :: st)) : J X G nL kc ks (wM G b q) lv pc (.ref (b 0) :: st) := gf_X6_25 E 0 hd rfl rfl K
theorem gM0_X6_28 (E : JE X l G cc RX6 nL fr lo) {b : Nat → Nat} {q : Q3} (hd : decode cc pc = .ok (.getfield 28, 3)) (K : J X G nL kc ks (wM G b q) lv (pc + 3) (.ref (b 7) :: st)) : J X G nL kc ks (wM G b q) lv pc (.ref (b 0) :: st) := gf_X6_28 E 0 hd rfl rfl K
theorem gM0_X6_214 (E : JE X l G cc RX6 nL fr lo) {b : Nat → Nat} {q : Q3} (hd : decode cc pc = .ok (.getfield 214, 3)) (K : J X G nL kc ks (wM G b q) lv (pc + 3) (.int (q 7 1 0) :: st)) : J X G nL kc ks (wM G b q) lv pc (.ref (b 0) :: st) := gf_X6_214 E 0 hd rfl rfl K
theorem pM0_X6_214 (E : JE X l G cc RX6 nL fr lo) {b : Nat → Nat} {q : Q3} {x : Int32} (hd : decode cc pc = .ok (.putfield 214, 3)) (K : J X G nL kc ks (wM G b (up3 q 7 1 0 x)) lv (pc + 3) st) : J X G nL kc ks (wM G b q) lv pc (.int x :: .ref (b 0) :: st) := pf_X6_214 E 0 hd rfl (Nat.le_of_ble_eq_true rfl) (J_w rfl K)
theorem gM0_X6_220 (E : JE X l G cc RX6 nL fr lo) {b : Nat → Nat} {q : Q3} (hd : decode cc pc = .ok (.getfield 220, 3)) (K : J X G nL kc ks (wM G b q) lv (pc + 3) (.int (q 6 1 0) :: st)) : J X G nL kc ks (wM G b q) lv pc (.ref (b 0) :: st) := gf_X6_220 E 0 hd rfl rfl K
theorem pM0_X6_220 (E : JE X l G cc RX6 nL fr lo) {b : Nat → Nat} {q : Q3} {x : Int32} (hd : decode cc pc = .ok (.putfield 220, 3)) (K : J X G nL kc ks (wM G b (up3 q 6 1 0 x)) lv (pc + 3) st) : J X G nL kc ks (wM G b q) lv pc (.int x :: .ref (b 0) :: st) := pf_X6_220 E 0 hd rfl (Nat.le_of_ble_eq_true rfl) (J_w rfl K)
theorem gM0_X6_217 (E : JE X l G cc RX6 nL fr lo) {b : Nat → Nat} {q : Q3} (hd : decode cc pc = .ok (.getfield 217, 3)) (K : J X G nL kc ks (wM G b q) lv (pc + 3) (.int (q 6 1 1) :: st)) : J X G nL kc ks (wM G b q) lv pc (.ref (b 0) :: st) := gf_X6_217 E 0 hd rfl rfl K
theorem pM0_X6_217 (E : JE X l G cc RX6 nL fr lo) {b : Nat → Nat} {q : Q3} {x : Int32} (hd : decode cc pc = .ok (.putfield 217, 3)) (K : J X G nL kc ks (wM G b (up3 q 6 1 1 x)) lv (pc + 3) st) : J X G nL kc ks (wM G b q) lv pc (.int x :: .ref (b 0) :: st) := pf_X6_217 E 0 hd rfl (Nat.le_of_ble_eq_true rfl) (J_w rfl K)
theorem gM0_X6_227 (E : JE X l G cc RX6 nL fr lo) {b : Nat → Nat} {q : Q3} (hd : decode cc pc = .ok (.getfield 227, 3)) (K : J X G nL kc ks (wM G b q) lv (pc + 3) (.int (q 6 1 2) :: st)) : J X G nL kc ks (wM G b q) lv pc (.ref (b 0) :: st) := gf_X6_227 E 0 hd rfl rfl K
theorem pM0_X6_227 (E : JE X l G cc RX6 nL fr lo) {b : Nat → Nat} {q : Q3} {x : Int32} (hn : narrow .boolean (.int x) = .int x) (hf : fits .boolean (.int x) = true) (hd : decode cc pc = .ok (.putfield 227, 3)) (K : J X G nL kc ks (wM G b (up3 q 6 1 2 x)) lv (pc + 3) st) : J X G nL kc ks (wM G b q) lv pc (.int x :: .ref (b 0) :: st) := pf_X6_227 E 0 hn hf hd rfl (Nat.le_of_ble_eq_true rfl) (J_w rfl K)
theorem gM0_X6_31 (E : JE X l G cc RX6 nL fr lo) {b : Nat → Nat} {q : Q3} (hd : decode cc pc = .ok (.getfield 31, 3)) (K : J X G nL kc ks (wM G b q) lv (pc + 3) (.ref (b 8) :: st)) : J X G nL kc ks (wM G b q) lv pc (.ref (b 0) :: st) := gf_X6_31 E 0 hd rfl rfl K
theorem gM0_X6_34 (E : JE X l G cc RX6 nL fr lo) {b : Nat → Nat} {q : Q3} (hd : decode cc pc = .ok (.getfield 34, 3)) (K : J X G nL kc ks (wM G b q) lv (pc + 3) (.ref (b 9) :: st)) : J X G nL kc ks (wM G b q) lv pc (.ref (b 0) :: st) := gf_X6_34 E 0 hd rfl rfl K
theorem gM0_X6_37 (E : JE X l G cc RX6 nL fr lo) {b : Nat → Nat} {q : Q3} (hd : decode cc pc = .ok (.getfield 37, 3)) (K : J X G nL kc ks (wM G b q) lv (pc + 3) (.ref (b 10) :: st)) : J X G nL kc ks (wM G b q) lv pc (.ref (b 0) :: st) := gf_X6_37 E 0 hd rfl rfl K
theorem gM0_X6_40 (E : JE X l G cc RX6 nL fr lo) {b : Nat → Nat} {q : Q3} (hd : decode cc pc = .ok (.getfield 40, 3)) (K : J X G nL kc ks (wM G b q) lv (pc + 3) (.ref (b 11) :: st)) : J X G nL kc ks (wM G b q) lv pc (.ref (b 0) :: st) := gf_X6_40 E 0 hd rfl rfl K
theorem lM_4 (E : JE X l G cc own nL fr lo) {b : Nat → Nat} {q : Q3} {j : Nat} (hd : decode cc pc = .ok (.iaload, 1)) (hj : j < 7) (K : J X G nL kc ks (wM G b q) lv (pc + 1) (.int (q 3 0 j) :: st)) : J X G nL kc ks (wM G b q) lv pc (.int (nI j) :: .ref (b 4) :: st) := J_ialdN E 4 hd rfl hj (by decide) K
theorem liM_4 (E : JE X l G cc own nL fr lo) {b : Nat → Nat} {q : Q3} {i : Int32} (hd : decode cc pc = .ok (.iaload, 1)) (hin : vp_in i 7) (K : J X G nL kc ks (wM G b q) lv (pc + 1) (.int (q 3 0 i.toNatClampNeg) :: st)) : J X G nL kc ks (wM G b q) lv pc (.int i :: .ref (b 4) :: st) := J_iald E 4 hd rfl hin rfl K
theorem sM_4 (E : JE X l G cc own nL fr lo) {b : Nat → Nat} {q : Q3} {j : Nat} {x : Int32} (hd : decode cc pc = .ok (.iastore, 1)) (hj : j < 7) (K : J X G nL kc ks (wM G b (up3 q 3 0 j x)) lv (pc + 1) st) : J X G nL kc ks (wM G b q) lv pc (.int x :: .int (nI j) :: .ref (b 4) :: st) := J_iastN E 4 hd rfl hj (by decide) (J_w rfl K)
theorem siM_4 (E : JE X l G cc own nL fr lo) {b : Nat → Nat} {q : Q3} {i x : Int32} (hd : decode cc pc = .ok (.iastore, 1)) (hin : vp_in i 7) (K : J X G nL kc ks (wM G b (up3 q 3 0 i.toNatClampNeg x)) lv (pc + 1) st) : J X G nL kc ks (wM G b q) lv pc (.int x :: .int i :: .ref (b 4) :: st) := J_iast E 4 hd rfl hin rfl (J_w rfl K)
theorem lM_5 (E : JE X l G cc own nL fr lo) {b : Nat → Nat} {q : Q3} {j : Nat} (hd : decode cc pc = .ok (.iaload, 1)) (hj : j < 11) (K : J X G nL kc ks (wM G b q) lv (pc + 1) (.int (q 5 0 j) :: st)) : J X G nL kc ks (wM G b q) lv pc (.int (nI j) :: .ref (b 5) :: st) := J_ialdN E 5 hd rfl hj (by decide) K
theorem liM_5 (E : JE X l G cc own nL fr lo) {b : Nat → Nat} {q : Q3} {i : Int32} (hd : decode cc pc = .ok (.iaload, 1)) (hin : vp_in i 11) (K : J X G nL kc ks (wM G b q) lv (pc + 1) (.int (q 5 0 i.toNatClampNeg) :: st)) : J X G nL kc ks (wM G b q) lv pc (.int i :: .ref (b 5) :: st) := J_iald E 5 hd rfl hin rfl K
theorem sM_5 (E : JE X l G cc own nL fr lo) {b : Nat → Nat} {q : Q3} {j : Nat} {x : Int32} (hd : decode cc pc = .ok (.iastore, 1)) (hj : j < 11) (K : J X G nL kc ks (wM G b (up3 q 5 0 j x)) lv (pc + 1) st) : J X G nL kc ks (wM G b q) lv pc (.int x :: .int (nI j) :: .ref (b 5) :: st) := J_iastN E 5 hd rfl hj (by decide) (J_w rfl K)
theorem siM_5 (E : JE X l G cc own nL fr lo) {b : Nat → Nat} {q : Q3} {i x : Int32} (hd : decode cc pc = .ok (.iastore, 1)) (hin : vp_in i 11) (K : J X G nL kc ks (wM G b (up3 q 5 0 i.toNatClampNeg x)) lv (pc + 1) st) : J X G nL kc ks (wM G b q) lv pc (.int x :: .int i :: .ref (b 5) :: st) := J_iast E 5 hd rfl hin rfl (J_w rfl K)
theorem lM_6 (E : JE X l G cc own nL fr lo) {b : Nat → Nat} {q : Q3} {j : Nat} (hd : decode cc pc = .ok (.iaload, 1)) (hj : j < 11) (K : J X G nL kc ks (wM G b q) lv (pc + 1) (.int (q 5 1 j) :: st)) : J X G nL kc ks (wM G b q) lv pc (.int (nI j) :: .ref (b 6) :: st) := J_ialdN E 6 hd rfl hj (by decide) K
theorem liM_6 (E : JE X l G cc own nL fr lo) {b : Nat → Nat} {q : Q3} {i : Int32} (hd : decode cc pc = .ok (.iaload, 1)) (hin : vp_in i 11) (K : J X G nL kc ks (wM G b q) lv (pc + 1) (.int (q 5 1 i.toNatClampNeg) :: st)) : J X G nL kc ks (wM G b q) lv pc (.int i :: .ref (b 6) :: st) := J_iald E 6 hd rfl hin rfl K
theorem sM_6 (E : JE X l G cc own nL fr lo) {b : Nat → Nat} {q : Q3} {j : Nat} {x : Int32} (hd : decode cc pc = .ok (.iastore, 1)) (hj : j < 11) (K : J X G nL kc ks (wM G b (up3 q 5 1 j x)) lv (pc + 1) st) : J X G nL kc ks (wM G b q) lv pc (.int x :: .int (nI j) :: .ref (b 6) :: st) := J_iastN E 6 hd rfl hj (by decide) (J_w rfl K)
theorem siM_6 (E : JE X l G cc own nL fr lo) {b : Nat → Nat} {q : Q3} {i x : Int32} (hd : decode cc pc = .ok (.iastore, 1)) (hin : vp_in i 11) (K : J X G nL kc ks (wM G b (up3 q 5 1 i.toNatClampNeg x)) lv (pc + 1) st) : J X G nL kc ks (wM G b q) lv pc (.int x :: .int i :: .ref (b 6) :: st) := J_iast E 6 hd rfl hin rfl (J_w rfl K)
theorem lM_7 (E : JE X l G cc own nL fr lo) {b : Nat → Nat} {q : Q3} {j : Nat} (hd : decode cc pc = .ok (.iaload, 1)) (hj : j < 120) (K : J X G nL kc ks (wM G b q) lv (pc + 1) (.int (q 7 0 j) :: st)) : J X G nL kc ks (wM G b q) lv pc (.int (nI j) :: .ref (b 7) :: st) := J_ialdN E 7 hd rfl hj (by decide) K
theorem liM_7 (E : JE X l G cc own nL fr lo) {b : Nat → Nat} {q : Q3} {i : Int32} (hd : decode cc pc = .ok (.iaload, 1)) (hin : vp_in i 120) (K : J X G nL kc ks (wM G b q) lv (pc + 1) (.int (q 7 0 i.toNatClampNeg) :: st)) : J X G nL kc ks (wM G b q) lv pc (.int i :: .ref (b 7) :: st) := J_iald E 7 hd rfl hin rfl K
theorem sM_7 (E : JE X l G cc own nL fr lo) {b : Nat → Nat} {q : Q3} {j : Nat} {x : Int32} (hd : decode cc pc = .ok (.iastore, 1)) (hj : j < 120) (K : J X G nL kc ks (wM G b (up3 q 7 0 j x)) lv (pc + 1) st) : J X G nL kc ks (wM G b q) lv pc (.int x :: .int (nI j) :: .ref (b 7) :: st) := J_iastN E 7 hd rfl hj (by decide) (J_w rfl K)
theorem siM_7 (E : JE X l G cc own nL fr lo) {b : Nat → Nat} {q : Q3} {i x : Int32} (hd : decode cc pc = .ok (.iastore, 1)) (hin : vp_in i 120) (K : J X G nL kc ks (wM G b (up3 q 7 0 i.toNatClampNeg x)) lv (pc + 1) st) : J X G nL kc ks (wM G b q) lv pc (.int x :: .int i :: .ref (b 7) :: st) := J_iast E 7 hd rfl hin rfl (J_w rfl K)
theorem lM_11 (E : JE X l G cc own nL fr lo) {b : Nat → Nat} {q : Q3} {j : Nat} (hd : decode cc pc = .ok (.iaload, 1)) (hj : j < 40) (K : J X G nL kc ks (wM G b q) lv (pc + 1) (.int (q 5 3 j) :: st)) : J X G nL kc ks (wM G b q) lv pc (.int (nI j) :: .ref (b 11) :: st) := J_ialdN E 11 hd rfl hj (by decide) K
theorem liM_11 (E : JE X l G cc own nL fr lo) {b : Nat → Nat} {q : Q3} {i : Int32} (hd : decode cc pc = .ok (.iaload, 1)) (hin : vp_in i 40) (K : J X G nL kc ks (wM G b q) lv (pc + 1) (.int (q 5 3 i.toNatClampNeg) :: st)) : J X G nL kc ks (wM G b q) lv pc (.int i :: .ref (b 11) :: st) := J_iald E 11 hd rfl hin rfl K
theorem sM_11 (E : JE X l G cc own nL fr lo) {b : Nat → Nat} {q : Q3} {j : Nat} {x : Int32} (hd : decode cc pc = .ok (.iastore, 1)) (hj : j < 40) (K : J X G nL kc ks (wM G b (up3 q 5 3 j x)) lv (pc + 1) st) : J X G nL kc ks (wM G b q) lv pc (.int x :: .int (nI j) :: .ref (b 11) :: st) := J_iastN E 11 hd rfl hj (by decide) (J_w rfl K)
theorem siM_11 (E : JE X l G cc own nL fr lo) {b : Nat → Nat} {q : Q3} {i x : Int32} (hd : decode cc pc = .ok (.iastore, 1)) (hin : vp_in i 40) (K : J X G nL kc ks (wM G b (up3 q 5 3 i.toNatClampNeg x)) lv (pc + 1) st) : J X G nL kc ks (wM G b q) lv pc (.int x :: .int i :: .ref (b 11) :: st) := J_iast E 11 hd rfl hin rfl (J_w rfl K)
theorem lMs (E : JE X l G cc own nL fr lo) {b : Nat → Nat} {q : Q3} {j r i : Nat} (ha : at81 j r i) (hd : decode cc pc = .ok (.iaload, 1)) (K : J X G nL kc ks (wM G b q) lv (pc + 1) (.int (q 0 r i) :: st)) : J X G nL kc ks (wM G b q) lv pc (.int (nI j) :: .ref (b 1) :: st) := J_ialdN E 1 hd rfl ha.1 (by decide) (by rw [(ha.2 (q 0) 0 0).1]; exact K)
theorem sMs (E : JE X l G cc own nL fr lo) {b : Nat → Nat} {q : Q3} {j r i : Nat} {x : Int32} (ha : at81 j r i) (hd : decode cc pc = .ok (.iastore, 1)) (K : J X G nL kc ks (wM G b (up3 q 0 r i x)) lv (pc + 1) st) : J X G nL kc ks (wM G b q) lv pc (.int x :: .int (nI j) :: .ref (b 1) :: st) := J_iastN E 1 hd rfl ha.1 (by decide) (J_w (by rw [(ha.2 (q 0) 0 x).2]; rfl) K)
theorem lMb_0 (E : JE X l G cc own nL fr lo) {b : Nat → Nat} {q : Q3} (hd : decode cc pc = .ok (.iaload, 1)) (K : J X G nL kc ks (wM G b q) lv (pc + 1) (.int (q 8 1 0) :: st)) : J X G nL kc ks (wM G b q) lv pc (.int (nI 0) :: .ref (b 8) :: st) := J_ialdN E 8 hd rfl (by decide) (by decide) K
theorem sMb_0 (E : JE X l G cc own nL fr lo) {b : Nat → Nat} {q : Q3} {x : Int32} (hd : decode cc pc = .ok (.iastore, 1)) (K : J X G nL kc ks (wM G b (up3 q 8 1 0 x)) lv (pc + 1) st) : J X G nL kc ks (wM G b q) lv pc (.int x :: .int (nI 0) :: .ref (b 8) :: st) := J_iastN E 8 hd rfl (by decide) (by decide) (J_arr 8 rfl (fun_p0 x) (J_w rfl K))
theorem lMz_0 (E : JE X l G cc own nL fr lo) {b : Nat → Nat} {q : Q3} (hd : decode cc pc = .ok (.iaload, 1)) (K : J X G nL kc ks (wM G b q) lv (pc + 1) (.int (q 8 1 1) :: st)) : J X G nL kc ks (wM G b q) lv pc (.int (nI 0) :: .ref (b 9) :: st) := J_ialdN E 9 hd rfl (by decide) (by decide) K
theorem sMz_0 (E : JE X l G cc own nL fr lo) {b : Nat → Nat} {q : Q3} {x : Int32} (hd : decode cc pc = .ok (.iastore, 1)) (K : J X G nL kc ks (wM G b (up3 q 8 1 1 x)) lv (pc + 1) st) : J X G nL kc ks (wM G b q) lv pc (.int x :: .int (nI 0) :: .ref (b 9) :: st) := J_iastN E 9 hd rfl (by decide) (by decide) (J_arr 9 rfl (fun_p0 x) (J_w rfl K))
theorem lMn_0 (E : JE X l G cc own nL fr lo) {b : Nat → Nat} {q : Q3} {j i : Nat} (hj : j = 0 + i) (hi : i < 40) (hd : decode cc pc = .ok (.iaload, 1)) (K : J X G nL kc ks (wM G b q) lv (pc + 1) (.int (q 8 0 i) :: st)) : J X G nL kc ks (wM G b q) lv pc (.int (nI j) :: .ref (b 10) :: st) := J_ialdN E 10 hd rfl (by omega) (by decide) (by rw [show j / 40 = 0 by omega, show j % 40 = i by omega]; exact K)
theorem sMn_0 (E : JE X l G cc own nL fr lo) {b : Nat → Nat} {q : Q3} {j i : Nat} {x : Int32} (hj : j = 0 + i) (hi : i < 40) (hd : decode cc pc = .ok (.iastore, 1)) (K : J X G nL kc ks (wM G b (up3 q 8 0 i x)) lv (pc + 1) st) : J X G nL kc ks (wM G b q) lv pc (.int x :: .int (nI j) :: .ref (b 10) :: st) := J_iastN E 10 hd rfl (by omega) (by decide) (J_arr 10 rfl (fun_n0 hj hi x) (J_w rfl K))
theorem lMb_1 (E : JE X l G cc own nL fr lo) {b : Nat → Nat} {q : Q3} (hd : decode cc pc = .ok (.iaload, 1)) (K : J X G nL kc ks (wM G b q) lv (pc + 1) (.int (q 9 1 0) :: st)) : J X G nL kc ks (wM G b q) lv pc (.int (nI 1) :: .ref (b 8) :: st) := J_ialdN E 8 hd rfl (by decide) (by decide) K
theorem sMb_1 (E : JE X l G cc own nL fr lo) {b : Nat → Nat} {q : Q3} {x : Int32} (hd : decode cc pc = .ok (.iastore, 1)) (K : J X G nL kc ks (wM G b (up3 q 9 1 0 x)) lv (pc + 1) st) : J X G nL kc ks (wM G b q) lv pc (.int x :: .int (nI 1) :: .ref (b 8) :: st) := J_iastN E 8 hd rfl (by decide) (by decide) (J_arr 8 rfl (fun_p1 x) (J_w rfl K))
theorem lMz_1 (E : JE X l G cc own nL fr lo) {b : Nat → Nat} {q : Q3} (hd : decode cc pc = .ok (.iaload, 1)) (K : J X G nL kc ks (wM G b q) lv (pc + 1) (.int (q 9 1 1) :: st)) : J X G nL kc ks (wM G b q) lv pc (.int (nI 1) :: .ref (b 9) :: st) := J_ialdN E 9 hd rfl (by decide) (by decide) K
theorem sMz_1 (E : JE X l G cc own nL fr lo) {b : Nat → Nat} {q : Q3} {x : Int32} (hd : decode cc pc = .ok (.iastore, 1)) (K : J X G nL kc ks (wM G b (up3 q 9 1 1 x)) lv (pc + 1) st) : J X G nL kc ks (wM G b q) lv pc (.int x :: .int (nI 1) :: .ref (b 9) :: st) := J_iastN E 9 hd rfl (by decide) (by decide) (J_arr 9 rfl (fun_p1 x) (J_w rfl K))
theorem lMn_1 (E : JE X l G cc own nL fr lo) {b : Nat → Nat} {q : Q3} {j i : Nat} (hj : j = 40 + i) (hi : i < 40) (hd : decode cc pc = .ok (.iaload, 1)) (K : J X G nL kc ks (wM G b q) lv (pc + 1) (.int (q 9 0 i) :: st)) : J X G nL kc ks (wM G b q) lv pc (.int (nI j) :: .ref (b 10) :: st) := J_ialdN E 10 hd rfl (by omega) (by decide) (by rw [show j / 40 = 1 by omega, show j % 40 = i by omega]; exact K)
theorem sMn_1 (E : JE X l G cc own nL fr lo) {b : Nat → Nat} {q : Q3} {j i : Nat} {x : Int32} (hj : j = 40 + i) (hi : i < 40) (hd : decode cc pc = .ok (.iastore, 1)) (K : J X G nL kc ks (wM G b (up3 q 9 0 i x)) lv (pc + 1) st) : J X G nL kc ks (wM G b q) lv pc (.int x :: .int (nI j) :: .ref (b 10) :: st) := J_iastN E 10 hd rfl (by omega) (by decide) (J_arr 10 rfl (fun_n1 hj hi x) (J_w rfl K))
theorem lMb_2 (E : JE X l G cc own nL fr lo) {b : Nat → Nat} {q : Q3} (hd : decode cc pc = .ok (.iaload, 1)) (K : J X G nL kc ks (wM G b q) lv (pc + 1) (.int (q 10 1 0) :: st)) : J X G nL kc ks (wM G b q) lv pc (.int (nI 2) :: .ref (b 8) :: st) := J_ialdN E 8 hd rfl (by decide) (by decide) K
theorem sMb_2 (E : JE X l G cc own nL fr lo) {b : Nat → Nat} {q : Q3} {x : Int32} (hd : decode cc pc = .ok (.iastore, 1)) (K : J X G nL kc ks (wM G b (up3 q 10 1 0 x)) lv (pc + 1) st) : J X G nL kc ks (wM G b q) lv pc (.int x :: .int (nI 2) :: .ref (b 8) :: st) := J_iastN E 8 hd rfl (by decide) (by decide) (J_arr 8 rfl (fun_p2 x) (J_w rfl K))
theorem lMz_2 (E : JE X l G cc own nL fr lo) {b : Nat → Nat} {q : Q3} (hd : decode cc pc = .ok (.iaload, 1)) (K : J X G nL kc ks (wM G b q) lv (pc + 1) (.int (q 10 1 1) :: st)) : J X G nL kc ks (wM G b q) lv pc (.int (nI 2) :: .ref (b 9) :: st) := J_ialdN E 9 hd rfl (by decide) (by decide) K
theorem sMz_2 (E : JE X l G cc own nL fr lo) {b : Nat → Nat} {q : Q3} {x : Int32} (hd : decode cc pc = .ok (.iastore, 1)) (K : J X G nL kc ks (wM G b (up3 q 10 1 1 x)) lv (pc + 1) st) : J X G nL kc ks (wM G b q) lv pc (.int x :: .int (nI 2) :: .ref (b 9) :: st) := J_iastN E 9 hd rfl (by decide) (by decide) (J_arr 9 rfl (fun_p2 x) (J_w rfl K))
theorem lMn_2 (E : JE X l G cc own nL fr lo) {b : Nat → Nat} {q : Q3} {j i : Nat} (hj : j = 80 + i) (hi : i < 40) (hd : decode cc pc = .ok (.iaload, 1)) (K : J X G nL kc ks (wM G b q) lv (pc + 1) (.int (q 10 0 i) :: st)) : J X G nL kc ks (wM G b q) lv pc (.int (nI j) :: .ref (b 10) :: st) := J_ialdN E 10 hd rfl (by omega) (by decide) (by rw [show j / 40 = 2 by omega, show j % 40 = i by omega]; exact K)
theorem sMn_2 (E : JE X l G cc own nL fr lo) {b : Nat → Nat} {q : Q3} {j i : Nat} {x : Int32} (hj : j = 80 + i) (hi : i < 40) (hd : decode cc pc = .ok (.iastore, 1)) (K : J X G nL kc ks (wM G b (up3 q 10 0 i x)) lv (pc + 1) st) : J X G nL kc ks (wM G b q) lv pc (.int x :: .int (nI j) :: .ref (b 10) :: st) := J_iastN E 10 hd rfl (by omega) (by decide) (J_arr 10 rfl (fun_n2 hj hi x) (J_w rfl K))
theorem lMb_3 (E : JE X l G cc own nL fr lo) {b : Nat → Nat} {q : Q3} (hd : decode cc pc = .ok (.iaload, 1)) (K : J X G nL kc ks (wM G b q) lv (pc + 1) (.int (q 11 1 0) :: st)) : J X G nL kc ks (wM G b q) lv pc (.int (nI 3) :: .ref (b 8) :: st) := J_ialdN E 8 hd rfl (by decide) (by decide) K
theorem sMb_3 (E : JE X l G cc own nL fr lo) {b : Nat → Nat} {q : Q3} {x : Int32} (hd : decode cc pc = .ok (.iastore, 1)) (K : J X G nL kc ks (wM G b (up3 q 11 1 0 x)) lv (pc + 1) st) : J X G nL kc ks (wM G b q) lv pc (.int x :: .int (nI 3) :: .ref (b 8) :: st) := J_iastN E 8 hd rfl (by decide) (by decide) (J_arr 8 rfl (fun_p3 x) (J_w rfl K))
theorem lMz_3 (E : JE X l G cc own nL fr lo) {b : Nat → Nat} {q : Q3} (hd : decode cc pc = .ok (.iaload, 1)) (K : J X G nL kc ks (wM G b q) lv (pc + 1) (.int (q 11 1 1) :: st)) : J X G nL kc ks (wM G b q) lv pc (.int (nI 3) :: .ref (b 9) :: st) := J_ialdN E 9 hd rfl (by decide) (by decide) K
theorem sMz_3 (E : JE X l G cc own nL fr lo) {b : Nat → Nat} {q : Q3} {x : Int32} (hd : decode cc pc = .ok (.iastore, 1)) (K : J X G nL kc ks (wM G b (up3 q 11 1 1 x)) lv (pc + 1) st) : J X G nL kc ks (wM G b q) lv pc (.int x :: .int (nI 3) :: .ref (b 9) :: st) := J_iastN E 9 hd rfl (by decide) (by decide) (J_arr 9 rfl (fun_p3 x) (J_w rfl K))
theorem lMn_3 (E : JE X l G cc own nL fr lo) {b : Nat → Nat} {q : Q3} {j i : Nat} (hj : j = 120 + i) (hi : i < 40) (hd : decode cc pc = .ok (.iaload, 1)) (K : J X G nL kc ks (wM G b q) lv (pc + 1) (.int (q 11 0 i) :: st)) : J X G nL kc ks (wM G b q) lv pc (.int (nI j) :: .ref (b 10) :: st) := J_ialdN E 10 hd rfl (by omega) (by decide) (by rw [show j / 40 = 3 by omega, show j % 40 = i by omega]; exact K)
theorem sMn_3 (E : JE X l G cc own nL fr lo) {b : Nat → Nat} {q : Q3} {j i : Nat} {x : Int32} (hj : j = 120 + i) (hi : i < 40) (hd : decode cc pc = .ok (.iastore, 1)) (K : J X G nL kc ks (wM G b (up3 q 11 0 i x)) lv (pc + 1) st) : J X G nL kc ks (wM G b q) lv pc (.int x :: .int (nI j) :: .ref (b 10) :: st) := J_iastN E 10 hd rfl (by omega) (by decide) (J_arr 10 rfl (fun_n3 hj hi x) (J_w rfl K))
end WD
