/-- what the Statement gives of the start, row by row -/
def gvL : List Cond := flatC (Cond.and given_1 narrow_1)
theorem gv_at {args : Array Value} {s : State} (h : (Cond.and given_1 narrow_1).before args s = true) {i : Nat} {w : Cond} (hi : gvL[i]? = some w) : w.before args s = true := flat_of_before _ h w (List.mem_of_getElem? hi)
/-- a String constant and its bytes -/
theorem str_of {args : Array Value} {s : State} {own tx : String} {k : Nat} {bs : List Int32} {A : Nat → Prop} (hex : (Cond.exactly (.string own k) "java/lang/String").before args s = true) (hco : (Cond.eq (.field (.string own k) "java/lang/String" "coder" "B") (.int 0)).before args s = true) (har : (Cond.arrayOf (.field (.string own k) "java/lang/String" "value" "[B") .byte).before args s = true) (hle : (Cond.eq (.length (.field (.string own k) "java/lang/String" "value" "[B")) (.int (Int32.ofNat bs.length))).before args s = true) (hel : ∀ j : Nat, j < bs.length → (Cond.eq (.elem (.field (.string own k) "java/lang/String" "value" "[B") (.int (Int32.ofNat j))) (.int (bs.getD j 0))).before args s = true) (hr : (Cond.stringRef own k tx).before args s = true) (hN : bs.length < 2 ^ 31) (hA : ∀ a : Nat, a < s.heap.size → ¬ A a) : ∃ q : Nat × Nat, (va_O "java/lang/String" q.1 A s s.heap ∧ va_OF "java/lang/String" "coder" "B" (.int 0) q.1 A s s.heap ∧ va_OF "java/lang/String" "value" "[B" (.ref q.2) q.1 A s s.heap ∧ va_T .byte q.2 bs.length (fun j => .int (bs.getD j 0)) A s s.heap) ∧ vk_R own k tx q.1 s := by
  obtain ⟨a, c, cA, kA, q1, q2, q3, q4, q5, q6, -⟩ := Cond.exactly_spec (args := args) (first := s) (o := none) (s := s) (idx := []) (t := .string own k) (cls := "java/lang/String") hex
  obtain ⟨t, ht, hT⟩ := va_Tof (f := fun j => .int (bs.getD j 0)) (A := A) hN har (va_eqt hle) (fun j hj => va_eqt (hel j hj)) hA
  exact ⟨(a, t), ⟨⟨cA, q3, q5, by rw [q6]; exact q2, hA a (Array.getElem?_eq_some_iff.mp q3).1⟩, vk_OFof q1 (va_eqt hco) hA, vk_OFof q1 ht hA, hT⟩, vk_R.of hr q1⟩
def strP (s : State) (A : Nat → Prop) (i : Nat) (q : Nat × Nat) : Prop := (va_O "java/lang/String" q.1 A s s.heap ∧ va_OF "java/lang/String" "coder" "B" (.int 0) q.1 A s s.heap ∧ va_OF "java/lang/String" "value" "[B" (.ref q.2) q.1 A s s.heap ∧ va_T .byte q.2 (byS i).length (fun j => .int ((byS i).getD j 0)) A s s.heap) ∧ ∀ z : String × Nat × String, strK[i]? = some z → vk_R z.1 z.2.1 z.2.2 q.1 s
section CON
variable {b : Nat} {s : State} {A : Nat → Prop}
theorem str_0 (hg : (Cond.and given_1 narrow_1).before #[Value.ref b] s = true) (ht : ∀ w ∈ lw_tbl, w.before #[Value.ref b] s = true) (hA : ∀ a : Nat, a < s.heap.size → ¬ A a) : ∃ q : Nat × Nat, strP s A 0 q := by
  have e : ∀ j, j < (byS 0).length → gvL[([23, 24, 25, 26] : List Nat).getD j 0]? = some (Cond.eq (.elem (.field (.string "GutterRights$TextReader" 34) "java/lang/String" "value" "[B") (.int (Int32.ofNat j))) (.int ((byS 0).getD j 0))) := by decide +kernel
  obtain ⟨q, h1, h2⟩ := str_of (own := "GutterRights$TextReader") (tx := "rain") (k := 34) (bs := byS 0) (A := A) (gv_at hg (i := 19) (by decide +kernel)) (gv_at hg (i := 20) (by decide +kernel)) (gv_at hg (i := 21) (by decide +kernel)) (gv_at hg (i := 22) (by decide +kernel)) (fun j hj => gv_at hg (e j hj)) (ht _ (List.mem_of_getElem? (i := 531) (by decide +kernel))) (Nat.lt_of_le_of_lt (m := 10) (by decide) (by decide)) hA
  exact ⟨q, h1, fun z hz => by cases hz; exact h2⟩
theorem str_1 (hg : (Cond.and given_1 narrow_1).before #[Value.ref b] s = true) (ht : ∀ w ∈ lw_tbl, w.before #[Value.ref b] s = true) (hA : ∀ a : Nat, a < s.heap.size → ¬ A a) : ∃ q : Nat × Nat, strP s A 1 q := by
  have e : ∀ j, j < (byS 1).length → gvL[([31, 32, 33, 34] : List Nat).getD j 0]? = some (Cond.eq (.elem (.field (.string "GutterRights$TextReader" 97) "java/lang/String" "value" "[B") (.int (Int32.ofNat j))) (.int ((byS 1).getD j 0))) := by decide +kernel
  obtain ⟨q, h1, h2⟩ := str_of (own := "GutterRights$TextReader") (tx := "font") (k := 97) (bs := byS 1) (A := A) (gv_at hg (i := 27) (by decide +kernel)) (gv_at hg (i := 28) (by decide +kernel)) (gv_at hg (i := 29) (by decide +kernel)) (gv_at hg (i := 30) (by decide +kernel)) (fun j hj => gv_at hg (e j hj)) (ht _ (List.mem_of_getElem? (i := 599) (by decide +kernel))) (Nat.lt_of_le_of_lt (m := 10) (by decide) (by decide)) hA
  exact ⟨q, h1, fun z hz => by cases hz; exact h2⟩
theorem str_2 (hg : (Cond.and given_1 narrow_1).before #[Value.ref b] s = true) (ht : ∀ w ∈ lw_tbl, w.before #[Value.ref b] s = true) (hA : ∀ a : Nat, a < s.heap.size → ¬ A a) : ∃ q : Nat × Nat, strP s A 2 q := by
  have e : ∀ j, j < (byS 2).length → gvL[([39, 40, 41, 42] : List Nat).getD j 0]? = some (Cond.eq (.elem (.field (.string "GutterRights$TextReader" 99) "java/lang/String" "value" "[B") (.int (Int32.ofNat j))) (.int ((byS 2).getD j 0))) := by decide +kernel
  obtain ⟨q, h1, h2⟩ := str_of (own := "GutterRights$TextReader") (tx := "dyer") (k := 99) (bs := byS 2) (A := A) (gv_at hg (i := 35) (by decide +kernel)) (gv_at hg (i := 36) (by decide +kernel)) (gv_at hg (i := 37) (by decide +kernel)) (gv_at hg (i := 38) (by decide +kernel)) (fun j hj => gv_at hg (e j hj)) (ht _ (List.mem_of_getElem? (i := 600) (by decide +kernel))) (Nat.lt_of_le_of_lt (m := 10) (by decide) (by decide)) hA
  exact ⟨q, h1, fun z hz => by cases hz; exact h2⟩
theorem str_3 (hg : (Cond.and given_1 narrow_1).before #[Value.ref b] s = true) (ht : ∀ w ∈ lw_tbl, w.before #[Value.ref b] s = true) (hA : ∀ a : Nat, a < s.heap.size → ¬ A a) : ∃ q : Nat × Nat, strP s A 3 q := by
  have e : ∀ j, j < (byS 3).length → gvL[([47, 48, 49, 50, 51, 52, 53] : List Nat).getD j 0]? = some (Cond.eq (.elem (.field (.string "GutterRights$TextReader" 101) "java/lang/String" "value" "[B") (.int (Int32.ofNat j))) (.int ((byS 3).getD j 0))) := by decide +kernel
  obtain ⟨q, h1, h2⟩ := str_of (own := "GutterRights$TextReader") (tx := "brewery") (k := 101) (bs := byS 3) (A := A) (gv_at hg (i := 43) (by decide +kernel)) (gv_at hg (i := 44) (by decide +kernel)) (gv_at hg (i := 45) (by decide +kernel)) (gv_at hg (i := 46) (by decide +kernel)) (fun j hj => gv_at hg (e j hj)) (ht _ (List.mem_of_getElem? (i := 601) (by decide +kernel))) (Nat.lt_of_le_of_lt (m := 10) (by decide) (by decide)) hA
  exact ⟨q, h1, fun z hz => by cases hz; exact h2⟩
theorem str_4 (hg : (Cond.and given_1 narrow_1).before #[Value.ref b] s = true) (ht : ∀ w ∈ lw_tbl, w.before #[Value.ref b] s = true) (hA : ∀ a : Nat, a < s.heap.size → ¬ A a) : ∃ q : Nat × Nat, strP s A 4 q := by
  have e : ∀ j, j < (byS 4).length → gvL[([58, 59, 60, 61] : List Nat).getD j 0]? = some (Cond.eq (.elem (.field (.string "GutterRights$TextReader" 103) "java/lang/String" "value" "[B") (.int (Int32.ofNat j))) (.int ((byS 4).getD j 0))) := by decide +kernel
  obtain ⟨q, h1, h2⟩ := str_of (own := "GutterRights$TextReader") (tx := "duel") (k := 103) (bs := byS 4) (A := A) (gv_at hg (i := 54) (by decide +kernel)) (gv_at hg (i := 55) (by decide +kernel)) (gv_at hg (i := 56) (by decide +kernel)) (gv_at hg (i := 57) (by decide +kernel)) (fun j hj => gv_at hg (e j hj)) (ht _ (List.mem_of_getElem? (i := 602) (by decide +kernel))) (Nat.lt_of_le_of_lt (m := 10) (by decide) (by decide)) hA
  exact ⟨q, h1, fun z hz => by cases hz; exact h2⟩
theorem str_5 (hg : (Cond.and given_1 narrow_1).before #[Value.ref b] s = true) (ht : ∀ w ∈ lw_tbl, w.before #[Value.ref b] s = true) (hA : ∀ a : Nat, a < s.heap.size → ¬ A a) : ∃ q : Nat × Nat, strP s A 5 q := by
  have e : ∀ j, j < (byS 5).length → gvL[([66, 67, 68, 69, 70] : List Nat).getD j 0]? = some (Cond.eq (.elem (.field (.string "GutterRights$TextReader" 105) "java/lang/String" "value" "[B") (.int (Int32.ofNat j))) (.int ((byS 5).getD j 0))) := by decide +kernel
  obtain ⟨q, h1, h2⟩ := str_of (own := "GutterRights$TextReader") (tx := "mossy") (k := 105) (bs := byS 5) (A := A) (gv_at hg (i := 62) (by decide +kernel)) (gv_at hg (i := 63) (by decide +kernel)) (gv_at hg (i := 64) (by decide +kernel)) (gv_at hg (i := 65) (by decide +kernel)) (fun j hj => gv_at hg (e j hj)) (ht _ (List.mem_of_getElem? (i := 603) (by decide +kernel))) (Nat.lt_of_le_of_lt (m := 10) (by decide) (by decide)) hA
  exact ⟨q, h1, fun z hz => by cases hz; exact h2⟩
theorem str_6 (hg : (Cond.and given_1 narrow_1).before #[Value.ref b] s = true) (ht : ∀ w ∈ lw_tbl, w.before #[Value.ref b] s = true) (hA : ∀ a : Nat, a < s.heap.size → ¬ A a) : ∃ q : Nat × Nat, strP s A 6 q := by
  have e : ∀ j, j < (byS 6).length → gvL[([75, 76, 77, 78, 79, 80, 81] : List Nat).getD j 0]? = some (Cond.eq (.elem (.field (.string "GutterRights$TextReader" 107) "java/lang/String" "value" "[B") (.int (Int32.ofNat j))) (.int ((byS 6).getD j 0))) := by decide +kernel
  obtain ⟨q, h1, h2⟩ := str_of (own := "GutterRights$TextReader") (tx := "invalid") (k := 107) (bs := byS 6) (A := A) (gv_at hg (i := 71) (by decide +kernel)) (gv_at hg (i := 72) (by decide +kernel)) (gv_at hg (i := 73) (by decide +kernel)) (gv_at hg (i := 74) (by decide +kernel)) (fun j hj => gv_at hg (e j hj)) (ht _ (List.mem_of_getElem? (i := 604) (by decide +kernel))) (Nat.lt_of_le_of_lt (m := 10) (by decide) (by decide)) hA
  exact ⟨q, h1, fun z hz => by cases hz; exact h2⟩
theorem str_7 (hg : (Cond.and given_1 narrow_1).before #[Value.ref b] s = true) (ht : ∀ w ∈ lw_tbl, w.before #[Value.ref b] s = true) (hA : ∀ a : Nat, a < s.heap.size → ¬ A a) : ∃ q : Nat × Nat, strP s A 7 q := by
  have e : ∀ j, j < (byS 7).length → gvL[([86, 87, 88, 89, 90] : List Nat).getD j 0]? = some (Cond.eq (.elem (.field (.string "GutterRights$TextReader" 109) "java/lang/String" "value" "[B") (.int (Int32.ofNat j))) (.int ((byS 7).getD j 0))) := by decide +kernel
  obtain ⟨q, h1, h2⟩ := str_of (own := "GutterRights$TextReader") (tx := "house") (k := 109) (bs := byS 7) (A := A) (gv_at hg (i := 82) (by decide +kernel)) (gv_at hg (i := 83) (by decide +kernel)) (gv_at hg (i := 84) (by decide +kernel)) (gv_at hg (i := 85) (by decide +kernel)) (fun j hj => gv_at hg (e j hj)) (ht _ (List.mem_of_getElem? (i := 605) (by decide +kernel))) (Nat.lt_of_le_of_lt (m := 10) (by decide) (by decide)) hA
  exact ⟨q, h1, fun z hz => by cases hz; exact h2⟩
theorem str_8 (hg : (Cond.and given_1 narrow_1).before #[Value.ref b] s = true) (ht : ∀ w ∈ lw_tbl, w.before #[Value.ref b] s = true) (hA : ∀ a : Nat, a < s.heap.size → ¬ A a) : ∃ q : Nat × Nat, strP s A 8 q := by
  have e : ∀ j, j < (byS 8).length → gvL[([95, 96, 97] : List Nat).getD j 0]? = some (Cond.eq (.elem (.field (.string "GutterRights$TextReader" 60) "java/lang/String" "value" "[B") (.int (Int32.ofNat j))) (.int ((byS 8).getD j 0))) := by decide +kernel
  obtain ⟨q, h1, h2⟩ := str_of (own := "GutterRights$TextReader") (tx := "has") (k := 60) (bs := byS 8) (A := A) (gv_at hg (i := 91) (by decide +kernel)) (gv_at hg (i := 92) (by decide +kernel)) (gv_at hg (i := 93) (by decide +kernel)) (gv_at hg (i := 94) (by decide +kernel)) (fun j hj => gv_at hg (e j hj)) (ht _ (List.mem_of_getElem? (i := 606) (by decide +kernel))) (Nat.lt_of_le_of_lt (m := 10) (by decide) (by decide)) hA
  exact ⟨q, h1, fun z hz => by cases hz; exact h2⟩
theorem str_9 (hg : (Cond.and given_1 narrow_1).before #[Value.ref b] s = true) (ht : ∀ w ∈ lw_tbl, w.before #[Value.ref b] s = true) (hA : ∀ a : Nat, a < s.heap.size → ¬ A a) : ∃ q : Nat × Nat, strP s A 9 q := by
  have e : ∀ j, j < (byS 9).length → gvL[([102, 103, 104, 105, 106] : List Nat).getD j 0]? = some (Cond.eq (.elem (.field (.string "GutterRights$TextReader" 69) "java/lang/String" "value" "[B") (.int (Int32.ofNat j))) (.int ((byS 9).getD j 0))) := by decide +kernel
  obtain ⟨q, h1, h2⟩ := str_of (own := "GutterRights$TextReader") (tx := "needs") (k := 69) (bs := byS 9) (A := A) (gv_at hg (i := 98) (by decide +kernel)) (gv_at hg (i := 99) (by decide +kernel)) (gv_at hg (i := 100) (by decide +kernel)) (gv_at hg (i := 101) (by decide +kernel)) (fun j hj => gv_at hg (e j hj)) (ht _ (List.mem_of_getElem? (i := 611) (by decide +kernel))) (Nat.lt_of_le_of_lt (m := 10) (by decide) (by decide)) hA
  exact ⟨q, h1, fun z hz => by cases hz; exact h2⟩
theorem str_10 (hg : (Cond.and given_1 narrow_1).before #[Value.ref b] s = true) (ht : ∀ w ∈ lw_tbl, w.before #[Value.ref b] s = true) (hA : ∀ a : Nat, a < s.heap.size → ¬ A a) : ∃ q : Nat × Nat, strP s A 10 q := by
  have e : ∀ j, j < (byS 10).length → gvL[([111, 112, 113, 114, 115] : List Nat).getD j 0]? = some (Cond.eq (.elem (.field (.string "GutterRights$TextReader" 74) "java/lang/String" "value" "[B") (.int (Int32.ofNat j))) (.int ((byS 10).getD j 0))) := by decide +kernel
  obtain ⟨q, h1, h2⟩ := str_of (own := "GutterRights$TextReader") (tx := "holds") (k := 74) (bs := byS 10) (A := A) (gv_at hg (i := 107) (by decide +kernel)) (gv_at hg (i := 108) (by decide +kernel)) (gv_at hg (i := 109) (by decide +kernel)) (gv_at hg (i := 110) (by decide +kernel)) (fun j hj => gv_at hg (e j hj)) (ht _ (List.mem_of_getElem? (i := 612) (by decide +kernel))) (Nat.lt_of_le_of_lt (m := 10) (by decide) (by decide)) hA
  exact ⟨q, h1, fun z hz => by cases hz; exact h2⟩
theorem str_11 (hg : (Cond.and given_1 narrow_1).before #[Value.ref b] s = true) (ht : ∀ w ∈ lw_tbl, w.before #[Value.ref b] s = true) (hA : ∀ a : Nat, a < s.heap.size → ¬ A a) : ∃ q : Nat × Nat, strP s A 11 q := by
  have e : ∀ j, j < (byS 11).length → gvL[([120, 121, 122, 123] : List Nat).getD j 0]? = some (Cond.eq (.elem (.field (.string "GutterRights$TextReader" 84) "java/lang/String" "value" "[B") (.int (Int32.ofNat j))) (.int ((byS 11).getD j 0))) := by decide +kernel
  obtain ⟨q, h1, h2⟩ := str_of (own := "GutterRights$TextReader") (tx := "left") (k := 84) (bs := byS 11) (A := A) (gv_at hg (i := 116) (by decide +kernel)) (gv_at hg (i := 117) (by decide +kernel)) (gv_at hg (i := 118) (by decide +kernel)) (gv_at hg (i := 119) (by decide +kernel)) (fun j hj => gv_at hg (e j hj)) (ht _ (List.mem_of_getElem? (i := 617) (by decide +kernel))) (Nat.lt_of_le_of_lt (m := 10) (by decide) (by decide)) hA
  exact ⟨q, h1, fun z hz => by cases hz; exact h2⟩
theorem str_12 (hg : (Cond.and given_1 narrow_1).before #[Value.ref b] s = true) (ht : ∀ w ∈ lw_tbl, w.before #[Value.ref b] s = true) (hA : ∀ a : Nat, a < s.heap.size → ¬ A a) : ∃ q : Nat × Nat, strP s A 12 q := by
  have e : ∀ j, j < (byS 12).length → gvL[([128, 129, 130, 131, 132] : List Nat).getD j 0]? = some (Cond.eq (.elem (.field (.string "GutterRights$TextReader" 89) "java/lang/String" "value" "[B") (.int (Int32.ofNat j))) (.int ((byS 12).getD j 0))) := by decide +kernel
  obtain ⟨q, h1, h2⟩ := str_of (own := "GutterRights$TextReader") (tx := "right") (k := 89) (bs := byS 12) (A := A) (gv_at hg (i := 124) (by decide +kernel)) (gv_at hg (i := 125) (by decide +kernel)) (gv_at hg (i := 126) (by decide +kernel)) (gv_at hg (i := 127) (by decide +kernel)) (fun j hj => gv_at hg (e j hj)) (ht _ (List.mem_of_getElem? (i := 618) (by decide +kernel))) (Nat.lt_of_le_of_lt (m := 10) (by decide) (by decide)) hA
  exact ⟨q, h1, fun z hz => by cases hz; exact h2⟩
theorem str_13 (hg : (Cond.and given_1 narrow_1).before #[Value.ref b] s = true) (ht : ∀ w ∈ lw_tbl, w.before #[Value.ref b] s = true) (hA : ∀ a : Nat, a < s.heap.size → ¬ A a) : ∃ q : Nat × Nat, strP s A 13 q := by
  have e : ∀ j, j < (byS 13).length → gvL[([137, 138, 139, 140, 141] : List Nat).getD j 0]? = some (Cond.eq (.elem (.field (.string "GutterRightsModel" 251) "java/lang/String" "value" "[B") (.int (Int32.ofNat j))) (.int ((byS 13).getD j 0))) := by decide +kernel
  obtain ⟨q, h1, h2⟩ := str_of (own := "GutterRightsModel") (tx := "house") (k := 251) (bs := byS 13) (A := A) (gv_at hg (i := 133) (by decide +kernel)) (gv_at hg (i := 134) (by decide +kernel)) (gv_at hg (i := 135) (by decide +kernel)) (gv_at hg (i := 136) (by decide +kernel)) (fun j hj => gv_at hg (e j hj)) (ht _ (List.mem_of_getElem? (i := 1060) (by decide +kernel))) (Nat.lt_of_le_of_lt (m := 10) (by decide) (by decide)) hA
  exact ⟨q, h1, fun z hz => by cases hz; exact h2⟩
theorem str_14 (hg : (Cond.and given_1 narrow_1).before #[Value.ref b] s = true) (ht : ∀ w ∈ lw_tbl, w.before #[Value.ref b] s = true) (hA : ∀ a : Nat, a < s.heap.size → ¬ A a) : ∃ q : Nat × Nat, strP s A 14 q := by
  have e : ∀ j, j < (byS 14).length → gvL[([147, 148, 149, 150] : List Nat).getD j 0]? = some (Cond.eq (.elem (.field (.string "GutterRightsModel" 253) "java/lang/String" "value" "[B") (.int (Int32.ofNat j))) (.int ((byS 14).getD j 0))) := by decide +kernel
  obtain ⟨q, h1, h2⟩ := str_of (own := "GutterRightsModel") (tx := "font") (k := 253) (bs := byS 14) (A := A) (gv_at hg (i := 143) (by decide +kernel)) (gv_at hg (i := 144) (by decide +kernel)) (gv_at hg (i := 145) (by decide +kernel)) (gv_at hg (i := 146) (by decide +kernel)) (fun j hj => gv_at hg (e j hj)) (ht _ (List.mem_of_getElem? (i := 1067) (by decide +kernel))) (Nat.lt_of_le_of_lt (m := 10) (by decide) (by decide)) hA
  exact ⟨q, h1, fun z hz => by cases hz; exact h2⟩
theorem str_15 (hg : (Cond.and given_1 narrow_1).before #[Value.ref b] s = true) (ht : ∀ w ∈ lw_tbl, w.before #[Value.ref b] s = true) (hA : ∀ a : Nat, a < s.heap.size → ¬ A a) : ∃ q : Nat × Nat, strP s A 15 q := by
  have e : ∀ j, j < (byS 15).length → gvL[([156, 157, 158, 159] : List Nat).getD j 0]? = some (Cond.eq (.elem (.field (.string "GutterRightsModel" 255) "java/lang/String" "value" "[B") (.int (Int32.ofNat j))) (.int ((byS 15).getD j 0))) := by decide +kernel
  obtain ⟨q, h1, h2⟩ := str_of (own := "GutterRightsModel") (tx := "dyer") (k := 255) (bs := byS 15) (A := A) (gv_at hg (i := 152) (by decide +kernel)) (gv_at hg (i := 153) (by decide +kernel)) (gv_at hg (i := 154) (by decide +kernel)) (gv_at hg (i := 155) (by decide +kernel)) (fun j hj => gv_at hg (e j hj)) (ht _ (List.mem_of_getElem? (i := 1068) (by decide +kernel))) (Nat.lt_of_le_of_lt (m := 10) (by decide) (by decide)) hA
  exact ⟨q, h1, fun z hz => by cases hz; exact h2⟩
theorem str_16 (hg : (Cond.and given_1 narrow_1).before #[Value.ref b] s = true) (ht : ∀ w ∈ lw_tbl, w.before #[Value.ref b] s = true) (hA : ∀ a : Nat, a < s.heap.size → ¬ A a) : ∃ q : Nat × Nat, strP s A 16 q := by
  have e : ∀ j, j < (byS 16).length → gvL[([165, 166, 167, 168, 169, 170, 171] : List Nat).getD j 0]? = some (Cond.eq (.elem (.field (.string "GutterRightsModel" 257) "java/lang/String" "value" "[B") (.int (Int32.ofNat j))) (.int ((byS 16).getD j 0))) := by decide +kernel
  obtain ⟨q, h1, h2⟩ := str_of (own := "GutterRightsModel") (tx := "brewery") (k := 257) (bs := byS 16) (A := A) (gv_at hg (i := 161) (by decide +kernel)) (gv_at hg (i := 162) (by decide +kernel)) (gv_at hg (i := 163) (by decide +kernel)) (gv_at hg (i := 164) (by decide +kernel)) (fun j hj => gv_at hg (e j hj)) (ht _ (List.mem_of_getElem? (i := 1069) (by decide +kernel))) (Nat.lt_of_le_of_lt (m := 10) (by decide) (by decide)) hA
  exact ⟨q, h1, fun z hz => by cases hz; exact h2⟩
theorem str_17 (hg : (Cond.and given_1 narrow_1).before #[Value.ref b] s = true) (ht : ∀ w ∈ lw_tbl, w.before #[Value.ref b] s = true) (hA : ∀ a : Nat, a < s.heap.size → ¬ A a) : ∃ q : Nat × Nat, strP s A 17 q := by
  have e : ∀ j, j < (byS 17).length → gvL[([177, 178, 179, 180] : List Nat).getD j 0]? = some (Cond.eq (.elem (.field (.string "GutterRightsModel" 259) "java/lang/String" "value" "[B") (.int (Int32.ofNat j))) (.int ((byS 17).getD j 0))) := by decide +kernel
  obtain ⟨q, h1, h2⟩ := str_of (own := "GutterRightsModel") (tx := "duel") (k := 259) (bs := byS 17) (A := A) (gv_at hg (i := 173) (by decide +kernel)) (gv_at hg (i := 174) (by decide +kernel)) (gv_at hg (i := 175) (by decide +kernel)) (gv_at hg (i := 176) (by decide +kernel)) (fun j hj => gv_at hg (e j hj)) (ht _ (List.mem_of_getElem? (i := 1070) (by decide +kernel))) (Nat.lt_of_le_of_lt (m := 10) (by decide) (by decide)) hA
  exact ⟨q, h1, fun z hz => by cases hz; exact h2⟩
theorem str_18 (hg : (Cond.and given_1 narrow_1).before #[Value.ref b] s = true) (ht : ∀ w ∈ lw_tbl, w.before #[Value.ref b] s = true) (hA : ∀ a : Nat, a < s.heap.size → ¬ A a) : ∃ q : Nat × Nat, strP s A 18 q := by
  have e : ∀ j, j < (byS 18).length → gvL[([186, 187, 188, 189, 190] : List Nat).getD j 0]? = some (Cond.eq (.elem (.field (.string "GutterRightsModel" 261) "java/lang/String" "value" "[B") (.int (Int32.ofNat j))) (.int ((byS 18).getD j 0))) := by decide +kernel
  obtain ⟨q, h1, h2⟩ := str_of (own := "GutterRightsModel") (tx := "mossy") (k := 261) (bs := byS 18) (A := A) (gv_at hg (i := 182) (by decide +kernel)) (gv_at hg (i := 183) (by decide +kernel)) (gv_at hg (i := 184) (by decide +kernel)) (gv_at hg (i := 185) (by decide +kernel)) (fun j hj => gv_at hg (e j hj)) (ht _ (List.mem_of_getElem? (i := 1071) (by decide +kernel))) (Nat.lt_of_le_of_lt (m := 10) (by decide) (by decide)) hA
  exact ⟨q, h1, fun z hz => by cases hz; exact h2⟩
theorem str_19 (hg : (Cond.and given_1 narrow_1).before #[Value.ref b] s = true) (ht : ∀ w ∈ lw_tbl, w.before #[Value.ref b] s = true) (hA : ∀ a : Nat, a < s.heap.size → ¬ A a) : ∃ q : Nat × Nat, strP s A 19 q := by
  have e : ∀ j, j < (byS 19).length → gvL[([196, 197, 198, 199, 200, 201, 202] : List Nat).getD j 0]? = some (Cond.eq (.elem (.field (.string "GutterRightsModel" 263) "java/lang/String" "value" "[B") (.int (Int32.ofNat j))) (.int ((byS 19).getD j 0))) := by decide +kernel
  obtain ⟨q, h1, h2⟩ := str_of (own := "GutterRightsModel") (tx := "invalid") (k := 263) (bs := byS 19) (A := A) (gv_at hg (i := 192) (by decide +kernel)) (gv_at hg (i := 193) (by decide +kernel)) (gv_at hg (i := 194) (by decide +kernel)) (gv_at hg (i := 195) (by decide +kernel)) (fun j hj => gv_at hg (e j hj)) (ht _ (List.mem_of_getElem? (i := 1072) (by decide +kernel))) (Nat.lt_of_le_of_lt (m := 10) (by decide) (by decide)) hA
  exact ⟨q, h1, fun z hz => by cases hz; exact h2⟩
theorem str_20 (hg : (Cond.and given_1 narrow_1).before #[Value.ref b] s = true) (ht : ∀ w ∈ lw_tbl, w.before #[Value.ref b] s = true) (hA : ∀ a : Nat, a < s.heap.size → ¬ A a) : ∃ q : Nat × Nat, strP s A 20 q := by
  have e : ∀ j, j < (byS 20).length → gvL[([208, 209, 210] : List Nat).getD j 0]? = some (Cond.eq (.elem (.field (.string "GutterRightsModel" 271) "java/lang/String" "value" "[B") (.int (Int32.ofNat j))) (.int ((byS 20).getD j 0))) := by decide +kernel
  obtain ⟨q, h1, h2⟩ := str_of (own := "GutterRightsModel") (tx := "has") (k := 271) (bs := byS 20) (A := A) (gv_at hg (i := 204) (by decide +kernel)) (gv_at hg (i := 205) (by decide +kernel)) (gv_at hg (i := 206) (by decide +kernel)) (gv_at hg (i := 207) (by decide +kernel)) (fun j hj => gv_at hg (e j hj)) (ht _ (List.mem_of_getElem? (i := 1085) (by decide +kernel))) (Nat.lt_of_le_of_lt (m := 10) (by decide) (by decide)) hA
  exact ⟨q, h1, fun z hz => by cases hz; exact h2⟩
theorem str_21 (hg : (Cond.and given_1 narrow_1).before #[Value.ref b] s = true) (ht : ∀ w ∈ lw_tbl, w.before #[Value.ref b] s = true) (hA : ∀ a : Nat, a < s.heap.size → ¬ A a) : ∃ q : Nat × Nat, strP s A 21 q := by
  have e : ∀ j, j < (byS 21).length → gvL[([216, 217, 218, 219, 220] : List Nat).getD j 0]? = some (Cond.eq (.elem (.field (.string "GutterRightsModel" 277) "java/lang/String" "value" "[B") (.int (Int32.ofNat j))) (.int ((byS 21).getD j 0))) := by decide +kernel
  obtain ⟨q, h1, h2⟩ := str_of (own := "GutterRightsModel") (tx := "needs") (k := 277) (bs := byS 21) (A := A) (gv_at hg (i := 212) (by decide +kernel)) (gv_at hg (i := 213) (by decide +kernel)) (gv_at hg (i := 214) (by decide +kernel)) (gv_at hg (i := 215) (by decide +kernel)) (fun j hj => gv_at hg (e j hj)) (ht _ (List.mem_of_getElem? (i := 1094) (by decide +kernel))) (Nat.lt_of_le_of_lt (m := 10) (by decide) (by decide)) hA
  exact ⟨q, h1, fun z hz => by cases hz; exact h2⟩
theorem str_22 (hg : (Cond.and given_1 narrow_1).before #[Value.ref b] s = true) (ht : ∀ w ∈ lw_tbl, w.before #[Value.ref b] s = true) (hA : ∀ a : Nat, a < s.heap.size → ¬ A a) : ∃ q : Nat × Nat, strP s A 22 q := by
  have e : ∀ j, j < (byS 22).length → gvL[([226, 227, 228, 229, 230] : List Nat).getD j 0]? = some (Cond.eq (.elem (.field (.string "GutterRightsModel" 279) "java/lang/String" "value" "[B") (.int (Int32.ofNat j))) (.int ((byS 22).getD j 0))) := by decide +kernel
  obtain ⟨q, h1, h2⟩ := str_of (own := "GutterRightsModel") (tx := "holds") (k := 279) (bs := byS 22) (A := A) (gv_at hg (i := 222) (by decide +kernel)) (gv_at hg (i := 223) (by decide +kernel)) (gv_at hg (i := 224) (by decide +kernel)) (gv_at hg (i := 225) (by decide +kernel)) (fun j hj => gv_at hg (e j hj)) (ht _ (List.mem_of_getElem? (i := 1095) (by decide +kernel))) (Nat.lt_of_le_of_lt (m := 10) (by decide) (by decide)) hA
  exact ⟨q, h1, fun z hz => by cases hz; exact h2⟩
theorem str_23 (hg : (Cond.and given_1 narrow_1).before #[Value.ref b] s = true) (ht : ∀ w ∈ lw_tbl, w.before #[Value.ref b] s = true) (hA : ∀ a : Nat, a < s.heap.size → ¬ A a) : ∃ q : Nat × Nat, strP s A 23 q := by
  have e : ∀ j, j < (byS 23).length → gvL[([236, 237, 238, 239] : List Nat).getD j 0]? = some (Cond.eq (.elem (.field (.string "GutterRightsModel" 281) "java/lang/String" "value" "[B") (.int (Int32.ofNat j))) (.int ((byS 23).getD j 0))) := by decide +kernel
  obtain ⟨q, h1, h2⟩ := str_of (own := "GutterRightsModel") (tx := "left") (k := 281) (bs := byS 23) (A := A) (gv_at hg (i := 232) (by decide +kernel)) (gv_at hg (i := 233) (by decide +kernel)) (gv_at hg (i := 234) (by decide +kernel)) (gv_at hg (i := 235) (by decide +kernel)) (fun j hj => gv_at hg (e j hj)) (ht _ (List.mem_of_getElem? (i := 1096) (by decide +kernel))) (Nat.lt_of_le_of_lt (m := 10) (by decide) (by decide)) hA
  exact ⟨q, h1, fun z hz => by cases hz; exact h2⟩
theorem str_24 (hg : (Cond.and given_1 narrow_1).before #[Value.ref b] s = true) (ht : ∀ w ∈ lw_tbl, w.before #[Value.ref b] s = true) (hA : ∀ a : Nat, a < s.heap.size → ¬ A a) : ∃ q : Nat × Nat, strP s A 24 q := by
  have e : ∀ j, j < (byS 24).length → gvL[([245, 246, 247, 248, 249] : List Nat).getD j 0]? = some (Cond.eq (.elem (.field (.string "GutterRightsModel" 283) "java/lang/String" "value" "[B") (.int (Int32.ofNat j))) (.int ((byS 24).getD j 0))) := by decide +kernel
  obtain ⟨q, h1, h2⟩ := str_of (own := "GutterRightsModel") (tx := "right") (k := 283) (bs := byS 24) (A := A) (gv_at hg (i := 241) (by decide +kernel)) (gv_at hg (i := 242) (by decide +kernel)) (gv_at hg (i := 243) (by decide +kernel)) (gv_at hg (i := 244) (by decide +kernel)) (fun j hj => gv_at hg (e j hj)) (ht _ (List.mem_of_getElem? (i := 1097) (by decide +kernel))) (Nat.lt_of_le_of_lt (m := 10) (by decide) (by decide)) hA
  exact ⟨q, h1, fun z hz => by cases hz; exact h2⟩
theorem str_25 (hg : (Cond.and given_1 narrow_1).before #[Value.ref b] s = true) (ht : ∀ w ∈ lw_tbl, w.before #[Value.ref b] s = true) (hA : ∀ a : Nat, a < s.heap.size → ¬ A a) : ∃ q : Nat × Nat, strP s A 25 q := by
  have e : ∀ j, j < (byS 25).length → gvL[([255, 256, 257, 258] : List Nat).getD j 0]? = some (Cond.eq (.elem (.field (.string "GutterRightsModel" 291) "java/lang/String" "value" "[B") (.int (Int32.ofNat j))) (.int ((byS 25).getD j 0))) := by decide +kernel
  obtain ⟨q, h1, h2⟩ := str_of (own := "GutterRightsModel") (tx := "rain") (k := 291) (bs := byS 25) (A := A) (gv_at hg (i := 251) (by decide +kernel)) (gv_at hg (i := 252) (by decide +kernel)) (gv_at hg (i := 253) (by decide +kernel)) (gv_at hg (i := 254) (by decide +kernel)) (fun j hj => gv_at hg (e j hj)) (ht _ (List.mem_of_getElem? (i := 1098) (by decide +kernel))) (Nat.lt_of_le_of_lt (m := 10) (by decide) (by decide)) hA
  exact ⟨q, h1, fun z hz => by cases hz; exact h2⟩
theorem str_26 (hg : (Cond.and given_1 narrow_1).before #[Value.ref b] s = true) (ht : ∀ w ∈ lw_tbl, w.before #[Value.ref b] s = true) (hA : ∀ a : Nat, a < s.heap.size → ¬ A a) : ∃ q : Nat × Nat, strP s A 26 q := by
  have e : ∀ j, j < (byS 26).length → gvL[([264] : List Nat).getD j 0]? = some (Cond.eq (.elem (.field (.string "GutterRightsModel" 296) "java/lang/String" "value" "[B") (.int (Int32.ofNat j))) (.int ((byS 26).getD j 0))) := by decide +kernel
  obtain ⟨q, h1, h2⟩ := str_of (own := "GutterRightsModel") (tx := ";") (k := 296) (bs := byS 26) (A := A) (gv_at hg (i := 260) (by decide +kernel)) (gv_at hg (i := 261) (by decide +kernel)) (gv_at hg (i := 262) (by decide +kernel)) (gv_at hg (i := 263) (by decide +kernel)) (fun j hj => gv_at hg (e j hj)) (ht _ (List.mem_of_getElem? (i := 1099) (by decide +kernel))) (Nat.lt_of_le_of_lt (m := 10) (by decide) (by decide)) hA
  exact ⟨q, h1, fun z hz => by cases hz; exact h2⟩
theorem str_all (hg : (Cond.and given_1 narrow_1).before #[Value.ref b] s = true) (ht : ∀ w ∈ lw_tbl, w.before #[Value.ref b] s = true) (hA : ∀ a : Nat, a < s.heap.size → ¬ A a) : ∀ i : Nat, ∃ q : Nat × Nat, i < 27 → strP s A i q := by
  intro i
  match i with
  | 0 => exact (str_0 hg ht hA).imp (fun q h _ => h)
  | 1 => exact (str_1 hg ht hA).imp (fun q h _ => h)
  | 2 => exact (str_2 hg ht hA).imp (fun q h _ => h)
  | 3 => exact (str_3 hg ht hA).imp (fun q h _ => h)
  | 4 => exact (str_4 hg ht hA).imp (fun q h _ => h)
  | 5 => exact (str_5 hg ht hA).imp (fun q h _ => h)
  | 6 => exact (str_6 hg ht hA).imp (fun q h _ => h)
  | 7 => exact (str_7 hg ht hA).imp (fun q h _ => h)
  | 8 => exact (str_8 hg ht hA).imp (fun q h _ => h)
  | 9 => exact (str_9 hg ht hA).imp (fun q h _ => h)
  | 10 => exact (str_10 hg ht hA).imp (fun q h _ => h)
  | 11 => exact (str_11 hg ht hA).imp (fun q h _ => h)
  | 12 => exact (str_12 hg ht hA).imp (fun q h _ => h)
  | 13 => exact (str_13 hg ht hA).imp (fun q h _ => h)
  | 14 => exact (str_14 hg ht hA).imp (fun q h _ => h)
  | 15 => exact (str_15 hg ht hA).imp (fun q h _ => h)
  | 16 => exact (str_16 hg ht hA).imp (fun q h _ => h)
  | 17 => exact (str_17 hg ht hA).imp (fun q h _ => h)
  | 18 => exact (str_18 hg ht hA).imp (fun q h _ => h)
  | 19 => exact (str_19 hg ht hA).imp (fun q h _ => h)
  | 20 => exact (str_20 hg ht hA).imp (fun q h _ => h)
  | 21 => exact (str_21 hg ht hA).imp (fun q h _ => h)
  | 22 => exact (str_22 hg ht hA).imp (fun q h _ => h)
  | 23 => exact (str_23 hg ht hA).imp (fun q h _ => h)
  | 24 => exact (str_24 hg ht hA).imp (fun q h _ => h)
  | 25 => exact (str_25 hg ht hA).imp (fun q h _ => h)
  | 26 => exact (str_26 hg ht hA).imp (fun q h _ => h)
  | n + 27 => exact ⟨(0, 0), fun h => absurd h (by omega)⟩
/-- the constants of the heap, for addresses that are yet to be told -/
theorem cst_of (hg : (Cond.and given_1 narrow_1).before #[Value.ref b] s = true) (ht : ∀ w ∈ lw_tbl, w.before #[Value.ref b] s = true) (hA : ∀ a : Nat, a < s.heap.size → ¬ A a) : ∃ (t : Nat) (f g : Nat → Nat), ∀ (D : va_G) (c1 c2 : ClassId), cst (D, c1, c2, t, f, g) A s s.heap := by
  have e : ∀ j, j < 7 → gvL[([12, 13, 14, 15, 16, 17, 18] : List Nat).getD j 0]? = some (Cond.eq (.elem (.static "GutterRights$Kinds" "ABOVE" "[I") (.int (Int32.ofNat j))) (.int (abvT j))) := by decide +kernel
  obtain ⟨t, h1, h2⟩ := va_Tof (tm := .static "GutterRights$Kinds" "ABOVE" "[I") (ty := .int) (N := 7) (f := fun j => .int (abvT j)) (A := A) (by decide) (gv_at hg (i := 10) (by decide +kernel)) (va_eqt (gv_at hg (i := 11) (by decide +kernel))) (fun j hj => va_eqt (gv_at hg (e j hj))) hA
  obtain ⟨ad, had⟩ := Classical.axiomOfChoice (str_all (A := A) hg ht hA)
  refine ⟨t, fun i => (ad i).1, fun i => (ad i).2, fun D c1 c2 => ⟨?_, h2, ?_, ?_, fun i hi => (had i hi).1, fun i q hq => ?_⟩⟩
  · exact va_Zof (ht _ (List.mem_of_getElem? (i := 635) (by decide +kernel))) (ht _ (lw_T_in ini_X0)) h1 hA
  · exact va_Zof (ht _ (List.mem_of_getElem? (i := 545) (by decide +kernel))) (ht _ (lw_T_in ini_J0)) (va_eqt (gv_at hg (i := 4) (by decide +kernel))) hA
  · exact va_Zqof (ht _ (List.mem_of_getElem? (i := 561) (by decide +kernel))) (ht _ (lw_T_in ini_J3)) (gv_at hg (i := 5) (by decide +kernel)) hA
  · have hi : i < 27 := (List.getElem?_eq_some_iff.mp hq).1
    exact (had i hi).2 q hq
/-- the classes' numbers -/
theorem kn_of (ht : ∀ w ∈ lw_tbl, w.before #[Value.ref b] s = true) : ∃ (D : va_G) (c1 c2 : ClassId), va_K D vwCl [(c1, .int), (c2, .object RX2)] s := by
  have hT : ∀ w ∈ lw_T, w.before #[Value.ref b] s = true := fun w hw => ht w (lw_T_in hw)
  obtain ⟨d1, i1, k1⟩ := u_known hT inT_X1 (hT _ ib_X1)
  obtain ⟨d2, i2, k2⟩ := u_known hT inT_X2 (hT _ ib_X2)
  obtain ⟨d3, i3, k3⟩ := u_known hT inT_X3 (hT _ ib_X3)
  obtain ⟨d4, i4, k4⟩ := u_known hT inT_X4 (hT _ ib_X4)
  obtain ⟨d5, i5, k5⟩ := u_known hT inT_X5 (hT _ ib_X5)
  obtain ⟨d6, i6, k6⟩ := u_known hT inT_X6 (hT _ ib_X6)
  obtain ⟨cA, kA, comp, hf, hk, hkind⟩ := Cond.arrayClass_spec (hT _ ac_int)
  obtain ⟨comp2, cB, kB, g1, g2, g3, g4, g5⟩ := Cond.arrayOver_spec (ht (.arrayOver (.object RX2)) (List.mem_of_getElem? (i := 188) (by decide +kernel)))
  refine ⟨(fun k => if k = 0 then d1 else if k = 1 then d2 else if k = 2 then d3 else if k = 3 then d4 else if k = 4 then d5 else d6, fun k => if k = 0 then i1 else if k = 1 then i2 else if k = 2 then i3 else if k = 3 then i4 else if k = 4 then i5 else i6), cA, cB, fun k q hq => ?_, fun k q hq => ?_⟩
  · match k, hq with
    | 0, hq => cases hq; exact k1
    | 1, hq => cases hq; exact k2
    | 2, hq => cases hq; exact k3
    | 3, hq => cases hq; exact k4
    | 4, hq => cases hq; exact k5
    | 5, hq => cases hq; exact k6
    | k + 6, hq => simp [vwCl] at hq
  · match k, hq with
    | 0, hq => cases hq; exact ⟨fun n z => ⟨fun k h => (by cases h), kA, hk, comp, hkind⟩, hf⟩
    | 1, hq => cases hq; exact ⟨fun n z => ⟨fun k h => (by cases h), kB, g3, comp2, g4⟩, kB, comp2, g3, g4, g1, g5⟩
    | k + 2, hq => simp at hq
theorem nst_of (ht : ∀ w ∈ lw_tbl, w.before #[Value.ref b] s = true) : nst s :=
  ⟨va_Nw.of rfl (ht (.methodLinkNest RX5 28 yX3_init RX5) (List.mem_of_getElem? (i := 151) (by decide +kernel))), va_Nw.of rfl (ht (.methodLinkNest RX5 51 yX2_init RX5) (List.mem_of_getElem? (i := 190) (by decide +kernel))), va_AO.of (ht (.arrayOver (.object RX2)) (List.mem_of_getElem? (i := 188) (by decide +kernel)))⟩
end CON
