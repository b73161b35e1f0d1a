def nextMX (y : Q3) : Q3 := upG y 6 (rd4 (y 6) (tokS (y 7 0) (y 7 1 0).toNatClampNeg (y 6 1 1).toNatClampNeg) (tokE (y 7 0) (y 7 1 0).toNatClampNeg (tokS (y 7 0) (y 7 1 0).toNatClampNeg (y 6 1 1).toNatClampNeg)) (y 6 1 2) (y 6 1 3))
def tokE2 (f : Nat → Int32) (n i u : Nat) : Nat := if bet f n 97 122 i then endF (bet f n 97 122) u else if bet f n 48 57 i then endF (bet f n 48 57) u else u
theorem bet_x {f : Nat → Int32} {n i : Nat} (h : bet f n 97 122 i = true) : ¬ bet f n 48 57 i = true := by
  intro z
  have a := (of_decide_eq_true h).2.1
  have c := (of_decide_eq_true z).2.2
  exact absurd (Int32.le_trans a c) (by decide)
theorem nextM_eq {y : Q3} {n e s e' : Nat} (hn : y 7 1 0 = nI n) (hn2 : n ≤ 120) (he : y 6 1 1 = nI e) (he2 : e ≤ n) (hs : s = tokS (y 7 0) n e) (he' : e' = tokE (y 7 0) n s) : upG y 6 (rd4 (y 6) s e' (y 6 1 2) (y 6 1 3)) = nextMX y := by
  rw [nextMX, hn, he, nI_clamp (by omega), nI_clamp (by omega), he', hs]
theorem okT_nextM {y : Q3} (h : okN y) : okT (nextMX y) := by
  obtain ⟨n, e, h1, h2, h4, h6⟩ := h
  rw [← nextM_eq h1 h2 h4 h6 rfl rfl]
  exact ⟨n, _, _, ⟨h1, h2⟩, rfl, rfl, tokE_ge, tokE_le (tokS_le h6)⟩
def isWM (y : Q3) (i : Nat) : Bool := decide (y 6 1 2 = 0 ∧ (y 6 1 1).toNatClampNeg - (y 6 1 0).toNatClampNeg = (byS i).length ∧ ∀ j, j < (byS i).length → y 7 0 ((y 6 1 0).toNatClampNeg + j) = (byS i).getD j 0)
theorem isWM_iff {y : Q3} {i n s e : Nat} (hn : n ≤ 120) (hs : y 6 1 0 = nI s) (he : y 6 1 1 = nI e) (h1 : s ≤ e) (h2 : e ≤ n) : isWM y i = true ↔ (y 6 1 2 = 0 ∧ e - s = (byS i).length ∧ ∀ j, j < (byS i).length → y 7 0 (s + j) = (byS i).getD j 0) := by
  rw [isWM, hs, he, nI_clamp (by omega), nI_clamp (by omega), decide_eq_true_iff]
def mustX (y : Q3) (c : Bool) : Q3 := if y 6 1 2 = 0 ∧ c = true then nextMX y else up3 y 6 1 2 1
def takesX (y : Q3) (i : Nat) : Q3 := if isWM y i then nextMX y else y
def numLp (f : Nat → Int32) : Nat → Nat → Int32 → Int32
  | 0, _, v => v
  | r + 1, k, v => if v < 0 then v else numLp f r (k + 1) (if 9999 < v then v else 10 * v + f k - 48)
def numV (y : Q3) : Int32 := numLp (y 7 0) ((y 6 1 1).toNatClampNeg - (y 6 1 0).toNatClampNeg) (y 6 1 0).toNatClampNeg (if bet (y 7 0) (y 7 1 0).toNatClampNeg 48 57 (y 6 1 0).toNatClampNeg then 0 else -1)
def inM (v m : Int32) : Bool := decide (0 ≤ v ∧ v ≤ m)
def nrX (y : Q3) (m : Int32) : Q3 := mustX y (inM (numV y) m)
def kwM (y : Q3) : Int32 := if isWM y 13 then 0 else if isWM y 14 then 1 else if isWM y 15 then 2 else if isWM y 16 then 3 else if isWM y 17 then 4 else if isWM y 18 then 5 else if isWM y 19 then 6 else -1
def setQ (y : Q3) (w j : Nat) (v : Int32) : Q3 := upG y 0 (up2 (y 0) w j v)
def ptX (y : Q3) (i w j : Nat) (m : Int32) : Q3 := if isWM y i then (if nrX (nextMX y) m 6 1 2 = 0 then setQ (nrX (nextMX y) m) w j (numV (nextMX y)) else nrX (nextMX y) m) else y
def spX (y : Q3) (j : Nat) : Q3 := if isWM y 23 then setQ (nextMX y) 4 j 0 else if isWM y 24 then setQ (nextMX y) 4 j 1 else y
def htX (y : Q3) (kd : Int32) : Q3 := if nrX (mustX y true) 10 6 1 2 = 0 then
    spX (ptX (ptX (ptX (setQ (nrX (mustX y true) 10) 0 (numV (mustX y true)).toNatClampNeg kd) 20 1 (numV (mustX y true)).toNatClampNeg 9999) 21 2 (numV (mustX y true)).toNatClampNeg 99) 22 3 (numV (mustX y true)).toNatClampNeg 999) (numV (mustX y true)).toNatClampNeg
  else nrX (mustX y true) 10
def itX (y : Q3) : Q3 := if kwM y < 0 then (if nrX (mustX y (isWM y 25)) 999 6 1 2 = 0 then setQ (nrX (mustX y (isWM y 25)) 999) 7 2 (numV (mustX y (isWM y 25))) else nrX (mustX y (isWM y 25)) 999) else htX y (kwM y)
/-- how far on, where nothing was wrong -/
def muM (y : Q3) : Nat := if y 6 1 2 = 0 then 122 - (y 6 1 0).toNatClampNeg else 0
def tmF : Nat → Q3 → Nat → Q3 × Nat
  | 0, y, n => (y, n)
  | f + 1, y, n => if y 6 1 2 = 0 ∧ (y 6 1 0).toNatClampNeg < (y 7 1 0).toNatClampNeg then tmF f (itX (mustX y (isWM y 26))) (n + 1) else (y, n)
theorem okT_g0 {y : Q3} (h : okT y) (q : Q2) : okT (upG y 0 q) := h
theorem okT_must {y : Q3} (h : okT y) (c : Bool) : okT (mustX y c) := by
  unfold mustX
  split
  · exact okT_nextM h.n
  · obtain ⟨n, s, e, ⟨h1, h2⟩, h3, h4, h5, h6⟩ := h
    exact ⟨n, s, e, ⟨h1, h2⟩, h3, h4, h5, h6⟩
theorem okT_nr {y : Q3} (h : okT y) (m : Int32) : okT (nrX y m) := okT_must h _
theorem okT_set {y : Q3} (h : okT y) (w j : Nat) (v : Int32) : okT (setQ y w j v) := h
theorem okT_pt {y : Q3} (h : okT y) (i w j : Nat) (m : Int32) : okT (ptX y i w j m) := by
  unfold ptX
  split
  · split
    · exact okT_set (okT_nr (okT_nextM h.n) _) _ _ _
    · exact okT_nr (okT_nextM h.n) _
  · exact h
theorem okT_sp {y : Q3} (h : okT y) (j : Nat) : okT (spX y j) := by
  unfold spX
  split
  · exact okT_set (okT_nextM h.n) _ _ _
  · split
    · exact okT_set (okT_nextM h.n) _ _ _
    · exact h
theorem okT_ht {y : Q3} (h : okT y) (kd : Int32) : okT (htX y kd) := by
  unfold htX
  split
  · exact okT_sp (okT_pt (okT_pt (okT_pt (okT_set (okT_nr (okT_must h _) _) _ _ _) _ _ _ _) _ _ _ _) _ _ _ _) _
  · exact okT_nr (okT_must h _) _
theorem okT_it {y : Q3} (h : okT y) : okT (itX y) := by
  unfold itX
  split
  · split
    · exact okT_set (okT_nr (okT_must h _) _) _ _ _
    · exact okT_nr (okT_must h _) _
  · exact okT_ht h _
theorem must_0 {y : Q3} {c : Bool} (h : mustX y c 6 1 2 = 0) : y 6 1 2 = 0 ∧ c = true := by
  unfold mustX at h
  split at h
  · assumption
  · rw [show up3 y 6 1 2 1 6 1 2 = 1 from up3_s] at h
    exact absurd h (by decide)
theorem nr_0 {y : Q3} {m : Int32} (h : nrX y m 6 1 2 = 0) : y 6 1 2 = 0 ∧ 0 ≤ numV y ∧ numV y ≤ m := ⟨(must_0 h).1, of_decide_eq_true (must_0 h).2⟩
theorem isWM_w {y : Q3} {i : Nat} (h : isWM y i = true) : y 6 1 2 = 0 := (of_decide_eq_true h).1
theorem kwM_in (y : Q3) : kwM y = -1 ∨ ∃ k : Nat, k < 7 ∧ kwM y = nI k := by
  unfold kwM
  repeat' split
  · exact Or.inr ⟨0, by decide, rfl⟩
  · exact Or.inr ⟨1, by decide, rfl⟩
  · exact Or.inr ⟨2, by decide, rfl⟩
  · exact Or.inr ⟨3, by decide, rfl⟩
  · exact Or.inr ⟨4, by decide, rfl⟩
  · exact Or.inr ⟨5, by decide, rfl⟩
  · exact Or.inr ⟨6, by decide, rfl⟩
  · exact Or.inl rfl

set_option maxHeartbeats 4000000 in
set_option maxRecDepth 20000 in
theorem c_X6_isByte (l : Launch) (G : GB) (b : Nat → Nat) (y : Q3) (j : Nat) (lo hi : Int32) (n : Nat) (hn : y 7 1 0 = nI n) (hn2 : n ≤ 120) (hj : j ≤ 120) : CI l yX6_isByte cX6_isByte 4 .boolean 1 25 G [.ref (b 0), .int (nI j), .int lo, .int hi] (wM G b y) (fun vR w' => vR = bI (bet (y 7 0) n lo hi j = true) ∧ w' = wM G b y) := by
  refine CI.mk (own := RX6) (by decide) rfl (Nat.le_of_ble_eq_true rfl) ?_
  intro X E ret
  show J X G 4 0 0 (wM G b y) [(0, .ref (b 0)), (1, .int (nI j)), (2, .int lo), (3, .int hi)] 0 []
  refine J_iload_n E dX6_isByte_0 rfl 1 rfl ?_
  refine J_aload_n E dX6_isByte_1 rfl 0 rfl ?_
  refine gM0_X6_214 E dX6_isByte_2 ?_
  refine J_top (x' := nI n) (hn) ?_
  refine J_icmp_ge E (tgt := 29) dX6_isByte_5 (by decide) (fun c_5 => ?_) (fun c_5 => ?_)
  · skip
    have n_5 : n ≤ j := cmp_le (a := n) (b := j) (by omega) (by omega) c_5
    refine J_iconst E dX6_isByte_29 ic_0 ?_
    exact ret _ _ _ _ ⟨by first | exact (bI_t (bet_t ⟨by omega, c_22⟩)).symm | exact (bI_f (bet_f (fun z => c_22 z.2))).symm | exact (bI_f (bet_o (by omega))).symm, (congrArg (wM G b) (rfl))⟩ rfl dX6_isByte_30
  · skip
    have n_5 : ¬ n ≤ j := cmp_nle (a := n) (b := j) (by omega) (by omega) c_5
    refine J_aload_n E dX6_isByte_8 rfl 0 rfl ?_
    refine gM0_X6_28 E dX6_isByte_9 ?_
    refine J_iload_n E dX6_isByte_12 rfl 1 rfl ?_
    refine lM_7 E (j := j) dX6_isByte_13 (by omega) ?_
    refine J_i2l E dX6_isByte_14 rfl ?_
    refine J_iload_n E dX6_isByte_15 rfl 2 rfl ?_
    refine J_i2l E dX6_isByte_16 rfl ?_
    refine J_iload_n E dX6_isByte_17 rfl 3 rfl ?_
    refine J_i2l E dX6_isByte_18 rfl ?_
    refine J_cSiN E (As := [.long (Int32.toInt64 (y 7 0 j)), .long (Int32.toInt64 lo), .long (Int32.toInt64 hi)]) (c_X6_in l G (y 7 0 j) lo hi (Int32.toInt64 lo) (Int32.toInt64 hi) rfl rfl ) cl_X6_54 yo_X6_in dX6_isByte_19 rfl (Nat.le_of_ble_eq_true rfl) (Nat.le_of_ble_eq_true rfl) rfl (Nat.le_of_ble_eq_true rfl) ⟨Nat.zero_le _, Nat.zero_le _⟩ ?_
    refine J_if_eq E (tgt := 29) dX6_isByte_22 (by decide) (fun c_22 => ?_) (fun c_22 => ?_)
    · skip
      have c_22 := bI_0 c_22
      refine J_iconst E dX6_isByte_29 ic_0 ?_
      exact ret _ _ _ _ ⟨by first | exact (bI_t (bet_t ⟨by omega, c_22⟩)).symm | exact (bI_f (bet_f (fun z => c_22 z.2))).symm | exact (bI_f (bet_o (by omega))).symm, (congrArg (wM G b) (rfl))⟩ rfl dX6_isByte_30
    · skip
      have c_22 := bI_1 c_22
      refine J_iconst E dX6_isByte_25 ic_1 ?_
      refine J_goto E (tgt := 30) dX6_isByte_26 (by decide) ?_
      exact ret _ _ _ _ ⟨by first | exact (bI_t (bet_t ⟨by omega, c_22⟩)).symm | exact (bI_f (bet_f (fun z => c_22 z.2))).symm | exact (bI_f (bet_o (by omega))).symm, (congrArg (wM G b) (rfl))⟩ rfl dX6_isByte_30

set_option maxHeartbeats 4000000 in
set_option maxRecDepth 20000 in
theorem c_X6_next (l : Launch) (G : GB) (b : Nat → Nat) (y : Q3) (hq : okN y) : CV l yX6_next cX6_next 3 2 48 0 0 G [.ref (b 0)] (wM G b y) (fun w' => w' = wM G b (nextMX y)) := by
  refine CV.mk (own := RX6) (by decide) rfl (Nat.le_of_ble_eq_true rfl) ?_
  intro X E _ _ _ ret
  show J X G 3 0 0 (wM G b y) [(0, .ref (b 0))] 0 []
  obtain ⟨n, e, hn, hn2, he, he2⟩ := hq
  refine J_aload_n E dX6_next_0 rfl 0 rfl ?_
  refine J_aload_n E dX6_next_1 rfl 0 rfl ?_
  refine gM0_X6_217 E dX6_next_2 ?_
  refine pM0_X6_220 E dX6_next_5 ?_
  refine J_w (ws' := wM G b (upG y 6 (rd4 (y 6) e e (y 6 1 2) (y 6 1 3)))) (congrArg (wM G b) (rd_in he)) ?_
  have lp8 : ∀ (fu : Nat) (i : Nat), (i ≤ n) → (endF (bet (y 7 0) n 32 32) e = endF (bet (y 7 0) n 32 32) i) → n - i < fu → J X G 3 0 0 (wM G b (upG y 6 (rd4 (y 6) i e (y 6 1 2) (y 6 1 3)))) [(0, .ref (b 0))] 8 [] := by
    intro fu
    induction fu with
    | zero => intro i hi h1 hm; exact absurd hm (Nat.not_lt_zero _)
    | succ fu ih8 =>
      intro i hi h1 hm
      refine J_aload_n E dX6_next_8 rfl 0 rfl ?_
      refine J_aload_n E dX6_next_9 rfl 0 rfl ?_
      refine gM0_X6_220 E dX6_next_10 ?_
      refine J_top (x' := nI i) rdg_0 ?_
      refine J_bipush E dX6_next_13 bp_32 ?_
      refine J_bipush E dX6_next_15 bp_32 ?_
      refine J_cVi0 E (As := [.int (nI i), .int 32, .int 32]) (c_X6_isByte l G b (upG y 6 (rd4 (y 6) i e (y 6 1 2) (y 6 1 3))) i 32 32 n hn hn2 (by omega)) cl_X6_223 yo_X6_isByte dX6_next_17 rfl rfl rfl (Nat.le_of_ble_eq_true rfl) (Nat.le_of_ble_eq_true rfl) rfl (Nat.le_of_ble_eq_true rfl) ⟨Nat.zero_le _, Nat.zero_le _⟩ ?_
      refine J_top (x' := bI (bet (y 7 0) n 32 32 i = true)) rfl ?_
      refine J_if_eq E (tgt := 36) dX6_next_20 (by decide) (fun c_20 => ?_) (fun c_20 => ?_)
      · skip
        have c_20 := bI_0 c_20
        have hS : i = tokS (y 7 0) n e := by unfold tokS; rw [h1]; exact (endF_f c_20).symm
        refine J_aload_n E dX6_next_36 rfl 0 rfl ?_
        refine J_aload_n E dX6_next_37 rfl 0 rfl ?_
        refine gM0_X6_220 E dX6_next_38 ?_
        refine J_top (x' := nI i) rdg_0 ?_
        refine pM0_X6_217 E dX6_next_41 ?_
        refine J_w (ws' := wM G b (upG y 6 (rd4 (y 6) i i (y 6 1 2) (y 6 1 3)))) (congrArg (wM G b) rdw_1) ?_
        refine J_aload_n E dX6_next_44 rfl 0 rfl ?_
        refine J_aload_n E dX6_next_45 rfl 0 rfl ?_
        refine gM0_X6_220 E dX6_next_46 ?_
        refine J_top (x' := nI i) rdg_0 ?_
        refine J_bipush E dX6_next_49 bp_97 ?_
        refine J_bipush E dX6_next_51 bp_122 ?_
        refine J_cVi0 E (As := [.int (nI i), .int 97, .int 122]) (c_X6_isByte l G b (upG y 6 (rd4 (y 6) i i (y 6 1 2) (y 6 1 3))) i 97 122 n hn hn2 (by omega)) cl_X6_223 yo_X6_isByte dX6_next_53 rfl rfl rfl (Nat.le_of_ble_eq_true rfl) (Nat.le_of_ble_eq_true rfl) rfl (Nat.le_of_ble_eq_true rfl) ⟨Nat.zero_le _, Nat.zero_le _⟩ ?_
        refine J_top (x' := bI (bet (y 7 0) n 97 122 i = true)) rfl ?_
        refine J_istore_n E (lv' := [(1, .int (bI (bet (y 7 0) n 97 122 i = true))), (0, .ref (b 0))]) dX6_next_56 rfl (by decide) rfl ?_
        refine J_aload_n E dX6_next_57 rfl 1 rfl ?_
        refine J_aload_n E dX6_next_58 rfl 1 rfl ?_
        refine gM0_X6_220 E dX6_next_59 ?_
        refine J_top (x' := nI i) rdg_0 ?_
        refine J_bipush E dX6_next_62 bp_48 ?_
        refine J_bipush E dX6_next_64 bp_57 ?_
        refine J_cVi0 E (As := [.int (nI i), .int 48, .int 57]) (c_X6_isByte l G b (upG y 6 (rd4 (y 6) i i (y 6 1 2) (y 6 1 3))) i 48 57 n hn hn2 (by omega)) cl_X6_223 yo_X6_isByte dX6_next_66 rfl rfl rfl (Nat.le_of_ble_eq_true rfl) (Nat.le_of_ble_eq_true rfl) rfl (Nat.le_of_ble_eq_true rfl) ⟨Nat.zero_le _, Nat.zero_le _⟩ ?_
        refine J_top (x' := bI (bet (y 7 0) n 48 57 i = true)) rfl ?_
        refine J_istore_n E (lv' := [(2, .int (bI (bet (y 7 0) n 48 57 i = true))), (1, .int (bI (bet (y 7 0) n 97 122 i = true))), (0, .ref (b 0))]) dX6_next_69 rfl (by decide) rfl ?_
        have lp70 : ∀ (fu : Nat) (u : Nat), (u ≤ n) → (i ≤ u) → (tokE2 (y 7 0) n i i = tokE2 (y 7 0) n i u) → n - u < fu → J X G 3 0 0 (wM G b (upG y 6 (rd4 (y 6) i u (y 6 1 2) (y 6 1 3)))) [(0, .ref (b 0)), (1, .int (bI (bet (y 7 0) n 97 122 i = true))), (2, .int (bI (bet (y 7 0) n 48 57 i = true)))] 70 [] := by
          intro fu
          induction fu with
          | zero => intro u hu hiu h2 hm; exact absurd hm (Nat.not_lt_zero _)
          | succ fu ih70 =>
            intro u hu hiu h2 hm
            refine J_iload_n E dX6_next_70 rfl 1 rfl ?_
            refine J_if_eq E (tgt := 89) dX6_next_71 (by decide) (fun c_71 => ?_) (fun c_71 => ?_)
            · skip
              have c_71 := bI_0 c_71
              refine J_iload_n E dX6_next_89 rfl 2 rfl ?_
              refine J_if_eq E (tgt := 121) dX6_next_90 (by decide) (fun c_90 => ?_) (fun c_90 => ?_)
              · skip
                have c_90 := bI_0 c_90
                have hE : tokE2 (y 7 0) n i u = u := by unfold tokE2; first | rw [if_neg c_71, if_neg c_90] | rw [if_pos c_71, endF_f c_86] | rw [if_neg c_71, if_pos c_90, endF_f c_105] | exact absurd c_90 (bet_x c_71)
                refine J_aload_n E dX6_next_121 rfl 0 rfl ?_
                refine J_dup E dX6_next_122 rfl ?_
                refine gM0_X6_217 E dX6_next_123 ?_
                refine J_top (x' := nI u) rdg_1 ?_
                refine J_iload_n E dX6_next_126 rfl 1 rfl ?_
                refine J_if_ne E (tgt := 149) dX6_next_127 (by decide) (fun c_127 => ?_) (fun c_127 => ?_)
                · skip
                  have c_127 := bI_1 c_127
                  refine J_iconst E dX6_next_149 ic_0 ?_
                  refine J_iadd E dX6_next_150 ?_
                  refine J_top (x' := nI u) (Int32.add_zero _) ?_
                  refine pM0_X6_217 E dX6_next_151 ?_
                  refine J_w (ws' := wM G b (upG y 6 (rd4 (y 6) i u (y 6 1 2) (y 6 1 3)))) (congrArg (wM G b) rdw_1) ?_
                  refine ret _ _ _ (congrArg (wM G b) (nextM_eq hn hn2 he he2 hS ?_)) dX6_next_154
                  rw [← hE, ← h2, tokE, tokE2]
                  first | rw [if_pos c_127, if_pos c_127] | rw [if_neg c_127, if_pos c_131, if_neg c_127, if_pos c_131] | rw [if_neg c_127, if_neg c_131, if_neg c_127, if_neg c_131, if_neg (by omega)]
                · skip
                  have c_127 := bI_0 c_127
                  refine J_iload_n E dX6_next_130 rfl 2 rfl ?_
                  refine J_if_ne E (tgt := 149) dX6_next_131 (by decide) (fun c_131 => ?_) (fun c_131 => ?_)
                  · skip
                    have c_131 := bI_1 c_131
                    refine J_iconst E dX6_next_149 ic_0 ?_
                    refine J_iadd E dX6_next_150 ?_
                    refine J_top (x' := nI u) (Int32.add_zero _) ?_
                    refine pM0_X6_217 E dX6_next_151 ?_
                    refine J_w (ws' := wM G b (upG y 6 (rd4 (y 6) i u (y 6 1 2) (y 6 1 3)))) (congrArg (wM G b) rdw_1) ?_
                    refine ret _ _ _ (congrArg (wM G b) (nextM_eq hn hn2 he he2 hS ?_)) dX6_next_154
                    rw [← hE, ← h2, tokE, tokE2]
                    first | rw [if_pos c_127, if_pos c_127] | rw [if_neg c_127, if_pos c_131, if_neg c_127, if_pos c_131] | rw [if_neg c_127, if_neg c_131, if_neg c_127, if_neg c_131, if_neg (by omega)]
                  · skip
                    have c_131 := bI_0 c_131
                    refine J_aload_n E dX6_next_134 rfl 0 rfl ?_
                    refine gM0_X6_220 E dX6_next_135 ?_
                    refine J_top (x' := nI i) rdg_0 ?_
                    refine J_aload_n E dX6_next_138 rfl 0 rfl ?_
                    refine gM0_X6_214 E dX6_next_139 ?_
                    refine J_top (x' := y 7 1 0) (upG_n (by decide)) ?_
                    refine J_top (x' := nI n) (hn) ?_
                    refine J_icmp_ge E (tgt := 149) dX6_next_142 (by decide) (fun c_142 => ?_) (fun c_142 => ?_)
                    · skip
                      have n_142 : n ≤ i := cmp_le (a := n) (b := i) (by omega) (by omega) c_142
                      refine J_iconst E dX6_next_149 ic_0 ?_
                      refine J_iadd E dX6_next_150 ?_
                      refine J_top (x' := nI u) (Int32.add_zero _) ?_
                      refine pM0_X6_217 E dX6_next_151 ?_
                      refine J_w (ws' := wM G b (upG y 6 (rd4 (y 6) i u (y 6 1 2) (y 6 1 3)))) (congrArg (wM G b) rdw_1) ?_
                      refine ret _ _ _ (congrArg (wM G b) (nextM_eq hn hn2 he he2 hS ?_)) dX6_next_154
                      rw [← hE, ← h2, tokE, tokE2]
                      first | rw [if_pos c_127, if_pos c_127] | rw [if_neg c_127, if_pos c_131, if_neg c_127, if_pos c_131] | rw [if_neg c_127, if_neg c_131, if_neg c_127, if_neg c_131, if_neg (by omega)]
                    · skip
                      have n_142 : ¬ n ≤ i := cmp_nle (a := n) (b := i) (by omega) (by omega) c_142
                      refine J_iconst E dX6_next_145 ic_1 ?_
                      refine J_goto E (tgt := 150) dX6_next_146 (by decide) ?_
                      refine J_iadd E dX6_next_150 ?_
                      refine J_top (x' := nI (u + 1)) (nI_1 u) ?_
                      refine pM0_X6_217 E dX6_next_151 ?_
                      refine J_w (ws' := wM G b (upG y 6 (rd4 (y 6) i (u + 1) (y 6 1 2) (y 6 1 3)))) (congrArg (wM G b) rdw_1) ?_
                      refine ret _ _ _ (congrArg (wM G b) (nextM_eq hn hn2 he he2 hS ?_)) dX6_next_154
                      rw [tokE, if_neg c_127, if_neg c_131, if_pos (by omega)]
                      have hu2 : i = u := by rw [tokE2, if_neg c_127, if_neg c_131] at h2; rw [hE] at h2; exact h2
                      omega
              · skip
                have c_90 := bI_1 c_90
                refine J_aload_n E dX6_next_93 rfl 0 rfl ?_
                refine J_aload_n E dX6_next_94 rfl 0 rfl ?_
                refine gM0_X6_217 E dX6_next_95 ?_
                refine J_top (x' := nI u) rdg_1 ?_
                refine J_bipush E dX6_next_98 bp_48 ?_
                refine J_bipush E dX6_next_100 bp_57 ?_
                refine J_cVi0 E (As := [.int (nI u), .int 48, .int 57]) (c_X6_isByte l G b (upG y 6 (rd4 (y 6) i u (y 6 1 2) (y 6 1 3))) u 48 57 n hn hn2 (by omega)) cl_X6_223 yo_X6_isByte dX6_next_102 rfl rfl rfl (Nat.le_of_ble_eq_true rfl) (Nat.le_of_ble_eq_true rfl) rfl (Nat.le_of_ble_eq_true rfl) ⟨Nat.zero_le _, Nat.zero_le _⟩ ?_
                refine J_top (x' := bI (bet (y 7 0) n 48 57 u = true)) rfl ?_
                refine J_if_eq E (tgt := 121) dX6_next_105 (by decide) (fun c_105 => ?_) (fun c_105 => ?_)
                · skip
                  have c_105 := bI_0 c_105
                  have hE : tokE2 (y 7 0) n i u = u := by unfold tokE2; first | rw [if_neg c_71, if_neg c_90] | rw [if_pos c_71, endF_f c_86] | rw [if_neg c_71, if_pos c_90, endF_f c_105] | exact absurd c_90 (bet_x c_71)
                  refine J_aload_n E dX6_next_121 rfl 0 rfl ?_
                  refine J_dup E dX6_next_122 rfl ?_
                  refine gM0_X6_217 E dX6_next_123 ?_
                  refine J_top (x' := nI u) rdg_1 ?_
                  refine J_iload_n E dX6_next_126 rfl 1 rfl ?_
                  refine J_if_ne E (tgt := 149) dX6_next_127 (by decide) (fun c_127 => ?_) (fun c_127 => ?_)
                  · skip
                    have c_127 := bI_1 c_127
                    refine J_iconst E dX6_next_149 ic_0 ?_
                    refine J_iadd E dX6_next_150 ?_
                    refine J_top (x' := nI u) (Int32.add_zero _) ?_
                    refine pM0_X6_217 E dX6_next_151 ?_
                    refine J_w (ws' := wM G b (upG y 6 (rd4 (y 6) i u (y 6 1 2) (y 6 1 3)))) (congrArg (wM G b) rdw_1) ?_
                    refine ret _ _ _ (congrArg (wM G b) (nextM_eq hn hn2 he he2 hS ?_)) dX6_next_154
                    rw [← hE, ← h2, tokE, tokE2]
                    first | rw [if_pos c_127, if_pos c_127] | rw [if_neg c_127, if_pos c_131, if_neg c_127, if_pos c_131] | rw [if_neg c_127, if_neg c_131, if_neg c_127, if_neg c_131, if_neg (by omega)]
                  · skip
                    have c_127 := bI_0 c_127
                    refine J_iload_n E dX6_next_130 rfl 2 rfl ?_
                    refine J_if_ne E (tgt := 149) dX6_next_131 (by decide) (fun c_131 => ?_) (fun c_131 => ?_)
                    · skip
                      have c_131 := bI_1 c_131
                      refine J_iconst E dX6_next_149 ic_0 ?_
                      refine J_iadd E dX6_next_150 ?_
                      refine J_top (x' := nI u) (Int32.add_zero _) ?_
                      refine pM0_X6_217 E dX6_next_151 ?_
                      refine J_w (ws' := wM G b (upG y 6 (rd4 (y 6) i u (y 6 1 2) (y 6 1 3)))) (congrArg (wM G b) rdw_1) ?_
                      refine ret _ _ _ (congrArg (wM G b) (nextM_eq hn hn2 he he2 hS ?_)) dX6_next_154
                      rw [← hE, ← h2, tokE, tokE2]
                      first | rw [if_pos c_127, if_pos c_127] | rw [if_neg c_127, if_pos c_131, if_neg c_127, if_pos c_131] | rw [if_neg c_127, if_neg c_131, if_neg c_127, if_neg c_131, if_neg (by omega)]
                    · skip
                      have c_131 := bI_0 c_131
                      refine J_aload_n E dX6_next_134 rfl 0 rfl ?_
                      refine gM0_X6_220 E dX6_next_135 ?_
                      refine J_top (x' := nI i) rdg_0 ?_
                      refine J_aload_n E dX6_next_138 rfl 0 rfl ?_
                      refine gM0_X6_214 E dX6_next_139 ?_
                      refine J_top (x' := y 7 1 0) (upG_n (by decide)) ?_
                      refine J_top (x' := nI n) (hn) ?_
                      refine J_icmp_ge E (tgt := 149) dX6_next_142 (by decide) (fun c_142 => ?_) (fun c_142 => ?_)
                      · skip
                        have n_142 : n ≤ i := cmp_le (a := n) (b := i) (by omega) (by omega) c_142
                        refine J_iconst E dX6_next_149 ic_0 ?_
                        refine J_iadd E dX6_next_150 ?_
                        refine J_top (x' := nI u) (Int32.add_zero _) ?_
                        refine pM0_X6_217 E dX6_next_151 ?_
                        refine J_w (ws' := wM G b (upG y 6 (rd4 (y 6) i u (y 6 1 2) (y 6 1 3)))) (congrArg (wM G b) rdw_1) ?_
                        refine ret _ _ _ (congrArg (wM G b) (nextM_eq hn hn2 he he2 hS ?_)) dX6_next_154
                        rw [← hE, ← h2, tokE, tokE2]
                        first | rw [if_pos c_127, if_pos c_127] | rw [if_neg c_127, if_pos c_131, if_neg c_127, if_pos c_131] | rw [if_neg c_127, if_neg c_131, if_neg c_127, if_neg c_131, if_neg (by omega)]
                      · skip
                        have n_142 : ¬ n ≤ i := cmp_nle (a := n) (b := i) (by omega) (by omega) c_142
                        refine J_iconst E dX6_next_145 ic_1 ?_
                        refine J_goto E (tgt := 150) dX6_next_146 (by decide) ?_
                        refine J_iadd E dX6_next_150 ?_
                        refine J_top (x' := nI (u + 1)) (nI_1 u) ?_
                        refine pM0_X6_217 E dX6_next_151 ?_
                        refine J_w (ws' := wM G b (upG y 6 (rd4 (y 6) i (u + 1) (y 6 1 2) (y 6 1 3)))) (congrArg (wM G b) rdw_1) ?_
                        refine ret _ _ _ (congrArg (wM G b) (nextM_eq hn hn2 he he2 hS ?_)) dX6_next_154
                        rw [tokE, if_neg c_127, if_neg c_131, if_pos (by omega)]
                        have hu2 : i = u := by rw [tokE2, if_neg c_127, if_neg c_131] at h2; rw [hE] at h2; exact h2
                        omega
                · skip
                  have c_105 := bI_1 c_105
                  refine J_aload_n E dX6_next_108 rfl 0 rfl ?_
                  refine J_dup E dX6_next_109 rfl ?_
                  refine gM0_X6_217 E dX6_next_110 ?_
                  refine J_top (x' := nI u) rdg_1 ?_
                  refine J_iconst E dX6_next_113 ic_1 ?_
                  refine J_iadd E dX6_next_114 ?_
                  refine J_top (x' := nI (u + 1)) (nI_1 u) ?_
                  refine pM0_X6_217 E dX6_next_115 ?_
                  refine J_w (ws' := wM G b (upG y 6 (rd4 (y 6) i (u + 1) (y 6 1 2) (y 6 1 3)))) (congrArg (wM G b) rdw_1) ?_
                  refine J_goto E (tgt := 70) dX6_next_118 (by decide) ?_
                  refine J_lv [0, 1, 2] rfl ?_
                  exact ih70 (u + 1) (by first | (have := bet_lt c_86; omega) | (have := bet_lt c_105; omega)) (by omega) (by rw [h2]; unfold tokE2; first | rw [if_pos c_71, if_pos c_71, endF_t (by omega) c_86] | rw [if_neg c_71, if_neg c_71, if_pos c_90, if_pos c_90, endF_t (by omega) c_105] | exact absurd c_90 (bet_x c_71)) (by first | (have := bet_lt c_86; omega) | (have := bet_lt c_105; omega))
            · skip
              have c_71 := bI_1 c_71
              refine J_aload_n E dX6_next_74 rfl 0 rfl ?_
              refine J_aload_n E dX6_next_75 rfl 0 rfl ?_
              refine gM0_X6_217 E dX6_next_76 ?_
              refine J_top (x' := nI u) rdg_1 ?_
              refine J_bipush E dX6_next_79 bp_97 ?_
              refine J_bipush E dX6_next_81 bp_122 ?_
              refine J_cVi0 E (As := [.int (nI u), .int 97, .int 122]) (c_X6_isByte l G b (upG y 6 (rd4 (y 6) i u (y 6 1 2) (y 6 1 3))) u 97 122 n hn hn2 (by omega)) cl_X6_223 yo_X6_isByte dX6_next_83 rfl rfl rfl (Nat.le_of_ble_eq_true rfl) (Nat.le_of_ble_eq_true rfl) rfl (Nat.le_of_ble_eq_true rfl) ⟨Nat.zero_le _, Nat.zero_le _⟩ ?_
              refine J_top (x' := bI (bet (y 7 0) n 97 122 u = true)) rfl ?_
              refine J_if_ne E (tgt := 108) dX6_next_86 (by decide) (fun c_86 => ?_) (fun c_86 => ?_)
              · skip
                have c_86 := bI_1 c_86
                refine J_aload_n E dX6_next_108 rfl 0 rfl ?_
                refine J_dup E dX6_next_109 rfl ?_
                refine gM0_X6_217 E dX6_next_110 ?_
                refine J_top (x' := nI u) rdg_1 ?_
                refine J_iconst E dX6_next_113 ic_1 ?_
                refine J_iadd E dX6_next_114 ?_
                refine J_top (x' := nI (u + 1)) (nI_1 u) ?_
                refine pM0_X6_217 E dX6_next_115 ?_
                refine J_w (ws' := wM G b (upG y 6 (rd4 (y 6) i (u + 1) (y 6 1 2) (y 6 1 3)))) (congrArg (wM G b) rdw_1) ?_
                refine J_goto E (tgt := 70) dX6_next_118 (by decide) ?_
                refine J_lv [0, 1, 2] rfl ?_
                exact ih70 (u + 1) (by first | (have := bet_lt c_86; omega) | (have := bet_lt c_105; omega)) (by omega) (by rw [h2]; unfold tokE2; first | rw [if_pos c_71, if_pos c_71, endF_t (by omega) c_86] | rw [if_neg c_71, if_neg c_71, if_pos c_90, if_pos c_90, endF_t (by omega) c_105] | exact absurd c_90 (bet_x c_71)) (by first | (have := bet_lt c_86; omega) | (have := bet_lt c_105; omega))
              · skip
                have c_86 := bI_0 c_86
                refine J_iload_n E dX6_next_89 rfl 2 rfl ?_
                refine J_if_eq E (tgt := 121) dX6_next_90 (by decide) (fun c_90 => ?_) (fun c_90 => ?_)
                · skip
                  have c_90 := bI_0 c_90
                  have hE : tokE2 (y 7 0) n i u = u := by unfold tokE2; first | rw [if_neg c_71, if_neg c_90] | rw [if_pos c_71, endF_f c_86] | rw [if_neg c_71, if_pos c_90, endF_f c_105] | exact absurd c_90 (bet_x c_71)
                  refine J_aload_n E dX6_next_121 rfl 0 rfl ?_
                  refine J_dup E dX6_next_122 rfl ?_
                  refine gM0_X6_217 E dX6_next_123 ?_
                  refine J_top (x' := nI u) rdg_1 ?_
                  refine J_iload_n E dX6_next_126 rfl 1 rfl ?_
                  refine J_if_ne E (tgt := 149) dX6_next_127 (by decide) (fun c_127 => ?_) (fun c_127 => ?_)
                  · skip
                    have c_127 := bI_1 c_127
                    refine J_iconst E dX6_next_149 ic_0 ?_
                    refine J_iadd E dX6_next_150 ?_
                    refine J_top (x' := nI u) (Int32.add_zero _) ?_
                    refine pM0_X6_217 E dX6_next_151 ?_
                    refine J_w (ws' := wM G b (upG y 6 (rd4 (y 6) i u (y 6 1 2) (y 6 1 3)))) (congrArg (wM G b) rdw_1) ?_
                    refine ret _ _ _ (congrArg (wM G b) (nextM_eq hn hn2 he he2 hS ?_)) dX6_next_154
                    rw [← hE, ← h2, tokE, tokE2]
                    first | rw [if_pos c_127, if_pos c_127] | rw [if_neg c_127, if_pos c_131, if_neg c_127, if_pos c_131] | rw [if_neg c_127, if_neg c_131, if_neg c_127, if_neg c_131, if_neg (by omega)]
                  · skip
                    have c_127 := bI_0 c_127
                    refine J_iload_n E dX6_next_130 rfl 2 rfl ?_
                    refine J_if_ne E (tgt := 149) dX6_next_131 (by decide) (fun c_131 => ?_) (fun c_131 => ?_)
                    · skip
                      have c_131 := bI_1 c_131
                      refine J_iconst E dX6_next_149 ic_0 ?_
                      refine J_iadd E dX6_next_150 ?_
                      refine J_top (x' := nI u) (Int32.add_zero _) ?_
                      refine pM0_X6_217 E dX6_next_151 ?_
                      refine J_w (ws' := wM G b (upG y 6 (rd4 (y 6) i u (y 6 1 2) (y 6 1 3)))) (congrArg (wM G b) rdw_1) ?_
                      refine ret _ _ _ (congrArg (wM G b) (nextM_eq hn hn2 he he2 hS ?_)) dX6_next_154
                      rw [← hE, ← h2, tokE, tokE2]
                      first | rw [if_pos c_127, if_pos c_127] | rw [if_neg c_127, if_pos c_131, if_neg c_127, if_pos c_131] | rw [if_neg c_127, if_neg c_131, if_neg c_127, if_neg c_131, if_neg (by omega)]
                    · skip
                      have c_131 := bI_0 c_131
                      refine J_aload_n E dX6_next_134 rfl 0 rfl ?_
                      refine gM0_X6_220 E dX6_next_135 ?_
                      refine J_top (x' := nI i) rdg_0 ?_
                      refine J_aload_n E dX6_next_138 rfl 0 rfl ?_
                      refine gM0_X6_214 E dX6_next_139 ?_
                      refine J_top (x' := y 7 1 0) (upG_n (by decide)) ?_
                      refine J_top (x' := nI n) (hn) ?_
                      refine J_icmp_ge E (tgt := 149) dX6_next_142 (by decide) (fun c_142 => ?_) (fun c_142 => ?_)
                      · skip
                        have n_142 : n ≤ i := cmp_le (a := n) (b := i) (by omega) (by omega) c_142
                        refine J_iconst E dX6_next_149 ic_0 ?_
                        refine J_iadd E dX6_next_150 ?_
                        refine J_top (x' := nI u) (Int32.add_zero _) ?_
                        refine pM0_X6_217 E dX6_next_151 ?_
                        refine J_w (ws' := wM G b (upG y 6 (rd4 (y 6) i u (y 6 1 2) (y 6 1 3)))) (congrArg (wM G b) rdw_1) ?_
                        refine ret _ _ _ (congrArg (wM G b) (nextM_eq hn hn2 he he2 hS ?_)) dX6_next_154
                        rw [← hE, ← h2, tokE, tokE2]
                        first | rw [if_pos c_127, if_pos c_127] | rw [if_neg c_127, if_pos c_131, if_neg c_127, if_pos c_131] | rw [if_neg c_127, if_neg c_131, if_neg c_127, if_neg c_131, if_neg (by omega)]
                      · skip
                        have n_142 : ¬ n ≤ i := cmp_nle (a := n) (b := i) (by omega) (by omega) c_142
                        refine J_iconst E dX6_next_145 ic_1 ?_
                        refine J_goto E (tgt := 150) dX6_next_146 (by decide) ?_
                        refine J_iadd E dX6_next_150 ?_
                        refine J_top (x' := nI (u + 1)) (nI_1 u) ?_
                        refine pM0_X6_217 E dX6_next_151 ?_
                        refine J_w (ws' := wM G b (upG y 6 (rd4 (y 6) i (u + 1) (y 6 1 2) (y 6 1 3)))) (congrArg (wM G b) rdw_1) ?_
                        refine ret _ _ _ (congrArg (wM G b) (nextM_eq hn hn2 he he2 hS ?_)) dX6_next_154
                        rw [tokE, if_neg c_127, if_neg c_131, if_pos (by omega)]
                        have hu2 : i = u := by rw [tokE2, if_neg c_127, if_neg c_131] at h2; rw [hE] at h2; exact h2
                        omega
                · skip
                  have c_90 := bI_1 c_90
                  refine J_aload_n E dX6_next_93 rfl 0 rfl ?_
                  refine J_aload_n E dX6_next_94 rfl 0 rfl ?_
                  refine gM0_X6_217 E dX6_next_95 ?_
                  refine J_top (x' := nI u) rdg_1 ?_
                  refine J_bipush E dX6_next_98 bp_48 ?_
                  refine J_bipush E dX6_next_100 bp_57 ?_
                  refine J_cVi0 E (As := [.int (nI u), .int 48, .int 57]) (c_X6_isByte l G b (upG y 6 (rd4 (y 6) i u (y 6 1 2) (y 6 1 3))) u 48 57 n hn hn2 (by omega)) cl_X6_223 yo_X6_isByte dX6_next_102 rfl rfl rfl (Nat.le_of_ble_eq_true rfl) (Nat.le_of_ble_eq_true rfl) rfl (Nat.le_of_ble_eq_true rfl) ⟨Nat.zero_le _, Nat.zero_le _⟩ ?_
                  refine J_top (x' := bI (bet (y 7 0) n 48 57 u = true)) rfl ?_
                  refine J_if_eq E (tgt := 121) dX6_next_105 (by decide) (fun c_105 => ?_) (fun c_105 => ?_)
                  · skip
                    have c_105 := bI_0 c_105
                    have hE : tokE2 (y 7 0) n i u = u := by unfold tokE2; first | rw [if_neg c_71, if_neg c_90] | rw [if_pos c_71, endF_f c_86] | rw [if_neg c_71, if_pos c_90, endF_f c_105] | exact absurd c_90 (bet_x c_71)
                    refine J_aload_n E dX6_next_121 rfl 0 rfl ?_
                    refine J_dup E dX6_next_122 rfl ?_
                    refine gM0_X6_217 E dX6_next_123 ?_
                    refine J_top (x' := nI u) rdg_1 ?_
                    refine J_iload_n E dX6_next_126 rfl 1 rfl ?_
                    refine J_if_ne E (tgt := 149) dX6_next_127 (by decide) (fun c_127 => ?_) (fun c_127 => ?_)
                    · skip
                      have c_127 := bI_1 c_127
                      refine J_iconst E dX6_next_149 ic_0 ?_
                      refine J_iadd E dX6_next_150 ?_
                      refine J_top (x' := nI u) (Int32.add_zero _) ?_
                      refine pM0_X6_217 E dX6_next_151 ?_
                      refine J_w (ws' := wM G b (upG y 6 (rd4 (y 6) i u (y 6 1 2) (y 6 1 3)))) (congrArg (wM G b) rdw_1) ?_
                      refine ret _ _ _ (congrArg (wM G b) (nextM_eq hn hn2 he he2 hS ?_)) dX6_next_154
                      rw [← hE, ← h2, tokE, tokE2]
                      first | rw [if_pos c_127, if_pos c_127] | rw [if_neg c_127, if_pos c_131, if_neg c_127, if_pos c_131] | rw [if_neg c_127, if_neg c_131, if_neg c_127, if_neg c_131, if_neg (by omega)]
                    · skip
                      have c_127 := bI_0 c_127
                      refine J_iload_n E dX6_next_130 rfl 2 rfl ?_
                      refine J_if_ne E (tgt := 149) dX6_next_131 (by decide) (fun c_131 => ?_) (fun c_131 => ?_)
                      · skip
                        have c_131 := bI_1 c_131
                        refine J_iconst E dX6_next_149 ic_0 ?_
                        refine J_iadd E dX6_next_150 ?_
                        refine J_top (x' := nI u) (Int32.add_zero _) ?_
                        refine pM0_X6_217 E dX6_next_151 ?_
                        refine J_w (ws' := wM G b (upG y 6 (rd4 (y 6) i u (y 6 1 2) (y 6 1 3)))) (congrArg (wM G b) rdw_1) ?_
                        refine ret _ _ _ (congrArg (wM G b) (nextM_eq hn hn2 he he2 hS ?_)) dX6_next_154
                        rw [← hE, ← h2, tokE, tokE2]
                        first | rw [if_pos c_127, if_pos c_127] | rw [if_neg c_127, if_pos c_131, if_neg c_127, if_pos c_131] | rw [if_neg c_127, if_neg c_131, if_neg c_127, if_neg c_131, if_neg (by omega)]
                      · skip
                        have c_131 := bI_0 c_131
                        refine J_aload_n E dX6_next_134 rfl 0 rfl ?_
                        refine gM0_X6_220 E dX6_next_135 ?_
                        refine J_top (x' := nI i) rdg_0 ?_
                        refine J_aload_n E dX6_next_138 rfl 0 rfl ?_
                        refine gM0_X6_214 E dX6_next_139 ?_
                        refine J_top (x' := y 7 1 0) (upG_n (by decide)) ?_
                        refine J_top (x' := nI n) (hn) ?_
                        refine J_icmp_ge E (tgt := 149) dX6_next_142 (by decide) (fun c_142 => ?_) (fun c_142 => ?_)
                        · skip
                          have n_142 : n ≤ i := cmp_le (a := n) (b := i) (by omega) (by omega) c_142
                          refine J_iconst E dX6_next_149 ic_0 ?_
                          refine J_iadd E dX6_next_150 ?_
                          refine J_top (x' := nI u) (Int32.add_zero _) ?_
                          refine pM0_X6_217 E dX6_next_151 ?_
                          refine J_w (ws' := wM G b (upG y 6 (rd4 (y 6) i u (y 6 1 2) (y 6 1 3)))) (congrArg (wM G b) rdw_1) ?_
                          refine ret _ _ _ (congrArg (wM G b) (nextM_eq hn hn2 he he2 hS ?_)) dX6_next_154
                          rw [← hE, ← h2, tokE, tokE2]
                          first | rw [if_pos c_127, if_pos c_127] | rw [if_neg c_127, if_pos c_131, if_neg c_127, if_pos c_131] | rw [if_neg c_127, if_neg c_131, if_neg c_127, if_neg c_131, if_neg (by omega)]
                        · skip
                          have n_142 : ¬ n ≤ i := cmp_nle (a := n) (b := i) (by omega) (by omega) c_142
                          refine J_iconst E dX6_next_145 ic_1 ?_
                          refine J_goto E (tgt := 150) dX6_next_146 (by decide) ?_
                          refine J_iadd E dX6_next_150 ?_
                          refine J_top (x' := nI (u + 1)) (nI_1 u) ?_
                          refine pM0_X6_217 E dX6_next_151 ?_
                          refine J_w (ws' := wM G b (upG y 6 (rd4 (y 6) i (u + 1) (y 6 1 2) (y 6 1 3)))) (congrArg (wM G b) rdw_1) ?_
                          refine ret _ _ _ (congrArg (wM G b) (nextM_eq hn hn2 he he2 hS ?_)) dX6_next_154
                          rw [tokE, if_neg c_127, if_neg c_131, if_pos (by omega)]
                          have hu2 : i = u := by rw [tokE2, if_neg c_127, if_neg c_131] at h2; rw [hE] at h2; exact h2
                          omega
                  · skip
                    have c_105 := bI_1 c_105
                    refine J_aload_n E dX6_next_108 rfl 0 rfl ?_
                    refine J_dup E dX6_next_109 rfl ?_
                    refine gM0_X6_217 E dX6_next_110 ?_
                    refine J_top (x' := nI u) rdg_1 ?_
                    refine J_iconst E dX6_next_113 ic_1 ?_
                    refine J_iadd E dX6_next_114 ?_
                    refine J_top (x' := nI (u + 1)) (nI_1 u) ?_
                    refine pM0_X6_217 E dX6_next_115 ?_
                    refine J_w (ws' := wM G b (upG y 6 (rd4 (y 6) i (u + 1) (y 6 1 2) (y 6 1 3)))) (congrArg (wM G b) rdw_1) ?_
                    refine J_goto E (tgt := 70) dX6_next_118 (by decide) ?_
                    refine J_lv [0, 1, 2] rfl ?_
                    exact ih70 (u + 1) (by first | (have := bet_lt c_86; omega) | (have := bet_lt c_105; omega)) (by omega) (by rw [h2]; unfold tokE2; first | rw [if_pos c_71, if_pos c_71, endF_t (by omega) c_86] | rw [if_neg c_71, if_neg c_71, if_pos c_90, if_pos c_90, endF_t (by omega) c_105] | exact absurd c_90 (bet_x c_71)) (by first | (have := bet_lt c_86; omega) | (have := bet_lt c_105; omega))
        refine J_lv [2, 1, 0] rfl ?_
        exact lp70 _ i hi (Nat.le_refl _) rfl (Nat.lt_succ_self _)
      · skip
        have c_20 := bI_1 c_20
        refine J_aload_n E dX6_next_23 rfl 0 rfl ?_
        refine J_dup E dX6_next_24 rfl ?_
        refine gM0_X6_220 E dX6_next_25 ?_
        refine J_top (x' := nI i) rdg_0 ?_
        refine J_iconst E dX6_next_28 ic_1 ?_
        refine J_iadd E dX6_next_29 ?_
        refine J_top (x' := nI (i + 1)) (nI_1 i) ?_
        refine pM0_X6_220 E dX6_next_30 ?_
        refine J_w (ws' := wM G b (upG y 6 (rd4 (y 6) (i + 1) e (y 6 1 2) (y 6 1 3)))) (congrArg (wM G b) rdw_0) ?_
        refine J_goto E (tgt := 8) dX6_next_33 (by decide) ?_
        refine J_lv [0] rfl ?_
        exact ih8 (i + 1) (by have := bet_lt c_20; omega) (by rw [h1]; exact endF_t (by omega) c_20) (by have := bet_lt c_20; omega)
  refine J_lv [0] rfl ?_
  exact lp8 _ e he2 rfl (Nat.lt_succ_self _)

set_option maxHeartbeats 4000000 in
set_option maxRecDepth 20000 in
theorem c_X6_isWord (l : Launch) (G : GB) (b : Nat → Nat) (y : Q3) (i : Nat) (hi : i < 27) (hq : okT y) : CI l yX6_isWord cX6_isWord 4 .boolean 4 85 G [.ref (b 0), .ref (G.2.2.2.2.1 i)] (wM G b y) (fun vR w' => vR = bI (isWM y i = true) ∧ w' = wM G b y) := by
  refine CI.mk (own := RX6) (by decide) rfl (Nat.le_of_ble_eq_true rfl) ?_
  intro X E ret
  show J X G 4 0 0 (wM G b y) [(0, .ref (b 0)), (1, .ref (G.2.2.2.2.1 i))] 0 []
  obtain ⟨n, s, e, ⟨hn, hn2⟩, hs, he, hse, hen⟩ := hq
  have hL := byS_len i hi
  refine J_aload_n E dX6_isWord_0 rfl 0 rfl ?_
  refine gM0_X6_227 E dX6_isWord_1 ?_
  refine J_if_ne E (tgt := 27) dX6_isWord_4 (by decide) (fun c_4 => ?_) (fun c_4 => ?_)
  · skip
    refine J_iconst E dX6_isWord_27 ic_0 ?_
    refine J_istore_n E (lv' := [(2, .int 0), (0, .ref (b 0)), (1, .ref (G.2.2.2.2.1 i))]) dX6_isWord_28 rfl (by decide) rfl ?_
    refine J_iconst E dX6_isWord_29 ic_0 ?_
    refine J_istore_n E (lv' := [(3, .int 0), (2, .int 0), (0, .ref (b 0)), (1, .ref (G.2.2.2.2.1 i))]) dX6_isWord_30 rfl (by decide) rfl ?_
    have lp31 : ∀ (fu : Nat) (j : Nat) (t : Int32), (j ≤ (byS i).length) → (t = bI ((y 6 1 2 = 0 ∧ e - s = (byS i).length) ∧ ∀ v, v < j → y 7 0 (s + v) = (byS i).getD v 0)) → (byS i).length - j < fu → J X G 4 0 0 (wM G b y) [(0, .ref (b 0)), (1, .ref (G.2.2.2.2.1 i)), (2, .int t), (3, .int (nI j))] 31 [] := by
      intro fu
      induction fu with
      | zero => intro j t hj ht hm; exact absurd hm (Nat.not_lt_zero _)
      | succ fu ih31 =>
        intro j t hj ht hm
        refine J_iload_n E dX6_isWord_31 rfl 2 rfl ?_
        refine J_if_eq E (tgt := 74) dX6_isWord_32 (by decide) (fun c_32 => ?_) (fun c_32 => ?_)
        · skip
          have hT : t = bI (isWM y i = true) := c_32.trans (bI_f (fun z => bI_0 (ht.symm.trans c_32) ⟨⟨((isWM_iff hn2 hs he hse hen).mp z).1, ((isWM_iff hn2 hs he hse hen).mp z).2.1⟩, fun v hv => ((isWM_iff hn2 hs he hse hen).mp z).2.2 v (by omega)⟩)).symm
          refine J_iload_n E dX6_isWord_74 rfl 2 rfl ?_
          exact ret _ _ _ _ ⟨hT, (congrArg (wM G b) (rfl))⟩ (by rw [ht]; exact bI_nar) dX6_isWord_75
        · skip
          have hes : e - s = (byS i).length := (bI_1 (ht ▸ c_32)).1.2
          refine J_iload_n E dX6_isWord_35 rfl 3 rfl ?_
          refine J_aload_n E dX6_isWord_36 rfl 1 rfl ?_
          refine J_callKi E (As := []) (i := i) hi (c_J0_length_8abf5 l G i hi) cl_X6_231 yo_J0_length_8abf5 dX6_isWord_37 rfl (Nat.le_of_ble_eq_true rfl) (Nat.le_of_ble_eq_true rfl) rfl (Nat.le_of_ble_eq_true rfl) ⟨Nat.zero_le _, Nat.zero_le _⟩ ?_
          refine J_icmp_ge E (tgt := 74) dX6_isWord_40 (by decide) (fun c_40 => ?_) (fun c_40 => ?_)
          · skip
            have n_40 : ((byS i).length) ≤ j := cmp_le (a := ((byS i).length)) (b := j) (by omega) (by omega) c_40
            have hT : t = bI (isWM y i = true) := by rw [ht]; exact bI_c ⟨fun z => (isWM_iff hn2 hs he hse hen).mpr ⟨z.1.1, z.1.2, fun v hv => z.2 v (by omega)⟩, fun z => ⟨⟨((isWM_iff hn2 hs he hse hen).mp z).1, ((isWM_iff hn2 hs he hse hen).mp z).2.1⟩, fun v hv => ((isWM_iff hn2 hs he hse hen).mp z).2.2 v (by omega)⟩⟩
            refine J_iload_n E dX6_isWord_74 rfl 2 rfl ?_
            exact ret _ _ _ _ ⟨hT, (congrArg (wM G b) (rfl))⟩ (by rw [ht]; exact bI_nar) dX6_isWord_75
          · skip
            have n_40 : ¬ ((byS i).length) ≤ j := cmp_nle (a := ((byS i).length)) (b := j) (by omega) (by omega) c_40
            refine J_aload_n E dX6_isWord_43 rfl 0 rfl ?_
            refine gM0_X6_28 E dX6_isWord_44 ?_
            refine J_aload_n E dX6_isWord_47 rfl 0 rfl ?_
            refine gM0_X6_220 E dX6_isWord_48 ?_
            refine J_top (x' := nI s) (hs) ?_
            refine J_iload_n E dX6_isWord_51 rfl 3 rfl ?_
            refine J_iadd E dX6_isWord_52 ?_
            refine J_top (x' := nI (s + j)) (nI_add s j) ?_
            refine lM_7 E (j := (s + j)) dX6_isWord_53 (by omega) ?_
            refine J_aload_n E dX6_isWord_54 rfl 1 rfl ?_
            refine J_iload_n E dX6_isWord_55 rfl 3 rfl ?_
            refine J_callKi E (As := [.int (nI j)]) (i := i) hi (c_J0_charAt_5068e l G i j hi (by omega)) cl_X6_236 yo_J0_charAt_5068e dX6_isWord_56 rfl (Nat.le_of_ble_eq_true rfl) (Nat.le_of_ble_eq_true rfl) rfl (Nat.le_of_ble_eq_true rfl) ⟨Nat.zero_le _, Nat.zero_le _⟩ ?_
            refine J_icmp_ne E (tgt := 66) dX6_isWord_59 (by decide) (fun c_59 => ?_) (fun c_59 => ?_)
            · skip
              refine J_iconst E dX6_isWord_66 ic_0 ?_
              refine J_istore_n E (lv' := [(2, .int 0), (0, .ref (b 0)), (1, .ref (G.2.2.2.2.1 i)), (3, .int (nI j))]) dX6_isWord_67 rfl (by decide) rfl ?_
              refine J_iinc E (lv' := [(3, .int (nI (j + 1))), (2, .int 0), (0, .ref (b 0)), (1, .ref (G.2.2.2.2.1 i))]) dX6_isWord_68 3 rfl (nI_inc _) (by decide) rfl ?_
              refine J_goto E (tgt := 31) dX6_isWord_71 (by decide) ?_
              refine J_lv [2, 3, 1, 0] rfl ?_
              exact ih31 (j + 1) 0 (by omega) (by have z := bI_1 (ht ▸ c_32); first | exact (bI_t ⟨z.1, fun v hv => by rcases Nat.lt_succ_iff_lt_or_eq.mp hv with w | rfl; exact z.2 v w; exact c_59⟩).symm | exact (bI_f (fun w => c_59 (w.2 j (by omega)))).symm) (by omega)
            · skip
              refine J_iconst E dX6_isWord_62 ic_1 ?_
              refine J_goto E (tgt := 67) dX6_isWord_63 (by decide) ?_
              refine J_istore_n E (lv' := [(2, .int 1), (0, .ref (b 0)), (1, .ref (G.2.2.2.2.1 i)), (3, .int (nI j))]) dX6_isWord_67 rfl (by decide) rfl ?_
              refine J_iinc E (lv' := [(3, .int (nI (j + 1))), (2, .int 1), (0, .ref (b 0)), (1, .ref (G.2.2.2.2.1 i))]) dX6_isWord_68 3 rfl (nI_inc _) (by decide) rfl ?_
              refine J_goto E (tgt := 31) dX6_isWord_71 (by decide) ?_
              refine J_lv [2, 3, 1, 0] rfl ?_
              exact ih31 (j + 1) 1 (by omega) (by have z := bI_1 (ht ▸ c_32); first | exact (bI_t ⟨z.1, fun v hv => by rcases Nat.lt_succ_iff_lt_or_eq.mp hv with w | rfl; exact z.2 v w; exact c_59⟩).symm | exact (bI_f (fun w => c_59 (w.2 j (by omega)))).symm) (by omega)
    refine J_lv [2, 3, 1, 0] rfl ?_
    exact lp31 _ 0 0 (Nat.zero_le _) (by first | exact (bI_t ⟨⟨c_4, n_20⟩, fun v hv => absurd hv (Nat.not_lt_zero v)⟩).symm | exact (bI_f (fun z => n_20 z.1.2)).symm | exact (bI_f (fun z => c_4 z.1.1)).symm) (Nat.lt_succ_self _)
  · skip
    refine J_aload_n E dX6_isWord_7 rfl 0 rfl ?_
    refine gM0_X6_217 E dX6_isWord_8 ?_
    refine J_top (x' := nI e) (he) ?_
    refine J_aload_n E dX6_isWord_11 rfl 0 rfl ?_
    refine gM0_X6_220 E dX6_isWord_12 ?_
    refine J_top (x' := nI s) (hs) ?_
    refine J_isub E dX6_isWord_15 ?_
    refine J_top (x' := nI (e - s)) (pk_sub hse) ?_
    refine J_aload_n E dX6_isWord_16 rfl 1 rfl ?_
    refine J_callKi E (As := []) (i := i) hi (c_J0_length_8abf5 l G i hi) cl_X6_231 yo_J0_length_8abf5 dX6_isWord_17 rfl (Nat.le_of_ble_eq_true rfl) (Nat.le_of_ble_eq_true rfl) rfl (Nat.le_of_ble_eq_true rfl) ⟨Nat.zero_le _, Nat.zero_le _⟩ ?_
    refine J_icmp_ne E (tgt := 27) dX6_isWord_20 (by decide) (fun c_20 => ?_) (fun c_20 => ?_)
    · skip
      have n_20 : ¬ (e - s) = ((byS i).length) := cmp_ne (a := (e - s)) (b := ((byS i).length)) (by omega) (by omega) c_20
      refine J_iconst E dX6_isWord_27 ic_0 ?_
      refine J_istore_n E (lv' := [(2, .int 0), (0, .ref (b 0)), (1, .ref (G.2.2.2.2.1 i))]) dX6_isWord_28 rfl (by decide) rfl ?_
      refine J_iconst E dX6_isWord_29 ic_0 ?_
      refine J_istore_n E (lv' := [(3, .int 0), (2, .int 0), (0, .ref (b 0)), (1, .ref (G.2.2.2.2.1 i))]) dX6_isWord_30 rfl (by decide) rfl ?_
      have lp31 : ∀ (fu : Nat) (j : Nat) (t : Int32), (j ≤ (byS i).length) → (t = bI ((y 6 1 2 = 0 ∧ e - s = (byS i).length) ∧ ∀ v, v < j → y 7 0 (s + v) = (byS i).getD v 0)) → (byS i).length - j < fu → J X G 4 0 0 (wM G b y) [(0, .ref (b 0)), (1, .ref (G.2.2.2.2.1 i)), (2, .int t), (3, .int (nI j))] 31 [] := by
        intro fu
        induction fu with
        | zero => intro j t hj ht hm; exact absurd hm (Nat.not_lt_zero _)
        | succ fu ih31 =>
          intro j t hj ht hm
          refine J_iload_n E dX6_isWord_31 rfl 2 rfl ?_
          refine J_if_eq E (tgt := 74) dX6_isWord_32 (by decide) (fun c_32 => ?_) (fun c_32 => ?_)
          · skip
            have hT : t = bI (isWM y i = true) := c_32.trans (bI_f (fun z => bI_0 (ht.symm.trans c_32) ⟨⟨((isWM_iff hn2 hs he hse hen).mp z).1, ((isWM_iff hn2 hs he hse hen).mp z).2.1⟩, fun v hv => ((isWM_iff hn2 hs he hse hen).mp z).2.2 v (by omega)⟩)).symm
            refine J_iload_n E dX6_isWord_74 rfl 2 rfl ?_
            exact ret _ _ _ _ ⟨hT, (congrArg (wM G b) (rfl))⟩ (by rw [ht]; exact bI_nar) dX6_isWord_75
          · skip
            have hes : e - s = (byS i).length := (bI_1 (ht ▸ c_32)).1.2
            refine J_iload_n E dX6_isWord_35 rfl 3 rfl ?_
            refine J_aload_n E dX6_isWord_36 rfl 1 rfl ?_
            refine J_callKi E (As := []) (i := i) hi (c_J0_length_8abf5 l G i hi) cl_X6_231 yo_J0_length_8abf5 dX6_isWord_37 rfl (Nat.le_of_ble_eq_true rfl) (Nat.le_of_ble_eq_true rfl) rfl (Nat.le_of_ble_eq_true rfl) ⟨Nat.zero_le _, Nat.zero_le _⟩ ?_
            refine J_icmp_ge E (tgt := 74) dX6_isWord_40 (by decide) (fun c_40 => ?_) (fun c_40 => ?_)
            · skip
              have n_40 : ((byS i).length) ≤ j := cmp_le (a := ((byS i).length)) (b := j) (by omega) (by omega) c_40
              have hT : t = bI (isWM y i = true) := by rw [ht]; exact bI_c ⟨fun z => (isWM_iff hn2 hs he hse hen).mpr ⟨z.1.1, z.1.2, fun v hv => z.2 v (by omega)⟩, fun z => ⟨⟨((isWM_iff hn2 hs he hse hen).mp z).1, ((isWM_iff hn2 hs he hse hen).mp z).2.1⟩, fun v hv => ((isWM_iff hn2 hs he hse hen).mp z).2.2 v (by omega)⟩⟩
              refine J_iload_n E dX6_isWord_74 rfl 2 rfl ?_
              exact ret _ _ _ _ ⟨hT, (congrArg (wM G b) (rfl))⟩ (by rw [ht]; exact bI_nar) dX6_isWord_75
            · skip
              have n_40 : ¬ ((byS i).length) ≤ j := cmp_nle (a := ((byS i).length)) (b := j) (by omega) (by omega) c_40
              refine J_aload_n E dX6_isWord_43 rfl 0 rfl ?_
              refine gM0_X6_28 E dX6_isWord_44 ?_
              refine J_aload_n E dX6_isWord_47 rfl 0 rfl ?_
              refine gM0_X6_220 E dX6_isWord_48 ?_
              refine J_top (x' := nI s) (hs) ?_
              refine J_iload_n E dX6_isWord_51 rfl 3 rfl ?_
              refine J_iadd E dX6_isWord_52 ?_
              refine J_top (x' := nI (s + j)) (nI_add s j) ?_
              refine lM_7 E (j := (s + j)) dX6_isWord_53 (by omega) ?_
              refine J_aload_n E dX6_isWord_54 rfl 1 rfl ?_
              refine J_iload_n E dX6_isWord_55 rfl 3 rfl ?_
              refine J_callKi E (As := [.int (nI j)]) (i := i) hi (c_J0_charAt_5068e l G i j hi (by omega)) cl_X6_236 yo_J0_charAt_5068e dX6_isWord_56 rfl (Nat.le_of_ble_eq_true rfl) (Nat.le_of_ble_eq_true rfl) rfl (Nat.le_of_ble_eq_true rfl) ⟨Nat.zero_le _, Nat.zero_le _⟩ ?_
              refine J_icmp_ne E (tgt := 66) dX6_isWord_59 (by decide) (fun c_59 => ?_) (fun c_59 => ?_)
              · skip
                refine J_iconst E dX6_isWord_66 ic_0 ?_
                refine J_istore_n E (lv' := [(2, .int 0), (0, .ref (b 0)), (1, .ref (G.2.2.2.2.1 i)), (3, .int (nI j))]) dX6_isWord_67 rfl (by decide) rfl ?_
                refine J_iinc E (lv' := [(3, .int (nI (j + 1))), (2, .int 0), (0, .ref (b 0)), (1, .ref (G.2.2.2.2.1 i))]) dX6_isWord_68 3 rfl (nI_inc _) (by decide) rfl ?_
                refine J_goto E (tgt := 31) dX6_isWord_71 (by decide) ?_
                refine J_lv [2, 3, 1, 0] rfl ?_
                exact ih31 (j + 1) 0 (by omega) (by have z := bI_1 (ht ▸ c_32); first | exact (bI_t ⟨z.1, fun v hv => by rcases Nat.lt_succ_iff_lt_or_eq.mp hv with w | rfl; exact z.2 v w; exact c_59⟩).symm | exact (bI_f (fun w => c_59 (w.2 j (by omega)))).symm) (by omega)
              · skip
                refine J_iconst E dX6_isWord_62 ic_1 ?_
                refine J_goto E (tgt := 67) dX6_isWord_63 (by decide) ?_
                refine J_istore_n E (lv' := [(2, .int 1), (0, .ref (b 0)), (1, .ref (G.2.2.2.2.1 i)), (3, .int (nI j))]) dX6_isWord_67 rfl (by decide) rfl ?_
                refine J_iinc E (lv' := [(3, .int (nI (j + 1))), (2, .int 1), (0, .ref (b 0)), (1, .ref (G.2.2.2.2.1 i))]) dX6_isWord_68 3 rfl (nI_inc _) (by decide) rfl ?_
                refine J_goto E (tgt := 31) dX6_isWord_71 (by decide) ?_
                refine J_lv [2, 3, 1, 0] rfl ?_
                exact ih31 (j + 1) 1 (by omega) (by have z := bI_1 (ht ▸ c_32); first | exact (bI_t ⟨z.1, fun v hv => by rcases Nat.lt_succ_iff_lt_or_eq.mp hv with w | rfl; exact z.2 v w; exact c_59⟩).symm | exact (bI_f (fun w => c_59 (w.2 j (by omega)))).symm) (by omega)
      refine J_lv [2, 3, 1, 0] rfl ?_
      exact lp31 _ 0 0 (Nat.zero_le _) (by first | exact (bI_t ⟨⟨c_4, n_20⟩, fun v hv => absurd hv (Nat.not_lt_zero v)⟩).symm | exact (bI_f (fun z => n_20 z.1.2)).symm | exact (bI_f (fun z => c_4 z.1.1)).symm) (Nat.lt_succ_self _)
    · skip
      have n_20 : (e - s) = ((byS i).length) := cmp_eq (a := (e - s)) (b := ((byS i).length)) (by omega) (by omega) c_20
      refine J_iconst E dX6_isWord_23 ic_1 ?_
      refine J_goto E (tgt := 28) dX6_isWord_24 (by decide) ?_
      refine J_istore_n E (lv' := [(2, .int 1), (0, .ref (b 0)), (1, .ref (G.2.2.2.2.1 i))]) dX6_isWord_28 rfl (by decide) rfl ?_
      refine J_iconst E dX6_isWord_29 ic_0 ?_
      refine J_istore_n E (lv' := [(3, .int 0), (2, .int 1), (0, .ref (b 0)), (1, .ref (G.2.2.2.2.1 i))]) dX6_isWord_30 rfl (by decide) rfl ?_
      have lp31 : ∀ (fu : Nat) (j : Nat) (t : Int32), (j ≤ (byS i).length) → (t = bI ((y 6 1 2 = 0 ∧ e - s = (byS i).length) ∧ ∀ v, v < j → y 7 0 (s + v) = (byS i).getD v 0)) → (byS i).length - j < fu → J X G 4 0 0 (wM G b y) [(0, .ref (b 0)), (1, .ref (G.2.2.2.2.1 i)), (2, .int t), (3, .int (nI j))] 31 [] := by
        intro fu
        induction fu with
        | zero => intro j t hj ht hm; exact absurd hm (Nat.not_lt_zero _)
        | succ fu ih31 =>
          intro j t hj ht hm
          refine J_iload_n E dX6_isWord_31 rfl 2 rfl ?_
          refine J_if_eq E (tgt := 74) dX6_isWord_32 (by decide) (fun c_32 => ?_) (fun c_32 => ?_)
          · skip
            have hT : t = bI (isWM y i = true) := c_32.trans (bI_f (fun z => bI_0 (ht.symm.trans c_32) ⟨⟨((isWM_iff hn2 hs he hse hen).mp z).1, ((isWM_iff hn2 hs he hse hen).mp z).2.1⟩, fun v hv => ((isWM_iff hn2 hs he hse hen).mp z).2.2 v (by omega)⟩)).symm
            refine J_iload_n E dX6_isWord_74 rfl 2 rfl ?_
            exact ret _ _ _ _ ⟨hT, (congrArg (wM G b) (rfl))⟩ (by rw [ht]; exact bI_nar) dX6_isWord_75
          · skip
            have hes : e - s = (byS i).length := (bI_1 (ht ▸ c_32)).1.2
            refine J_iload_n E dX6_isWord_35 rfl 3 rfl ?_
            refine J_aload_n E dX6_isWord_36 rfl 1 rfl ?_
            refine J_callKi E (As := []) (i := i) hi (c_J0_length_8abf5 l G i hi) cl_X6_231 yo_J0_length_8abf5 dX6_isWord_37 rfl (Nat.le_of_ble_eq_true rfl) (Nat.le_of_ble_eq_true rfl) rfl (Nat.le_of_ble_eq_true rfl) ⟨Nat.zero_le _, Nat.zero_le _⟩ ?_
            refine J_icmp_ge E (tgt := 74) dX6_isWord_40 (by decide) (fun c_40 => ?_) (fun c_40 => ?_)
            · skip
              have n_40 : ((byS i).length) ≤ j := cmp_le (a := ((byS i).length)) (b := j) (by omega) (by omega) c_40
              have hT : t = bI (isWM y i = true) := by rw [ht]; exact bI_c ⟨fun z => (isWM_iff hn2 hs he hse hen).mpr ⟨z.1.1, z.1.2, fun v hv => z.2 v (by omega)⟩, fun z => ⟨⟨((isWM_iff hn2 hs he hse hen).mp z).1, ((isWM_iff hn2 hs he hse hen).mp z).2.1⟩, fun v hv => ((isWM_iff hn2 hs he hse hen).mp z).2.2 v (by omega)⟩⟩
              refine J_iload_n E dX6_isWord_74 rfl 2 rfl ?_
              exact ret _ _ _ _ ⟨hT, (congrArg (wM G b) (rfl))⟩ (by rw [ht]; exact bI_nar) dX6_isWord_75
            · skip
              have n_40 : ¬ ((byS i).length) ≤ j := cmp_nle (a := ((byS i).length)) (b := j) (by omega) (by omega) c_40
              refine J_aload_n E dX6_isWord_43 rfl 0 rfl ?_
              refine gM0_X6_28 E dX6_isWord_44 ?_
              refine J_aload_n E dX6_isWord_47 rfl 0 rfl ?_
              refine gM0_X6_220 E dX6_isWord_48 ?_
              refine J_top (x' := nI s) (hs) ?_
              refine J_iload_n E dX6_isWord_51 rfl 3 rfl ?_
              refine J_iadd E dX6_isWord_52 ?_
              refine J_top (x' := nI (s + j)) (nI_add s j) ?_
              refine lM_7 E (j := (s + j)) dX6_isWord_53 (by omega) ?_
              refine J_aload_n E dX6_isWord_54 rfl 1 rfl ?_
              refine J_iload_n E dX6_isWord_55 rfl 3 rfl ?_
              refine J_callKi E (As := [.int (nI j)]) (i := i) hi (c_J0_charAt_5068e l G i j hi (by omega)) cl_X6_236 yo_J0_charAt_5068e dX6_isWord_56 rfl (Nat.le_of_ble_eq_true rfl) (Nat.le_of_ble_eq_true rfl) rfl (Nat.le_of_ble_eq_true rfl) ⟨Nat.zero_le _, Nat.zero_le _⟩ ?_
              refine J_icmp_ne E (tgt := 66) dX6_isWord_59 (by decide) (fun c_59 => ?_) (fun c_59 => ?_)
              · skip
                refine J_iconst E dX6_isWord_66 ic_0 ?_
                refine J_istore_n E (lv' := [(2, .int 0), (0, .ref (b 0)), (1, .ref (G.2.2.2.2.1 i)), (3, .int (nI j))]) dX6_isWord_67 rfl (by decide) rfl ?_
                refine J_iinc E (lv' := [(3, .int (nI (j + 1))), (2, .int 0), (0, .ref (b 0)), (1, .ref (G.2.2.2.2.1 i))]) dX6_isWord_68 3 rfl (nI_inc _) (by decide) rfl ?_
                refine J_goto E (tgt := 31) dX6_isWord_71 (by decide) ?_
                refine J_lv [2, 3, 1, 0] rfl ?_
                exact ih31 (j + 1) 0 (by omega) (by have z := bI_1 (ht ▸ c_32); first | exact (bI_t ⟨z.1, fun v hv => by rcases Nat.lt_succ_iff_lt_or_eq.mp hv with w | rfl; exact z.2 v w; exact c_59⟩).symm | exact (bI_f (fun w => c_59 (w.2 j (by omega)))).symm) (by omega)
              · skip
                refine J_iconst E dX6_isWord_62 ic_1 ?_
                refine J_goto E (tgt := 67) dX6_isWord_63 (by decide) ?_
                refine J_istore_n E (lv' := [(2, .int 1), (0, .ref (b 0)), (1, .ref (G.2.2.2.2.1 i)), (3, .int (nI j))]) dX6_isWord_67 rfl (by decide) rfl ?_
                refine J_iinc E (lv' := [(3, .int (nI (j + 1))), (2, .int 1), (0, .ref (b 0)), (1, .ref (G.2.2.2.2.1 i))]) dX6_isWord_68 3 rfl (nI_inc _) (by decide) rfl ?_
                refine J_goto E (tgt := 31) dX6_isWord_71 (by decide) ?_
                refine J_lv [2, 3, 1, 0] rfl ?_
                exact ih31 (j + 1) 1 (by omega) (by have z := bI_1 (ht ▸ c_32); first | exact (bI_t ⟨z.1, fun v hv => by rcases Nat.lt_succ_iff_lt_or_eq.mp hv with w | rfl; exact z.2 v w; exact c_59⟩).symm | exact (bI_f (fun w => c_59 (w.2 j (by omega)))).symm) (by omega)
      refine J_lv [2, 3, 1, 0] rfl ?_
      exact lp31 _ 0 1 (Nat.zero_le _) (by first | exact (bI_t ⟨⟨c_4, n_20⟩, fun v hv => absurd hv (Nat.not_lt_zero v)⟩).symm | exact (bI_f (fun z => n_20 z.1.2)).symm | exact (bI_f (fun z => c_4 z.1.1)).symm) (Nat.lt_succ_self _)

set_option maxHeartbeats 4000000 in
set_option maxRecDepth 20000 in
theorem c_X6_must (l : Launch) (G : GB) (b : Nat → Nat) (y : Q3) (c : Bool) (hq : okN y) : CV l yX6_must cX6_must 2 3 70 0 0 G [.ref (b 0), .int (bI (c = true))] (wM G b y) (fun w' => w' = wM G b (mustX y c)) := by
  refine CV.mk (own := RX6) (by decide) rfl (Nat.le_of_ble_eq_true rfl) ?_
  intro X E _ _ _ ret
  show J X G 2 0 0 (wM G b y) [(0, .ref (b 0)), (1, .int (bI (c = true)))] 0 []
  refine J_aload_n E dX6_must_0 rfl 0 rfl ?_
  refine J_aload_n E dX6_must_1 rfl 0 rfl ?_
  refine gM0_X6_227 E dX6_must_2 ?_
  refine J_if_ne E (tgt := 12) dX6_must_5 (by decide) (fun c_5 => ?_) (fun c_5 => ?_)
  · skip
    have hM : mustX y c = up3 y 6 1 2 1 := if_neg (fun z => c_5 z.1)
    refine J_iconst E dX6_must_12 ic_1 ?_
    refine J_goto E (tgt := 17) dX6_must_13 (by decide) ?_
    refine pM0_X6_227 E rfl rfl dX6_must_17 ?_
    refine J_aload_n E dX6_must_20 rfl 0 rfl ?_
    refine gM0_X6_227 E dX6_must_21 ?_
    refine J_top (x' := 1) up3_s ?_
    refine J_if_ne E (tgt := 31) dX6_must_24 (by decide) (fun c_24 => ?_) (fun c_24 => ?_)
    · skip
      have n_24 : ¬ 1 = 0 := cmp_ne (a := 1) (b := 0) (by omega) (by omega) c_24
      exact ret _ _ _ (congrArg (wM G b) (hM.symm)) dX6_must_31
    · skip
      have n_24 : 1 = 0 := cmp_eq (a := 1) (b := 0) (by omega) (by omega) c_24
      exact absurd n_24 (by decide)
  · skip
    refine J_iload_n E dX6_must_8 rfl 1 rfl ?_
    refine J_if_ne E (tgt := 16) dX6_must_9 (by decide) (fun c_9 => ?_) (fun c_9 => ?_)
    · skip
      have c_9 := bI_1 c_9
      have hM : mustX y c = nextMX y := if_pos ⟨c_5, c_9⟩
      refine J_iconst E dX6_must_16 ic_0 ?_
      refine pM0_X6_227 E rfl rfl dX6_must_17 ?_
      refine J_aload_n E dX6_must_20 rfl 0 rfl ?_
      refine gM0_X6_227 E dX6_must_21 ?_
      refine J_top (x' := 0) up3_s ?_
      refine J_if_ne E (tgt := 31) dX6_must_24 (by decide) (fun c_24 => ?_) (fun c_24 => ?_)
      · skip
        have n_24 : ¬ 0 = 0 := cmp_ne (a := 0) (b := 0) (by omega) (by omega) c_24
        exact absurd n_24 (by decide)
      · skip
        have n_24 : 0 = 0 := cmp_eq (a := 0) (b := 0) (by omega) (by omega) c_24
        refine J_w (ws' := wM G b y) (congrArg (wM G b) ((by have h9 := up3_id (y := y) (g := 6) (r := 1) (j := 2); rwa [c_5] at h9))) ?_
        refine J_aload_n E dX6_must_27 rfl 0 rfl ?_
        refine J_cVv0 E (As := []) (c_X6_next l G b y hq) cl_X6_240 yo_X6_next dX6_must_28 rfl rfl rfl (Nat.le_of_ble_eq_true rfl) (Nat.le_of_ble_eq_true rfl) rfl (Nat.le_of_ble_eq_true rfl) ⟨Nat.zero_le _, Nat.zero_le _⟩ ?_
        exact ret _ _ _ (congrArg (wM G b) (hM.symm)) dX6_must_31
    · skip
      have c_9 := bI_0 c_9
      have hM : mustX y c = up3 y 6 1 2 1 := if_neg (fun z => c_9 z.2)
      refine J_iconst E dX6_must_12 ic_1 ?_
      refine J_goto E (tgt := 17) dX6_must_13 (by decide) ?_
      refine pM0_X6_227 E rfl rfl dX6_must_17 ?_
      refine J_aload_n E dX6_must_20 rfl 0 rfl ?_
      refine gM0_X6_227 E dX6_must_21 ?_
      refine J_top (x' := 1) up3_s ?_
      refine J_if_ne E (tgt := 31) dX6_must_24 (by decide) (fun c_24 => ?_) (fun c_24 => ?_)
      · skip
        have n_24 : ¬ 1 = 0 := cmp_ne (a := 1) (b := 0) (by omega) (by omega) c_24
        exact ret _ _ _ (congrArg (wM G b) (hM.symm)) dX6_must_31
      · skip
        have n_24 : 1 = 0 := cmp_eq (a := 1) (b := 0) (by omega) (by omega) c_24
        exact absurd n_24 (by decide)

set_option maxHeartbeats 4000000 in
set_option maxRecDepth 20000 in
theorem c_X6_takes (l : Launch) (G : GB) (b : Nat → Nat) (y : Q3) (i : Nat) (hi : i < 27) (hq : okT y) : CI l yX6_takes cX6_takes 3 .boolean 5 108 G [.ref (b 0), .ref (G.2.2.2.2.1 i)] (wM G b y) (fun vR w' => vR = bI (isWM y i = true) ∧ w' = wM G b (takesX y i)) := by
  refine CI.mk (own := RX6) (by decide) rfl (Nat.le_of_ble_eq_true rfl) ?_
  intro X E ret
  show J X G 3 0 0 (wM G b y) [(0, .ref (b 0)), (1, .ref (G.2.2.2.2.1 i))] 0 []
  refine J_aload_n E dX6_takes_0 rfl 0 rfl ?_
  refine J_aload_n E dX6_takes_1 rfl 1 rfl ?_
  refine J_cVi0 E (As := [.ref (G.2.2.2.2.1 i)]) (c_X6_isWord l G b y i hi hq) cl_X6_243 yo_X6_isWord dX6_takes_2 rfl rfl rfl (Nat.le_of_ble_eq_true rfl) (Nat.le_of_ble_eq_true rfl) rfl (Nat.le_of_ble_eq_true rfl) ⟨Nat.zero_le _, Nat.zero_le _⟩ ?_
  refine J_istore_n E (lv' := [(2, .int (bI (isWM y i = true))), (0, .ref (b 0)), (1, .ref (G.2.2.2.2.1 i))]) dX6_takes_5 rfl (by decide) rfl ?_
  refine J_iload_n E dX6_takes_6 rfl 0 rfl ?_
  refine J_if_eq E (tgt := 14) dX6_takes_7 (by decide) (fun c_7 => ?_) (fun c_7 => ?_)
  · skip
    have c_7 := bI_0 c_7
    refine J_iload_n E dX6_takes_14 rfl 0 rfl ?_
    exact ret _ _ _ _ ⟨rfl, (congrArg (wM G b) (by unfold takesX; first | rw [if_pos c_7] | rw [if_neg c_7]))⟩ bI_nar dX6_takes_15
  · skip
    have c_7 := bI_1 c_7
    refine J_aload_n E dX6_takes_10 rfl 1 rfl ?_
    refine J_cVv0 E (As := []) (c_X6_next l G b y hq.n) cl_X6_240 yo_X6_next dX6_takes_11 rfl rfl rfl (Nat.le_of_ble_eq_true rfl) (Nat.le_of_ble_eq_true rfl) rfl (Nat.le_of_ble_eq_true rfl) ⟨Nat.zero_le _, Nat.zero_le _⟩ ?_
    refine J_iload_n E dX6_takes_14 rfl 0 rfl ?_
    exact ret _ _ _ _ ⟨rfl, (congrArg (wM G b) (by unfold takesX; first | rw [if_pos c_7] | rw [if_neg c_7]))⟩ bI_nar dX6_takes_15

set_option maxHeartbeats 4000000 in
set_option maxRecDepth 20000 in
theorem c_X6_numberRead (l : Launch) (G : GB) (b : Nat → Nat) (y : Q3) (m : Int32) (hq : okT y) : CI l yX6_numberRead cX6_numberRead 5 .int 4 91 G [.ref (b 0), .int 0, .int m] (wM G b y) (fun vR w' => vR = numV y ∧ w' = wM G b (nrX y m)) := by
  refine CI.mk (own := RX6) (by decide) rfl (Nat.le_of_ble_eq_true rfl) ?_
  intro X E ret
  show J X G 5 0 0 (wM G b y) [(0, .ref (b 0)), (1, .int 0), (2, .int m)] 0 []
  obtain ⟨n, s, e, ⟨hn, hn2⟩, hs, he, hse, hen⟩ := id hq
  have hV : numV y = numLp (y 7 0) (e - s) s (if bet (y 7 0) n 48 57 s then 0 else -1) := by rw [numV, hn, hs, he, nI_clamp (by omega), nI_clamp (by omega), nI_clamp (by omega)]
  refine J_aload_n E dX6_numberRead_0 rfl 0 rfl ?_
  refine J_aload_n E dX6_numberRead_1 rfl 0 rfl ?_
  refine gM0_X6_220 E dX6_numberRead_2 ?_
  refine J_top (x' := nI s) (hs) ?_
  refine J_bipush E dX6_numberRead_5 bp_48 ?_
  refine J_bipush E dX6_numberRead_7 bp_57 ?_
  refine J_cVi0 E (As := [.int (nI s), .int 48, .int 57]) (c_X6_isByte l G b y s 48 57 n hn hn2 (by omega)) cl_X6_223 yo_X6_isByte dX6_numberRead_9 rfl rfl rfl (Nat.le_of_ble_eq_true rfl) (Nat.le_of_ble_eq_true rfl) rfl (Nat.le_of_ble_eq_true rfl) ⟨Nat.zero_le _, Nat.zero_le _⟩ ?_
  refine J_if_eq E (tgt := 19) dX6_numberRead_12 (by decide) (fun c_12 => ?_) (fun c_12 => ?_)
  · skip
    have c_12 := bI_0 c_12
    refine J_iconst E dX6_numberRead_19 ic_m1 ?_
    refine J_istore_n E (lv' := [(3, .int (-1)), (0, .ref (b 0)), (1, .int 0), (2, .int m)]) dX6_numberRead_20 rfl (by decide) rfl ?_
    refine J_aload_n E dX6_numberRead_21 rfl 1 rfl ?_
    refine gM0_X6_220 E dX6_numberRead_22 ?_
    refine J_top (x' := nI s) (hs) ?_
    refine J_istore E (lv' := [(4, .int (nI s)), (3, .int (-1)), (0, .ref (b 0)), (1, .int 0), (2, .int m)]) dX6_numberRead_25 (by decide) rfl ?_
    have lp27 : ∀ (fu : Nat) (k : Nat) (v : Int32), (s ≤ k) → (k ≤ e) → (numV y = numLp (y 7 0) (e - k) k v) → e - k < fu → J X G 5 0 0 (wM G b y) [(0, .ref (b 0)), (1, .int 0), (2, .int m), (3, .int v), (4, .int (nI k))] 27 [] := by
      intro fu
      induction fu with
      | zero => intro k v hk1 hk2 h1 hm; exact absurd hm (Nat.not_lt_zero _)
      | succ fu ih27 =>
        intro k v hk1 hk2 h1 hm
        refine J_iload E dX6_numberRead_27 4 rfl ?_
        refine J_aload_n E dX6_numberRead_29 rfl 0 rfl ?_
        refine gM0_X6_217 E dX6_numberRead_30 ?_
        refine J_top (x' := nI e) (he) ?_
        refine J_icmp_ge E (tgt := 73) dX6_numberRead_33 (by decide) (fun c_33 => ?_) (fun c_33 => ?_)
        · skip
          have n_33 : e ≤ k := cmp_le (a := e) (b := k) (by omega) (by omega) c_33
          have h2 : numV y = v := by rw [h1, show e - k = 0 by omega]; rfl
          refine J_aload_n E dX6_numberRead_73 rfl 0 rfl ?_
          refine J_iload_n E dX6_numberRead_74 rfl 3 rfl ?_
          refine J_i2l E dX6_numberRead_75 rfl ?_
          refine J_iload_n E dX6_numberRead_76 rfl 1 rfl ?_
          refine J_i2l E dX6_numberRead_77 rfl ?_
          refine J_iload_n E dX6_numberRead_78 rfl 2 rfl ?_
          refine J_i2l E dX6_numberRead_79 rfl ?_
          refine J_cSiN E (As := [.long (Int32.toInt64 v), .long (Int32.toInt64 0), .long (Int32.toInt64 m)]) (c_X6_in l G v 0 m (Int32.toInt64 0) (Int32.toInt64 m) rfl rfl ) cl_X6_54 yo_X6_in dX6_numberRead_80 rfl (Nat.le_of_ble_eq_true rfl) (Nat.le_of_ble_eq_true rfl) rfl (Nat.le_of_ble_eq_true rfl) ⟨Nat.zero_le _, Nat.zero_le _⟩ ?_
          refine J_top (x' := bI (inM v m = true)) (bI_c (decide_eq_true_iff (p := 0 ≤ v ∧ v ≤ m)).symm) ?_
          refine J_cVv0 E (As := [.int (bI (inM v m = true))]) (c_X6_must l G b y (inM v m) hq.n) cl_X6_247 yo_X6_must dX6_numberRead_83 rfl rfl rfl (Nat.le_of_ble_eq_true rfl) (Nat.le_of_ble_eq_true rfl) rfl (Nat.le_of_ble_eq_true rfl) ⟨Nat.zero_le _, Nat.zero_le _⟩ ?_
          refine J_iload_n E dX6_numberRead_86 rfl 3 rfl ?_
          exact ret _ _ _ _ ⟨h2.symm, (congrArg (wM G b) (by rw [nrX, h2]))⟩ rfl dX6_numberRead_87
        · skip
          have n_33 : ¬ e ≤ k := cmp_nle (a := e) (b := k) (by omega) (by omega) c_33
          refine J_iload_n E dX6_numberRead_36 rfl 3 rfl ?_
          refine J_if_lt E (tgt := 73) dX6_numberRead_37 (by decide) (fun c_37 => ?_) (fun c_37 => ?_)
          · skip
            have h2 : numV y = v := by rw [h1, show e - k = (e - (k + 1)) + 1 by omega, numLp, if_pos c_37]
            refine J_aload_n E dX6_numberRead_73 rfl 0 rfl ?_
            refine J_iload_n E dX6_numberRead_74 rfl 3 rfl ?_
            refine J_i2l E dX6_numberRead_75 rfl ?_
            refine J_iload_n E dX6_numberRead_76 rfl 1 rfl ?_
            refine J_i2l E dX6_numberRead_77 rfl ?_
            refine J_iload_n E dX6_numberRead_78 rfl 2 rfl ?_
            refine J_i2l E dX6_numberRead_79 rfl ?_
            refine J_cSiN E (As := [.long (Int32.toInt64 v), .long (Int32.toInt64 0), .long (Int32.toInt64 m)]) (c_X6_in l G v 0 m (Int32.toInt64 0) (Int32.toInt64 m) rfl rfl ) cl_X6_54 yo_X6_in dX6_numberRead_80 rfl (Nat.le_of_ble_eq_true rfl) (Nat.le_of_ble_eq_true rfl) rfl (Nat.le_of_ble_eq_true rfl) ⟨Nat.zero_le _, Nat.zero_le _⟩ ?_
            refine J_top (x' := bI (inM v m = true)) (bI_c (decide_eq_true_iff (p := 0 ≤ v ∧ v ≤ m)).symm) ?_
            refine J_cVv0 E (As := [.int (bI (inM v m = true))]) (c_X6_must l G b y (inM v m) hq.n) cl_X6_247 yo_X6_must dX6_numberRead_83 rfl rfl rfl (Nat.le_of_ble_eq_true rfl) (Nat.le_of_ble_eq_true rfl) rfl (Nat.le_of_ble_eq_true rfl) ⟨Nat.zero_le _, Nat.zero_le _⟩ ?_
            refine J_iload_n E dX6_numberRead_86 rfl 3 rfl ?_
            exact ret _ _ _ _ ⟨h2.symm, (congrArg (wM G b) (by rw [nrX, h2]))⟩ rfl dX6_numberRead_87
          · skip
            refine J_iload_n E dX6_numberRead_40 rfl 3 rfl ?_
            refine J_sipush E dX6_numberRead_41 sp_9999 ?_
            refine J_icmp_le E (tgt := 51) dX6_numberRead_44 (by decide) (fun c_44 => ?_) (fun c_44 => ?_)
            · skip
              refine J_bipush E dX6_numberRead_51 bp_10 ?_
              refine J_iload_n E dX6_numberRead_53 rfl 3 rfl ?_
              refine J_imul E dX6_numberRead_54 ?_
              refine J_aload_n E dX6_numberRead_55 rfl 0 rfl ?_
              refine gM0_X6_28 E dX6_numberRead_56 ?_
              refine J_iload E dX6_numberRead_59 4 rfl ?_
              refine lM_7 E (j := k) dX6_numberRead_61 (by omega) ?_
              refine J_iadd E dX6_numberRead_62 ?_
              refine J_bipush E dX6_numberRead_63 bp_48 ?_
              refine J_isub E dX6_numberRead_65 ?_
              refine J_istore_n E (lv' := [(3, .int (((10 * v) + (y 7 0 k)) - 48)), (0, .ref (b 0)), (1, .int 0), (2, .int m), (4, .int (nI k))]) dX6_numberRead_66 rfl (by decide) rfl ?_
              refine J_iinc E (lv' := [(4, .int (nI (k + 1))), (3, .int (((10 * v) + (y 7 0 k)) - 48)), (0, .ref (b 0)), (1, .int 0), (2, .int m)]) dX6_numberRead_67 4 rfl (nI_inc _) (by decide) rfl ?_
              refine J_goto E (tgt := 27) dX6_numberRead_70 (by decide) ?_
              refine J_lv [2, 3, 4, 1, 0] rfl ?_
              exact ih27 (k + 1) (((10 * v) + (y 7 0 k)) - 48) (by omega) (by omega) (by rw [h1, show e - k = (e - (k + 1)) + 1 by omega, numLp, if_neg c_37]; first | rw [if_pos (Int32.not_le.mp c_44)] | rw [if_neg (Int32.not_lt.mpr c_44)]) (by omega)
            · skip
              refine J_iload_n E dX6_numberRead_47 rfl 3 rfl ?_
              refine J_goto E (tgt := 66) dX6_numberRead_48 (by decide) ?_
              refine J_istore_n E (lv' := [(3, .int v), (0, .ref (b 0)), (1, .int 0), (2, .int m), (4, .int (nI k))]) dX6_numberRead_66 rfl (by decide) rfl ?_
              refine J_iinc E (lv' := [(4, .int (nI (k + 1))), (3, .int v), (0, .ref (b 0)), (1, .int 0), (2, .int m)]) dX6_numberRead_67 4 rfl (nI_inc _) (by decide) rfl ?_
              refine J_goto E (tgt := 27) dX6_numberRead_70 (by decide) ?_
              refine J_lv [2, 3, 4, 1, 0] rfl ?_
              exact ih27 (k + 1) v (by omega) (by omega) (by rw [h1, show e - k = (e - (k + 1)) + 1 by omega, numLp, if_neg c_37]; first | rw [if_pos (Int32.not_le.mp c_44)] | rw [if_neg (Int32.not_lt.mpr c_44)]) (by omega)
    refine J_lv [2, 3, 4, 1, 0] rfl ?_
    exact lp27 _ s (-1) (Nat.le_refl _) hse (by rw [hV]; first | rw [if_pos c_12] | rw [if_neg c_12]) (Nat.lt_succ_self _)
  · skip
    have c_12 := bI_1 c_12
    refine J_iconst E dX6_numberRead_15 ic_0 ?_
    refine J_goto E (tgt := 20) dX6_numberRead_16 (by decide) ?_
    refine J_istore_n E (lv' := [(3, .int 0), (0, .ref (b 0)), (1, .int 0), (2, .int m)]) dX6_numberRead_20 rfl (by decide) rfl ?_
    refine J_aload_n E dX6_numberRead_21 rfl 1 rfl ?_
    refine gM0_X6_220 E dX6_numberRead_22 ?_
    refine J_top (x' := nI s) (hs) ?_
    refine J_istore E (lv' := [(4, .int (nI s)), (3, .int 0), (0, .ref (b 0)), (1, .int 0), (2, .int m)]) dX6_numberRead_25 (by decide) rfl ?_
    have lp27 : ∀ (fu : Nat) (k : Nat) (v : Int32), (s ≤ k) → (k ≤ e) → (numV y = numLp (y 7 0) (e - k) k v) → e - k < fu → J X G 5 0 0 (wM G b y) [(0, .ref (b 0)), (1, .int 0), (2, .int m), (3, .int v), (4, .int (nI k))] 27 [] := by
      intro fu
      induction fu with
      | zero => intro k v hk1 hk2 h1 hm; exact absurd hm (Nat.not_lt_zero _)
      | succ fu ih27 =>
        intro k v hk1 hk2 h1 hm
        refine J_iload E dX6_numberRead_27 4 rfl ?_
        refine J_aload_n E dX6_numberRead_29 rfl 0 rfl ?_
        refine gM0_X6_217 E dX6_numberRead_30 ?_
        refine J_top (x' := nI e) (he) ?_
        refine J_icmp_ge E (tgt := 73) dX6_numberRead_33 (by decide) (fun c_33 => ?_) (fun c_33 => ?_)
        · skip
          have n_33 : e ≤ k := cmp_le (a := e) (b := k) (by omega) (by omega) c_33
          have h2 : numV y = v := by rw [h1, show e - k = 0 by omega]; rfl
          refine J_aload_n E dX6_numberRead_73 rfl 0 rfl ?_
          refine J_iload_n E dX6_numberRead_74 rfl 3 rfl ?_
          refine J_i2l E dX6_numberRead_75 rfl ?_
          refine J_iload_n E dX6_numberRead_76 rfl 1 rfl ?_
          refine J_i2l E dX6_numberRead_77 rfl ?_
          refine J_iload_n E dX6_numberRead_78 rfl 2 rfl ?_
          refine J_i2l E dX6_numberRead_79 rfl ?_
          refine J_cSiN E (As := [.long (Int32.toInt64 v), .long (Int32.toInt64 0), .long (Int32.toInt64 m)]) (c_X6_in l G v 0 m (Int32.toInt64 0) (Int32.toInt64 m) rfl rfl ) cl_X6_54 yo_X6_in dX6_numberRead_80 rfl (Nat.le_of_ble_eq_true rfl) (Nat.le_of_ble_eq_true rfl) rfl (Nat.le_of_ble_eq_true rfl) ⟨Nat.zero_le _, Nat.zero_le _⟩ ?_
          refine J_top (x' := bI (inM v m = true)) (bI_c (decide_eq_true_iff (p := 0 ≤ v ∧ v ≤ m)).symm) ?_
          refine J_cVv0 E (As := [.int (bI (inM v m = true))]) (c_X6_must l G b y (inM v m) hq.n) cl_X6_247 yo_X6_must dX6_numberRead_83 rfl rfl rfl (Nat.le_of_ble_eq_true rfl) (Nat.le_of_ble_eq_true rfl) rfl (Nat.le_of_ble_eq_true rfl) ⟨Nat.zero_le _, Nat.zero_le _⟩ ?_
          refine J_iload_n E dX6_numberRead_86 rfl 3 rfl ?_
          exact ret _ _ _ _ ⟨h2.symm, (congrArg (wM G b) (by rw [nrX, h2]))⟩ rfl dX6_numberRead_87
        · skip
          have n_33 : ¬ e ≤ k := cmp_nle (a := e) (b := k) (by omega) (by omega) c_33
          refine J_iload_n E dX6_numberRead_36 rfl 3 rfl ?_
          refine J_if_lt E (tgt := 73) dX6_numberRead_37 (by decide) (fun c_37 => ?_) (fun c_37 => ?_)
          · skip
            have h2 : numV y = v := by rw [h1, show e - k = (e - (k + 1)) + 1 by omega, numLp, if_pos c_37]
            refine J_aload_n E dX6_numberRead_73 rfl 0 rfl ?_
            refine J_iload_n E dX6_numberRead_74 rfl 3 rfl ?_
            refine J_i2l E dX6_numberRead_75 rfl ?_
            refine J_iload_n E dX6_numberRead_76 rfl 1 rfl ?_
            refine J_i2l E dX6_numberRead_77 rfl ?_
            refine J_iload_n E dX6_numberRead_78 rfl 2 rfl ?_
            refine J_i2l E dX6_numberRead_79 rfl ?_
            refine J_cSiN E (As := [.long (Int32.toInt64 v), .long (Int32.toInt64 0), .long (Int32.toInt64 m)]) (c_X6_in l G v 0 m (Int32.toInt64 0) (Int32.toInt64 m) rfl rfl ) cl_X6_54 yo_X6_in dX6_numberRead_80 rfl (Nat.le_of_ble_eq_true rfl) (Nat.le_of_ble_eq_true rfl) rfl (Nat.le_of_ble_eq_true rfl) ⟨Nat.zero_le _, Nat.zero_le _⟩ ?_
            refine J_top (x' := bI (inM v m = true)) (bI_c (decide_eq_true_iff (p := 0 ≤ v ∧ v ≤ m)).symm) ?_
            refine J_cVv0 E (As := [.int (bI (inM v m = true))]) (c_X6_must l G b y (inM v m) hq.n) cl_X6_247 yo_X6_must dX6_numberRead_83 rfl rfl rfl (Nat.le_of_ble_eq_true rfl) (Nat.le_of_ble_eq_true rfl) rfl (Nat.le_of_ble_eq_true rfl) ⟨Nat.zero_le _, Nat.zero_le _⟩ ?_
            refine J_iload_n E dX6_numberRead_86 rfl 3 rfl ?_
            exact ret _ _ _ _ ⟨h2.symm, (congrArg (wM G b) (by rw [nrX, h2]))⟩ rfl dX6_numberRead_87
          · skip
            refine J_iload_n E dX6_numberRead_40 rfl 3 rfl ?_
            refine J_sipush E dX6_numberRead_41 sp_9999 ?_
            refine J_icmp_le E (tgt := 51) dX6_numberRead_44 (by decide) (fun c_44 => ?_) (fun c_44 => ?_)
            · skip
              refine J_bipush E dX6_numberRead_51 bp_10 ?_
              refine J_iload_n E dX6_numberRead_53 rfl 3 rfl ?_
              refine J_imul E dX6_numberRead_54 ?_
              refine J_aload_n E dX6_numberRead_55 rfl 0 rfl ?_
              refine gM0_X6_28 E dX6_numberRead_56 ?_
              refine J_iload E dX6_numberRead_59 4 rfl ?_
              refine lM_7 E (j := k) dX6_numberRead_61 (by omega) ?_
              refine J_iadd E dX6_numberRead_62 ?_
              refine J_bipush E dX6_numberRead_63 bp_48 ?_
              refine J_isub E dX6_numberRead_65 ?_
              refine J_istore_n E (lv' := [(3, .int (((10 * v) + (y 7 0 k)) - 48)), (0, .ref (b 0)), (1, .int 0), (2, .int m), (4, .int (nI k))]) dX6_numberRead_66 rfl (by decide) rfl ?_
              refine J_iinc E (lv' := [(4, .int (nI (k + 1))), (3, .int (((10 * v) + (y 7 0 k)) - 48)), (0, .ref (b 0)), (1, .int 0), (2, .int m)]) dX6_numberRead_67 4 rfl (nI_inc _) (by decide) rfl ?_
              refine J_goto E (tgt := 27) dX6_numberRead_70 (by decide) ?_
              refine J_lv [2, 3, 4, 1, 0] rfl ?_
              exact ih27 (k + 1) (((10 * v) + (y 7 0 k)) - 48) (by omega) (by omega) (by rw [h1, show e - k = (e - (k + 1)) + 1 by omega, numLp, if_neg c_37]; first | rw [if_pos (Int32.not_le.mp c_44)] | rw [if_neg (Int32.not_lt.mpr c_44)]) (by omega)
            · skip
              refine J_iload_n E dX6_numberRead_47 rfl 3 rfl ?_
              refine J_goto E (tgt := 66) dX6_numberRead_48 (by decide) ?_
              refine J_istore_n E (lv' := [(3, .int v), (0, .ref (b 0)), (1, .int 0), (2, .int m), (4, .int (nI k))]) dX6_numberRead_66 rfl (by decide) rfl ?_
              refine J_iinc E (lv' := [(4, .int (nI (k + 1))), (3, .int v), (0, .ref (b 0)), (1, .int 0), (2, .int m)]) dX6_numberRead_67 4 rfl (nI_inc _) (by decide) rfl ?_
              refine J_goto E (tgt := 27) dX6_numberRead_70 (by decide) ?_
              refine J_lv [2, 3, 4, 1, 0] rfl ?_
              exact ih27 (k + 1) v (by omega) (by omega) (by rw [h1, show e - k = (e - (k + 1)) + 1 by omega, numLp, if_neg c_37]; first | rw [if_pos (Int32.not_le.mp c_44)] | rw [if_neg (Int32.not_lt.mpr c_44)]) (by omega)
    refine J_lv [2, 3, 4, 1, 0] rfl ?_
    exact lp27 _ s 0 (Nat.le_refl _) hse (by rw [hV]; first | rw [if_pos c_12] | rw [if_neg c_12]) (Nat.lt_succ_self _)

set_option maxHeartbeats 4000000 in
set_option maxRecDepth 20000 in
theorem c_X6_kindHere (l : Launch) (G : GB) (b : Nat → Nat) (y : Q3) (hq : okT y) : CI l yX6_kindHere cX6_kindHere 3 .int 5 108 G [.ref (b 0)] (wM G b y) (fun vR w' => vR = kwM y ∧ w' = wM G b y) := by
  refine CI.mk (own := RX6) (by decide) rfl (Nat.le_of_ble_eq_true rfl) ?_
  intro X E ret
  show J X G 3 0 0 (wM G b y) [(0, .ref (b 0))] 0 []
  refine J_aload_n E dX6_kindHere_0 rfl 0 rfl ?_
  refine J_ldcS E (q := 13) rfl dX6_kindHere_1 ?_
  refine J_cVi0 E (As := [.ref (G.2.2.2.2.1 13)]) (c_X6_isWord l G b y 13 (by decide) hq) cl_X6_243 yo_X6_isWord dX6_kindHere_3 rfl rfl rfl (Nat.le_of_ble_eq_true rfl) (Nat.le_of_ble_eq_true rfl) rfl (Nat.le_of_ble_eq_true rfl) ⟨Nat.zero_le _, Nat.zero_le _⟩ ?_
  refine J_if_eq E (tgt := 13) dX6_kindHere_6 (by decide) (fun c_6 => ?_) (fun c_6 => ?_)
  · skip
    have c_6 := bI_0 c_6
    refine J_aload_n E dX6_kindHere_13 rfl 0 rfl ?_
    refine J_ldcS E (q := 14) rfl dX6_kindHere_14 ?_
    refine J_cVi0 E (As := [.ref (G.2.2.2.2.1 14)]) (c_X6_isWord l G b y 14 (by decide) hq) cl_X6_243 yo_X6_isWord dX6_kindHere_16 rfl rfl rfl (Nat.le_of_ble_eq_true rfl) (Nat.le_of_ble_eq_true rfl) rfl (Nat.le_of_ble_eq_true rfl) ⟨Nat.zero_le _, Nat.zero_le _⟩ ?_
    refine J_if_eq E (tgt := 26) dX6_kindHere_19 (by decide) (fun c_19 => ?_) (fun c_19 => ?_)
    · skip
      have c_19 := bI_0 c_19
      refine J_aload_n E dX6_kindHere_26 rfl 0 rfl ?_
      refine J_ldcS E (q := 15) rfl dX6_kindHere_27 ?_
      refine J_cVi0 E (As := [.ref (G.2.2.2.2.1 15)]) (c_X6_isWord l G b y 15 (by decide) hq) cl_X6_243 yo_X6_isWord dX6_kindHere_29 rfl rfl rfl (Nat.le_of_ble_eq_true rfl) (Nat.le_of_ble_eq_true rfl) rfl (Nat.le_of_ble_eq_true rfl) ⟨Nat.zero_le _, Nat.zero_le _⟩ ?_
      refine J_if_eq E (tgt := 39) dX6_kindHere_32 (by decide) (fun c_32 => ?_) (fun c_32 => ?_)
      · skip
        have c_32 := bI_0 c_32
        refine J_iconst E dX6_kindHere_39 ic_m1 ?_
        refine J_istore_n E (lv' := [(1, .int (-1)), (0, .ref (b 0))]) dX6_kindHere_40 rfl (by decide) rfl ?_
        refine J_aload_n E dX6_kindHere_41 rfl 1 rfl ?_
        refine J_ldcwS E (q := 16) rfl dX6_kindHere_42 ?_
        refine J_cVi0 E (As := [.ref (G.2.2.2.2.1 16)]) (c_X6_isWord l G b y 16 (by decide) hq) cl_X6_243 yo_X6_isWord dX6_kindHere_45 rfl rfl rfl (Nat.le_of_ble_eq_true rfl) (Nat.le_of_ble_eq_true rfl) rfl (Nat.le_of_ble_eq_true rfl) ⟨Nat.zero_le _, Nat.zero_le _⟩ ?_
        refine J_if_eq E (tgt := 55) dX6_kindHere_48 (by decide) (fun c_48 => ?_) (fun c_48 => ?_)
        · skip
          have c_48 := bI_0 c_48
          refine J_aload_n E dX6_kindHere_55 rfl 1 rfl ?_
          refine J_ldcwS E (q := 17) rfl dX6_kindHere_56 ?_
          refine J_cVi0 E (As := [.ref (G.2.2.2.2.1 17)]) (c_X6_isWord l G b y 17 (by decide) hq) cl_X6_243 yo_X6_isWord dX6_kindHere_59 rfl rfl rfl (Nat.le_of_ble_eq_true rfl) (Nat.le_of_ble_eq_true rfl) rfl (Nat.le_of_ble_eq_true rfl) ⟨Nat.zero_le _, Nat.zero_le _⟩ ?_
          refine J_if_eq E (tgt := 69) dX6_kindHere_62 (by decide) (fun c_62 => ?_) (fun c_62 => ?_)
          · skip
            have c_62 := bI_0 c_62
            refine J_aload_n E dX6_kindHere_69 rfl 1 rfl ?_
            refine J_ldcwS E (q := 18) rfl dX6_kindHere_70 ?_
            refine J_cVi0 E (As := [.ref (G.2.2.2.2.1 18)]) (c_X6_isWord l G b y 18 (by decide) hq) cl_X6_243 yo_X6_isWord dX6_kindHere_73 rfl rfl rfl (Nat.le_of_ble_eq_true rfl) (Nat.le_of_ble_eq_true rfl) rfl (Nat.le_of_ble_eq_true rfl) ⟨Nat.zero_le _, Nat.zero_le _⟩ ?_
            refine J_if_eq E (tgt := 83) dX6_kindHere_76 (by decide) (fun c_76 => ?_) (fun c_76 => ?_)
            · skip
              have c_76 := bI_0 c_76
              refine J_iconst E dX6_kindHere_83 ic_m1 ?_
              refine J_istore_n E (lv' := [(2, .int (-1)), (1, .int (-1)), (0, .ref (b 0))]) dX6_kindHere_84 rfl (by decide) rfl ?_
              refine J_iload_n E dX6_kindHere_85 rfl 1 rfl ?_
              refine J_if_lt E (tgt := 93) dX6_kindHere_86 (by decide) (fun c_86 => ?_) (fun c_86 => ?_)
              · skip
                refine J_iload_n E dX6_kindHere_93 rfl 0 rfl ?_
                refine J_if_lt E (tgt := 101) dX6_kindHere_94 (by decide) (fun c_94 => ?_) (fun c_94 => ?_)
                · skip
                  refine J_aload_n E dX6_kindHere_101 rfl 2 rfl ?_
                  refine J_ldcwS E (q := 19) rfl dX6_kindHere_102 ?_
                  refine J_cVi0 E (As := [.ref (G.2.2.2.2.1 19)]) (c_X6_isWord l G b y 19 (by decide) hq) cl_X6_243 yo_X6_isWord dX6_kindHere_105 rfl rfl rfl (Nat.le_of_ble_eq_true rfl) (Nat.le_of_ble_eq_true rfl) rfl (Nat.le_of_ble_eq_true rfl) ⟨Nat.zero_le _, Nat.zero_le _⟩ ?_
                  refine J_if_eq E (tgt := 116) dX6_kindHere_108 (by decide) (fun c_108 => ?_) (fun c_108 => ?_)
                  · skip
                    have c_108 := bI_0 c_108
                    refine J_iconst E dX6_kindHere_116 ic_m1 ?_
                    exact ret _ _ _ _ ⟨by unfold kwM; (repeat (first | rw [if_neg (by assumption)] | rw [if_pos (by assumption)])) <;> rfl, (congrArg (wM G b) (rfl))⟩ rfl dX6_kindHere_117
                  · skip
                    have c_108 := bI_1 c_108
                    refine J_bipush E dX6_kindHere_111 bp_6 ?_
                    refine J_goto E (tgt := 117) dX6_kindHere_113 (by decide) ?_
                    exact ret _ _ _ _ ⟨by unfold kwM; (repeat (first | rw [if_neg (by assumption)] | rw [if_pos (by assumption)])) <;> rfl, (congrArg (wM G b) (rfl))⟩ rfl dX6_kindHere_117
                · skip
                  exact absurd c_94 (by decide)
              · skip
                exact absurd c_86 (by decide)
            · skip
              have c_76 := bI_1 c_76
              refine J_iconst E dX6_kindHere_79 ic_5 ?_
              refine J_goto E (tgt := 84) dX6_kindHere_80 (by decide) ?_
              refine J_istore_n E (lv' := [(2, .int 5), (1, .int (-1)), (0, .ref (b 0))]) dX6_kindHere_84 rfl (by decide) rfl ?_
              refine J_iload_n E dX6_kindHere_85 rfl 1 rfl ?_
              refine J_if_lt E (tgt := 93) dX6_kindHere_86 (by decide) (fun c_86 => ?_) (fun c_86 => ?_)
              · skip
                refine J_iload_n E dX6_kindHere_93 rfl 0 rfl ?_
                refine J_if_lt E (tgt := 101) dX6_kindHere_94 (by decide) (fun c_94 => ?_) (fun c_94 => ?_)
                · skip
                  have n_94 : 5 < 0 := cmp_lt (a := 5) (b := 0) (by omega) (by omega) c_94
                  exact absurd n_94 (by decide)
                · skip
                  have n_94 : ¬ 5 < 0 := cmp_nlt (a := 5) (b := 0) (by omega) (by omega) c_94
                  refine J_iload_n E dX6_kindHere_97 rfl 0 rfl ?_
                  refine J_goto E (tgt := 117) dX6_kindHere_98 (by decide) ?_
                  exact ret _ _ _ _ ⟨by unfold kwM; (repeat (first | rw [if_neg (by assumption)] | rw [if_pos (by assumption)])) <;> rfl, (congrArg (wM G b) (rfl))⟩ rfl dX6_kindHere_117
              · skip
                exact absurd c_86 (by decide)
          · skip
            have c_62 := bI_1 c_62
            refine J_iconst E dX6_kindHere_65 ic_4 ?_
            refine J_goto E (tgt := 84) dX6_kindHere_66 (by decide) ?_
            refine J_istore_n E (lv' := [(2, .int 4), (1, .int (-1)), (0, .ref (b 0))]) dX6_kindHere_84 rfl (by decide) rfl ?_
            refine J_iload_n E dX6_kindHere_85 rfl 1 rfl ?_
            refine J_if_lt E (tgt := 93) dX6_kindHere_86 (by decide) (fun c_86 => ?_) (fun c_86 => ?_)
            · skip
              refine J_iload_n E dX6_kindHere_93 rfl 0 rfl ?_
              refine J_if_lt E (tgt := 101) dX6_kindHere_94 (by decide) (fun c_94 => ?_) (fun c_94 => ?_)
              · skip
                have n_94 : 4 < 0 := cmp_lt (a := 4) (b := 0) (by omega) (by omega) c_94
                exact absurd n_94 (by decide)
              · skip
                have n_94 : ¬ 4 < 0 := cmp_nlt (a := 4) (b := 0) (by omega) (by omega) c_94
                refine J_iload_n E dX6_kindHere_97 rfl 0 rfl ?_
                refine J_goto E (tgt := 117) dX6_kindHere_98 (by decide) ?_
                exact ret _ _ _ _ ⟨by unfold kwM; (repeat (first | rw [if_neg (by assumption)] | rw [if_pos (by assumption)])) <;> rfl, (congrArg (wM G b) (rfl))⟩ rfl dX6_kindHere_117
            · skip
              exact absurd c_86 (by decide)
        · skip
          have c_48 := bI_1 c_48
          refine J_iconst E dX6_kindHere_51 ic_3 ?_
          refine J_goto E (tgt := 84) dX6_kindHere_52 (by decide) ?_
          refine J_istore_n E (lv' := [(2, .int 3), (1, .int (-1)), (0, .ref (b 0))]) dX6_kindHere_84 rfl (by decide) rfl ?_
          refine J_iload_n E dX6_kindHere_85 rfl 1 rfl ?_
          refine J_if_lt E (tgt := 93) dX6_kindHere_86 (by decide) (fun c_86 => ?_) (fun c_86 => ?_)
          · skip
            refine J_iload_n E dX6_kindHere_93 rfl 0 rfl ?_
            refine J_if_lt E (tgt := 101) dX6_kindHere_94 (by decide) (fun c_94 => ?_) (fun c_94 => ?_)
            · skip
              have n_94 : 3 < 0 := cmp_lt (a := 3) (b := 0) (by omega) (by omega) c_94
              exact absurd n_94 (by decide)
            · skip
              have n_94 : ¬ 3 < 0 := cmp_nlt (a := 3) (b := 0) (by omega) (by omega) c_94
              refine J_iload_n E dX6_kindHere_97 rfl 0 rfl ?_
              refine J_goto E (tgt := 117) dX6_kindHere_98 (by decide) ?_
              exact ret _ _ _ _ ⟨by unfold kwM; (repeat (first | rw [if_neg (by assumption)] | rw [if_pos (by assumption)])) <;> rfl, (congrArg (wM G b) (rfl))⟩ rfl dX6_kindHere_117
          · skip
            exact absurd c_86 (by decide)
      · skip
        have c_32 := bI_1 c_32
        refine J_iconst E dX6_kindHere_35 ic_2 ?_
        refine J_goto E (tgt := 40) dX6_kindHere_36 (by decide) ?_
        refine J_istore_n E (lv' := [(1, .int 2), (0, .ref (b 0))]) dX6_kindHere_40 rfl (by decide) rfl ?_
        refine J_aload_n E dX6_kindHere_41 rfl 1 rfl ?_
        refine J_ldcwS E (q := 16) rfl dX6_kindHere_42 ?_
        refine J_cVi0 E (As := [.ref (G.2.2.2.2.1 16)]) (c_X6_isWord l G b y 16 (by decide) hq) cl_X6_243 yo_X6_isWord dX6_kindHere_45 rfl rfl rfl (Nat.le_of_ble_eq_true rfl) (Nat.le_of_ble_eq_true rfl) rfl (Nat.le_of_ble_eq_true rfl) ⟨Nat.zero_le _, Nat.zero_le _⟩ ?_
        refine J_if_eq E (tgt := 55) dX6_kindHere_48 (by decide) (fun c_48 => ?_) (fun c_48 => ?_)
        · skip
          have c_48 := bI_0 c_48
          refine J_aload_n E dX6_kindHere_55 rfl 1 rfl ?_
          refine J_ldcwS E (q := 17) rfl dX6_kindHere_56 ?_
          refine J_cVi0 E (As := [.ref (G.2.2.2.2.1 17)]) (c_X6_isWord l G b y 17 (by decide) hq) cl_X6_243 yo_X6_isWord dX6_kindHere_59 rfl rfl rfl (Nat.le_of_ble_eq_true rfl) (Nat.le_of_ble_eq_true rfl) rfl (Nat.le_of_ble_eq_true rfl) ⟨Nat.zero_le _, Nat.zero_le _⟩ ?_
          refine J_if_eq E (tgt := 69) dX6_kindHere_62 (by decide) (fun c_62 => ?_) (fun c_62 => ?_)
          · skip
            have c_62 := bI_0 c_62
            refine J_aload_n E dX6_kindHere_69 rfl 1 rfl ?_
            refine J_ldcwS E (q := 18) rfl dX6_kindHere_70 ?_
            refine J_cVi0 E (As := [.ref (G.2.2.2.2.1 18)]) (c_X6_isWord l G b y 18 (by decide) hq) cl_X6_243 yo_X6_isWord dX6_kindHere_73 rfl rfl rfl (Nat.le_of_ble_eq_true rfl) (Nat.le_of_ble_eq_true rfl) rfl (Nat.le_of_ble_eq_true rfl) ⟨Nat.zero_le _, Nat.zero_le _⟩ ?_
            refine J_if_eq E (tgt := 83) dX6_kindHere_76 (by decide) (fun c_76 => ?_) (fun c_76 => ?_)
            · skip
              have c_76 := bI_0 c_76
              refine J_iconst E dX6_kindHere_83 ic_m1 ?_
              refine J_istore_n E (lv' := [(2, .int (-1)), (1, .int 2), (0, .ref (b 0))]) dX6_kindHere_84 rfl (by decide) rfl ?_
              refine J_iload_n E dX6_kindHere_85 rfl 1 rfl ?_
              refine J_if_lt E (tgt := 93) dX6_kindHere_86 (by decide) (fun c_86 => ?_) (fun c_86 => ?_)
              · skip
                have n_86 : 2 < 0 := cmp_lt (a := 2) (b := 0) (by omega) (by omega) c_86
                exact absurd n_86 (by decide)
              · skip
                have n_86 : ¬ 2 < 0 := cmp_nlt (a := 2) (b := 0) (by omega) (by omega) c_86
                refine J_iload_n E dX6_kindHere_89 rfl 1 rfl ?_
                refine J_goto E (tgt := 117) dX6_kindHere_90 (by decide) ?_
                exact ret _ _ _ _ ⟨by unfold kwM; (repeat (first | rw [if_neg (by assumption)] | rw [if_pos (by assumption)])) <;> rfl, (congrArg (wM G b) (rfl))⟩ rfl dX6_kindHere_117
            · skip
              have c_76 := bI_1 c_76
              refine J_iconst E dX6_kindHere_79 ic_5 ?_
              refine J_goto E (tgt := 84) dX6_kindHere_80 (by decide) ?_
              refine J_istore_n E (lv' := [(2, .int 5), (1, .int 2), (0, .ref (b 0))]) dX6_kindHere_84 rfl (by decide) rfl ?_
              refine J_iload_n E dX6_kindHere_85 rfl 1 rfl ?_
              refine J_if_lt E (tgt := 93) dX6_kindHere_86 (by decide) (fun c_86 => ?_) (fun c_86 => ?_)
              · skip
                have n_86 : 2 < 0 := cmp_lt (a := 2) (b := 0) (by omega) (by omega) c_86
                exact absurd n_86 (by decide)
              · skip
                have n_86 : ¬ 2 < 0 := cmp_nlt (a := 2) (b := 0) (by omega) (by omega) c_86
                refine J_iload_n E dX6_kindHere_89 rfl 1 rfl ?_
                refine J_goto E (tgt := 117) dX6_kindHere_90 (by decide) ?_
                exact ret _ _ _ _ ⟨by unfold kwM; (repeat (first | rw [if_neg (by assumption)] | rw [if_pos (by assumption)])) <;> rfl, (congrArg (wM G b) (rfl))⟩ rfl dX6_kindHere_117
          · skip
            have c_62 := bI_1 c_62
            refine J_iconst E dX6_kindHere_65 ic_4 ?_
            refine J_goto E (tgt := 84) dX6_kindHere_66 (by decide) ?_
            refine J_istore_n E (lv' := [(2, .int 4), (1, .int 2), (0, .ref (b 0))]) dX6_kindHere_84 rfl (by decide) rfl ?_
            refine J_iload_n E dX6_kindHere_85 rfl 1 rfl ?_
            refine J_if_lt E (tgt := 93) dX6_kindHere_86 (by decide) (fun c_86 => ?_) (fun c_86 => ?_)
            · skip
              have n_86 : 2 < 0 := cmp_lt (a := 2) (b := 0) (by omega) (by omega) c_86
              exact absurd n_86 (by decide)
            · skip
              have n_86 : ¬ 2 < 0 := cmp_nlt (a := 2) (b := 0) (by omega) (by omega) c_86
              refine J_iload_n E dX6_kindHere_89 rfl 1 rfl ?_
              refine J_goto E (tgt := 117) dX6_kindHere_90 (by decide) ?_
              exact ret _ _ _ _ ⟨by unfold kwM; (repeat (first | rw [if_neg (by assumption)] | rw [if_pos (by assumption)])) <;> rfl, (congrArg (wM G b) (rfl))⟩ rfl dX6_kindHere_117
        · skip
          have c_48 := bI_1 c_48
          refine J_iconst E dX6_kindHere_51 ic_3 ?_
          refine J_goto E (tgt := 84) dX6_kindHere_52 (by decide) ?_
          refine J_istore_n E (lv' := [(2, .int 3), (1, .int 2), (0, .ref (b 0))]) dX6_kindHere_84 rfl (by decide) rfl ?_
          refine J_iload_n E dX6_kindHere_85 rfl 1 rfl ?_
          refine J_if_lt E (tgt := 93) dX6_kindHere_86 (by decide) (fun c_86 => ?_) (fun c_86 => ?_)
          · skip
            have n_86 : 2 < 0 := cmp_lt (a := 2) (b := 0) (by omega) (by omega) c_86
            exact absurd n_86 (by decide)
          · skip
            have n_86 : ¬ 2 < 0 := cmp_nlt (a := 2) (b := 0) (by omega) (by omega) c_86
            refine J_iload_n E dX6_kindHere_89 rfl 1 rfl ?_
            refine J_goto E (tgt := 117) dX6_kindHere_90 (by decide) ?_
            exact ret _ _ _ _ ⟨by unfold kwM; (repeat (first | rw [if_neg (by assumption)] | rw [if_pos (by assumption)])) <;> rfl, (congrArg (wM G b) (rfl))⟩ rfl dX6_kindHere_117
    · skip
      have c_19 := bI_1 c_19
      refine J_iconst E dX6_kindHere_22 ic_1 ?_
      refine J_goto E (tgt := 40) dX6_kindHere_23 (by decide) ?_
      refine J_istore_n E (lv' := [(1, .int 1), (0, .ref (b 0))]) dX6_kindHere_40 rfl (by decide) rfl ?_
      refine J_aload_n E dX6_kindHere_41 rfl 1 rfl ?_
      refine J_ldcwS E (q := 16) rfl dX6_kindHere_42 ?_
      refine J_cVi0 E (As := [.ref (G.2.2.2.2.1 16)]) (c_X6_isWord l G b y 16 (by decide) hq) cl_X6_243 yo_X6_isWord dX6_kindHere_45 rfl rfl rfl (Nat.le_of_ble_eq_true rfl) (Nat.le_of_ble_eq_true rfl) rfl (Nat.le_of_ble_eq_true rfl) ⟨Nat.zero_le _, Nat.zero_le _⟩ ?_
      refine J_if_eq E (tgt := 55) dX6_kindHere_48 (by decide) (fun c_48 => ?_) (fun c_48 => ?_)
      · skip
        have c_48 := bI_0 c_48
        refine J_aload_n E dX6_kindHere_55 rfl 1 rfl ?_
        refine J_ldcwS E (q := 17) rfl dX6_kindHere_56 ?_
        refine J_cVi0 E (As := [.ref (G.2.2.2.2.1 17)]) (c_X6_isWord l G b y 17 (by decide) hq) cl_X6_243 yo_X6_isWord dX6_kindHere_59 rfl rfl rfl (Nat.le_of_ble_eq_true rfl) (Nat.le_of_ble_eq_true rfl) rfl (Nat.le_of_ble_eq_true rfl) ⟨Nat.zero_le _, Nat.zero_le _⟩ ?_
        refine J_if_eq E (tgt := 69) dX6_kindHere_62 (by decide) (fun c_62 => ?_) (fun c_62 => ?_)
        · skip
          have c_62 := bI_0 c_62
          refine J_aload_n E dX6_kindHere_69 rfl 1 rfl ?_
          refine J_ldcwS E (q := 18) rfl dX6_kindHere_70 ?_
          refine J_cVi0 E (As := [.ref (G.2.2.2.2.1 18)]) (c_X6_isWord l G b y 18 (by decide) hq) cl_X6_243 yo_X6_isWord dX6_kindHere_73 rfl rfl rfl (Nat.le_of_ble_eq_true rfl) (Nat.le_of_ble_eq_true rfl) rfl (Nat.le_of_ble_eq_true rfl) ⟨Nat.zero_le _, Nat.zero_le _⟩ ?_
          refine J_if_eq E (tgt := 83) dX6_kindHere_76 (by decide) (fun c_76 => ?_) (fun c_76 => ?_)
          · skip
            have c_76 := bI_0 c_76
            refine J_iconst E dX6_kindHere_83 ic_m1 ?_
            refine J_istore_n E (lv' := [(2, .int (-1)), (1, .int 1), (0, .ref (b 0))]) dX6_kindHere_84 rfl (by decide) rfl ?_
            refine J_iload_n E dX6_kindHere_85 rfl 1 rfl ?_
            refine J_if_lt E (tgt := 93) dX6_kindHere_86 (by decide) (fun c_86 => ?_) (fun c_86 => ?_)
            · skip
              have n_86 : 1 < 0 := cmp_lt (a := 1) (b := 0) (by omega) (by omega) c_86
              exact absurd n_86 (by decide)
            · skip
              have n_86 : ¬ 1 < 0 := cmp_nlt (a := 1) (b := 0) (by omega) (by omega) c_86
              refine J_iload_n E dX6_kindHere_89 rfl 1 rfl ?_
              refine J_goto E (tgt := 117) dX6_kindHere_90 (by decide) ?_
              exact ret _ _ _ _ ⟨by unfold kwM; (repeat (first | rw [if_neg (by assumption)] | rw [if_pos (by assumption)])) <;> rfl, (congrArg (wM G b) (rfl))⟩ rfl dX6_kindHere_117
          · skip
            have c_76 := bI_1 c_76
            refine J_iconst E dX6_kindHere_79 ic_5 ?_
            refine J_goto E (tgt := 84) dX6_kindHere_80 (by decide) ?_
            refine J_istore_n E (lv' := [(2, .int 5), (1, .int 1), (0, .ref (b 0))]) dX6_kindHere_84 rfl (by decide) rfl ?_
            refine J_iload_n E dX6_kindHere_85 rfl 1 rfl ?_
            refine J_if_lt E (tgt := 93) dX6_kindHere_86 (by decide) (fun c_86 => ?_) (fun c_86 => ?_)
            · skip
              have n_86 : 1 < 0 := cmp_lt (a := 1) (b := 0) (by omega) (by omega) c_86
              exact absurd n_86 (by decide)
            · skip
              have n_86 : ¬ 1 < 0 := cmp_nlt (a := 1) (b := 0) (by omega) (by omega) c_86
              refine J_iload_n E dX6_kindHere_89 rfl 1 rfl ?_
              refine J_goto E (tgt := 117) dX6_kindHere_90 (by decide) ?_
              exact ret _ _ _ _ ⟨by unfold kwM; (repeat (first | rw [if_neg (by assumption)] | rw [if_pos (by assumption)])) <;> rfl, (congrArg (wM G b) (rfl))⟩ rfl dX6_kindHere_117
        · skip
          have c_62 := bI_1 c_62
          refine J_iconst E dX6_kindHere_65 ic_4 ?_
          refine J_goto E (tgt := 84) dX6_kindHere_66 (by decide) ?_
          refine J_istore_n E (lv' := [(2, .int 4), (1, .int 1), (0, .ref (b 0))]) dX6_kindHere_84 rfl (by decide) rfl ?_
          refine J_iload_n E dX6_kindHere_85 rfl 1 rfl ?_
          refine J_if_lt E (tgt := 93) dX6_kindHere_86 (by decide) (fun c_86 => ?_) (fun c_86 => ?_)
          · skip
            have n_86 : 1 < 0 := cmp_lt (a := 1) (b := 0) (by omega) (by omega) c_86
            exact absurd n_86 (by decide)
          · skip
            have n_86 : ¬ 1 < 0 := cmp_nlt (a := 1) (b := 0) (by omega) (by omega) c_86
            refine J_iload_n E dX6_kindHere_89 rfl 1 rfl ?_
            refine J_goto E (tgt := 117) dX6_kindHere_90 (by decide) ?_
            exact ret _ _ _ _ ⟨by unfold kwM; (repeat (first | rw [if_neg (by assumption)] | rw [if_pos (by assumption)])) <;> rfl, (congrArg (wM G b) (rfl))⟩ rfl dX6_kindHere_117
      · skip
        have c_48 := bI_1 c_48
        refine J_iconst E dX6_kindHere_51 ic_3 ?_
        refine J_goto E (tgt := 84) dX6_kindHere_52 (by decide) ?_
        refine J_istore_n E (lv' := [(2, .int 3), (1, .int 1), (0, .ref (b 0))]) dX6_kindHere_84 rfl (by decide) rfl ?_
        refine J_iload_n E dX6_kindHere_85 rfl 1 rfl ?_
        refine J_if_lt E (tgt := 93) dX6_kindHere_86 (by decide) (fun c_86 => ?_) (fun c_86 => ?_)
        · skip
          have n_86 : 1 < 0 := cmp_lt (a := 1) (b := 0) (by omega) (by omega) c_86
          exact absurd n_86 (by decide)
        · skip
          have n_86 : ¬ 1 < 0 := cmp_nlt (a := 1) (b := 0) (by omega) (by omega) c_86
          refine J_iload_n E dX6_kindHere_89 rfl 1 rfl ?_
          refine J_goto E (tgt := 117) dX6_kindHere_90 (by decide) ?_
          exact ret _ _ _ _ ⟨by unfold kwM; (repeat (first | rw [if_neg (by assumption)] | rw [if_pos (by assumption)])) <;> rfl, (congrArg (wM G b) (rfl))⟩ rfl dX6_kindHere_117
  · skip
    have c_6 := bI_1 c_6
    refine J_iconst E dX6_kindHere_9 ic_0 ?_
    refine J_goto E (tgt := 40) dX6_kindHere_10 (by decide) ?_
    refine J_istore_n E (lv' := [(1, .int 0), (0, .ref (b 0))]) dX6_kindHere_40 rfl (by decide) rfl ?_
    refine J_aload_n E dX6_kindHere_41 rfl 1 rfl ?_
    refine J_ldcwS E (q := 16) rfl dX6_kindHere_42 ?_
    refine J_cVi0 E (As := [.ref (G.2.2.2.2.1 16)]) (c_X6_isWord l G b y 16 (by decide) hq) cl_X6_243 yo_X6_isWord dX6_kindHere_45 rfl rfl rfl (Nat.le_of_ble_eq_true rfl) (Nat.le_of_ble_eq_true rfl) rfl (Nat.le_of_ble_eq_true rfl) ⟨Nat.zero_le _, Nat.zero_le _⟩ ?_
    refine J_if_eq E (tgt := 55) dX6_kindHere_48 (by decide) (fun c_48 => ?_) (fun c_48 => ?_)
    · skip
      have c_48 := bI_0 c_48
      refine J_aload_n E dX6_kindHere_55 rfl 1 rfl ?_
      refine J_ldcwS E (q := 17) rfl dX6_kindHere_56 ?_
      refine J_cVi0 E (As := [.ref (G.2.2.2.2.1 17)]) (c_X6_isWord l G b y 17 (by decide) hq) cl_X6_243 yo_X6_isWord dX6_kindHere_59 rfl rfl rfl (Nat.le_of_ble_eq_true rfl) (Nat.le_of_ble_eq_true rfl) rfl (Nat.le_of_ble_eq_true rfl) ⟨Nat.zero_le _, Nat.zero_le _⟩ ?_
      refine J_if_eq E (tgt := 69) dX6_kindHere_62 (by decide) (fun c_62 => ?_) (fun c_62 => ?_)
      · skip
        have c_62 := bI_0 c_62
        refine J_aload_n E dX6_kindHere_69 rfl 1 rfl ?_
        refine J_ldcwS E (q := 18) rfl dX6_kindHere_70 ?_
        refine J_cVi0 E (As := [.ref (G.2.2.2.2.1 18)]) (c_X6_isWord l G b y 18 (by decide) hq) cl_X6_243 yo_X6_isWord dX6_kindHere_73 rfl rfl rfl (Nat.le_of_ble_eq_true rfl) (Nat.le_of_ble_eq_true rfl) rfl (Nat.le_of_ble_eq_true rfl) ⟨Nat.zero_le _, Nat.zero_le _⟩ ?_
        refine J_if_eq E (tgt := 83) dX6_kindHere_76 (by decide) (fun c_76 => ?_) (fun c_76 => ?_)
        · skip
          have c_76 := bI_0 c_76
          refine J_iconst E dX6_kindHere_83 ic_m1 ?_
          refine J_istore_n E (lv' := [(2, .int (-1)), (1, .int 0), (0, .ref (b 0))]) dX6_kindHere_84 rfl (by decide) rfl ?_
          refine J_iload_n E dX6_kindHere_85 rfl 1 rfl ?_
          refine J_if_lt E (tgt := 93) dX6_kindHere_86 (by decide) (fun c_86 => ?_) (fun c_86 => ?_)
          · skip
            have n_86 : 0 < 0 := cmp_lt (a := 0) (b := 0) (by omega) (by omega) c_86
            exact absurd n_86 (by decide)
          · skip
            have n_86 : ¬ 0 < 0 := cmp_nlt (a := 0) (b := 0) (by omega) (by omega) c_86
            refine J_iload_n E dX6_kindHere_89 rfl 1 rfl ?_
            refine J_goto E (tgt := 117) dX6_kindHere_90 (by decide) ?_
            exact ret _ _ _ _ ⟨by unfold kwM; (repeat (first | rw [if_neg (by assumption)] | rw [if_pos (by assumption)])) <;> rfl, (congrArg (wM G b) (rfl))⟩ rfl dX6_kindHere_117
        · skip
          have c_76 := bI_1 c_76
          refine J_iconst E dX6_kindHere_79 ic_5 ?_
          refine J_goto E (tgt := 84) dX6_kindHere_80 (by decide) ?_
          refine J_istore_n E (lv' := [(2, .int 5), (1, .int 0), (0, .ref (b 0))]) dX6_kindHere_84 rfl (by decide) rfl ?_
          refine J_iload_n E dX6_kindHere_85 rfl 1 rfl ?_
          refine J_if_lt E (tgt := 93) dX6_kindHere_86 (by decide) (fun c_86 => ?_) (fun c_86 => ?_)
          · skip
            have n_86 : 0 < 0 := cmp_lt (a := 0) (b := 0) (by omega) (by omega) c_86
            exact absurd n_86 (by decide)
          · skip
            have n_86 : ¬ 0 < 0 := cmp_nlt (a := 0) (b := 0) (by omega) (by omega) c_86
            refine J_iload_n E dX6_kindHere_89 rfl 1 rfl ?_
            refine J_goto E (tgt := 117) dX6_kindHere_90 (by decide) ?_
            exact ret _ _ _ _ ⟨by unfold kwM; (repeat (first | rw [if_neg (by assumption)] | rw [if_pos (by assumption)])) <;> rfl, (congrArg (wM G b) (rfl))⟩ rfl dX6_kindHere_117
      · skip
        have c_62 := bI_1 c_62
        refine J_iconst E dX6_kindHere_65 ic_4 ?_
        refine J_goto E (tgt := 84) dX6_kindHere_66 (by decide) ?_
        refine J_istore_n E (lv' := [(2, .int 4), (1, .int 0), (0, .ref (b 0))]) dX6_kindHere_84 rfl (by decide) rfl ?_
        refine J_iload_n E dX6_kindHere_85 rfl 1 rfl ?_
        refine J_if_lt E (tgt := 93) dX6_kindHere_86 (by decide) (fun c_86 => ?_) (fun c_86 => ?_)
        · skip
          have n_86 : 0 < 0 := cmp_lt (a := 0) (b := 0) (by omega) (by omega) c_86
          exact absurd n_86 (by decide)
        · skip
          have n_86 : ¬ 0 < 0 := cmp_nlt (a := 0) (b := 0) (by omega) (by omega) c_86
          refine J_iload_n E dX6_kindHere_89 rfl 1 rfl ?_
          refine J_goto E (tgt := 117) dX6_kindHere_90 (by decide) ?_
          exact ret _ _ _ _ ⟨by unfold kwM; (repeat (first | rw [if_neg (by assumption)] | rw [if_pos (by assumption)])) <;> rfl, (congrArg (wM G b) (rfl))⟩ rfl dX6_kindHere_117
    · skip
      have c_48 := bI_1 c_48
      refine J_iconst E dX6_kindHere_51 ic_3 ?_
      refine J_goto E (tgt := 84) dX6_kindHere_52 (by decide) ?_
      refine J_istore_n E (lv' := [(2, .int 3), (1, .int 0), (0, .ref (b 0))]) dX6_kindHere_84 rfl (by decide) rfl ?_
      refine J_iload_n E dX6_kindHere_85 rfl 1 rfl ?_
      refine J_if_lt E (tgt := 93) dX6_kindHere_86 (by decide) (fun c_86 => ?_) (fun c_86 => ?_)
      · skip
        have n_86 : 0 < 0 := cmp_lt (a := 0) (b := 0) (by omega) (by omega) c_86
        exact absurd n_86 (by decide)
      · skip
        have n_86 : ¬ 0 < 0 := cmp_nlt (a := 0) (b := 0) (by omega) (by omega) c_86
        refine J_iload_n E dX6_kindHere_89 rfl 1 rfl ?_
        refine J_goto E (tgt := 117) dX6_kindHere_90 (by decide) ?_
        exact ret _ _ _ _ ⟨by unfold kwM; (repeat (first | rw [if_neg (by assumption)] | rw [if_pos (by assumption)])) <;> rfl, (congrArg (wM G b) (rfl))⟩ rfl dX6_kindHere_117

set_option maxHeartbeats 4000000 in
set_option maxRecDepth 20000 in
theorem c_X6_partTold_1 (l : Launch) (G : GB) (b : Nat → Nat) (y : Q3) (i j : Nat) (m : Int32) (hi : i < 27) (hj : j < 11) (hq : okT y) : CV l yX6_partTold cX6_partTold 6 6 130 0 0 G [.ref (b 0), .int (nI j), .ref (G.2.2.2.2.1 i), .int (nI 1), .int m] (wM G b y) (fun w' => w' = wM G b (ptX y i 1 j m)) := by
  refine CV.mk (own := RX6) (by decide) rfl (Nat.le_of_ble_eq_true rfl) ?_
  intro X E _ _ _ ret
  show J X G 6 0 0 (wM G b y) [(0, .ref (b 0)), (1, .int (nI j)), (2, .ref (G.2.2.2.2.1 i)), (3, .int (nI 1)), (4, .int m)] 0 []
  refine J_aload_n E dX6_partTold_0 rfl 0 rfl ?_
  refine J_aload_n E dX6_partTold_1 rfl 2 rfl ?_
  refine J_cVi0 E (As := [.ref (G.2.2.2.2.1 i)]) (c_X6_takes l G b y i hi hq) cl_X6_265 yo_X6_takes dX6_partTold_2 rfl rfl rfl (Nat.le_of_ble_eq_true rfl) (Nat.le_of_ble_eq_true rfl) rfl (Nat.le_of_ble_eq_true rfl) ⟨Nat.zero_le _, Nat.zero_le _⟩ ?_
  refine J_if_eq E (tgt := 32) dX6_partTold_5 (by decide) (fun c_5 => ?_) (fun c_5 => ?_)
  · skip
    have c_5 := bI_0 c_5
    skip
    exact ret _ _ _ (congrArg (wM G b) (by unfold ptX; first | (rw [if_neg c_5]; unfold takesX; rw [if_neg c_5]) | rw [if_pos c_5, if_neg c_21] | (rw [if_pos c_5, if_pos c_21]; rfl))) dX6_partTold_32
  · skip
    have c_5 := bI_1 c_5
    refine J_w (ws' := wM G b (nextMX y)) (congrArg (wM G b) (by rw [takesX, if_pos c_5])) ?_
    refine J_aload_n E dX6_partTold_8 rfl 0 rfl ?_
    refine J_iconst E dX6_partTold_9 ic_0 ?_
    refine J_iload E dX6_partTold_10 4 rfl ?_
    refine J_cVi0 E (As := [.int 0, .int m]) (c_X6_numberRead l G b (nextMX y) m (okT_nextM hq.n)) cl_X6_268 yo_X6_numberRead dX6_partTold_12 rfl rfl rfl (Nat.le_of_ble_eq_true rfl) (Nat.le_of_ble_eq_true rfl) rfl (Nat.le_of_ble_eq_true rfl) ⟨Nat.zero_le _, Nat.zero_le _⟩ ?_
    refine J_istore E (lv' := [(5, .int (numV (nextMX y))), (0, .ref (b 0)), (1, .int (nI j)), (2, .ref (G.2.2.2.2.1 i)), (3, .int (nI 1)), (4, .int m)]) dX6_partTold_15 (by decide) rfl ?_
    refine J_aload_n E dX6_partTold_17 rfl 1 rfl ?_
    refine gM0_X6_227 E dX6_partTold_18 ?_
    refine J_if_ne E (tgt := 32) dX6_partTold_21 (by decide) (fun c_21 => ?_) (fun c_21 => ?_)
    · skip
      skip
      exact ret _ _ _ (congrArg (wM G b) (by unfold ptX; first | (rw [if_neg c_5]; unfold takesX; rw [if_neg c_5]) | rw [if_pos c_5, if_neg c_21] | (rw [if_pos c_5, if_pos c_21]; rfl))) dX6_partTold_32
    · skip
      refine J_aload_n E dX6_partTold_24 rfl 1 rfl ?_
      refine J_iload_n E dX6_partTold_25 rfl 2 rfl ?_
      refine J_iload_n E dX6_partTold_26 rfl 4 rfl ?_
      refine J_iload E dX6_partTold_27 0 rfl ?_
      refine J_cVv0 E (As := [.int (nI j), .int (nI 1), .int (numV (nextMX y))]) (c_X6_sets l G b (nrX (nextMX y) m) j 1 (numV (nextMX y)) (by omega) (by omega)) cl_X6_43 yo_X6_sets dX6_partTold_29 rfl rfl rfl (Nat.le_of_ble_eq_true rfl) (Nat.le_of_ble_eq_true rfl) rfl (Nat.le_of_ble_eq_true rfl) ⟨Nat.zero_le _, Nat.zero_le _⟩ ?_
      skip
      exact ret _ _ _ (congrArg (wM G b) (by unfold ptX; first | (rw [if_neg c_5]; unfold takesX; rw [if_neg c_5]) | rw [if_pos c_5, if_neg c_21] | (rw [if_pos c_5, if_pos c_21]; rfl))) dX6_partTold_32

set_option maxHeartbeats 4000000 in
set_option maxRecDepth 20000 in
theorem c_X6_partTold_2 (l : Launch) (G : GB) (b : Nat → Nat) (y : Q3) (i j : Nat) (m : Int32) (hi : i < 27) (hj : j < 11) (hq : okT y) : CV l yX6_partTold cX6_partTold 6 6 130 0 0 G [.ref (b 0), .int (nI j), .ref (G.2.2.2.2.1 i), .int (nI 2), .int m] (wM G b y) (fun w' => w' = wM G b (ptX y i 2 j m)) := by
  refine CV.mk (own := RX6) (by decide) rfl (Nat.le_of_ble_eq_true rfl) ?_
  intro X E _ _ _ ret
  show J X G 6 0 0 (wM G b y) [(0, .ref (b 0)), (1, .int (nI j)), (2, .ref (G.2.2.2.2.1 i)), (3, .int (nI 2)), (4, .int m)] 0 []
  refine J_aload_n E dX6_partTold_0 rfl 0 rfl ?_
  refine J_aload_n E dX6_partTold_1 rfl 2 rfl ?_
  refine J_cVi0 E (As := [.ref (G.2.2.2.2.1 i)]) (c_X6_takes l G b y i hi hq) cl_X6_265 yo_X6_takes dX6_partTold_2 rfl rfl rfl (Nat.le_of_ble_eq_true rfl) (Nat.le_of_ble_eq_true rfl) rfl (Nat.le_of_ble_eq_true rfl) ⟨Nat.zero_le _, Nat.zero_le _⟩ ?_
  refine J_if_eq E (tgt := 32) dX6_partTold_5 (by decide) (fun c_5 => ?_) (fun c_5 => ?_)
  · skip
    have c_5 := bI_0 c_5
    skip
    exact ret _ _ _ (congrArg (wM G b) (by unfold ptX; first | (rw [if_neg c_5]; unfold takesX; rw [if_neg c_5]) | rw [if_pos c_5, if_neg c_21] | (rw [if_pos c_5, if_pos c_21]; rfl))) dX6_partTold_32
  · skip
    have c_5 := bI_1 c_5
    refine J_w (ws' := wM G b (nextMX y)) (congrArg (wM G b) (by rw [takesX, if_pos c_5])) ?_
    refine J_aload_n E dX6_partTold_8 rfl 0 rfl ?_
    refine J_iconst E dX6_partTold_9 ic_0 ?_
    refine J_iload E dX6_partTold_10 4 rfl ?_
    refine J_cVi0 E (As := [.int 0, .int m]) (c_X6_numberRead l G b (nextMX y) m (okT_nextM hq.n)) cl_X6_268 yo_X6_numberRead dX6_partTold_12 rfl rfl rfl (Nat.le_of_ble_eq_true rfl) (Nat.le_of_ble_eq_true rfl) rfl (Nat.le_of_ble_eq_true rfl) ⟨Nat.zero_le _, Nat.zero_le _⟩ ?_
    refine J_istore E (lv' := [(5, .int (numV (nextMX y))), (0, .ref (b 0)), (1, .int (nI j)), (2, .ref (G.2.2.2.2.1 i)), (3, .int (nI 2)), (4, .int m)]) dX6_partTold_15 (by decide) rfl ?_
    refine J_aload_n E dX6_partTold_17 rfl 1 rfl ?_
    refine gM0_X6_227 E dX6_partTold_18 ?_
    refine J_if_ne E (tgt := 32) dX6_partTold_21 (by decide) (fun c_21 => ?_) (fun c_21 => ?_)
    · skip
      skip
      exact ret _ _ _ (congrArg (wM G b) (by unfold ptX; first | (rw [if_neg c_5]; unfold takesX; rw [if_neg c_5]) | rw [if_pos c_5, if_neg c_21] | (rw [if_pos c_5, if_pos c_21]; rfl))) dX6_partTold_32
    · skip
      refine J_aload_n E dX6_partTold_24 rfl 1 rfl ?_
      refine J_iload_n E dX6_partTold_25 rfl 2 rfl ?_
      refine J_iload_n E dX6_partTold_26 rfl 4 rfl ?_
      refine J_iload E dX6_partTold_27 0 rfl ?_
      refine J_cVv0 E (As := [.int (nI j), .int (nI 2), .int (numV (nextMX y))]) (c_X6_sets l G b (nrX (nextMX y) m) j 2 (numV (nextMX y)) (by omega) (by omega)) cl_X6_43 yo_X6_sets dX6_partTold_29 rfl rfl rfl (Nat.le_of_ble_eq_true rfl) (Nat.le_of_ble_eq_true rfl) rfl (Nat.le_of_ble_eq_true rfl) ⟨Nat.zero_le _, Nat.zero_le _⟩ ?_
      skip
      exact ret _ _ _ (congrArg (wM G b) (by unfold ptX; first | (rw [if_neg c_5]; unfold takesX; rw [if_neg c_5]) | rw [if_pos c_5, if_neg c_21] | (rw [if_pos c_5, if_pos c_21]; rfl))) dX6_partTold_32

set_option maxHeartbeats 4000000 in
set_option maxRecDepth 20000 in
theorem c_X6_partTold_3 (l : Launch) (G : GB) (b : Nat → Nat) (y : Q3) (i j : Nat) (m : Int32) (hi : i < 27) (hj : j < 11) (hq : okT y) : CV l yX6_partTold cX6_partTold 6 6 130 0 0 G [.ref (b 0), .int (nI j), .ref (G.2.2.2.2.1 i), .int (nI 3), .int m] (wM G b y) (fun w' => w' = wM G b (ptX y i 3 j m)) := by
  refine CV.mk (own := RX6) (by decide) rfl (Nat.le_of_ble_eq_true rfl) ?_
  intro X E _ _ _ ret
  show J X G 6 0 0 (wM G b y) [(0, .ref (b 0)), (1, .int (nI j)), (2, .ref (G.2.2.2.2.1 i)), (3, .int (nI 3)), (4, .int m)] 0 []
  refine J_aload_n E dX6_partTold_0 rfl 0 rfl ?_
  refine J_aload_n E dX6_partTold_1 rfl 2 rfl ?_
  refine J_cVi0 E (As := [.ref (G.2.2.2.2.1 i)]) (c_X6_takes l G b y i hi hq) cl_X6_265 yo_X6_takes dX6_partTold_2 rfl rfl rfl (Nat.le_of_ble_eq_true rfl) (Nat.le_of_ble_eq_true rfl) rfl (Nat.le_of_ble_eq_true rfl) ⟨Nat.zero_le _, Nat.zero_le _⟩ ?_
  refine J_if_eq E (tgt := 32) dX6_partTold_5 (by decide) (fun c_5 => ?_) (fun c_5 => ?_)
  · skip
    have c_5 := bI_0 c_5
    skip
    exact ret _ _ _ (congrArg (wM G b) (by unfold ptX; first | (rw [if_neg c_5]; unfold takesX; rw [if_neg c_5]) | rw [if_pos c_5, if_neg c_21] | (rw [if_pos c_5, if_pos c_21]; rfl))) dX6_partTold_32
  · skip
    have c_5 := bI_1 c_5
    refine J_w (ws' := wM G b (nextMX y)) (congrArg (wM G b) (by rw [takesX, if_pos c_5])) ?_
    refine J_aload_n E dX6_partTold_8 rfl 0 rfl ?_
    refine J_iconst E dX6_partTold_9 ic_0 ?_
    refine J_iload E dX6_partTold_10 4 rfl ?_
    refine J_cVi0 E (As := [.int 0, .int m]) (c_X6_numberRead l G b (nextMX y) m (okT_nextM hq.n)) cl_X6_268 yo_X6_numberRead dX6_partTold_12 rfl rfl rfl (Nat.le_of_ble_eq_true rfl) (Nat.le_of_ble_eq_true rfl) rfl (Nat.le_of_ble_eq_true rfl) ⟨Nat.zero_le _, Nat.zero_le _⟩ ?_
    refine J_istore E (lv' := [(5, .int (numV (nextMX y))), (0, .ref (b 0)), (1, .int (nI j)), (2, .ref (G.2.2.2.2.1 i)), (3, .int (nI 3)), (4, .int m)]) dX6_partTold_15 (by decide) rfl ?_
    refine J_aload_n E dX6_partTold_17 rfl 1 rfl ?_
    refine gM0_X6_227 E dX6_partTold_18 ?_
    refine J_if_ne E (tgt := 32) dX6_partTold_21 (by decide) (fun c_21 => ?_) (fun c_21 => ?_)
    · skip
      skip
      exact ret _ _ _ (congrArg (wM G b) (by unfold ptX; first | (rw [if_neg c_5]; unfold takesX; rw [if_neg c_5]) | rw [if_pos c_5, if_neg c_21] | (rw [if_pos c_5, if_pos c_21]; rfl))) dX6_partTold_32
    · skip
      refine J_aload_n E dX6_partTold_24 rfl 1 rfl ?_
      refine J_iload_n E dX6_partTold_25 rfl 2 rfl ?_
      refine J_iload_n E dX6_partTold_26 rfl 4 rfl ?_
      refine J_iload E dX6_partTold_27 0 rfl ?_
      refine J_cVv0 E (As := [.int (nI j), .int (nI 3), .int (numV (nextMX y))]) (c_X6_sets l G b (nrX (nextMX y) m) j 3 (numV (nextMX y)) (by omega) (by omega)) cl_X6_43 yo_X6_sets dX6_partTold_29 rfl rfl rfl (Nat.le_of_ble_eq_true rfl) (Nat.le_of_ble_eq_true rfl) rfl (Nat.le_of_ble_eq_true rfl) ⟨Nat.zero_le _, Nat.zero_le _⟩ ?_
      skip
      exact ret _ _ _ (congrArg (wM G b) (by unfold ptX; first | (rw [if_neg c_5]; unfold takesX; rw [if_neg c_5]) | rw [if_pos c_5, if_neg c_21] | (rw [if_pos c_5, if_pos c_21]; rfl))) dX6_partTold_32

set_option maxHeartbeats 4000000 in
set_option maxRecDepth 20000 in
theorem c_X6_houseTold (l : Launch) (G : GB) (b : Nat → Nat) (y : Q3) (kd : Int32) (hq : okT y) : CV l yX6_houseTold cX6_houseTold 3 7 155 0 0 G [.ref (b 0), .int kd] (wM G b y) (fun w' => w' = wM G b (htX y kd)) := by
  refine CV.mk (own := RX6) (by decide) rfl (Nat.le_of_ble_eq_true rfl) ?_
  intro X E _ _ _ ret
  show J X G 3 0 0 (wM G b y) [(0, .ref (b 0)), (1, .int kd)] 0 []
  refine J_aload_n E dX6_houseTold_0 rfl 0 rfl ?_
  refine J_iconst E dX6_houseTold_1 ic_1 ?_
  refine J_cVv0 E (As := [.int 1]) (c_X6_must l G b y true hq.n) cl_X6_247 yo_X6_must dX6_houseTold_2 rfl rfl rfl (Nat.le_of_ble_eq_true rfl) (Nat.le_of_ble_eq_true rfl) rfl (Nat.le_of_ble_eq_true rfl) ⟨Nat.zero_le _, Nat.zero_le _⟩ ?_
  refine J_aload_n E dX6_houseTold_5 rfl 0 rfl ?_
  refine J_iconst E dX6_houseTold_6 ic_0 ?_
  refine J_bipush E dX6_houseTold_7 bp_10 ?_
  refine J_cVi0 E (As := [.int 0, .int 10]) (c_X6_numberRead l G b (mustX y true) 10 (okT_must hq true)) cl_X6_268 yo_X6_numberRead dX6_houseTold_9 rfl rfl rfl (Nat.le_of_ble_eq_true rfl) (Nat.le_of_ble_eq_true rfl) rfl (Nat.le_of_ble_eq_true rfl) ⟨Nat.zero_le _, Nat.zero_le _⟩ ?_
  refine J_istore_n E (lv' := [(2, .int (numV (mustX y true))), (0, .ref (b 0)), (1, .int kd)]) dX6_houseTold_12 rfl (by decide) rfl ?_
  refine J_aload_n E dX6_houseTold_13 rfl 1 rfl ?_
  refine gM0_X6_227 E dX6_houseTold_14 ?_
  refine J_if_eq E (tgt := 21) dX6_houseTold_17 (by decide) (fun c_17 => ?_) (fun c_17 => ?_)
  · skip
    obtain ⟨-, hj0, hj1⟩ := nr_0 c_17
    obtain ⟨j, hj, hjv⟩ := nI_of2 (M := 10) (n := 10) rfl (Int32.not_lt.mpr hj0) hj1
    have hjn : (numV (mustX y true)).toNatClampNeg = j := by rw [hjv]; exact nI_clamp (by omega)
    rw [hjv]
    refine J_aload_n E dX6_houseTold_21 rfl 1 rfl ?_
    refine J_iload_n E dX6_houseTold_22 rfl 0 rfl ?_
    refine J_iconst E dX6_houseTold_23 ic_0 ?_
    refine J_iload_n E dX6_houseTold_24 rfl 2 rfl ?_
    refine J_cVv0 E (As := [.int (nI j), .int 0, .int kd]) (c_X6_sets l G b (nrX (mustX y true) 10) j 0 kd (by omega) (by omega)) cl_X6_43 yo_X6_sets dX6_houseTold_25 rfl rfl rfl (Nat.le_of_ble_eq_true rfl) (Nat.le_of_ble_eq_true rfl) rfl (Nat.le_of_ble_eq_true rfl) ⟨Nat.zero_le _, Nat.zero_le _⟩ ?_
    refine J_w (ws' := wM G b (setQ (nrX (mustX y true) 10) 0 j kd)) rfl ?_
    refine J_aload_n E dX6_houseTold_28 rfl 1 rfl ?_
    refine J_iload_n E dX6_houseTold_29 rfl 0 rfl ?_
    refine J_ldcwS E (q := 20) rfl dX6_houseTold_30 ?_
    refine J_iconst E dX6_houseTold_33 ic_1 ?_
    refine J_sipush E dX6_houseTold_34 sp_9999 ?_
    refine J_cVv0 E (As := [.int (nI j), .ref (G.2.2.2.2.1 20), .int 1, .int 9999]) (c_X6_partTold_1 l G b (setQ (nrX (mustX y true) 10) 0 j kd) 20 j 9999 (by decide) (by omega) (okT_set (okT_nr (okT_must hq true) 10) 0 j kd)) cl_X6_273 yo_X6_partTold dX6_houseTold_37 rfl rfl rfl (Nat.le_of_ble_eq_true rfl) (Nat.le_of_ble_eq_true rfl) rfl (Nat.le_of_ble_eq_true rfl) ⟨Nat.zero_le _, Nat.zero_le _⟩ ?_
    refine J_aload_n E dX6_houseTold_40 rfl 1 rfl ?_
    refine J_iload_n E dX6_houseTold_41 rfl 0 rfl ?_
    refine J_ldcwS E (q := 21) rfl dX6_houseTold_42 ?_
    refine J_iconst E dX6_houseTold_45 ic_2 ?_
    refine J_bipush E dX6_houseTold_46 bp_99 ?_
    refine J_cVv0 E (As := [.int (nI j), .ref (G.2.2.2.2.1 21), .int 2, .int 99]) (c_X6_partTold_2 l G b (ptX (setQ (nrX (mustX y true) 10) 0 j kd) 20 1 j 9999) 21 j 99 (by decide) (by omega) (okT_pt (okT_set (okT_nr (okT_must hq true) 10) 0 j kd) _ _ _ _)) cl_X6_273 yo_X6_partTold dX6_houseTold_48 rfl rfl rfl (Nat.le_of_ble_eq_true rfl) (Nat.le_of_ble_eq_true rfl) rfl (Nat.le_of_ble_eq_true rfl) ⟨Nat.zero_le _, Nat.zero_le _⟩ ?_
    refine J_aload_n E dX6_houseTold_51 rfl 1 rfl ?_
    refine J_iload_n E dX6_houseTold_52 rfl 0 rfl ?_
    refine J_ldcwS E (q := 22) rfl dX6_houseTold_53 ?_
    refine J_iconst E dX6_houseTold_56 ic_3 ?_
    refine J_sipush E dX6_houseTold_57 sp_999 ?_
    refine J_cVv0 E (As := [.int (nI j), .ref (G.2.2.2.2.1 22), .int 3, .int 999]) (c_X6_partTold_3 l G b (ptX (ptX (setQ (nrX (mustX y true) 10) 0 j kd) 20 1 j 9999) 21 2 j 99) 22 j 999 (by decide) (by omega) (okT_pt (okT_pt (okT_set (okT_nr (okT_must hq true) 10) 0 j kd) _ _ _ _) _ _ _ _)) cl_X6_273 yo_X6_partTold dX6_houseTold_60 rfl rfl rfl (Nat.le_of_ble_eq_true rfl) (Nat.le_of_ble_eq_true rfl) rfl (Nat.le_of_ble_eq_true rfl) ⟨Nat.zero_le _, Nat.zero_le _⟩ ?_
    refine J_aload_n E dX6_houseTold_63 rfl 1 rfl ?_
    refine J_ldcwS E (q := 23) rfl dX6_houseTold_64 ?_
    refine J_cVi0 E (As := [.ref (G.2.2.2.2.1 23)]) (c_X6_takes l G b (ptX (ptX (ptX (setQ (nrX (mustX y true) 10) 0 j kd) 20 1 j 9999) 21 2 j 99) 22 3 j 999) 23 (by decide) (okT_pt (okT_pt (okT_pt (okT_set (okT_nr (okT_must hq true) 10) 0 j kd) _ _ _ _) _ _ _ _) _ _ _ _)) cl_X6_265 yo_X6_takes dX6_houseTold_67 rfl rfl rfl (Nat.le_of_ble_eq_true rfl) (Nat.le_of_ble_eq_true rfl) rfl (Nat.le_of_ble_eq_true rfl) ⟨Nat.zero_le _, Nat.zero_le _⟩ ?_
    refine J_if_eq E (tgt := 83) dX6_houseTold_70 (by decide) (fun c_70 => ?_) (fun c_70 => ?_)
    · skip
      have c_70 := bI_0 c_70
      refine J_w (ws' := wM G b (ptX (ptX (ptX (setQ (nrX (mustX y true) 10) 0 j kd) 20 1 j 9999) 21 2 j 99) 22 3 j 999)) (congrArg (wM G b) (by rw [takesX, if_neg c_70])) ?_
      refine J_aload_n E dX6_houseTold_83 rfl 1 rfl ?_
      refine J_ldcwS E (q := 24) rfl dX6_houseTold_84 ?_
      refine J_cVi0 E (As := [.ref (G.2.2.2.2.1 24)]) (c_X6_takes l G b (ptX (ptX (ptX (setQ (nrX (mustX y true) 10) 0 j kd) 20 1 j 9999) 21 2 j 99) 22 3 j 999) 24 (by decide) (okT_pt (okT_pt (okT_pt (okT_set (okT_nr (okT_must hq true) 10) 0 j kd) _ _ _ _) _ _ _ _) _ _ _ _)) cl_X6_265 yo_X6_takes dX6_houseTold_87 rfl rfl rfl (Nat.le_of_ble_eq_true rfl) (Nat.le_of_ble_eq_true rfl) rfl (Nat.le_of_ble_eq_true rfl) ⟨Nat.zero_le _, Nat.zero_le _⟩ ?_
      refine J_if_eq E (tgt := 100) dX6_houseTold_90 (by decide) (fun c_90 => ?_) (fun c_90 => ?_)
      · skip
        have c_90 := bI_0 c_90
        exact ret _ _ _ (congrArg (wM G b) (by unfold htX; first | rw [if_neg c_17] | (rw [if_pos c_17, hjn]; unfold spX; first | (rw [if_pos c_70]; rfl) | (rw [if_neg c_70, if_pos c_90]; rfl) | (rw [if_neg c_70, if_neg c_90]; unfold takesX; rw [if_neg c_90])))) dX6_houseTold_100
      · skip
        have c_90 := bI_1 c_90
        refine J_w (ws' := wM G b (nextMX (ptX (ptX (ptX (setQ (nrX (mustX y true) 10) 0 j kd) 20 1 j 9999) 21 2 j 99) 22 3 j 999))) (congrArg (wM G b) (by rw [takesX, if_pos c_90])) ?_
        refine J_aload_n E dX6_houseTold_93 rfl 1 rfl ?_
        refine J_iload_n E dX6_houseTold_94 rfl 0 rfl ?_
        refine J_iconst E dX6_houseTold_95 ic_4 ?_
        refine J_iconst E dX6_houseTold_96 ic_1 ?_
        refine J_cVv0 E (As := [.int (nI j), .int 4, .int 1]) (c_X6_sets l G b (nextMX (ptX (ptX (ptX (setQ (nrX (mustX y true) 10) 0 j kd) 20 1 j 9999) 21 2 j 99) 22 3 j 999)) j 4 1 (by omega) (by omega)) cl_X6_43 yo_X6_sets dX6_houseTold_97 rfl rfl rfl (Nat.le_of_ble_eq_true rfl) (Nat.le_of_ble_eq_true rfl) rfl (Nat.le_of_ble_eq_true rfl) ⟨Nat.zero_le _, Nat.zero_le _⟩ ?_
        exact ret _ _ _ (congrArg (wM G b) (by unfold htX; first | rw [if_neg c_17] | (rw [if_pos c_17, hjn]; unfold spX; first | (rw [if_pos c_70]; rfl) | (rw [if_neg c_70, if_pos c_90]; rfl) | (rw [if_neg c_70, if_neg c_90]; unfold takesX; rw [if_neg c_90])))) dX6_houseTold_100
    · skip
      have c_70 := bI_1 c_70
      refine J_w (ws' := wM G b (nextMX (ptX (ptX (ptX (setQ (nrX (mustX y true) 10) 0 j kd) 20 1 j 9999) 21 2 j 99) 22 3 j 999))) (congrArg (wM G b) (by rw [takesX, if_pos c_70])) ?_
      refine J_aload_n E dX6_houseTold_73 rfl 1 rfl ?_
      refine J_iload_n E dX6_houseTold_74 rfl 0 rfl ?_
      refine J_iconst E dX6_houseTold_75 ic_4 ?_
      refine J_iconst E dX6_houseTold_76 ic_0 ?_
      refine J_cVv0 E (As := [.int (nI j), .int 4, .int 0]) (c_X6_sets l G b (nextMX (ptX (ptX (ptX (setQ (nrX (mustX y true) 10) 0 j kd) 20 1 j 9999) 21 2 j 99) 22 3 j 999)) j 4 0 (by omega) (by omega)) cl_X6_43 yo_X6_sets dX6_houseTold_77 rfl rfl rfl (Nat.le_of_ble_eq_true rfl) (Nat.le_of_ble_eq_true rfl) rfl (Nat.le_of_ble_eq_true rfl) ⟨Nat.zero_le _, Nat.zero_le _⟩ ?_
      refine J_goto E (tgt := 100) dX6_houseTold_80 (by decide) ?_
      exact ret _ _ _ (congrArg (wM G b) (by unfold htX; first | rw [if_neg c_17] | (rw [if_pos c_17, hjn]; unfold spX; first | (rw [if_pos c_70]; rfl) | (rw [if_neg c_70, if_pos c_90]; rfl) | (rw [if_neg c_70, if_neg c_90]; unfold takesX; rw [if_neg c_90])))) dX6_houseTold_100
  · skip
    exact ret _ _ _ (congrArg (wM G b) (by unfold htX; first | rw [if_neg c_17] | (rw [if_pos c_17, hjn]; unfold spX; first | (rw [if_pos c_70]; rfl) | (rw [if_neg c_70, if_pos c_90]; rfl) | (rw [if_neg c_70, if_neg c_90]; unfold takesX; rw [if_neg c_90])))) dX6_houseTold_20

set_option maxHeartbeats 4000000 in
set_option maxRecDepth 20000 in
theorem c_X6_item (l : Launch) (G : GB) (b : Nat → Nat) (y : Q3) (hq : okT y) : CV l yX6_item cX6_item 3 8 177 0 0 G [.ref (b 0)] (wM G b y) (fun w' => w' = wM G b (itX y)) := by
  refine CV.mk (own := RX6) (by decide) rfl (Nat.le_of_ble_eq_true rfl) ?_
  intro X E _ _ _ ret
  show J X G 3 0 0 (wM G b y) [(0, .ref (b 0))] 0 []
  refine J_aload_n E dX6_item_0 rfl 0 rfl ?_
  refine J_cVi0 E (As := []) (c_X6_kindHere l G b y hq) cl_X6_285 yo_X6_kindHere dX6_item_1 rfl rfl rfl (Nat.le_of_ble_eq_true rfl) (Nat.le_of_ble_eq_true rfl) rfl (Nat.le_of_ble_eq_true rfl) ⟨Nat.zero_le _, Nat.zero_le _⟩ ?_
  refine J_istore_n E (lv' := [(1, .int (kwM y)), (0, .ref (b 0))]) dX6_item_4 rfl (by decide) rfl ?_
  refine J_iload_n E dX6_item_5 rfl 0 rfl ?_
  refine J_if_lt E (tgt := 17) dX6_item_6 (by decide) (fun c_6 => ?_) (fun c_6 => ?_)
  · skip
    refine J_aload_n E dX6_item_17 rfl 1 rfl ?_
    refine J_aload_n E dX6_item_18 rfl 1 rfl ?_
    refine J_ldcwS E (q := 25) rfl dX6_item_19 ?_
    refine J_cVi0 E (As := [.ref (G.2.2.2.2.1 25)]) (c_X6_isWord l G b y 25 (by decide) hq) cl_X6_243 yo_X6_isWord dX6_item_22 rfl rfl rfl (Nat.le_of_ble_eq_true rfl) (Nat.le_of_ble_eq_true rfl) rfl (Nat.le_of_ble_eq_true rfl) ⟨Nat.zero_le _, Nat.zero_le _⟩ ?_
    refine J_cVv0 E (As := [.int (bI (isWM y 25 = true))]) (c_X6_must l G b y (isWM y 25) hq.n) cl_X6_247 yo_X6_must dX6_item_25 rfl rfl rfl (Nat.le_of_ble_eq_true rfl) (Nat.le_of_ble_eq_true rfl) rfl (Nat.le_of_ble_eq_true rfl) ⟨Nat.zero_le _, Nat.zero_le _⟩ ?_
    refine J_aload_n E dX6_item_28 rfl 1 rfl ?_
    refine J_iconst E dX6_item_29 ic_0 ?_
    refine J_sipush E dX6_item_30 sp_999 ?_
    refine J_cVi0 E (As := [.int 0, .int 999]) (c_X6_numberRead l G b (mustX y (isWM y 25)) 999 (okT_must hq _)) cl_X6_268 yo_X6_numberRead dX6_item_33 rfl rfl rfl (Nat.le_of_ble_eq_true rfl) (Nat.le_of_ble_eq_true rfl) rfl (Nat.le_of_ble_eq_true rfl) ⟨Nat.zero_le _, Nat.zero_le _⟩ ?_
    refine J_istore_n E (lv' := [(2, .int (numV (mustX y (isWM y 25)))), (1, .int (kwM y)), (0, .ref (b 0))]) dX6_item_36 rfl (by decide) rfl ?_
    refine J_aload_n E dX6_item_37 rfl 2 rfl ?_
    refine gM0_X6_227 E dX6_item_38 ?_
    refine J_if_ne E (tgt := 51) dX6_item_41 (by decide) (fun c_41 => ?_) (fun c_41 => ?_)
    · skip
      exact ret _ _ _ (congrArg (wM G b) (by unfold itX; first | rw [if_neg c_6] | (rw [if_pos c_6, if_neg c_41]) | (rw [if_pos c_6, if_pos c_41]; rfl))) dX6_item_51
    · skip
      refine J_aload_n E dX6_item_44 rfl 2 rfl ?_
      refine gM0_X6_9 E dX6_item_45 ?_
      refine J_iconst E dX6_item_48 ic_2 ?_
      refine J_iload_n E dX6_item_49 rfl 0 rfl ?_
      refine sMs E (j := 2) (r := 7) (i := 2) (at_7 (by decide)) dX6_item_50 ?_
      refine J_w (ws' := wM G b (upG (nrX (mustX y (isWM y 25)) 999) 0 (up2 ((nrX (mustX y (isWM y 25)) 999) 0) 7 2 (numV (mustX y (isWM y 25)))))) rfl ?_
      exact ret _ _ _ (congrArg (wM G b) (by unfold itX; first | rw [if_neg c_6] | (rw [if_pos c_6, if_neg c_41]) | (rw [if_pos c_6, if_pos c_41]; rfl))) dX6_item_51
  · skip
    have c_6 : ¬ kwM y < 0 := Int32.not_lt.mpr (Int32.not_lt.mp c_6)
    refine J_aload_n E dX6_item_9 rfl 1 rfl ?_
    refine J_iload_n E dX6_item_10 rfl 0 rfl ?_
    refine J_cVv0 E (As := [.int (kwM y)]) (c_X6_houseTold l G b y (kwM y) hq) cl_X6_288 yo_X6_houseTold dX6_item_11 rfl rfl rfl (Nat.le_of_ble_eq_true rfl) (Nat.le_of_ble_eq_true rfl) rfl (Nat.le_of_ble_eq_true rfl) ⟨Nat.zero_le _, Nat.zero_le _⟩ ?_
    refine J_goto E (tgt := 51) dX6_item_14 (by decide) ?_
    exact ret _ _ _ (congrArg (wM G b) (by unfold itX; first | rw [if_neg c_6] | (rw [if_pos c_6, if_neg c_41]) | (rw [if_pos c_6, if_pos c_41]; rfl))) dX6_item_51

theorem fr_le {y : Q3} (h : okT y) : (y 6 1 0).toNatClampNeg ≤ (y 6 1 1).toNatClampNeg := by
  obtain ⟨n, s, e, ⟨h1, h2⟩, h3, h4, h5, h6⟩ := h
  rw [h3, h4, nI_clamp (by omega), nI_clamp (by omega)]
  exact h5
theorem fr_next {y : Q3} (h : okT y) : (y 6 1 1).toNatClampNeg ≤ (nextMX y 6 1 0).toNatClampNeg := by
  obtain ⟨n, s, e, ⟨h1, h2⟩, h3, h4, h5, h6⟩ := h
  rw [← nextM_eq h1 h2 h4 h6 rfl rfl, h4, nI_clamp (by omega)]
  show e ≤ (nI (tokS (y 7 0) n e)).toNatClampNeg
  have := tokS_le (f := y 7 0) h6
  rw [nI_clamp (by omega)]
  exact endF_ge
theorem fr_must {y : Q3} (h : okT y) (c : Bool) : (y 6 1 0).toNatClampNeg ≤ (mustX y c 6 1 0).toNatClampNeg := by
  unfold mustX
  split
  · exact Nat.le_trans (fr_le h) (fr_next h)
  · exact Nat.le_refl _
theorem fr_nr {y : Q3} (h : okT y) (m : Int32) : (y 6 1 0).toNatClampNeg ≤ (nrX y m 6 1 0).toNatClampNeg := fr_must h _
theorem fr_pt {y : Q3} (h : okT y) (i w j : Nat) (m : Int32) : (y 6 1 0).toNatClampNeg ≤ (ptX y i w j m 6 1 0).toNatClampNeg := by
  have a := Nat.le_trans (fr_le h) (fr_next h)
  have c := fr_nr (okT_nextM h.n) m
  unfold ptX
  split
  · split
    · exact Nat.le_trans a c
    · exact Nat.le_trans a c
  · exact Nat.le_refl _
theorem fr_sp {y : Q3} (h : okT y) (j : Nat) : (y 6 1 0).toNatClampNeg ≤ (spX y j 6 1 0).toNatClampNeg := by
  have a := Nat.le_trans (fr_le h) (fr_next h)
  unfold spX
  split
  · exact a
  · split
    · exact a
    · exact Nat.le_refl _
theorem fr_ht {y : Q3} (h : okT y) (kd : Int32) : (y 6 1 0).toNatClampNeg ≤ (htX y kd 6 1 0).toNatClampNeg := by
  have a := fr_must h true
  have a2 := fr_nr (okT_must h true) 10
  unfold htX
  split
  · have o1 := okT_set (okT_nr (okT_must h true) 10) 0 (numV (mustX y true)).toNatClampNeg kd
    have p1 := fr_pt o1 20 1 (numV (mustX y true)).toNatClampNeg 9999
    have o2 := okT_pt o1 20 1 (numV (mustX y true)).toNatClampNeg 9999
    have p2 := fr_pt o2 21 2 (numV (mustX y true)).toNatClampNeg 99
    have o3 := okT_pt o2 21 2 (numV (mustX y true)).toNatClampNeg 99
    have p3 := fr_pt o3 22 3 (numV (mustX y true)).toNatClampNeg 999
    have o4 := okT_pt o3 22 3 (numV (mustX y true)).toNatClampNeg 999
    exact Nat.le_trans a (Nat.le_trans a2 (Nat.le_trans p1 (Nat.le_trans p2 (Nat.le_trans p3 (fr_sp o4 _)))))
  · exact Nat.le_trans a a2
theorem fr_it {y : Q3} (h : okT y) : (y 6 1 0).toNatClampNeg ≤ (itX y 6 1 0).toNatClampNeg := by
  have a := fr_must h (isWM y 25)
  have a2 := fr_nr (okT_must h (isWM y 25)) 999
  unfold itX
  split
  · split
    · exact Nat.le_trans a a2
    · exact Nat.le_trans a a2
  · exact fr_ht h _
theorem kwM_wr {y : Q3} (h : ¬ y 6 1 2 = 0) : kwM y = -1 := by
  have k : ∀ i, ¬ isWM y i = true := fun i z => h (isWM_w z)
  unfold kwM
  rw [if_neg (k _), if_neg (k _), if_neg (k _), if_neg (k _), if_neg (k _), if_neg (k _), if_neg (k _)]
theorem wr_it {y : Q3} (h : ¬ y 6 1 2 = 0) : ¬ itX y 6 1 2 = 0 := by
  have k : ¬ nrX (mustX y (isWM y 25)) 999 6 1 2 = 0 := fun z => h (must_0 (nr_0 z).1).1
  unfold itX
  rw [kwM_wr h, if_pos (by decide), if_neg k]
  exact k
theorem mu_lt {y : Q3} (h : okT y) (h0 : y 6 1 2 = 0) : muM (itX (mustX y (isWM y 26))) < muM y := by
  have hs : (y 6 1 0).toNatClampNeg ≤ 120 := by
    obtain ⟨n, s, e, ⟨h1, h2⟩, h3, h4, h5, h6⟩ := h
    rw [h3, nI_clamp (by omega)]; omega
  by_cases hw : isWM y 26 = true
  · have a := fr_it (okT_must h (isWM y 26))
    have c : (y 6 1 0).toNatClampNeg < (mustX y (isWM y 26) 6 1 0).toNatClampNeg := by
      unfold mustX
      rw [if_pos ⟨h0, hw⟩]
      have f := fr_next h
      have l := (of_decide_eq_true hw).2.1
      have l1 : (byS 26).length = 1 := rfl
      omega
    unfold muM
    rw [if_pos h0]
    split <;> omega
  · have k : ¬ mustX y (isWM y 26) 6 1 2 = 0 := fun z => hw (must_0 z).2
    unfold muM
    rw [if_neg (wr_it k), if_pos h0]
    omega
def prs (y y' : Q3) : Prop := ∀ g, g ≠ 0 → g ≠ 6 → y' g = y g
theorem prs.trans {x y z : Q3} (h : prs x y) (h2 : prs y z) : prs x z := fun g a c => (h2 g a c).trans (h g a c)
theorem prs_rfl {y : Q3} : prs y y := fun _ _ _ => rfl
theorem prs_next (y : Q3) : prs y (nextMX y) := fun g _ c => by simp [nextMX, upG, c]
theorem prs_must (y : Q3) (c : Bool) : prs y (mustX y c) := by
  unfold mustX
  split
  · exact prs_next y
  · exact fun g _ c => by simp [up3, c]
theorem prs_nr (y : Q3) (m : Int32) : prs y (nrX y m) := prs_must y _
theorem prs_set (y : Q3) (w j : Nat) (v : Int32) : prs y (setQ y w j v) := fun g a _ => by simp [setQ, upG, a]
theorem prs_pt (y : Q3) (i w j : Nat) (m : Int32) : prs y (ptX y i w j m) := by
  unfold ptX
  split
  · split
    · exact (prs_next y).trans ((prs_nr _ m).trans (prs_set _ _ _ _))
    · exact (prs_next y).trans (prs_nr _ m)
  · exact prs_rfl
theorem prs_sp (y : Q3) (j : Nat) : prs y (spX y j) := by
  unfold spX
  split
  · exact (prs_next y).trans (prs_set _ _ _ _)
  · split
    · exact (prs_next y).trans (prs_set _ _ _ _)
    · exact prs_rfl
theorem prs_ht (y : Q3) (kd : Int32) : prs y (htX y kd) := by
  unfold htX
  split
  · exact (prs_must y _).trans ((prs_nr _ _).trans ((prs_set _ _ _ _).trans ((prs_pt _ _ _ _ _).trans ((prs_pt _ _ _ _ _).trans ((prs_pt _ _ _ _ _).trans (prs_sp _ _))))))
  · exact (prs_must y _).trans (prs_nr _ _)
theorem prs_it (y : Q3) : prs y (itX y) := by
  unfold itX
  split
  · split
    · exact (prs_must y _).trans ((prs_nr _ _).trans (prs_set _ _ _ _))
    · exact (prs_must y _).trans (prs_nr _ _)
  · exact prs_ht y _
theorem tmF_end {f n : Nat} {y : Q3} (h : ¬ (y 6 1 2 = 0 ∧ (y 6 1 0).toNatClampNeg < (y 7 1 0).toNatClampNeg)) : tmF f y n = (y, n) := by
  cases f with
  | zero => rfl
  | succ f => rw [tmF, if_neg h]
def tm0 (y : Q3) : Q3 := nextMX (up3 (up3 (upG y 2 (y 0)) 6 1 2 0) 6 1 1 0)
def tmT (y : Q3) : Q3 × Nat := tmF 130 (itX (tm0 y)) 1
def tmR (t : Q3 × Nat) : Int32 := if t.1 6 1 2 = 0 then nI t.2 else -1 - t.1 6 1 0
theorem ShM_t0 {y S : Q3} (hp : ∀ g, g ≠ 0 → g ≠ 2 → g ≠ 6 → S g = y g) : ShM (up3 S 7 1 0 0) (up3 (upG y 0 (S 0)) 7 1 0 0) := by
  intro g h2 h5 h6
  by_cases h0 : g = 0
  · subst h0; simp [up3, upG]
  · by_cases h7 : g = 7
    · subst h7; simp [up3, upG, hp 7]
    · simp [up3, upG, h0, h7, hp g h0 h2 h6]
theorem ShM_t1 {y S : Q3} (hp : ∀ g, g ≠ 0 → g ≠ 2 → g ≠ 6 → S g = y g) (h2 : S 2 = y 0) : ShM (upG (up3 S 7 1 0 0) 0 (S 2)) (up3 (upG y 0 (y 0)) 7 1 0 0) := by
  intro g h2' h5 h6
  by_cases h0 : g = 0
  · subst h0; simp [up3, upG, h2]
  · by_cases h7 : g = 7
    · subst h7; simp [up3, upG, hp 7]
    · simp [up3, upG, h0, h7, hp g h0 h2' h6]

set_option maxHeartbeats 4000000 in
set_option maxRecDepth 20000 in
theorem c_X6_text (l : Launch) (G : GB) (b : Nat → Nat) (y : Q3) (n : Nat) (hn : y 7 1 0 = nI n) (hn2 : n ≤ 120)  : CI l yX6_text cX6_text 2 .int 9 199 G [.ref (b 0)] (wM G b y) (fun vR w' => vR = tmR (tmT y) ∧ PubM G b (up3 (upG y 0 (if (tmT y).1 6 1 2 = 0 then (tmT y).1 0 else y 0)) 7 1 0 0) w') := by
  refine CI.mk (own := RX6) (by decide) rfl (Nat.le_of_ble_eq_true rfl) ?_
  intro X E ret
  show J X G 2 0 0 (wM G b y) [(0, .ref (b 0))] 0 []
  have ho : okN (up3 (up3 (upG y 2 (y 0)) 6 1 2 0) 6 1 1 0) := ⟨n, 0, hn, hn2, rfl, Nat.zero_le _⟩
  refine J_aload_n E dX6_text_0 rfl 0 rfl ?_
  refine J_cVv0 E (As := []) (c_X6_lends l G b y ) cl_X6_160 yo_X6_lends dX6_text_1 rfl rfl rfl (Nat.le_of_ble_eq_true rfl) (Nat.le_of_ble_eq_true rfl) rfl (Nat.le_of_ble_eq_true rfl) ⟨Nat.zero_le _, Nat.zero_le _⟩ ?_
  refine J_aload_n E dX6_text_4 rfl 0 rfl ?_
  refine J_iconst E dX6_text_5 ic_0 ?_
  refine pM0_X6_227 E rfl rfl dX6_text_6 ?_
  refine J_aload_n E dX6_text_9 rfl 0 rfl ?_
  refine J_iconst E dX6_text_10 ic_0 ?_
  refine pM0_X6_217 E dX6_text_11 ?_
  refine J_aload_n E dX6_text_14 rfl 0 rfl ?_
  refine J_cVv0 E (As := []) (c_X6_next l G b (up3 (up3 (upG y 2 (y 0)) 6 1 2 0) 6 1 1 0) ho) cl_X6_240 yo_X6_next dX6_text_15 rfl rfl rfl (Nat.le_of_ble_eq_true rfl) (Nat.le_of_ble_eq_true rfl) rfl (Nat.le_of_ble_eq_true rfl) ⟨Nat.zero_le _, Nat.zero_le _⟩ ?_
  refine J_aload_n E dX6_text_18 rfl 0 rfl ?_
  refine J_cVv0 E (As := []) (c_X6_item l G b (nextMX (up3 (up3 (upG y 2 (y 0)) 6 1 2 0) 6 1 1 0)) (okT_nextM ho)) cl_X6_293 yo_X6_item dX6_text_19 rfl rfl rfl (Nat.le_of_ble_eq_true rfl) (Nat.le_of_ble_eq_true rfl) rfl (Nat.le_of_ble_eq_true rfl) ⟨Nat.zero_le _, Nat.zero_le _⟩ ?_
  refine J_iconst E dX6_text_22 ic_1 ?_
  refine J_istore_n E (lv' := [(1, .int 1), (0, .ref (b 0))]) dX6_text_23 rfl (by decide) rfl ?_
  have lp24 : ∀ (fu : Nat) (i : Nat) (S : Q3) (f : Nat), (okT S) → (prs (up3 (up3 (upG y 2 (y 0)) 6 1 2 0) 6 1 1 0) S) → (muM S ≤ f) → (tmT y = tmF f S i) → f < fu → J X G 2 0 0 (wM G b S) [(0, .ref (b 0)), (1, .int (nI i))] 24 [] := by
    intro fu
    induction fu with
    | zero => intro i S f hS hp hmu h1 hm; exact absurd hm (Nat.not_lt_zero _)
    | succ fu ih24 =>
      intro i S f hS hp hmu h1 hm
      obtain ⟨n', s, e, ⟨hn', hn2'⟩, hs, he, hse, hen⟩ := id hS
      refine J_aload_n E dX6_text_24 rfl 0 rfl ?_
      refine gM0_X6_227 E dX6_text_25 ?_
      refine J_if_ne E (tgt := 63) dX6_text_28 (by decide) (fun c_28 => ?_) (fun c_28 => ?_)
      · skip
        have h2 : tmT y = (S, i) := by rw [h1]; exact tmF_end (fun z => c_28 z.1)
        refine J_aload_n E dX6_text_63 rfl 0 rfl ?_
        refine J_iconst E dX6_text_64 ic_0 ?_
        refine pM0_X6_214 E dX6_text_65 ?_
        refine J_aload_n E dX6_text_68 rfl 0 rfl ?_
        refine gM0_X6_227 E dX6_text_69 ?_
        refine J_top (x' := S 6 1 2) (up3_row (by decide)) ?_
        refine J_if_eq E (tgt := 86) dX6_text_72 (by decide) (fun c_72 => ?_) (fun c_72 => ?_)
        · skip
          refine J_iload_n E dX6_text_86 rfl 1 rfl ?_
          exact ret _ _ _ _ ⟨by rw [h2, tmR, if_pos c_72], _, rfl, by rw [h2]; rw [if_pos c_72]; exact ShM_t0 (fun g a c d => (hp g a d).trans (by simp [up3, upG, c, d]))⟩ rfl dX6_text_87
        · skip
          refine J_aload_n E dX6_text_75 rfl 0 rfl ?_
          refine J_cVv0 E (As := []) (c_X6_laysBack l G b (up3 S 7 1 0 0) ) cl_X6_163 yo_X6_laysBack dX6_text_76 rfl rfl rfl (Nat.le_of_ble_eq_true rfl) (Nat.le_of_ble_eq_true rfl) rfl (Nat.le_of_ble_eq_true rfl) ⟨Nat.zero_le _, Nat.zero_le _⟩ ?_
          refine J_iconst E dX6_text_79 ic_m1 ?_
          refine J_aload_n E dX6_text_80 rfl 0 rfl ?_
          refine gM0_X6_220 E dX6_text_81 ?_
          refine J_top (x' := S 6 1 0) (Eq.trans (upG_n (by decide)) (up3_row (by decide))) ?_
          refine J_isub E dX6_text_84 ?_
          exact ret _ _ _ _ ⟨by rw [h2, tmR, if_neg c_72], _, rfl, by rw [h2]; rw [if_neg c_72]; exact ShM_t1 (fun g a c d => (hp g a d).trans (by simp [up3, upG, c, d])) ((hp 2 (by decide) (by decide)).trans (by simp [up3, upG]))⟩ rfl dX6_text_85
      · skip
        refine J_aload_n E dX6_text_31 rfl 0 rfl ?_
        refine gM0_X6_220 E dX6_text_32 ?_
        refine J_top (x' := nI s) (hs) ?_
        refine J_aload_n E dX6_text_35 rfl 0 rfl ?_
        refine gM0_X6_214 E dX6_text_36 ?_
        refine J_top (x' := nI n') (hn') ?_
        refine J_icmp_ge E (tgt := 63) dX6_text_39 (by decide) (fun c_39 => ?_) (fun c_39 => ?_)
        · skip
          have n_39 : n' ≤ s := cmp_le (a := n') (b := s) (by omega) (by omega) c_39
          have h2 : tmT y = (S, i) := by rw [h1]; exact tmF_end (fun z => by have z2 := z.2; rw [hs, hn', nI_clamp (by omega), nI_clamp (by omega)] at z2; omega)
          refine J_aload_n E dX6_text_63 rfl 0 rfl ?_
          refine J_iconst E dX6_text_64 ic_0 ?_
          refine pM0_X6_214 E dX6_text_65 ?_
          refine J_aload_n E dX6_text_68 rfl 0 rfl ?_
          refine gM0_X6_227 E dX6_text_69 ?_
          refine J_top (x' := S 6 1 2) (up3_row (by decide)) ?_
          refine J_if_eq E (tgt := 86) dX6_text_72 (by decide) (fun c_72 => ?_) (fun c_72 => ?_)
          · skip
            refine J_iload_n E dX6_text_86 rfl 1 rfl ?_
            exact ret _ _ _ _ ⟨by rw [h2, tmR, if_pos c_72], _, rfl, by rw [h2]; rw [if_pos c_72]; exact ShM_t0 (fun g a c d => (hp g a d).trans (by simp [up3, upG, c, d]))⟩ rfl dX6_text_87
          · skip
            refine J_aload_n E dX6_text_75 rfl 0 rfl ?_
            refine J_cVv0 E (As := []) (c_X6_laysBack l G b (up3 S 7 1 0 0) ) cl_X6_163 yo_X6_laysBack dX6_text_76 rfl rfl rfl (Nat.le_of_ble_eq_true rfl) (Nat.le_of_ble_eq_true rfl) rfl (Nat.le_of_ble_eq_true rfl) ⟨Nat.zero_le _, Nat.zero_le _⟩ ?_
            refine J_iconst E dX6_text_79 ic_m1 ?_
            refine J_aload_n E dX6_text_80 rfl 0 rfl ?_
            refine gM0_X6_220 E dX6_text_81 ?_
            refine J_top (x' := S 6 1 0) (Eq.trans (upG_n (by decide)) (up3_row (by decide))) ?_
            refine J_isub E dX6_text_84 ?_
            exact ret _ _ _ _ ⟨by rw [h2, tmR, if_neg c_72], _, rfl, by rw [h2]; rw [if_neg c_72]; exact ShM_t1 (fun g a c d => (hp g a d).trans (by simp [up3, upG, c, d])) ((hp 2 (by decide) (by decide)).trans (by simp [up3, upG]))⟩ rfl dX6_text_85
        · skip
          have n_39 : ¬ n' ≤ s := cmp_nle (a := n') (b := s) (by omega) (by omega) c_39
          have hlt := mu_lt hS c_28
          have hmp : 0 < muM S := by omega
          refine J_aload_n E dX6_text_42 rfl 0 rfl ?_
          refine J_aload_n E dX6_text_43 rfl 0 rfl ?_
          refine J_ldcwS E (q := 26) rfl dX6_text_44 ?_
          refine J_cVi0 E (As := [.ref (G.2.2.2.2.1 26)]) (c_X6_isWord l G b S 26 (by decide) hS) cl_X6_243 yo_X6_isWord dX6_text_47 rfl rfl rfl (Nat.le_of_ble_eq_true rfl) (Nat.le_of_ble_eq_true rfl) rfl (Nat.le_of_ble_eq_true rfl) ⟨Nat.zero_le _, Nat.zero_le _⟩ ?_
          refine J_cVv0 E (As := [.int (bI (isWM S 26 = true))]) (c_X6_must l G b S (isWM S 26) hS.n) cl_X6_247 yo_X6_must dX6_text_50 rfl rfl rfl (Nat.le_of_ble_eq_true rfl) (Nat.le_of_ble_eq_true rfl) rfl (Nat.le_of_ble_eq_true rfl) ⟨Nat.zero_le _, Nat.zero_le _⟩ ?_
          refine J_aload_n E dX6_text_53 rfl 0 rfl ?_
          refine J_cVv0 E (As := []) (c_X6_item l G b (mustX S (isWM S 26)) (okT_must hS _)) cl_X6_293 yo_X6_item dX6_text_54 rfl rfl rfl (Nat.le_of_ble_eq_true rfl) (Nat.le_of_ble_eq_true rfl) rfl (Nat.le_of_ble_eq_true rfl) ⟨Nat.zero_le _, Nat.zero_le _⟩ ?_
          refine J_iinc E (lv' := [(1, .int (nI (i + 1))), (0, .ref (b 0))]) dX6_text_57 1 rfl (nI_inc _) (by decide) rfl ?_
          refine J_goto E (tgt := 24) dX6_text_60 (by decide) ?_
          refine J_lv [1, 0] rfl ?_
          exact ih24 (i + 1) (itX (mustX S (isWM S 26))) (f - 1) (okT_it (okT_must hS _)) (hp.trans ((prs_must _ _).trans (prs_it _))) (by omega) (by rw [h1, show f = (f - 1) + 1 by omega, tmF, if_pos ⟨c_28, by rw [hs, hn', nI_clamp (by omega), nI_clamp (by omega)]; omega⟩]; rfl) (by omega)
  refine J_lv [1, 0] rfl ?_
  exact lp24 _ 1 (itX (nextMX (up3 (up3 (upG y 2 (y 0)) 6 1 2 0) 6 1 1 0))) 130 (okT_it (okT_nextM ho)) ((prs_next _).trans (prs_it _)) (by unfold muM; split <;> omega) rfl (Nat.lt_succ_self _)
