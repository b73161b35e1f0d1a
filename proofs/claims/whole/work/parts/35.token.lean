/-- from i on while p holds -/
def runF (p : Nat → Bool) : Nat → Nat → Nat
  | 0, i => i
  | f + 1, i => if p i then runF p f (i + 1) else i
def endF (p : Nat → Bool) (i : Nat) : Nat := runF p (121 - i) i
theorem endF_t {p : Nat → Bool} {i : Nat} (h : i ≤ 120) (hp : p i = true) : endF p i = endF p (i + 1) := by
  unfold endF
  rw [show 121 - i = (121 - (i + 1)) + 1 by omega, runF, if_pos hp]
theorem endF_f {p : Nat → Bool} {i : Nat} (hp : ¬ p i = true) : endF p i = i := by
  unfold endF
  cases (121 - i) with
  | zero => rfl
  | succ f => rw [runF, if_neg hp]
theorem runF_le {p : Nat → Bool} {n : Nat} (h : ∀ i, p i = true → i < n) : ∀ f i, i ≤ n → runF p f i ≤ n
  | 0, _, hi => hi
  | f + 1, i, hi => by
    rw [runF]
    by_cases c : p i = true
    · rw [if_pos c]; exact runF_le h f (i + 1) (h i c)
    · rw [if_neg c]; exact hi
theorem runF_ge {p : Nat → Bool} : ∀ f i, i ≤ runF p f i
  | 0, _ => Nat.le_refl _
  | f + 1, i => by
    rw [runF]
    by_cases c : p i = true
    · rw [if_pos c]; exact Nat.le_trans (Nat.le_succ i) (runF_ge f (i + 1))
    · rw [if_neg c]; exact Nat.le_refl _
theorem runF_all {p : Nat → Bool} : ∀ f i j, i ≤ j → j < runF p f i → p j = true
  | 0, i, j, h1, h2 => absurd h2 (by rw [runF]; omega)
  | f + 1, i, j, h1, h2 => by
    rw [runF] at h2
    by_cases c : p i = true
    · rw [if_pos c] at h2
      rcases Nat.lt_or_eq_of_le h1 with h | rfl
      · exact runF_all f (i + 1) j h h2
      · exact c
    · rw [if_neg c] at h2; omega
theorem endF_le {p : Nat → Bool} {n i : Nat} (h : ∀ i, p i = true → i < n) (hi : i ≤ n) : endF p i ≤ n := runF_le h _ _ hi
theorem endF_ge {p : Nat → Bool} {i : Nat} : i ≤ endF p i := runF_ge _ _
theorem endF_all {p : Nat → Bool} {i j : Nat} (h1 : i ≤ j) (h2 : j < endF p i) : p j = true := runF_all _ _ _ h1 h2
def bet (f : Nat → Int32) (n : Nat) (lo hi : Int32) (i : Nat) : Bool := decide (i < n ∧ lo ≤ f i ∧ f i ≤ hi)
theorem bet_lt {f : Nat → Int32} {n : Nat} {lo hi : Int32} {i : Nat} (h : bet f n lo hi i = true) : i < n := (of_decide_eq_true h).1
theorem bet_t {f : Nat → Int32} {n : Nat} {lo hi : Int32} {i : Nat} (h : i < n ∧ lo ≤ f i ∧ f i ≤ hi) : bet f n lo hi i = true := decide_eq_true h
theorem bet_f {f : Nat → Int32} {n : Nat} {lo hi : Int32} {i : Nat} (h : ¬ (i < n ∧ lo ≤ f i ∧ f i ≤ hi)) : ¬ bet f n lo hi i = true := fun z => h (of_decide_eq_true z)
theorem bet_o {f : Nat → Int32} {n : Nat} {lo hi : Int32} {i : Nat} (h : n ≤ i) : ¬ bet f n lo hi i = true := fun z => absurd (bet_lt z) (by omega)
theorem bet_b {f : Nat → Int32} {n i : Nat} (h : i < n) (h2 : f i = 32) : bet f n 32 32 i = true := bet_t ⟨h, by rw [h2]; decide, by rw [h2]; decide⟩
theorem bet_nb {f : Nat → Int32} {n i : Nat} (h2 : ¬ f i = 32) : ¬ bet f n 32 32 i = true := bet_f (fun z => h2 (Int32.le_antisymm z.2.2 z.2.1))
def tokS (f : Nat → Int32) (n e : Nat) : Nat := endF (bet f n 32 32) e
def tokE (f : Nat → Int32) (n s : Nat) : Nat := if bet f n 97 122 s then endF (bet f n 97 122) s else if bet f n 48 57 s then endF (bet f n 48 57) s else if s < n then s + 1 else s
def tokK (f : Nat → Int32) (n s : Nat) : Int32 := if n ≤ s then 0 else if bet f n 97 122 s then 1 else if bet f n 48 57 s then 2 else if f s = 59 then 3 else 4
/-- the number of so many digits from s on, 10000 at most -/
def numF (f : Nat → Int32) (s : Nat) : Nat → Int32
  | 0 => 0
  | k + 1 => mn 10000 (numF f s k * 10 + f (s + k) - 48)
theorem tokS_le {f : Nat → Int32} {n e : Nat} (h : e ≤ n) : tokS f n e ≤ n := endF_le (fun _ => bet_lt) h
theorem tokE_le {f : Nat → Int32} {n s : Nat} (h : s ≤ n) : tokE f n s ≤ n := by
  unfold tokE
  split
  · exact endF_le (fun _ => bet_lt) h
  · split
    · exact endF_le (fun _ => bet_lt) h
    · split
      · omega
      · exact h
theorem tokE_ge {f : Nat → Int32} {n s : Nat} : s ≤ tokE f n s := by
  unfold tokE
  split
  · exact endF_ge
  · split
    · exact endF_ge
    · split
      · omega
      · exact Nat.le_refl _
def rd4 (r : Q2) (s e : Nat) (k v : Int32) : Q2 := fun i j => if i = 1 then (if j = 0 then nI s else if j = 1 then nI e else if j = 2 then k else if j = 3 then v else r i j) else r i j
theorem rdg_0 {q : Q3} {r : Q2} {s e : Nat} {k v : Int32} : upG q 6 (rd4 r s e k v) 6 1 0 = nI s := rfl
theorem rdg_1 {q : Q3} {r : Q2} {s e : Nat} {k v : Int32} : upG q 6 (rd4 r s e k v) 6 1 1 = nI e := rfl
theorem rdg_2 {q : Q3} {r : Q2} {s e : Nat} {k v : Int32} : upG q 6 (rd4 r s e k v) 6 1 2 = k := rfl
theorem rdg_3 {q : Q3} {r : Q2} {s e : Nat} {k v : Int32} : upG q 6 (rd4 r s e k v) 6 1 3 = v := rfl
theorem rdw {q : Q3} {r : Q2} {s e s' e' : Nat} {k v k' v' x : Int32} (j : Nat) (h : ∀ i, (if i = j then x else rd4 r s e k v 1 i) = rd4 r s' e' k' v' 1 i) : up3 (upG q 6 (rd4 r s e k v)) 6 1 j x = upG q 6 (rd4 r s' e' k' v') := by
  funext g i y
  by_cases hg : g = 6
  · subst hg
    by_cases hi : i = 1
    · subst hi
      have := h y
      simp only [up3, upG, up2, upd, if_true]
      exact this
    · simp [up3, upG, up2, rd4, hi]
  · simp [up3, upG, hg]
theorem rdw_0 {q : Q3} {r : Q2} {s e s' : Nat} {k v : Int32} : up3 (upG q 6 (rd4 r s e k v)) 6 1 0 (nI s') = upG q 6 (rd4 r s' e k v) := rdw 0 (fun i => by by_cases h : i = 0 <;> simp [rd4, h])
theorem rdw_1 {q : Q3} {r : Q2} {s e e' : Nat} {k v : Int32} : up3 (upG q 6 (rd4 r s e k v)) 6 1 1 (nI e') = upG q 6 (rd4 r s e' k v) := rdw 1 (fun i => by by_cases h : i = 1 <;> simp [rd4, h])
theorem rdw_2 {q : Q3} {r : Q2} {s e : Nat} {k v k' : Int32} : up3 (upG q 6 (rd4 r s e k v)) 6 1 2 k' = upG q 6 (rd4 r s e k' v) := rdw 2 (fun i => by by_cases h : i = 2 <;> simp [rd4, h])
theorem rdw_3 {q : Q3} {r : Q2} {s e : Nat} {k v v' : Int32} : up3 (upG q 6 (rd4 r s e k v)) 6 1 3 v' = upG q 6 (rd4 r s e k v') := rdw 3 (fun i => by by_cases h : i = 3 <;> simp [rd4, h])
/-- the start of next(): start is where the last one ended -/
theorem rd_in {q : Q3} {e : Nat} (he : q 6 1 1 = nI e) : up3 q 6 1 0 (q 6 1 1) = upG q 6 (rd4 (q 6) e e (q 6 1 2) (q 6 1 3)) := by
  funext g i y
  by_cases hg : g = 6
  · subst hg
    by_cases hi : i = 1
    · subst hi
      by_cases h0 : y = 0
      · subst h0; simp [up3, up2, upd, upG, rd4, he]
      · by_cases h1 : y = 1
        · subst h1; simp [up3, up2, upd, upG, rd4, he]
        · by_cases h2 : y = 2
          · subst h2; simp [up3, up2, upd, upG, rd4]
          · by_cases h3 : y = 3
            · subst h3; simp [up3, up2, upd, upG, rd4]
            · simp [up3, up2, upd, upG, rd4, h0, h1, h2, h3]
    · simp [up3, up2, upG, rd4, hi]
  · simp [up3, upG, hg]
def nextR (f : Nat → Int32) (n : Nat) (r : Q2) (e : Nat) : Q2 := rd4 r (tokS f n e) (tokE f n (tokS f n e)) (tokK f n (tokS f n e)) (if tokK f n (tokS f n e) = 2 then numF f (tokS f n e) (tokE f n (tokS f n e) - tokS f n e) else r 1 3)
/-- the next token -/
def nextX (q : Q3) : Q3 := upG q 6 (nextR (q 7 0) (q 7 1 0).toNatClampNeg (q 6) (q 6 1 1).toNatClampNeg)
theorem nextX_eq {q : Q3} {n e s e' : Nat} {k v : Int32} (hn : q 7 1 0 = nI n) (hn2 : n ≤ 120) (he : q 6 1 1 = nI e) (he2 : e ≤ n) (hs : s = tokS (q 7 0) n e) (he' : e' = tokE (q 7 0) n s) (hk : k = tokK (q 7 0) n s) (hv : v = if k = 2 then numF (q 7 0) s (e' - s) else q 6 1 3) : upG q 6 (rd4 (q 6) s e' k v) = nextX q := by
  rw [nextX, hn, he, nI_clamp (by omega), nI_clamp (by omega), nextR, hv, hk, he', hs]
def okN (q : Q3) : Prop := ∃ n e : Nat, q 7 1 0 = nI n ∧ n ≤ 120 ∧ q 6 1 1 = nI e ∧ e ≤ n
def okT (q : Q3) : Prop := ∃ n s e : Nat, (q 7 1 0 = nI n ∧ n ≤ 120) ∧ q 6 1 0 = nI s ∧ q 6 1 1 = nI e ∧ s ≤ e ∧ e ≤ n
theorem okT.n {q : Q3} (h : okT q) : okN q := by
  obtain ⟨n, s, e, ⟨h1, h2⟩, -, h4, -, h6⟩ := h
  exact ⟨n, e, h1, h2, h4, h6⟩
theorem okT_next {q : Q3} (h : okN q) : okT (nextX q) := by
  obtain ⟨n, e, h1, h2, h4, h6⟩ := h
  rw [← nextX_eq h1 h2 h4 h6 rfl rfl rfl rfl]
  exact ⟨n, _, _, ⟨h1, h2⟩, rfl, rfl, tokE_ge, tokE_le (tokS_le h6)⟩
theorem okT_up {q : Q3} (h : okT q) (r j : Nat) (v : Int32) : okT (up3 q 0 r j v) := by
  obtain ⟨n, s, e, ⟨h1, h2⟩, h3, h4, h5, h6⟩ := h
  exact ⟨n, s, e, ⟨by rw [up3_row (by omega)]; exact h1, h2⟩, by rw [up3_row (by omega)]; exact h3, by rw [up3_row (by omega)]; exact h4, h5, h6⟩
def isW (q : Q3) (i : Nat) : Bool := decide (q 6 1 2 = 1 ∧ (q 6 1 1).toNatClampNeg - (q 6 1 0).toNatClampNeg = (byS i).length ∧ ∀ j, j < (byS i).length → q 7 0 ((q 6 1 0).toNatClampNeg + j) = (byS i).getD j 0)
theorem isW_iff {q : Q3} {i n s e : Nat} (hn : n ≤ 120) (hs : q 6 1 0 = nI s) (he : q 6 1 1 = nI e) (h1 : s ≤ e) (h2 : e ≤ n) : isW q i = true ↔ (q 6 1 2 = 1 ∧ e - s = (byS i).length ∧ ∀ j, j < (byS i).length → q 7 0 (s + j) = (byS i).getD j 0) := by
  rw [isW, hs, he, nI_clamp (by omega), nI_clamp (by omega), decide_eq_true_iff]
def isN (q : Q3) (m : Int32) : Bool := decide (q 6 1 2 = 2 ∧ q 6 1 3 ≤ m)
section TQR
variable {X : JX} {l : Launch} {G : GB} {cc : ByteArray} {nL fr lo kc ks pc : Nat} {lv : List (Nat × Value)} {st : List Value}
theorem J_tqi (E : JE X l G cc RX4 nL fr lo) {y : MethodName} {bc : ByteArray} {mL fr' lo' idx na : Nat} {rt : FieldType} {R : Int32} {As rest : List Value} {h : Nat → Nat} {q : Q3} (hc : CI l y bc mL rt fr' lo' G (.ref (h 1) :: As) (wT G (sh h 1) (q 7)) (fun v w' => v = R ∧ w' = wT G (sh h 1) (q 7))) (hg : GoodIn lw_T (wsV RX4 idx RX3 y (WS y bc mL (some rt)))) (hy : y.cls = RX3 ∧ y.cls ≠ "java/lang/invoke/MethodHandle" ∧ y.cls ≠ "java/lang/invoke/VarHandle" ∧ (parseMethodDescriptor y.desc).map (fun d => d.parameters.length) = some na) (hd : decode cc pc = .ok (.invokevirtual idx, 3)) (hn : As.length = na) (hR1 : fr' + 1 ≤ fr) (hR2 : 8 + (mL + 11) + lo' ≤ lo) (hst : st = As.reverse ++ .ref (h 1) :: rest) (hrm : (rest.map fun v => v.category).sum ≤ 8) (hk : kc ≤ X.1.2.2.2.1.cells ∧ ks ≤ X.1.2.2.2.1.slots) (K : J X G nL kc ks (wTQ G h q) lv (pc + 3) (.int R :: rest)) : J X G nL kc ks (wTQ G h q) lv pc st :=
  J_cVi1 E [(h 0, .inr (3, [.ref (h 1), .int (q 6 1 0), .int (q 6 1 1), .int (q 6 1 2), .int (q 6 1 3)]))] (wQ G (sh h 3) (q 0)) hc hg hy hd rfl rfl hn hR1 hR2 hst hrm rfl hk (J_w rfl K)
end TQR

set_option maxHeartbeats 4000000 in
set_option maxRecDepth 20000 in
theorem c_X4_readWord (l : Launch) (G : GB) (h : Nat → Nat) (q : Q3) (r : Q2) (s e : Nat) (k v : Int32) (n : Nat) (hn : q 7 1 0 = nI n) (hn2 : n ≤ 120) (he2 : e ≤ n)  : CV l yX4_readWord cX4_readWord 1 1 23 0 0 G [.ref (h 0)] (wTQ G h (upG q 6 (rd4 r s e k v))) (fun w' => w' = wTQ G h (upG q 6 (rd4 r s (endF (bet (q 7 0) n 97 122) e) 1 v))) := by
  refine CV.mk (own := RX4) (by decide) rfl (Nat.le_of_ble_eq_true rfl) ?_
  intro X E _ _ _ ret
  show J X G 1 0 0 (wTQ G h (upG q 6 (rd4 r s e k v))) [(0, .ref (h 0))] 0 []
  refine J_aload_n E dX4_readWord_0 rfl 0 rfl ?_
  refine J_iconst E dX4_readWord_1 ic_1 ?_
  refine pTQ0_X4_26 E dX4_readWord_2 ?_
  refine J_w (ws' := wTQ G h (upG q 6 (rd4 r s e 1 v))) (congrArg (wTQ G h) rdw_2) ?_
  have lp5 : ∀ (fu : Nat) (i : Nat), (i ≤ n) → (endF (bet (q 7 0) n 97 122) e = endF (bet (q 7 0) n 97 122) i) → n - i < fu → J X G 1 0 0 (wTQ G h (upG q 6 (rd4 r s i 1 v))) [(0, .ref (h 0))] 5 [] := by
    intro fu
    induction fu with
    | zero => intro i hi h1 hm; exact absurd hm (Nat.not_lt_zero _)
    | succ fu ih5 =>
      intro i hi h1 hm
      refine J_aload_n E dX4_readWord_5 rfl 0 rfl ?_
      refine gTQ0_X4_15 E dX4_readWord_6 ?_
      refine J_top (x' := nI i) rdg_1 ?_
      refine J_aload_n E dX4_readWord_9 rfl 0 rfl ?_
      refine gTQ0_X4_9 E dX4_readWord_10 ?_
      refine gTQ1_X4_123 E dX4_readWord_13 ?_
      refine J_top (x' := q 7 1 0) (upG_n (by decide)) ?_
      refine J_top (x' := nI n) (hn) ?_
      refine J_icmp_ge E (tgt := 50) dX4_readWord_16 (by decide) (fun c_16 => ?_) (fun c_16 => ?_)
      · skip
        have n_16 : n ≤ i := cmp_le (a := n) (b := i) (by omega) (by omega) c_16
        exact ret _ _ _ (congrArg (wTQ G h) (by first | rw [h1, endF_f (bet_o (by omega))] | rw [h1, endF_f (bet_f c_34)])) dX4_readWord_50
      · skip
        have n_16 : ¬ n ≤ i := cmp_nle (a := n) (b := i) (by omega) (by omega) c_16
        refine J_aload_n E dX4_readWord_19 rfl 0 rfl ?_
        refine gTQ0_X4_9 E dX4_readWord_20 ?_
        refine J_aload_n E dX4_readWord_23 rfl 0 rfl ?_
        refine gTQ0_X4_15 E dX4_readWord_24 ?_
        refine J_top (x' := nI i) rdg_1 ?_
        refine J_bipush E dX4_readWord_27 bp_97 ?_
        refine J_bipush E dX4_readWord_29 bp_122 ?_
        refine J_tqi E (As := [.int (nI i), .int 97, .int 122]) (c_X3_isBetween l G (sh h 1) (q 7) _ i 97 122 hn hn2 (by omega)) cl_X4_126 yo_X3_isBetween dX4_readWord_31 rfl (Nat.le_of_ble_eq_true rfl) (Nat.le_of_ble_eq_true rfl) rfl (Nat.le_of_ble_eq_true rfl) ⟨Nat.zero_le _, Nat.zero_le _⟩ ?_
        refine J_if_eq E (tgt := 50) dX4_readWord_34 (by decide) (fun c_34 => ?_) (fun c_34 => ?_)
        · skip
          have c_34 := bI_0 c_34
          exact ret _ _ _ (congrArg (wTQ G h) (by first | rw [h1, endF_f (bet_o (by omega))] | rw [h1, endF_f (bet_f c_34)])) dX4_readWord_50
        · skip
          have c_34 := bI_1 c_34
          refine J_aload_n E dX4_readWord_37 rfl 0 rfl ?_
          refine J_dup E dX4_readWord_38 rfl ?_
          refine gTQ0_X4_15 E dX4_readWord_39 ?_
          refine J_top (x' := nI i) rdg_1 ?_
          refine J_iconst E dX4_readWord_42 ic_1 ?_
          refine J_iadd E dX4_readWord_43 ?_
          refine J_top (x' := nI (i + 1)) (nI_1 i) ?_
          refine pTQ0_X4_15 E dX4_readWord_44 ?_
          refine J_w (ws' := wTQ G h (upG q 6 (rd4 r s (i + 1) 1 v))) (congrArg (wTQ G h) rdw_1) ?_
          refine J_goto E (tgt := 5) dX4_readWord_47 (by decide) ?_
          refine J_lv [0] rfl ?_
          exact ih5 (i + 1) (by omega) (by rw [h1]; exact endF_t (by omega) (bet_t c_34)) (by omega)
  refine J_lv [0] rfl ?_
  exact lp5 _ e he2 rfl (Nat.lt_succ_self _)

set_option maxHeartbeats 4000000 in
set_option maxRecDepth 20000 in
theorem c_X4_readNumber (l : Launch) (G : GB) (h : Nat → Nat) (q : Q3) (r : Q2) (s e : Nat) (k v : Int32) (n : Nat) (hn : q 7 1 0 = nI n) (hn2 : n ≤ 120) (he2 : e ≤ n)  : CV l yX4_readNumber cX4_readNumber 1 1 23 0 0 G [.ref (h 0)] (wTQ G h (upG q 6 (rd4 r s e k v))) (fun w' => w' = wTQ G h (upG q 6 (rd4 r s (endF (bet (q 7 0) n 48 57) e) 2 (numF (q 7 0) e (endF (bet (q 7 0) n 48 57) e - e))))) := by
  refine CV.mk (own := RX4) (by decide) rfl (Nat.le_of_ble_eq_true rfl) ?_
  intro X E _ _ _ ret
  show J X G 1 0 0 (wTQ G h (upG q 6 (rd4 r s e k v))) [(0, .ref (h 0))] 0 []
  refine J_aload_n E dX4_readNumber_0 rfl 0 rfl ?_
  refine J_iconst E dX4_readNumber_1 ic_2 ?_
  refine pTQ0_X4_26 E dX4_readNumber_2 ?_
  refine J_w (ws' := wTQ G h (upG q 6 (rd4 r s e 2 v))) (congrArg (wTQ G h) rdw_2) ?_
  refine J_aload_n E dX4_readNumber_5 rfl 0 rfl ?_
  refine J_iconst E dX4_readNumber_6 ic_0 ?_
  refine pTQ0_X4_51 E dX4_readNumber_7 ?_
  refine J_w (ws' := wTQ G h (upG q 6 (rd4 r s e 2 0))) (congrArg (wTQ G h) rdw_3) ?_
  have lp10 : ∀ (fu : Nat) (i : Nat) (z : Int32), (i ≤ n) → (e ≤ i) → (endF (bet (q 7 0) n 48 57) e = endF (bet (q 7 0) n 48 57) i) → (z = numF (q 7 0) e (i - e)) → n - i < fu → J X G 1 0 0 (wTQ G h (upG q 6 (rd4 r s i 2 z))) [(0, .ref (h 0))] 10 [] := by
    intro fu
    induction fu with
    | zero => intro i z hi he h1 h2 hm; exact absurd hm (Nat.not_lt_zero _)
    | succ fu ih10 =>
      intro i z hi he h1 h2 hm
      refine J_aload_n E dX4_readNumber_10 rfl 0 rfl ?_
      refine gTQ0_X4_15 E dX4_readNumber_11 ?_
      refine J_top (x' := nI i) rdg_1 ?_
      refine J_aload_n E dX4_readNumber_14 rfl 0 rfl ?_
      refine gTQ0_X4_9 E dX4_readNumber_15 ?_
      refine gTQ1_X4_123 E dX4_readNumber_18 ?_
      refine J_top (x' := q 7 1 0) (upG_n (by decide)) ?_
      refine J_top (x' := nI n) (hn) ?_
      refine J_icmp_ge E (tgt := 88) dX4_readNumber_21 (by decide) (fun c_21 => ?_) (fun c_21 => ?_)
      · skip
        have n_21 : n ≤ i := cmp_le (a := n) (b := i) (by omega) (by omega) c_21
        exact ret _ _ _ (congrArg (wTQ G h) (by first | rw [h1, endF_f (bet_o (by omega)), h2] | rw [h1, endF_f (bet_f c_39), h2])) dX4_readNumber_88
      · skip
        have n_21 : ¬ n ≤ i := cmp_nle (a := n) (b := i) (by omega) (by omega) c_21
        refine J_aload_n E dX4_readNumber_24 rfl 0 rfl ?_
        refine gTQ0_X4_9 E dX4_readNumber_25 ?_
        refine J_aload_n E dX4_readNumber_28 rfl 0 rfl ?_
        refine gTQ0_X4_15 E dX4_readNumber_29 ?_
        refine J_top (x' := nI i) rdg_1 ?_
        refine J_bipush E dX4_readNumber_32 bp_48 ?_
        refine J_bipush E dX4_readNumber_34 bp_57 ?_
        refine J_tqi E (As := [.int (nI i), .int 48, .int 57]) (c_X3_isBetween l G (sh h 1) (q 7) _ i 48 57 hn hn2 (by omega)) cl_X4_126 yo_X3_isBetween dX4_readNumber_36 rfl (Nat.le_of_ble_eq_true rfl) (Nat.le_of_ble_eq_true rfl) rfl (Nat.le_of_ble_eq_true rfl) ⟨Nat.zero_le _, Nat.zero_le _⟩ ?_
        refine J_if_eq E (tgt := 88) dX4_readNumber_39 (by decide) (fun c_39 => ?_) (fun c_39 => ?_)
        · skip
          have c_39 := bI_0 c_39
          exact ret _ _ _ (congrArg (wTQ G h) (by first | rw [h1, endF_f (bet_o (by omega)), h2] | rw [h1, endF_f (bet_f c_39), h2])) dX4_readNumber_88
        · skip
          have c_39 := bI_1 c_39
          refine J_aload_n E dX4_readNumber_42 rfl 0 rfl ?_
          refine J_sipush E dX4_readNumber_43 sp_10000 ?_
          refine J_aload_n E dX4_readNumber_46 rfl 0 rfl ?_
          refine gTQ0_X4_51 E dX4_readNumber_47 ?_
          refine J_top (x' := z) rdg_3 ?_
          refine J_bipush E dX4_readNumber_50 bp_10 ?_
          refine J_imul E dX4_readNumber_52 ?_
          refine J_aload_n E dX4_readNumber_53 rfl 0 rfl ?_
          refine gTQ0_X4_9 E dX4_readNumber_54 ?_
          refine gTQ1_X4_116 E dX4_readNumber_57 ?_
          refine J_aload_n E dX4_readNumber_60 rfl 0 rfl ?_
          refine gTQ0_X4_15 E dX4_readNumber_61 ?_
          refine J_top (x' := nI i) rdg_1 ?_
          refine lTQ_2 E (j := i) dX4_readNumber_64 (by omega) ?_
          refine J_top (x' := q 7 0 i) (upG_n (by decide)) ?_
          refine J_iadd E dX4_readNumber_65 ?_
          refine J_bipush E dX4_readNumber_66 bp_48 ?_
          refine J_isub E dX4_readNumber_68 ?_
          refine J_mmin E ml_X4_136 st_mmin ini_J9 co_mmin dX4_readNumber_69 (by decide) (Nat.le_of_ble_eq_true rfl) ⟨Nat.zero_le _, Nat.zero_le _⟩ ?_
          refine pTQ0_X4_51 E dX4_readNumber_72 ?_
          refine J_w (ws' := wTQ G h (upG q 6 (rd4 r s i 2 (mn 10000 (((z * 10) + (q 7 0 i)) - 48))))) (congrArg (wTQ G h) rdw_3) ?_
          refine J_aload_n E dX4_readNumber_75 rfl 0 rfl ?_
          refine J_dup E dX4_readNumber_76 rfl ?_
          refine gTQ0_X4_15 E dX4_readNumber_77 ?_
          refine J_top (x' := nI i) rdg_1 ?_
          refine J_iconst E dX4_readNumber_80 ic_1 ?_
          refine J_iadd E dX4_readNumber_81 ?_
          refine J_top (x' := nI (i + 1)) (nI_1 i) ?_
          refine pTQ0_X4_15 E dX4_readNumber_82 ?_
          refine J_w (ws' := wTQ G h (upG q 6 (rd4 r s (i + 1) 2 (mn 10000 (((z * 10) + (q 7 0 i)) - 48))))) (congrArg (wTQ G h) rdw_1) ?_
          refine J_goto E (tgt := 10) dX4_readNumber_85 (by decide) ?_
          refine J_lv [0] rfl ?_
          exact ih10 (i + 1) (mn 10000 (((z * 10) + (q 7 0 i)) - 48)) (by omega) (by omega) (by rw [h1]; exact endF_t (by omega) (bet_t c_39)) (by rw [h2, show i + 1 - e = (i - e) + 1 by omega, numF, show e + (i - e) = i by omega]) (by omega)
  refine J_lv [0] rfl ?_
  exact lp10 _ e 0 he2 (Nat.le_refl _) rfl (by rw [Nat.sub_self]; rfl) (Nat.lt_succ_self _)

set_option maxHeartbeats 4000000 in
set_option maxRecDepth 20000 in
theorem c_X4_nextToken (l : Launch) (G : GB) (h : Nat → Nat) (q : Q3) (hq : okN q) : CV l yX4_nextToken cX4_nextToken 1 2 43 0 0 G [.ref (h 0)] (wTQ G h q) (fun w' => w' = wTQ G h (nextX q)) := by
  refine CV.mk (own := RX4) (by decide) rfl (Nat.le_of_ble_eq_true rfl) ?_
  intro X E _ _ _ ret
  show J X G 1 0 0 (wTQ G h q) [(0, .ref (h 0))] 0 []
  obtain ⟨n, e, hn, hn2, he, he2⟩ := hq
  refine J_aload_n E dX4_nextToken_0 rfl 0 rfl ?_
  refine J_aload_n E dX4_nextToken_1 rfl 0 rfl ?_
  refine gTQ0_X4_15 E dX4_nextToken_2 ?_
  refine pTQ0_X4_31 E dX4_nextToken_5 ?_
  refine J_w (ws' := wTQ G h (upG q 6 (rd4 (q 6) e e (q 6 1 2) (q 6 1 3)))) (congrArg (wTQ G h) (rd_in he)) ?_
  have lp8 : ∀ (fu : Nat) (i : Nat), (i ≤ n) → (endF (bet (q 7 0) n 32 32) e = endF (bet (q 7 0) n 32 32) i) → n - i < fu → J X G 1 0 0 (wTQ G h (upG q 6 (rd4 (q 6) i e (q 6 1 2) (q 6 1 3)))) [(0, .ref (h 0))] 8 [] := by
    intro fu
    induction fu with
    | zero => intro i hi h1 hm; exact absurd hm (Nat.not_lt_zero _)
    | succ fu ih8 =>
      intro i hi h1 hm
      refine J_aload_n E dX4_nextToken_8 rfl 0 rfl ?_
      refine gTQ0_X4_31 E dX4_nextToken_9 ?_
      refine J_top (x' := nI i) rdg_0 ?_
      refine J_aload_n E dX4_nextToken_12 rfl 0 rfl ?_
      refine gTQ0_X4_9 E dX4_nextToken_13 ?_
      refine gTQ1_X4_123 E dX4_nextToken_16 ?_
      refine J_top (x' := q 7 1 0) (upG_n (by decide)) ?_
      refine J_top (x' := nI n) (hn) ?_
      refine J_icmp_ge E (tgt := 52) dX4_nextToken_19 (by decide) (fun c_19 => ?_) (fun c_19 => ?_)
      · skip
        have n_19 : n ≤ i := cmp_le (a := n) (b := i) (by omega) (by omega) c_19
        refine J_aload_n E dX4_nextToken_52 rfl 0 rfl ?_
        refine J_aload_n E dX4_nextToken_53 rfl 0 rfl ?_
        refine gTQ0_X4_31 E dX4_nextToken_54 ?_
        refine J_top (x' := nI i) rdg_0 ?_
        refine pTQ0_X4_15 E dX4_nextToken_57 ?_
        refine J_w (ws' := wTQ G h (upG q 6 (rd4 (q 6) i i (q 6 1 2) (q 6 1 3)))) (congrArg (wTQ G h) rdw_1) ?_
        refine J_aload_n E dX4_nextToken_60 rfl 0 rfl ?_
        refine gTQ0_X4_31 E dX4_nextToken_61 ?_
        refine J_top (x' := nI i) rdg_0 ?_
        refine J_aload_n E dX4_nextToken_64 rfl 0 rfl ?_
        refine gTQ0_X4_9 E dX4_nextToken_65 ?_
        refine gTQ1_X4_123 E dX4_nextToken_68 ?_
        refine J_top (x' := q 7 1 0) (upG_n (by decide)) ?_
        refine J_top (x' := nI n) (hn) ?_
        refine J_icmp_lt E (tgt := 82) dX4_nextToken_71 (by decide) (fun c_71 => ?_) (fun c_71 => ?_)
        · skip
          have n_71 : i < n := cmp_lt (a := i) (b := n) (by omega) (by omega) c_71
          refine J_aload_n E dX4_nextToken_82 rfl 0 rfl ?_
          refine gTQ0_X4_9 E dX4_nextToken_83 ?_
          refine J_aload_n E dX4_nextToken_86 rfl 0 rfl ?_
          refine gTQ0_X4_31 E dX4_nextToken_87 ?_
          refine J_top (x' := nI i) rdg_0 ?_
          refine J_bipush E dX4_nextToken_90 bp_97 ?_
          refine J_bipush E dX4_nextToken_92 bp_122 ?_
          refine J_tqi E (As := [.int (nI i), .int 97, .int 122]) (c_X3_isBetween l G (sh h 1) (q 7) _ i 97 122 hn hn2 (by omega)) cl_X4_126 yo_X3_isBetween dX4_nextToken_94 rfl (Nat.le_of_ble_eq_true rfl) (Nat.le_of_ble_eq_true rfl) rfl (Nat.le_of_ble_eq_true rfl) ⟨Nat.zero_le _, Nat.zero_le _⟩ ?_
          refine J_if_eq E (tgt := 107) dX4_nextToken_97 (by decide) (fun c_97 => ?_) (fun c_97 => ?_)
          · skip
            have c_97 := bI_0 c_97
            refine J_aload_n E dX4_nextToken_107 rfl 0 rfl ?_
            refine gTQ0_X4_9 E dX4_nextToken_108 ?_
            refine J_aload_n E dX4_nextToken_111 rfl 0 rfl ?_
            refine gTQ0_X4_31 E dX4_nextToken_112 ?_
            refine J_top (x' := nI i) rdg_0 ?_
            refine J_bipush E dX4_nextToken_115 bp_48 ?_
            refine J_bipush E dX4_nextToken_117 bp_57 ?_
            refine J_tqi E (As := [.int (nI i), .int 48, .int 57]) (c_X3_isBetween l G (sh h 1) (q 7) _ i 48 57 hn hn2 (by omega)) cl_X4_126 yo_X3_isBetween dX4_nextToken_119 rfl (Nat.le_of_ble_eq_true rfl) (Nat.le_of_ble_eq_true rfl) rfl (Nat.le_of_ble_eq_true rfl) ⟨Nat.zero_le _, Nat.zero_le _⟩ ?_
            refine J_if_eq E (tgt := 132) dX4_nextToken_122 (by decide) (fun c_122 => ?_) (fun c_122 => ?_)
            · skip
              have c_122 := bI_0 c_122
              refine J_aload_n E dX4_nextToken_132 rfl 0 rfl ?_
              refine J_aload_n E dX4_nextToken_133 rfl 0 rfl ?_
              refine gTQ0_X4_9 E dX4_nextToken_134 ?_
              refine gTQ1_X4_116 E dX4_nextToken_137 ?_
              refine J_aload_n E dX4_nextToken_140 rfl 0 rfl ?_
              refine gTQ0_X4_31 E dX4_nextToken_141 ?_
              refine J_top (x' := nI i) rdg_0 ?_
              refine lTQ_2 E (j := i) dX4_nextToken_144 (by omega) ?_
              refine J_top (x' := q 7 0 i) (upG_n (by decide)) ?_
              refine J_bipush E dX4_nextToken_145 bp_59 ?_
              refine J_icmp_ne E (tgt := 154) dX4_nextToken_147 (by decide) (fun c_147 => ?_) (fun c_147 => ?_)
              · skip
                refine J_iconst E dX4_nextToken_154 ic_4 ?_
                refine pTQ0_X4_26 E dX4_nextToken_155 ?_
                refine J_w (ws' := wTQ G h (upG q 6 (rd4 (q 6) i i 4 (q 6 1 3)))) (congrArg (wTQ G h) rdw_2) ?_
                refine J_aload_n E dX4_nextToken_158 rfl 0 rfl ?_
                refine J_aload_n E dX4_nextToken_159 rfl 0 rfl ?_
                refine gTQ0_X4_31 E dX4_nextToken_160 ?_
                refine J_top (x' := nI i) rdg_0 ?_
                refine J_iconst E dX4_nextToken_163 ic_1 ?_
                refine J_iadd E dX4_nextToken_164 ?_
                refine J_top (x' := nI (i + 1)) (nI_1 i) ?_
                refine pTQ0_X4_15 E dX4_nextToken_165 ?_
                refine J_w (ws' := wTQ G h (upG q 6 (rd4 (q 6) i (i + 1) 4 (q 6 1 3)))) (congrArg (wTQ G h) rdw_1) ?_
                have hS : i = tokS (q 7 0) n e := by unfold tokS; rw [h1]; first | exact (endF_f (bet_o (by omega))).symm | exact (endF_f (bet_nb c_36)).symm
                refine ret _ _ _ (congrArg (wTQ G h) (nextX_eq hn hn2 he he2 hS ?_ ?_ ?_)) dX4_nextToken_168
                · rw [tokE, if_neg (bet_f c_97), if_neg (bet_f c_122), if_pos (by omega)]
                · rw [tokK, if_neg (by omega), if_neg (bet_f c_97), if_neg (bet_f c_122)]; first | rw [if_pos c_147] | rw [if_neg c_147]
                · rw [if_neg (by decide)]
              · skip
                refine J_iconst E dX4_nextToken_150 ic_3 ?_
                refine J_goto E (tgt := 155) dX4_nextToken_151 (by decide) ?_
                refine pTQ0_X4_26 E dX4_nextToken_155 ?_
                refine J_w (ws' := wTQ G h (upG q 6 (rd4 (q 6) i i 3 (q 6 1 3)))) (congrArg (wTQ G h) rdw_2) ?_
                refine J_aload_n E dX4_nextToken_158 rfl 0 rfl ?_
                refine J_aload_n E dX4_nextToken_159 rfl 0 rfl ?_
                refine gTQ0_X4_31 E dX4_nextToken_160 ?_
                refine J_top (x' := nI i) rdg_0 ?_
                refine J_iconst E dX4_nextToken_163 ic_1 ?_
                refine J_iadd E dX4_nextToken_164 ?_
                refine J_top (x' := nI (i + 1)) (nI_1 i) ?_
                refine pTQ0_X4_15 E dX4_nextToken_165 ?_
                refine J_w (ws' := wTQ G h (upG q 6 (rd4 (q 6) i (i + 1) 3 (q 6 1 3)))) (congrArg (wTQ G h) rdw_1) ?_
                have hS : i = tokS (q 7 0) n e := by unfold tokS; rw [h1]; first | exact (endF_f (bet_o (by omega))).symm | exact (endF_f (bet_nb c_36)).symm
                refine ret _ _ _ (congrArg (wTQ G h) (nextX_eq hn hn2 he he2 hS ?_ ?_ ?_)) dX4_nextToken_168
                · rw [tokE, if_neg (bet_f c_97), if_neg (bet_f c_122), if_pos (by omega)]
                · rw [tokK, if_neg (by omega), if_neg (bet_f c_97), if_neg (bet_f c_122)]; first | rw [if_pos c_147] | rw [if_neg c_147]
                · rw [if_neg (by decide)]
            · skip
              have c_122 := bI_1 c_122
              refine J_aload_n E dX4_nextToken_125 rfl 0 rfl ?_
              refine J_cVv0 E (As := []) (c_X4_readNumber l G h q (q 6) i i (q 6 1 2) (q 6 1 3) n hn hn2 (by omega)) cl_X4_133 yo_X4_readNumber dX4_nextToken_126 rfl rfl rfl (Nat.le_of_ble_eq_true rfl) (Nat.le_of_ble_eq_true rfl) rfl (Nat.le_of_ble_eq_true rfl) ⟨Nat.zero_le _, Nat.zero_le _⟩ ?_
              refine J_goto E (tgt := 168) dX4_nextToken_129 (by decide) ?_
              have hS : i = tokS (q 7 0) n e := by unfold tokS; rw [h1]; first | exact (endF_f (bet_o (by omega))).symm | exact (endF_f (bet_nb c_36)).symm
              refine ret _ _ _ (congrArg (wTQ G h) (nextX_eq hn hn2 he he2 hS ?_ ?_ ?_)) dX4_nextToken_168
              · rw [tokE, if_neg (bet_f c_97), if_pos (bet_t c_122)]
              · rw [tokK, if_neg (by omega), if_neg (bet_f c_97), if_pos (bet_t c_122)]
              · rw [if_pos rfl]
          · skip
            have c_97 := bI_1 c_97
            refine J_aload_n E dX4_nextToken_100 rfl 0 rfl ?_
            refine J_cVv0 E (As := []) (c_X4_readWord l G h q (q 6) i i (q 6 1 2) (q 6 1 3) n hn hn2 (by omega)) cl_X4_130 yo_X4_readWord dX4_nextToken_101 rfl rfl rfl (Nat.le_of_ble_eq_true rfl) (Nat.le_of_ble_eq_true rfl) rfl (Nat.le_of_ble_eq_true rfl) ⟨Nat.zero_le _, Nat.zero_le _⟩ ?_
            refine J_goto E (tgt := 168) dX4_nextToken_104 (by decide) ?_
            have hS : i = tokS (q 7 0) n e := by unfold tokS; rw [h1]; first | exact (endF_f (bet_o (by omega))).symm | exact (endF_f (bet_nb c_36)).symm
            refine ret _ _ _ (congrArg (wTQ G h) (nextX_eq hn hn2 he he2 hS ?_ ?_ ?_)) dX4_nextToken_168
            · rw [tokE, if_pos (bet_t c_97)]
            · rw [tokK, if_neg (by omega), if_pos (bet_t c_97)]
            · rw [if_neg (by decide)]
        · skip
          have n_71 : ¬ i < n := cmp_nlt (a := i) (b := n) (by omega) (by omega) c_71
          refine J_aload_n E dX4_nextToken_74 rfl 0 rfl ?_
          refine J_iconst E dX4_nextToken_75 ic_0 ?_
          refine pTQ0_X4_26 E dX4_nextToken_76 ?_
          refine J_w (ws' := wTQ G h (upG q 6 (rd4 (q 6) i i 0 (q 6 1 3)))) (congrArg (wTQ G h) rdw_2) ?_
          refine J_goto E (tgt := 168) dX4_nextToken_79 (by decide) ?_
          have hS : i = tokS (q 7 0) n e := by unfold tokS; rw [h1]; first | exact (endF_f (bet_o (by omega))).symm | exact (endF_f (bet_nb c_36)).symm
          refine ret _ _ _ (congrArg (wTQ G h) (nextX_eq hn hn2 he he2 hS ?_ ?_ ?_)) dX4_nextToken_168
          · rw [tokE, if_neg (bet_o (by omega)), if_neg (bet_o (by omega)), if_neg (by omega)]
          · rw [tokK, if_pos (by omega)]
          · rw [if_neg (by decide)]
      · skip
        have n_19 : ¬ n ≤ i := cmp_nle (a := n) (b := i) (by omega) (by omega) c_19
        refine J_aload_n E dX4_nextToken_22 rfl 0 rfl ?_
        refine gTQ0_X4_9 E dX4_nextToken_23 ?_
        refine gTQ1_X4_116 E dX4_nextToken_26 ?_
        refine J_aload_n E dX4_nextToken_29 rfl 0 rfl ?_
        refine gTQ0_X4_31 E dX4_nextToken_30 ?_
        refine J_top (x' := nI i) rdg_0 ?_
        refine lTQ_2 E (j := i) dX4_nextToken_33 (by omega) ?_
        refine J_top (x' := q 7 0 i) (upG_n (by decide)) ?_
        refine J_bipush E dX4_nextToken_34 bp_32 ?_
        refine J_icmp_ne E (tgt := 52) dX4_nextToken_36 (by decide) (fun c_36 => ?_) (fun c_36 => ?_)
        · skip
          refine J_aload_n E dX4_nextToken_52 rfl 0 rfl ?_
          refine J_aload_n E dX4_nextToken_53 rfl 0 rfl ?_
          refine gTQ0_X4_31 E dX4_nextToken_54 ?_
          refine J_top (x' := nI i) rdg_0 ?_
          refine pTQ0_X4_15 E dX4_nextToken_57 ?_
          refine J_w (ws' := wTQ G h (upG q 6 (rd4 (q 6) i i (q 6 1 2) (q 6 1 3)))) (congrArg (wTQ G h) rdw_1) ?_
          refine J_aload_n E dX4_nextToken_60 rfl 0 rfl ?_
          refine gTQ0_X4_31 E dX4_nextToken_61 ?_
          refine J_top (x' := nI i) rdg_0 ?_
          refine J_aload_n E dX4_nextToken_64 rfl 0 rfl ?_
          refine gTQ0_X4_9 E dX4_nextToken_65 ?_
          refine gTQ1_X4_123 E dX4_nextToken_68 ?_
          refine J_top (x' := q 7 1 0) (upG_n (by decide)) ?_
          refine J_top (x' := nI n) (hn) ?_
          refine J_icmp_lt E (tgt := 82) dX4_nextToken_71 (by decide) (fun c_71 => ?_) (fun c_71 => ?_)
          · skip
            have n_71 : i < n := cmp_lt (a := i) (b := n) (by omega) (by omega) c_71
            refine J_aload_n E dX4_nextToken_82 rfl 0 rfl ?_
            refine gTQ0_X4_9 E dX4_nextToken_83 ?_
            refine J_aload_n E dX4_nextToken_86 rfl 0 rfl ?_
            refine gTQ0_X4_31 E dX4_nextToken_87 ?_
            refine J_top (x' := nI i) rdg_0 ?_
            refine J_bipush E dX4_nextToken_90 bp_97 ?_
            refine J_bipush E dX4_nextToken_92 bp_122 ?_
            refine J_tqi E (As := [.int (nI i), .int 97, .int 122]) (c_X3_isBetween l G (sh h 1) (q 7) _ i 97 122 hn hn2 (by omega)) cl_X4_126 yo_X3_isBetween dX4_nextToken_94 rfl (Nat.le_of_ble_eq_true rfl) (Nat.le_of_ble_eq_true rfl) rfl (Nat.le_of_ble_eq_true rfl) ⟨Nat.zero_le _, Nat.zero_le _⟩ ?_
            refine J_if_eq E (tgt := 107) dX4_nextToken_97 (by decide) (fun c_97 => ?_) (fun c_97 => ?_)
            · skip
              have c_97 := bI_0 c_97
              refine J_aload_n E dX4_nextToken_107 rfl 0 rfl ?_
              refine gTQ0_X4_9 E dX4_nextToken_108 ?_
              refine J_aload_n E dX4_nextToken_111 rfl 0 rfl ?_
              refine gTQ0_X4_31 E dX4_nextToken_112 ?_
              refine J_top (x' := nI i) rdg_0 ?_
              refine J_bipush E dX4_nextToken_115 bp_48 ?_
              refine J_bipush E dX4_nextToken_117 bp_57 ?_
              refine J_tqi E (As := [.int (nI i), .int 48, .int 57]) (c_X3_isBetween l G (sh h 1) (q 7) _ i 48 57 hn hn2 (by omega)) cl_X4_126 yo_X3_isBetween dX4_nextToken_119 rfl (Nat.le_of_ble_eq_true rfl) (Nat.le_of_ble_eq_true rfl) rfl (Nat.le_of_ble_eq_true rfl) ⟨Nat.zero_le _, Nat.zero_le _⟩ ?_
              refine J_if_eq E (tgt := 132) dX4_nextToken_122 (by decide) (fun c_122 => ?_) (fun c_122 => ?_)
              · skip
                have c_122 := bI_0 c_122
                refine J_aload_n E dX4_nextToken_132 rfl 0 rfl ?_
                refine J_aload_n E dX4_nextToken_133 rfl 0 rfl ?_
                refine gTQ0_X4_9 E dX4_nextToken_134 ?_
                refine gTQ1_X4_116 E dX4_nextToken_137 ?_
                refine J_aload_n E dX4_nextToken_140 rfl 0 rfl ?_
                refine gTQ0_X4_31 E dX4_nextToken_141 ?_
                refine J_top (x' := nI i) rdg_0 ?_
                refine lTQ_2 E (j := i) dX4_nextToken_144 (by omega) ?_
                refine J_top (x' := q 7 0 i) (upG_n (by decide)) ?_
                refine J_bipush E dX4_nextToken_145 bp_59 ?_
                refine J_icmp_ne E (tgt := 154) dX4_nextToken_147 (by decide) (fun c_147 => ?_) (fun c_147 => ?_)
                · skip
                  refine J_iconst E dX4_nextToken_154 ic_4 ?_
                  refine pTQ0_X4_26 E dX4_nextToken_155 ?_
                  refine J_w (ws' := wTQ G h (upG q 6 (rd4 (q 6) i i 4 (q 6 1 3)))) (congrArg (wTQ G h) rdw_2) ?_
                  refine J_aload_n E dX4_nextToken_158 rfl 0 rfl ?_
                  refine J_aload_n E dX4_nextToken_159 rfl 0 rfl ?_
                  refine gTQ0_X4_31 E dX4_nextToken_160 ?_
                  refine J_top (x' := nI i) rdg_0 ?_
                  refine J_iconst E dX4_nextToken_163 ic_1 ?_
                  refine J_iadd E dX4_nextToken_164 ?_
                  refine J_top (x' := nI (i + 1)) (nI_1 i) ?_
                  refine pTQ0_X4_15 E dX4_nextToken_165 ?_
                  refine J_w (ws' := wTQ G h (upG q 6 (rd4 (q 6) i (i + 1) 4 (q 6 1 3)))) (congrArg (wTQ G h) rdw_1) ?_
                  have hS : i = tokS (q 7 0) n e := by unfold tokS; rw [h1]; first | exact (endF_f (bet_o (by omega))).symm | exact (endF_f (bet_nb c_36)).symm
                  refine ret _ _ _ (congrArg (wTQ G h) (nextX_eq hn hn2 he he2 hS ?_ ?_ ?_)) dX4_nextToken_168
                  · rw [tokE, if_neg (bet_f c_97), if_neg (bet_f c_122), if_pos (by omega)]
                  · rw [tokK, if_neg (by omega), if_neg (bet_f c_97), if_neg (bet_f c_122)]; first | rw [if_pos c_147] | rw [if_neg c_147]
                  · rw [if_neg (by decide)]
                · skip
                  refine J_iconst E dX4_nextToken_150 ic_3 ?_
                  refine J_goto E (tgt := 155) dX4_nextToken_151 (by decide) ?_
                  refine pTQ0_X4_26 E dX4_nextToken_155 ?_
                  refine J_w (ws' := wTQ G h (upG q 6 (rd4 (q 6) i i 3 (q 6 1 3)))) (congrArg (wTQ G h) rdw_2) ?_
                  refine J_aload_n E dX4_nextToken_158 rfl 0 rfl ?_
                  refine J_aload_n E dX4_nextToken_159 rfl 0 rfl ?_
                  refine gTQ0_X4_31 E dX4_nextToken_160 ?_
                  refine J_top (x' := nI i) rdg_0 ?_
                  refine J_iconst E dX4_nextToken_163 ic_1 ?_
                  refine J_iadd E dX4_nextToken_164 ?_
                  refine J_top (x' := nI (i + 1)) (nI_1 i) ?_
                  refine pTQ0_X4_15 E dX4_nextToken_165 ?_
                  refine J_w (ws' := wTQ G h (upG q 6 (rd4 (q 6) i (i + 1) 3 (q 6 1 3)))) (congrArg (wTQ G h) rdw_1) ?_
                  have hS : i = tokS (q 7 0) n e := by unfold tokS; rw [h1]; first | exact (endF_f (bet_o (by omega))).symm | exact (endF_f (bet_nb c_36)).symm
                  refine ret _ _ _ (congrArg (wTQ G h) (nextX_eq hn hn2 he he2 hS ?_ ?_ ?_)) dX4_nextToken_168
                  · rw [tokE, if_neg (bet_f c_97), if_neg (bet_f c_122), if_pos (by omega)]
                  · rw [tokK, if_neg (by omega), if_neg (bet_f c_97), if_neg (bet_f c_122)]; first | rw [if_pos c_147] | rw [if_neg c_147]
                  · rw [if_neg (by decide)]
              · skip
                have c_122 := bI_1 c_122
                refine J_aload_n E dX4_nextToken_125 rfl 0 rfl ?_
                refine J_cVv0 E (As := []) (c_X4_readNumber l G h q (q 6) i i (q 6 1 2) (q 6 1 3) n hn hn2 (by omega)) cl_X4_133 yo_X4_readNumber dX4_nextToken_126 rfl rfl rfl (Nat.le_of_ble_eq_true rfl) (Nat.le_of_ble_eq_true rfl) rfl (Nat.le_of_ble_eq_true rfl) ⟨Nat.zero_le _, Nat.zero_le _⟩ ?_
                refine J_goto E (tgt := 168) dX4_nextToken_129 (by decide) ?_
                have hS : i = tokS (q 7 0) n e := by unfold tokS; rw [h1]; first | exact (endF_f (bet_o (by omega))).symm | exact (endF_f (bet_nb c_36)).symm
                refine ret _ _ _ (congrArg (wTQ G h) (nextX_eq hn hn2 he he2 hS ?_ ?_ ?_)) dX4_nextToken_168
                · rw [tokE, if_neg (bet_f c_97), if_pos (bet_t c_122)]
                · rw [tokK, if_neg (by omega), if_neg (bet_f c_97), if_pos (bet_t c_122)]
                · rw [if_pos rfl]
            · skip
              have c_97 := bI_1 c_97
              refine J_aload_n E dX4_nextToken_100 rfl 0 rfl ?_
              refine J_cVv0 E (As := []) (c_X4_readWord l G h q (q 6) i i (q 6 1 2) (q 6 1 3) n hn hn2 (by omega)) cl_X4_130 yo_X4_readWord dX4_nextToken_101 rfl rfl rfl (Nat.le_of_ble_eq_true rfl) (Nat.le_of_ble_eq_true rfl) rfl (Nat.le_of_ble_eq_true rfl) ⟨Nat.zero_le _, Nat.zero_le _⟩ ?_
              refine J_goto E (tgt := 168) dX4_nextToken_104 (by decide) ?_
              have hS : i = tokS (q 7 0) n e := by unfold tokS; rw [h1]; first | exact (endF_f (bet_o (by omega))).symm | exact (endF_f (bet_nb c_36)).symm
              refine ret _ _ _ (congrArg (wTQ G h) (nextX_eq hn hn2 he he2 hS ?_ ?_ ?_)) dX4_nextToken_168
              · rw [tokE, if_pos (bet_t c_97)]
              · rw [tokK, if_neg (by omega), if_pos (bet_t c_97)]
              · rw [if_neg (by decide)]
          · skip
            have n_71 : ¬ i < n := cmp_nlt (a := i) (b := n) (by omega) (by omega) c_71
            refine J_aload_n E dX4_nextToken_74 rfl 0 rfl ?_
            refine J_iconst E dX4_nextToken_75 ic_0 ?_
            refine pTQ0_X4_26 E dX4_nextToken_76 ?_
            refine J_w (ws' := wTQ G h (upG q 6 (rd4 (q 6) i i 0 (q 6 1 3)))) (congrArg (wTQ G h) rdw_2) ?_
            refine J_goto E (tgt := 168) dX4_nextToken_79 (by decide) ?_
            have hS : i = tokS (q 7 0) n e := by unfold tokS; rw [h1]; first | exact (endF_f (bet_o (by omega))).symm | exact (endF_f (bet_nb c_36)).symm
            refine ret _ _ _ (congrArg (wTQ G h) (nextX_eq hn hn2 he he2 hS ?_ ?_ ?_)) dX4_nextToken_168
            · rw [tokE, if_neg (bet_o (by omega)), if_neg (bet_o (by omega)), if_neg (by omega)]
            · rw [tokK, if_pos (by omega)]
            · rw [if_neg (by decide)]
        · skip
          refine J_aload_n E dX4_nextToken_39 rfl 0 rfl ?_
          refine J_dup E dX4_nextToken_40 rfl ?_
          refine gTQ0_X4_31 E dX4_nextToken_41 ?_
          refine J_top (x' := nI i) rdg_0 ?_
          refine J_iconst E dX4_nextToken_44 ic_1 ?_
          refine J_iadd E dX4_nextToken_45 ?_
          refine J_top (x' := nI (i + 1)) (nI_1 i) ?_
          refine pTQ0_X4_31 E dX4_nextToken_46 ?_
          refine J_w (ws' := wTQ G h (upG q 6 (rd4 (q 6) (i + 1) e (q 6 1 2) (q 6 1 3)))) (congrArg (wTQ G h) rdw_0) ?_
          refine J_goto E (tgt := 8) dX4_nextToken_49 (by decide) ?_
          refine J_lv [0] rfl ?_
          exact ih8 (i + 1) (by omega) (by rw [h1]; exact endF_t (by omega) (bet_b (by omega) c_36)) (by omega)
  refine J_lv [0] rfl ?_
  exact lp8 _ e he2 rfl (Nat.lt_succ_self _)
