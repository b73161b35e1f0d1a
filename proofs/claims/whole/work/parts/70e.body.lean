/-! the law's body -/
def scr (X : JX) (b L : Nat) (xs : Nat → Int32) : Prop := va_X b L xs X.1.2.2.2.2.1 X.1.2.2.2.2.1.heap ∧ b < X.1.2.2.2.2.1.heap.size ∧ (¬ X.2.2 b) ∧ L ≤ 3072
abbrev lvL (b a0 h0 i : Nat) : List (Nat × Value) := [(3, .int (nI i)), (2, .ref h0), (1, .ref a0), (0, .ref b)]
section LAW
variable {X : JX} {l : Launch} {G : GB} {fr lo kc ks pc : Nat} {ws : va_W} {st : List Value} {b L a0 h0 i : Nat} {xs : Nat → Int32}
/-- a number of the script -/
theorem J_arg (E : JE X l G cL_law RL 4 fr lo) (S : scr X b L xs) (j : Nat) (hij : i + j < L) {c : Int} (hc : Int32.ofInt c = nI j) (d1 : decode cL_law pc = .ok (.aload_n 0, 1)) (d2 : decode cL_law (pc + 1) = .ok (.iload_n 3, 1)) (d3 : decode cL_law (pc + 1 + 1) = .ok (.iconst c, 1)) (d4 : decode cL_law (pc + 1 + 1 + 1) = .ok (.iadd, 1)) (d5 : decode cL_law (pc + 1 + 1 + 1 + 1) = .ok (.iaload, 1)) (K : J X G 4 kc ks ws (lvL b a0 h0 i) (pc + 1 + 1 + 1 + 1 + 1) (.int (xs (i + j)) :: st)) : J X G 4 kc ks ws (lvL b a0 h0 i) pc st := by
  obtain ⟨S1, S2, S3, S4⟩ := S
  refine J_aload_n E d1 rfl 3 rfl ?_
  refine J_iload_n E d2 rfl 0 rfl ?_
  refine J_iconst E d3 hc ?_
  refine J_iadd E d4 ?_
  rw [nI_add]
  intro H locs ls hP hD hS hl
  refine va_sld E.1 E.2.1 S1 S2 S3 hS (i := nI (i + j)) ?_ d5 ?_
  · intro z
    rcases z with z | z
    · exact nI_pos (by omega) z
    · rw [nI_clamp (by omega)] at z; omega
  · rw [nI_clamp (by omega)]
    exact K H locs ls hP hD hS hl
theorem J_arg0 (E : JE X l G cL_law RL 4 fr lo) (S : scr X b L xs) (hij : i < L) (d1 : decode cL_law pc = .ok (.aload_n 0, 1)) (d2 : decode cL_law (pc + 1) = .ok (.iload_n 3, 1)) (d5 : decode cL_law (pc + 1 + 1) = .ok (.iaload, 1)) (K : J X G 4 kc ks ws (lvL b a0 h0 i) (pc + 1 + 1 + 1) (.int (xs i) :: st)) : J X G 4 kc ks ws (lvL b a0 h0 i) pc st := by
  obtain ⟨S1, S2, S3, S4⟩ := S
  refine J_aload_n E d1 rfl 3 rfl ?_
  refine J_iload_n E d2 rfl 0 rfl ?_
  intro H locs ls hP hD hS hl
  refine va_sld E.1 E.2.1 S1 S2 S3 hS (i := nI i) ?_ d5 ?_
  · intro z
    rcases z with z | z
    · exact nI_pos (by omega) z
    · rw [nI_clamp (by omega)] at z; omega
  · rw [nI_clamp (by omega)]
    exact K H locs ls hP hD hS hl
theorem J_slen (E : JE X l G cL_law RL 4 fr lo) (S : scr X b L xs) {lv : List (Nat × Value)} (hd : decode cL_law pc = .ok (.arraylength, 1)) (K : J X G 4 kc ks ws lv (pc + 1) (.int (nI L) :: st)) : J X G 4 kc ks ws lv pc (.ref b :: st) := fun H locs ls hP hD hS hl => va_slen E.1 E.2.1 S.1 S.2.1 S.2.2.1 hS hd (K H locs ls hP hD hS hl)
end LAW
