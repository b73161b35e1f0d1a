theorem J_fillHead : True := trivial
set_option maxHeartbeats 4000000 in
set_option maxRecDepth 20000 in
/-- Arrays.fill(row, v) -/
theorem c_J7_fill_53178 (l : Launch) (G : GB) (p n : Nat) (f : Nat → Int32) (v : Int32) (hn : n ≤ 1000) : CV l yJ7_fill_53178 cJ7_fill_53178 4 0 0 0 0 G [.ref p, .int v] [(p, .inl (G.2.1, n, .inl f))] (fun w' => w' = [(p, .inl (G.2.1, n, .inl (fun _ => v)))]) := by
  refine CV.mk (own := RJ7) (by decide) rfl (Nat.le_of_ble_eq_true rfl) ?_
  intro X E _ _ _ ret
  show J X G 4 0 0 [(p, .inl (G.2.1, n, .inl f))] [(0, .ref p), (1, .int v)] 0 []
  refine J_iconst E dJ7_fill_53178_0 ic_0 ?_
  refine J_istore_n E (lv' := [(2, .int 0), (0, .ref p), (1, .int v)]) dJ7_fill_53178_1 rfl (by decide) rfl ?_
  refine J_aload_n E dJ7_fill_53178_2 rfl 1 rfl ?_
  refine J_alen E 0 dJ7_fill_53178_3 rfl (v := nI n) rfl ?_
  refine J_istore_n E (lv' := [(3, .int (nI n)), (2, .int 0), (0, .ref p), (1, .int v)]) dJ7_fill_53178_4 rfl (by decide) rfl ?_
  have lp : ∀ (k i : Nat) (g : Nat → Int32), i ≤ n → g = fillF f v i → n - i < k → J X G 4 0 0 [(p, .inl (G.2.1, n, .inl g))] [(3, .int (nI n)), (2, .int (nI i)), (0, .ref p), (1, .int v)] 5 [] := by
    intro k
    induction k with
    | zero => intro i g _ _ hm; exact absurd hm (Nat.not_lt_zero _)
    | succ k ih =>
      intro i g hi hg hm
      refine J_iload_n E dJ7_fill_53178_5 rfl 1 rfl ?_
      refine J_iload_n E dJ7_fill_53178_6 rfl 0 rfl ?_
      refine J_icmp_ge E (tgt := 20) dJ7_fill_53178_7 (by decide) (fun c_7 => ?_) (fun c_7 => ?_)
      · have n_7 : n ≤ i := cmp_le (by omega) (by omega) c_7
        have e : i = n := by omega
        refine J_arr 0 rfl (g := fun _ => v) (fun j hj => by rw [hg]; exact fillF_lt f v i j (by omega)) ?_
        exact ret _ _ _ rfl dJ7_fill_53178_20
      · have n_7 : ¬ n ≤ i := cmp_nle (by omega) (by omega) c_7
        refine J_aload_n E dJ7_fill_53178_10 rfl 2 rfl ?_
        refine J_iload_n E dJ7_fill_53178_11 rfl 1 rfl ?_
        refine J_iload_n E dJ7_fill_53178_12 rfl 3 rfl ?_
        refine J_iastN E (j := i) 0 dJ7_fill_53178_13 rfl (by omega) (by omega) ?_
        refine J_iinc E (lv' := [(2, .int (nI (i + 1))), (3, .int (nI n)), (0, .ref p), (1, .int v)]) dJ7_fill_53178_14 1 rfl (nI_inc _) (by decide) rfl ?_
        refine J_goto E (tgt := 5) dJ7_fill_53178_17 (by decide) ?_
        refine J_lv [1, 0, 2, 3] rfl ?_
        exact ih (i + 1) (upd g i v) (by omega) (by rw [hg]; rfl) (by omega)
  exact lp _ 0 f (Nat.zero_le _) rfl (Nat.lt_succ_self _)
def beginS (s : Q2) (b n : Int32) : Q2 := upR (up2 (up2 s 1 0 b) 1 1 n) 0 (fun _ => 0)
set_option maxHeartbeats 4000000 in
set_option maxRecDepth 20000 in
/-- Sheet.begin(bits, size) -/
theorem c_X2_begin (l : Launch) (G : GB) (h : Nat → Nat) (s : Q2) (b n : Int32) : CV l yX2_begin cX2_begin 3 1 23 0 0 G [.ref (h 0), .int b, .int n] (wS G h s) (fun w' => w' = wS G h (beginS s b n)) := by
  refine CV.mk (own := RX2) (by decide) rfl (Nat.le_of_ble_eq_true rfl) ?_
  intro X E _ _ _ ret
  show J X G 3 0 0 (wS G h s) [(0, .ref (h 0)), (1, .int b), (2, .int n)] 0 []
  refine J_aload_n E dX2_begin_0 rfl 0 rfl ?_
  refine J_iload_n E dX2_begin_1 rfl 1 rfl ?_
  refine pS0_X2_13 E dX2_begin_2 ?_
  refine J_aload_n E dX2_begin_5 rfl 0 rfl ?_
  refine J_iload_n E dX2_begin_6 rfl 2 rfl ?_
  refine pS0_X2_17 E dX2_begin_7 ?_
  refine J_aload_n E dX2_begin_10 rfl 0 rfl ?_
  refine gS0_X2_9 E dX2_begin_11 ?_
  refine J_iconst E dX2_begin_14 ic_0 ?_
  refine J_cSv1 E (As := [.ref (h 1), .int 0]) [(h 0, .inr (1, [.ref (h 1), .int b, .int n]))] [] (c_J7_fill_53178 l G (h 1) 40 (s 0) 0 (by decide)) cl_X2_20 yo_J7_fill_53178 dX2_begin_15 rfl (Nat.le_of_ble_eq_true rfl) (Nat.le_of_ble_eq_true rfl) rfl (Nat.le_of_ble_eq_true rfl) rfl ⟨Nat.zero_le _, Nat.zero_le _⟩ ?_
  refine J_w (ws' := wS G h (beginS s b n)) rfl ?_
  exact ret _ _ _ rfl dX2_begin_18
