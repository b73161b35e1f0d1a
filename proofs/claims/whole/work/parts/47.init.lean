section JN
variable {X : JX} {l : Launch} {G : GB} {cc : ByteArray} {own : String} {nL fr lo kc ks pc : Nat} {ws : va_W} {lv : List (Nat × Value)} {st : List Value}
theorem J_objInit (E : JE X l G cc own nL fr lo) {idx a : Nat} (hml : Cond.methodLink own idx objectInit ∈ lw_T) (hd : decode cc pc = .ok (.invokespecial idx, 3)) (hf : 1 ≤ fr) (ho : (st.map fun v => v.category).sum + 12 ≤ lo) (K : J X G nL kc ks ws lv (pc + 3) st) : J X G nL kc ks ws lv pc (.ref a :: st) := by
  intro H locs ls hP hD hS hl
  obtain ⟨hx, hb, hml', hown, hts, hK, hA, rfl, hC, hf1, hf2⟩ := E
  refine W.objInit hx hb hown (hts _ hml) (hts _ im_objInit) (hts _ co_objInit) rfl (by rw [hml']; exact hl.1) rfl hd (Nat.le_trans hf hf1) (by show 2 * 0 + _ + 12 ≤ _; rw [Nat.mul_zero, Nat.zero_add]; exact Nat.le_trans ho hf2) ?_
  exact K H locs ls hP hD hS hl
theorem J_newa (E : JE X l G cc own nL fr lo) {n : Int32} {m : Nat} (hn : ¬ n < 0) (hm : n.toNatClampNeg = m) (hby : m * 4 ≤ 536870912) (hc : kc + 1 ≤ X.1.2.2.2.1.cells) (hs : ks + m ≤ X.1.2.2.2.1.slots) (hd : decode cc pc = .ok (.newarray .int, 2))
    (K : ∀ q : Nat, J X G nL (kc + 1) (ks + m) (ws ++ [(q, .inl (G.2.1, m, .inl (fun _ => 0)))]) lv (pc + 2) (.ref q :: st)) : J X G nL kc ks ws lv pc (.int n :: st) := by
  intro H locs ls hP hD hS hl
  obtain ⟨hx, hb, hml', hown, hts, hK, hA, rfl, hC, hf1, hf2⟩ := E
  refine va_newaK hx hb (atype := .int) (hts _ ac_int) rfl hd rfl hn hm hby hc hs rfl (fun H1 cA e1 z1 o1 hAr hNm => ?_)
  obtain rfl : cA = G.2.1 := Option.some.inj (hNm.symm.trans (hK.2 0 _ rfl).2)
  have hk : ∀ (k : Nat) (x : Nat × va_E), ws[k]? = some x → H1[x.1]? = H[x.1]? := fun k x hx => o1 x.1 ((hP k x hx).lt)
  refine K H.size H1 locs ls ((hP.kept hk).app (fun k x hx => ?_)) (hD.push hP rfl (hA _ hS.1)) ⟨Nat.le_trans hS.1 (by omega), fun x h1 h2 => (o1 x (Nat.lt_of_lt_of_le h1 hS.1)).trans (hS.2.1 x h1 h2), hS.2.2⟩ hl
  have hz : k < 1 := (List.getElem?_eq_some_iff.mp hx).1
  rw [show k = 0 by omega] at hx
  cases hx
  show H1[H.size]? = some (vp_cell _ _)
  rw [vp_cell_i]
  exact e1
theorem J_new (E : JE X l G cc own nL fr lo) {C : String} {T : u_T} {N ci idx : Nat} {ty0 : Nat → FieldType} {fs : List Value} (hin : ∀ w ∈ u_ws C T N, w ∈ lw_T) (hty : ∀ k, k < N → parseFieldDescriptor (T k).2.2.1 = some (ty0 k)) (hcl : Cond.classLink own idx C ∈ lw_T) (hib : Cond.instantiable C N ∈ lw_T) (hini : Cond.initialized C ∈ lw_T) (hc : vwCl[ci]? = some (C, T, N)) (hfs : ∀ j, j < N → defaultValue (ty0 j) = vp_V fs j) (hcs : kc + 1 ≤ X.1.2.2.2.1.cells) (hss : ks + N ≤ X.1.2.2.2.1.slots) (hd : decode cc pc = .ok (.new idx, 3))
    (K : ∀ q : Nat, J X G nL (kc + 1) (ks + N) (ws ++ [(q, .inr (ci, fs))]) lv (pc + 3) (.ref q :: st)) : J X G nL kc ks ws lv pc st := by
  intro H locs ls hP hD hS hl
  obtain ⟨hx, hb, hml', hown, hts, hK, hA, rfl, hC, hf1, hf2⟩ := E
  exact va_new hx hb hts hin ty0 hty hown (hts _ hcl) (hts _ hib) (hts _ hini) hK hP hD hS hA hc hfs hcs hss hd (fun q H1 hP hD hS => K q H1 locs ls hP hD hS hl)
end JN
def adL (s : List Nat) : Nat → Nat := fun j => s.getD j 0
/-- a new quarter -/
def iniQ : Q2 := fun r => match r with
  | 2 => fun _ => 2
  | 3 => fun _ => 10
  | 6 => fun _ => -1
  | 7 => fun j => match j with
    | 1 => 1
    | 2 => 20
    | _ => 0
  | _ => fun _ => 0

set_option maxHeartbeats 4000000 in
set_option maxRecDepth 20000 in
theorem c_X2_init (l : Launch) (G : GB) (b : Nat) : CV l yX2_init cX2_init 1 1 12 1 40 G [.ref b] [(b, .inr (1, [.null, .int 0, .int 0]))] (fun w' => ∃ h : Nat → Nat, h 0 = b ∧ w' = wS G h (fun _ _ => 0)) := by
  refine CV.mk (own := RX2) (by decide) rfl (Nat.le_of_ble_eq_true rfl) ?_
  intro X E hi hc hs ret
  show J X G 1 0 0 [(b, .inr (1, [.null, .int 0, .int 0]))] [(0, .ref b)] 0 []
  refine J_aload_n E dX2_init_0 rfl 0 rfl ?_
  refine J_objInit E ml_X2_1 dX2_init_1 (Nat.le_of_ble_eq_true rfl) (Nat.le_of_ble_eq_true rfl) ?_
  refine J_aload_n E dX2_init_4 rfl 0 rfl ?_
  refine J_bipush E (v := (40)) dX2_init_5 (by decide) ?_
  refine J_newa E (m := 40) (by decide) (by decide) (Nat.le_of_ble_eq_true rfl) (by rw [hc]; exact (Nat.le_of_ble_eq_true rfl)) (by rw [hs]; exact (Nat.le_of_ble_eq_true rfl)) dX2_init_7 (fun q1 => ?_)
  refine J_w (ws' := [(b, .inr (1, [.null, .int 0, .int 0])), (q1, .inl (G.2.1, 40, .inl (fun _ => 0)))]) rfl ?_
  refine pf_X2_9 E 0 hi dX2_init_9 rfl (Nat.le_of_ble_eq_true rfl) ?_
  refine J_w (ws' := [(b, .inr (1, [.ref q1, .int 0, .int 0])), (q1, .inl (G.2.1, 40, .inl (fun _ => 0)))]) rfl ?_
  exact ret _ _ _ ⟨adL [b, q1], rfl, rfl⟩ dX2_init_12

set_option maxHeartbeats 4000000 in
set_option maxRecDepth 20000 in
theorem c_X3_init (l : Launch) (G : GB) (b : Nat) : CV l yX3_init cX3_init 1 1 12 1 120 G [.ref b] [(b, .inr (2, [.null, .int 0]))] (fun w' => ∃ h : Nat → Nat, h 0 = b ∧ w' = wT G h (fun _ _ => 0)) := by
  refine CV.mk (own := RX3) (by decide) rfl (Nat.le_of_ble_eq_true rfl) ?_
  intro X E hi hc hs ret
  show J X G 1 0 0 [(b, .inr (2, [.null, .int 0]))] [(0, .ref b)] 0 []
  refine J_aload_n E dX3_init_0 rfl 0 rfl ?_
  refine J_objInit E ml_X3_1 dX3_init_1 (Nat.le_of_ble_eq_true rfl) (Nat.le_of_ble_eq_true rfl) ?_
  refine J_aload_n E dX3_init_4 rfl 0 rfl ?_
  refine J_bipush E (v := (120)) dX3_init_5 (by decide) ?_
  refine J_newa E (m := 120) (by decide) (by decide) (Nat.le_of_ble_eq_true rfl) (by rw [hc]; exact (Nat.le_of_ble_eq_true rfl)) (by rw [hs]; exact (Nat.le_of_ble_eq_true rfl)) dX3_init_7 (fun q1 => ?_)
  refine J_w (ws' := [(b, .inr (2, [.null, .int 0])), (q1, .inl (G.2.1, 120, .inl (fun _ => 0)))]) rfl ?_
  refine pf_X3_9 E 0 hi dX3_init_9 rfl (Nat.le_of_ble_eq_true rfl) ?_
  refine J_w (ws' := [(b, .inr (2, [.ref q1, .int 0])), (q1, .inl (G.2.1, 120, .inl (fun _ => 0)))]) rfl ?_
  exact ret _ _ _ ⟨adL [b, q1], rfl, rfl⟩ dX3_init_12

set_option maxHeartbeats 4000000 in
set_option maxRecDepth 20000 in
theorem c_X4_init (l : Launch) (G : GB) (b t : Nat) : CV l yX4_init cX4_init 2 1 12 0 0 G [.ref b, .ref t] [(b, .inr (3, [.null, .int 0, .int 0, .int 0, .int 0]))] (fun w' => w' = [(b, .inr (3, [.ref t, .int 0, .int 0, .int 0, .int 0]))]) := by
  refine CV.mk (own := RX4) (by decide) rfl (Nat.le_of_ble_eq_true rfl) ?_
  intro X E hi hc hs ret
  show J X G 2 0 0 [(b, .inr (3, [.null, .int 0, .int 0, .int 0, .int 0]))] [(0, .ref b), (1, .ref t)] 0 []
  refine J_aload_n E dX4_init_0 rfl 0 rfl ?_
  refine J_objInit E ml_X4_3 dX4_init_1 (Nat.le_of_ble_eq_true rfl) (Nat.le_of_ble_eq_true rfl) ?_
  refine J_aload_n E dX4_init_4 rfl 0 rfl ?_
  refine J_aload_n E dX4_init_5 rfl 1 rfl ?_
  refine pf_X4_9 E 0 hi dX4_init_6 rfl (Nat.le_of_ble_eq_true rfl) ?_
  refine J_w (ws' := [(b, .inr (3, [.ref t, .int 0, .int 0, .int 0, .int 0]))]) rfl ?_
  exact ret _ _ _ rfl dX4_init_9

set_option maxHeartbeats 4000000 in
set_option maxRecDepth 20000 in
theorem c_X1_init (l : Launch) (G : GB) (b : Nat) : CV l yX1_init cX1_init 1 1 40 7 76 G [.ref b] [(b, .inr (0, [.null, .null, .null, .null, .null, .null, .null, .int 0, .int 0, .int 0, .int 0, .int 0]))] (fun w' => ∃ h : Nat → Nat, h 0 = b ∧ w' = wQ G h iniQ) := by
  refine CV.mk (own := RX1) (by decide) rfl (Nat.le_of_ble_eq_true rfl) ?_
  intro X E hi hc hs ret
  show J X G 1 0 0 [(b, .inr (0, [.null, .null, .null, .null, .null, .null, .null, .int 0, .int 0, .int 0, .int 0, .int 0]))] [(0, .ref b)] 0 []
  refine J_aload_n E dX1_init_0 rfl 0 rfl ?_
  refine J_objInit E ml_X1_3 dX1_init_1 (Nat.le_of_ble_eq_true rfl) (Nat.le_of_ble_eq_true rfl) ?_
  refine J_aload_n E dX1_init_4 rfl 0 rfl ?_
  refine J_bipush E (v := (11)) dX1_init_5 (by decide) ?_
  refine J_newa E (m := 11) (by decide) (by decide) (Nat.le_of_ble_eq_true rfl) (by rw [hc]; exact (Nat.le_of_ble_eq_true rfl)) (by rw [hs]; exact (Nat.le_of_ble_eq_true rfl)) dX1_init_7 (fun q1 => ?_)
  refine J_w (ws' := [(b, .inr (0, [.null, .null, .null, .null, .null, .null, .null, .int 0, .int 0, .int 0, .int 0, .int 0])), (q1, .inl (G.2.1, 11, .inl (fun _ => 0)))]) rfl ?_
  refine pf_X1_9 E 0 hi dX1_init_9 rfl (Nat.le_of_ble_eq_true rfl) ?_
  refine J_w (ws' := [(b, .inr (0, [.ref q1, .null, .null, .null, .null, .null, .null, .int 0, .int 0, .int 0, .int 0, .int 0])), (q1, .inl (G.2.1, 11, .inl (fun _ => 0)))]) rfl ?_
  refine J_aload_n E dX1_init_12 rfl 0 rfl ?_
  refine J_bipush E (v := (11)) dX1_init_13 (by decide) ?_
  refine J_newa E (m := 11) (by decide) (by decide) (Nat.le_of_ble_eq_true rfl) (by rw [hc]; exact (Nat.le_of_ble_eq_true rfl)) (by rw [hs]; exact (Nat.le_of_ble_eq_true rfl)) dX1_init_15 (fun q2 => ?_)
  refine J_w (ws' := [(b, .inr (0, [.ref q1, .null, .null, .null, .null, .null, .null, .int 0, .int 0, .int 0, .int 0, .int 0])), (q1, .inl (G.2.1, 11, .inl (fun _ => 0))), (q2, .inl (G.2.1, 11, .inl (fun _ => 0)))]) rfl ?_
  refine pf_X1_15 E 0 hi dX1_init_17 rfl (Nat.le_of_ble_eq_true rfl) ?_
  refine J_w (ws' := [(b, .inr (0, [.ref q1, .ref q2, .null, .null, .null, .null, .null, .int 0, .int 0, .int 0, .int 0, .int 0])), (q1, .inl (G.2.1, 11, .inl (fun _ => 0))), (q2, .inl (G.2.1, 11, .inl (fun _ => 0)))]) rfl ?_
  refine J_aload_n E dX1_init_20 rfl 0 rfl ?_
  refine J_bipush E (v := (11)) dX1_init_21 (by decide) ?_
  refine J_newa E (m := 11) (by decide) (by decide) (Nat.le_of_ble_eq_true rfl) (by rw [hc]; exact (Nat.le_of_ble_eq_true rfl)) (by rw [hs]; exact (Nat.le_of_ble_eq_true rfl)) dX1_init_23 (fun q3 => ?_)
  refine J_w (ws' := [(b, .inr (0, [.ref q1, .ref q2, .null, .null, .null, .null, .null, .int 0, .int 0, .int 0, .int 0, .int 0])), (q1, .inl (G.2.1, 11, .inl (fun _ => 0))), (q2, .inl (G.2.1, 11, .inl (fun _ => 0))), (q3, .inl (G.2.1, 11, .inl (fun _ => 0)))]) rfl ?_
  refine pf_X1_18 E 0 hi dX1_init_25 rfl (Nat.le_of_ble_eq_true rfl) ?_
  refine J_w (ws' := [(b, .inr (0, [.ref q1, .ref q2, .ref q3, .null, .null, .null, .null, .int 0, .int 0, .int 0, .int 0, .int 0])), (q1, .inl (G.2.1, 11, .inl (fun _ => 0))), (q2, .inl (G.2.1, 11, .inl (fun _ => 0))), (q3, .inl (G.2.1, 11, .inl (fun _ => 0)))]) rfl ?_
  refine J_aload_n E dX1_init_28 rfl 0 rfl ?_
  refine J_bipush E (v := (11)) dX1_init_29 (by decide) ?_
  refine J_newa E (m := 11) (by decide) (by decide) (Nat.le_of_ble_eq_true rfl) (by rw [hc]; exact (Nat.le_of_ble_eq_true rfl)) (by rw [hs]; exact (Nat.le_of_ble_eq_true rfl)) dX1_init_31 (fun q4 => ?_)
  refine J_w (ws' := [(b, .inr (0, [.ref q1, .ref q2, .ref q3, .null, .null, .null, .null, .int 0, .int 0, .int 0, .int 0, .int 0])), (q1, .inl (G.2.1, 11, .inl (fun _ => 0))), (q2, .inl (G.2.1, 11, .inl (fun _ => 0))), (q3, .inl (G.2.1, 11, .inl (fun _ => 0))), (q4, .inl (G.2.1, 11, .inl (fun _ => 0)))]) rfl ?_
  refine pf_X1_21 E 0 hi dX1_init_33 rfl (Nat.le_of_ble_eq_true rfl) ?_
  refine J_w (ws' := [(b, .inr (0, [.ref q1, .ref q2, .ref q3, .ref q4, .null, .null, .null, .int 0, .int 0, .int 0, .int 0, .int 0])), (q1, .inl (G.2.1, 11, .inl (fun _ => 0))), (q2, .inl (G.2.1, 11, .inl (fun _ => 0))), (q3, .inl (G.2.1, 11, .inl (fun _ => 0))), (q4, .inl (G.2.1, 11, .inl (fun _ => 0)))]) rfl ?_
  refine J_aload_n E dX1_init_36 rfl 0 rfl ?_
  refine J_bipush E (v := (11)) dX1_init_37 (by decide) ?_
  refine J_newa E (m := 11) (by decide) (by decide) (Nat.le_of_ble_eq_true rfl) (by rw [hc]; exact (Nat.le_of_ble_eq_true rfl)) (by rw [hs]; exact (Nat.le_of_ble_eq_true rfl)) dX1_init_39 (fun q5 => ?_)
  refine J_w (ws' := [(b, .inr (0, [.ref q1, .ref q2, .ref q3, .ref q4, .null, .null, .null, .int 0, .int 0, .int 0, .int 0, .int 0])), (q1, .inl (G.2.1, 11, .inl (fun _ => 0))), (q2, .inl (G.2.1, 11, .inl (fun _ => 0))), (q3, .inl (G.2.1, 11, .inl (fun _ => 0))), (q4, .inl (G.2.1, 11, .inl (fun _ => 0))), (q5, .inl (G.2.1, 11, .inl (fun _ => 0)))]) rfl ?_
  refine pf_X1_24 E 0 hi dX1_init_41 rfl (Nat.le_of_ble_eq_true rfl) ?_
  refine J_w (ws' := [(b, .inr (0, [.ref q1, .ref q2, .ref q3, .ref q4, .ref q5, .null, .null, .int 0, .int 0, .int 0, .int 0, .int 0])), (q1, .inl (G.2.1, 11, .inl (fun _ => 0))), (q2, .inl (G.2.1, 11, .inl (fun _ => 0))), (q3, .inl (G.2.1, 11, .inl (fun _ => 0))), (q4, .inl (G.2.1, 11, .inl (fun _ => 0))), (q5, .inl (G.2.1, 11, .inl (fun _ => 0)))]) rfl ?_
  refine J_aload_n E dX1_init_44 rfl 0 rfl ?_
  refine J_bipush E (v := (11)) dX1_init_45 (by decide) ?_
  refine J_newa E (m := 11) (by decide) (by decide) (Nat.le_of_ble_eq_true rfl) (by rw [hc]; exact (Nat.le_of_ble_eq_true rfl)) (by rw [hs]; exact (Nat.le_of_ble_eq_true rfl)) dX1_init_47 (fun q6 => ?_)
  refine J_w (ws' := [(b, .inr (0, [.ref q1, .ref q2, .ref q3, .ref q4, .ref q5, .null, .null, .int 0, .int 0, .int 0, .int 0, .int 0])), (q1, .inl (G.2.1, 11, .inl (fun _ => 0))), (q2, .inl (G.2.1, 11, .inl (fun _ => 0))), (q3, .inl (G.2.1, 11, .inl (fun _ => 0))), (q4, .inl (G.2.1, 11, .inl (fun _ => 0))), (q5, .inl (G.2.1, 11, .inl (fun _ => 0))), (q6, .inl (G.2.1, 11, .inl (fun _ => 0)))]) rfl ?_
  refine pf_X1_27 E 0 hi dX1_init_49 rfl (Nat.le_of_ble_eq_true rfl) ?_
  refine J_w (ws' := [(b, .inr (0, [.ref q1, .ref q2, .ref q3, .ref q4, .ref q5, .ref q6, .null, .int 0, .int 0, .int 0, .int 0, .int 0])), (q1, .inl (G.2.1, 11, .inl (fun _ => 0))), (q2, .inl (G.2.1, 11, .inl (fun _ => 0))), (q3, .inl (G.2.1, 11, .inl (fun _ => 0))), (q4, .inl (G.2.1, 11, .inl (fun _ => 0))), (q5, .inl (G.2.1, 11, .inl (fun _ => 0))), (q6, .inl (G.2.1, 11, .inl (fun _ => 0)))]) rfl ?_
  refine J_aload_n E dX1_init_52 rfl 0 rfl ?_
  refine J_bipush E (v := (10)) dX1_init_53 (by decide) ?_
  refine J_newa E (m := 10) (by decide) (by decide) (Nat.le_of_ble_eq_true rfl) (by rw [hc]; exact (Nat.le_of_ble_eq_true rfl)) (by rw [hs]; exact (Nat.le_of_ble_eq_true rfl)) dX1_init_55 (fun q7 => ?_)
  refine J_w (ws' := [(b, .inr (0, [.ref q1, .ref q2, .ref q3, .ref q4, .ref q5, .ref q6, .null, .int 0, .int 0, .int 0, .int 0, .int 0])), (q1, .inl (G.2.1, 11, .inl (fun _ => 0))), (q2, .inl (G.2.1, 11, .inl (fun _ => 0))), (q3, .inl (G.2.1, 11, .inl (fun _ => 0))), (q4, .inl (G.2.1, 11, .inl (fun _ => 0))), (q5, .inl (G.2.1, 11, .inl (fun _ => 0))), (q6, .inl (G.2.1, 11, .inl (fun _ => 0))), (q7, .inl (G.2.1, 10, .inl (fun _ => 0)))]) rfl ?_
  refine pf_X1_30 E 0 hi dX1_init_57 rfl (Nat.le_of_ble_eq_true rfl) ?_
  refine J_w (ws' := [(b, .inr (0, [.ref q1, .ref q2, .ref q3, .ref q4, .ref q5, .ref q6, .ref q7, .int 0, .int 0, .int 0, .int 0, .int 0])), (q1, .inl (G.2.1, 11, .inl (fun _ => 0))), (q2, .inl (G.2.1, 11, .inl (fun _ => 0))), (q3, .inl (G.2.1, 11, .inl (fun _ => 0))), (q4, .inl (G.2.1, 11, .inl (fun _ => 0))), (q5, .inl (G.2.1, 11, .inl (fun _ => 0))), (q6, .inl (G.2.1, 11, .inl (fun _ => 0))), (q7, .inl (G.2.1, 10, .inl (fun _ => 0)))]) rfl ?_
  refine J_aload_n E dX1_init_60 rfl 0 rfl ?_
  refine J_bipush E (v := (20)) dX1_init_61 (by decide) ?_
  refine pf_X1_33 E 0 dX1_init_63 rfl (Nat.le_of_ble_eq_true rfl) ?_
  refine J_w (ws' := [(b, .inr (0, [.ref q1, .ref q2, .ref q3, .ref q4, .ref q5, .ref q6, .ref q7, .int (20), .int 0, .int 0, .int 0, .int 0])), (q1, .inl (G.2.1, 11, .inl (fun _ => 0))), (q2, .inl (G.2.1, 11, .inl (fun _ => 0))), (q3, .inl (G.2.1, 11, .inl (fun _ => 0))), (q4, .inl (G.2.1, 11, .inl (fun _ => 0))), (q5, .inl (G.2.1, 11, .inl (fun _ => 0))), (q6, .inl (G.2.1, 11, .inl (fun _ => 0))), (q7, .inl (G.2.1, 10, .inl (fun _ => 0)))]) rfl ?_
  refine J_aload_n E dX1_init_66 rfl 0 rfl ?_
  refine J_iconst E (v := (1)) dX1_init_67 (by decide) ?_
  refine pf_X1_37 E 0 dX1_init_68 rfl (Nat.le_of_ble_eq_true rfl) ?_
  refine J_w (ws' := [(b, .inr (0, [.ref q1, .ref q2, .ref q3, .ref q4, .ref q5, .ref q6, .ref q7, .int (20), .int 0, .int 0, .int 0, .int (1)])), (q1, .inl (G.2.1, 11, .inl (fun _ => 0))), (q2, .inl (G.2.1, 11, .inl (fun _ => 0))), (q3, .inl (G.2.1, 11, .inl (fun _ => 0))), (q4, .inl (G.2.1, 11, .inl (fun _ => 0))), (q5, .inl (G.2.1, 11, .inl (fun _ => 0))), (q6, .inl (G.2.1, 11, .inl (fun _ => 0))), (q7, .inl (G.2.1, 10, .inl (fun _ => 0)))]) rfl ?_
  refine J_aload_n E dX1_init_71 rfl 0 rfl ?_
  refine gf_X1_18 E 0 dX1_init_72 rfl rfl ?_
  refine J_iconst E (v := (2)) dX1_init_75 (by decide) ?_
  refine J_cSv1 E (As := [.ref q3, .int (2)]) [(b, .inr (0, [.ref q1, .ref q2, .ref q3, .ref q4, .ref q5, .ref q6, .ref q7, .int (20), .int 0, .int 0, .int 0, .int (1)])), (q1, .inl (G.2.1, 11, .inl (fun _ => 0))), (q2, .inl (G.2.1, 11, .inl (fun _ => 0)))] [(q4, .inl (G.2.1, 11, .inl (fun _ => 0))), (q5, .inl (G.2.1, 11, .inl (fun _ => 0))), (q6, .inl (G.2.1, 11, .inl (fun _ => 0))), (q7, .inl (G.2.1, 10, .inl (fun _ => 0)))] (c_J7_fill_53178 l G q3 11 (fun _ => 0) (2) (by decide)) cl_X1_40 yo_J7_fill_53178 dX1_init_76 rfl (Nat.le_of_ble_eq_true rfl) (Nat.le_of_ble_eq_true rfl) rfl (Nat.le_of_ble_eq_true rfl) rfl ⟨by rw [hc]; exact (Nat.le_of_ble_eq_true rfl), by rw [hs]; exact (Nat.le_of_ble_eq_true rfl)⟩ ?_
  refine J_w (ws' := [(b, .inr (0, [.ref q1, .ref q2, .ref q3, .ref q4, .ref q5, .ref q6, .ref q7, .int (20), .int 0, .int 0, .int 0, .int (1)])), (q1, .inl (G.2.1, 11, .inl (fun _ => 0))), (q2, .inl (G.2.1, 11, .inl (fun _ => 0))), (q3, .inl (G.2.1, 11, .inl (fun _ => (2)))), (q4, .inl (G.2.1, 11, .inl (fun _ => 0))), (q5, .inl (G.2.1, 11, .inl (fun _ => 0))), (q6, .inl (G.2.1, 11, .inl (fun _ => 0))), (q7, .inl (G.2.1, 10, .inl (fun _ => 0)))]) rfl ?_
  refine J_aload_n E dX1_init_79 rfl 0 rfl ?_
  refine gf_X1_21 E 0 dX1_init_80 rfl rfl ?_
  refine J_bipush E (v := (10)) dX1_init_83 (by decide) ?_
  refine J_cSv1 E (As := [.ref q4, .int (10)]) [(b, .inr (0, [.ref q1, .ref q2, .ref q3, .ref q4, .ref q5, .ref q6, .ref q7, .int (20), .int 0, .int 0, .int 0, .int (1)])), (q1, .inl (G.2.1, 11, .inl (fun _ => 0))), (q2, .inl (G.2.1, 11, .inl (fun _ => 0))), (q3, .inl (G.2.1, 11, .inl (fun _ => (2))))] [(q5, .inl (G.2.1, 11, .inl (fun _ => 0))), (q6, .inl (G.2.1, 11, .inl (fun _ => 0))), (q7, .inl (G.2.1, 10, .inl (fun _ => 0)))] (c_J7_fill_53178 l G q4 11 (fun _ => 0) (10) (by decide)) cl_X1_40 yo_J7_fill_53178 dX1_init_85 rfl (Nat.le_of_ble_eq_true rfl) (Nat.le_of_ble_eq_true rfl) rfl (Nat.le_of_ble_eq_true rfl) rfl ⟨by rw [hc]; exact (Nat.le_of_ble_eq_true rfl), by rw [hs]; exact (Nat.le_of_ble_eq_true rfl)⟩ ?_
  refine J_w (ws' := [(b, .inr (0, [.ref q1, .ref q2, .ref q3, .ref q4, .ref q5, .ref q6, .ref q7, .int (20), .int 0, .int 0, .int 0, .int (1)])), (q1, .inl (G.2.1, 11, .inl (fun _ => 0))), (q2, .inl (G.2.1, 11, .inl (fun _ => 0))), (q3, .inl (G.2.1, 11, .inl (fun _ => (2)))), (q4, .inl (G.2.1, 11, .inl (fun _ => (10)))), (q5, .inl (G.2.1, 11, .inl (fun _ => 0))), (q6, .inl (G.2.1, 11, .inl (fun _ => 0))), (q7, .inl (G.2.1, 10, .inl (fun _ => 0)))]) rfl ?_
  refine J_aload_n E dX1_init_88 rfl 0 rfl ?_
  refine gf_X1_30 E 0 dX1_init_89 rfl rfl ?_
  refine J_iconst E (v := (-1)) dX1_init_92 (by decide) ?_
  refine J_cSv1 E (As := [.ref q7, .int (-1)]) [(b, .inr (0, [.ref q1, .ref q2, .ref q3, .ref q4, .ref q5, .ref q6, .ref q7, .int (20), .int 0, .int 0, .int 0, .int (1)])), (q1, .inl (G.2.1, 11, .inl (fun _ => 0))), (q2, .inl (G.2.1, 11, .inl (fun _ => 0))), (q3, .inl (G.2.1, 11, .inl (fun _ => (2)))), (q4, .inl (G.2.1, 11, .inl (fun _ => (10)))), (q5, .inl (G.2.1, 11, .inl (fun _ => 0))), (q6, .inl (G.2.1, 11, .inl (fun _ => 0)))] [] (c_J7_fill_53178 l G q7 10 (fun _ => 0) (-1) (by decide)) cl_X1_40 yo_J7_fill_53178 dX1_init_93 rfl (Nat.le_of_ble_eq_true rfl) (Nat.le_of_ble_eq_true rfl) rfl (Nat.le_of_ble_eq_true rfl) rfl ⟨by rw [hc]; exact (Nat.le_of_ble_eq_true rfl), by rw [hs]; exact (Nat.le_of_ble_eq_true rfl)⟩ ?_
  refine J_w (ws' := [(b, .inr (0, [.ref q1, .ref q2, .ref q3, .ref q4, .ref q5, .ref q6, .ref q7, .int (20), .int 0, .int 0, .int 0, .int (1)])), (q1, .inl (G.2.1, 11, .inl (fun _ => 0))), (q2, .inl (G.2.1, 11, .inl (fun _ => 0))), (q3, .inl (G.2.1, 11, .inl (fun _ => (2)))), (q4, .inl (G.2.1, 11, .inl (fun _ => (10)))), (q5, .inl (G.2.1, 11, .inl (fun _ => 0))), (q6, .inl (G.2.1, 11, .inl (fun _ => 0))), (q7, .inl (G.2.1, 10, .inl (fun _ => (-1))))]) rfl ?_
  exact ret _ _ _ ⟨adL [b, q1, q2, q3, q4, q5, q6, q7], rfl, rfl⟩ dX1_init_96

def z3 : Q3 := fun _ _ _ => 0
def iniL : Nat → Q2
  | 0 => up2 (up2 (fun _ _ => 0) 7 1 1) 7 2 20
  | i + 1 => up2 (up2 (iniL i) 2 i 2) 3 i 10
def iniS : Nat → Q2
  | 0 => iniL 11
  | i + 1 => up2 (iniS i) 6 i (-1)
/-- the start of both sides -/
def iniX : Q3 := upG z3 0 iniQ
theorem ini_fl : ∀ j, j < 81 → flat (iniS 10) j = flat iniQ j := by decide +kernel
theorem flat_z : flat (fun _ _ => 0) = fun _ => 0 := by
  funext j
  unfold flat
  split
  · rfl
  · split <;> rfl
theorem pick_z (f : Nat → Nat) : (fun k => pick4 (f k) (0 : Int32) 0 0 0) = fun _ => 0 := by
  funext k
  unfold pick4
  repeat' split
  all_goals rfl
theorem wM_z (G : GB) (b : Nat → Nat) : wM G b z3 = [(b 0, .inr (5, [.ref (b 1), .ref (b 2), .ref (b 3), .int 0, .ref (b 4), .ref (b 5), .int 0, .ref (b 6), .ref (b 7), .int 0, .int 0, .int 0, .int 0, .ref (b 8), .ref (b 9), .ref (b 10), .ref (b 11)])), (b 1, .inl (G.2.1, 81, .inl (fun _ => 0))), (b 2, .inl (G.2.1, 81, .inl (fun _ => 0))), (b 3, .inl (G.2.1, 81, .inl (fun _ => 0))), (b 4, .inl (G.2.1, 7, .inl (fun _ => 0))), (b 5, .inl (G.2.1, 11, .inl (fun _ => 0))), (b 6, .inl (G.2.1, 11, .inl (fun _ => 0))), (b 7, .inl (G.2.1, 120, .inl (fun _ => 0))), (b 8, .inl (G.2.1, 4, .inl (fun _ => 0))), (b 9, .inl (G.2.1, 4, .inl (fun _ => 0))), (b 10, .inl (G.2.1, 160, .inl (fun _ => 0))), (b 11, .inl (G.2.1, 40, .inl (fun _ => 0)))] := by
  have h1 : flat (z3 0) = fun _ => 0 := flat_z
  have h2 : flat (z3 1) = fun _ => 0 := flat_z
  have h3 : flat (z3 2) = fun _ => 0 := flat_z
  have p1 : (fun k => pick4 k (z3 8 1 0) (z3 9 1 0) (z3 10 1 0) (z3 11 1 0)) = fun _ => 0 := pick_z (fun k => k)
  have p2 : (fun k => pick4 k (z3 8 1 1) (z3 9 1 1) (z3 10 1 1) (z3 11 1 1)) = fun _ => 0 := pick_z (fun k => k)
  have p3 : (fun k => pick4 (k / 40) (z3 8 0 (k % 40)) (z3 9 0 (k % 40)) (z3 10 0 (k % 40)) (z3 11 0 (k % 40))) = fun _ => 0 := pick_z (fun k => k / 40)
  unfold wM
  rw [h1, h2, h3, p1, p2, p3]
  rfl

set_option maxHeartbeats 4000000 in
set_option maxRecDepth 20000 in
theorem c_X6_init (l : Launch) (G : GB) (o : Nat) : CV l yX6_init cX6_init 2 1 23 11 600 G [.ref o] [(o, .inr (5, [.null, .null, .null, .int 0, .null, .null, .int 0, .null, .null, .int 0, .int 0, .int 0, .int 0, .null, .null, .null, .null]))] (fun w' => ∃ h : Nat → Nat, h 0 = o ∧ w' = wM G h iniX) := by
  refine CV.mk (own := RX6) (by decide) rfl (Nat.le_of_ble_eq_true rfl) ?_
  intro X E hi hc hs ret
  show J X G 2 0 0 [(o, .inr (5, [.null, .null, .null, .int 0, .null, .null, .int 0, .null, .null, .int 0, .int 0, .int 0, .int 0, .null, .null, .null, .null]))] [(0, .ref o)] 0 []
  refine J_aload_n E dX6_init_0 rfl 0 rfl ?_
  refine J_objInit E ml_X6_3 dX6_init_1 (Nat.le_of_ble_eq_true rfl) (Nat.le_of_ble_eq_true rfl) ?_
  refine J_aload_n E dX6_init_4 rfl 0 rfl ?_
  refine J_bipush E (v := (81)) dX6_init_5 (by decide) ?_
  refine J_newa E (m := 81) (by decide) (by decide) (Nat.le_of_ble_eq_true rfl) (by rw [hc]; exact (Nat.le_of_ble_eq_true rfl)) (by rw [hs]; exact (Nat.le_of_ble_eq_true rfl)) dX6_init_7 (fun q1 => ?_)
  refine J_w (ws' := [(o, .inr (5, [.null, .null, .null, .int 0, .null, .null, .int 0, .null, .null, .int 0, .int 0, .int 0, .int 0, .null, .null, .null, .null])), (q1, .inl (G.2.1, 81, .inl (fun _ => 0)))]) rfl ?_
  refine pf_X6_9 E 0 hi dX6_init_9 rfl (Nat.le_of_ble_eq_true rfl) ?_
  refine J_w (ws' := [(o, .inr (5, [.ref q1, .null, .null, .int 0, .null, .null, .int 0, .null, .null, .int 0, .int 0, .int 0, .int 0, .null, .null, .null, .null])), (q1, .inl (G.2.1, 81, .inl (fun _ => 0)))]) rfl ?_
  refine J_aload_n E dX6_init_12 rfl 0 rfl ?_
  refine J_bipush E (v := (81)) dX6_init_13 (by decide) ?_
  refine J_newa E (m := 81) (by decide) (by decide) (Nat.le_of_ble_eq_true rfl) (by rw [hc]; exact (Nat.le_of_ble_eq_true rfl)) (by rw [hs]; exact (Nat.le_of_ble_eq_true rfl)) dX6_init_15 (fun q2 => ?_)
  refine J_w (ws' := [(o, .inr (5, [.ref q1, .null, .null, .int 0, .null, .null, .int 0, .null, .null, .int 0, .int 0, .int 0, .int 0, .null, .null, .null, .null])), (q1, .inl (G.2.1, 81, .inl (fun _ => 0))), (q2, .inl (G.2.1, 81, .inl (fun _ => 0)))]) rfl ?_
  refine pf_X6_13 E 0 hi dX6_init_17 rfl (Nat.le_of_ble_eq_true rfl) ?_
  refine J_w (ws' := [(o, .inr (5, [.ref q1, .ref q2, .null, .int 0, .null, .null, .int 0, .null, .null, .int 0, .int 0, .int 0, .int 0, .null, .null, .null, .null])), (q1, .inl (G.2.1, 81, .inl (fun _ => 0))), (q2, .inl (G.2.1, 81, .inl (fun _ => 0)))]) rfl ?_
  refine J_aload_n E dX6_init_20 rfl 0 rfl ?_
  refine J_bipush E (v := (81)) dX6_init_21 (by decide) ?_
  refine J_newa E (m := 81) (by decide) (by decide) (Nat.le_of_ble_eq_true rfl) (by rw [hc]; exact (Nat.le_of_ble_eq_true rfl)) (by rw [hs]; exact (Nat.le_of_ble_eq_true rfl)) dX6_init_23 (fun q3 => ?_)
  refine J_w (ws' := [(o, .inr (5, [.ref q1, .ref q2, .null, .int 0, .null, .null, .int 0, .null, .null, .int 0, .int 0, .int 0, .int 0, .null, .null, .null, .null])), (q1, .inl (G.2.1, 81, .inl (fun _ => 0))), (q2, .inl (G.2.1, 81, .inl (fun _ => 0))), (q3, .inl (G.2.1, 81, .inl (fun _ => 0)))]) rfl ?_
  refine pf_X6_16 E 0 hi dX6_init_25 rfl (Nat.le_of_ble_eq_true rfl) ?_
  refine J_w (ws' := [(o, .inr (5, [.ref q1, .ref q2, .ref q3, .int 0, .null, .null, .int 0, .null, .null, .int 0, .int 0, .int 0, .int 0, .null, .null, .null, .null])), (q1, .inl (G.2.1, 81, .inl (fun _ => 0))), (q2, .inl (G.2.1, 81, .inl (fun _ => 0))), (q3, .inl (G.2.1, 81, .inl (fun _ => 0)))]) rfl ?_
  refine J_aload_n E dX6_init_28 rfl 0 rfl ?_
  refine J_bipush E (v := (7)) dX6_init_29 (by decide) ?_
  refine J_newa E (m := 7) (by decide) (by decide) (Nat.le_of_ble_eq_true rfl) (by rw [hc]; exact (Nat.le_of_ble_eq_true rfl)) (by rw [hs]; exact (Nat.le_of_ble_eq_true rfl)) dX6_init_31 (fun q4 => ?_)
  refine J_w (ws' := [(o, .inr (5, [.ref q1, .ref q2, .ref q3, .int 0, .null, .null, .int 0, .null, .null, .int 0, .int 0, .int 0, .int 0, .null, .null, .null, .null])), (q1, .inl (G.2.1, 81, .inl (fun _ => 0))), (q2, .inl (G.2.1, 81, .inl (fun _ => 0))), (q3, .inl (G.2.1, 81, .inl (fun _ => 0))), (q4, .inl (G.2.1, 7, .inl (fun _ => 0)))]) rfl ?_
  refine pf_X6_19 E 0 hi dX6_init_33 rfl (Nat.le_of_ble_eq_true rfl) ?_
  refine J_w (ws' := [(o, .inr (5, [.ref q1, .ref q2, .ref q3, .int 0, .ref q4, .null, .int 0, .null, .null, .int 0, .int 0, .int 0, .int 0, .null, .null, .null, .null])), (q1, .inl (G.2.1, 81, .inl (fun _ => 0))), (q2, .inl (G.2.1, 81, .inl (fun _ => 0))), (q3, .inl (G.2.1, 81, .inl (fun _ => 0))), (q4, .inl (G.2.1, 7, .inl (fun _ => 0)))]) rfl ?_
  refine J_aload_n E dX6_init_36 rfl 0 rfl ?_
  refine J_bipush E (v := (11)) dX6_init_37 (by decide) ?_
  refine J_newa E (m := 11) (by decide) (by decide) (Nat.le_of_ble_eq_true rfl) (by rw [hc]; exact (Nat.le_of_ble_eq_true rfl)) (by rw [hs]; exact (Nat.le_of_ble_eq_true rfl)) dX6_init_39 (fun q5 => ?_)
  refine J_w (ws' := [(o, .inr (5, [.ref q1, .ref q2, .ref q3, .int 0, .ref q4, .null, .int 0, .null, .null, .int 0, .int 0, .int 0, .int 0, .null, .null, .null, .null])), (q1, .inl (G.2.1, 81, .inl (fun _ => 0))), (q2, .inl (G.2.1, 81, .inl (fun _ => 0))), (q3, .inl (G.2.1, 81, .inl (fun _ => 0))), (q4, .inl (G.2.1, 7, .inl (fun _ => 0))), (q5, .inl (G.2.1, 11, .inl (fun _ => 0)))]) rfl ?_
  refine pf_X6_22 E 0 hi dX6_init_41 rfl (Nat.le_of_ble_eq_true rfl) ?_
  refine J_w (ws' := [(o, .inr (5, [.ref q1, .ref q2, .ref q3, .int 0, .ref q4, .ref q5, .int 0, .null, .null, .int 0, .int 0, .int 0, .int 0, .null, .null, .null, .null])), (q1, .inl (G.2.1, 81, .inl (fun _ => 0))), (q2, .inl (G.2.1, 81, .inl (fun _ => 0))), (q3, .inl (G.2.1, 81, .inl (fun _ => 0))), (q4, .inl (G.2.1, 7, .inl (fun _ => 0))), (q5, .inl (G.2.1, 11, .inl (fun _ => 0)))]) rfl ?_
  refine J_aload_n E dX6_init_44 rfl 0 rfl ?_
  refine J_bipush E (v := (11)) dX6_init_45 (by decide) ?_
  refine J_newa E (m := 11) (by decide) (by decide) (Nat.le_of_ble_eq_true rfl) (by rw [hc]; exact (Nat.le_of_ble_eq_true rfl)) (by rw [hs]; exact (Nat.le_of_ble_eq_true rfl)) dX6_init_47 (fun q6 => ?_)
  refine J_w (ws' := [(o, .inr (5, [.ref q1, .ref q2, .ref q3, .int 0, .ref q4, .ref q5, .int 0, .null, .null, .int 0, .int 0, .int 0, .int 0, .null, .null, .null, .null])), (q1, .inl (G.2.1, 81, .inl (fun _ => 0))), (q2, .inl (G.2.1, 81, .inl (fun _ => 0))), (q3, .inl (G.2.1, 81, .inl (fun _ => 0))), (q4, .inl (G.2.1, 7, .inl (fun _ => 0))), (q5, .inl (G.2.1, 11, .inl (fun _ => 0))), (q6, .inl (G.2.1, 11, .inl (fun _ => 0)))]) rfl ?_
  refine pf_X6_25 E 0 hi dX6_init_49 rfl (Nat.le_of_ble_eq_true rfl) ?_
  refine J_w (ws' := [(o, .inr (5, [.ref q1, .ref q2, .ref q3, .int 0, .ref q4, .ref q5, .int 0, .ref q6, .null, .int 0, .int 0, .int 0, .int 0, .null, .null, .null, .null])), (q1, .inl (G.2.1, 81, .inl (fun _ => 0))), (q2, .inl (G.2.1, 81, .inl (fun _ => 0))), (q3, .inl (G.2.1, 81, .inl (fun _ => 0))), (q4, .inl (G.2.1, 7, .inl (fun _ => 0))), (q5, .inl (G.2.1, 11, .inl (fun _ => 0))), (q6, .inl (G.2.1, 11, .inl (fun _ => 0)))]) rfl ?_
  refine J_aload_n E dX6_init_52 rfl 0 rfl ?_
  refine J_bipush E (v := (120)) dX6_init_53 (by decide) ?_
  refine J_newa E (m := 120) (by decide) (by decide) (Nat.le_of_ble_eq_true rfl) (by rw [hc]; exact (Nat.le_of_ble_eq_true rfl)) (by rw [hs]; exact (Nat.le_of_ble_eq_true rfl)) dX6_init_55 (fun q7 => ?_)
  refine J_w (ws' := [(o, .inr (5, [.ref q1, .ref q2, .ref q3, .int 0, .ref q4, .ref q5, .int 0, .ref q6, .null, .int 0, .int 0, .int 0, .int 0, .null, .null, .null, .null])), (q1, .inl (G.2.1, 81, .inl (fun _ => 0))), (q2, .inl (G.2.1, 81, .inl (fun _ => 0))), (q3, .inl (G.2.1, 81, .inl (fun _ => 0))), (q4, .inl (G.2.1, 7, .inl (fun _ => 0))), (q5, .inl (G.2.1, 11, .inl (fun _ => 0))), (q6, .inl (G.2.1, 11, .inl (fun _ => 0))), (q7, .inl (G.2.1, 120, .inl (fun _ => 0)))]) rfl ?_
  refine pf_X6_28 E 0 hi dX6_init_57 rfl (Nat.le_of_ble_eq_true rfl) ?_
  refine J_w (ws' := [(o, .inr (5, [.ref q1, .ref q2, .ref q3, .int 0, .ref q4, .ref q5, .int 0, .ref q6, .ref q7, .int 0, .int 0, .int 0, .int 0, .null, .null, .null, .null])), (q1, .inl (G.2.1, 81, .inl (fun _ => 0))), (q2, .inl (G.2.1, 81, .inl (fun _ => 0))), (q3, .inl (G.2.1, 81, .inl (fun _ => 0))), (q4, .inl (G.2.1, 7, .inl (fun _ => 0))), (q5, .inl (G.2.1, 11, .inl (fun _ => 0))), (q6, .inl (G.2.1, 11, .inl (fun _ => 0))), (q7, .inl (G.2.1, 120, .inl (fun _ => 0)))]) rfl ?_
  refine J_aload_n E dX6_init_60 rfl 0 rfl ?_
  refine J_iconst E (v := (4)) dX6_init_61 (by decide) ?_
  refine J_newa E (m := 4) (by decide) (by decide) (Nat.le_of_ble_eq_true rfl) (by rw [hc]; exact (Nat.le_of_ble_eq_true rfl)) (by rw [hs]; exact (Nat.le_of_ble_eq_true rfl)) dX6_init_62 (fun q8 => ?_)
  refine J_w (ws' := [(o, .inr (5, [.ref q1, .ref q2, .ref q3, .int 0, .ref q4, .ref q5, .int 0, .ref q6, .ref q7, .int 0, .int 0, .int 0, .int 0, .null, .null, .null, .null])), (q1, .inl (G.2.1, 81, .inl (fun _ => 0))), (q2, .inl (G.2.1, 81, .inl (fun _ => 0))), (q3, .inl (G.2.1, 81, .inl (fun _ => 0))), (q4, .inl (G.2.1, 7, .inl (fun _ => 0))), (q5, .inl (G.2.1, 11, .inl (fun _ => 0))), (q6, .inl (G.2.1, 11, .inl (fun _ => 0))), (q7, .inl (G.2.1, 120, .inl (fun _ => 0))), (q8, .inl (G.2.1, 4, .inl (fun _ => 0)))]) rfl ?_
  refine pf_X6_31 E 0 hi dX6_init_64 rfl (Nat.le_of_ble_eq_true rfl) ?_
  refine J_w (ws' := [(o, .inr (5, [.ref q1, .ref q2, .ref q3, .int 0, .ref q4, .ref q5, .int 0, .ref q6, .ref q7, .int 0, .int 0, .int 0, .int 0, .ref q8, .null, .null, .null])), (q1, .inl (G.2.1, 81, .inl (fun _ => 0))), (q2, .inl (G.2.1, 81, .inl (fun _ => 0))), (q3, .inl (G.2.1, 81, .inl (fun _ => 0))), (q4, .inl (G.2.1, 7, .inl (fun _ => 0))), (q5, .inl (G.2.1, 11, .inl (fun _ => 0))), (q6, .inl (G.2.1, 11, .inl (fun _ => 0))), (q7, .inl (G.2.1, 120, .inl (fun _ => 0))), (q8, .inl (G.2.1, 4, .inl (fun _ => 0)))]) rfl ?_
  refine J_aload_n E dX6_init_67 rfl 0 rfl ?_
  refine J_iconst E (v := (4)) dX6_init_68 (by decide) ?_
  refine J_newa E (m := 4) (by decide) (by decide) (Nat.le_of_ble_eq_true rfl) (by rw [hc]; exact (Nat.le_of_ble_eq_true rfl)) (by rw [hs]; exact (Nat.le_of_ble_eq_true rfl)) dX6_init_69 (fun q9 => ?_)
  refine J_w (ws' := [(o, .inr (5, [.ref q1, .ref q2, .ref q3, .int 0, .ref q4, .ref q5, .int 0, .ref q6, .ref q7, .int 0, .int 0, .int 0, .int 0, .ref q8, .null, .null, .null])), (q1, .inl (G.2.1, 81, .inl (fun _ => 0))), (q2, .inl (G.2.1, 81, .inl (fun _ => 0))), (q3, .inl (G.2.1, 81, .inl (fun _ => 0))), (q4, .inl (G.2.1, 7, .inl (fun _ => 0))), (q5, .inl (G.2.1, 11, .inl (fun _ => 0))), (q6, .inl (G.2.1, 11, .inl (fun _ => 0))), (q7, .inl (G.2.1, 120, .inl (fun _ => 0))), (q8, .inl (G.2.1, 4, .inl (fun _ => 0))), (q9, .inl (G.2.1, 4, .inl (fun _ => 0)))]) rfl ?_
  refine pf_X6_34 E 0 hi dX6_init_71 rfl (Nat.le_of_ble_eq_true rfl) ?_
  refine J_w (ws' := [(o, .inr (5, [.ref q1, .ref q2, .ref q3, .int 0, .ref q4, .ref q5, .int 0, .ref q6, .ref q7, .int 0, .int 0, .int 0, .int 0, .ref q8, .ref q9, .null, .null])), (q1, .inl (G.2.1, 81, .inl (fun _ => 0))), (q2, .inl (G.2.1, 81, .inl (fun _ => 0))), (q3, .inl (G.2.1, 81, .inl (fun _ => 0))), (q4, .inl (G.2.1, 7, .inl (fun _ => 0))), (q5, .inl (G.2.1, 11, .inl (fun _ => 0))), (q6, .inl (G.2.1, 11, .inl (fun _ => 0))), (q7, .inl (G.2.1, 120, .inl (fun _ => 0))), (q8, .inl (G.2.1, 4, .inl (fun _ => 0))), (q9, .inl (G.2.1, 4, .inl (fun _ => 0)))]) rfl ?_
  refine J_aload_n E dX6_init_74 rfl 0 rfl ?_
  refine J_sipush E (v := (160)) dX6_init_75 (by decide) ?_
  refine J_newa E (m := 160) (by decide) (by decide) (Nat.le_of_ble_eq_true rfl) (by rw [hc]; exact (Nat.le_of_ble_eq_true rfl)) (by rw [hs]; exact (Nat.le_of_ble_eq_true rfl)) dX6_init_78 (fun q10 => ?_)
  refine J_w (ws' := [(o, .inr (5, [.ref q1, .ref q2, .ref q3, .int 0, .ref q4, .ref q5, .int 0, .ref q6, .ref q7, .int 0, .int 0, .int 0, .int 0, .ref q8, .ref q9, .null, .null])), (q1, .inl (G.2.1, 81, .inl (fun _ => 0))), (q2, .inl (G.2.1, 81, .inl (fun _ => 0))), (q3, .inl (G.2.1, 81, .inl (fun _ => 0))), (q4, .inl (G.2.1, 7, .inl (fun _ => 0))), (q5, .inl (G.2.1, 11, .inl (fun _ => 0))), (q6, .inl (G.2.1, 11, .inl (fun _ => 0))), (q7, .inl (G.2.1, 120, .inl (fun _ => 0))), (q8, .inl (G.2.1, 4, .inl (fun _ => 0))), (q9, .inl (G.2.1, 4, .inl (fun _ => 0))), (q10, .inl (G.2.1, 160, .inl (fun _ => 0)))]) rfl ?_
  refine pf_X6_37 E 0 hi dX6_init_80 rfl (Nat.le_of_ble_eq_true rfl) ?_
  refine J_w (ws' := [(o, .inr (5, [.ref q1, .ref q2, .ref q3, .int 0, .ref q4, .ref q5, .int 0, .ref q6, .ref q7, .int 0, .int 0, .int 0, .int 0, .ref q8, .ref q9, .ref q10, .null])), (q1, .inl (G.2.1, 81, .inl (fun _ => 0))), (q2, .inl (G.2.1, 81, .inl (fun _ => 0))), (q3, .inl (G.2.1, 81, .inl (fun _ => 0))), (q4, .inl (G.2.1, 7, .inl (fun _ => 0))), (q5, .inl (G.2.1, 11, .inl (fun _ => 0))), (q6, .inl (G.2.1, 11, .inl (fun _ => 0))), (q7, .inl (G.2.1, 120, .inl (fun _ => 0))), (q8, .inl (G.2.1, 4, .inl (fun _ => 0))), (q9, .inl (G.2.1, 4, .inl (fun _ => 0))), (q10, .inl (G.2.1, 160, .inl (fun _ => 0)))]) rfl ?_
  refine J_aload_n E dX6_init_83 rfl 0 rfl ?_
  refine J_bipush E (v := (40)) dX6_init_84 (by decide) ?_
  refine J_newa E (m := 40) (by decide) (by decide) (Nat.le_of_ble_eq_true rfl) (by rw [hc]; exact (Nat.le_of_ble_eq_true rfl)) (by rw [hs]; exact (Nat.le_of_ble_eq_true rfl)) dX6_init_86 (fun q11 => ?_)
  refine J_w (ws' := [(o, .inr (5, [.ref q1, .ref q2, .ref q3, .int 0, .ref q4, .ref q5, .int 0, .ref q6, .ref q7, .int 0, .int 0, .int 0, .int 0, .ref q8, .ref q9, .ref q10, .null])), (q1, .inl (G.2.1, 81, .inl (fun _ => 0))), (q2, .inl (G.2.1, 81, .inl (fun _ => 0))), (q3, .inl (G.2.1, 81, .inl (fun _ => 0))), (q4, .inl (G.2.1, 7, .inl (fun _ => 0))), (q5, .inl (G.2.1, 11, .inl (fun _ => 0))), (q6, .inl (G.2.1, 11, .inl (fun _ => 0))), (q7, .inl (G.2.1, 120, .inl (fun _ => 0))), (q8, .inl (G.2.1, 4, .inl (fun _ => 0))), (q9, .inl (G.2.1, 4, .inl (fun _ => 0))), (q10, .inl (G.2.1, 160, .inl (fun _ => 0))), (q11, .inl (G.2.1, 40, .inl (fun _ => 0)))]) rfl ?_
  refine pf_X6_40 E 0 hi dX6_init_88 rfl (Nat.le_of_ble_eq_true rfl) ?_
  refine J_w (ws' := [(o, .inr (5, [.ref q1, .ref q2, .ref q3, .int 0, .ref q4, .ref q5, .int 0, .ref q6, .ref q7, .int 0, .int 0, .int 0, .int 0, .ref q8, .ref q9, .ref q10, .ref q11])), (q1, .inl (G.2.1, 81, .inl (fun _ => 0))), (q2, .inl (G.2.1, 81, .inl (fun _ => 0))), (q3, .inl (G.2.1, 81, .inl (fun _ => 0))), (q4, .inl (G.2.1, 7, .inl (fun _ => 0))), (q5, .inl (G.2.1, 11, .inl (fun _ => 0))), (q6, .inl (G.2.1, 11, .inl (fun _ => 0))), (q7, .inl (G.2.1, 120, .inl (fun _ => 0))), (q8, .inl (G.2.1, 4, .inl (fun _ => 0))), (q9, .inl (G.2.1, 4, .inl (fun _ => 0))), (q10, .inl (G.2.1, 160, .inl (fun _ => 0))), (q11, .inl (G.2.1, 40, .inl (fun _ => 0)))]) rfl ?_
  obtain ⟨b, hb, h0⟩ : ∃ b, b = adL [o, q1, q2, q3, q4, q5, q6, q7, q8, q9, q10, q11] ∧ b 0 = o := ⟨_, rfl, rfl⟩
  refine J_w (ws' := wM G b z3) (by rw [hb]; exact (wM_z G (adL [o, q1, q2, q3, q4, q5, q6, q7, q8, q9, q10, q11])).symm) ?_
  show J X G 2 11 600 (wM G b z3) [(0, .ref o)] 91 []
  rw [show o = b 0 from h0.symm]
  refine J_aload_n E dX6_init_91 rfl 0 rfl ?_
  refine gM0_X6_9 E dX6_init_92 ?_
  refine J_iconst E dX6_init_95 ic_1 ?_
  refine J_iconst E dX6_init_96 ic_1 ?_
  refine sMs E (j := 1) (r := 7) (i := 1) (at_7 (by decide)) dX6_init_97 ?_
  refine J_w (ws' := wM G b (upG z3 0 (up2 (z3 0) 7 1 1))) rfl ?_
  refine J_aload_n E dX6_init_98 rfl 0 rfl ?_
  refine gM0_X6_9 E dX6_init_99 ?_
  refine J_iconst E dX6_init_102 ic_2 ?_
  refine J_bipush E dX6_init_103 bp_20 ?_
  refine sMs E (j := 2) (r := 7) (i := 2) (at_7 (by decide)) dX6_init_105 ?_
  refine J_w (ws' := wM G b (upG (upG z3 0 (up2 (z3 0) 7 1 1)) 0 (up2 (up2 (z3 0) 7 1 1) 7 2 20))) rfl ?_
  refine J_iconst E dX6_init_106 ic_0 ?_
  refine J_istore_n E (lv' := [(1, .int 0), (0, .ref (b 0))]) dX6_init_107 rfl (by decide) rfl ?_
  have lp108 : ∀ (fu : Nat) (i : Nat) (r : Q2), (i ≤ 11) → (r = iniL i) → 11 - i < fu → J X G 2 11 600 (wM G b (upG z3 0 r)) [(0, .ref (b 0)), (1, .int (nI i))] 108 [] := by
    intro fu
    induction fu with
    | zero => intro i r hi hr hm; exact absurd hm (Nat.not_lt_zero _)
    | succ fu ih108 =>
      intro i r hi hr hm
      refine J_iload_n E dX6_init_108 rfl 1 rfl ?_
      refine J_bipush E dX6_init_109 bp_11 ?_
      refine J_icmp_ge E (tgt := 135) dX6_init_111 (by decide) (fun c_111 => ?_) (fun c_111 => ?_)
      · skip
        have n_111 : 11 ≤ i := cmp_le (a := 11) (b := i) (by omega) (by omega) c_111
        refine J_iconst E dX6_init_135 ic_0 ?_
        refine J_istore_n E (lv' := [(1, .int 0), (0, .ref (b 0))]) dX6_init_136 rfl (by decide) rfl ?_
        have lp137 : ∀ (fu : Nat) (i : Nat) (r : Q2), (i ≤ 10) → (r = iniS i) → 10 - i < fu → J X G 2 11 600 (wM G b (upG z3 0 r)) [(0, .ref (b 0)), (1, .int (nI i))] 137 [] := by
          intro fu
          induction fu with
          | zero => intro i r hi hr hm; exact absurd hm (Nat.not_lt_zero _)
          | succ fu ih137 =>
            intro i r hi hr hm
            refine J_iload_n E dX6_init_137 rfl 1 rfl ?_
            refine J_bipush E dX6_init_138 bp_10 ?_
            refine J_icmp_ge E (tgt := 159) dX6_init_140 (by decide) (fun c_140 => ?_) (fun c_140 => ?_)
            · skip
              have n_140 : 10 ≤ i := cmp_le (a := 10) (b := i) (by omega) (by omega) c_140
              refine J_w (ws' := wM G b (upG z3 0 (iniS 10))) (by rw [hr, show i = 10 by omega]) ?_
              refine J_arr (g := flat iniQ) 1 rfl ini_fl ?_
              exact ret _ _ _ ⟨b, h0, rfl⟩ dX6_init_159
            · skip
              have n_140 : ¬ 10 ≤ i := cmp_nle (a := 10) (b := i) (by omega) (by omega) c_140
              refine J_aload_n E dX6_init_143 rfl 0 rfl ?_
              refine gM0_X6_9 E dX6_init_144 ?_
              refine J_bipush E dX6_init_147 bp_71 ?_
              refine J_iload_n E dX6_init_149 rfl 1 rfl ?_
              refine J_iadd E dX6_init_150 ?_
              refine J_top (x' := nI (71 + i)) (nI_add 71 i) ?_
              refine J_iconst E dX6_init_151 ic_m1 ?_
              refine sMs E (j := (71 + i)) (r := 6) (i := i) (at_s (by omega) rfl) dX6_init_152 ?_
              refine J_w (ws' := wM G b (upG (upG z3 0 r) 0 (up2 r 6 i (-1)))) rfl ?_
              refine J_iinc E (lv' := [(1, .int (nI (i + 1))), (0, .ref (b 0))]) dX6_init_153 1 rfl (nI_inc _) (by decide) rfl ?_
              refine J_goto E (tgt := 137) dX6_init_156 (by decide) ?_
              refine J_lv [1, 0] rfl ?_
              refine J_w (ws' := wM G b (upG z3 0 (up2 r 6 i (-1)))) (wM_c rfl rfl rfl rfl rfl rfl rfl rfl rfl rfl rfl) ?_
              exact ih137 (i + 1) (up2 r 6 i (-1)) (by omega) (by rw [hr]; rfl) (by omega)
        refine J_lv [1, 0] rfl ?_
        refine J_w (ws' := wM G b (upG z3 0 r)) (wM_c rfl rfl rfl rfl rfl rfl rfl rfl rfl rfl rfl) ?_
        exact lp137 _ 0 r (by omega) (by rw [hr, show i = 11 by omega]; rfl) (Nat.lt_succ_self _)
      · skip
        have n_111 : ¬ 11 ≤ i := cmp_nle (a := 11) (b := i) (by omega) (by omega) c_111
        refine J_aload_n E dX6_init_114 rfl 0 rfl ?_
        refine J_iload_n E dX6_init_115 rfl 1 rfl ?_
        refine J_iconst E dX6_init_116 ic_2 ?_
        refine J_iconst E dX6_init_117 ic_2 ?_
        refine J_cVv0 E (As := [.int (nI i), .int 2, .int 2]) (c_X6_sets l G b (upG z3 0 r) i 2 2 (by omega) (by omega)) cl_X6_43 yo_X6_sets dX6_init_118 rfl rfl rfl (Nat.le_of_ble_eq_true rfl) (Nat.le_of_ble_eq_true rfl) rfl (Nat.le_of_ble_eq_true rfl) ⟨(by rw [hc]; exact Nat.le_refl _), (by rw [hs]; exact Nat.le_refl _)⟩ ?_
        refine J_aload_n E dX6_init_121 rfl 0 rfl ?_
        refine J_iload_n E dX6_init_122 rfl 1 rfl ?_
        refine J_iconst E dX6_init_123 ic_3 ?_
        refine J_bipush E dX6_init_124 bp_10 ?_
        refine J_cVv0 E (As := [.int (nI i), .int 3, .int 10]) (c_X6_sets l G b (upG (upG z3 0 r) 0 (up2 r 2 i 2)) i 3 10 (by omega) (by omega)) cl_X6_43 yo_X6_sets dX6_init_126 rfl rfl rfl (Nat.le_of_ble_eq_true rfl) (Nat.le_of_ble_eq_true rfl) rfl (Nat.le_of_ble_eq_true rfl) ⟨(by rw [hc]; exact Nat.le_refl _), (by rw [hs]; exact Nat.le_refl _)⟩ ?_
        refine J_iinc E (lv' := [(1, .int (nI (i + 1))), (0, .ref (b 0))]) dX6_init_129 1 rfl (nI_inc _) (by decide) rfl ?_
        refine J_goto E (tgt := 108) dX6_init_132 (by decide) ?_
        refine J_lv [1, 0] rfl ?_
        refine J_w (ws' := wM G b (upG z3 0 (up2 (up2 r 2 i 2) 3 i 10))) (wM_c rfl rfl rfl rfl rfl rfl rfl rfl rfl rfl rfl) ?_
        exact ih108 (i + 1) (up2 (up2 r 2 i 2) 3 i 10) (by omega) (by rw [hr]; rfl) (by omega)
  refine J_lv [1, 0] rfl ?_
  refine J_w (ws' := wM G b (upG z3 0 (up2 (up2 (z3 0) 7 1 1) 7 2 20))) (wM_c rfl rfl rfl rfl rfl rfl rfl rfl rfl rfl rfl) ?_
  exact lp108 _ 0 (up2 (up2 (z3 0) 7 1 1) 7 2 20) (by omega) rfl (Nat.lt_succ_self _)
