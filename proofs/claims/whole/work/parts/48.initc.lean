/-- what holds at the law's start and stays: two links of the nest, the class of sheets' arrays -/
def nst (U : State) : Prop := va_Nw (.methodLinkNest RX5 28 yX3_init RX5) U ∧ va_Nw (.methodLinkNest RX5 51 yX2_init RX5) U ∧ va_AO RX2 U
def CVN (l : Launch) (y : MethodName) (bc : ByteArray) (mL : Nat) (fr lo mc ms : Nat) (G : GB) (av : List Value) (w : va_W) (Post : va_W → Prop) : Prop :=
  ∀ sz : Nat, Met l y (WS y bc mL none) { frames := fr, cells := mc, slots := ms, locals := lo } (va_Pc av (fun U => mP G w sz U ∧ nst U)) (va_Qv Post (mB G w sz) (va_A w sz)) mc ms (va_A w sz)
set_option maxHeartbeats 4000000 in
theorem CVN.mk {l : Launch} {y : MethodName} {bc : ByteArray} {mL fr lo mc ms : Nat} {Post : va_W → Prop} {G : GB} {av : List Value} {w : va_W} {own : String} (hy : plainName y.cls = true) (ho : y.cls = own) (hlen : (lg_sl av).length ≤ mL)
    (body : ∀ X : JX, JE X l G bc own mL fr lo → nst X.1.2.2.2.2.1 → X.2.1.2.2.1.name = y.name → X.1.2.2.2.1.cells = mc → X.1.2.2.2.1.slots = ms → (∀ (w' : va_W) (pc : Nat) (lv : List (Nat × Value)), Post w' → decode bc pc = .ok (.return_, 1) → J X G mL mc ms w' lv pc []) → J X G mL 0 0 w (lv_args 0 av) 0 []) : CVN l y bc mL fr lo mc ms G av w Post := by
  intro sz
  refine Met.ofW (cc := bc) (maxL := mL) (ret := none) hy rfl ?_
  intro p e s m args below meth c s₁ B hml hv
  obtain ⟨rfl, ⟨hsz, hP, hK, hD0, hC⟩, hN⟩ := hv
  have hx := B.exec
  have hb := B.bytes
  have hr := B.returns
  have hts := atoms_spec (ws := WS y bc mL (none)) B.pre
  have hown : s.vm.findClass y.cls = some m.cls := findClass_of_methodNamed B.named
  have hlocks := B.notSynchronized
  have hin := (name_of_methodNamed B.named B.method).1
  subst hsz
  have hD := hD0.self (sz := s.heap.size)
  have hA : ∀ q : Nat, s.heap.size ≤ q → va_A w s.heap.size q := fun q h => Or.inr h
  have hS : va_S (va_A w s.heap.size) s.heap s.heap [] := va_S.rf
  have hl := lv_entry av (n := mL) hlen
  rw [lg_entry_eq]
  refine body ((p, l, e, _, s, m), (av.toArray, below, meth, c, _), va_A w s.heap.size) ⟨hx, hb, hml, by rw [← ho]; exact hown, fun w hw => hts w (List.mem_cons_of_mem _ hw), hK, hA, rfl, hC, Nat.le_refl _, Nat.le_refl _⟩ hN hin rfl rfl ?_ s.heap [] _ hP hD hS hl
  exact fun w' pc lv hp hd H locs ls hP hD hS hl => W.vret hx hb hr (fun t ht hW => ⟨⟨w', rfl, hp, by rw [ht]; exact hP, hD⟩, hS.F ht⟩) hS.2.2 hd
section JN2
variable {X : JX} {l : Launch} {G : GB} {cc : ByteArray} {own : String} {nL fr lo kc ks pc : Nat} {ws : va_W} {lv : List (Nat × Value)} {st : List Value}
set_option maxHeartbeats 4000000 in
/-- a constructor that is private to its nest -/
theorem J_callN (E : JE X l G cc own nL fr lo) {y : MethodName} {bc : ByteArray} {mL fr' lo' mc ms idx na : Nat} {b : Nat} {host : String} {As rest : List Value} {wc : va_W} {Post : va_W → Prop} (w1 w2 : va_W) (hc : CV l y bc mL fr' lo' mc ms G (.ref b :: As) wc Post) (hg : Cond.code y bc mL none ∈ lw_T) (hg1 : Cond.initialized y.cls ∈ lw_T) (hg2 : va_Nw (.methodLinkNest own idx y host) X.1.2.2.2.2.1) (hg3 : Cond.instanceMethod y ∈ lw_T) (hyn : y.name = "<init>") (hy : y.cls ≠ "java/lang/invoke/MethodHandle" ∧ y.cls ≠ "java/lang/invoke/VarHandle" ∧ (parseMethodDescriptor y.desc).map (fun d => d.parameters.length) = some na) (hd : decode cc pc = .ok (.invokespecial idx, 3)) (hn : As.length = na) (hR1 : fr' + 1 ≤ fr) (hR2 : 8 + (mL + 11) + lo' ≤ lo) (hst : st = As.reverse ++ .ref b :: rest) (hrm : (rest.map fun v => v.category).sum ≤ 8) (hw : ws = w1 ++ (wc ++ w2)) (hk : kc + mc ≤ X.1.2.2.2.1.cells ∧ ks + ms ≤ X.1.2.2.2.1.slots)
    (K : ∀ (w' : va_W), Post w' → J X G nL (kc + mc) (ks + ms) (w1 ++ (w' ++ w2)) lv (pc + 3) (rest)) : J X G nL kc ks ws lv pc st := by
  intro H locs ls hP hD hS hl
  obtain ⟨hx, hb, hml, hown, hts, hK, hA, rfl, hC, hf1, hf2⟩ := E
  subst hw hst
  have hPc := seg_P hP
  have hDc := seg_D hD
  have hFc := seg_F hD hS hA
  refine va_callv (va_runIN (As := As) (rest := rest) ⟨hx, hb, hml, hown, hts⟩ (hc H.size) ⟨va_cnB na hts (ws_good hg) rfl rfl rfl hg2 (hts _ hg1) hy ⟨Nat.le_trans hR1 hf1, Nat.le_trans hR2 hf2⟩, hyn, hts _ hg3⟩ ⟨mP_blind, fun U hU hW => ⟨rfl, by rw [hU], by rw [hU]; exact hPc, va_K.moved hW.alike hK, hDc.weaken (fun _ _ _ _ => trivial), by rw [hU]; exact cst.go hW hC hS.2.1 hFc⟩⟩ rfl hn hl.1 rfl (lv_room hrm) hd hk) hS (fun q _ h => hFc q h) hFc (fun w' t H1 locs1 ht hvm hw hB hz1 hk1 hS1 => ?_)
  obtain ⟨hP1, hD1⟩ := hB
  rw [ht] at hP1
  obtain ⟨hP2, hD2⟩ := seg_join hP hD hk1 hFc hP1 hD1
  exact K w' hw H1 locs1 ls hP2 hD2 hS1 hl
theorem J_newq (E : JE X l G cc own nL fr lo) (hao : va_AO RX2 X.1.2.2.2.2.1) {idx : Nat} (hcl : Cond.classLink own idx RX2 ∈ lw_T) {n : Int32} {m : Nat} (hn : ¬ n < 0) (hm : n.toNatClampNeg = m) (hby : m * 4 ≤ 536870912) (hc : kc + 1 ≤ X.1.2.2.2.1.cells) (hs : ks + m ≤ X.1.2.2.2.1.slots) (hd : decode cc pc = .ok (.anewarray idx, 3))
    (K : ∀ q : Nat, J X G nL (kc + 1) (ks + m) (ws ++ [(q, .inl (G.2.2.1, m, .inr (.inr (.inr (.inr (fun _ => none))))))]) lv (pc + 3) (.ref q :: st)) : J X G nL kc ks ws lv pc (.int n :: st) := by
  intro H locs ls hP hD hS hl
  obtain ⟨hx, hb, hml', hown, hts, hK, hA, rfl, hC, hf1, hf2⟩ := E
  refine va_newq hx hb hown (hts _ hcl) hao hK hP hD hS hA hn hm hby hc hs hd (fun q cA H1 hK1 hP hD hS => ?_)
  obtain ⟨-, kA, comp, f2, f3, f4, f1⟩ := hK1.2 2 _ rfl
  obtain ⟨-, kA', comp', f2', f3', f4', f1'⟩ := hK.2 1 _ rfl
  obtain rfl : cA = G.2.2.1 := Option.some.inj (f1.symm.trans f1')
  exact K q H1 locs ls hP hD hS hl
theorem J_astq (E : JE X l G cc own nL fr lo) {a v N : Nat} {vs : List Value} {f : Nat → Option Nat} {i : Int32} {j : Nat} (q0 qk : Nat) (hd : decode cc pc = .ok (.aastore, 1)) (he : ws[q0]? = some (a, .inl (G.2.2.1, N, .inr (.inr (.inr (.inr f)))))) (hv : ws[qk]? = some (v, .inr (1, vs))) (hin : vp_in i N) (hj : i.toNatClampNeg = j)
    (K : J X G nL kc ks (ws.set q0 (a, .inl (G.2.2.1, N, .inr (.inr (.inr (.inr (va_up f j (some v)))))))) lv (pc + 1) st) : J X G nL kc ks ws lv pc (.ref v :: .int i :: .ref a :: st) := by
  intro H locs ls hP hD hS hl
  obtain ⟨hx, hb, hml', hown, hts, hK, hA, rfl, hC, hf1, hf2⟩ := E
  subst hj
  exact va_astq hx hb hK hP hD hS q0 1 qk 1 (r := (RX2, TX2, 3)) he rfl hv rfl hin hd (fun H1 locs1 hP hD hS => K H1 locs1 ls hP hD hS hl)
theorem J_arrq (q0 : Nat) {a n : Nat} {c : ClassId} {f g : Nat → Option Nat} (he : ws[q0]? = some (a, .inl (c, n, .inr (.inr (.inr (.inr f)))))) (hf : ∀ j, j < n → f j = g j) (K : J X G nL kc ks (ws.set q0 (a, .inl (c, n, .inr (.inr (.inr (.inr g)))))) lv pc st) : J X G nL kc ks ws lv pc st := fun H locs ls hP hD hS hl =>
  K H locs ls (hP.set hD he (by
    have h1 := hP q0 _ he
    show H[a]? = some (vp_cell _ _)
    rw [show H[a]? = some (vp_cell c (n, .inr (.inr (.inr (.inr f))))) from h1, vp_cell_q, vp_cell_q]
    exact congrArg some (arrV_congr (fun j hj => by rw [hf j hj]))) (fun _ _ => rfl)) (hD.set he) hS hl
end JN2

theorem dv_X1 : ∀ j, j < 12 → defaultValue (tyX1 j) = vp_V [.null, .null, .null, .null, .null, .null, .null, .int 0, .int 0, .int 0, .int 0, .int 0] j := by
  intro j hj
  rcases (show j = 0 ∨ j = 1 ∨ j = 2 ∨ j = 3 ∨ j = 4 ∨ j = 5 ∨ j = 6 ∨ j = 7 ∨ j = 8 ∨ j = 9 ∨ j = 10 ∨ j = 11 by omega) with rfl | rfl | rfl | rfl | rfl | rfl | rfl | rfl | rfl | rfl | rfl | rfl <;> rfl

theorem dv_X3 : ∀ j, j < 2 → defaultValue (tyX3 j) = vp_V [.null, .int 0] j := by
  intro j hj
  rcases (show j = 0 ∨ j = 1 by omega) with rfl | rfl <;> rfl

theorem dv_X4 : ∀ j, j < 5 → defaultValue (tyX4 j) = vp_V [.null, .int 0, .int 0, .int 0, .int 0] j := by
  intro j hj
  rcases (show j = 0 ∨ j = 1 ∨ j = 2 ∨ j = 3 ∨ j = 4 by omega) with rfl | rfl | rfl | rfl | rfl <;> rfl

theorem dv_X2 : ∀ j, j < 3 → defaultValue (tyX2 j) = vp_V [.null, .int 0, .int 0] j := by
  intro j hj
  rcases (show j = 0 ∨ j = 1 ∨ j = 2 by omega) with rfl | rfl | rfl <;> rfl

def iniC : Q3 := upG (upG (upG z3 0 iniQ) 1 iniQ) 2 iniQ
set_option maxHeartbeats 4000000 in
set_option maxRecDepth 20000 in
theorem c_X5_init (l : Launch) (G : GB) (o : Nat) : CVN l yX5_init cX5_init 2 2 60 38 585 G [.ref o] [(o, .inr (4, [.null, .null, .null, .null, .null, .null, .null, .null, .int 0]))] (fun w' => ∃ h : Nat → Nat, h 0 = o ∧ w' = wC G h iniC) := by
  refine CVN.mk (own := RX5) (by decide) rfl (Nat.le_of_ble_eq_true rfl) ?_
  intro X E hN hi hc hs ret
  show J X G 2 0 0 [(o, .inr (4, [.null, .null, .null, .null, .null, .null, .null, .null, .int 0]))] [(0, .ref (o))] 0 []
  refine J_aload_n E dX5_init_0 rfl 0 rfl ?_
  refine J_objInit E ml_X5_1 dX5_init_1 (Nat.le_of_ble_eq_true rfl) (Nat.le_of_ble_eq_true rfl) ?_
  refine J_aload_n E dX5_init_4 rfl 0 rfl ?_
  refine J_new E (ci := 0) (fs := [.null, .null, .null, .null, .null, .null, .null, .int 0, .int 0, .int 0, .int 0, .int 0]) inT_X1 tyX1_ok kc_X5_7 ib_X1 ini_X1 rfl dv_X1 (by rw [hc]; exact (Nat.le_of_ble_eq_true rfl)) (by rw [hs]; exact (Nat.le_of_ble_eq_true rfl)) dX5_init_5 (fun q1 => ?_)
  refine J_w (ws' := ([(o, .inr (4, [.null, .null, .null, .null, .null, .null, .null, .null, .int 0]))] ++ [(q1, .inr (0, [.null, .null, .null, .null, .null, .null, .null, .int 0, .int 0, .int 0, .int 0, .int 0]))])) rfl ?_
  refine J_dup E dX5_init_8 rfl ?_
  refine J_callIv E (As := []) (rest := [.ref (q1), .ref (o)]) [(o, .inr (4, [.null, .null, .null, .null, .null, .null, .null, .null, .int 0]))] [] (c_X1_init l G q1) co_X1_init ini_X1 ml_X5_9 im_X1_init rfl ⟨by decide, by decide, by decide +kernel⟩ dX5_init_9 rfl (Nat.le_of_ble_eq_true rfl) (Nat.le_of_ble_eq_true rfl) rfl (Nat.le_of_ble_eq_true rfl) rfl ⟨by rw [hc]; exact (Nat.le_of_ble_eq_true rfl), by rw [hs]; exact (Nat.le_of_ble_eq_true rfl)⟩ (fun w1 e1 => ?_)
  obtain ⟨h2, e2, rfl⟩ := e1
  subst e2
  refine J_w (ws' := ([(o, .inr (4, [.null, .null, .null, .null, .null, .null, .null, .null, .int 0]))] ++ (wQ G h2 iniQ))) (by rw [List.append_nil]) ?_
  refine pf_X5_10 E 0 hi dX5_init_12 rfl (Nat.le_of_ble_eq_true rfl) ?_
  refine J_w (ws' := ([(o, .inr (4, [.ref (h2 0), .null, .null, .null, .null, .null, .null, .null, .int 0]))] ++ (wQ G h2 iniQ))) rfl ?_
  refine J_aload_n E dX5_init_15 rfl 0 rfl ?_
  refine J_new E (ci := 0) (fs := [.null, .null, .null, .null, .null, .null, .null, .int 0, .int 0, .int 0, .int 0, .int 0]) inT_X1 tyX1_ok kc_X5_7 ib_X1 ini_X1 rfl dv_X1 (by rw [hc]; exact (Nat.le_of_ble_eq_true rfl)) (by rw [hs]; exact (Nat.le_of_ble_eq_true rfl)) dX5_init_16 (fun q3 => ?_)
  refine J_w (ws' := (([(o, .inr (4, [.ref (h2 0), .null, .null, .null, .null, .null, .null, .null, .int 0]))] ++ (wQ G h2 iniQ)) ++ [(q3, .inr (0, [.null, .null, .null, .null, .null, .null, .null, .int 0, .int 0, .int 0, .int 0, .int 0]))])) rfl ?_
  refine J_dup E dX5_init_19 rfl ?_
  refine J_callIv E (As := []) (rest := [.ref (q3), .ref (o)]) ([(o, .inr (4, [.ref (h2 0), .null, .null, .null, .null, .null, .null, .null, .int 0]))] ++ (wQ G h2 iniQ)) [] (c_X1_init l G q3) co_X1_init ini_X1 ml_X5_9 im_X1_init rfl ⟨by decide, by decide, by decide +kernel⟩ dX5_init_20 rfl (Nat.le_of_ble_eq_true rfl) (Nat.le_of_ble_eq_true rfl) rfl (Nat.le_of_ble_eq_true rfl) rfl ⟨by rw [hc]; exact (Nat.le_of_ble_eq_true rfl), by rw [hs]; exact (Nat.le_of_ble_eq_true rfl)⟩ (fun w1 e1 => ?_)
  obtain ⟨h4, e2, rfl⟩ := e1
  subst e2
  refine J_w (ws' := (([(o, .inr (4, [.ref (h2 0), .null, .null, .null, .null, .null, .null, .null, .int 0]))] ++ (wQ G h2 iniQ)) ++ (wQ G h4 iniQ))) (by rw [List.append_nil]) ?_
  refine pf_X5_16 E 0 hi dX5_init_23 rfl (Nat.le_of_ble_eq_true rfl) ?_
  refine J_w (ws' := (([(o, .inr (4, [.ref (h2 0), .ref (h4 0), .null, .null, .null, .null, .null, .null, .int 0]))] ++ (wQ G h2 iniQ)) ++ (wQ G h4 iniQ))) rfl ?_
  refine J_aload_n E dX5_init_26 rfl 0 rfl ?_
  refine J_new E (ci := 0) (fs := [.null, .null, .null, .null, .null, .null, .null, .int 0, .int 0, .int 0, .int 0, .int 0]) inT_X1 tyX1_ok kc_X5_7 ib_X1 ini_X1 rfl dv_X1 (by rw [hc]; exact (Nat.le_of_ble_eq_true rfl)) (by rw [hs]; exact (Nat.le_of_ble_eq_true rfl)) dX5_init_27 (fun q5 => ?_)
  refine J_w (ws' := ((([(o, .inr (4, [.ref (h2 0), .ref (h4 0), .null, .null, .null, .null, .null, .null, .int 0]))] ++ (wQ G h2 iniQ)) ++ (wQ G h4 iniQ)) ++ [(q5, .inr (0, [.null, .null, .null, .null, .null, .null, .null, .int 0, .int 0, .int 0, .int 0, .int 0]))])) rfl ?_
  refine J_dup E dX5_init_30 rfl ?_
  refine J_callIv E (As := []) (rest := [.ref (q5), .ref (o)]) (([(o, .inr (4, [.ref (h2 0), .ref (h4 0), .null, .null, .null, .null, .null, .null, .int 0]))] ++ (wQ G h2 iniQ)) ++ (wQ G h4 iniQ)) [] (c_X1_init l G q5) co_X1_init ini_X1 ml_X5_9 im_X1_init rfl ⟨by decide, by decide, by decide +kernel⟩ dX5_init_31 rfl (Nat.le_of_ble_eq_true rfl) (Nat.le_of_ble_eq_true rfl) rfl (Nat.le_of_ble_eq_true rfl) rfl ⟨by rw [hc]; exact (Nat.le_of_ble_eq_true rfl), by rw [hs]; exact (Nat.le_of_ble_eq_true rfl)⟩ (fun w1 e1 => ?_)
  obtain ⟨h6, e2, rfl⟩ := e1
  subst e2
  refine J_w (ws' := ((([(o, .inr (4, [.ref (h2 0), .ref (h4 0), .null, .null, .null, .null, .null, .null, .int 0]))] ++ (wQ G h2 iniQ)) ++ (wQ G h4 iniQ)) ++ (wQ G h6 iniQ))) (by rw [List.append_nil]) ?_
  refine pf_X5_19 E 0 hi dX5_init_34 rfl (Nat.le_of_ble_eq_true rfl) ?_
  refine J_w (ws' := ((([(o, .inr (4, [.ref (h2 0), .ref (h4 0), .ref (h6 0), .null, .null, .null, .null, .null, .int 0]))] ++ (wQ G h2 iniQ)) ++ (wQ G h4 iniQ)) ++ (wQ G h6 iniQ))) rfl ?_
  refine J_aload_n E dX5_init_37 rfl 0 rfl ?_
  refine J_bipush E (v := (11)) dX5_init_38 (by decide) ?_
  refine J_newa E (m := 11) (by decide) (by decide) (Nat.le_of_ble_eq_true rfl) (by rw [hc]; exact (Nat.le_of_ble_eq_true rfl)) (by rw [hs]; exact (Nat.le_of_ble_eq_true rfl)) dX5_init_40 (fun q7 => ?_)
  refine J_w (ws' := (((([(o, .inr (4, [.ref (h2 0), .ref (h4 0), .ref (h6 0), .null, .null, .null, .null, .null, .int 0]))] ++ (wQ G h2 iniQ)) ++ (wQ G h4 iniQ)) ++ (wQ G h6 iniQ)) ++ [(q7, .inl (G.2.1, 11, .inl (fun _ => 0)))])) rfl ?_
  refine pf_X5_22 E 0 hi dX5_init_42 rfl (Nat.le_of_ble_eq_true rfl) ?_
  refine J_w (ws' := (((([(o, .inr (4, [.ref (h2 0), .ref (h4 0), .ref (h6 0), .ref q7, .null, .null, .null, .null, .int 0]))] ++ (wQ G h2 iniQ)) ++ (wQ G h4 iniQ)) ++ (wQ G h6 iniQ)) ++ [(q7, .inl (G.2.1, 11, .inl (fun _ => 0)))])) rfl ?_
  refine J_aload_n E dX5_init_45 rfl 0 rfl ?_
  refine J_new E (ci := 2) (fs := [.null, .int 0]) inT_X3 tyX3_ok kc_X5_26 ib_X3 ini_X3 rfl dv_X3 (by rw [hc]; exact (Nat.le_of_ble_eq_true rfl)) (by rw [hs]; exact (Nat.le_of_ble_eq_true rfl)) dX5_init_46 (fun q8 => ?_)
  refine J_w (ws' := ((((([(o, .inr (4, [.ref (h2 0), .ref (h4 0), .ref (h6 0), .ref q7, .null, .null, .null, .null, .int 0]))] ++ (wQ G h2 iniQ)) ++ (wQ G h4 iniQ)) ++ (wQ G h6 iniQ)) ++ [(q7, .inl (G.2.1, 11, .inl (fun _ => 0)))]) ++ [(q8, .inr (2, [.null, .int 0]))])) rfl ?_
  refine J_dup E dX5_init_49 rfl ?_
  refine J_callN E (As := []) (rest := [.ref (q8), .ref (o)]) (((([(o, .inr (4, [.ref (h2 0), .ref (h4 0), .ref (h6 0), .ref q7, .null, .null, .null, .null, .int 0]))] ++ (wQ G h2 iniQ)) ++ (wQ G h4 iniQ)) ++ (wQ G h6 iniQ)) ++ [(q7, .inl (G.2.1, 11, .inl (fun _ => 0)))]) [] (c_X3_init l G q8) co_X3_init ini_X3 hN.1 im_X3_init rfl ⟨by decide, by decide, by decide +kernel⟩ dX5_init_50 rfl (Nat.le_of_ble_eq_true rfl) (Nat.le_of_ble_eq_true rfl) rfl (Nat.le_of_ble_eq_true rfl) rfl ⟨by rw [hc]; exact (Nat.le_of_ble_eq_true rfl), by rw [hs]; exact (Nat.le_of_ble_eq_true rfl)⟩ (fun w1 e1 => ?_)
  obtain ⟨h9, e2, rfl⟩ := e1
  subst e2
  refine J_w (ws' := ((((([(o, .inr (4, [.ref (h2 0), .ref (h4 0), .ref (h6 0), .ref q7, .null, .null, .null, .null, .int 0]))] ++ (wQ G h2 iniQ)) ++ (wQ G h4 iniQ)) ++ (wQ G h6 iniQ)) ++ [(q7, .inl (G.2.1, 11, .inl (fun _ => 0)))]) ++ (wT G h9 (fun _ _ => 0)))) (by rw [List.append_nil]) ?_
  refine pf_X5_29 E 0 hi dX5_init_53 rfl (Nat.le_of_ble_eq_true rfl) ?_
  refine J_w (ws' := ((((([(o, .inr (4, [.ref (h2 0), .ref (h4 0), .ref (h6 0), .ref q7, .ref (h9 0), .null, .null, .null, .int 0]))] ++ (wQ G h2 iniQ)) ++ (wQ G h4 iniQ)) ++ (wQ G h6 iniQ)) ++ [(q7, .inl (G.2.1, 11, .inl (fun _ => 0)))]) ++ (wT G h9 (fun _ _ => 0)))) rfl ?_
  refine J_aload_n E dX5_init_56 rfl 0 rfl ?_
  refine J_new E (ci := 3) (fs := [.null, .int 0, .int 0, .int 0, .int 0]) inT_X4 tyX4_ok kc_X5_33 ib_X4 ini_X4 rfl dv_X4 (by rw [hc]; exact (Nat.le_of_ble_eq_true rfl)) (by rw [hs]; exact (Nat.le_of_ble_eq_true rfl)) dX5_init_57 (fun q10 => ?_)
  refine J_w (ws' := (((((([(o, .inr (4, [.ref (h2 0), .ref (h4 0), .ref (h6 0), .ref q7, .ref (h9 0), .null, .null, .null, .int 0]))] ++ (wQ G h2 iniQ)) ++ (wQ G h4 iniQ)) ++ (wQ G h6 iniQ)) ++ [(q7, .inl (G.2.1, 11, .inl (fun _ => 0)))]) ++ (wT G h9 (fun _ _ => 0))) ++ [(q10, .inr (3, [.null, .int 0, .int 0, .int 0, .int 0]))])) rfl ?_
  refine J_dup E dX5_init_60 rfl ?_
  refine J_aload_n E dX5_init_61 rfl 0 rfl ?_
  refine gf_X5_29 E 0 dX5_init_62 rfl rfl ?_
  refine J_callIv E (na := 1) (As := [.ref ((h9 0))]) (rest := [.ref (q10), .ref (o)]) ((((([(o, .inr (4, [.ref (h2 0), .ref (h4 0), .ref (h6 0), .ref q7, .ref (h9 0), .null, .null, .null, .int 0]))] ++ (wQ G h2 iniQ)) ++ (wQ G h4 iniQ)) ++ (wQ G h6 iniQ)) ++ [(q7, .inl (G.2.1, 11, .inl (fun _ => 0)))]) ++ (wT G h9 (fun _ _ => 0))) [] (c_X4_init l G q10 (h9 0)) co_X4_init ini_X4 ml_X5_35 im_X4_init rfl ⟨by decide, by decide, by decide +kernel⟩ dX5_init_65 rfl (Nat.le_of_ble_eq_true rfl) (Nat.le_of_ble_eq_true rfl) rfl (Nat.le_of_ble_eq_true rfl) rfl ⟨by rw [hc]; exact (Nat.le_of_ble_eq_true rfl), by rw [hs]; exact (Nat.le_of_ble_eq_true rfl)⟩ (fun w1 e1 => ?_)
  subst e1
  refine J_w (ws' := (((((([(o, .inr (4, [.ref (h2 0), .ref (h4 0), .ref (h6 0), .ref q7, .ref (h9 0), .null, .null, .null, .int 0]))] ++ (wQ G h2 iniQ)) ++ (wQ G h4 iniQ)) ++ (wQ G h6 iniQ)) ++ [(q7, .inl (G.2.1, 11, .inl (fun _ => 0)))]) ++ (wT G h9 (fun _ _ => 0))) ++ [(q10, .inr (3, [.ref (h9 0), .int 0, .int 0, .int 0, .int 0]))])) (by rw [List.append_nil]) ?_
  refine pf_X5_38 E 0 hi dX5_init_68 rfl (Nat.le_of_ble_eq_true rfl) ?_
  refine J_w (ws' := (((((([(o, .inr (4, [.ref (h2 0), .ref (h4 0), .ref (h6 0), .ref q7, .ref (h9 0), .ref q10, .null, .null, .int 0]))] ++ (wQ G h2 iniQ)) ++ (wQ G h4 iniQ)) ++ (wQ G h6 iniQ)) ++ [(q7, .inl (G.2.1, 11, .inl (fun _ => 0)))]) ++ (wT G h9 (fun _ _ => 0))) ++ [(q10, .inr (3, [.ref (h9 0), .int 0, .int 0, .int 0, .int 0]))])) rfl ?_
  refine J_aload_n E dX5_init_71 rfl 0 rfl ?_
  refine J_iconst E (v := (4)) dX5_init_72 (by decide) ?_
  refine J_newq E hN.2.2 kc_X5_42 (m := 4) (by decide) (by decide) (Nat.le_of_ble_eq_true rfl) (by rw [hc]; exact (Nat.le_of_ble_eq_true rfl)) (by rw [hs]; exact (Nat.le_of_ble_eq_true rfl)) dX5_init_73 (fun q11 => ?_)
  refine J_w (ws' := ((((((([(o, .inr (4, [.ref (h2 0), .ref (h4 0), .ref (h6 0), .ref q7, .ref (h9 0), .ref q10, .null, .null, .int 0]))] ++ (wQ G h2 iniQ)) ++ (wQ G h4 iniQ)) ++ (wQ G h6 iniQ)) ++ [(q7, .inl (G.2.1, 11, .inl (fun _ => 0)))]) ++ (wT G h9 (fun _ _ => 0))) ++ [(q10, .inr (3, [.ref (h9 0), .int 0, .int 0, .int 0, .int 0]))]) ++ [(q11, .inl (G.2.2.1, 4, .inr (.inr (.inr (.inr (fun _ => none))))))])) rfl ?_
  refine pf_X5_44 E 0 hi dX5_init_76 rfl (Nat.le_of_ble_eq_true rfl) ?_
  refine J_w (ws' := ((((((([(o, .inr (4, [.ref (h2 0), .ref (h4 0), .ref (h6 0), .ref q7, .ref (h9 0), .ref q10, .ref q11, .null, .int 0]))] ++ (wQ G h2 iniQ)) ++ (wQ G h4 iniQ)) ++ (wQ G h6 iniQ)) ++ [(q7, .inl (G.2.1, 11, .inl (fun _ => 0)))]) ++ (wT G h9 (fun _ _ => 0))) ++ [(q10, .inr (3, [.ref (h9 0), .int 0, .int 0, .int 0, .int 0]))]) ++ [(q11, .inl (G.2.2.1, 4, .inr (.inr (.inr (.inr (fun _ => none))))))])) rfl ?_
  refine J_aload_n E dX5_init_79 rfl 0 rfl ?_
  refine J_bipush E (v := (7)) dX5_init_80 (by decide) ?_
  refine J_newa E (m := 7) (by decide) (by decide) (Nat.le_of_ble_eq_true rfl) (by rw [hc]; exact (Nat.le_of_ble_eq_true rfl)) (by rw [hs]; exact (Nat.le_of_ble_eq_true rfl)) dX5_init_82 (fun q12 => ?_)
  refine J_w (ws' := (((((((([(o, .inr (4, [.ref (h2 0), .ref (h4 0), .ref (h6 0), .ref q7, .ref (h9 0), .ref q10, .ref q11, .null, .int 0]))] ++ (wQ G h2 iniQ)) ++ (wQ G h4 iniQ)) ++ (wQ G h6 iniQ)) ++ [(q7, .inl (G.2.1, 11, .inl (fun _ => 0)))]) ++ (wT G h9 (fun _ _ => 0))) ++ [(q10, .inr (3, [.ref (h9 0), .int 0, .int 0, .int 0, .int 0]))]) ++ [(q11, .inl (G.2.2.1, 4, .inr (.inr (.inr (.inr (fun _ => none))))))]) ++ [(q12, .inl (G.2.1, 7, .inl (fun _ => 0)))])) rfl ?_
  refine pf_X5_48 E 0 hi dX5_init_84 rfl (Nat.le_of_ble_eq_true rfl) ?_
  refine J_w (ws' := (((((((([(o, .inr (4, [.ref (h2 0), .ref (h4 0), .ref (h6 0), .ref q7, .ref (h9 0), .ref q10, .ref q11, .ref q12, .int 0]))] ++ (wQ G h2 iniQ)) ++ (wQ G h4 iniQ)) ++ (wQ G h6 iniQ)) ++ [(q7, .inl (G.2.1, 11, .inl (fun _ => 0)))]) ++ (wT G h9 (fun _ _ => 0))) ++ [(q10, .inr (3, [.ref (h9 0), .int 0, .int 0, .int 0, .int 0]))]) ++ [(q11, .inl (G.2.2.1, 4, .inr (.inr (.inr (.inr (fun _ => none))))))]) ++ [(q12, .inl (G.2.1, 7, .inl (fun _ => 0)))])) rfl ?_
  refine J_iconst E (v := (0)) dX5_init_87 (by decide) ?_
  refine J_istore_n E (lv' := [(1, .int (0)), (0, .ref (o))]) dX5_init_88 rfl (by decide) rfl ?_
  refine J_iload_n E dX5_init_89 rfl 0 rfl ?_
  refine J_iconst E (v := (4)) dX5_init_90 (by decide) ?_
  refine J_icmp_ge E (tgt := 113) dX5_init_91 (by decide) (fun c_13 => absurd c_13 (by decide)) (fun c_13 => ?_)
  refine J_aload_n E dX5_init_94 rfl 1 rfl ?_
  refine gf_X5_44 E 0 dX5_init_95 rfl rfl ?_
  refine J_iload_n E dX5_init_98 rfl 0 rfl ?_
  refine J_new E (ci := 1) (fs := [.null, .int 0, .int 0]) inT_X2 tyX2_ok kc_X5_42 ib_X2 ini_X2 rfl dv_X2 (by rw [hc]; exact (Nat.le_of_ble_eq_true rfl)) (by rw [hs]; exact (Nat.le_of_ble_eq_true rfl)) dX5_init_99 (fun q14 => ?_)
  refine J_w (ws' := ((((((((([(o, .inr (4, [.ref (h2 0), .ref (h4 0), .ref (h6 0), .ref q7, .ref (h9 0), .ref q10, .ref q11, .ref q12, .int 0]))] ++ (wQ G h2 iniQ)) ++ (wQ G h4 iniQ)) ++ (wQ G h6 iniQ)) ++ [(q7, .inl (G.2.1, 11, .inl (fun _ => 0)))]) ++ (wT G h9 (fun _ _ => 0))) ++ [(q10, .inr (3, [.ref (h9 0), .int 0, .int 0, .int 0, .int 0]))]) ++ [(q11, .inl (G.2.2.1, 4, .inr (.inr (.inr (.inr (fun _ => none))))))]) ++ [(q12, .inl (G.2.1, 7, .inl (fun _ => 0)))]) ++ [(q14, .inr (1, [.null, .int 0, .int 0]))])) rfl ?_
  refine J_dup E dX5_init_102 rfl ?_
  refine J_callN E (As := []) (rest := [.ref (q14), .int (0), .ref (q11)]) (((((((([(o, .inr (4, [.ref (h2 0), .ref (h4 0), .ref (h6 0), .ref q7, .ref (h9 0), .ref q10, .ref q11, .ref q12, .int 0]))] ++ (wQ G h2 iniQ)) ++ (wQ G h4 iniQ)) ++ (wQ G h6 iniQ)) ++ [(q7, .inl (G.2.1, 11, .inl (fun _ => 0)))]) ++ (wT G h9 (fun _ _ => 0))) ++ [(q10, .inr (3, [.ref (h9 0), .int 0, .int 0, .int 0, .int 0]))]) ++ [(q11, .inl (G.2.2.1, 4, .inr (.inr (.inr (.inr (fun _ => none))))))]) ++ [(q12, .inl (G.2.1, 7, .inl (fun _ => 0)))]) [] (c_X2_init l G q14) co_X2_init ini_X2 hN.2.1 im_X2_init rfl ⟨by decide, by decide, by decide +kernel⟩ dX5_init_103 rfl (Nat.le_of_ble_eq_true rfl) (Nat.le_of_ble_eq_true rfl) rfl (Nat.le_of_ble_eq_true rfl) rfl ⟨by rw [hc]; exact (Nat.le_of_ble_eq_true rfl), by rw [hs]; exact (Nat.le_of_ble_eq_true rfl)⟩ (fun w1 e1 => ?_)
  obtain ⟨h15, e2, rfl⟩ := e1
  subst e2
  refine J_w (ws' := ((((((((([(o, .inr (4, [.ref (h2 0), .ref (h4 0), .ref (h6 0), .ref q7, .ref (h9 0), .ref q10, .ref q11, .ref q12, .int 0]))] ++ (wQ G h2 iniQ)) ++ (wQ G h4 iniQ)) ++ (wQ G h6 iniQ)) ++ [(q7, .inl (G.2.1, 11, .inl (fun _ => 0)))]) ++ (wT G h9 (fun _ _ => 0))) ++ [(q10, .inr (3, [.ref (h9 0), .int 0, .int 0, .int 0, .int 0]))]) ++ [(q11, .inl (G.2.2.1, 4, .inr (.inr (.inr (.inr (fun _ => none))))))]) ++ [(q12, .inl (G.2.1, 7, .inl (fun _ => 0)))]) ++ (wS G h15 (fun _ _ => 0)))) (by rw [List.append_nil]) ?_
  refine J_astq E (j := 0) 29 31 dX5_init_106 rfl rfl (fun z => z.elim (fun h => absurd h (by decide)) (fun h => absurd h (by decide))) (by decide) ?_
  refine J_w (ws' := ((((((((([(o, .inr (4, [.ref (h2 0), .ref (h4 0), .ref (h6 0), .ref q7, .ref (h9 0), .ref q10, .ref q11, .ref q12, .int 0]))] ++ (wQ G h2 iniQ)) ++ (wQ G h4 iniQ)) ++ (wQ G h6 iniQ)) ++ [(q7, .inl (G.2.1, 11, .inl (fun _ => 0)))]) ++ (wT G h9 (fun _ _ => 0))) ++ [(q10, .inr (3, [.ref (h9 0), .int 0, .int 0, .int 0, .int 0]))]) ++ [(q11, .inl (G.2.2.1, 4, .inr (.inr (.inr (.inr (va_up (fun _ => none) 0 (some (h15 0))))))))]) ++ [(q12, .inl (G.2.1, 7, .inl (fun _ => 0)))]) ++ (wS G h15 (fun _ _ => 0)))) rfl ?_
  refine J_iinc E (v := 1) (lv' := [(1, .int (1)), (0, .ref (o))]) dX5_init_107 0 rfl (by decide) (by decide) rfl ?_
  refine J_goto E (tgt := 89) dX5_init_110 (by decide) ?_
  refine J_iload_n E dX5_init_89 rfl 0 rfl ?_
  refine J_iconst E (v := (4)) dX5_init_90 (by decide) ?_
  refine J_icmp_ge E (tgt := 113) dX5_init_91 (by decide) (fun c_16 => absurd c_16 (by decide)) (fun c_16 => ?_)
  refine J_aload_n E dX5_init_94 rfl 1 rfl ?_
  refine gf_X5_44 E 0 dX5_init_95 rfl rfl ?_
  refine J_iload_n E dX5_init_98 rfl 0 rfl ?_
  refine J_new E (ci := 1) (fs := [.null, .int 0, .int 0]) inT_X2 tyX2_ok kc_X5_42 ib_X2 ini_X2 rfl dv_X2 (by rw [hc]; exact (Nat.le_of_ble_eq_true rfl)) (by rw [hs]; exact (Nat.le_of_ble_eq_true rfl)) dX5_init_99 (fun q17 => ?_)
  refine J_w (ws' := (((((((((([(o, .inr (4, [.ref (h2 0), .ref (h4 0), .ref (h6 0), .ref q7, .ref (h9 0), .ref q10, .ref q11, .ref q12, .int 0]))] ++ (wQ G h2 iniQ)) ++ (wQ G h4 iniQ)) ++ (wQ G h6 iniQ)) ++ [(q7, .inl (G.2.1, 11, .inl (fun _ => 0)))]) ++ (wT G h9 (fun _ _ => 0))) ++ [(q10, .inr (3, [.ref (h9 0), .int 0, .int 0, .int 0, .int 0]))]) ++ [(q11, .inl (G.2.2.1, 4, .inr (.inr (.inr (.inr (va_up (fun _ => none) 0 (some (h15 0))))))))]) ++ [(q12, .inl (G.2.1, 7, .inl (fun _ => 0)))]) ++ (wS G h15 (fun _ _ => 0))) ++ [(q17, .inr (1, [.null, .int 0, .int 0]))])) rfl ?_
  refine J_dup E dX5_init_102 rfl ?_
  refine J_callN E (As := []) (rest := [.ref (q17), .int (1), .ref (q11)]) ((((((((([(o, .inr (4, [.ref (h2 0), .ref (h4 0), .ref (h6 0), .ref q7, .ref (h9 0), .ref q10, .ref q11, .ref q12, .int 0]))] ++ (wQ G h2 iniQ)) ++ (wQ G h4 iniQ)) ++ (wQ G h6 iniQ)) ++ [(q7, .inl (G.2.1, 11, .inl (fun _ => 0)))]) ++ (wT G h9 (fun _ _ => 0))) ++ [(q10, .inr (3, [.ref (h9 0), .int 0, .int 0, .int 0, .int 0]))]) ++ [(q11, .inl (G.2.2.1, 4, .inr (.inr (.inr (.inr (va_up (fun _ => none) 0 (some (h15 0))))))))]) ++ [(q12, .inl (G.2.1, 7, .inl (fun _ => 0)))]) ++ (wS G h15 (fun _ _ => 0))) [] (c_X2_init l G q17) co_X2_init ini_X2 hN.2.1 im_X2_init rfl ⟨by decide, by decide, by decide +kernel⟩ dX5_init_103 rfl (Nat.le_of_ble_eq_true rfl) (Nat.le_of_ble_eq_true rfl) rfl (Nat.le_of_ble_eq_true rfl) rfl ⟨by rw [hc]; exact (Nat.le_of_ble_eq_true rfl), by rw [hs]; exact (Nat.le_of_ble_eq_true rfl)⟩ (fun w1 e1 => ?_)
  obtain ⟨h18, e2, rfl⟩ := e1
  subst e2
  refine J_w (ws' := (((((((((([(o, .inr (4, [.ref (h2 0), .ref (h4 0), .ref (h6 0), .ref q7, .ref (h9 0), .ref q10, .ref q11, .ref q12, .int 0]))] ++ (wQ G h2 iniQ)) ++ (wQ G h4 iniQ)) ++ (wQ G h6 iniQ)) ++ [(q7, .inl (G.2.1, 11, .inl (fun _ => 0)))]) ++ (wT G h9 (fun _ _ => 0))) ++ [(q10, .inr (3, [.ref (h9 0), .int 0, .int 0, .int 0, .int 0]))]) ++ [(q11, .inl (G.2.2.1, 4, .inr (.inr (.inr (.inr (va_up (fun _ => none) 0 (some (h15 0))))))))]) ++ [(q12, .inl (G.2.1, 7, .inl (fun _ => 0)))]) ++ (wS G h15 (fun _ _ => 0))) ++ (wS G h18 (fun _ _ => 0)))) (by rw [List.append_nil]) ?_
  refine J_astq E (j := 1) 29 33 dX5_init_106 rfl rfl (fun z => z.elim (fun h => absurd h (by decide)) (fun h => absurd h (by decide))) (by decide) ?_
  refine J_w (ws' := (((((((((([(o, .inr (4, [.ref (h2 0), .ref (h4 0), .ref (h6 0), .ref q7, .ref (h9 0), .ref q10, .ref q11, .ref q12, .int 0]))] ++ (wQ G h2 iniQ)) ++ (wQ G h4 iniQ)) ++ (wQ G h6 iniQ)) ++ [(q7, .inl (G.2.1, 11, .inl (fun _ => 0)))]) ++ (wT G h9 (fun _ _ => 0))) ++ [(q10, .inr (3, [.ref (h9 0), .int 0, .int 0, .int 0, .int 0]))]) ++ [(q11, .inl (G.2.2.1, 4, .inr (.inr (.inr (.inr (va_up (va_up (fun _ => none) 0 (some (h15 0))) 1 (some (h18 0))))))))]) ++ [(q12, .inl (G.2.1, 7, .inl (fun _ => 0)))]) ++ (wS G h15 (fun _ _ => 0))) ++ (wS G h18 (fun _ _ => 0)))) rfl ?_
  refine J_iinc E (v := 2) (lv' := [(1, .int (2)), (0, .ref (o))]) dX5_init_107 0 rfl (by decide) (by decide) rfl ?_
  refine J_goto E (tgt := 89) dX5_init_110 (by decide) ?_
  refine J_iload_n E dX5_init_89 rfl 0 rfl ?_
  refine J_iconst E (v := (4)) dX5_init_90 (by decide) ?_
  refine J_icmp_ge E (tgt := 113) dX5_init_91 (by decide) (fun c_19 => absurd c_19 (by decide)) (fun c_19 => ?_)
  refine J_aload_n E dX5_init_94 rfl 1 rfl ?_
  refine gf_X5_44 E 0 dX5_init_95 rfl rfl ?_
  refine J_iload_n E dX5_init_98 rfl 0 rfl ?_
  refine J_new E (ci := 1) (fs := [.null, .int 0, .int 0]) inT_X2 tyX2_ok kc_X5_42 ib_X2 ini_X2 rfl dv_X2 (by rw [hc]; exact (Nat.le_of_ble_eq_true rfl)) (by rw [hs]; exact (Nat.le_of_ble_eq_true rfl)) dX5_init_99 (fun q20 => ?_)
  refine J_w (ws' := ((((((((((([(o, .inr (4, [.ref (h2 0), .ref (h4 0), .ref (h6 0), .ref q7, .ref (h9 0), .ref q10, .ref q11, .ref q12, .int 0]))] ++ (wQ G h2 iniQ)) ++ (wQ G h4 iniQ)) ++ (wQ G h6 iniQ)) ++ [(q7, .inl (G.2.1, 11, .inl (fun _ => 0)))]) ++ (wT G h9 (fun _ _ => 0))) ++ [(q10, .inr (3, [.ref (h9 0), .int 0, .int 0, .int 0, .int 0]))]) ++ [(q11, .inl (G.2.2.1, 4, .inr (.inr (.inr (.inr (va_up (va_up (fun _ => none) 0 (some (h15 0))) 1 (some (h18 0))))))))]) ++ [(q12, .inl (G.2.1, 7, .inl (fun _ => 0)))]) ++ (wS G h15 (fun _ _ => 0))) ++ (wS G h18 (fun _ _ => 0))) ++ [(q20, .inr (1, [.null, .int 0, .int 0]))])) rfl ?_
  refine J_dup E dX5_init_102 rfl ?_
  refine J_callN E (As := []) (rest := [.ref (q20), .int (2), .ref (q11)]) (((((((((([(o, .inr (4, [.ref (h2 0), .ref (h4 0), .ref (h6 0), .ref q7, .ref (h9 0), .ref q10, .ref q11, .ref q12, .int 0]))] ++ (wQ G h2 iniQ)) ++ (wQ G h4 iniQ)) ++ (wQ G h6 iniQ)) ++ [(q7, .inl (G.2.1, 11, .inl (fun _ => 0)))]) ++ (wT G h9 (fun _ _ => 0))) ++ [(q10, .inr (3, [.ref (h9 0), .int 0, .int 0, .int 0, .int 0]))]) ++ [(q11, .inl (G.2.2.1, 4, .inr (.inr (.inr (.inr (va_up (va_up (fun _ => none) 0 (some (h15 0))) 1 (some (h18 0))))))))]) ++ [(q12, .inl (G.2.1, 7, .inl (fun _ => 0)))]) ++ (wS G h15 (fun _ _ => 0))) ++ (wS G h18 (fun _ _ => 0))) [] (c_X2_init l G q20) co_X2_init ini_X2 hN.2.1 im_X2_init rfl ⟨by decide, by decide, by decide +kernel⟩ dX5_init_103 rfl (Nat.le_of_ble_eq_true rfl) (Nat.le_of_ble_eq_true rfl) rfl (Nat.le_of_ble_eq_true rfl) rfl ⟨by rw [hc]; exact (Nat.le_of_ble_eq_true rfl), by rw [hs]; exact (Nat.le_of_ble_eq_true rfl)⟩ (fun w1 e1 => ?_)
  obtain ⟨h21, e2, rfl⟩ := e1
  subst e2
  refine J_w (ws' := ((((((((((([(o, .inr (4, [.ref (h2 0), .ref (h4 0), .ref (h6 0), .ref q7, .ref (h9 0), .ref q10, .ref q11, .ref q12, .int 0]))] ++ (wQ G h2 iniQ)) ++ (wQ G h4 iniQ)) ++ (wQ G h6 iniQ)) ++ [(q7, .inl (G.2.1, 11, .inl (fun _ => 0)))]) ++ (wT G h9 (fun _ _ => 0))) ++ [(q10, .inr (3, [.ref (h9 0), .int 0, .int 0, .int 0, .int 0]))]) ++ [(q11, .inl (G.2.2.1, 4, .inr (.inr (.inr (.inr (va_up (va_up (fun _ => none) 0 (some (h15 0))) 1 (some (h18 0))))))))]) ++ [(q12, .inl (G.2.1, 7, .inl (fun _ => 0)))]) ++ (wS G h15 (fun _ _ => 0))) ++ (wS G h18 (fun _ _ => 0))) ++ (wS G h21 (fun _ _ => 0)))) (by rw [List.append_nil]) ?_
  refine J_astq E (j := 2) 29 35 dX5_init_106 rfl rfl (fun z => z.elim (fun h => absurd h (by decide)) (fun h => absurd h (by decide))) (by decide) ?_
  refine J_w (ws' := ((((((((((([(o, .inr (4, [.ref (h2 0), .ref (h4 0), .ref (h6 0), .ref q7, .ref (h9 0), .ref q10, .ref q11, .ref q12, .int 0]))] ++ (wQ G h2 iniQ)) ++ (wQ G h4 iniQ)) ++ (wQ G h6 iniQ)) ++ [(q7, .inl (G.2.1, 11, .inl (fun _ => 0)))]) ++ (wT G h9 (fun _ _ => 0))) ++ [(q10, .inr (3, [.ref (h9 0), .int 0, .int 0, .int 0, .int 0]))]) ++ [(q11, .inl (G.2.2.1, 4, .inr (.inr (.inr (.inr (va_up (va_up (va_up (fun _ => none) 0 (some (h15 0))) 1 (some (h18 0))) 2 (some (h21 0))))))))]) ++ [(q12, .inl (G.2.1, 7, .inl (fun _ => 0)))]) ++ (wS G h15 (fun _ _ => 0))) ++ (wS G h18 (fun _ _ => 0))) ++ (wS G h21 (fun _ _ => 0)))) rfl ?_
  refine J_iinc E (v := 3) (lv' := [(1, .int (3)), (0, .ref (o))]) dX5_init_107 0 rfl (by decide) (by decide) rfl ?_
  refine J_goto E (tgt := 89) dX5_init_110 (by decide) ?_
  refine J_iload_n E dX5_init_89 rfl 0 rfl ?_
  refine J_iconst E (v := (4)) dX5_init_90 (by decide) ?_
  refine J_icmp_ge E (tgt := 113) dX5_init_91 (by decide) (fun c_22 => absurd c_22 (by decide)) (fun c_22 => ?_)
  refine J_aload_n E dX5_init_94 rfl 1 rfl ?_
  refine gf_X5_44 E 0 dX5_init_95 rfl rfl ?_
  refine J_iload_n E dX5_init_98 rfl 0 rfl ?_
  refine J_new E (ci := 1) (fs := [.null, .int 0, .int 0]) inT_X2 tyX2_ok kc_X5_42 ib_X2 ini_X2 rfl dv_X2 (by rw [hc]; exact (Nat.le_of_ble_eq_true rfl)) (by rw [hs]; exact (Nat.le_of_ble_eq_true rfl)) dX5_init_99 (fun q23 => ?_)
  refine J_w (ws' := (((((((((((([(o, .inr (4, [.ref (h2 0), .ref (h4 0), .ref (h6 0), .ref q7, .ref (h9 0), .ref q10, .ref q11, .ref q12, .int 0]))] ++ (wQ G h2 iniQ)) ++ (wQ G h4 iniQ)) ++ (wQ G h6 iniQ)) ++ [(q7, .inl (G.2.1, 11, .inl (fun _ => 0)))]) ++ (wT G h9 (fun _ _ => 0))) ++ [(q10, .inr (3, [.ref (h9 0), .int 0, .int 0, .int 0, .int 0]))]) ++ [(q11, .inl (G.2.2.1, 4, .inr (.inr (.inr (.inr (va_up (va_up (va_up (fun _ => none) 0 (some (h15 0))) 1 (some (h18 0))) 2 (some (h21 0))))))))]) ++ [(q12, .inl (G.2.1, 7, .inl (fun _ => 0)))]) ++ (wS G h15 (fun _ _ => 0))) ++ (wS G h18 (fun _ _ => 0))) ++ (wS G h21 (fun _ _ => 0))) ++ [(q23, .inr (1, [.null, .int 0, .int 0]))])) rfl ?_
  refine J_dup E dX5_init_102 rfl ?_
  refine J_callN E (As := []) (rest := [.ref (q23), .int (3), .ref (q11)]) ((((((((((([(o, .inr (4, [.ref (h2 0), .ref (h4 0), .ref (h6 0), .ref q7, .ref (h9 0), .ref q10, .ref q11, .ref q12, .int 0]))] ++ (wQ G h2 iniQ)) ++ (wQ G h4 iniQ)) ++ (wQ G h6 iniQ)) ++ [(q7, .inl (G.2.1, 11, .inl (fun _ => 0)))]) ++ (wT G h9 (fun _ _ => 0))) ++ [(q10, .inr (3, [.ref (h9 0), .int 0, .int 0, .int 0, .int 0]))]) ++ [(q11, .inl (G.2.2.1, 4, .inr (.inr (.inr (.inr (va_up (va_up (va_up (fun _ => none) 0 (some (h15 0))) 1 (some (h18 0))) 2 (some (h21 0))))))))]) ++ [(q12, .inl (G.2.1, 7, .inl (fun _ => 0)))]) ++ (wS G h15 (fun _ _ => 0))) ++ (wS G h18 (fun _ _ => 0))) ++ (wS G h21 (fun _ _ => 0))) [] (c_X2_init l G q23) co_X2_init ini_X2 hN.2.1 im_X2_init rfl ⟨by decide, by decide, by decide +kernel⟩ dX5_init_103 rfl (Nat.le_of_ble_eq_true rfl) (Nat.le_of_ble_eq_true rfl) rfl (Nat.le_of_ble_eq_true rfl) rfl ⟨by rw [hc]; exact (Nat.le_of_ble_eq_true rfl), by rw [hs]; exact (Nat.le_of_ble_eq_true rfl)⟩ (fun w1 e1 => ?_)
  obtain ⟨h24, e2, rfl⟩ := e1
  subst e2
  refine J_w (ws' := (((((((((((([(o, .inr (4, [.ref (h2 0), .ref (h4 0), .ref (h6 0), .ref q7, .ref (h9 0), .ref q10, .ref q11, .ref q12, .int 0]))] ++ (wQ G h2 iniQ)) ++ (wQ G h4 iniQ)) ++ (wQ G h6 iniQ)) ++ [(q7, .inl (G.2.1, 11, .inl (fun _ => 0)))]) ++ (wT G h9 (fun _ _ => 0))) ++ [(q10, .inr (3, [.ref (h9 0), .int 0, .int 0, .int 0, .int 0]))]) ++ [(q11, .inl (G.2.2.1, 4, .inr (.inr (.inr (.inr (va_up (va_up (va_up (fun _ => none) 0 (some (h15 0))) 1 (some (h18 0))) 2 (some (h21 0))))))))]) ++ [(q12, .inl (G.2.1, 7, .inl (fun _ => 0)))]) ++ (wS G h15 (fun _ _ => 0))) ++ (wS G h18 (fun _ _ => 0))) ++ (wS G h21 (fun _ _ => 0))) ++ (wS G h24 (fun _ _ => 0)))) (by rw [List.append_nil]) ?_
  refine J_astq E (j := 3) 29 37 dX5_init_106 rfl rfl (fun z => z.elim (fun h => absurd h (by decide)) (fun h => absurd h (by decide))) (by decide) ?_
  refine J_w (ws' := (((((((((((([(o, .inr (4, [.ref (h2 0), .ref (h4 0), .ref (h6 0), .ref q7, .ref (h9 0), .ref q10, .ref q11, .ref q12, .int 0]))] ++ (wQ G h2 iniQ)) ++ (wQ G h4 iniQ)) ++ (wQ G h6 iniQ)) ++ [(q7, .inl (G.2.1, 11, .inl (fun _ => 0)))]) ++ (wT G h9 (fun _ _ => 0))) ++ [(q10, .inr (3, [.ref (h9 0), .int 0, .int 0, .int 0, .int 0]))]) ++ [(q11, .inl (G.2.2.1, 4, .inr (.inr (.inr (.inr (va_up (va_up (va_up (va_up (fun _ => none) 0 (some (h15 0))) 1 (some (h18 0))) 2 (some (h21 0))) 3 (some (h24 0))))))))]) ++ [(q12, .inl (G.2.1, 7, .inl (fun _ => 0)))]) ++ (wS G h15 (fun _ _ => 0))) ++ (wS G h18 (fun _ _ => 0))) ++ (wS G h21 (fun _ _ => 0))) ++ (wS G h24 (fun _ _ => 0)))) rfl ?_
  refine J_iinc E (v := 4) (lv' := [(1, .int (4)), (0, .ref (o))]) dX5_init_107 0 rfl (by decide) (by decide) rfl ?_
  refine J_goto E (tgt := 89) dX5_init_110 (by decide) ?_
  refine J_iload_n E dX5_init_89 rfl 0 rfl ?_
  refine J_iconst E (v := (4)) dX5_init_90 (by decide) ?_
  refine J_icmp_ge E (tgt := 113) dX5_init_91 (by decide) (fun c_25 => ?_) (fun c_25 => absurd (by decide) c_25)
  refine J_arrq (g := shR (adL [o, h2 0, h2 1, h2 2, h2 3, h2 4, h2 5, h2 6, h2 7, h4 0, h4 1, h4 2, h4 3, h4 4, h4 5, h4 6, h4 7, h6 0, h6 1, h6 2, h6 3, h6 4, h6 5, h6 6, h6 7, q7, q12, h9 0, h9 1, q10, q11, h15 0, h15 1, h18 0, h18 1, h21 0, h21 1, h24 0, h24 1])) 29 rfl (fun j hj => by rcases (show j = 0 ∨ j = 1 ∨ j = 2 ∨ j = 3 by omega) with rfl | rfl | rfl | rfl <;> rfl) ?_
  refine J_w (ws' := (((((((((((([(o, .inr (4, [.ref (h2 0), .ref (h4 0), .ref (h6 0), .ref q7, .ref (h9 0), .ref q10, .ref q11, .ref q12, .int 0]))] ++ (wQ G h2 iniQ)) ++ (wQ G h4 iniQ)) ++ (wQ G h6 iniQ)) ++ [(q7, .inl (G.2.1, 11, .inl (fun _ => 0)))]) ++ (wT G h9 (fun _ _ => 0))) ++ [(q10, .inr (3, [.ref (h9 0), .int 0, .int 0, .int 0, .int 0]))]) ++ [(q11, .inl (G.2.2.1, 4, .inr (.inr (.inr (.inr (shR (adL [o, h2 0, h2 1, h2 2, h2 3, h2 4, h2 5, h2 6, h2 7, h4 0, h4 1, h4 2, h4 3, h4 4, h4 5, h4 6, h4 7, h6 0, h6 1, h6 2, h6 3, h6 4, h6 5, h6 6, h6 7, q7, q12, h9 0, h9 1, q10, q11, h15 0, h15 1, h18 0, h18 1, h21 0, h21 1, h24 0, h24 1])))))))]) ++ [(q12, .inl (G.2.1, 7, .inl (fun _ => 0)))]) ++ (wS G h15 (fun _ _ => 0))) ++ (wS G h18 (fun _ _ => 0))) ++ (wS G h21 (fun _ _ => 0))) ++ (wS G h24 (fun _ _ => 0)))) rfl ?_
  have pm : List.Perm ((((((((((((([(o, .inr (4, [.ref (h2 0), .ref (h4 0), .ref (h6 0), .ref q7, .ref (h9 0), .ref q10, .ref q11, .ref q12, .int 0]))] ++ (wQ G h2 iniQ)) ++ (wQ G h4 iniQ)) ++ (wQ G h6 iniQ)) ++ [(q7, .inl (G.2.1, 11, .inl (fun _ => 0)))]) ++ (wT G h9 (fun _ _ => 0))) ++ [(q10, .inr (3, [.ref (h9 0), .int 0, .int 0, .int 0, .int 0]))]) ++ [(q11, .inl (G.2.2.1, 4, .inr (.inr (.inr (.inr (shR (adL [o, h2 0, h2 1, h2 2, h2 3, h2 4, h2 5, h2 6, h2 7, h4 0, h4 1, h4 2, h4 3, h4 4, h4 5, h4 6, h4 7, h6 0, h6 1, h6 2, h6 3, h6 4, h6 5, h6 6, h6 7, q7, q12, h9 0, h9 1, q10, q11, h15 0, h15 1, h18 0, h18 1, h21 0, h21 1, h24 0, h24 1])))))))]) ++ [(q12, .inl (G.2.1, 7, .inl (fun _ => 0)))]) ++ (wS G h15 (fun _ _ => 0))) ++ (wS G h18 (fun _ _ => 0))) ++ (wS G h21 (fun _ _ => 0))) ++ (wS G h24 (fun _ _ => 0)))) ((((([(o, .inr (4, [.ref (h2 0), .ref (h4 0), .ref (h6 0), .ref q7, .ref (h9 0), .ref q10, .ref q11, .ref q12, .int 0]))] ++ (wQ G h2 iniQ)) ++ (wQ G h4 iniQ)) ++ (wQ G h6 iniQ)) ++ [(q7, .inl (G.2.1, 11, .inl (fun _ => 0)))]) ++ ([(q12, .inl (G.2.1, 7, .inl (fun _ => 0)))] ++ (((wT G h9 (fun _ _ => 0)) ++ ([(q10, .inr (3, [.ref (h9 0), .int 0, .int 0, .int 0, .int 0]))] ++ ([(q11, .inl (G.2.2.1, 4, .inr (.inr (.inr (.inr (shR (adL [o, h2 0, h2 1, h2 2, h2 3, h2 4, h2 5, h2 6, h2 7, h4 0, h4 1, h4 2, h4 3, h4 4, h4 5, h4 6, h4 7, h6 0, h6 1, h6 2, h6 3, h6 4, h6 5, h6 6, h6 7, q7, q12, h9 0, h9 1, q10, q11, h15 0, h15 1, h18 0, h18 1, h21 0, h21 1, h24 0, h24 1])))))))]))) ++ ((wS G h15 (fun _ _ => 0)) ++ ((wS G h18 (fun _ _ => 0)) ++ ((wS G h21 (fun _ _ => 0)) ++ ((wS G h24 (fun _ _ => 0))))))))) := by
    refine (List.Perm.of_eq (show _ = (((([(o, .inr (4, [.ref (h2 0), .ref (h4 0), .ref (h6 0), .ref q7, .ref (h9 0), .ref q10, .ref q11, .ref q12, .int 0]))] ++ (wQ G h2 iniQ)) ++ (wQ G h4 iniQ)) ++ (wQ G h6 iniQ)) ++ [(q7, .inl (G.2.1, 11, .inl (fun _ => 0)))]) ++ (((wT G h9 (fun _ _ => 0)) ++ ([(q10, .inr (3, [.ref (h9 0), .int 0, .int 0, .int 0, .int 0]))] ++ ([(q11, .inl (G.2.2.1, 4, .inr (.inr (.inr (.inr (shR (adL [o, h2 0, h2 1, h2 2, h2 3, h2 4, h2 5, h2 6, h2 7, h4 0, h4 1, h4 2, h4 3, h4 4, h4 5, h4 6, h4 7, h6 0, h6 1, h6 2, h6 3, h6 4, h6 5, h6 6, h6 7, q7, q12, h9 0, h9 1, q10, q11, h15 0, h15 1, h18 0, h18 1, h21 0, h21 1, h24 0, h24 1])))))))]))) ++ ([(q12, .inl (G.2.1, 7, .inl (fun _ => 0)))] ++ ((wS G h15 (fun _ _ => 0)) ++ ((wS G h18 (fun _ _ => 0)) ++ ((wS G h21 (fun _ _ => 0)) ++ ((wS G h24 (fun _ _ => 0)))))))) by simp only [List.append_assoc])).trans ?_
    exact List.Perm.append_left _ (List.perm_append_comm_assoc _ _ _)
  refine J_perm pm ?_
  refine J_w (ws' := wC G (adL [o, h2 0, h2 1, h2 2, h2 3, h2 4, h2 5, h2 6, h2 7, h4 0, h4 1, h4 2, h4 3, h4 4, h4 5, h4 6, h4 7, h6 0, h6 1, h6 2, h6 3, h6 4, h6 5, h6 6, h6 7, q7, q12, h9 0, h9 1, q10, q11, h15 0, h15 1, h18 0, h18 1, h21 0, h21 1, h24 0, h24 1]) iniC) rfl ?_
  exact ret _ _ _ ⟨adL [o, h2 0, h2 1, h2 2, h2 3, h2 4, h2 5, h2 6, h2 7, h4 0, h4 1, h4 2, h4 3, h4 4, h4 5, h4 6, h4 7, h6 0, h6 1, h6 2, h6 3, h6 4, h6 5, h6 6, h6 7, q7, q12, h9 0, h9 1, q10, q11, h15 0, h15 1, h18 0, h18 1, h21 0, h21 1, h24 0, h24 1], rfl, rfl⟩ dX5_init_113
