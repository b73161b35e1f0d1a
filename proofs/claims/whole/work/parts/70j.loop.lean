theorem more_6 {L i : Nat} (hL : L ≤ 3072) (hi : i ≤ 4000) (h : ¬ nI L - 6 < nI i) : i + 6 ≤ L := by
  by_cases c : 6 ≤ L
  · rw [show (6 : Int32) = nI 6 from rfl, pk_sub c] at h
    have := cmp_nlt (by omega) (by omega) h
    omega
  · refine absurd ?_ h
    rw [show (6 : Int32) = nI 6 from rfl]
    exact Int32.lt_of_lt_of_le (sub_lt0 (a := L) (b := 6) (by omega) (by decide)) (nI_pos' (by omega))
section LOOP
variable {X : JX} {l : Launch} {G : GB} {kc ks : Nat} {b L : Nat} {xs : Nat → Int32} {a h : Nat → Nat}
/-- the law's loop -/
theorem w_loop (E : JE X l G cL_law RL 4 13 484) (S : scr X b L xs) (hr : kc ≤ X.1.2.2.2.1.cells ∧ ks ≤ X.1.2.2.2.1.slots) (Kend : ∀ (x y : Q3) (i : Nat), J X G 4 kc ks (wC G a x ++ wM G h y) (lvL b (a 0) (h 0) i) 1439 []) : ∀ (n k : Nat) (x y : Q3), Rel k x y → L ≤ 6 * k + 6 * n → k ≤ 512 → J X G 4 kc ks (wC G a x ++ wM G h y) (lvL b (a 0) (h 0) (6 * k)) 18 [] := by
  intro n
  induction n with
  | zero =>
    intro k x y hR hn hk
    refine J_iload_n E dL_law_18 rfl 0 rfl ?_
    refine J_aload_n E dL_law_19 rfl 3 rfl ?_
    refine J_slen E S dL_law_20 ?_
    refine J_bipush E dL_law_21 (v := 6) (by decide) ?_
    refine J_isub E dL_law_23 ?_
    refine J_icmp_gt E (tgt := 1439) dL_law_24 (by decide) (fun _ => Kend x y (6 * k)) (fun c => ?_)
    have := more_6 S.2.2.2 (by omega) c
    omega
  | succ n ih =>
    intro k x y hR hn hk
    refine J_iload_n E dL_law_18 rfl 0 rfl ?_
    refine J_aload_n E dL_law_19 rfl 3 rfl ?_
    refine J_slen E S dL_law_20 ?_
    refine J_bipush E dL_law_21 (v := 6) (by decide) ?_
    refine J_isub E dL_law_23 ?_
    refine J_icmp_gt E (tgt := 1439) dL_law_24 (by decide) (fun _ => Kend x y (6 * k)) (fun c => ?_)
    have l6 := more_6 S.2.2.2 (by omega) c
    have lm := S.2.2.2
    refine J_arg0 E S (by omega) dL_law_27 dL_law_28 dL_law_29 ?_
    refine J_bipush E dL_law_30 (v := 63) (by decide) ?_
    refine J_iand E dL_law_32 ?_
    refine w_switch E S (by omega) (by omega) hr hR _ (fun x' y' r => ?_)
    refine J_iinc E (lv' := lvL b (a 0) (h 0) (6 * (k + 1))) dL_law_1433 0 rfl (v := nI (6 * (k + 1))) ?_ (by decide) rfl ?_
    · rw [show Int32.ofInt 6 = nI 6 by decide, nI_add]
      exact congrArg nI (by omega)
    · refine J_goto E (tgt := 18) dL_law_1436 (by decide) ?_
      exact ih (k + 1) x' y' r (by omega) (by omega)
end LOOP
/-- both objects as they are made -/
theorem inR_0 {m : Nat} (n : Nat) (h : n ≤ m) : inR m (nI n) := ⟨n, h, rfl⟩
theorem qOk_ini : qOk 0 iniQ :=
  ⟨⟨⟨fun _ _ => Or.inl rfl, fun _ _ => ⟨0, by decide, rfl⟩⟩, fun _ _ => ⟨⟨0, by decide, rfl⟩, ⟨2, by decide, rfl⟩, ⟨10, by decide, rfl⟩, ⟨0, by decide, rfl⟩⟩, ⟨0, by decide, rfl⟩, ⟨0, by decide, rfl⟩, ⟨20, by decide, rfl⟩, ⟨0, by decide, rfl⟩⟩, fun _ _ => Or.inl rfl, 0, Nat.zero_le _, rfl⟩
theorem Rel_ini : Rel 0 iniC iniX := by
  refine ⟨fun g hg => ?_, ?_, fun z => ?_, ⟨0, by decide, rfl⟩, fun s hs => ⟨0, by decide, ?_⟩⟩
  · have c1 : g ≠ 1 := by rcases hg with z | z | z | z <;> omega
    have c2 : g ≠ 2 := by rcases hg with z | z | z | z <;> omega
    unfold iniC iniX
    rw [gG_n _ _ c2, gG_n _ _ c1]
  · exact qOk_ini
  · exact absurd rfl z
  · unfold iniC
    rw [gG_n _ _ (by omega), gG_n _ _ (by omega), gG_n _ _ (by omega)]
    rfl
theorem dv_X5 : ∀ j, j < 9 → defaultValue (tyX5 j) = vp_V [.null, .null, .null, .null, .null, .null, .null, .null, .int 0] j := by
  intro j hj
  rcases (show j = 0 ∨ j = 1 ∨ j = 2 ∨ j = 3 ∨ j = 4 ∨ j = 5 ∨ j = 6 ∨ j = 7 ∨ j = 8 by omega) with rfl | rfl | rfl | rfl | rfl | rfl | rfl | rfl | rfl <;> rfl
theorem dv_X6 : ∀ j, j < 17 → defaultValue (tyX6 j) = vp_V [.null, .null, .null, .int 0, .null, .null, .int 0, .null, .null, .int 0, .int 0, .int 0, .int 0, .null, .null, .null, .null] j := by
  intro j hj
  rcases (show j = 0 ∨ j = 1 ∨ j = 2 ∨ j = 3 ∨ j = 4 ∨ j = 5 ∨ j = 6 ∨ j = 7 ∨ j = 8 ∨ j = 9 ∨ j = 10 ∨ j = 11 ∨ j = 12 ∨ j = 13 ∨ j = 14 ∨ j = 15 ∨ j = 16 by omega) with rfl | rfl | rfl | rfl | rfl | rfl | rfl | rfl | rfl | rfl | rfl | rfl | rfl | rfl | rfl | rfl | rfl <;> rfl
theorem nst_go {s U : State} (hW : s.WarmedH U.vm) (h : nst s) : nst U := ⟨va_Nw.warmM hW h.1, va_Nw.warmM hW h.2.1, va_AO.moved hW.alike h.2.2⟩
theorem mPn_blind {G : GB} {ws : va_W} {sz : Nat} {av : List Value} : FrameBlind (va_Pc av (fun U => mP G ws sz U ∧ nst U)) := fun a U g mk q => by
  obtain ⟨q0, ⟨q1, qP, qK, qD, qC⟩, qN⟩ := q
  exact ⟨q0, ⟨q1, qP, va_K.moved (u := U) (U := U.calling g mk a) (Vm.Alike.refl U.vm) qK, qD, cst.blind (U := U.calling g mk a) rfl qC⟩, va_Nw.same rfl (U := U.calling g mk a) rfl qN.1, va_Nw.same rfl (U := U.calling g mk a) rfl qN.2.1, va_AO.moved (U := U.calling g mk a) (Vm.Alike.refl U.vm) qN.2.2⟩
section JN3
variable {X : JX} {l : Launch} {G : GB} {cc : ByteArray} {own : String} {nL fr lo kc ks pc : Nat} {ws : va_W} {lv : List (Nat × Value)} {st : List Value}
set_option maxHeartbeats 4000000 in
/-- the class's own constructor, called from without -/
theorem J_callIn (E : JE X l G cc own nL fr lo) (hN : nst X.1.2.2.2.2.1) {y : MethodName} {bc : ByteArray} {mL fr' lo' mc ms idx na : Nat} {b : Nat} {As rest : List Value} {wc : va_W} {Post : va_W → Prop} (w1 w2 : va_W) (hc : CVN l y bc mL fr' lo' mc ms G (.ref b :: As) wc Post) (hg : Cond.code y bc mL none ∈ lw_T) (hg1 : Cond.initialized y.cls ∈ lw_T) (hg2 : Cond.methodLink own idx y ∈ lw_T) (hg3 : Cond.instanceMethod y ∈ lw_T) (hyn : y.name = "<init>") (hy : y.cls ≠ "java/lang/invoke/MethodHandle" ∧ y.cls ≠ "java/lang/invoke/VarHandle" ∧ (parseMethodDescriptor y.desc).map (fun d => d.parameters.length) = some na) (hd : decode cc pc = .ok (.invokespecial idx, 3)) (hn : As.length = na) (hR1 : fr' + 1 ≤ fr) (hR2 : 8 + (mL + 11) + lo' ≤ lo) (hst : st = As.reverse ++ .ref b :: rest) (hrm : (rest.map fun v => v.category).sum ≤ 8) (hw : ws = w1 ++ (wc ++ w2)) (hk : kc + mc ≤ X.1.2.2.2.1.cells ∧ ks + ms ≤ X.1.2.2.2.1.slots)
    (K : ∀ (w' : va_W), Post w' → J X G nL (kc + mc) (ks + ms) (w1 ++ (w' ++ w2)) lv (pc + 3) (rest)) : J X G nL kc ks ws lv pc st := by
  intro H locs ls hP hD hS hl
  obtain ⟨hx, hb, hml, hown, hts, hK, hA, rfl, hC, hf1, hf2⟩ := E
  subst hw hst
  have hPc := seg_P hP
  have hDc := seg_D hD
  have hFc := seg_F hD hS hA
  refine va_callv (va_runI (As := As) (rest := rest) ⟨hx, hb, hml, hown, hts⟩ (hc H.size) (cwI na hts (ws_good hg) rfl rfl rfl (hts _ hg1) (hts _ hg2) (hts _ hg3) hyn hy ⟨Nat.le_trans hR1 hf1, Nat.le_trans hR2 hf2⟩) ⟨mPn_blind, fun U hU hW => ⟨rfl, ⟨by rw [hU], by rw [hU]; exact hPc, va_K.moved hW.alike hK, hDc.weaken (fun _ _ _ _ => trivial), by rw [hU]; exact cst.go hW hC hS.2.1 hFc⟩, nst_go hW hN⟩⟩ rfl hn hl.1 rfl (lv_room hrm) hd hk) hS (fun q _ h => hFc q h) hFc (fun w' t H1 locs1 ht hvm hw hB hz1 hk1 hS1 => ?_)
  obtain ⟨hP1, hD1⟩ := hB
  rw [ht] at hP1
  obtain ⟨hP2, hD2⟩ := seg_join hP hD hk1 hFc hP1 hD1
  exact K w' hw H1 locs1 ls hP2 hD2 hS1 hl
end JN3
section START
variable {X : JX} {l : Launch} {G : GB} {b L : Nat} {xs : Nat → Int32}
set_option maxHeartbeats 4000000 in
set_option maxRecDepth 20000 in
/-- the law's body, from its entry to its end -/
theorem w_start (E : JE X l G cL_law RL 4 13 484) (hN : nst X.1.2.2.2.2.1) (S : scr X b L xs) (hr : 51 ≤ X.1.2.2.2.1.cells ∧ 1211 ≤ X.1.2.2.2.1.slots) (Kend : ∀ (ws : va_W) (lv : List (Nat × Value)), J X G 4 51 1211 ws lv 1439 []) : J X G 4 0 0 [] [(0, .ref b)] 0 [] := by
  refine J_new E (ci := 4) (fs := [.null, .null, .null, .null, .null, .null, .null, .null, .int 0]) inT_X5 tyX5_ok kc_L_7 ib_X5 ini_X5 rfl dv_X5 (by omega) (by omega) dL_law_0 (fun q1 => ?_)
  refine J_w (ws' := [(q1, .inr (4, [.null, .null, .null, .null, .null, .null, .null, .null, .int 0]))]) rfl ?_
  refine J_dup E dL_law_3 rfl ?_
  refine J_callIn E hN (As := []) (rest := [.ref q1]) [] [] (c_X5_init l G q1) co_X5_init ini_X5 ml_L_9 im_X5_init rfl ⟨by decide, by decide, by decide +kernel⟩ dL_law_4 rfl (Nat.le_of_ble_eq_true rfl) (Nat.le_of_ble_eq_true rfl) rfl (Nat.le_of_ble_eq_true rfl) rfl ⟨by omega, by omega⟩ (fun w1 e1 => ?_)
  obtain ⟨a, e2, rfl⟩ := e1
  subst e2
  refine J_w (ws' := wC G a iniC) (by rw [List.append_nil, List.nil_append]) ?_
  refine J_astore_n E (lv' := [(1, .ref (a 0)), (0, .ref b)]) dL_law_7 rfl (by decide) rfl ?_
  refine J_new E (ci := 5) (fs := [.null, .null, .null, .int 0, .null, .null, .int 0, .null, .null, .int 0, .int 0, .int 0, .int 0, .null, .null, .null, .null]) inT_X6 tyX6_ok kc_L_10 ib_X6 ini_X6 rfl dv_X6 (by omega) (by omega) dL_law_8 (fun q2 => ?_)
  refine J_dup E dL_law_11 rfl ?_
  refine J_callIv E (As := []) (rest := [.ref q2]) (wC G a iniC) [] (c_X6_init l G q2) co_X6_init ini_X6 ml_L_12 im_X6_init rfl ⟨by decide, by decide, by decide +kernel⟩ dL_law_12 rfl (Nat.le_of_ble_eq_true rfl) (Nat.le_of_ble_eq_true rfl) rfl (Nat.le_of_ble_eq_true rfl) (by rw [List.append_nil]) ⟨by omega, by omega⟩ (fun w2 e3 => ?_)
  obtain ⟨h, e4, rfl⟩ := e3
  subst e4
  refine J_w (ws' := wC G a iniC ++ wM G h iniX) (by rw [List.append_nil]) ?_
  refine J_astore_n E (lv' := [(2, .ref (h 0)), (1, .ref (a 0)), (0, .ref b)]) dL_law_15 rfl (by decide) rfl ?_
  refine J_iconst E dL_law_16 (v := nI 0) (by decide) ?_
  refine J_istore_n E (lv' := lvL b (a 0) (h 0) 0) dL_law_17 rfl (by decide) rfl ?_
  exact w_loop E S hr (fun _ _ _ => Kend _ _) 512 0 iniC iniX Rel_ini (by have := S.2.2.2; omega) (by decide)
end START
