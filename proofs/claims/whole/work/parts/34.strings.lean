theorem byS_len : ∀ i, i < 27 → (byS i).length < 100 := by decide +kernel
theorem byS_ch : ∀ i, i < 27 → ∀ k, k < (byS i).length → (((byS i).getD k 0 &&& 255).toUInt32 % 65536).toInt32 = (byS i).getD k 0 ∧ narrow .char (.int ((byS i).getD k 0)) = .int ((byS i).getD k 0) := by decide +kernel
section ST
variable {X : JX} {l : Launch} {G : GB} {cc : ByteArray} {own : String} {nL fr lo kc ks pc : Nat} {ws : va_W} {lv : List (Nat × Value)} {st : List Value}
theorem J_gCS (E : JE X l G cc RJ0 nL fr lo) (hd : decode cc pc = .ok (.getstatic 38, 3)) (K : J X G nL kc ks ws lv (pc + 3) (.int 1 :: st)) : J X G nL kc ks ws lv pc st := fun H locs ls hP hD hS hl =>
  va_gets E.1 E.2.1 E.2.2.2.2.2.2.2.2.1.2.2.1 hS E.2.2.2.1 (E.2.2.2.2.1 _ fl_J0_38) (fun _ h => h) hd (K H locs ls hP hD hS hl)
theorem J_gSio (E : JE X l G cc RJ0 nL fr lo) (hd : decode cc pc = .ok (.getstatic 1053, 3)) (K0 : J X G nL kc ks ws lv (pc + 3) (.null :: st)) (K1 : ∀ t : Nat, J X G nL kc ks ws lv (pc + 3) (.ref t :: st)) : J X G nL kc ks ws lv pc st := fun H locs ls hP hD hS hl => by
  rcases E.2.2.2.2.2.2.2.2.1.2.2.2.1 with h | ⟨t, h⟩
  · exact va_gets E.1 E.2.1 h hS E.2.2.2.1 (E.2.2.2.2.1 _ fl_J0_1053) (fun _ h => h) hd (K0 H locs ls hP hD hS hl)
  · exact va_gets E.1 E.2.1 h hS E.2.2.2.1 (E.2.2.2.2.1 _ fl_J0_1053) (fun _ h => h) hd (K1 t H locs ls hP hD hS hl)
theorem J_gSc {i : Nat} (E : JE X l G cc RJ0 nL fr lo) (hi : i < 27) (hd : decode cc pc = .ok (.getfield 15, 3)) (K : J X G nL kc ks ws lv (pc + 3) (.int 0 :: st)) : J X G nL kc ks ws lv pc (.ref (G.2.2.2.2.1 i) :: st) := fun H locs ls hP hD hS hl =>
  vk_getf E.1 E.2.1 (E.2.2.2.2.2.2.2.2.1.2.2.2.2.1 i hi).2.1 hS E.2.2.2.1 (E.2.2.2.2.1 _ fl_J0_15) (fun _ h => h) hd (K H locs ls hP hD hS hl)
theorem J_gSv {i : Nat} (E : JE X l G cc RJ0 nL fr lo) (hi : i < 27) (hd : decode cc pc = .ok (.getfield 9, 3)) (K : J X G nL kc ks ws lv (pc + 3) (.ref (G.2.2.2.2.2 i) :: st)) : J X G nL kc ks ws lv pc (.ref (G.2.2.2.2.1 i) :: st) := fun H locs ls hP hD hS hl =>
  vk_getf E.1 E.2.1 (E.2.2.2.2.2.2.2.2.1.2.2.2.2.1 i hi).2.2.1 hS E.2.2.2.1 (E.2.2.2.2.1 _ fl_J0_9) (fun _ h => h) hd (K H locs ls hP hD hS hl)
theorem J_lenS {i : Nat} (E : JE X l G cc own nL fr lo) (hi : i < 27) (hd : decode cc pc = .ok (.arraylength, 1)) (K : J X G nL kc ks ws lv (pc + 1) (.int (nI (byS i).length) :: st)) : J X G nL kc ks ws lv pc (.ref (G.2.2.2.2.2 i) :: st) := fun H locs ls hP hD hS hl =>
  va_tlen E.1 E.2.1 (E.2.2.2.2.2.2.2.2.1.2.2.2.2.1 i hi).2.2.2 hS rfl hd (K H locs ls hP hD hS hl)
theorem J_baldS {i k : Nat} (E : JE X l G cc own nL fr lo) (hi : i < 27) (hk : k < (byS i).length) (hd : decode cc pc = .ok (.baload, 1)) (K : J X G nL kc ks ws lv (pc + 1) (.int ((byS i).getD k 0) :: st)) : J X G nL kc ks ws lv pc (.int (nI k) :: .ref (G.2.2.2.2.2 i) :: st) := fun H locs ls hP hD hS hl => by
  have hL := byS_len i hi
  exact va_tb E.1 E.2.1 (E.2.2.2.2.2.2.2.2.1.2.2.2.2.1 i hi).2.2.2 hS (vp_in_nI hk (by omega)) (by rw [nI_clamp (by omega)]) hd (K H locs ls hP hD hS hl)
theorem J_ldcS (E : JE X l G cc own nL fr lo) {idx q : Nat} {tx : String} (hq : strK[q]? = some (own, idx, tx)) (hd : decode cc pc = .ok (.ldc idx, 2)) (K : J X G nL kc ks ws lv (pc + 2) (.ref (G.2.2.2.2.1 q) :: st)) : J X G nL kc ks ws lv pc st := fun H locs ls hP hD hS hl =>
  va_ldcS E.1 E.2.1 E.2.2.2.1 (E.2.2.2.2.2.2.2.2.1.2.2.2.2.2 q _ hq) hd (K H locs ls hP hD hS hl)
theorem J_ldcwS (E : JE X l G cc own nL fr lo) {idx q : Nat} {tx : String} (hq : strK[q]? = some (own, idx, tx)) (hd : decode cc pc = .ok (.ldc_w idx, 3)) (K : J X G nL kc ks ws lv (pc + 3) (.ref (G.2.2.2.2.1 q) :: st)) : J X G nL kc ks ws lv pc st := by
  intro H locs ls hP hD hS hl T hT Y
  obtain ⟨t, a1, b1⟩ := K H locs ls hP hD hS hl T hT Y
  refine ⟨t, ?_, b1⟩
  have hZ : vk_R own idx tx (G.2.2.2.2.1 q) X.1.2.2.2.2.1 := E.2.2.2.2.2.2.2.2.1.2.2.2.2.2 q _ hq
  obtain ⟨k, cf, i, a', hk, hcf, hcp, -, hr, hev'⟩ := Cond.stringRef_spec E.2.2.2.1 hZ.1
  cases hZ.2.symm.trans hev'
  obtain ⟨k', hk', he⟩ := Y.warmed.alike.2.2 _ _ hk
  have hr' : k'.resolved[idx]? = some (some (.string (G.2.2.2.2.1 q))) := by
    rcases Y.warmed.entry hk hk' idx with h | ⟨h, -⟩
    · rw [h]; exact hr
    · rw [hr] at h; cases h
  have hdc : decode X.2.1.2.2.2.1.code (F0 X.1.2.2.2.2.2 pc ls st).pc = .ok (.ldc_w idx, 3) := by rw [E.2.1]; exact hd
  jvm_step Y.here [E.1, hdc, ldc_w.wp_string (s := T) (f := F0 X.1.2.2.2.2.2 pc ls st) Y.here.top hk' (by rw [he]; exact hcf) hcp hr']
  exact a1
theorem J_callKi (E : JE X l G cc own nL fr lo) {y : MethodName} {bc : ByteArray} {mL fr' lo' idx na i : Nat} {rt : FieldType} {R : Int32} {As rest : List Value} (hi : i < 27) (hc : CI l y bc mL rt fr' lo' G (.ref (G.2.2.2.2.1 i) :: As) [] (fun v w' => v = R ∧ w' = [])) (hg : GoodIn lw_T (wsV own idx RJ0 y (WS y bc mL (some rt)))) (hy : y.cls = RJ0 ∧ y.cls ≠ "java/lang/invoke/MethodHandle" ∧ y.cls ≠ "java/lang/invoke/VarHandle" ∧ (parseMethodDescriptor y.desc).map (fun d => d.parameters.length) = some na) (hd : decode cc pc = .ok (.invokevirtual idx, 3)) (hn : As.length = na) (hR1 : fr' + 1 ≤ fr) (hR2 : 8 + (mL + 11) + lo' ≤ lo) (hst : st = As.reverse ++ .ref (G.2.2.2.2.1 i) :: rest) (hrm : (rest.map fun v => v.category).sum ≤ 8) (hk : kc ≤ X.1.2.2.2.1.cells ∧ ks ≤ X.1.2.2.2.1.slots)
    (K : J X G nL kc ks ws lv (pc + 3) (.int R :: rest)) : J X G nL kc ks ws lv pc st := by
  intro H locs ls hP0 hD0 hS hl
  obtain ⟨hx, hb, hml, hown, hts, hK, hA, rfl, hC, hf1, hf2⟩ := E
  subst hst
  have hP : va_P G.1 vwCl ([] ++ ([] ++ ws)) H := by simpa using hP0
  have hD : va_D X.2.2 ([] ++ ([] ++ ws)) := by simpa using hD0
  have hPc := seg_P hP
  have hDc := seg_D hD
  have hFc := seg_F hD hS hA
  refine va_calli (va_runV (As := As) (rest := rest) ⟨hx, hb, hml, hown, hts⟩ (hc H.size) (cwV na hts hg rfl rfl rfl hy ⟨Nat.le_trans hR1 hf1, Nat.le_trans hR2 hf2⟩) ⟨mP_blind, va_Orecv (hC.2.2.2.2.1 i hi).1 hS, fun U hU hW => ⟨rfl, by rw [hU], by rw [hU]; exact hPc, va_K.moved hW.alike hK, hDc.weaken (fun _ _ _ _ => trivial), by rw [hU]; exact cst.go hW hC hS.2.1 hFc⟩⟩ rfl hn hl.1 rfl (lv_room hrm) hd ⟨hk.1, hk.2⟩) hS (fun q _ h => hFc q h) hFc (fun r w' t H1 locs1 ht hvm hw hB hz1 hk1 hS1 => ?_)
  obtain ⟨hP1, hD1⟩ := hB
  obtain ⟨rfl, rfl⟩ := hw
  rw [ht] at hP1
  obtain ⟨hP2, hD2⟩ := seg_join hP hD hk1 hFc hP1 hD1
  exact K H1 locs1 ls (by simpa using hP2) (by simpa using hD2) hS1 hl
end ST

set_option maxHeartbeats 4000000 in
set_option maxRecDepth 20000 in
theorem c_J0_coder_7d493 (l : Launch) (G : GB) (i : Nat) (hi : i < 27) : CI l yJ0_coder_7d493 cJ0_coder_7d493 1 .byte 0 0 G [.ref (G.2.2.2.2.1 i)] [] (fun v w' => v = 0 ∧ w' = []) := by
  refine CI.mk (own := RJ0) (by decide) rfl (Nat.le_of_ble_eq_true rfl) ?_
  intro X E ret
  show J X G 1 0 0 [] [(0, .ref (G.2.2.2.2.1 i))] 0 []
  refine J_gCS E dJ0_coder_7d493_0 ?_
  refine J_if_eq E (tgt := 13) dJ0_coder_7d493_3 (by decide) (fun c_3 => ?_) (fun c_3 => ?_)
  · exact absurd c_3 (by decide)
  · refine J_aload_n E dJ0_coder_7d493_6 rfl 0 rfl ?_
    refine J_gSc E hi dJ0_coder_7d493_7 ?_
    refine J_goto E (tgt := 14) dJ0_coder_7d493_10 (by decide) ?_
    exact ret _ _ _ _ ⟨rfl, rfl⟩ rfl dJ0_coder_7d493_14
set_option maxHeartbeats 4000000 in
set_option maxRecDepth 20000 in
theorem c_J0_length_8abf5 (l : Launch) (G : GB) (i : Nat) (hi : i < 27) : CI l yJ0_length_8abf5 cJ0_length_8abf5 1 .int 1 20 G [.ref (G.2.2.2.2.1 i)] [] (fun v w' => v = nI (byS i).length ∧ w' = []) := by
  refine CI.mk (own := RJ0) (by decide) rfl (Nat.le_of_ble_eq_true rfl) ?_
  intro X E ret
  show J X G 1 0 0 [] [(0, .ref (G.2.2.2.2.1 i))] 0 []
  refine J_aload_n E dJ0_length_8abf5_0 rfl 0 rfl ?_
  refine J_gSv E hi dJ0_length_8abf5_1 ?_
  refine J_lenS E hi dJ0_length_8abf5_4 ?_
  refine J_aload_n E dJ0_length_8abf5_5 rfl 0 rfl ?_
  refine J_callKi E (As := []) hi (c_J0_coder_7d493 l G i hi) cl_J0_335 yo_J0_coder_7d493 dJ0_length_8abf5_6 rfl (Nat.le_of_ble_eq_true rfl) (Nat.le_of_ble_eq_true rfl) rfl (Nat.le_of_ble_eq_true rfl) ⟨Nat.zero_le _, Nat.zero_le _⟩ ?_
  refine J_ishr E dJ0_length_8abf5_9 ?_
  have hL := byS_len i hi
  exact ret _ _ _ _ ⟨by rw [pk_shrN (n := (byS i).length) (by omega) _ 0 (by decide)]; simp, rfl⟩ rfl dJ0_length_8abf5_10
set_option maxHeartbeats 4000000 in
set_option maxRecDepth 20000 in
theorem c_J0_isLatin1_aae02 (l : Launch) (G : GB) (i : Nat) (hi : i < 27) : CI l yJ0_isLatin1_aae02 cJ0_isLatin1_aae02 1 .boolean 0 0 G [.ref (G.2.2.2.2.1 i)] [] (fun v w' => v = 1 ∧ w' = []) := by
  refine CI.mk (own := RJ0) (by decide) rfl (Nat.le_of_ble_eq_true rfl) ?_
  intro X E ret
  show J X G 1 0 0 [] [(0, .ref (G.2.2.2.2.1 i))] 0 []
  refine J_gCS E dJ0_isLatin1_aae02_0 ?_
  refine J_if_eq E (tgt := 17) dJ0_isLatin1_aae02_3 (by decide) (fun c_3 => ?_) (fun c_3 => ?_)
  · exact absurd c_3 (by decide)
  · refine J_aload_n E dJ0_isLatin1_aae02_6 rfl 0 rfl ?_
    refine J_gSc E hi dJ0_isLatin1_aae02_7 ?_
    refine J_if_ne E (tgt := 17) dJ0_isLatin1_aae02_10 (by decide) (fun c_10 => ?_) (fun c_10 => ?_)
    · exact absurd rfl c_10
    · refine J_iconst E dJ0_isLatin1_aae02_13 ic_1 ?_
      refine J_goto E (tgt := 18) dJ0_isLatin1_aae02_14 (by decide) ?_
      exact ret _ _ _ _ ⟨rfl, rfl⟩ rfl dJ0_isLatin1_aae02_18

set_option maxHeartbeats 4000000 in
set_option maxRecDepth 20000 in
theorem c_J3_checkIndex_n (l : Launch) (G : GB) (k n : Nat) (hk : k < n) (hn : n < 2 ^ 31) : CI l yJ3_checkIndex_8e157 cJ3_checkIndex_8e157 3 .int 0 0 G [.int (nI k), .int (nI n), .null] [] (fun v w' => v = nI k ∧ w' = []) := by
  refine CI.mk (own := RJ3) (by decide) rfl (Nat.le_of_ble_eq_true rfl) ?_
  intro X E ret
  show J X G 3 0 0 [] [(0, .int (nI k)), (1, .int (nI n)), (2, .null)] 0 []
  refine J_iload_n E dJ3_checkIndex_8e157_0 rfl 0 rfl ?_
  refine J_if_lt E (tgt := 9) dJ3_checkIndex_8e157_1 (by decide) (fun c_1 => ?_) (fun c_1 => ?_)
  · exact absurd c_1 (nI_pos (by omega))
  · refine J_iload_n E dJ3_checkIndex_8e157_4 rfl 0 rfl ?_
    refine J_iload_n E dJ3_checkIndex_8e157_5 rfl 1 rfl ?_
    refine J_icmp_lt E (tgt := 16) dJ3_checkIndex_8e157_6 (by decide) (fun c_6 => ?_) (fun c_6 => ?_)
    · refine J_iload_n E dJ3_checkIndex_8e157_16 rfl 0 rfl ?_
      exact ret _ _ _ _ ⟨rfl, rfl⟩ rfl dJ3_checkIndex_8e157_17
    · exact absurd (nI_lt hk hn) c_6

set_option maxHeartbeats 4000000 in
set_option maxRecDepth 20000 in
theorem c_J3_checkIndex_r (l : Launch) (G : GB) (t : Nat) (k n : Nat) (hk : k < n) (hn : n < 2 ^ 31) : CI l yJ3_checkIndex_8e157 cJ3_checkIndex_8e157 3 .int 0 0 G [.int (nI k), .int (nI n), .ref t] [] (fun v w' => v = nI k ∧ w' = []) := by
  refine CI.mk (own := RJ3) (by decide) rfl (Nat.le_of_ble_eq_true rfl) ?_
  intro X E ret
  show J X G 3 0 0 [] [(0, .int (nI k)), (1, .int (nI n)), (2, .ref t)] 0 []
  refine J_iload_n E dJ3_checkIndex_8e157_0 rfl 0 rfl ?_
  refine J_if_lt E (tgt := 9) dJ3_checkIndex_8e157_1 (by decide) (fun c_1 => ?_) (fun c_1 => ?_)
  · exact absurd c_1 (nI_pos (by omega))
  · refine J_iload_n E dJ3_checkIndex_8e157_4 rfl 0 rfl ?_
    refine J_iload_n E dJ3_checkIndex_8e157_5 rfl 1 rfl ?_
    refine J_icmp_lt E (tgt := 16) dJ3_checkIndex_8e157_6 (by decide) (fun c_6 => ?_) (fun c_6 => ?_)
    · refine J_iload_n E dJ3_checkIndex_8e157_16 rfl 0 rfl ?_
      exact ret _ _ _ _ ⟨rfl, rfl⟩ rfl dJ3_checkIndex_8e157_17
    · exact absurd (nI_lt hk hn) c_6

set_option maxHeartbeats 4000000 in
set_option maxRecDepth 20000 in
theorem c_J0_checkIndex_df160 (l : Launch) (G : GB) (k n : Nat) (hk : k < n) (hn : n < 2 ^ 31) : CV l yJ0_checkIndex_df160 cJ0_checkIndex_df160 2 1 22 0 0 G [.int (nI k), .int (nI n)] [] (fun w' => w' = []) := by
  refine CV.mk (own := RJ0) (by decide) rfl (Nat.le_of_ble_eq_true rfl) ?_
  intro X E _ _ _ ret
  show J X G 2 0 0 [] [(0, .int (nI k)), (1, .int (nI n))] 0 []
  refine J_iload_n E dJ0_checkIndex_df160_0 rfl 0 rfl ?_
  refine J_iload_n E dJ0_checkIndex_df160_1 rfl 1 rfl ?_
  refine J_gSio E dJ0_checkIndex_df160_2 ?_ (fun t => ?_)
  · refine J_cSiN E (As := [.int (nI k), .int (nI n), .null]) (c_J3_checkIndex_n l G k n hk hn) cl_J0_1059 yo_J3_checkIndex_8e157 dJ0_checkIndex_df160_5 rfl (Nat.le_of_ble_eq_true rfl) (Nat.le_of_ble_eq_true rfl) rfl (Nat.le_of_ble_eq_true rfl) ⟨Nat.zero_le _, Nat.zero_le _⟩ ?_
    refine J_pop E dJ0_checkIndex_df160_8 rfl ?_
    exact ret _ _ _ rfl dJ0_checkIndex_df160_9
  · refine J_cSiN E (As := [.int (nI k), .int (nI n), .ref t]) (c_J3_checkIndex_r l G t k n hk hn) cl_J0_1059 yo_J3_checkIndex_8e157 dJ0_checkIndex_df160_5 rfl (Nat.le_of_ble_eq_true rfl) (Nat.le_of_ble_eq_true rfl) rfl (Nat.le_of_ble_eq_true rfl) ⟨Nat.zero_le _, Nat.zero_le _⟩ ?_
    refine J_pop E dJ0_checkIndex_df160_8 rfl ?_
    exact ret _ _ _ rfl dJ0_checkIndex_df160_9
set_option maxHeartbeats 4000000 in
set_option maxRecDepth 20000 in
theorem c_J1_charAt_3b067 (l : Launch) (G : GB) (i k : Nat) (hi : i < 27) (hk : k < (byS i).length) : CI l yJ1_charAt_3b067 cJ1_charAt_3b067 2 .char 2 43 G [.ref (G.2.2.2.2.2 i), .int (nI k)] [] (fun v w' => v = (byS i).getD k 0 ∧ w' = []) := by
  refine CI.mk (own := RJ1) (by decide) rfl (Nat.le_of_ble_eq_true rfl) ?_
  intro X E ret
  show J X G 2 0 0 [] [(0, .ref (G.2.2.2.2.2 i)), (1, .int (nI k))] 0 []
  have hL := byS_len i hi
  refine J_iload_n E dJ1_charAt_3b067_0 rfl 1 rfl ?_
  refine J_aload_n E dJ1_charAt_3b067_1 rfl 0 rfl ?_
  refine J_lenS E hi dJ1_charAt_3b067_2 ?_
  refine J_cSvN E (As := [.int (nI k), .int (nI (byS i).length)]) (c_J0_checkIndex_df160 l G k (byS i).length hk (by omega)) cl_J1_9 yo_J0_checkIndex_df160 dJ1_charAt_3b067_3 rfl (Nat.le_of_ble_eq_true rfl) (Nat.le_of_ble_eq_true rfl) rfl (Nat.le_of_ble_eq_true rfl) ⟨Nat.zero_le _, Nat.zero_le _⟩ ?_
  refine J_aload_n E dJ1_charAt_3b067_6 rfl 0 rfl ?_
  refine J_iload_n E dJ1_charAt_3b067_7 rfl 1 rfl ?_
  refine J_baldS E hi hk dJ1_charAt_3b067_8 ?_
  refine J_sipush E dJ1_charAt_3b067_9 sp_255 ?_
  refine J_iand E dJ1_charAt_3b067_12 ?_
  refine J_i2c E dJ1_charAt_3b067_13 (byS_ch i hi k hk).1 ?_
  exact ret _ _ _ _ ⟨rfl, rfl⟩ (byS_ch i hi k hk).2 dJ1_charAt_3b067_14
set_option maxHeartbeats 4000000 in
set_option maxRecDepth 20000 in
theorem c_J0_charAt_5068e (l : Launch) (G : GB) (i k : Nat) (hi : i < 27) (hk : k < (byS i).length) : CI l yJ0_charAt_5068e cJ0_charAt_5068e 2 .char 3 64 G [.ref (G.2.2.2.2.1 i), .int (nI k)] [] (fun v w' => v = (byS i).getD k 0 ∧ w' = []) := by
  refine CI.mk (own := RJ0) (by decide) rfl (Nat.le_of_ble_eq_true rfl) ?_
  intro X E ret
  show J X G 2 0 0 [] [(0, .ref (G.2.2.2.2.1 i)), (1, .int (nI k))] 0 []
  refine J_aload_n E dJ0_charAt_5068e_0 rfl 0 rfl ?_
  refine J_callKi E (As := []) hi (c_J0_isLatin1_aae02 l G i hi) cl_J0_492 yo_J0_isLatin1_aae02 dJ0_charAt_5068e_1 rfl (Nat.le_of_ble_eq_true rfl) (Nat.le_of_ble_eq_true rfl) rfl (Nat.le_of_ble_eq_true rfl) ⟨Nat.zero_le _, Nat.zero_le _⟩ ?_
  refine J_if_eq E (tgt := 16) dJ0_charAt_5068e_4 (by decide) (fun c_4 => ?_) (fun c_4 => ?_)
  · exact absurd c_4 (by decide)
  · refine J_aload_n E dJ0_charAt_5068e_7 rfl 0 rfl ?_
    refine J_gSv E hi dJ0_charAt_5068e_8 ?_
    refine J_iload_n E dJ0_charAt_5068e_11 rfl 1 rfl ?_
    refine J_cSiN E (As := [.ref (G.2.2.2.2.2 i), .int (nI k)]) (c_J1_charAt_3b067 l G i k hi hk) cl_J0_495 yo_J1_charAt_3b067 dJ0_charAt_5068e_12 rfl (Nat.le_of_ble_eq_true rfl) (Nat.le_of_ble_eq_true rfl) rfl (Nat.le_of_ble_eq_true rfl) ⟨Nat.zero_le _, Nat.zero_le _⟩ ?_
    exact ret _ _ _ _ ⟨rfl, rfl⟩ (byS_ch i hi k hk).2 dJ0_charAt_5068e_15
