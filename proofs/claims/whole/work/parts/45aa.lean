theorem runL {f n sz : Int32} {m : Nat} (hs : sz = nI m) (hm : m ≤ 40) (hf : ¬ f < 0) (hn : ¬ n < 0) : (Int32.toInt64 f + Int32.toInt64 n ≤ Int32.toInt64 sz) ↔ (f ≤ sz ∧ n ≤ sz - f) := by
  obtain ⟨a, ha, rfl⟩ := nI_of hf
  obtain ⟨c, hc, rfl⟩ := nI_of hn
  subst hs
  rw [nI_l ha, nI_l hc, nI_l (by omega), show lN a + lN c = lN (a + c) from (Int64.ofNat_add a c).symm, pk_lLE (by omega) (by omega)]
  constructor
  · intro h
    refine ⟨nI_le (by omega) (by omega), ?_⟩
    rw [pk_sub (by omega)]
    exact nI_le (by omega) (by omega)
  · rintro ⟨h1, h2⟩
    have h1 := cmp_le ha (by omega) h1
    rw [pk_sub h1] at h2
    have h2 := cmp_le hc (by omega) h2
    omega
theorem runT {f n sz : Int32} {m : Nat} (hs : sz = nI m) (hm : m ≤ 40) (hf : ¬ f < 0) (hn : ¬ n < 0) (hc : lg_cmp (Int32.toInt64 f + Int32.toInt64 n) (Int32.toInt64 sz) ≤ 0) : 0 ≤ f ∧ 0 ≤ n ∧ f ≤ sz ∧ n ≤ sz - f :=
  ⟨Int32.not_lt.mp hf, Int32.not_lt.mp hn, (runL hs hm hf hn).mp ((lg_cmp_le _ _).mp hc)⟩
theorem runG {f m n : Nat} {sz : Int32} (hs : sz = nI n) (h : f + m ≤ n) (hn : n ≤ 40) : ¬ 0 < lg_cmp (Int32.toInt64 (nI f) + Int32.toInt64 (nI m)) (Int32.toInt64 sz) := by
  intro z
  have z := (lg_cmp_gt _ _).mp z
  have h2 := (runL (f := nI f) (n := nI m) hs hn (nI_pos (by omega)) (nI_pos (by omega))).mpr (runOK hs h hn).2.2
  exact absurd z (Int64.not_lt.mpr h2)
def cpF (f : Nat → Int32) (o : Nat) (mv : Nat → Int32) : Nat → Nat → Int32
  | 0 => f
  | n + 1 => upd (cpF f o mv n) (o + n) (mv n)
theorem cpF_eq (f g : Nat → Int32) (o s : Nat) : ∀ n j, cpF f o (fun u => g (s + u)) n j = va_cpy g f s o n j
  | 0, j => by rw [pk_cpy_out (by omega)]; rfl
  | n + 1, j => by
    rw [cpF]
    by_cases e : j = o + n
    · rw [e, pk_us, pk_cpy_in (by omega) (by omega), show s + (o + n - o) = s + n by omega]
    · rw [pk_un e, cpF_eq f g o s n j]
      by_cases h : o ≤ j ∧ j < o + n
      · rw [pk_cpy_in h.1 h.2, pk_cpy_in h.1 (by omega)]
      · rw [pk_cpy_out (by omega), pk_cpy_out (by omega)]

set_option maxHeartbeats 4000000 in
set_option maxRecDepth 20000 in
theorem c_X6_copy_bad (l : Launch) (G : GB) (b : Nat → Nat) (y : Q3) (s f t o n : Int32) (hb : ¬ ((0 ≤ s ∧ s ≤ 3) ∧ 0 ≤ t ∧ t ≤ 3)) : CI l yX6_copy cX6_copy 8 .int 2 45 G [.ref (b 0), .int s, .int f, .int t, .int o, .int n] (wM G b y) (fun vR w' => vR = tellR 0 ∧ PubM G b (tellX y 0) w') := by
  refine CI.mk (own := RX6) (by decide) rfl (Nat.le_of_ble_eq_true rfl) ?_
  intro X E ret
  show J X G 8 0 0 (wM G b y) [(0, .ref (b 0)), (1, .int s), (2, .int f), (3, .int t), (4, .int o), (5, .int n)] 0 []
  refine J_iload_n E dX6_copy_0 rfl 1 rfl ?_
  refine J_cSiN E (As := [.int s]) (c_X6_isSheet l G s ) cl_X6_303 yo_X6_isSheet dX6_copy_1 rfl (Nat.le_of_ble_eq_true rfl) (Nat.le_of_ble_eq_true rfl) rfl (Nat.le_of_ble_eq_true rfl) ⟨Nat.zero_le _, Nat.zero_le _⟩ ?_
  refine J_if_eq E (tgt := 14) dX6_copy_4 (by decide) (fun c_4 => ?_) (fun c_4 => ?_)
  · skip
    have c_4 := bI_0 c_4
    refine J_aload_n E dX6_copy_14 rfl 0 rfl ?_
    refine J_iconst E dX6_copy_15 ic_0 ?_
    refine J_cVi0 E (As := [.int 0]) (c_X6_finds l G b y 0 (by omega)) cl_X6_96 yo_X6_finds dX6_copy_16 rfl rfl rfl (Nat.le_of_ble_eq_true rfl) (Nat.le_of_ble_eq_true rfl) rfl (Nat.le_of_ble_eq_true rfl) ⟨Nat.zero_le _, Nat.zero_le _⟩ ?_
    exact ret _ _ _ _ ⟨rfl, _, rfl, by intro g h2 h5 h6; by_cases h0 : g = 0 <;> simp [tellX, upG, up3, up3R, up2, h0, h2, h5, h6]⟩ rfl dX6_copy_19
  · skip
    have c_4 := bI_1 c_4
    refine J_iload_n E dX6_copy_7 rfl 3 rfl ?_
    refine J_cSiN E (As := [.int t]) (c_X6_isSheet l G t ) cl_X6_303 yo_X6_isSheet dX6_copy_8 rfl (Nat.le_of_ble_eq_true rfl) (Nat.le_of_ble_eq_true rfl) rfl (Nat.le_of_ble_eq_true rfl) ⟨Nat.zero_le _, Nat.zero_le _⟩ ?_
    refine J_if_ne E (tgt := 20) dX6_copy_11 (by decide) (fun c_11 => ?_) (fun c_11 => ?_)
    · skip
      have c_11 := bI_1 c_11
      exact absurd ⟨c_4, c_11⟩ hb
    · skip
      have c_11 := bI_0 c_11
      refine J_aload_n E dX6_copy_14 rfl 0 rfl ?_
      refine J_iconst E dX6_copy_15 ic_0 ?_
      refine J_cVi0 E (As := [.int 0]) (c_X6_finds l G b y 0 (by omega)) cl_X6_96 yo_X6_finds dX6_copy_16 rfl rfl rfl (Nat.le_of_ble_eq_true rfl) (Nat.le_of_ble_eq_true rfl) rfl (Nat.le_of_ble_eq_true rfl) ⟨Nat.zero_le _, Nat.zero_le _⟩ ?_
      exact ret _ _ _ _ ⟨rfl, _, rfl, by intro g h2 h5 h6; by_cases h0 : g = 0 <;> simp [tellX, upG, up3, up3R, up2, h0, h2, h5, h6]⟩ rfl dX6_copy_19
