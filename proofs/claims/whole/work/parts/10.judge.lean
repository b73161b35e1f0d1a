
def mx (x y : Int32) : Int32 := if x < y then y else x
def mn (x y : Int32) : Int32 := if y < x then y else x
abbrev WS (y : MethodName) (b : ByteArray) (n : Nat) (r : Option FieldType) : List Cond := .code y b n r :: lw_T
abbrev GB : Type := va_G × ClassId × ClassId × Nat × (Nat → Nat) × (Nat → Nat)
abbrev TY (G : GB) : List (ClassId × FieldType) := [(G.2.1, .int), (G.2.2.1, .object RX2)]
def abvT : Nat → Int32 := fun j => match j with
  | 0 => -1
  | 1 => 0
  | 2 => 0
  | 3 => 2
  | 4 => 3
  | 5 => 0
  | _ => 1
/-- the bytes of the String constants, by their places in strK -/
def byS : Nat → List Int32 := fun i => match i with
  | 0 => [114, 97, 105, 110]
  | 1 => [102, 111, 110, 116]
  | 2 => [100, 121, 101, 114]
  | 3 => [98, 114, 101, 119, 101, 114, 121]
  | 4 => [100, 117, 101, 108]
  | 5 => [109, 111, 115, 115, 121]
  | 6 => [105, 110, 118, 97, 108, 105, 100]
  | 7 => [104, 111, 117, 115, 101]
  | 8 => [104, 97, 115]
  | 9 => [110, 101, 101, 100, 115]
  | 10 => [104, 111, 108, 100, 115]
  | 11 => [108, 101, 102, 116]
  | 12 => [114, 105, 103, 104, 116]
  | 13 => [104, 111, 117, 115, 101]
  | 14 => [102, 111, 110, 116]
  | 15 => [100, 121, 101, 114]
  | 16 => [98, 114, 101, 119, 101, 114, 121]
  | 17 => [100, 117, 101, 108]
  | 18 => [109, 111, 115, 115, 121]
  | 19 => [105, 110, 118, 97, 108, 105, 100]
  | 20 => [104, 97, 115]
  | 21 => [110, 101, 101, 100, 115]
  | 22 => [104, 111, 108, 100, 115]
  | 23 => [108, 101, 102, 116]
  | 24 => [114, 105, 103, 104, 116]
  | 25 => [114, 97, 105, 110]
  | 26 => [59]
  | _ => []
def strK : List (String × Nat × String) := [("GutterRights$TextReader", 34, "rain"), ("GutterRights$TextReader", 97, "font"), ("GutterRights$TextReader", 99, "dyer"), ("GutterRights$TextReader", 101, "brewery"), ("GutterRights$TextReader", 103, "duel"), ("GutterRights$TextReader", 105, "mossy"), ("GutterRights$TextReader", 107, "invalid"), ("GutterRights$TextReader", 109, "house"), ("GutterRights$TextReader", 60, "has"), ("GutterRights$TextReader", 69, "needs"), ("GutterRights$TextReader", 74, "holds"), ("GutterRights$TextReader", 84, "left"), ("GutterRights$TextReader", 89, "right"), ("GutterRightsModel", 251, "house"), ("GutterRightsModel", 253, "font"), ("GutterRightsModel", 255, "dyer"), ("GutterRightsModel", 257, "brewery"), ("GutterRightsModel", 259, "duel"), ("GutterRightsModel", 261, "mossy"), ("GutterRightsModel", 263, "invalid"), ("GutterRightsModel", 271, "has"), ("GutterRightsModel", 277, "needs"), ("GutterRightsModel", 279, "holds"), ("GutterRightsModel", 281, "left"), ("GutterRightsModel", 283, "right"), ("GutterRightsModel", 291, "rain"), ("GutterRightsModel", 296, ";")]
/-- what nobody writes: the table ABOVE, the JDK's statics, the String constants -/
def cst (G : GB) (A : Nat → Prop) (U : State) (H : Heap) : Prop :=
  va_Z "GutterRights$Kinds" "ABOVE" "[I" (.ref G.2.2.2.1) A U H ∧ va_T .int G.2.2.2.1 7 (fun j => .int (abvT j)) A U H ∧ va_Z "java/lang/String" "COMPACT_STRINGS" "Z" (.int 1) A U H ∧ va_Zq "jdk/internal/util/Preconditions" "SIOOBE_FORMATTER" "Ljava/util/function/BiFunction;" A U H ∧
  (∀ i : Nat, i < 27 → va_O "java/lang/String" (G.2.2.2.2.1 i) A U H ∧ va_OF "java/lang/String" "coder" "B" (.int 0) (G.2.2.2.2.1 i) A U H ∧ va_OF "java/lang/String" "value" "[B" (.ref (G.2.2.2.2.2 i)) (G.2.2.2.2.1 i) A U H ∧ va_T .byte (G.2.2.2.2.2 i) (byS i).length (fun j => .int ((byS i).getD j 0)) A U H) ∧
  ∀ (i : Nat) (q : String × Nat × String), strK[i]? = some q → vk_R q.1 q.2.1 q.2.2 (G.2.2.2.2.1 i) U
theorem cst.go {G : GB} {A B : Nat → Prop} {s U : State} {H : Heap} (hW : s.WarmedH U.vm) (h : cst G A s s.heap) (hk : ∀ a : Nat, a < s.heap.size → ¬ A a → H[a]? = s.heap[a]?) (hAB : ∀ q, B q → A q) : cst G B U H := by
  obtain ⟨h1, h2, h3, h4, h5, h6⟩ := h
  have hv := hW.alike
  refine ⟨((h1.kept hk).narrow hAB).moved hv, ((h2.kept hk).narrow hAB).moved hv, ((h3.kept hk).narrow hAB).moved hv, ((h4.kept hk).narrow hAB).moved hv, fun i hi => ?_, fun i q hq => (h6 i q hq).warm hW⟩
  obtain ⟨a1, a2, a3, a4⟩ := h5 i hi
  exact ⟨((a1.kept hk).narrow hAB).moved hv, ((a2.kept hk).narrow hAB).moved hv, ((a3.kept hk).narrow hAB).moved hv, ((a4.kept hk).narrow hAB).moved hv⟩
theorem cst.blind {G : GB} {A : Nat → Prop} {s U : State} {H : Heap} (hv : U.vm = s.vm) (h : cst G A s H) : cst G A U H := by
  obtain ⟨h1, h2, h3, h4, h5, h6⟩ := h
  have hv' : s.vm.Alike U.vm := by rw [hv]; exact Vm.Alike.refl _
  refine ⟨h1.moved hv', h2.moved hv', h3.moved hv', h4.moved hv', fun i hi => ?_, fun i q hq => (h6 i q hq).same hv⟩
  obtain ⟨a1, a2, a3, a4⟩ := h5 i hi
  exact ⟨a1.moved hv', a2.moved hv', a3.moved hv', a4.moved hv'⟩
abbrev JX : Type := (Program × Launch × Env × Room × State × MethodId) × (Array Value × List Frame × Method × Code × (State → Prop)) × (Nat → Prop)
/-- from the world ws, the locals lv, the stack st at pc the machine comes to the end that X names -/
def J (X : JX) (G : GB) (nL kc ks : Nat) (ws : va_W) (lv : List (Nat × Value)) (pc : Nat) (st : List Value) : Prop :=
  ∀ (H : Heap) (locs : List Loc) (ls : Array Slot), va_P G.1 vwCl ws H → va_D X.2.2 ws → va_S X.2.2 X.1.2.2.2.2.1.heap H locs → lv_has ls nL lv →
    W X.1.1 X.1.2.1 X.1.2.2.1 X.1.2.2.2.1 X.1.2.2.2.2.1 X.1.2.2.2.2.2 X.2.1.1 X.2.1.2.1 X.2.1.2.2.1 X.2.1.2.2.2.1 H locs kc ks X.2.1.2.2.2.2 (F0 X.1.2.2.2.2.2 pc ls st)
def JE (X : JX) (l : Launch) (G : GB) (cc : ByteArray) (own : String) (nL fr lo : Nat) : Prop :=
  X.1.1.tables.exec = Jvm.exec ∧ X.2.1.2.2.2.1.code = cc ∧ X.2.1.2.2.2.1.maxLocals = nL ∧ X.1.2.2.2.2.1.vm.findClass own = some X.1.2.2.2.2.2.cls ∧ (∀ w ∈ lw_T, w.before X.2.1.1 X.1.2.2.2.2.1 = true) ∧ va_K G.1 vwCl (TY G) X.1.2.2.2.2.1 ∧ (∀ q, X.1.2.2.2.2.1.heap.size ≤ q → X.2.2 q) ∧ X.1.2.1 = l ∧ cst G X.2.2 X.1.2.2.2.2.1 X.1.2.2.2.2.1.heap ∧ fr ≤ X.1.2.2.2.1.frames ∧ lo ≤ X.1.2.2.2.1.locals
theorem ws_good {y : MethodName} {b : ByteArray} {n : Nat} {r : Option FieldType} (h : Cond.code y b n r ∈ lw_T) : GoodIn lw_T (WS y b n r) := by
  intro w hw
  rcases List.mem_cons.mp hw with rfl | hw
  · exact ⟨h, good_of_word (lw_T_good h)⟩
  · exact ⟨hw, good_of_word (lw_T_good hw)⟩
theorem wsV_good {own C : String} {idx : Nat} {y : MethodName} {b : ByteArray} {n : Nat} {r : Option FieldType} (h : Cond.code y b n r ∈ lw_T) (h1 : Cond.methodLink own idx y ∈ lw_T) (h2 : Cond.instanceMethod y ∈ lw_T) (h3 : Cond.selects C y y ∈ lw_T) (h4 : Cond.initialized C ∈ lw_T) : GoodIn lw_T (wsV own idx C y (WS y b n r)) := by
  intro w hw
  rcases List.mem_append.mp hw with hw | hw
  · have hm : w ∈ lw_T := by
      simp only [List.mem_cons, List.not_mem_nil, or_false] at hw
      rcases hw with rfl | rfl | rfl | rfl <;> assumption
    exact ⟨hm, good_of_word (lw_T_good hm)⟩
  · exact ws_good h w hw
theorem wsS_good {own : String} {idx : Nat} {y : MethodName} {b : ByteArray} {n : Nat} {r : Option FieldType} (h : Cond.code y b n r ∈ lw_T) (h1 : Cond.methodLink own idx y ∈ lw_T) (h2 : Cond.static y ∈ lw_T) (h3 : Cond.initialized y.cls ∈ lw_T) : GoodIn lw_T (va_wsS own idx y (WS y b n r)) := by
  intro w hw
  rcases List.mem_append.mp hw with hw | hw
  · have hm : w ∈ lw_T := by
      simp only [List.mem_cons, List.not_mem_nil, or_false] at hw
      rcases hw with rfl | rfl | rfl <;> assumption
    exact ⟨hm, good_of_word (lw_T_good hm)⟩
  · exact ws_good h w hw
/-! worlds by segments -/
theorem vP_iff {D : va_G} {cl : List vw_C} {ws : va_W} {H : Heap} : va_P D cl ws H ↔ ∀ q ∈ ws, va_at D cl q H := by
  constructor
  · intro h q hq
    obtain ⟨i, hi⟩ := List.getElem?_of_mem hq
    exact h i q hi
  · intro h k q hk
    exact h q (List.mem_of_getElem? hk)
theorem vD_iff {A : Nat → Prop} {ws : va_W} : va_D A ws ↔ (ws.map Prod.fst).Nodup ∧ ∀ q ∈ ws, A q.1 := by
  constructor
  · intro h
    refine ⟨?_, fun q hq => ?_⟩
    · rw [List.Nodup, List.pairwise_iff_getElem]
      intro i j hi hj hij he
      have hi' : i < ws.length := by simpa using hi
      have hj' : j < ws.length := by simpa using hj
      have he' : ws[i].1 = ws[j].1 := by simpa using he
      have := h.1 i j ws[i] ws[j] (List.getElem?_eq_getElem hi') (List.getElem?_eq_getElem hj') he'
      omega
    · obtain ⟨i, hi⟩ := List.getElem?_of_mem hq
      exact h.2 i q hi
  · intro h
    refine ⟨fun i j x y hi hj hxy => ?_, fun k q hk => h.2 q (List.mem_of_getElem? hk)⟩
    have hn := h.1
    rw [List.Nodup, List.pairwise_iff_getElem] at hn
    obtain ⟨hi', ei⟩ := List.getElem?_eq_some_iff.mp hi
    obtain ⟨hj', ej⟩ := List.getElem?_eq_some_iff.mp hj
    rcases Nat.lt_trichotomy i j with q | q | q
    · exact (hn i j (by simpa using hi') (by simpa using hj') q (by simp [ei, ej, hxy])).elim
    · exact q
    · exact (hn j i (by simpa using hj') (by simpa using hi') q (by simp [ei, ej, hxy])).elim
theorem vA_iff {wc : va_W} {sz q : Nat} : va_A wc sz q ↔ (∃ e, (q, e) ∈ wc) ∨ sz ≤ q := by
  constructor
  · rintro (⟨k, e, h⟩ | h)
    · exact Or.inl ⟨e, List.mem_of_getElem? h⟩
    · exact Or.inr h
  · rintro (⟨e, h⟩ | h)
    · obtain ⟨i, hi⟩ := List.getElem?_of_mem h
      exact Or.inl ⟨i, e, hi⟩
    · exact Or.inr h
theorem seg_P {D : va_G} {cl : List vw_C} {w1 wc w2 : va_W} {H : Heap} (h : va_P D cl (w1 ++ (wc ++ w2)) H) : va_P D cl wc H := by
  rw [vP_iff] at h ⊢
  intro q hq
  exact h q (by simp [hq])
theorem seg_D {A : Nat → Prop} {w1 wc w2 : va_W} (h : va_D A (w1 ++ (wc ++ w2))) : va_D A wc := by
  rw [vD_iff] at h ⊢
  obtain ⟨h1, h2⟩ := h
  simp only [List.map_append] at h1
  exact ⟨(List.nodup_append.mp (List.nodup_append.mp h1).2.1).1, fun q hq => h2 q (by simp [hq])⟩
theorem seg_F {A : Nat → Prop} {w1 wc w2 : va_W} {H0 H : Heap} {locs : List Loc} (h : va_D A (w1 ++ (wc ++ w2))) (hS : va_S A H0 H locs) (hA : ∀ q, H0.size ≤ q → A q) : ∀ q, va_A wc H.size q → A q := by
  intro q hq
  rcases vA_iff.mp hq with ⟨e, he⟩ | h1
  · exact (vD_iff.mp h).2 (q, e) (by simp [he])
  · exact hA q (Nat.le_trans hS.1 h1)
theorem seg_join {A : Nat → Prop} {D : va_G} {cl : List vw_C} {w1 wc w2 w' : va_W} {H H1 : Heap} (hP : va_P D cl (w1 ++ (wc ++ w2)) H) (hD : va_D A (w1 ++ (wc ++ w2))) (hk : ∀ q : Nat, q < H.size → ¬ va_A wc H.size q → H1[q]? = H[q]?) (hF : ∀ q, va_A wc H.size q → A q) (hP1 : va_P D cl w' H1) (hD1 : va_D (va_A wc H.size) w') :
    va_P D cl (w1 ++ (w' ++ w2)) H1 ∧ va_D A (w1 ++ (w' ++ w2)) := by
  rw [vP_iff] at hP hP1
  rw [vD_iff] at hD hD1
  obtain ⟨hn, hA⟩ := hD
  simp only [List.map_append] at hn
  obtain ⟨n1, n2, n3⟩ := List.nodup_append.mp hn
  obtain ⟨n4, n5, n6⟩ := List.nodup_append.mp n2
  have o1 : ∀ q ∈ w1, ¬ va_A wc H.size q.1 := by
    intro q hq h
    rcases vA_iff.mp h with ⟨e, he⟩ | h1
    · exact n3 q.1 (List.mem_map_of_mem hq) q.1 (List.mem_append_left _ (List.mem_map.mpr ⟨_, he, rfl⟩)) rfl
    · have := (hP q (by simp [hq])).lt
      omega
  have o2 : ∀ q ∈ w2, ¬ va_A wc H.size q.1 := by
    intro q hq h
    rcases vA_iff.mp h with ⟨e, he⟩ | h1
    · exact n6 q.1 (List.mem_map.mpr ⟨_, he, rfl⟩) q.1 (List.mem_map_of_mem hq) rfl
    · have := (hP q (by simp [hq])).lt
      omega
  constructor
  · rw [vP_iff]
    intro q hq
    rcases List.mem_append.mp hq with h | h
    · have hq' := hP q (by simp [h])
      exact hq'.kept (hk q.1 hq'.lt (o1 q h))
    · rcases List.mem_append.mp h with h | h
      · exact hP1 q h
      · have hq' := hP q (by simp [h])
        exact hq'.kept (hk q.1 hq'.lt (o2 q h))
  · rw [vD_iff]
    simp only [List.map_append]
    constructor
    · refine List.nodup_append.mpr ⟨n1, List.nodup_append.mpr ⟨hD1.1, n5, ?_⟩, ?_⟩
      · intro a ha b hb hab
        obtain ⟨x, hx, rfl⟩ := List.mem_map.mp ha
        obtain ⟨y, hy, rfl⟩ := List.mem_map.mp hb
        exact o2 y hy (hab ▸ hD1.2 x hx)
      · intro a ha b hb hab
        obtain ⟨x, hx, rfl⟩ := List.mem_map.mp ha
        rcases List.mem_append.mp hb with hb | hb
        · obtain ⟨y, hy, rfl⟩ := List.mem_map.mp hb
          exact o1 x hx (hab ▸ hD1.2 y hy)
        · exact n3 x.1 ha b (List.mem_append_right _ hb) hab
    · intro q hq
      rcases List.mem_append.mp hq with h | h
      · exact hA q (by simp [h])
      · rcases List.mem_append.mp h with h | h
        · exact hF _ (hD1.2 q h)
        · exact hA q (by simp [h])
/-! contracts -/
def mP (G : GB) (ws : va_W) (sz : Nat) (U : State) : Prop := U.heap.size = sz ∧ va_P G.1 vwCl ws U.heap ∧ va_K G.1 vwCl (TY G) U ∧ va_D (fun _ => True) ws ∧ cst G (va_A ws sz) U U.heap
def mB (G : GB) (w : va_W) (sz : Nat) (w' : va_W) (t : State) : Prop := va_P G.1 vwCl w' t.heap ∧ va_D (va_A w sz) w'
theorem mP_blind {G : GB} {ws : va_W} {sz : Nat} {av : List Value} : FrameBlind (va_Pc av (mP G ws sz)) := fun a U g mk q => by
  obtain ⟨q0, q1, qP, qK, qD, qC⟩ := q
  exact ⟨q0, q1, qP, va_K.moved (u := U) (U := U.calling g mk a) (Vm.Alike.refl U.vm) qK, qD, cst.blind (U := U.calling g mk a) rfl qC⟩
def CI (l : Launch) (y : MethodName) (bc : ByteArray) (mL : Nat) (rt : FieldType) (fr lo : Nat) (G : GB) (av : List Value) (w : va_W) (Post : Int32 → va_W → Prop) : Prop :=
  ∀ sz : Nat, Met l y (WS y bc mL (some rt)) { frames := fr, cells := 0, slots := 0, locals := lo } (va_Pc av (mP G w sz)) (va_Qi Post (mB G w sz) (va_A w sz)) 0 0 (va_A w sz)
def CL (l : Launch) (y : MethodName) (bc : ByteArray) (mL : Nat) (fr lo : Nat) (G : GB) (av : List Value) (w : va_W) (Post : Int64 → va_W → Prop) : Prop :=
  ∀ sz : Nat, Met l y (WS y bc mL (some .long)) { frames := fr, cells := 0, slots := 0, locals := lo } (va_Pc av (mP G w sz)) (va_Ql Post (mB G w sz) (va_A w sz)) 0 0 (va_A w sz)
def CR (l : Launch) (y : MethodName) (bc : ByteArray) (mL : Nat) (rt : FieldType) (fr lo : Nat) (G : GB) (av : List Value) (w : va_W) (Post : Nat → va_W → Prop) : Prop :=
  ∀ sz : Nat, Met l y (WS y bc mL (some rt)) { frames := fr, cells := 0, slots := 0, locals := lo } (va_Pc av (mP G w sz)) (va_Qr (fun _ : va_W => True) (fun w' a t => Post a w' ∧ mB G w sz w' t) (va_A w sz)) 0 0 (va_A w sz)
def CV (l : Launch) (y : MethodName) (bc : ByteArray) (mL : Nat) (fr lo mc ms : Nat) (G : GB) (av : List Value) (w : va_W) (Post : va_W → Prop) : Prop :=
  ∀ sz : Nat, Met l y (WS y bc mL none) { frames := fr, cells := mc, slots := ms, locals := lo } (va_Pc av (mP G w sz)) (va_Qv Post (mB G w sz) (va_A w sz)) mc ms (va_A w sz)

set_option maxHeartbeats 4000000 in
theorem CI.mk {l : Launch} {y : MethodName} {bc : ByteArray} {mL fr lo : Nat} {rt : FieldType} {Post : Int32 → va_W → Prop} {G : GB} {av : List Value} {w : va_W} {own : String} (hy : plainName y.cls = true) (ho : y.cls = own) (hlen : (lg_sl av).length ≤ mL)
    (body : ∀ X : JX, JE X l G bc own mL fr lo → (∀ (v : Int32) (w' : va_W) (pc : Nat) (lv : List (Nat × Value)), Post v w' → narrow rt (.int v) = .int v → decode bc pc = .ok (.ireturn, 1) → J X G mL 0 0 w' lv pc [.int v]) → J X G mL 0 0 w (lv_args 0 av) 0 []) : CI l y bc mL rt fr lo G av w Post := by
  intro sz
  refine Met.ofW (cc := bc) (maxL := mL) (ret := some rt) hy rfl ?_
  intro p e s m args below meth c s₁ B hml hv
  obtain ⟨rfl, hsz, hP, hK, hD0, hC⟩ := hv
  have hx := B.exec
  have hb := B.bytes
  have hr := B.returns
  have hts := atoms_spec (ws := WS y bc mL (some rt)) B.pre
  have hown : s.vm.findClass y.cls = some m.cls := findClass_of_methodNamed B.named
  have hlocks := B.notSynchronized
  have hin := (name_of_methodNamed B.named B.method).1
  subst hsz
  have hD := hD0.self (sz := s.heap.size)
  have hA : ∀ q : Nat, s.heap.size ≤ q → va_A w s.heap.size q := fun q h => Or.inr h
  have hS : va_S (va_A w s.heap.size) s.heap s.heap [] := va_S.rf
  have hl := lv_entry av (n := mL) hlen
  rw [lg_entry_eq]
  refine body ((p, l, e, _, s, m), (av.toArray, below, meth, c, _), va_A w s.heap.size) ⟨hx, hb, hml, by rw [← ho]; exact hown, fun w hw => hts w (List.mem_cons_of_mem _ hw), hK, hA, rfl, hC, Nat.le_refl _, Nat.le_refl _⟩ ?_ s.heap [] _ hP hD hS hl
  exact fun v w' pc lv hp hn hd H locs ls hP hD hS hl => W.zret hx hb hr hn (fun t ht hW => ⟨⟨v, w', rfl, hp, by rw [ht]; exact hP, hD⟩, hS.F ht⟩) hS.2.2 hd
set_option maxHeartbeats 4000000 in
theorem CL.mk {l : Launch} {y : MethodName} {bc : ByteArray} {mL fr lo : Nat} {Post : Int64 → va_W → Prop} {G : GB} {av : List Value} {w : va_W} {own : String} (hy : plainName y.cls = true) (ho : y.cls = own) (hlen : (lg_sl av).length ≤ mL)
    (body : ∀ X : JX, JE X l G bc own mL fr lo → (∀ (v : Int64) (w' : va_W) (pc : Nat) (lv : List (Nat × Value)), Post v w' → decode bc pc = .ok (.lreturn, 1) → J X G mL 0 0 w' lv pc [.long v]) → J X G mL 0 0 w (lv_args 0 av) 0 []) : CL l y bc mL fr lo G av w Post := by
  intro sz
  refine Met.ofW (cc := bc) (maxL := mL) (ret := some .long) hy rfl ?_
  intro p e s m args below meth c s₁ B hml hv
  obtain ⟨rfl, hsz, hP, hK, hD0, hC⟩ := hv
  have hx := B.exec
  have hb := B.bytes
  have hr := B.returns
  have hts := atoms_spec (ws := WS y bc mL (some .long)) B.pre
  have hown : s.vm.findClass y.cls = some m.cls := findClass_of_methodNamed B.named
  have hlocks := B.notSynchronized
  have hin := (name_of_methodNamed B.named B.method).1
  subst hsz
  have hD := hD0.self (sz := s.heap.size)
  have hA : ∀ q : Nat, s.heap.size ≤ q → va_A w s.heap.size q := fun q h => Or.inr h
  have hS : va_S (va_A w s.heap.size) s.heap s.heap [] := va_S.rf
  have hl := lv_entry av (n := mL) hlen
  rw [lg_entry_eq]
  refine body ((p, l, e, _, s, m), (av.toArray, below, meth, c, _), va_A w s.heap.size) ⟨hx, hb, hml, by rw [← ho]; exact hown, fun w hw => hts w (List.mem_cons_of_mem _ hw), hK, hA, rfl, hC, Nat.le_refl _, Nat.le_refl _⟩ ?_ s.heap [] _ hP hD hS hl
  exact fun v w' pc lv hp hd H locs ls hP hD hS hl => W.lret hx hb hr (fun t ht hW => ⟨⟨v, w', rfl, hp, by rw [ht]; exact hP, hD⟩, hS.F ht⟩) hS.2.2 hd
set_option maxHeartbeats 4000000 in
theorem CR.mk {l : Launch} {y : MethodName} {bc : ByteArray} {mL fr lo : Nat} {rt : FieldType} {Post : Nat → va_W → Prop} {G : GB} {av : List Value} {w : va_W} {own : String} (hy : plainName y.cls = true) (ho : y.cls = own) (hlen : (lg_sl av).length ≤ mL)
    (body : ∀ X : JX, JE X l G bc own mL fr lo → (∀ (v : Nat) (w' : va_W) (pc : Nat) (lv : List (Nat × Value)), Post v w' → ((∃ n, rt = .object n) ∨ ∃ t, rt = .array t) → decode bc pc = .ok (.areturn, 1) → J X G mL 0 0 w' lv pc [.ref v]) → J X G mL 0 0 w (lv_args 0 av) 0 []) : CR l y bc mL rt fr lo G av w Post := by
  intro sz
  refine Met.ofW (cc := bc) (maxL := mL) (ret := some rt) hy rfl ?_
  intro p e s m args below meth c s₁ B hml hv
  obtain ⟨rfl, hsz, hP, hK, hD0, hC⟩ := hv
  have hx := B.exec
  have hb := B.bytes
  have hr := B.returns
  have hts := atoms_spec (ws := WS y bc mL (some rt)) B.pre
  have hown : s.vm.findClass y.cls = some m.cls := findClass_of_methodNamed B.named
  have hlocks := B.notSynchronized
  have hin := (name_of_methodNamed B.named B.method).1
  subst hsz
  have hD := hD0.self (sz := s.heap.size)
  have hA : ∀ q : Nat, s.heap.size ≤ q → va_A w s.heap.size q := fun q h => Or.inr h
  have hS : va_S (va_A w s.heap.size) s.heap s.heap [] := va_S.rf
  have hl := lv_entry av (n := mL) hlen
  rw [lg_entry_eq]
  refine body ((p, l, e, _, s, m), (av.toArray, below, meth, c, _), va_A w s.heap.size) ⟨hx, hb, hml, by rw [← ho]; exact hown, fun w hw => hts w (List.mem_cons_of_mem _ hw), hK, hA, rfl, hC, Nat.le_refl _, Nat.le_refl _⟩ ?_ s.heap [] _ hP hD hS hl
  exact fun v w' pc lv hp hrt hd H locs ls hP hD hS hl => W.aret hx hb hr hrt (Or.inr ⟨v, rfl⟩) (fun t ht hW => ⟨⟨w', v, rfl, trivial, hp, by rw [ht]; exact hP, hD⟩, hS.F ht⟩) hS.2.2 hd
set_option maxHeartbeats 4000000 in
theorem CV.mk {l : Launch} {y : MethodName} {bc : ByteArray} {mL fr lo mc ms : Nat} {Post : va_W → Prop} {G : GB} {av : List Value} {w : va_W} {own : String} (hy : plainName y.cls = true) (ho : y.cls = own) (hlen : (lg_sl av).length ≤ mL)
    (body : ∀ X : JX, JE X l G bc own mL fr lo → X.2.1.2.2.1.name = y.name → X.1.2.2.2.1.cells = mc → X.1.2.2.2.1.slots = ms → (∀ (w' : va_W) (pc : Nat) (lv : List (Nat × Value)), Post w' → decode bc pc = .ok (.return_, 1) → J X G mL mc ms w' lv pc []) → J X G mL 0 0 w (lv_args 0 av) 0 []) : CV l y bc mL fr lo mc ms G av w Post := by
  intro sz
  refine Met.ofW (cc := bc) (maxL := mL) (ret := none) hy rfl ?_
  intro p e s m args below meth c s₁ B hml hv
  obtain ⟨rfl, hsz, hP, hK, hD0, hC⟩ := hv
  have hx := B.exec
  have hb := B.bytes
  have hr := B.returns
  have hts := atoms_spec (ws := WS y bc mL (none)) B.pre
  have hown : s.vm.findClass y.cls = some m.cls := findClass_of_methodNamed B.named
  have hlocks := B.notSynchronized
  have hin := (name_of_methodNamed B.named B.method).1
  subst hsz
  have hD := hD0.self (sz := s.heap.size)
  have hA : ∀ q : Nat, s.heap.size ≤ q → va_A w s.heap.size q := fun q h => Or.inr h
  have hS : va_S (va_A w s.heap.size) s.heap s.heap [] := va_S.rf
  have hl := lv_entry av (n := mL) hlen
  rw [lg_entry_eq]
  refine body ((p, l, e, _, s, m), (av.toArray, below, meth, c, _), va_A w s.heap.size) ⟨hx, hb, hml, by rw [← ho]; exact hown, fun w hw => hts w (List.mem_cons_of_mem _ hw), hK, hA, rfl, hC, Nat.le_refl _, Nat.le_refl _⟩ hin rfl rfl ?_ s.heap [] _ hP hD hS hl
  exact fun w' pc lv hp hd H locs ls hP hD hS hl => W.vret hx hb hr (fun t ht hW => ⟨⟨w', rfl, hp, by rw [ht]; exact hP, hD⟩, hS.F ht⟩) hS.2.2 hd

section JR
variable {X : JX} {l : Launch} {G : GB} {cc : ByteArray} {own : String} {nL fr lo kc ks pc : Nat} {ws : va_W} {lv : List (Nat × Value)} {st : List Value}
theorem J_w {ws' : va_W} (hw : ws = ws') (K : J X G nL kc ks ws' lv pc st) : J X G nL kc ks ws lv pc st := hw ▸ K
theorem J_st {st' : List Value} (h : st = st') (K : J X G nL kc ks ws lv pc st') : J X G nL kc ks ws lv pc st := h ▸ K
theorem J_top {x x' : Int32} (h : x = x') (K : J X G nL kc ks ws lv pc (.int x' :: st)) : J X G nL kc ks ws lv pc (.int x :: st) := h ▸ K
theorem J_topl {x x' : Int64} (h : x = x') (K : J X G nL kc ks ws lv pc (.long x' :: st)) : J X G nL kc ks ws lv pc (.long x :: st) := h ▸ K
theorem J_lv {lv' : List (Nat × Value)} (is : List Nat) (h : lv_pick lv is = lv') (K : J X G nL kc ks ws lv' pc st) : J X G nL kc ks ws lv pc st := fun H locs ls hP hD hS hl => K H locs ls hP hD hS (lv_sub hl is h)
theorem J_widen {k2 n2 : Nat} (h1 : kc ≤ k2) (h2 : ks ≤ n2) (K : J X G nL k2 n2 ws lv pc st) : J X G nL kc ks ws lv pc st := fun H locs ls hP hD hS hl => W.widen h1 h2 (K H locs ls hP hD hS hl)
theorem arrV_congr {c : ClassId} {n : Nat} {f g : Nat → Value} (h : ∀ j, j < n → f j = g j) : arrV c n f = arrV c n g := by
  unfold arrV
  congr 1
  apply Array.ext
  · simp
  · intro i h1 h2
    simp only [Array.getElem_ofFn]
    exact h i (by simpa using h1)
/-- the contents of an int array count below its length alone -/
theorem J_arr (q0 : Nat) {a n : Nat} {c : ClassId} {f g : Nat → Int32} (he : ws[q0]? = some (a, .inl (c, n, .inl f))) (hf : ∀ j, j < n → f j = g j) (K : J X G nL kc ks (ws.set q0 (a, .inl (c, n, .inl g))) lv pc st) : J X G nL kc ks ws lv pc st := fun H locs ls hP hD hS hl =>
  K H locs ls (hP.set hD he (by
    have h1 := hP q0 _ he
    show H[a]? = some (vp_cell _ _)
    rw [show H[a]? = some (vp_cell c (n, .inl f)) from h1, vp_cell_i, vp_cell_i]
    exact congrArg some (arrV_congr (fun j hj => by rw [hf j hj]))) (fun _ _ => rfl)) (hD.set he) hS hl

theorem J_iconst (E : JE X l G cc own nL fr lo) {i : Int} {v : Int32} (hd : decode cc pc = .ok (.iconst i, 1)) (hv : Int32.ofInt i = v) (K : J X G nL kc ks ws lv (pc + 1) (.int v :: st)) : J X G nL kc ks ws lv pc (st) := fun H locs ls hP hD hS hl => lv_iconst E.1 E.2.1 hd hv (K H locs ls hP hD hS hl)
theorem J_bipush (E : JE X l G cc own nL fr lo) {i : Int} {v : Int32} (hd : decode cc pc = .ok (.bipush i, 2)) (hv : (Int8.ofInt i).toInt32 = v) (K : J X G nL kc ks ws lv (pc + 2) (.int v :: st)) : J X G nL kc ks ws lv pc (st) := fun H locs ls hP hD hS hl => lv_bipush E.1 E.2.1 hd hv (K H locs ls hP hD hS hl)
theorem J_sipush (E : JE X l G cc own nL fr lo) {i : Int} {v : Int32} (hd : decode cc pc = .ok (.sipush i, 3)) (hv : (Int16.ofInt i).toInt32 = v) (K : J X G nL kc ks ws lv (pc + 3) (.int v :: st)) : J X G nL kc ks ws lv pc (st) := fun H locs ls hP hD hS hl => lv_sipush E.1 E.2.1 hd hv (K H locs ls hP hD hS hl)
theorem J_lconst (E : JE X l G cc own nL fr lo) {i : Fin 2} {v : Int64} (hd : decode cc pc = .ok (.lconst i, 1)) (hv : Int64.ofNat (i : Nat) = v) (K : J X G nL kc ks ws lv (pc + 1) (.long v :: st)) : J X G nL kc ks ws lv pc (st) := fun H locs ls hP hD hS hl => lv_lconst E.1 E.2.1 hd hv (K H locs ls hP hD hS hl)
theorem J_iadd (E : JE X l G cc own nL fr lo) {x y : Int32} (hd : decode cc pc = .ok (.iadd, 1)) (K : J X G nL kc ks ws lv (pc + 1) (.int (x + y) :: st)) : J X G nL kc ks ws lv pc (.int y :: .int x :: st) := fun H locs ls hP hD hS hl => lv_iadd E.1 E.2.1 hd (K H locs ls hP hD hS hl)
theorem J_isub (E : JE X l G cc own nL fr lo) {x y : Int32} (hd : decode cc pc = .ok (.isub, 1)) (K : J X G nL kc ks ws lv (pc + 1) (.int (x - y) :: st)) : J X G nL kc ks ws lv pc (.int y :: .int x :: st) := fun H locs ls hP hD hS hl => lv_isub E.1 E.2.1 hd (K H locs ls hP hD hS hl)
theorem J_imul (E : JE X l G cc own nL fr lo) {x y : Int32} (hd : decode cc pc = .ok (.imul, 1)) (K : J X G nL kc ks ws lv (pc + 1) (.int (x * y) :: st)) : J X G nL kc ks ws lv pc (.int y :: .int x :: st) := fun H locs ls hP hD hS hl => lv_imul E.1 E.2.1 hd (K H locs ls hP hD hS hl)
theorem J_iand (E : JE X l G cc own nL fr lo) {x y : Int32} (hd : decode cc pc = .ok (.iand, 1)) (K : J X G nL kc ks ws lv (pc + 1) (.int (x &&& y) :: st)) : J X G nL kc ks ws lv pc (.int y :: .int x :: st) := fun H locs ls hP hD hS hl => lv_iand E.1 E.2.1 hd (K H locs ls hP hD hS hl)
theorem J_ior (E : JE X l G cc own nL fr lo) {x y : Int32} (hd : decode cc pc = .ok (.ior, 1)) (K : J X G nL kc ks ws lv (pc + 1) (.int (x ||| y) :: st)) : J X G nL kc ks ws lv pc (.int y :: .int x :: st) := fun H locs ls hP hD hS hl => lv_ior E.1 E.2.1 hd (K H locs ls hP hD hS hl)
theorem J_ixor (E : JE X l G cc own nL fr lo) {x y : Int32} (hd : decode cc pc = .ok (.ixor, 1)) (K : J X G nL kc ks ws lv (pc + 1) (.int (x ^^^ y) :: st)) : J X G nL kc ks ws lv pc (.int y :: .int x :: st) := fun H locs ls hP hD hS hl => lv_ixor E.1 E.2.1 hd (K H locs ls hP hD hS hl)
theorem J_ishl (E : JE X l G cc own nL fr lo) {x y : Int32} (hd : decode cc pc = .ok (.ishl, 1)) (K : J X G nL kc ks ws lv (pc + 1) (.int (x <<< (y &&& 31)) :: st)) : J X G nL kc ks ws lv pc (.int y :: .int x :: st) := fun H locs ls hP hD hS hl => lv_ishl E.1 E.2.1 hd (K H locs ls hP hD hS hl)
theorem J_ishr (E : JE X l G cc own nL fr lo) {x y : Int32} (hd : decode cc pc = .ok (.ishr, 1)) (K : J X G nL kc ks ws lv (pc + 1) (.int (x >>> (y &&& 31)) :: st)) : J X G nL kc ks ws lv pc (.int y :: .int x :: st) := fun H locs ls hP hD hS hl => lv_ishr E.1 E.2.1 hd (K H locs ls hP hD hS hl)
theorem J_idiv (E : JE X l G cc own nL fr lo) {x y : Int32} (hd : decode cc pc = .ok (.idiv, 1)) (hne : ¬ y = 0) (K : J X G nL kc ks ws lv (pc + 1) (.int (x / y) :: st)) : J X G nL kc ks ws lv pc (.int y :: .int x :: st) := fun H locs ls hP hD hS hl => lv_idiv E.1 E.2.1 hd hne (K H locs ls hP hD hS hl)
theorem J_irem (E : JE X l G cc own nL fr lo) {x y : Int32} (hd : decode cc pc = .ok (.irem, 1)) (hne : ¬ y = 0) (K : J X G nL kc ks ws lv (pc + 1) (.int (x - x / y * y) :: st)) : J X G nL kc ks ws lv pc (.int y :: .int x :: st) := fun H locs ls hP hD hS hl => lv_irem E.1 E.2.1 hd hne (K H locs ls hP hD hS hl)
theorem J_ladd (E : JE X l G cc own nL fr lo) {x y : Int64} (hd : decode cc pc = .ok (.ladd, 1)) (K : J X G nL kc ks ws lv (pc + 1) (.long (x + y) :: st)) : J X G nL kc ks ws lv pc (.long y :: .long x :: st) := fun H locs ls hP hD hS hl => lv_ladd E.1 E.2.1 hd (K H locs ls hP hD hS hl)
theorem J_lmul (E : JE X l G cc own nL fr lo) {x y : Int64} (hd : decode cc pc = .ok (.lmul, 1)) (K : J X G nL kc ks ws lv (pc + 1) (.long (x * y) :: st)) : J X G nL kc ks ws lv pc (.long y :: .long x :: st) := fun H locs ls hP hD hS hl => lv_lmul E.1 E.2.1 hd (K H locs ls hP hD hS hl)
theorem J_ldiv (E : JE X l G cc own nL fr lo) {x y : Int64} (hd : decode cc pc = .ok (.ldiv, 1)) (hne : ¬ y = 0) (K : J X G nL kc ks ws lv (pc + 1) (.long (x / y) :: st)) : J X G nL kc ks ws lv pc (.long y :: .long x :: st) := fun H locs ls hP hD hS hl => lv_ldiv E.1 E.2.1 hd hne (K H locs ls hP hD hS hl)
theorem J_lrem (E : JE X l G cc own nL fr lo) {x y : Int64} (hd : decode cc pc = .ok (.lrem, 1)) (hne : ¬ y = 0) (K : J X G nL kc ks ws lv (pc + 1) (.long (x - x / y * y) :: st)) : J X G nL kc ks ws lv pc (.long y :: .long x :: st) := fun H locs ls hP hD hS hl => lv_lrem E.1 E.2.1 hd hne (K H locs ls hP hD hS hl)
theorem J_iushr (E : JE X l G cc own nL fr lo) {x y v : Int32} (hd : decode cc pc = .ok (.iushr, 1)) (hv : (x.toUInt32 >>> (y.toUInt32 &&& Int32.toUInt32 31)).toInt32 = v) (K : J X G nL kc ks ws lv (pc + 1) (.int v :: st)) : J X G nL kc ks ws lv pc (.int y :: .int x :: st) := fun H locs ls hP hD hS hl => lv_iushr E.1 E.2.1 hd hv (K H locs ls hP hD hS hl)
theorem J_i2l (E : JE X l G cc own nL fr lo) {x : Int32} {v : Int64} (hd : decode cc pc = .ok (.i2l, 1)) (hv : x.toInt64 = v) (K : J X G nL kc ks ws lv (pc + 1) (.long v :: st)) : J X G nL kc ks ws lv pc (.int x :: st) := fun H locs ls hP hD hS hl => lv_i2l E.1 E.2.1 hd hv (K H locs ls hP hD hS hl)
theorem J_l2i (E : JE X l G cc own nL fr lo) {x : Int64} {v : Int32} (hd : decode cc pc = .ok (.l2i, 1)) (hv : x.toInt32 = v) (K : J X G nL kc ks ws lv (pc + 1) (.int v :: st)) : J X G nL kc ks ws lv pc (.long x :: st) := fun H locs ls hP hD hS hl => lv_l2i E.1 E.2.1 hd hv (K H locs ls hP hD hS hl)
theorem J_i2b (E : JE X l G cc own nL fr lo) {x v : Int32} (hd : decode cc pc = .ok (.i2b, 1)) (hv : x.toInt8.toInt32 = v) (K : J X G nL kc ks ws lv (pc + 1) (.int v :: st)) : J X G nL kc ks ws lv pc (.int x :: st) := fun H locs ls hP hD hS hl => lv_i2b E.1 E.2.1 hd hv (K H locs ls hP hD hS hl)
theorem J_i2s (E : JE X l G cc own nL fr lo) {x v : Int32} (hd : decode cc pc = .ok (.i2s, 1)) (hv : x.toInt16.toInt32 = v) (K : J X G nL kc ks ws lv (pc + 1) (.int v :: st)) : J X G nL kc ks ws lv pc (.int x :: st) := fun H locs ls hP hD hS hl => lv_i2s E.1 E.2.1 hd hv (K H locs ls hP hD hS hl)
theorem J_i2c (E : JE X l G cc own nL fr lo) {x v : Int32} (hd : decode cc pc = .ok (.i2c, 1)) (hv : (x.toUInt32 % 65536).toInt32 = v) (K : J X G nL kc ks ws lv (pc + 1) (.int v :: st)) : J X G nL kc ks ws lv pc (.int x :: st) := fun H locs ls hP hD hS hl => lv_i2c E.1 E.2.1 hd hv (K H locs ls hP hD hS hl)
theorem J_dup (E : JE X l G cc own nL fr lo) {va : Value} (hd : decode cc pc = .ok (.dup, 1)) (hva : va.category = 1) (K : J X G nL kc ks ws lv (pc + 1) (va :: va :: st)) : J X G nL kc ks ws lv pc (va :: st) := fun H locs ls hP hD hS hl => lv_dup E.1 E.2.1 hd hva (K H locs ls hP hD hS hl)
theorem J_pop (E : JE X l G cc own nL fr lo) {va : Value} (hd : decode cc pc = .ok (.pop, 1)) (hva : va.category = 1) (K : J X G nL kc ks ws lv (pc + 1) (st)) : J X G nL kc ks ws lv pc (va :: st) := fun H locs ls hP hD hS hl => lv_pop E.1 E.2.1 hd hva (K H locs ls hP hD hS hl)
theorem J_dup2 (E : JE X l G cc own nL fr lo) {va vb : Value} (hd : decode cc pc = .ok (.dup2, 1)) (hva : va.category = 1) (hvb : vb.category = 1) (K : J X G nL kc ks ws lv (pc + 1) (va :: vb :: va :: vb :: st)) : J X G nL kc ks ws lv pc (va :: vb :: st) := fun H locs ls hP hD hS hl => lv_dup2_11 E.1 E.2.1 hd hva hvb (K H locs ls hP hD hS hl)
theorem J_lcmp (E : JE X l G cc own nL fr lo) {x y : Int64} (hd : decode cc pc = .ok (.lcmp, 1)) (K : J X G nL kc ks ws lv (pc + 1) (.int (lg_cmp x y) :: st)) : J X G nL kc ks ws lv pc (.long y :: .long x :: st) := fun H locs ls hP hD hS hl => W.lcmp E.1 E.2.1 hd (K H locs ls hP hD hS hl)
theorem J_iload_n (E : JE X l G cc own nL fr lo) {a : Fin 4} {i : Nat} {x : Int32} (hd : decode cc pc = .ok (.iload_n a, 1)) (hi : (a : Nat) = i) (j : Nat) (hj : lv[j]? = some (i, .int x)) (K : J X G nL kc ks ws lv (pc + 1) (.int x :: st)) : J X G nL kc ks ws lv pc st := fun H locs ls hP hD hS hl => lv_iload_n E.1 E.2.1 hd hi (lv_at hl j hj) (K H locs ls hP hD hS hl)
theorem J_iload (E : JE X l G cc own nL fr lo) {i : Nat} {x : Int32} (hd : decode cc pc = .ok (.iload i, 2)) (j : Nat) (hj : lv[j]? = some (i, .int x)) (K : J X G nL kc ks ws lv (pc + 2) (.int x :: st)) : J X G nL kc ks ws lv pc st := fun H locs ls hP hD hS hl => lv_iload E.1 E.2.1 hd (lv_at hl j hj) (K H locs ls hP hD hS hl)
theorem J_lload_n (E : JE X l G cc own nL fr lo) {a : Fin 4} {i : Nat} {x : Int64} (hd : decode cc pc = .ok (.lload_n a, 1)) (hi : (a : Nat) = i) (j : Nat) (hj : lv[j]? = some (i, .long x)) (K : J X G nL kc ks ws lv (pc + 1) (.long x :: st)) : J X G nL kc ks ws lv pc st := fun H locs ls hP hD hS hl => lv_lload_n E.1 E.2.1 hd hi (lv_at hl j hj) (K H locs ls hP hD hS hl)
theorem J_lload (E : JE X l G cc own nL fr lo) {i : Nat} {x : Int64} (hd : decode cc pc = .ok (.lload i, 2)) (j : Nat) (hj : lv[j]? = some (i, .long x)) (K : J X G nL kc ks ws lv (pc + 2) (.long x :: st)) : J X G nL kc ks ws lv pc st := fun H locs ls hP hD hS hl => lv_lload E.1 E.2.1 hd (lv_at hl j hj) (K H locs ls hP hD hS hl)
theorem J_aload_n (E : JE X l G cc own nL fr lo) {a : Fin 4} {i : Nat} {x : Nat} (hd : decode cc pc = .ok (.aload_n a, 1)) (hi : (a : Nat) = i) (j : Nat) (hj : lv[j]? = some (i, .ref x)) (K : J X G nL kc ks ws lv (pc + 1) (.ref x :: st)) : J X G nL kc ks ws lv pc st := fun H locs ls hP hD hS hl => lv_aload_n E.1 E.2.1 hd hi (lv_at hl j hj) (K H locs ls hP hD hS hl)
theorem J_aload (E : JE X l G cc own nL fr lo) {i : Nat} {x : Nat} (hd : decode cc pc = .ok (.aload i, 2)) (j : Nat) (hj : lv[j]? = some (i, .ref x)) (K : J X G nL kc ks ws lv (pc + 2) (.ref x :: st)) : J X G nL kc ks ws lv pc st := fun H locs ls hP hD hS hl => lv_aload E.1 E.2.1 hd (lv_at hl j hj) (K H locs ls hP hD hS hl)
theorem J_istore_n (E : JE X l G cc own nL fr lo) {a : Fin 4} {i : Nat} {x : Int32} {lv' : List (Nat × Value)} (hd : decode cc pc = .ok (.istore_n a, 1)) (hi : (a : Nat) = i) (hn : i < nL) (hl' : (i, Value.int x) :: lv.filter (fun q => !(q.1 == i) && !(q.1 + 1 == i && q.2.category == 2)) = lv') (K : J X G nL kc ks ws lv' (pc + 1) st) : J X G nL kc ks ws lv pc (.int x :: st) := fun H locs ls hP hD hS hl => lv_istore_n E.1 E.2.1 hd hi hl hn hl' (fun ls' hl' => K H locs ls' hP hD hS hl')
theorem J_istore (E : JE X l G cc own nL fr lo) {i : Nat} {x : Int32} {lv' : List (Nat × Value)} (hd : decode cc pc = .ok (.istore i, 2)) (hn : i < nL) (hl' : (i, Value.int x) :: lv.filter (fun q => !(q.1 == i) && !(q.1 + 1 == i && q.2.category == 2)) = lv') (K : J X G nL kc ks ws lv' (pc + 2) st) : J X G nL kc ks ws lv pc (.int x :: st) := fun H locs ls hP hD hS hl => lv_istore E.1 E.2.1 hd hl hn hl' (fun ls' hl' => K H locs ls' hP hD hS hl')
theorem J_lstore_n (E : JE X l G cc own nL fr lo) {a : Fin 4} {i : Nat} {x : Int64} {lv' : List (Nat × Value)} (hd : decode cc pc = .ok (.lstore_n a, 1)) (hi : (a : Nat) = i) (hn : i + 1 < nL) (hl' : (i, Value.long x) :: lv.filter (fun q => !(q.1 == i) && (!(q.1 == i + 1) && !(q.1 + 1 == i && q.2.category == 2))) = lv') (K : J X G nL kc ks ws lv' (pc + 1) st) : J X G nL kc ks ws lv pc (.long x :: st) := fun H locs ls hP hD hS hl => lv_lstore_n E.1 E.2.1 hd hi hl hn hl' (fun ls' hl' => K H locs ls' hP hD hS hl')
theorem J_lstore (E : JE X l G cc own nL fr lo) {i : Nat} {x : Int64} {lv' : List (Nat × Value)} (hd : decode cc pc = .ok (.lstore i, 2)) (hn : i + 1 < nL) (hl' : (i, Value.long x) :: lv.filter (fun q => !(q.1 == i) && (!(q.1 == i + 1) && !(q.1 + 1 == i && q.2.category == 2))) = lv') (K : J X G nL kc ks ws lv' (pc + 2) st) : J X G nL kc ks ws lv pc (.long x :: st) := fun H locs ls hP hD hS hl => lv_lstore E.1 E.2.1 hd hl hn hl' (fun ls' hl' => K H locs ls' hP hD hS hl')
theorem J_astore_n (E : JE X l G cc own nL fr lo) {a : Fin 4} {i : Nat} {x : Nat} {lv' : List (Nat × Value)} (hd : decode cc pc = .ok (.astore_n a, 1)) (hi : (a : Nat) = i) (hn : i < nL) (hl' : (i, Value.ref x) :: lv.filter (fun q => !(q.1 == i) && !(q.1 + 1 == i && q.2.category == 2)) = lv') (K : J X G nL kc ks ws lv' (pc + 1) st) : J X G nL kc ks ws lv pc (.ref x :: st) := fun H locs ls hP hD hS hl => lv_astore_n E.1 E.2.1 hd hi hl hn hl' (fun ls' hl' => K H locs ls' hP hD hS hl')
theorem J_astore (E : JE X l G cc own nL fr lo) {i : Nat} {x : Nat} {lv' : List (Nat × Value)} (hd : decode cc pc = .ok (.astore i, 2)) (hn : i < nL) (hl' : (i, Value.ref x) :: lv.filter (fun q => !(q.1 == i) && !(q.1 + 1 == i && q.2.category == 2)) = lv') (K : J X G nL kc ks ws lv' (pc + 2) st) : J X G nL kc ks ws lv pc (.ref x :: st) := fun H locs ls hP hD hS hl => lv_astore E.1 E.2.1 hd hl hn hl' (fun ls' hl' => K H locs ls' hP hD hS hl')
theorem J_iinc (E : JE X l G cc own nL fr lo) {i : Nat} {z : Int} {x v : Int32} {lv' : List (Nat × Value)} (hd : decode cc pc = .ok (.iinc i z, 3)) (j : Nat) (hj : lv[j]? = some (i, .int x)) (hv : x + Int32.ofInt z = v) (hn : i < nL) (hl' : (i, Value.int v) :: lv.filter (fun q => !(q.1 == i) && !(q.1 + 1 == i && q.2.category == 2)) = lv') (K : J X G nL kc ks ws lv' (pc + 3) st) : J X G nL kc ks ws lv pc st := fun H locs ls hP hD hS hl => lv_iinc E.1 E.2.1 hd hl hj hv hn hl' (fun ls' hl' => K H locs ls' hP hD hS hl')
theorem J_if_eq (E : JE X l G cc own nL fr lo) {x : Int32} {off : Int} {tgt : Nat} (hd : decode cc pc = .ok (.ifCond .eq off, 3)) (ht : (pc : Int) + off = (tgt : Int)) (K1 : x = 0 → J X G nL kc ks ws lv tgt st) (K2 : ¬ x = 0 → J X G nL kc ks ws lv (pc + 3) st) : J X G nL kc ks ws lv pc (.int x :: st) := fun H locs ls hP hD hS hl => lv_if_eq E.1 E.2.1 hd ht (fun h => K1 h H locs ls hP hD hS hl) (fun h => K2 h H locs ls hP hD hS hl)
theorem J_icmp_eq (E : JE X l G cc own nL fr lo) {x y : Int32} {off : Int} {tgt : Nat} (hd : decode cc pc = .ok (.if_icmp .eq off, 3)) (ht : (pc : Int) + off = (tgt : Int)) (K1 : x = y → J X G nL kc ks ws lv tgt st) (K2 : ¬ x = y → J X G nL kc ks ws lv (pc + 3) st) : J X G nL kc ks ws lv pc (.int y :: .int x :: st) := fun H locs ls hP hD hS hl => lv_icmp_eq E.1 E.2.1 hd ht (fun h => K1 h H locs ls hP hD hS hl) (fun h => K2 h H locs ls hP hD hS hl)
theorem J_if_ne (E : JE X l G cc own nL fr lo) {x : Int32} {off : Int} {tgt : Nat} (hd : decode cc pc = .ok (.ifCond .ne off, 3)) (ht : (pc : Int) + off = (tgt : Int)) (K1 : ¬ x = 0 → J X G nL kc ks ws lv tgt st) (K2 : x = 0 → J X G nL kc ks ws lv (pc + 3) st) : J X G nL kc ks ws lv pc (.int x :: st) := fun H locs ls hP hD hS hl => lv_if_ne E.1 E.2.1 hd ht (fun h => K1 h H locs ls hP hD hS hl) (fun h => K2 h H locs ls hP hD hS hl)
theorem J_icmp_ne (E : JE X l G cc own nL fr lo) {x y : Int32} {off : Int} {tgt : Nat} (hd : decode cc pc = .ok (.if_icmp .ne off, 3)) (ht : (pc : Int) + off = (tgt : Int)) (K1 : ¬ x = y → J X G nL kc ks ws lv tgt st) (K2 : x = y → J X G nL kc ks ws lv (pc + 3) st) : J X G nL kc ks ws lv pc (.int y :: .int x :: st) := fun H locs ls hP hD hS hl => lv_icmp_ne E.1 E.2.1 hd ht (fun h => K1 h H locs ls hP hD hS hl) (fun h => K2 h H locs ls hP hD hS hl)
theorem J_if_lt (E : JE X l G cc own nL fr lo) {x : Int32} {off : Int} {tgt : Nat} (hd : decode cc pc = .ok (.ifCond .lt off, 3)) (ht : (pc : Int) + off = (tgt : Int)) (K1 : x < 0 → J X G nL kc ks ws lv tgt st) (K2 : ¬ x < 0 → J X G nL kc ks ws lv (pc + 3) st) : J X G nL kc ks ws lv pc (.int x :: st) := fun H locs ls hP hD hS hl => lv_if_lt E.1 E.2.1 hd ht (fun h => K1 h H locs ls hP hD hS hl) (fun h => K2 h H locs ls hP hD hS hl)
theorem J_icmp_lt (E : JE X l G cc own nL fr lo) {x y : Int32} {off : Int} {tgt : Nat} (hd : decode cc pc = .ok (.if_icmp .lt off, 3)) (ht : (pc : Int) + off = (tgt : Int)) (K1 : x < y → J X G nL kc ks ws lv tgt st) (K2 : ¬ x < y → J X G nL kc ks ws lv (pc + 3) st) : J X G nL kc ks ws lv pc (.int y :: .int x :: st) := fun H locs ls hP hD hS hl => lv_icmp_lt E.1 E.2.1 hd ht (fun h => K1 h H locs ls hP hD hS hl) (fun h => K2 h H locs ls hP hD hS hl)
theorem J_if_ge (E : JE X l G cc own nL fr lo) {x : Int32} {off : Int} {tgt : Nat} (hd : decode cc pc = .ok (.ifCond .ge off, 3)) (ht : (pc : Int) + off = (tgt : Int)) (K1 : 0 ≤ x → J X G nL kc ks ws lv tgt st) (K2 : ¬ 0 ≤ x → J X G nL kc ks ws lv (pc + 3) st) : J X G nL kc ks ws lv pc (.int x :: st) := fun H locs ls hP hD hS hl => lv_if_ge E.1 E.2.1 hd ht (fun h => K1 h H locs ls hP hD hS hl) (fun h => K2 h H locs ls hP hD hS hl)
theorem J_icmp_ge (E : JE X l G cc own nL fr lo) {x y : Int32} {off : Int} {tgt : Nat} (hd : decode cc pc = .ok (.if_icmp .ge off, 3)) (ht : (pc : Int) + off = (tgt : Int)) (K1 : y ≤ x → J X G nL kc ks ws lv tgt st) (K2 : ¬ y ≤ x → J X G nL kc ks ws lv (pc + 3) st) : J X G nL kc ks ws lv pc (.int y :: .int x :: st) := fun H locs ls hP hD hS hl => lv_icmp_ge E.1 E.2.1 hd ht (fun h => K1 h H locs ls hP hD hS hl) (fun h => K2 h H locs ls hP hD hS hl)
theorem J_if_gt (E : JE X l G cc own nL fr lo) {x : Int32} {off : Int} {tgt : Nat} (hd : decode cc pc = .ok (.ifCond .gt off, 3)) (ht : (pc : Int) + off = (tgt : Int)) (K1 : 0 < x → J X G nL kc ks ws lv tgt st) (K2 : ¬ 0 < x → J X G nL kc ks ws lv (pc + 3) st) : J X G nL kc ks ws lv pc (.int x :: st) := fun H locs ls hP hD hS hl => lv_if_gt E.1 E.2.1 hd ht (fun h => K1 h H locs ls hP hD hS hl) (fun h => K2 h H locs ls hP hD hS hl)
theorem J_icmp_gt (E : JE X l G cc own nL fr lo) {x y : Int32} {off : Int} {tgt : Nat} (hd : decode cc pc = .ok (.if_icmp .gt off, 3)) (ht : (pc : Int) + off = (tgt : Int)) (K1 : y < x → J X G nL kc ks ws lv tgt st) (K2 : ¬ y < x → J X G nL kc ks ws lv (pc + 3) st) : J X G nL kc ks ws lv pc (.int y :: .int x :: st) := fun H locs ls hP hD hS hl => lv_icmp_gt E.1 E.2.1 hd ht (fun h => K1 h H locs ls hP hD hS hl) (fun h => K2 h H locs ls hP hD hS hl)
theorem J_if_le (E : JE X l G cc own nL fr lo) {x : Int32} {off : Int} {tgt : Nat} (hd : decode cc pc = .ok (.ifCond .le off, 3)) (ht : (pc : Int) + off = (tgt : Int)) (K1 : x ≤ 0 → J X G nL kc ks ws lv tgt st) (K2 : ¬ x ≤ 0 → J X G nL kc ks ws lv (pc + 3) st) : J X G nL kc ks ws lv pc (.int x :: st) := fun H locs ls hP hD hS hl => lv_if_le E.1 E.2.1 hd ht (fun h => K1 h H locs ls hP hD hS hl) (fun h => K2 h H locs ls hP hD hS hl)
theorem J_icmp_le (E : JE X l G cc own nL fr lo) {x y : Int32} {off : Int} {tgt : Nat} (hd : decode cc pc = .ok (.if_icmp .le off, 3)) (ht : (pc : Int) + off = (tgt : Int)) (K1 : x ≤ y → J X G nL kc ks ws lv tgt st) (K2 : ¬ x ≤ y → J X G nL kc ks ws lv (pc + 3) st) : J X G nL kc ks ws lv pc (.int y :: .int x :: st) := fun H locs ls hP hD hS hl => lv_icmp_le E.1 E.2.1 hd ht (fun h => K1 h H locs ls hP hD hS hl) (fun h => K2 h H locs ls hP hD hS hl)
theorem J_goto (E : JE X l G cc own nL fr lo) {off : Int} {tgt : Nat} (hd : decode cc pc = .ok (.goto off, 3)) (ht : (pc : Int) + off = (tgt : Int)) (K : J X G nL kc ks ws lv tgt st) : J X G nL kc ks ws lv pc st := fun H locs ls hP hD hS hl => lv_goto E.1 E.2.1 hd ht (K H locs ls hP hD hS hl)
theorem J_tabOut (E : JE X l G cc own nL fr lo) {dflt lo1 hi : Int} {offs : Array Int} {len : Nat} {x : Int32} {tgt : Nat} (hd : decode cc pc = .ok (.tableswitch dflt lo1 hi offs, len)) (h : x.toInt < lo1 ∨ hi < x.toInt) (ht : (pc : Int) + dflt = (tgt : Int)) (K : J X G nL kc ks ws lv tgt st) : J X G nL kc ks ws lv pc (.int x :: st) := fun H locs ls hP hD hS hl => lv_tableOut E.1 E.2.1 hd h ht (K H locs ls hP hD hS hl)
theorem J_tabIn (E : JE X l G cc own nL fr lo) {dflt lo1 hi : Int} {offs : Array Int} {len : Nat} {x : Int32} {off : Int} {tgt : Nat} (hd : decode cc pc = .ok (.tableswitch dflt lo1 hi offs, len)) (h1 : ¬ x.toInt < lo1) (h2 : ¬ hi < x.toInt) (ho : offs[(x.toInt - lo1).toNat]? = some off) (ht : (pc : Int) + off = (tgt : Int)) (K : J X G nL kc ks ws lv tgt st) : J X G nL kc ks ws lv pc (.int x :: st) := fun H locs ls hP hD hS hl => lv_tableIn E.1 E.2.1 hd h1 h2 ho ht (K H locs ls hP hD hS hl)
theorem J_ldc (E : JE X l G cc own nL fr lo) {idx : Nat} {v : Int32} (hw : Cond.constant own idx v ∈ lw_T) (hd : decode cc pc = .ok (.ldc idx, 2)) (K : J X G nL kc ks ws lv (pc + 2) (.int v :: st)) : J X G nL kc ks ws lv pc st := fun H locs ls hP hD hS hl => lv_ldc E.1 E.2.1 E.2.2.2.1 (E.2.2.2.2.1 _ hw) hd (K H locs ls hP hD hS hl)
theorem J_ldc2 (E : JE X l G cc own nL fr lo) {idx : Nat} {v : Int64} (hw : Cond.constantLong own idx v ∈ lw_T) (hd : decode cc pc = .ok (.ldc2_w idx, 3)) (K : J X G nL kc ks ws lv (pc + 3) (.long v :: st)) : J X G nL kc ks ws lv pc st := fun H locs ls hP hD hS hl => lv_ldc2 E.1 E.2.1 E.2.2.2.1 (E.2.2.2.2.1 _ hw) hd (K H locs ls hP hD hS hl)
theorem J_get (E : JE X l G cc own nL fr lo) {C : String} {T : u_T} {N ci idx a : Nat} {fs : List Value} {v : Value} (q0 fk : Nat) (hin : ∀ w ∈ u_ws C T N, w ∈ lw_T) (hc : vwCl[ci]? = some (C, T, N)) (hk : fk < N) (hlink : Cond.fieldLink own idx (T fk).1 (T fk).2.1 (T fk).2.2.1 ∈ lw_T) (hd : decode cc pc = .ok (.getfield idx, 3)) (he : ws[q0]? = some (a, .inr (ci, fs))) (hv : fs[fk]? = some v) (K : J X G nL kc ks ws lv (pc + 3) (v :: st)) : J X G nL kc ks ws lv pc (.ref a :: st) := fun H locs ls hP hD hS hl => va_get E.1 E.2.1 E.2.2.2.2.1 hin E.2.2.2.1 E.2.2.2.2.2.1 hP q0 he hc fk hk (E.2.2.2.2.1 _ hlink) (fun _ h => h) hv hd (K H locs ls hP hD hS hl)
theorem J_put (E : JE X l G cc own nL fr lo) {C : String} {T : u_T} {N ci idx a : Nat} {fs : List Value} {v : Value} {ty : FieldType} {ty0 : Nat → FieldType} (q0 fk : Nat) (hin : ∀ w ∈ u_ws C T N, w ∈ lw_T) (hty : ∀ k, k < N → parseFieldDescriptor (T k).2.2.1 = some (ty0 k)) (hnm : ∀ a, a < N → ∀ b, b < N → a ≠ b → (T a).2.1 ≠ (T b).2.1) (hc : vwCl[ci]? = some (C, T, N)) (hk : fk < N) (hlink : Cond.fieldLink own idx (T fk).1 (T fk).2.1 (T fk).2.2.1 ∈ lw_T) (hfin : (T fk).2.2.2 = false) (hds : parseFieldDescriptor (T fk).2.2.1 = some ty) (hd : decode cc pc = .ok (.putfield idx, 3)) (he : ws[q0]? = some (a, .inr (ci, fs))) (hn : narrow ty v = v) (hfit : fits ty v = true) (hl0 : fk < fs.length) (K : J X G nL kc ks (ws.set q0 (a, .inr (ci, fs.set fk v))) lv (pc + 3) st) : J X G nL kc ks ws lv pc (v :: .ref a :: st) := fun H locs ls hP hD hS hl => va_put E.1 E.2.1 E.2.2.2.2.1 hin ty0 hty hnm E.2.2.2.1 E.2.2.2.2.2.1 hP hD hS q0 he hc fk hk (E.2.2.2.2.1 _ hlink) (fun _ h => h) hfin hds hn hfit hl0 hd (fun H1 locs1 hP1 hD1 hS1 => K H1 locs1 ls hP1 hD1 hS1 hl)
theorem J_putF (E : JE X l G cc own nL fr lo) {C : String} {T : u_T} {N ci idx a : Nat} {fs : List Value} {v : Value} {ty : FieldType} {ty0 : Nat → FieldType} (q0 fk : Nat) (hin : ∀ w ∈ u_ws C T N, w ∈ lw_T) (hty : ∀ k, k < N → parseFieldDescriptor (T k).2.2.1 = some (ty0 k)) (hnm : ∀ a, a < N → ∀ b, b < N → a ≠ b → (T a).2.1 ≠ (T b).2.1) (hc : vwCl[ci]? = some (C, T, N)) (hk : fk < N) (hlink : Cond.fieldLink own idx (T fk).1 (T fk).2.1 (T fk).2.2.1 ∈ lw_T) (hfin : (T fk).2.2.2 = true) (hin2 : X.2.1.2.2.1.name = "<init>") (hdecl : (T fk).1 = own) (hds : parseFieldDescriptor (T fk).2.2.1 = some ty) (hd : decode cc pc = .ok (.putfield idx, 3)) (he : ws[q0]? = some (a, .inr (ci, fs))) (hn : narrow ty v = v) (hfit : fits ty v = true) (hl0 : fk < fs.length) (K : J X G nL kc ks (ws.set q0 (a, .inr (ci, fs.set fk v))) lv (pc + 3) st) : J X G nL kc ks ws lv pc (v :: .ref a :: st) := fun H locs ls hP hD hS hl => va_putF E.1 E.2.1 E.2.2.2.2.1 hin ty0 hty hnm E.2.2.2.1 E.2.2.2.2.2.1 hP hD hS q0 he hc fk hk (E.2.2.2.2.1 _ hlink) (fun _ h => h) hfin hin2 hdecl hds hn hfit hl0 hd (fun H1 locs1 hP1 hD1 hS1 => K H1 locs1 ls hP1 hD1 hS1 hl)
theorem J_iald (E : JE X l G cc own nL fr lo) {a N : Nat} {f : Nat → Int32} {i v : Int32} (q0 : Nat) (hd : decode cc pc = .ok (.iaload, 1)) (he : ws[q0]? = some (a, .inl (G.2.1, N, .inl f))) (hin : vp_in i N) (hv : f i.toNatClampNeg = v) (K : J X G nL kc ks ws lv (pc + 1) (.int v :: st)) : J X G nL kc ks ws lv pc (.int i :: .ref a :: st) := fun H locs ls hP hD hS hl => va_iald E.1 E.2.1 E.2.2.2.2.2.1 hP q0 0 he rfl hin hd (hv ▸ (K H locs ls hP hD hS hl))
theorem J_ialdN (E : JE X l G cc own nL fr lo) {a N j : Nat} {f : Nat → Int32} (q0 : Nat) (hd : decode cc pc = .ok (.iaload, 1)) (he : ws[q0]? = some (a, .inl (G.2.1, N, .inl f))) (hj : j < N) (hN : N < 2 ^ 31) (K : J X G nL kc ks ws lv (pc + 1) (.int (f j) :: st)) : J X G nL kc ks ws lv pc (.int (nI j) :: .ref a :: st) := J_iald E q0 hd he (vp_in_nI hj hN) (by rw [nI_clamp (Nat.lt_trans hj hN)]) K
theorem J_iast (E : JE X l G cc own nL fr lo) {a N : Nat} {f g : Nat → Int32} {i x : Int32} (q0 : Nat) (hd : decode cc pc = .ok (.iastore, 1)) (he : ws[q0]? = some (a, .inl (G.2.1, N, .inl f))) (hin : vp_in i N) (hg : upd f i.toNatClampNeg x = g) (K : J X G nL kc ks (ws.set q0 (a, .inl (G.2.1, N, .inl g))) lv (pc + 1) st) : J X G nL kc ks ws lv pc (.int x :: .int i :: .ref a :: st) := by
  subst hg
  exact fun H locs ls hP hD hS hl => va_iast E.1 E.2.1 E.2.2.2.2.2.1 hP hD hS q0 0 he rfl hin hd (fun H1 locs1 hP1 hD1 hS1 => K H1 locs1 ls hP1 hD1 hS1 hl)
theorem J_iastN (E : JE X l G cc own nL fr lo) {a N j : Nat} {f : Nat → Int32} {x : Int32} (q0 : Nat) (hd : decode cc pc = .ok (.iastore, 1)) (he : ws[q0]? = some (a, .inl (G.2.1, N, .inl f))) (hj : j < N) (hN : N < 2 ^ 31) (K : J X G nL kc ks (ws.set q0 (a, .inl (G.2.1, N, .inl (upd f j x)))) lv (pc + 1) st) : J X G nL kc ks ws lv pc (.int x :: .int (nI j) :: .ref a :: st) := J_iast E q0 hd he (vp_in_nI hj hN) (by rw [nI_clamp (Nat.lt_trans hj hN)]) K
theorem J_alen (E : JE X l G cc own nL fr lo) {a : Nat} {x : vp_A} {v : Int32} (q0 : Nat) (hd : decode cc pc = .ok (.arraylength, 1)) (he : ws[q0]? = some (a, .inl (G.2.1, x))) (hv : Int32.ofNat x.1 = v) (K : J X G nL kc ks ws lv (pc + 1) (.int v :: st)) : J X G nL kc ks ws lv pc (.ref a :: st) := fun H locs ls hP hD hS hl => va_alen E.1 E.2.1 E.2.2.2.2.2.1 hP q0 0 he rfl hv hd (K H locs ls hP hD hS hl)
theorem J_aald (E : JE X l G cc own nL fr lo) {a N : Nat} {f : Nat → Option Nat} {i : Int32} {r : Nat} (q0 : Nat) (hd : decode cc pc = .ok (.aaload, 1)) (he : ws[q0]? = some (a, .inl (G.2.2.1, N, .inr (.inr (.inr (.inr f)))))) (hin : vp_in i N) (hv : f i.toNatClampNeg = some r) (K : J X G nL kc ks ws lv (pc + 1) (.ref r :: st)) : J X G nL kc ks ws lv pc (.int i :: .ref a :: st) := fun H locs ls hP hD hS hl => va_aldq E.1 E.2.1 E.2.2.2.2.2.1 hP q0 1 he rfl hin hd (by rw [hv]; exact (K H locs ls hP hD hS hl))
theorem J_mmax (E : JE X l G cc own nL fr lo) {idx : Nat} {x y : Int32} (hl1 : Cond.methodLink own idx Lib.Math.max.name ∈ lw_T) (hl2 : Cond.static Lib.Math.max.name ∈ lw_T) (hl3 : Cond.initialized "java/lang/Math" ∈ lw_T) (hl4 : Cond.code Lib.Math.max.name Lib.Math.max.code 2 (some .int) ∈ lw_T) (hd : decode cc pc = .ok (.invokestatic idx, 3)) (hR1 : 1 ≤ fr) (hR2 : (st.map fun v => v.category).sum + 13 ≤ lo) (hk : kc ≤ X.1.2.2.2.1.cells ∧ ks ≤ X.1.2.2.2.1.slots) (K : J X G nL kc ks ws lv (pc + 3) (.int (mx x y) :: st)) : J X G nL kc ks ws lv pc (.int y :: .int x :: st) := fun H locs ls hP hD hS hl => va_mmax E.1 E.2.1 (by rw [hl.1]; exact E.2.2.1) E.2.2.2.1 (E.2.2.2.2.1 _ hl1) (E.2.2.2.2.1 _ hl2) (E.2.2.2.2.1 _ hl3) (E.2.2.2.2.1 _ hl4) (Nat.le_trans hR1 E.2.2.2.2.2.2.2.2.2.1) (Nat.le_trans hR2 E.2.2.2.2.2.2.2.2.2.2) hk.1 hk.2 hd (K H locs ls hP hD hS hl)
theorem J_mmin (E : JE X l G cc own nL fr lo) {idx : Nat} {x y : Int32} (hl1 : Cond.methodLink own idx Lib.Math.min.name ∈ lw_T) (hl2 : Cond.static Lib.Math.min.name ∈ lw_T) (hl3 : Cond.initialized "java/lang/Math" ∈ lw_T) (hl4 : Cond.code Lib.Math.min.name Lib.Math.min.code 2 (some .int) ∈ lw_T) (hd : decode cc pc = .ok (.invokestatic idx, 3)) (hR1 : 1 ≤ fr) (hR2 : (st.map fun v => v.category).sum + 13 ≤ lo) (hk : kc ≤ X.1.2.2.2.1.cells ∧ ks ≤ X.1.2.2.2.1.slots) (K : J X G nL kc ks ws lv (pc + 3) (.int (mn x y) :: st)) : J X G nL kc ks ws lv pc (.int y :: .int x :: st) := fun H locs ls hP hD hS hl => va_mmin E.1 E.2.1 (by rw [hl.1]; exact E.2.2.1) E.2.2.2.1 (E.2.2.2.2.1 _ hl1) (E.2.2.2.2.1 _ hl2) (E.2.2.2.2.1 _ hl3) (E.2.2.2.2.1 _ hl4) (Nat.le_trans hR1 E.2.2.2.2.2.2.2.2.2.1) (Nat.le_trans hR2 E.2.2.2.2.2.2.2.2.2.2) hk.1 hk.2 hd (K H locs ls hP hD hS hl)
theorem J_copyi (E : JE X l G cc own nL fr lo) {idx a a0 n0 n1 : Nat} {f g : Nat → Int32} {sp dp cn : Int32} (q0 q1 : Nat) (hl1 : Cond.methodLink own idx arraycopyName ∈ lw_T) (hl2 : Cond.native arraycopyName ∈ lw_T) (hl3 : Cond.static arraycopyName ∈ lw_T) (hl4 : Cond.initialized "java/lang/System" ∈ lw_T) (hd : decode cc pc = .ok (.invokestatic idx, 3)) (ha0 : ws[q0]? = some (a0, .inl (G.2.1, n0, .inl f))) (ha1 : ws[q1]? = some (a, .inl (G.2.1, n1, .inl g))) (h1 : ¬ sp < 0) (h2 : ¬ dp < 0) (h3 : ¬ cn < 0) (h4 : sp.toNatClampNeg + cn.toNatClampNeg ≤ n0) (h5 : dp.toNatClampNeg + cn.toNatClampNeg ≤ n1) (hR1 : 1 ≤ fr) (hR2 : (st.map fun v => v.category).sum + (nativeFrameWords "java/lang/System" "arraycopy" 5 + 11) ≤ lo) (K : J X G nL kc ks (ws.set q1 (a, .inl (G.2.1, n1, .inl (va_cpy f g sp.toNatClampNeg dp.toNatClampNeg cn.toNatClampNeg)))) lv (pc + 3) st) : J X G nL kc ks ws lv pc (.int cn :: .int dp :: .ref a :: .int sp :: .ref a0 :: st) := fun H locs ls hP hD hS hl => va_copyi (ty := .int) E.1 E.2.1 (by rw [hl.1]; exact E.2.2.1) E.2.2.2.1 (E.2.2.2.2.1 _ hl1) (E.2.2.2.2.1 _ hl2) (E.2.2.2.2.1 _ hl3) (E.2.2.2.2.1 _ hl4) E.2.2.2.2.2.1 hP hD hS q0 q1 0 0 ha0 ha1 rfl rfl rfl h1 h2 h3 h4 h5 (fun _ _ => rfl) (Nat.le_trans hR1 E.2.2.2.2.2.2.2.2.2.1) (Nat.le_trans hR2 E.2.2.2.2.2.2.2.2.2.2) hd (fun H1 locs1 hP1 hD1 hS1 => K H1 locs1 ls hP1 hD1 hS1 hl)
set_option maxHeartbeats 4000000 in
theorem J_callVi (E : JE X l G cc own nL fr lo) {y : MethodName} {bc : ByteArray} {mL fr' lo' idx na : Nat} {rt : FieldType} {C : String} {T : u_T} {N ci q0 : Nat} {b : Nat} {fs : List Value} {As rest : List Value} {wc : va_W} {Post : Int32 → va_W → Prop} (w1 w2 : va_W) (hc : CI l y bc mL rt fr' lo' G (.ref b :: As) wc Post) (hg : GoodIn lw_T (wsV own idx C y (WS y bc mL (some rt)))) (hy : y.cls = C ∧ y.cls ≠ "java/lang/invoke/MethodHandle" ∧ y.cls ≠ "java/lang/invoke/VarHandle" ∧ (parseMethodDescriptor y.desc).map (fun d => d.parameters.length) = some na) (hd : decode cc pc = .ok (.invokevirtual idx, 3)) (hcl : vwCl[ci]? = some (C, T, N)) (hq : wc[q0]? = some (b, .inr (ci, fs))) (hn : As.length = na) (hR1 : fr' + 1 ≤ fr) (hR2 : 8 + (mL + 11) + lo' ≤ lo) (hst : st = As.reverse ++ .ref b :: rest) (hrm : (rest.map fun v => v.category).sum ≤ 8) (hw : ws = w1 ++ (wc ++ w2)) (hk : kc ≤ X.1.2.2.2.1.cells ∧ ks ≤ X.1.2.2.2.1.slots)
    (K : ∀ (r : Int32) (w' : va_W), Post r w' → J X G nL kc ks (w1 ++ (w' ++ w2)) lv (pc + 3) (.int r :: rest)) : J X G nL kc ks ws lv pc st := by
  intro H locs ls hP hD hS hl
  obtain ⟨hx, hb, hml, hown, hts, hK, hA, rfl, hC, hf1, hf2⟩ := E
  subst hw hst
  have hPc := seg_P hP
  have hDc := seg_D hD
  have hFc := seg_F hD hS hA
  refine va_calli (va_runV (As := As) (rest := rest) ⟨hx, hb, hml, hown, hts⟩ (hc H.size) (cwV na hts hg rfl rfl rfl hy ⟨Nat.le_trans hR1 hf1, Nat.le_trans hR2 hf2⟩) ⟨mP_blind, va_recv hK hPc hcl hq, fun U hU hW => ⟨rfl, by rw [hU], by rw [hU]; exact hPc, va_K.moved hW.alike hK, hDc.weaken (fun _ _ _ _ => trivial), by rw [hU]; exact cst.go hW hC hS.2.1 hFc⟩⟩ rfl hn hl.1 rfl (lv_room hrm) hd ⟨hk.1, hk.2⟩) hS (fun q _ h => hFc q h) hFc (fun r w' t H1 locs1 ht hvm hw hB hz1 hk1 hS1 => ?_)
  obtain ⟨hP1, hD1⟩ := hB
  rw [ht] at hP1
  obtain ⟨hP2, hD2⟩ := seg_join hP hD hk1 hFc hP1 hD1
  exact K r w' hw H1 locs1 ls hP2 hD2 hS1 hl
set_option maxHeartbeats 4000000 in
theorem J_callSi (E : JE X l G cc own nL fr lo) {y : MethodName} {bc : ByteArray} {mL fr' lo' idx na : Nat} {rt : FieldType} {As rest : List Value} {wc : va_W} {Post : Int32 → va_W → Prop} (w1 w2 : va_W) (hc : CI l y bc mL rt fr' lo' G (As) wc Post) (hg : GoodIn lw_T (va_wsS own idx y (WS y bc mL (some rt)))) (hy : y.cls ≠ "java/lang/invoke/MethodHandle" ∧ y.cls ≠ "java/lang/invoke/VarHandle" ∧ (parseMethodDescriptor y.desc).map (fun d => d.parameters.length) = some na) (hd : decode cc pc = .ok (.invokestatic idx, 3)) (hn : As.length = na) (hR1 : fr' + 1 ≤ fr) (hR2 : 8 + (mL + 11) + lo' ≤ lo) (hst : st = As.reverse ++ rest) (hrm : (rest.map fun v => v.category).sum ≤ 8) (hw : ws = w1 ++ (wc ++ w2)) (hk : kc ≤ X.1.2.2.2.1.cells ∧ ks ≤ X.1.2.2.2.1.slots)
    (K : ∀ (r : Int32) (w' : va_W), Post r w' → J X G nL kc ks (w1 ++ (w' ++ w2)) lv (pc + 3) (.int r :: rest)) : J X G nL kc ks ws lv pc st := by
  intro H locs ls hP hD hS hl
  obtain ⟨hx, hb, hml, hown, hts, hK, hA, rfl, hC, hf1, hf2⟩ := E
  subst hw hst
  have hPc := seg_P hP
  have hDc := seg_D hD
  have hFc := seg_F hD hS hA
  refine va_calli (va_runS (As := As) (rest := rest) ⟨hx, hb, hml, hown, hts⟩ (hc H.size) (va_cwS na hts hg rfl rfl rfl hy ⟨Nat.le_trans hR1 hf1, Nat.le_trans hR2 hf2⟩) ⟨mP_blind, fun U hU hW => ⟨rfl, by rw [hU], by rw [hU]; exact hPc, va_K.moved hW.alike hK, hDc.weaken (fun _ _ _ _ => trivial), by rw [hU]; exact cst.go hW hC hS.2.1 hFc⟩⟩ rfl hn hl.1 rfl (lv_room hrm) hd ⟨hk.1, hk.2⟩) hS (fun q _ h => hFc q h) hFc (fun r w' t H1 locs1 ht hvm hw hB hz1 hk1 hS1 => ?_)
  obtain ⟨hP1, hD1⟩ := hB
  rw [ht] at hP1
  obtain ⟨hP2, hD2⟩ := seg_join hP hD hk1 hFc hP1 hD1
  exact K r w' hw H1 locs1 ls hP2 hD2 hS1 hl
set_option maxHeartbeats 4000000 in
theorem J_callVl (E : JE X l G cc own nL fr lo) {y : MethodName} {bc : ByteArray} {mL fr' lo' idx na : Nat} {C : String} {T : u_T} {N ci q0 : Nat} {b : Nat} {fs : List Value} {As rest : List Value} {wc : va_W} {Post : Int64 → va_W → Prop} (w1 w2 : va_W) (hc : CL l y bc mL fr' lo' G (.ref b :: As) wc Post) (hg : GoodIn lw_T (wsV own idx C y (WS y bc mL (some .long)))) (hy : y.cls = C ∧ y.cls ≠ "java/lang/invoke/MethodHandle" ∧ y.cls ≠ "java/lang/invoke/VarHandle" ∧ (parseMethodDescriptor y.desc).map (fun d => d.parameters.length) = some na) (hd : decode cc pc = .ok (.invokevirtual idx, 3)) (hcl : vwCl[ci]? = some (C, T, N)) (hq : wc[q0]? = some (b, .inr (ci, fs))) (hn : As.length = na) (hR1 : fr' + 1 ≤ fr) (hR2 : 8 + (mL + 11) + lo' ≤ lo) (hst : st = As.reverse ++ .ref b :: rest) (hrm : (rest.map fun v => v.category).sum ≤ 8) (hw : ws = w1 ++ (wc ++ w2)) (hk : kc ≤ X.1.2.2.2.1.cells ∧ ks ≤ X.1.2.2.2.1.slots)
    (K : ∀ (r : Int64) (w' : va_W), Post r w' → J X G nL kc ks (w1 ++ (w' ++ w2)) lv (pc + 3) (.long r :: rest)) : J X G nL kc ks ws lv pc st := by
  intro H locs ls hP hD hS hl
  obtain ⟨hx, hb, hml, hown, hts, hK, hA, rfl, hC, hf1, hf2⟩ := E
  subst hw hst
  have hPc := seg_P hP
  have hDc := seg_D hD
  have hFc := seg_F hD hS hA
  refine va_calll (va_runV (As := As) (rest := rest) ⟨hx, hb, hml, hown, hts⟩ (hc H.size) (cwV na hts hg rfl rfl rfl hy ⟨Nat.le_trans hR1 hf1, Nat.le_trans hR2 hf2⟩) ⟨mP_blind, va_recv hK hPc hcl hq, fun U hU hW => ⟨rfl, by rw [hU], by rw [hU]; exact hPc, va_K.moved hW.alike hK, hDc.weaken (fun _ _ _ _ => trivial), by rw [hU]; exact cst.go hW hC hS.2.1 hFc⟩⟩ rfl hn hl.1 rfl (lv_room hrm) hd ⟨hk.1, hk.2⟩) hS (fun q _ h => hFc q h) hFc (fun r w' t H1 locs1 ht hvm hw hB hz1 hk1 hS1 => ?_)
  obtain ⟨hP1, hD1⟩ := hB
  rw [ht] at hP1
  obtain ⟨hP2, hD2⟩ := seg_join hP hD hk1 hFc hP1 hD1
  exact K r w' hw H1 locs1 ls hP2 hD2 hS1 hl
set_option maxHeartbeats 4000000 in
theorem J_callSl (E : JE X l G cc own nL fr lo) {y : MethodName} {bc : ByteArray} {mL fr' lo' idx na : Nat} {As rest : List Value} {wc : va_W} {Post : Int64 → va_W → Prop} (w1 w2 : va_W) (hc : CL l y bc mL fr' lo' G (As) wc Post) (hg : GoodIn lw_T (va_wsS own idx y (WS y bc mL (some .long)))) (hy : y.cls ≠ "java/lang/invoke/MethodHandle" ∧ y.cls ≠ "java/lang/invoke/VarHandle" ∧ (parseMethodDescriptor y.desc).map (fun d => d.parameters.length) = some na) (hd : decode cc pc = .ok (.invokestatic idx, 3)) (hn : As.length = na) (hR1 : fr' + 1 ≤ fr) (hR2 : 8 + (mL + 11) + lo' ≤ lo) (hst : st = As.reverse ++ rest) (hrm : (rest.map fun v => v.category).sum ≤ 8) (hw : ws = w1 ++ (wc ++ w2)) (hk : kc ≤ X.1.2.2.2.1.cells ∧ ks ≤ X.1.2.2.2.1.slots)
    (K : ∀ (r : Int64) (w' : va_W), Post r w' → J X G nL kc ks (w1 ++ (w' ++ w2)) lv (pc + 3) (.long r :: rest)) : J X G nL kc ks ws lv pc st := by
  intro H locs ls hP hD hS hl
  obtain ⟨hx, hb, hml, hown, hts, hK, hA, rfl, hC, hf1, hf2⟩ := E
  subst hw hst
  have hPc := seg_P hP
  have hDc := seg_D hD
  have hFc := seg_F hD hS hA
  refine va_calll (va_runS (As := As) (rest := rest) ⟨hx, hb, hml, hown, hts⟩ (hc H.size) (va_cwS na hts hg rfl rfl rfl hy ⟨Nat.le_trans hR1 hf1, Nat.le_trans hR2 hf2⟩) ⟨mP_blind, fun U hU hW => ⟨rfl, by rw [hU], by rw [hU]; exact hPc, va_K.moved hW.alike hK, hDc.weaken (fun _ _ _ _ => trivial), by rw [hU]; exact cst.go hW hC hS.2.1 hFc⟩⟩ rfl hn hl.1 rfl (lv_room hrm) hd ⟨hk.1, hk.2⟩) hS (fun q _ h => hFc q h) hFc (fun r w' t H1 locs1 ht hvm hw hB hz1 hk1 hS1 => ?_)
  obtain ⟨hP1, hD1⟩ := hB
  rw [ht] at hP1
  obtain ⟨hP2, hD2⟩ := seg_join hP hD hk1 hFc hP1 hD1
  exact K r w' hw H1 locs1 ls hP2 hD2 hS1 hl
set_option maxHeartbeats 4000000 in
theorem J_callVv (E : JE X l G cc own nL fr lo) {y : MethodName} {bc : ByteArray} {mL fr' lo' mc ms idx na : Nat} {C : String} {T : u_T} {N ci q0 : Nat} {b : Nat} {fs : List Value} {As rest : List Value} {wc : va_W} {Post : va_W → Prop} (w1 w2 : va_W) (hc : CV l y bc mL fr' lo' mc ms G (.ref b :: As) wc Post) (hg : GoodIn lw_T (wsV own idx C y (WS y bc mL (none)))) (hy : y.cls = C ∧ y.cls ≠ "java/lang/invoke/MethodHandle" ∧ y.cls ≠ "java/lang/invoke/VarHandle" ∧ (parseMethodDescriptor y.desc).map (fun d => d.parameters.length) = some na) (hd : decode cc pc = .ok (.invokevirtual idx, 3)) (hcl : vwCl[ci]? = some (C, T, N)) (hq : wc[q0]? = some (b, .inr (ci, fs))) (hn : As.length = na) (hR1 : fr' + 1 ≤ fr) (hR2 : 8 + (mL + 11) + lo' ≤ lo) (hst : st = As.reverse ++ .ref b :: rest) (hrm : (rest.map fun v => v.category).sum ≤ 8) (hw : ws = w1 ++ (wc ++ w2)) (hk : kc + mc ≤ X.1.2.2.2.1.cells ∧ ks + ms ≤ X.1.2.2.2.1.slots)
    (K : ∀ (w' : va_W), Post w' → J X G nL (kc + mc) (ks + ms) (w1 ++ (w' ++ w2)) lv (pc + 3) (rest)) : J X G nL kc ks ws lv pc st := by
  intro H locs ls hP hD hS hl
  obtain ⟨hx, hb, hml, hown, hts, hK, hA, rfl, hC, hf1, hf2⟩ := E
  subst hw hst
  have hPc := seg_P hP
  have hDc := seg_D hD
  have hFc := seg_F hD hS hA
  refine va_callv (va_runV (As := As) (rest := rest) ⟨hx, hb, hml, hown, hts⟩ (hc H.size) (cwV na hts hg rfl rfl rfl hy ⟨Nat.le_trans hR1 hf1, Nat.le_trans hR2 hf2⟩) ⟨mP_blind, va_recv hK hPc hcl hq, fun U hU hW => ⟨rfl, by rw [hU], by rw [hU]; exact hPc, va_K.moved hW.alike hK, hDc.weaken (fun _ _ _ _ => trivial), by rw [hU]; exact cst.go hW hC hS.2.1 hFc⟩⟩ rfl hn hl.1 rfl (lv_room hrm) hd hk) hS (fun q _ h => hFc q h) hFc (fun w' t H1 locs1 ht hvm hw hB hz1 hk1 hS1 => ?_)
  obtain ⟨hP1, hD1⟩ := hB
  rw [ht] at hP1
  obtain ⟨hP2, hD2⟩ := seg_join hP hD hk1 hFc hP1 hD1
  exact K w' hw H1 locs1 ls hP2 hD2 hS1 hl
set_option maxHeartbeats 4000000 in
theorem J_callSv (E : JE X l G cc own nL fr lo) {y : MethodName} {bc : ByteArray} {mL fr' lo' mc ms idx na : Nat} {As rest : List Value} {wc : va_W} {Post : va_W → Prop} (w1 w2 : va_W) (hc : CV l y bc mL fr' lo' mc ms G (As) wc Post) (hg : GoodIn lw_T (va_wsS own idx y (WS y bc mL (none)))) (hy : y.cls ≠ "java/lang/invoke/MethodHandle" ∧ y.cls ≠ "java/lang/invoke/VarHandle" ∧ (parseMethodDescriptor y.desc).map (fun d => d.parameters.length) = some na) (hd : decode cc pc = .ok (.invokestatic idx, 3)) (hn : As.length = na) (hR1 : fr' + 1 ≤ fr) (hR2 : 8 + (mL + 11) + lo' ≤ lo) (hst : st = As.reverse ++ rest) (hrm : (rest.map fun v => v.category).sum ≤ 8) (hw : ws = w1 ++ (wc ++ w2)) (hk : kc + mc ≤ X.1.2.2.2.1.cells ∧ ks + ms ≤ X.1.2.2.2.1.slots)
    (K : ∀ (w' : va_W), Post w' → J X G nL (kc + mc) (ks + ms) (w1 ++ (w' ++ w2)) lv (pc + 3) (rest)) : J X G nL kc ks ws lv pc st := by
  intro H locs ls hP hD hS hl
  obtain ⟨hx, hb, hml, hown, hts, hK, hA, rfl, hC, hf1, hf2⟩ := E
  subst hw hst
  have hPc := seg_P hP
  have hDc := seg_D hD
  have hFc := seg_F hD hS hA
  refine va_callv (va_runS (As := As) (rest := rest) ⟨hx, hb, hml, hown, hts⟩ (hc H.size) (va_cwS na hts hg rfl rfl rfl hy ⟨Nat.le_trans hR1 hf1, Nat.le_trans hR2 hf2⟩) ⟨mP_blind, fun U hU hW => ⟨rfl, by rw [hU], by rw [hU]; exact hPc, va_K.moved hW.alike hK, hDc.weaken (fun _ _ _ _ => trivial), by rw [hU]; exact cst.go hW hC hS.2.1 hFc⟩⟩ rfl hn hl.1 rfl (lv_room hrm) hd hk) hS (fun q _ h => hFc q h) hFc (fun w' t H1 locs1 ht hvm hw hB hz1 hk1 hS1 => ?_)
  obtain ⟨hP1, hD1⟩ := hB
  rw [ht] at hP1
  obtain ⟨hP2, hD2⟩ := seg_join hP hD hk1 hFc hP1 hD1
  exact K w' hw H1 locs1 ls hP2 hD2 hS1 hl
set_option maxHeartbeats 4000000 in
theorem J_callIv (E : JE X l G cc own nL fr lo) {y : MethodName} {bc : ByteArray} {mL fr' lo' mc ms idx na : Nat} {b : Nat} {As rest : List Value} {wc : va_W} {Post : va_W → Prop} (w1 w2 : va_W) (hc : CV l y bc mL fr' lo' mc ms G (.ref b :: As) wc Post) (hg : Cond.code y bc mL none ∈ lw_T) (hg1 : Cond.initialized y.cls ∈ lw_T) (hg2 : Cond.methodLink own idx y ∈ lw_T) (hg3 : Cond.instanceMethod y ∈ lw_T) (hyn : y.name = "<init>") (hy : y.cls ≠ "java/lang/invoke/MethodHandle" ∧ y.cls ≠ "java/lang/invoke/VarHandle" ∧ (parseMethodDescriptor y.desc).map (fun d => d.parameters.length) = some na) (hd : decode cc pc = .ok (.invokespecial idx, 3)) (hn : As.length = na) (hR1 : fr' + 1 ≤ fr) (hR2 : 8 + (mL + 11) + lo' ≤ lo) (hst : st = As.reverse ++ .ref b :: rest) (hrm : (rest.map fun v => v.category).sum ≤ 8) (hw : ws = w1 ++ (wc ++ w2)) (hk : kc + mc ≤ X.1.2.2.2.1.cells ∧ ks + ms ≤ X.1.2.2.2.1.slots)
    (K : ∀ (w' : va_W), Post w' → J X G nL (kc + mc) (ks + ms) (w1 ++ (w' ++ w2)) lv (pc + 3) (rest)) : J X G nL kc ks ws lv pc st := by
  intro H locs ls hP hD hS hl
  obtain ⟨hx, hb, hml, hown, hts, hK, hA, rfl, hC, hf1, hf2⟩ := E
  subst hw hst
  have hPc := seg_P hP
  have hDc := seg_D hD
  have hFc := seg_F hD hS hA
  refine va_callv (va_runI (As := As) (rest := rest) ⟨hx, hb, hml, hown, hts⟩ (hc H.size) (cwI na hts (ws_good hg) rfl rfl rfl (hts _ hg1) (hts _ hg2) (hts _ hg3) hyn hy ⟨Nat.le_trans hR1 hf1, Nat.le_trans hR2 hf2⟩) ⟨mP_blind, fun U hU hW => ⟨rfl, by rw [hU], by rw [hU]; exact hPc, va_K.moved hW.alike hK, hDc.weaken (fun _ _ _ _ => trivial), by rw [hU]; exact cst.go hW hC hS.2.1 hFc⟩⟩ rfl hn hl.1 rfl (lv_room hrm) hd hk) hS (fun q _ h => hFc q h) hFc (fun w' t H1 locs1 ht hvm hw hB hz1 hk1 hS1 => ?_)
  obtain ⟨hP1, hD1⟩ := hB
  rw [ht] at hP1
  obtain ⟨hP2, hD2⟩ := seg_join hP hD hk1 hFc hP1 hD1
  exact K w' hw H1 locs1 ls hP2 hD2 hS1 hl
set_option maxHeartbeats 4000000 in
theorem J_callVr (E : JE X l G cc own nL fr lo) {y : MethodName} {bc : ByteArray} {mL fr' lo' idx na : Nat} {rt : FieldType} {C : String} {T : u_T} {N ci q0 : Nat} {b : Nat} {fs : List Value} {As rest : List Value} {wc : va_W} {Post : Nat → va_W → Prop} (w1 w2 : va_W) (hc : CR l y bc mL rt fr' lo' G (.ref b :: As) wc Post) (hg : GoodIn lw_T (wsV own idx C y (WS y bc mL (some rt)))) (hy : y.cls = C ∧ y.cls ≠ "java/lang/invoke/MethodHandle" ∧ y.cls ≠ "java/lang/invoke/VarHandle" ∧ (parseMethodDescriptor y.desc).map (fun d => d.parameters.length) = some na) (hd : decode cc pc = .ok (.invokevirtual idx, 3)) (hcl : vwCl[ci]? = some (C, T, N)) (hq : wc[q0]? = some (b, .inr (ci, fs))) (hn : As.length = na) (hR1 : fr' + 1 ≤ fr) (hR2 : 8 + (mL + 11) + lo' ≤ lo) (hst : st = As.reverse ++ .ref b :: rest) (hrm : (rest.map fun v => v.category).sum ≤ 8) (hw : ws = w1 ++ (wc ++ w2)) (hk : kc ≤ X.1.2.2.2.1.cells ∧ ks ≤ X.1.2.2.2.1.slots)
    (K : ∀ (r : Nat) (w' : va_W), Post r w' → J X G nL kc ks (w1 ++ (w' ++ w2)) lv (pc + 3) (.ref r :: rest)) : J X G nL kc ks ws lv pc st := by
  intro H locs ls hP hD hS hl
  obtain ⟨hx, hb, hml, hown, hts, hK, hA, rfl, hC, hf1, hf2⟩ := E
  subst hw hst
  have hPc := seg_P hP
  have hDc := seg_D hD
  have hFc := seg_F hD hS hA
  refine va_callr (va_runV (As := As) (rest := rest) ⟨hx, hb, hml, hown, hts⟩ (hc H.size) (cwV na hts hg rfl rfl rfl hy ⟨Nat.le_trans hR1 hf1, Nat.le_trans hR2 hf2⟩) ⟨mP_blind, va_recv hK hPc hcl hq, fun U hU hW => ⟨rfl, by rw [hU], by rw [hU]; exact hPc, va_K.moved hW.alike hK, hDc.weaken (fun _ _ _ _ => trivial), by rw [hU]; exact cst.go hW hC hS.2.1 hFc⟩⟩ rfl hn hl.1 rfl (lv_room hrm) hd ⟨hk.1, hk.2⟩) hS (fun q _ h => hFc q h) hFc (fun w' r t H1 locs1 ht hvm hw hB hz1 hk1 hS1 => ?_)
  obtain ⟨hw, hP1, hD1⟩ := hB
  rw [ht] at hP1
  obtain ⟨hP2, hD2⟩ := seg_join hP hD hk1 hFc hP1 hD1
  exact K r w' hw H1 locs1 ls hP2 hD2 hS1 hl
set_option maxHeartbeats 4000000 in
theorem J_callSr (E : JE X l G cc own nL fr lo) {y : MethodName} {bc : ByteArray} {mL fr' lo' idx na : Nat} {rt : FieldType} {As rest : List Value} {wc : va_W} {Post : Nat → va_W → Prop} (w1 w2 : va_W) (hc : CR l y bc mL rt fr' lo' G (As) wc Post) (hg : GoodIn lw_T (va_wsS own idx y (WS y bc mL (some rt)))) (hy : y.cls ≠ "java/lang/invoke/MethodHandle" ∧ y.cls ≠ "java/lang/invoke/VarHandle" ∧ (parseMethodDescriptor y.desc).map (fun d => d.parameters.length) = some na) (hd : decode cc pc = .ok (.invokestatic idx, 3)) (hn : As.length = na) (hR1 : fr' + 1 ≤ fr) (hR2 : 8 + (mL + 11) + lo' ≤ lo) (hst : st = As.reverse ++ rest) (hrm : (rest.map fun v => v.category).sum ≤ 8) (hw : ws = w1 ++ (wc ++ w2)) (hk : kc ≤ X.1.2.2.2.1.cells ∧ ks ≤ X.1.2.2.2.1.slots)
    (K : ∀ (r : Nat) (w' : va_W), Post r w' → J X G nL kc ks (w1 ++ (w' ++ w2)) lv (pc + 3) (.ref r :: rest)) : J X G nL kc ks ws lv pc st := by
  intro H locs ls hP hD hS hl
  obtain ⟨hx, hb, hml, hown, hts, hK, hA, rfl, hC, hf1, hf2⟩ := E
  subst hw hst
  have hPc := seg_P hP
  have hDc := seg_D hD
  have hFc := seg_F hD hS hA
  refine va_callr (va_runS (As := As) (rest := rest) ⟨hx, hb, hml, hown, hts⟩ (hc H.size) (va_cwS na hts hg rfl rfl rfl hy ⟨Nat.le_trans hR1 hf1, Nat.le_trans hR2 hf2⟩) ⟨mP_blind, fun U hU hW => ⟨rfl, by rw [hU], by rw [hU]; exact hPc, va_K.moved hW.alike hK, hDc.weaken (fun _ _ _ _ => trivial), by rw [hU]; exact cst.go hW hC hS.2.1 hFc⟩⟩ rfl hn hl.1 rfl (lv_room hrm) hd ⟨hk.1, hk.2⟩) hS (fun q _ h => hFc q h) hFc (fun w' r t H1 locs1 ht hvm hw hB hz1 hk1 hS1 => ?_)
  obtain ⟨hw, hP1, hD1⟩ := hB
  rw [ht] at hP1
  obtain ⟨hP2, hD2⟩ := seg_join hP hD hk1 hFc hP1 hD1
  exact K r w' hw H1 locs1 ls hP2 hD2 hS1 hl
end JR
