/-! what ties the class's object x and the reference's y, behind k calls -/
def qOk (k : Nat) (q : Q2) : Prop := okR q ∧ okS q ∧ ∃ m : Nat, m ≤ 60 * k ∧ q 7 0 = nI m
def gp (g : Nat) : Prop := g = 0 ∨ g = 3 ∨ g = 7 ∨ (8 ≤ g ∧ g < 12)
def Rel (k : Nat) (x y : Q3) : Prop := (∀ g, gp g → x g = y g) ∧ qOk k (x 0) ∧ (¬ x 3 1 0 = 0 → x 1 = y 1 ∧ qOk k (x 1)) ∧ (∃ n : Nat, n ≤ 120 ∧ x 7 1 0 = nI n) ∧ ∀ s, s < 4 → ∃ n : Nat, n ≤ 40 ∧ x (8 + s) 1 1 = nI n
theorem qOk_up {k : Nat} {q : Q2} (h : qOk k q) : qOk (k + 1) q := by
  obtain ⟨a, b, m, c, d⟩ := h
  exact ⟨a, b, m, by omega, d⟩
section RL
variable {k : Nat} {x y : Q3}
theorem Rel.q (h : Rel k x y) : x 0 = y 0 := h.1 0 (Or.inl rfl)
theorem Rel.f (h : Rel k x y) : x 3 = y 3 := h.1 3 (Or.inr (Or.inl rfl))
theorem Rel.t (h : Rel k x y) : x 7 = y 7 := h.1 7 (Or.inr (Or.inr (Or.inl rfl)))
theorem Rel.s (h : Rel k x y) {s : Nat} (hs : s < 4) : x (8 + s) = y (8 + s) := h.1 (8 + s) (Or.inr (Or.inr (Or.inr ⟨by omega, by omega⟩)))
theorem Rel.id (h : Rel k x y) : Rel (k + 1) x y := ⟨h.1, qOk_up h.2.1, fun z => ⟨(h.2.2.1 z).1, qOk_up (h.2.2.1 z).2⟩, h.2.2.2⟩
theorem gG_s (x : Q3) (g : Nat) (q : Q2) : upG x g q g = q := if_pos rfl
theorem gG_n (x : Q3) {g g' : Nat} (q : Q2) (h : g' ≠ g) : upG x g q g' = x g' := if_neg h
theorem Rel.go0 (h : Rel k x y) {q q' : Q2} (e : q = q') (hq : qOk k q) : Rel k (upG x 0 q) (upG y 0 q') := by
  subst e
  refine ⟨fun g hg => ?_, by rw [gG_s]; exact hq, ?_, ?_, fun s hs => ?_⟩
  · by_cases c : g = 0
    · rw [c, gG_s, gG_s]
    · rw [gG_n _ _ c, gG_n _ _ c]; exact h.1 g hg
  · rw [gG_n _ _ (by decide), gG_n _ _ (by decide), gG_n _ _ (by decide)]
    exact h.2.2.1
  · rw [gG_n _ _ (by decide)]; exact h.2.2.2.1
  · rw [gG_n _ _ (by omega)]; exact h.2.2.2.2 s hs
theorem Rel.go3 (h : Rel k x y) {p p' : Q2} (e : p = p') (e0 : p 1 0 = x 3 1 0) : Rel k (upG x 3 p) (upG y 3 p') := by
  subst e
  refine ⟨fun g hg => ?_, by rw [gG_n _ _ (by decide)]; exact h.2.1, ?_, ?_, fun s hs => ?_⟩
  · by_cases c : g = 3
    · rw [c, gG_s, gG_s]
    · rw [gG_n _ _ c, gG_n _ _ c]; exact h.1 g hg
  · rw [gG_s, gG_n _ _ (by decide), gG_n _ _ (by decide), e0]
    exact h.2.2.1
  · rw [gG_n _ _ (by decide)]; exact h.2.2.2.1
  · rw [gG_n _ _ (by omega)]; exact h.2.2.2.2 s hs
theorem Rel.go7 (h : Rel k x y) {p p' : Q2} (e : p = p') (e0 : ∃ n : Nat, n ≤ 120 ∧ p 1 0 = nI n) : Rel k (upG x 7 p) (upG y 7 p') := by
  subst e
  refine ⟨fun g hg => ?_, by rw [gG_n _ _ (by decide)]; exact h.2.1, ?_, ?_, fun s hs => ?_⟩
  · by_cases c : g = 7
    · rw [c, gG_s, gG_s]
    · rw [gG_n _ _ c, gG_n _ _ c]; exact h.1 g hg
  · rw [gG_n _ _ (by decide), gG_n _ _ (by decide), gG_n _ _ (by decide)]
    exact h.2.2.1
  · rw [gG_s]; exact e0
  · rw [gG_n _ _ (by omega)]; exact h.2.2.2.2 s hs
theorem Rel.goS (h : Rel k x y) {s : Nat} (hs : s < 4) {p p' : Q2} (e : p = p') (e0 : ∃ n : Nat, n ≤ 40 ∧ p 1 1 = nI n) : Rel k (upG x (8 + s) p) (upG y (8 + s) p') := by
  subst e
  refine ⟨fun g hg => ?_, by rw [gG_n _ _ (by omega)]; exact h.2.1, ?_, ?_, fun t ht => ?_⟩
  · by_cases c : g = 8 + s
    · rw [c, gG_s, gG_s]
    · rw [gG_n _ _ c, gG_n _ _ c]; exact h.1 g hg
  · rw [gG_n _ _ (by omega), gG_n _ _ (by omega), gG_n _ _ (by omega)]
    exact h.2.2.1
  · rw [gG_n _ _ (by omega)]; exact h.2.2.2.1
  · by_cases c : t = s
    · rw [c, gG_s]; exact e0
    · rw [gG_n _ _ (by omega)]; exact h.2.2.2.2 t ht
theorem Rel.tell (h : Rel k x y) (i : Nat) : Rel (k + 1) (tellX x i) (tellX y i) := by
  show Rel (k + 1) (upG x 3 (up2 (x 3) 0 i (x 3 0 i + 1))) (upG y 3 (up2 (y 3) 0 i (y 3 0 i + 1)))
  exact h.id.go3 (by rw [h.f]) (by rw [up2_n _ _ _ (by decide)])
theorem Rel.opt (h : Rel k x y) {o o' : Option Nat} (e : o = o') : Rel (k + 1) (optX x o) (optX y o') := by
  subst e
  cases o with
  | none => exact h.tell 3
  | some v => exact h.id
/-- the shares: what else differs is of no account -/
theorem Rel.sh (h : Rel k x y) {x1 y1 : Q3} (hx : ShC x1 x) (hy : ShM y1 y) : Rel k x1 y1 := by
  have gx : ∀ g, g ≠ 2 → g ≠ 6 → x1 g = x g := hx
  have gy : ∀ g, g ≠ 2 → g ≠ 5 → g ≠ 6 → y1 g = y g := hy
  refine ⟨fun g hg => ?_, by rw [gx 0 (by decide) (by decide)]; exact h.2.1, ?_, ?_, fun s hs => ?_⟩
  · have c2 : g ≠ 2 := by rcases hg with z | z | z | z <;> omega
    have c5 : g ≠ 5 := by rcases hg with z | z | z | z <;> omega
    have c6 : g ≠ 6 := by rcases hg with z | z | z | z <;> omega
    rw [gx g c2 c6, gy g c2 c5 c6]; exact h.1 g hg
  · rw [gx 3 (by decide) (by decide), gx 1 (by decide) (by decide), gy 1 (by decide) (by decide) (by decide)]; exact h.2.2.1
  · rw [gx 7 (by decide) (by decide)]; exact h.2.2.2.1
  · rw [gx (8 + s) (by omega) (by omega)]; exact h.2.2.2.2 s hs
end RL
/-- one call on both sides: the same answer, and tied again -/
def PairI (l : Launch) (G : GB) (a b : Nat → Nat) (yc : MethodName) (cc : ByteArray) (mc : Nat) (ym : MethodName) (cm : ByteArray) (mm : Nat) (As : List Value) (k : Nat) (x y : Q3) : Prop :=
  ∃ (R : Int32) (x' y' : Q3) (f1 l1 f2 l2 : Nat), (f1 ≤ 11 ∧ l1 ≤ 400 ∧ f2 ≤ 11 ∧ l2 ≤ 400) ∧ CI l yc cc mc .int f1 l1 G (.ref (a 0) :: As) (wC G a x) (fun vR w' => vR = R ∧ PubC G a x' w') ∧ CI l ym cm mm .int f2 l2 G (.ref (b 0) :: As) (wM G b y) (fun vR w' => vR = R ∧ PubM G b y' w') ∧ Rel (k + 1) x' y'
def PairL (l : Launch) (G : GB) (a b : Nat → Nat) (yc : MethodName) (cc : ByteArray) (mc : Nat) (ym : MethodName) (cm : ByteArray) (mm : Nat) (As : List Value) (k : Nat) (x y : Q3) : Prop :=
  ∃ (R : Int64) (x' y' : Q3) (f1 l1 f2 l2 : Nat), (f1 ≤ 11 ∧ l1 ≤ 400 ∧ f2 ≤ 11 ∧ l2 ≤ 400) ∧ CL l yc cc mc f1 l1 G (.ref (a 0) :: As) (wC G a x) (fun vR w' => vR = R ∧ PubC G a x' w') ∧ CL l ym cm mm f2 l2 G (.ref (b 0) :: As) (wM G b y) (fun vR w' => vR = R ∧ PubM G b y' w') ∧ Rel (k + 1) x' y'
theorem PairI.mk {l : Launch} {G : GB} {a b : Nat → Nat} {yc : MethodName} {cc : ByteArray} {mc : Nat} {ym : MethodName} {cm : ByteArray} {mm : Nat} {As : List Value} {k : Nat} {x y x' y' : Q3} {R R' : Int32} {f1 l1 f2 l2 : Nat} (hC : CI l yc cc mc .int f1 l1 G (.ref (a 0) :: As) (wC G a x) (fun vR w' => vR = R ∧ PubC G a x' w')) (hM : CI l ym cm mm .int f2 l2 G (.ref (b 0) :: As) (wM G b y) (fun vR w' => vR = R' ∧ PubM G b y' w')) (hr : f1 ≤ 11 ∧ l1 ≤ 400 ∧ f2 ≤ 11 ∧ l2 ≤ 400) (e : R = R') (r : Rel (k + 1) x' y') : PairI l G a b yc cc mc ym cm mm As k x y := by
  subst e
  exact ⟨R, x', y', f1, l1, f2, l2, hr, hC, hM, r⟩
theorem PairL.mk {l : Launch} {G : GB} {a b : Nat → Nat} {yc : MethodName} {cc : ByteArray} {mc : Nat} {ym : MethodName} {cm : ByteArray} {mm : Nat} {As : List Value} {k : Nat} {x y x' y' : Q3} {R R' : Int64} {f1 l1 f2 l2 : Nat} (hC : CL l yc cc mc f1 l1 G (.ref (a 0) :: As) (wC G a x) (fun vR w' => vR = R ∧ PubC G a x' w')) (hM : CL l ym cm mm f2 l2 G (.ref (b 0) :: As) (wM G b y) (fun vR w' => vR = R' ∧ PubM G b y' w')) (hr : f1 ≤ 11 ∧ l1 ≤ 400 ∧ f2 ≤ 11 ∧ l2 ≤ 400) (e : R = R') (r : Rel (k + 1) x' y') : PairL l G a b yc cc mc ym cm mm As k x y := by
  subst e
  exact ⟨R, x', y', f1, l1, f2, l2, hr, hC, hM, r⟩
