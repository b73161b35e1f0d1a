section JC
variable {X : JX} {l : Launch} {G : GB} {cc : ByteArray} {own : String} {nL fr lo kc ks pc : Nat} {ws : va_W} {lv : List (Nat × Value)} {st : List Value}
theorem J_cVi1 (E : JE X l G cc own nL fr lo) {y : MethodName} {bc : ByteArray} {mL fr' lo' idx na : Nat} {rt : FieldType} {R : Int32} {C : String} {T : u_T} {N ci : Nat} {b : Nat} {fs : List Value} {As rest : List Value} {wc W' : va_W} (w1 w2 : va_W) (hc : CI l y bc mL rt fr' lo' G (.ref b :: As) wc (fun v w' => v = R ∧ w' = W')) (hg : GoodIn lw_T (wsV own idx C y (WS y bc mL (some rt)))) (hy : y.cls = C ∧ y.cls ≠ "java/lang/invoke/MethodHandle" ∧ y.cls ≠ "java/lang/invoke/VarHandle" ∧ (parseMethodDescriptor y.desc).map (fun d => d.parameters.length) = some na) (hd : decode cc pc = .ok (.invokevirtual idx, 3)) (hq : wc[0]? = some (b, .inr (ci, fs))) (hcl : vwCl[ci]? = some (C, T, N)) (hn : As.length = na) (hR1 : fr' + 1 ≤ fr) (hR2 : 8 + (mL + 11) + lo' ≤ lo) (hst : st = As.reverse ++ .ref b :: rest) (hrm : (rest.map fun v => v.category).sum ≤ 8) (hw : ws = w1 ++ (wc ++ w2)) (hk : kc ≤ X.1.2.2.2.1.cells ∧ ks ≤ X.1.2.2.2.1.slots) (K : J X G nL kc ks (w1 ++ (W' ++ w2)) lv (pc + 3) (.int R :: rest)) : J X G nL kc ks ws lv pc st := J_callVi E w1 w2 hc hg hy hd hcl hq hn hR1 hR2 hst hrm hw hk (fun r w' h => by obtain ⟨rfl, rfl⟩ := h; exact K)
theorem J_cVi0 (E : JE X l G cc own nL fr lo) {y : MethodName} {bc : ByteArray} {mL fr' lo' idx na : Nat} {rt : FieldType} {R : Int32} {C : String} {T : u_T} {N ci : Nat} {b : Nat} {fs : List Value} {As rest : List Value} {wc W' : va_W} (hc : CI l y bc mL rt fr' lo' G (.ref b :: As) wc (fun v w' => v = R ∧ w' = W')) (hg : GoodIn lw_T (wsV own idx C y (WS y bc mL (some rt)))) (hy : y.cls = C ∧ y.cls ≠ "java/lang/invoke/MethodHandle" ∧ y.cls ≠ "java/lang/invoke/VarHandle" ∧ (parseMethodDescriptor y.desc).map (fun d => d.parameters.length) = some na) (hd : decode cc pc = .ok (.invokevirtual idx, 3)) (hq : wc[0]? = some (b, .inr (ci, fs))) (hcl : vwCl[ci]? = some (C, T, N)) (hn : As.length = na) (hR1 : fr' + 1 ≤ fr) (hR2 : 8 + (mL + 11) + lo' ≤ lo) (hst : st = As.reverse ++ .ref b :: rest) (hrm : (rest.map fun v => v.category).sum ≤ 8) (hk : kc ≤ X.1.2.2.2.1.cells ∧ ks ≤ X.1.2.2.2.1.slots) (K : J X G nL kc ks W' lv (pc + 3) (.int R :: rest)) : J X G nL kc ks wc lv pc st := J_callVi E [] [] hc hg hy hd hcl hq hn hR1 hR2 hst hrm (by simp) hk (fun r w' h => by obtain ⟨rfl, rfl⟩ := h; simpa using K)
theorem J_cSi1 (E : JE X l G cc own nL fr lo) {y : MethodName} {bc : ByteArray} {mL fr' lo' idx na : Nat} {rt : FieldType} {R : Int32} {As rest : List Value} {wc W' : va_W} (w1 w2 : va_W) (hc : CI l y bc mL rt fr' lo' G (As) wc (fun v w' => v = R ∧ w' = W')) (hg : GoodIn lw_T (va_wsS own idx y (WS y bc mL (some rt)))) (hy : y.cls ≠ "java/lang/invoke/MethodHandle" ∧ y.cls ≠ "java/lang/invoke/VarHandle" ∧ (parseMethodDescriptor y.desc).map (fun d => d.parameters.length) = some na) (hd : decode cc pc = .ok (.invokestatic idx, 3)) (hn : As.length = na) (hR1 : fr' + 1 ≤ fr) (hR2 : 8 + (mL + 11) + lo' ≤ lo) (hst : st = As.reverse ++ rest) (hrm : (rest.map fun v => v.category).sum ≤ 8) (hw : ws = w1 ++ (wc ++ w2)) (hk : kc ≤ X.1.2.2.2.1.cells ∧ ks ≤ X.1.2.2.2.1.slots) (K : J X G nL kc ks (w1 ++ (W' ++ w2)) lv (pc + 3) (.int R :: rest)) : J X G nL kc ks ws lv pc st := J_callSi E w1 w2 hc hg hy hd hn hR1 hR2 hst hrm hw hk (fun r w' h => by obtain ⟨rfl, rfl⟩ := h; exact K)
theorem J_cSi0 (E : JE X l G cc own nL fr lo) {y : MethodName} {bc : ByteArray} {mL fr' lo' idx na : Nat} {rt : FieldType} {R : Int32} {As rest : List Value} {wc W' : va_W} (hc : CI l y bc mL rt fr' lo' G (As) wc (fun v w' => v = R ∧ w' = W')) (hg : GoodIn lw_T (va_wsS own idx y (WS y bc mL (some rt)))) (hy : y.cls ≠ "java/lang/invoke/MethodHandle" ∧ y.cls ≠ "java/lang/invoke/VarHandle" ∧ (parseMethodDescriptor y.desc).map (fun d => d.parameters.length) = some na) (hd : decode cc pc = .ok (.invokestatic idx, 3)) (hn : As.length = na) (hR1 : fr' + 1 ≤ fr) (hR2 : 8 + (mL + 11) + lo' ≤ lo) (hst : st = As.reverse ++ rest) (hrm : (rest.map fun v => v.category).sum ≤ 8) (hk : kc ≤ X.1.2.2.2.1.cells ∧ ks ≤ X.1.2.2.2.1.slots) (K : J X G nL kc ks W' lv (pc + 3) (.int R :: rest)) : J X G nL kc ks wc lv pc st := J_callSi E [] [] hc hg hy hd hn hR1 hR2 hst hrm (by simp) hk (fun r w' h => by obtain ⟨rfl, rfl⟩ := h; simpa using K)
theorem J_cSiN (E : JE X l G cc own nL fr lo) {y : MethodName} {bc : ByteArray} {mL fr' lo' idx na : Nat} {rt : FieldType} {R : Int32} {As rest : List Value} (hc : CI l y bc mL rt fr' lo' G (As) [] (fun v w' => v = R ∧ w' = [])) (hg : GoodIn lw_T (va_wsS own idx y (WS y bc mL (some rt)))) (hy : y.cls ≠ "java/lang/invoke/MethodHandle" ∧ y.cls ≠ "java/lang/invoke/VarHandle" ∧ (parseMethodDescriptor y.desc).map (fun d => d.parameters.length) = some na) (hd : decode cc pc = .ok (.invokestatic idx, 3)) (hn : As.length = na) (hR1 : fr' + 1 ≤ fr) (hR2 : 8 + (mL + 11) + lo' ≤ lo) (hst : st = As.reverse ++ rest) (hrm : (rest.map fun v => v.category).sum ≤ 8) (hk : kc ≤ X.1.2.2.2.1.cells ∧ ks ≤ X.1.2.2.2.1.slots) (K : J X G nL kc ks ws lv (pc + 3) (.int R :: rest)) : J X G nL kc ks ws lv pc st := J_callSi E [] ws hc hg hy hd hn hR1 hR2 hst hrm (by simp) hk (fun r w' h => by obtain ⟨rfl, rfl⟩ := h; simpa using K)
theorem J_cVl1 (E : JE X l G cc own nL fr lo) {y : MethodName} {bc : ByteArray} {mL fr' lo' idx na : Nat} {R : Int64} {C : String} {T : u_T} {N ci : Nat} {b : Nat} {fs : List Value} {As rest : List Value} {wc W' : va_W} (w1 w2 : va_W) (hc : CL l y bc mL fr' lo' G (.ref b :: As) wc (fun v w' => v = R ∧ w' = W')) (hg : GoodIn lw_T (wsV own idx C y (WS y bc mL (some .long)))) (hy : y.cls = C ∧ y.cls ≠ "java/lang/invoke/MethodHandle" ∧ y.cls ≠ "java/lang/invoke/VarHandle" ∧ (parseMethodDescriptor y.desc).map (fun d => d.parameters.length) = some na) (hd : decode cc pc = .ok (.invokevirtual idx, 3)) (hq : wc[0]? = some (b, .inr (ci, fs))) (hcl : vwCl[ci]? = some (C, T, N)) (hn : As.length = na) (hR1 : fr' + 1 ≤ fr) (hR2 : 8 + (mL + 11) + lo' ≤ lo) (hst : st = As.reverse ++ .ref b :: rest) (hrm : (rest.map fun v => v.category).sum ≤ 8) (hw : ws = w1 ++ (wc ++ w2)) (hk : kc ≤ X.1.2.2.2.1.cells ∧ ks ≤ X.1.2.2.2.1.slots) (K : J X G nL kc ks (w1 ++ (W' ++ w2)) lv (pc + 3) (.long R :: rest)) : J X G nL kc ks ws lv pc st := J_callVl E w1 w2 hc hg hy hd hcl hq hn hR1 hR2 hst hrm hw hk (fun r w' h => by obtain ⟨rfl, rfl⟩ := h; exact K)
theorem J_cVl0 (E : JE X l G cc own nL fr lo) {y : MethodName} {bc : ByteArray} {mL fr' lo' idx na : Nat} {R : Int64} {C : String} {T : u_T} {N ci : Nat} {b : Nat} {fs : List Value} {As rest : List Value} {wc W' : va_W} (hc : CL l y bc mL fr' lo' G (.ref b :: As) wc (fun v w' => v = R ∧ w' = W')) (hg : GoodIn lw_T (wsV own idx C y (WS y bc mL (some .long)))) (hy : y.cls = C ∧ y.cls ≠ "java/lang/invoke/MethodHandle" ∧ y.cls ≠ "java/lang/invoke/VarHandle" ∧ (parseMethodDescriptor y.desc).map (fun d => d.parameters.length) = some na) (hd : decode cc pc = .ok (.invokevirtual idx, 3)) (hq : wc[0]? = some (b, .inr (ci, fs))) (hcl : vwCl[ci]? = some (C, T, N)) (hn : As.length = na) (hR1 : fr' + 1 ≤ fr) (hR2 : 8 + (mL + 11) + lo' ≤ lo) (hst : st = As.reverse ++ .ref b :: rest) (hrm : (rest.map fun v => v.category).sum ≤ 8) (hk : kc ≤ X.1.2.2.2.1.cells ∧ ks ≤ X.1.2.2.2.1.slots) (K : J X G nL kc ks W' lv (pc + 3) (.long R :: rest)) : J X G nL kc ks wc lv pc st := J_callVl E [] [] hc hg hy hd hcl hq hn hR1 hR2 hst hrm (by simp) hk (fun r w' h => by obtain ⟨rfl, rfl⟩ := h; simpa using K)
theorem J_cSl1 (E : JE X l G cc own nL fr lo) {y : MethodName} {bc : ByteArray} {mL fr' lo' idx na : Nat} {R : Int64} {As rest : List Value} {wc W' : va_W} (w1 w2 : va_W) (hc : CL l y bc mL fr' lo' G (As) wc (fun v w' => v = R ∧ w' = W')) (hg : GoodIn lw_T (va_wsS own idx y (WS y bc mL (some .long)))) (hy : y.cls ≠ "java/lang/invoke/MethodHandle" ∧ y.cls ≠ "java/lang/invoke/VarHandle" ∧ (parseMethodDescriptor y.desc).map (fun d => d.parameters.length) = some na) (hd : decode cc pc = .ok (.invokestatic idx, 3)) (hn : As.length = na) (hR1 : fr' + 1 ≤ fr) (hR2 : 8 + (mL + 11) + lo' ≤ lo) (hst : st = As.reverse ++ rest) (hrm : (rest.map fun v => v.category).sum ≤ 8) (hw : ws = w1 ++ (wc ++ w2)) (hk : kc ≤ X.1.2.2.2.1.cells ∧ ks ≤ X.1.2.2.2.1.slots) (K : J X G nL kc ks (w1 ++ (W' ++ w2)) lv (pc + 3) (.long R :: rest)) : J X G nL kc ks ws lv pc st := J_callSl E w1 w2 hc hg hy hd hn hR1 hR2 hst hrm hw hk (fun r w' h => by obtain ⟨rfl, rfl⟩ := h; exact K)
theorem J_cSl0 (E : JE X l G cc own nL fr lo) {y : MethodName} {bc : ByteArray} {mL fr' lo' idx na : Nat} {R : Int64} {As rest : List Value} {wc W' : va_W} (hc : CL l y bc mL fr' lo' G (As) wc (fun v w' => v = R ∧ w' = W')) (hg : GoodIn lw_T (va_wsS own idx y (WS y bc mL (some .long)))) (hy : y.cls ≠ "java/lang/invoke/MethodHandle" ∧ y.cls ≠ "java/lang/invoke/VarHandle" ∧ (parseMethodDescriptor y.desc).map (fun d => d.parameters.length) = some na) (hd : decode cc pc = .ok (.invokestatic idx, 3)) (hn : As.length = na) (hR1 : fr' + 1 ≤ fr) (hR2 : 8 + (mL + 11) + lo' ≤ lo) (hst : st = As.reverse ++ rest) (hrm : (rest.map fun v => v.category).sum ≤ 8) (hk : kc ≤ X.1.2.2.2.1.cells ∧ ks ≤ X.1.2.2.2.1.slots) (K : J X G nL kc ks W' lv (pc + 3) (.long R :: rest)) : J X G nL kc ks wc lv pc st := J_callSl E [] [] hc hg hy hd hn hR1 hR2 hst hrm (by simp) hk (fun r w' h => by obtain ⟨rfl, rfl⟩ := h; simpa using K)
theorem J_cSlN (E : JE X l G cc own nL fr lo) {y : MethodName} {bc : ByteArray} {mL fr' lo' idx na : Nat} {R : Int64} {As rest : List Value} (hc : CL l y bc mL fr' lo' G (As) [] (fun v w' => v = R ∧ w' = [])) (hg : GoodIn lw_T (va_wsS own idx y (WS y bc mL (some .long)))) (hy : y.cls ≠ "java/lang/invoke/MethodHandle" ∧ y.cls ≠ "java/lang/invoke/VarHandle" ∧ (parseMethodDescriptor y.desc).map (fun d => d.parameters.length) = some na) (hd : decode cc pc = .ok (.invokestatic idx, 3)) (hn : As.length = na) (hR1 : fr' + 1 ≤ fr) (hR2 : 8 + (mL + 11) + lo' ≤ lo) (hst : st = As.reverse ++ rest) (hrm : (rest.map fun v => v.category).sum ≤ 8) (hk : kc ≤ X.1.2.2.2.1.cells ∧ ks ≤ X.1.2.2.2.1.slots) (K : J X G nL kc ks ws lv (pc + 3) (.long R :: rest)) : J X G nL kc ks ws lv pc st := J_callSl E [] ws hc hg hy hd hn hR1 hR2 hst hrm (by simp) hk (fun r w' h => by obtain ⟨rfl, rfl⟩ := h; simpa using K)
theorem J_cVv1 (E : JE X l G cc own nL fr lo) {y : MethodName} {bc : ByteArray} {mL fr' lo' mc ms idx na : Nat} {C : String} {T : u_T} {N ci : Nat} {b : Nat} {fs : List Value} {As rest : List Value} {wc W' : va_W} (w1 w2 : va_W) (hc : CV l y bc mL fr' lo' mc ms G (.ref b :: As) wc (fun w' => w' = W')) (hg : GoodIn lw_T (wsV own idx C y (WS y bc mL (none)))) (hy : y.cls = C ∧ y.cls ≠ "java/lang/invoke/MethodHandle" ∧ y.cls ≠ "java/lang/invoke/VarHandle" ∧ (parseMethodDescriptor y.desc).map (fun d => d.parameters.length) = some na) (hd : decode cc pc = .ok (.invokevirtual idx, 3)) (hq : wc[0]? = some (b, .inr (ci, fs))) (hcl : vwCl[ci]? = some (C, T, N)) (hn : As.length = na) (hR1 : fr' + 1 ≤ fr) (hR2 : 8 + (mL + 11) + lo' ≤ lo) (hst : st = As.reverse ++ .ref b :: rest) (hrm : (rest.map fun v => v.category).sum ≤ 8) (hw : ws = w1 ++ (wc ++ w2)) (hk : kc + mc ≤ X.1.2.2.2.1.cells ∧ ks + ms ≤ X.1.2.2.2.1.slots) (K : J X G nL (kc + mc) (ks + ms) (w1 ++ (W' ++ w2)) lv (pc + 3) (rest)) : J X G nL kc ks ws lv pc st := J_callVv E w1 w2 hc hg hy hd hcl hq hn hR1 hR2 hst hrm hw hk (fun w' h => by subst h; exact K)
theorem J_cVv0 (E : JE X l G cc own nL fr lo) {y : MethodName} {bc : ByteArray} {mL fr' lo' mc ms idx na : Nat} {C : String} {T : u_T} {N ci : Nat} {b : Nat} {fs : List Value} {As rest : List Value} {wc W' : va_W} (hc : CV l y bc mL fr' lo' mc ms G (.ref b :: As) wc (fun w' => w' = W')) (hg : GoodIn lw_T (wsV own idx C y (WS y bc mL (none)))) (hy : y.cls = C ∧ y.cls ≠ "java/lang/invoke/MethodHandle" ∧ y.cls ≠ "java/lang/invoke/VarHandle" ∧ (parseMethodDescriptor y.desc).map (fun d => d.parameters.length) = some na) (hd : decode cc pc = .ok (.invokevirtual idx, 3)) (hq : wc[0]? = some (b, .inr (ci, fs))) (hcl : vwCl[ci]? = some (C, T, N)) (hn : As.length = na) (hR1 : fr' + 1 ≤ fr) (hR2 : 8 + (mL + 11) + lo' ≤ lo) (hst : st = As.reverse ++ .ref b :: rest) (hrm : (rest.map fun v => v.category).sum ≤ 8) (hk : kc + mc ≤ X.1.2.2.2.1.cells ∧ ks + ms ≤ X.1.2.2.2.1.slots) (K : J X G nL (kc + mc) (ks + ms) W' lv (pc + 3) (rest)) : J X G nL kc ks wc lv pc st := J_callVv E [] [] hc hg hy hd hcl hq hn hR1 hR2 hst hrm (by simp) hk (fun w' h => by subst h; simpa using K)
theorem J_cSv1 (E : JE X l G cc own nL fr lo) {y : MethodName} {bc : ByteArray} {mL fr' lo' mc ms idx na : Nat} {As rest : List Value} {wc W' : va_W} (w1 w2 : va_W) (hc : CV l y bc mL fr' lo' mc ms G (As) wc (fun w' => w' = W')) (hg : GoodIn lw_T (va_wsS own idx y (WS y bc mL (none)))) (hy : y.cls ≠ "java/lang/invoke/MethodHandle" ∧ y.cls ≠ "java/lang/invoke/VarHandle" ∧ (parseMethodDescriptor y.desc).map (fun d => d.parameters.length) = some na) (hd : decode cc pc = .ok (.invokestatic idx, 3)) (hn : As.length = na) (hR1 : fr' + 1 ≤ fr) (hR2 : 8 + (mL + 11) + lo' ≤ lo) (hst : st = As.reverse ++ rest) (hrm : (rest.map fun v => v.category).sum ≤ 8) (hw : ws = w1 ++ (wc ++ w2)) (hk : kc + mc ≤ X.1.2.2.2.1.cells ∧ ks + ms ≤ X.1.2.2.2.1.slots) (K : J X G nL (kc + mc) (ks + ms) (w1 ++ (W' ++ w2)) lv (pc + 3) (rest)) : J X G nL kc ks ws lv pc st := J_callSv E w1 w2 hc hg hy hd hn hR1 hR2 hst hrm hw hk (fun w' h => by subst h; exact K)
theorem J_cSv0 (E : JE X l G cc own nL fr lo) {y : MethodName} {bc : ByteArray} {mL fr' lo' mc ms idx na : Nat} {As rest : List Value} {wc W' : va_W} (hc : CV l y bc mL fr' lo' mc ms G (As) wc (fun w' => w' = W')) (hg : GoodIn lw_T (va_wsS own idx y (WS y bc mL (none)))) (hy : y.cls ≠ "java/lang/invoke/MethodHandle" ∧ y.cls ≠ "java/lang/invoke/VarHandle" ∧ (parseMethodDescriptor y.desc).map (fun d => d.parameters.length) = some na) (hd : decode cc pc = .ok (.invokestatic idx, 3)) (hn : As.length = na) (hR1 : fr' + 1 ≤ fr) (hR2 : 8 + (mL + 11) + lo' ≤ lo) (hst : st = As.reverse ++ rest) (hrm : (rest.map fun v => v.category).sum ≤ 8) (hk : kc + mc ≤ X.1.2.2.2.1.cells ∧ ks + ms ≤ X.1.2.2.2.1.slots) (K : J X G nL (kc + mc) (ks + ms) W' lv (pc + 3) (rest)) : J X G nL kc ks wc lv pc st := J_callSv E [] [] hc hg hy hd hn hR1 hR2 hst hrm (by simp) hk (fun w' h => by subst h; simpa using K)
theorem J_cSvN (E : JE X l G cc own nL fr lo) {y : MethodName} {bc : ByteArray} {mL fr' lo' mc ms idx na : Nat} {As rest : List Value} (hc : CV l y bc mL fr' lo' mc ms G (As) [] (fun w' => w' = [])) (hg : GoodIn lw_T (va_wsS own idx y (WS y bc mL (none)))) (hy : y.cls ≠ "java/lang/invoke/MethodHandle" ∧ y.cls ≠ "java/lang/invoke/VarHandle" ∧ (parseMethodDescriptor y.desc).map (fun d => d.parameters.length) = some na) (hd : decode cc pc = .ok (.invokestatic idx, 3)) (hn : As.length = na) (hR1 : fr' + 1 ≤ fr) (hR2 : 8 + (mL + 11) + lo' ≤ lo) (hst : st = As.reverse ++ rest) (hrm : (rest.map fun v => v.category).sum ≤ 8) (hk : kc + mc ≤ X.1.2.2.2.1.cells ∧ ks + ms ≤ X.1.2.2.2.1.slots) (K : J X G nL (kc + mc) (ks + ms) ws lv (pc + 3) (rest)) : J X G nL kc ks ws lv pc st := J_callSv E [] ws hc hg hy hd hn hR1 hR2 hst hrm (by simp) hk (fun w' h => by subst h; simpa using K)
theorem J_cVr1 (E : JE X l G cc own nL fr lo) {y : MethodName} {bc : ByteArray} {mL fr' lo' idx na : Nat} {rt : FieldType} {R : Nat} {C : String} {T : u_T} {N ci : Nat} {b : Nat} {fs : List Value} {As rest : List Value} {wc W' : va_W} (w1 w2 : va_W) (hc : CR l y bc mL rt fr' lo' G (.ref b :: As) wc (fun v w' => v = R ∧ w' = W')) (hg : GoodIn lw_T (wsV own idx C y (WS y bc mL (some rt)))) (hy : y.cls = C ∧ y.cls ≠ "java/lang/invoke/MethodHandle" ∧ y.cls ≠ "java/lang/invoke/VarHandle" ∧ (parseMethodDescriptor y.desc).map (fun d => d.parameters.length) = some na) (hd : decode cc pc = .ok (.invokevirtual idx, 3)) (hq : wc[0]? = some (b, .inr (ci, fs))) (hcl : vwCl[ci]? = some (C, T, N)) (hn : As.length = na) (hR1 : fr' + 1 ≤ fr) (hR2 : 8 + (mL + 11) + lo' ≤ lo) (hst : st = As.reverse ++ .ref b :: rest) (hrm : (rest.map fun v => v.category).sum ≤ 8) (hw : ws = w1 ++ (wc ++ w2)) (hk : kc ≤ X.1.2.2.2.1.cells ∧ ks ≤ X.1.2.2.2.1.slots) (K : J X G nL kc ks (w1 ++ (W' ++ w2)) lv (pc + 3) (.ref R :: rest)) : J X G nL kc ks ws lv pc st := J_callVr E w1 w2 hc hg hy hd hcl hq hn hR1 hR2 hst hrm hw hk (fun r w' h => by obtain ⟨rfl, rfl⟩ := h; exact K)
theorem J_cVr0 (E : JE X l G cc own nL fr lo) {y : MethodName} {bc : ByteArray} {mL fr' lo' idx na : Nat} {rt : FieldType} {R : Nat} {C : String} {T : u_T} {N ci : Nat} {b : Nat} {fs : List Value} {As rest : List Value} {wc W' : va_W} (hc : CR l y bc mL rt fr' lo' G (.ref b :: As) wc (fun v w' => v = R ∧ w' = W')) (hg : GoodIn lw_T (wsV own idx C y (WS y bc mL (some rt)))) (hy : y.cls = C ∧ y.cls ≠ "java/lang/invoke/MethodHandle" ∧ y.cls ≠ "java/lang/invoke/VarHandle" ∧ (parseMethodDescriptor y.desc).map (fun d => d.parameters.length) = some na) (hd : decode cc pc = .ok (.invokevirtual idx, 3)) (hq : wc[0]? = some (b, .inr (ci, fs))) (hcl : vwCl[ci]? = some (C, T, N)) (hn : As.length = na) (hR1 : fr' + 1 ≤ fr) (hR2 : 8 + (mL + 11) + lo' ≤ lo) (hst : st = As.reverse ++ .ref b :: rest) (hrm : (rest.map fun v => v.category).sum ≤ 8) (hk : kc ≤ X.1.2.2.2.1.cells ∧ ks ≤ X.1.2.2.2.1.slots) (K : J X G nL kc ks W' lv (pc + 3) (.ref R :: rest)) : J X G nL kc ks wc lv pc st := J_callVr E [] [] hc hg hy hd hcl hq hn hR1 hR2 hst hrm (by simp) hk (fun r w' h => by obtain ⟨rfl, rfl⟩ := h; simpa using K)
theorem J_cSr1 (E : JE X l G cc own nL fr lo) {y : MethodName} {bc : ByteArray} {mL fr' lo' idx na : Nat} {rt : FieldType} {R : Nat} {As rest : List Value} {wc W' : va_W} (w1 w2 : va_W) (hc : CR l y bc mL rt fr' lo' G (As) wc (fun v w' => v = R ∧ w' = W')) (hg : GoodIn lw_T (va_wsS own idx y (WS y bc mL (some rt)))) (hy : y.cls ≠ "java/lang/invoke/MethodHandle" ∧ y.cls ≠ "java/lang/invoke/VarHandle" ∧ (parseMethodDescriptor y.desc).map (fun d => d.parameters.length) = some na) (hd : decode cc pc = .ok (.invokestatic idx, 3)) (hn : As.length = na) (hR1 : fr' + 1 ≤ fr) (hR2 : 8 + (mL + 11) + lo' ≤ lo) (hst : st = As.reverse ++ rest) (hrm : (rest.map fun v => v.category).sum ≤ 8) (hw : ws = w1 ++ (wc ++ w2)) (hk : kc ≤ X.1.2.2.2.1.cells ∧ ks ≤ X.1.2.2.2.1.slots) (K : J X G nL kc ks (w1 ++ (W' ++ w2)) lv (pc + 3) (.ref R :: rest)) : J X G nL kc ks ws lv pc st := J_callSr E w1 w2 hc hg hy hd hn hR1 hR2 hst hrm hw hk (fun r w' h => by obtain ⟨rfl, rfl⟩ := h; exact K)
theorem J_cSr0 (E : JE X l G cc own nL fr lo) {y : MethodName} {bc : ByteArray} {mL fr' lo' idx na : Nat} {rt : FieldType} {R : Nat} {As rest : List Value} {wc W' : va_W} (hc : CR l y bc mL rt fr' lo' G (As) wc (fun v w' => v = R ∧ w' = W')) (hg : GoodIn lw_T (va_wsS own idx y (WS y bc mL (some rt)))) (hy : y.cls ≠ "java/lang/invoke/MethodHandle" ∧ y.cls ≠ "java/lang/invoke/VarHandle" ∧ (parseMethodDescriptor y.desc).map (fun d => d.parameters.length) = some na) (hd : decode cc pc = .ok (.invokestatic idx, 3)) (hn : As.length = na) (hR1 : fr' + 1 ≤ fr) (hR2 : 8 + (mL + 11) + lo' ≤ lo) (hst : st = As.reverse ++ rest) (hrm : (rest.map fun v => v.category).sum ≤ 8) (hk : kc ≤ X.1.2.2.2.1.cells ∧ ks ≤ X.1.2.2.2.1.slots) (K : J X G nL kc ks W' lv (pc + 3) (.ref R :: rest)) : J X G nL kc ks wc lv pc st := J_callSr E [] [] hc hg hy hd hn hR1 hR2 hst hrm (by simp) hk (fun r w' h => by obtain ⟨rfl, rfl⟩ := h; simpa using K)
theorem J_cSrN (E : JE X l G cc own nL fr lo) {y : MethodName} {bc : ByteArray} {mL fr' lo' idx na : Nat} {rt : FieldType} {R : Nat} {As rest : List Value} (hc : CR l y bc mL rt fr' lo' G (As) [] (fun v w' => v = R ∧ w' = [])) (hg : GoodIn lw_T (va_wsS own idx y (WS y bc mL (some rt)))) (hy : y.cls ≠ "java/lang/invoke/MethodHandle" ∧ y.cls ≠ "java/lang/invoke/VarHandle" ∧ (parseMethodDescriptor y.desc).map (fun d => d.parameters.length) = some na) (hd : decode cc pc = .ok (.invokestatic idx, 3)) (hn : As.length = na) (hR1 : fr' + 1 ≤ fr) (hR2 : 8 + (mL + 11) + lo' ≤ lo) (hst : st = As.reverse ++ rest) (hrm : (rest.map fun v => v.category).sum ≤ 8) (hk : kc ≤ X.1.2.2.2.1.cells ∧ ks ≤ X.1.2.2.2.1.slots) (K : J X G nL kc ks ws lv (pc + 3) (.ref R :: rest)) : J X G nL kc ks ws lv pc st := J_callSr E [] ws hc hg hy hd hn hR1 hR2 hst hrm (by simp) hk (fun r w' h => by obtain ⟨rfl, rfl⟩ := h; simpa using K)
theorem J_copyAll (E : JE X l G cc own nL fr lo) {idx a a0 m : Nat} {f g : Nat → Int32} (q0 q1 : Nat) (hl1 : Cond.methodLink own idx arraycopyName ∈ lw_T) (hl2 : Cond.native arraycopyName ∈ lw_T) (hl3 : Cond.static arraycopyName ∈ lw_T) (hl4 : Cond.initialized "java/lang/System" ∈ lw_T) (hd : decode cc pc = .ok (.invokestatic idx, 3)) (ha0 : ws[q0]? = some (a0, .inl (G.2.1, m, .inl f))) (ha1 : ws[q1]? = some (a, .inl (G.2.1, m, .inl g))) (hm : m < 2 ^ 31) (hR1 : 1 ≤ fr) (hR2 : (st.map fun v => v.category).sum + (nativeFrameWords "java/lang/System" "arraycopy" 5 + 11) ≤ lo) (K : J X G nL kc ks (ws.set q1 (a, .inl (G.2.1, m, .inl f))) lv (pc + 3) st) : J X G nL kc ks ws lv pc (.int (nI m) :: .int 0 :: .ref a :: .int 0 :: .ref a0 :: st) := by
  have e0 : (0 : Int32).toNatClampNeg = 0 := by decide
  refine J_copyi E q0 q1 hl1 hl2 hl3 hl4 hd ha0 ha1 (by decide) (by decide) (nI_pos hm) (by rw [e0, nI_clamp hm]; omega) (by rw [e0, nI_clamp hm]; omega) hR1 hR2 ?_
  have hq : q1 < ws.length := (List.getElem?_eq_some_iff.mp ha1).1
  refine J_arr q1 (List.getElem?_set_self hq) (g := f) (fun j hj => ?_) ?_
  · rw [e0, nI_clamp hm, pk_cpy_in (Nat.zero_le _) (by omega)]
    simp
  · rw [List.set_set]
    exact K
end JC
theorem ic_m1 : Int32.ofInt (-1) = (-1) := by decide
theorem ic_0 : Int32.ofInt 0 = 0 := by decide
theorem ic_1 : Int32.ofInt 1 = 1 := by decide
theorem ic_2 : Int32.ofInt 2 = 2 := by decide
theorem ic_3 : Int32.ofInt 3 = 3 := by decide
theorem ic_4 : Int32.ofInt 4 = 4 := by decide
theorem ic_5 : Int32.ofInt 5 = 5 := by decide
theorem bp_10 : (Int8.ofInt 10).toInt32 = 10 := by decide
theorem bp_100 : (Int8.ofInt 100).toInt32 = 100 := by decide
theorem bp_11 : (Int8.ofInt 11).toInt32 = 11 := by decide
theorem bp_12 : (Int8.ofInt 12).toInt32 = 12 := by decide
theorem bp_120 : (Int8.ofInt 120).toInt32 = 120 := by decide
theorem bp_122 : (Int8.ofInt 122).toInt32 = 122 := by decide
theorem bp_16 : (Int8.ofInt 16).toInt32 = 16 := by decide
theorem bp_20 : (Int8.ofInt 20).toInt32 = 20 := by decide
theorem bp_32 : (Int8.ofInt 32).toInt32 = 32 := by decide
theorem bp_40 : (Int8.ofInt 40).toInt32 = 40 := by decide
theorem bp_48 : (Int8.ofInt 48).toInt32 = 48 := by decide
theorem bp_57 : (Int8.ofInt 57).toInt32 = 57 := by decide
theorem bp_59 : (Int8.ofInt 59).toInt32 = 59 := by decide
theorem bp_6 : (Int8.ofInt 6).toInt32 = 6 := by decide
theorem bp_60 : (Int8.ofInt 60).toInt32 = 60 := by decide
theorem bp_63 : (Int8.ofInt 63).toInt32 = 63 := by decide
theorem bp_7 : (Int8.ofInt 7).toInt32 = 7 := by decide
theorem bp_71 : (Int8.ofInt 71).toInt32 = 71 := by decide
theorem bp_8 : (Int8.ofInt 8).toInt32 = 8 := by decide
theorem bp_81 : (Int8.ofInt 81).toInt32 = 81 := by decide
theorem bp_9 : (Int8.ofInt 9).toInt32 = 9 := by decide
theorem bp_97 : (Int8.ofInt 97).toInt32 = 97 := by decide
theorem bp_99 : (Int8.ofInt 99).toInt32 = 99 := by decide
theorem sp_10000 : (Int16.ofInt 10000).toInt32 = 10000 := by decide
theorem sp_12345 : (Int16.ofInt 12345).toInt32 = 12345 := by decide
theorem sp_160 : (Int16.ofInt 160).toInt32 = 160 := by decide
theorem sp_200 : (Int16.ofInt 200).toInt32 = 200 := by decide
theorem sp_2047 : (Int16.ofInt 2047).toInt32 = 2047 := by decide
theorem sp_255 : (Int16.ofInt 255).toInt32 = 255 := by decide
theorem sp_999 : (Int16.ofInt 999).toInt32 = 999 := by decide
theorem sp_9999 : (Int16.ofInt 9999).toInt32 = 9999 := by decide
theorem lc_0 : Int64.ofNat ((0 : Fin 2) : Nat) = 0 := by decide
theorem lc_1 : Int64.ofNat ((1 : Fin 2) : Nat) = 1 := by decide
theorem ofInt_1 : Int32.ofInt 1 = 1 := by decide
theorem ofInt_m1 : Int32.ofInt (-1) = -1 := by decide
theorem nI_inc (a : Nat) : nI a + Int32.ofInt 1 = nI (a + 1) := by rw [ofInt_1]; exact nI_1 a
theorem nI_dec (a : Nat) : nI (a + 1) + Int32.ofInt (-1) = nI a := by rw [ofInt_m1]; exact pk_m1 a
theorem i_inc (x : Int32) : x + Int32.ofInt 1 = x + 1 := by rw [ofInt_1]
theorem i_dec (x : Int32) : x + Int32.ofInt (-1) = x + (-1) := by rw [ofInt_m1]
/-- a boolean as the machine has it -/
def bI (P : Prop) [Decidable P] : Int32 := if P then 1 else 0
theorem bI_t {P : Prop} [Decidable P] (h : P) : bI P = 1 := if_pos h
theorem bI_f {P : Prop} [Decidable P] (h : ¬ P) : bI P = 0 := if_neg h
theorem bI_0 {P : Prop} [Decidable P] (h : bI P = 0) : ¬ P := fun q => by rw [bI_t q] at h; exact absurd h (by decide)
theorem bI_1 {P : Prop} [Decidable P] (h : ¬ bI P = 0) : P := Decidable.byContradiction fun q => h (bI_f q)
theorem bI_nar {P : Prop} [Decidable P] : narrow .boolean (.int (bI P)) = .int (bI P) := by
  by_cases h : P
  · rw [bI_t h]; rfl
  · rw [bI_f h]; rfl
theorem bI_fit {P : Prop} [Decidable P] : fits .boolean (.int (bI P)) = true := by
  by_cases h : P
  · rw [bI_t h]; rfl
  · rw [bI_f h]; rfl
theorem bI_c {P Q : Prop} [Decidable P] [Decidable Q] (h : P ↔ Q) : bI P = bI Q := by
  by_cases q : P
  · rw [bI_t q, bI_t (h.mp q)]
  · rw [bI_f q, bI_f (fun z => q (h.mpr z))]
theorem cmp_le {a b : Nat} (ha : a < 2 ^ 31) (hb : b < 2 ^ 31) (h : nI a ≤ nI b) : a ≤ b := (nI_leI ha hb).mp h
theorem cmp_nle {a b : Nat} (ha : a < 2 ^ 31) (hb : b < 2 ^ 31) (h : ¬ nI a ≤ nI b) : ¬ a ≤ b := fun q => h ((nI_leI ha hb).mpr q)
theorem cmp_lt {a b : Nat} (ha : a < 2 ^ 31) (hb : b < 2 ^ 31) (h : nI a < nI b) : a < b := (nI_ltI ha hb).mp h
theorem cmp_nlt {a b : Nat} (ha : a < 2 ^ 31) (hb : b < 2 ^ 31) (h : ¬ nI a < nI b) : ¬ a < b := fun q => h ((nI_ltI ha hb).mpr q)
theorem cmp_eq {a b : Nat} (ha : a < 2 ^ 31) (hb : b < 2 ^ 31) (h : nI a = nI b) : a = b := (nI_eq ha hb).mp h
theorem cmp_ne {a b : Nat} (ha : a < 2 ^ 31) (hb : b < 2 ^ 31) (h : ¬ nI a = nI b) : ¬ a = b := fun q => h ((nI_eq ha hb).mpr q)
/-! states: rows of numbers -/
abbrev Q2 : Type := Nat → Nat → Int32
abbrev Q3 : Type := Nat → Nat → Nat → Int32
def up2 (q : Q2) (r j : Nat) (v : Int32) : Q2 := fun r' => if r' = r then upd (q r) j v else q r'
def up3 (x : Q3) (g r j : Nat) (v : Int32) : Q3 := fun g' => if g' = g then up2 (x g) r j v else x g'
def upG (x : Q3) (g : Nat) (q : Q2) : Q3 := fun g' => if g' = g then q else x g'
def upR (q : Q2) (r : Nat) (f : Nat → Int32) : Q2 := fun r' => if r' = r then f else q r'
def up3R (x : Q3) (g r : Nat) (f : Nat → Int32) : Q3 := fun g' => if g' = g then upR (x g) r f else x g'
theorem up2_ss (q : Q2) (r j : Nat) (v : Int32) : up2 q r j v r j = v := by simp [up2, upd]
theorem up2_sn (q : Q2) (r : Nat) {j j' : Nat} (v : Int32) (h : j' ≠ j) : up2 q r j v r j' = q r j' := by simp [up2, upd, h]
theorem up2_n (q : Q2) {r r' : Nat} (j : Nat) (v : Int32) (h : r' ≠ r) : up2 q r j v r' = q r' := by simp [up2, h]
theorem up2_app (q : Q2) (r j : Nat) (v : Int32) (r' j' : Nat) : up2 q r j v r' j' = if r' = r ∧ j' = j then v else q r' j' := by
  unfold up2
  by_cases h : r' = r
  · subst h; simp [upd]
  · simp [h]
/-- a quarter's cells: the object, its rows -/
def wQ (G : GB) (h : Nat → Nat) (q : Q2) : va_W := [(h 0, .inr (0, [.ref (h 1), .ref (h 2), .ref (h 3), .ref (h 4), .ref (h 5), .ref (h 6), .ref (h 7), .int (q 7 2), .int (q 7 3), .int (q 7 4), .int (q 7 0), .int (q 7 1)])), (h 1, .inl (G.2.1, 11, .inl (q 0))), (h 2, .inl (G.2.1, 11, .inl (q 1))), (h 3, .inl (G.2.1, 11, .inl (q 2))), (h 4, .inl (G.2.1, 11, .inl (q 3))), (h 5, .inl (G.2.1, 11, .inl (q 4))), (h 6, .inl (G.2.1, 11, .inl (q 5))), (h 7, .inl (G.2.1, 10, .inl (q 6)))]
theorem eqI {x : Int32} {v : Int} {y : Int32} (h : x.toInt = v) (hy : y.toInt = v) : x = y := Int32.toInt_inj.mp (h.trans hy.symm)
theorem ne_out {x y : Int32} {lo hi : Int} (h : x.toInt < lo ∨ hi < x.toInt) (h2 : lo ≤ y.toInt ∧ y.toInt ≤ hi) : ¬ x = y := by
  intro e; subst e; omega
theorem sw_0_4 {x : Int32} (h : ¬ (x.toInt < 0 ∨ 4 < x.toInt)) : x = 0 ∨ x = 1 ∨ x = 2 ∨ x = 3 ∨ x = 4 := by
  have h2 : x.toInt = 0 ∨ x.toInt = 1 ∨ x.toInt = 2 ∨ x.toInt = 3 ∨ x.toInt = 4 := by omega
  rcases h2 with h2 | h2 | h2 | h2 | h2
  · exact Or.inl (eqI h2 rfl)
  · exact Or.inr (Or.inl (eqI h2 rfl))
  · exact Or.inr (Or.inr (Or.inl (eqI h2 rfl)))
  · exact Or.inr (Or.inr (Or.inr (Or.inl (eqI h2 rfl))))
  · exact Or.inr (Or.inr (Or.inr (Or.inr (eqI h2 rfl))))
theorem sw_0_41 {x : Int32} (h : ¬ (x.toInt < 0 ∨ 41 < x.toInt)) : x = 0 ∨ x = 1 ∨ x = 2 ∨ x = 3 ∨ x = 4 ∨ x = 5 ∨ x = 6 ∨ x = 7 ∨ x = 8 ∨ x = 9 ∨ x = 10 ∨ x = 11 ∨ x = 12 ∨ x = 13 ∨ x = 14 ∨ x = 15 ∨ x = 16 ∨ x = 17 ∨ x = 18 ∨ x = 19 ∨ x = 20 ∨ x = 21 ∨ x = 22 ∨ x = 23 ∨ x = 24 ∨ x = 25 ∨ x = 26 ∨ x = 27 ∨ x = 28 ∨ x = 29 ∨ x = 30 ∨ x = 31 ∨ x = 32 ∨ x = 33 ∨ x = 34 ∨ x = 35 ∨ x = 36 ∨ x = 37 ∨ x = 38 ∨ x = 39 ∨ x = 40 ∨ x = 41 := by
  have h2 : x.toInt = 0 ∨ x.toInt = 1 ∨ x.toInt = 2 ∨ x.toInt = 3 ∨ x.toInt = 4 ∨ x.toInt = 5 ∨ x.toInt = 6 ∨ x.toInt = 7 ∨ x.toInt = 8 ∨ x.toInt = 9 ∨ x.toInt = 10 ∨ x.toInt = 11 ∨ x.toInt = 12 ∨ x.toInt = 13 ∨ x.toInt = 14 ∨ x.toInt = 15 ∨ x.toInt = 16 ∨ x.toInt = 17 ∨ x.toInt = 18 ∨ x.toInt = 19 ∨ x.toInt = 20 ∨ x.toInt = 21 ∨ x.toInt = 22 ∨ x.toInt = 23 ∨ x.toInt = 24 ∨ x.toInt = 25 ∨ x.toInt = 26 ∨ x.toInt = 27 ∨ x.toInt = 28 ∨ x.toInt = 29 ∨ x.toInt = 30 ∨ x.toInt = 31 ∨ x.toInt = 32 ∨ x.toInt = 33 ∨ x.toInt = 34 ∨ x.toInt = 35 ∨ x.toInt = 36 ∨ x.toInt = 37 ∨ x.toInt = 38 ∨ x.toInt = 39 ∨ x.toInt = 40 ∨ x.toInt = 41 := by omega
  rcases h2 with h2 | h2 | h2 | h2 | h2 | h2 | h2 | h2 | h2 | h2 | h2 | h2 | h2 | h2 | h2 | h2 | h2 | h2 | h2 | h2 | h2 | h2 | h2 | h2 | h2 | h2 | h2 | h2 | h2 | h2 | h2 | h2 | h2 | h2 | h2 | h2 | h2 | h2 | h2 | h2 | h2 | h2
  · exact Or.inl (eqI h2 rfl)
  · exact Or.inr (Or.inl (eqI h2 rfl))
  · exact Or.inr (Or.inr (Or.inl (eqI h2 rfl)))
  · exact Or.inr (Or.inr (Or.inr (Or.inl (eqI h2 rfl))))
  · exact Or.inr (Or.inr (Or.inr (Or.inr (Or.inl (eqI h2 rfl)))))
  · exact Or.inr (Or.inr (Or.inr (Or.inr (Or.inr (Or.inl (eqI h2 rfl))))))
  · exact Or.inr (Or.inr (Or.inr (Or.inr (Or.inr (Or.inr (Or.inl (eqI h2 rfl)))))))
  · exact Or.inr (Or.inr (Or.inr (Or.inr (Or.inr (Or.inr (Or.inr (Or.inl (eqI h2 rfl))))))))
  · exact Or.inr (Or.inr (Or.inr (Or.inr (Or.inr (Or.inr (Or.inr (Or.inr (Or.inl (eqI h2 rfl)))))))))
  · exact Or.inr (Or.inr (Or.inr (Or.inr (Or.inr (Or.inr (Or.inr (Or.inr (Or.inr (Or.inl (eqI h2 rfl))))))))))
  · exact Or.inr (Or.inr (Or.inr (Or.inr (Or.inr (Or.inr (Or.inr (Or.inr (Or.inr (Or.inr (Or.inl (eqI h2 rfl)))))))))))
  · exact Or.inr (Or.inr (Or.inr (Or.inr (Or.inr (Or.inr (Or.inr (Or.inr (Or.inr (Or.inr (Or.inr (Or.inl (eqI h2 rfl))))))))))))
  · exact Or.inr (Or.inr (Or.inr (Or.inr (Or.inr (Or.inr (Or.inr (Or.inr (Or.inr (Or.inr (Or.inr (Or.inr (Or.inl (eqI h2 rfl)))))))))))))
  · exact Or.inr (Or.inr (Or.inr (Or.inr (Or.inr (Or.inr (Or.inr (Or.inr (Or.inr (Or.inr (Or.inr (Or.inr (Or.inr (Or.inl (eqI h2 rfl))))))))))))))
  · exact Or.inr (Or.inr (Or.inr (Or.inr (Or.inr (Or.inr (Or.inr (Or.inr (Or.inr (Or.inr (Or.inr (Or.inr (Or.inr (Or.inr (Or.inl (eqI h2 rfl)))))))))))))))
  · exact Or.inr (Or.inr (Or.inr (Or.inr (Or.inr (Or.inr (Or.inr (Or.inr (Or.inr (Or.inr (Or.inr (Or.inr (Or.inr (Or.inr (Or.inr (Or.inl (eqI h2 rfl))))))))))))))))
  · exact Or.inr (Or.inr (Or.inr (Or.inr (Or.inr (Or.inr (Or.inr (Or.inr (Or.inr (Or.inr (Or.inr (Or.inr (Or.inr (Or.inr (Or.inr (Or.inr (Or.inl (eqI h2 rfl)))))))))))))))))
  · exact Or.inr (Or.inr (Or.inr (Or.inr (Or.inr (Or.inr (Or.inr (Or.inr (Or.inr (Or.inr (Or.inr (Or.inr (Or.inr (Or.inr (Or.inr (Or.inr (Or.inr (Or.inl (eqI h2 rfl))))))))))))))))))
  · exact Or.inr (Or.inr (Or.inr (Or.inr (Or.inr (Or.inr (Or.inr (Or.inr (Or.inr (Or.inr (Or.inr (Or.inr (Or.inr (Or.inr (Or.inr (Or.inr (Or.inr (Or.inr (Or.inl (eqI h2 rfl)))))))))))))))))))
  · exact Or.inr (Or.inr (Or.inr (Or.inr (Or.inr (Or.inr (Or.inr (Or.inr (Or.inr (Or.inr (Or.inr (Or.inr (Or.inr (Or.inr (Or.inr (Or.inr (Or.inr (Or.inr (Or.inr (Or.inl (eqI h2 rfl))))))))))))))))))))
  · exact Or.inr (Or.inr (Or.inr (Or.inr (Or.inr (Or.inr (Or.inr (Or.inr (Or.inr (Or.inr (Or.inr (Or.inr (Or.inr (Or.inr (Or.inr (Or.inr (Or.inr (Or.inr (Or.inr (Or.inr (Or.inl (eqI h2 rfl)))))))))))))))))))))
  · exact Or.inr (Or.inr (Or.inr (Or.inr (Or.inr (Or.inr (Or.inr (Or.inr (Or.inr (Or.inr (Or.inr (Or.inr (Or.inr (Or.inr (Or.inr (Or.inr (Or.inr (Or.inr (Or.inr (Or.inr (Or.inr (Or.inl (eqI h2 rfl))))))))))))))))))))))
  · exact Or.inr (Or.inr (Or.inr (Or.inr (Or.inr (Or.inr (Or.inr (Or.inr (Or.inr (Or.inr (Or.inr (Or.inr (Or.inr (Or.inr (Or.inr (Or.inr (Or.inr (Or.inr (Or.inr (Or.inr (Or.inr (Or.inr (Or.inl (eqI h2 rfl)))))))))))))))))))))))
  · exact Or.inr (Or.inr (Or.inr (Or.inr (Or.inr (Or.inr (Or.inr (Or.inr (Or.inr (Or.inr (Or.inr (Or.inr (Or.inr (Or.inr (Or.inr (Or.inr (Or.inr (Or.inr (Or.inr (Or.inr (Or.inr (Or.inr (Or.inr (Or.inl (eqI h2 rfl))))))))))))))))))))))))
  · exact Or.inr (Or.inr (Or.inr (Or.inr (Or.inr (Or.inr (Or.inr (Or.inr (Or.inr (Or.inr (Or.inr (Or.inr (Or.inr (Or.inr (Or.inr (Or.inr (Or.inr (Or.inr (Or.inr (Or.inr (Or.inr (Or.inr (Or.inr (Or.inr (Or.inl (eqI h2 rfl)))))))))))))))))))))))))
  · exact Or.inr (Or.inr (Or.inr (Or.inr (Or.inr (Or.inr (Or.inr (Or.inr (Or.inr (Or.inr (Or.inr (Or.inr (Or.inr (Or.inr (Or.inr (Or.inr (Or.inr (Or.inr (Or.inr (Or.inr (Or.inr (Or.inr (Or.inr (Or.inr (Or.inr (Or.inl (eqI h2 rfl))))))))))))))))))))))))))
  · exact Or.inr (Or.inr (Or.inr (Or.inr (Or.inr (Or.inr (Or.inr (Or.inr (Or.inr (Or.inr (Or.inr (Or.inr (Or.inr (Or.inr (Or.inr (Or.inr (Or.inr (Or.inr (Or.inr (Or.inr (Or.inr (Or.inr (Or.inr (Or.inr (Or.inr (Or.inr (Or.inl (eqI h2 rfl)))))))))))))))))))))))))))
  · exact Or.inr (Or.inr (Or.inr (Or.inr (Or.inr (Or.inr (Or.inr (Or.inr (Or.inr (Or.inr (Or.inr (Or.inr (Or.inr (Or.inr (Or.inr (Or.inr (Or.inr (Or.inr (Or.inr (Or.inr (Or.inr (Or.inr (Or.inr (Or.inr (Or.inr (Or.inr (Or.inr (Or.inl (eqI h2 rfl))))))))))))))))))))))))))))
  · exact Or.inr (Or.inr (Or.inr (Or.inr (Or.inr (Or.inr (Or.inr (Or.inr (Or.inr (Or.inr (Or.inr (Or.inr (Or.inr (Or.inr (Or.inr (Or.inr (Or.inr (Or.inr (Or.inr (Or.inr (Or.inr (Or.inr (Or.inr (Or.inr (Or.inr (Or.inr (Or.inr (Or.inr (Or.inl (eqI h2 rfl)))))))))))))))))))))))))))))
  · exact Or.inr (Or.inr (Or.inr (Or.inr (Or.inr (Or.inr (Or.inr (Or.inr (Or.inr (Or.inr (Or.inr (Or.inr (Or.inr (Or.inr (Or.inr (Or.inr (Or.inr (Or.inr (Or.inr (Or.inr (Or.inr (Or.inr (Or.inr (Or.inr (Or.inr (Or.inr (Or.inr (Or.inr (Or.inr (Or.inl (eqI h2 rfl))))))))))))))))))))))))))))))
  · exact Or.inr (Or.inr (Or.inr (Or.inr (Or.inr (Or.inr (Or.inr (Or.inr (Or.inr (Or.inr (Or.inr (Or.inr (Or.inr (Or.inr (Or.inr (Or.inr (Or.inr (Or.inr (Or.inr (Or.inr (Or.inr (Or.inr (Or.inr (Or.inr (Or.inr (Or.inr (Or.inr (Or.inr (Or.inr (Or.inr (Or.inl (eqI h2 rfl)))))))))))))))))))))))))))))))
  · exact Or.inr (Or.inr (Or.inr (Or.inr (Or.inr (Or.inr (Or.inr (Or.inr (Or.inr (Or.inr (Or.inr (Or.inr (Or.inr (Or.inr (Or.inr (Or.inr (Or.inr (Or.inr (Or.inr (Or.inr (Or.inr (Or.inr (Or.inr (Or.inr (Or.inr (Or.inr (Or.inr (Or.inr (Or.inr (Or.inr (Or.inr (Or.inl (eqI h2 rfl))))))))))))))))))))))))))))))))
  · exact Or.inr (Or.inr (Or.inr (Or.inr (Or.inr (Or.inr (Or.inr (Or.inr (Or.inr (Or.inr (Or.inr (Or.inr (Or.inr (Or.inr (Or.inr (Or.inr (Or.inr (Or.inr (Or.inr (Or.inr (Or.inr (Or.inr (Or.inr (Or.inr (Or.inr (Or.inr (Or.inr (Or.inr (Or.inr (Or.inr (Or.inr (Or.inr (Or.inl (eqI h2 rfl)))))))))))))))))))))))))))))))))
  · exact Or.inr (Or.inr (Or.inr (Or.inr (Or.inr (Or.inr (Or.inr (Or.inr (Or.inr (Or.inr (Or.inr (Or.inr (Or.inr (Or.inr (Or.inr (Or.inr (Or.inr (Or.inr (Or.inr (Or.inr (Or.inr (Or.inr (Or.inr (Or.inr (Or.inr (Or.inr (Or.inr (Or.inr (Or.inr (Or.inr (Or.inr (Or.inr (Or.inr (Or.inl (eqI h2 rfl))))))))))))))))))))))))))))))))))
  · exact Or.inr (Or.inr (Or.inr (Or.inr (Or.inr (Or.inr (Or.inr (Or.inr (Or.inr (Or.inr (Or.inr (Or.inr (Or.inr (Or.inr (Or.inr (Or.inr (Or.inr (Or.inr (Or.inr (Or.inr (Or.inr (Or.inr (Or.inr (Or.inr (Or.inr (Or.inr (Or.inr (Or.inr (Or.inr (Or.inr (Or.inr (Or.inr (Or.inr (Or.inr (Or.inl (eqI h2 rfl)))))))))))))))))))))))))))))))))))
  · exact Or.inr (Or.inr (Or.inr (Or.inr (Or.inr (Or.inr (Or.inr (Or.inr (Or.inr (Or.inr (Or.inr (Or.inr (Or.inr (Or.inr (Or.inr (Or.inr (Or.inr (Or.inr (Or.inr (Or.inr (Or.inr (Or.inr (Or.inr (Or.inr (Or.inr (Or.inr (Or.inr (Or.inr (Or.inr (Or.inr (Or.inr (Or.inr (Or.inr (Or.inr (Or.inr (Or.inl (eqI h2 rfl))))))))))))))))))))))))))))))))))))
  · exact Or.inr (Or.inr (Or.inr (Or.inr (Or.inr (Or.inr (Or.inr (Or.inr (Or.inr (Or.inr (Or.inr (Or.inr (Or.inr (Or.inr (Or.inr (Or.inr (Or.inr (Or.inr (Or.inr (Or.inr (Or.inr (Or.inr (Or.inr (Or.inr (Or.inr (Or.inr (Or.inr (Or.inr (Or.inr (Or.inr (Or.inr (Or.inr (Or.inr (Or.inr (Or.inr (Or.inr (Or.inl (eqI h2 rfl)))))))))))))))))))))))))))))))))))))
  · exact Or.inr (Or.inr (Or.inr (Or.inr (Or.inr (Or.inr (Or.inr (Or.inr (Or.inr (Or.inr (Or.inr (Or.inr (Or.inr (Or.inr (Or.inr (Or.inr (Or.inr (Or.inr (Or.inr (Or.inr (Or.inr (Or.inr (Or.inr (Or.inr (Or.inr (Or.inr (Or.inr (Or.inr (Or.inr (Or.inr (Or.inr (Or.inr (Or.inr (Or.inr (Or.inr (Or.inr (Or.inr (Or.inl (eqI h2 rfl))))))))))))))))))))))))))))))))))))))
  · exact Or.inr (Or.inr (Or.inr (Or.inr (Or.inr (Or.inr (Or.inr (Or.inr (Or.inr (Or.inr (Or.inr (Or.inr (Or.inr (Or.inr (Or.inr (Or.inr (Or.inr (Or.inr (Or.inr (Or.inr (Or.inr (Or.inr (Or.inr (Or.inr (Or.inr (Or.inr (Or.inr (Or.inr (Or.inr (Or.inr (Or.inr (Or.inr (Or.inr (Or.inr (Or.inr (Or.inr (Or.inr (Or.inr (Or.inl (eqI h2 rfl)))))))))))))))))))))))))))))))))))))))
  · exact Or.inr (Or.inr (Or.inr (Or.inr (Or.inr (Or.inr (Or.inr (Or.inr (Or.inr (Or.inr (Or.inr (Or.inr (Or.inr (Or.inr (Or.inr (Or.inr (Or.inr (Or.inr (Or.inr (Or.inr (Or.inr (Or.inr (Or.inr (Or.inr (Or.inr (Or.inr (Or.inr (Or.inr (Or.inr (Or.inr (Or.inr (Or.inr (Or.inr (Or.inr (Or.inr (Or.inr (Or.inr (Or.inr (Or.inr (Or.inl (eqI h2 rfl))))))))))))))))))))))))))))))))))))))))
  · exact Or.inr (Or.inr (Or.inr (Or.inr (Or.inr (Or.inr (Or.inr (Or.inr (Or.inr (Or.inr (Or.inr (Or.inr (Or.inr (Or.inr (Or.inr (Or.inr (Or.inr (Or.inr (Or.inr (Or.inr (Or.inr (Or.inr (Or.inr (Or.inr (Or.inr (Or.inr (Or.inr (Or.inr (Or.inr (Or.inr (Or.inr (Or.inr (Or.inr (Or.inr (Or.inr (Or.inr (Or.inr (Or.inr (Or.inr (Or.inr (Or.inl (eqI h2 rfl)))))))))))))))))))))))))))))))))))))))))
  · exact Or.inr (Or.inr (Or.inr (Or.inr (Or.inr (Or.inr (Or.inr (Or.inr (Or.inr (Or.inr (Or.inr (Or.inr (Or.inr (Or.inr (Or.inr (Or.inr (Or.inr (Or.inr (Or.inr (Or.inr (Or.inr (Or.inr (Or.inr (Or.inr (Or.inr (Or.inr (Or.inr (Or.inr (Or.inr (Or.inr (Or.inr (Or.inr (Or.inr (Or.inr (Or.inr (Or.inr (Or.inr (Or.inr (Or.inr (Or.inr (Or.inr (eqI h2 rfl)))))))))))))))))))))))))))))))))))))))))
theorem sw_0_5 {x : Int32} (h : ¬ (x.toInt < 0 ∨ 5 < x.toInt)) : x = 0 ∨ x = 1 ∨ x = 2 ∨ x = 3 ∨ x = 4 ∨ x = 5 := by
  have h2 : x.toInt = 0 ∨ x.toInt = 1 ∨ x.toInt = 2 ∨ x.toInt = 3 ∨ x.toInt = 4 ∨ x.toInt = 5 := by omega
  rcases h2 with h2 | h2 | h2 | h2 | h2 | h2
  · exact Or.inl (eqI h2 rfl)
  · exact Or.inr (Or.inl (eqI h2 rfl))
  · exact Or.inr (Or.inr (Or.inl (eqI h2 rfl)))
  · exact Or.inr (Or.inr (Or.inr (Or.inl (eqI h2 rfl))))
  · exact Or.inr (Or.inr (Or.inr (Or.inr (Or.inl (eqI h2 rfl)))))
  · exact Or.inr (Or.inr (Or.inr (Or.inr (Or.inr (eqI h2 rfl)))))
theorem sw_0_6 {x : Int32} (h : ¬ (x.toInt < 0 ∨ 6 < x.toInt)) : x = 0 ∨ x = 1 ∨ x = 2 ∨ x = 3 ∨ x = 4 ∨ x = 5 ∨ x = 6 := by
  have h2 : x.toInt = 0 ∨ x.toInt = 1 ∨ x.toInt = 2 ∨ x.toInt = 3 ∨ x.toInt = 4 ∨ x.toInt = 5 ∨ x.toInt = 6 := by omega
  rcases h2 with h2 | h2 | h2 | h2 | h2 | h2 | h2
  · exact Or.inl (eqI h2 rfl)
  · exact Or.inr (Or.inl (eqI h2 rfl))
  · exact Or.inr (Or.inr (Or.inl (eqI h2 rfl)))
  · exact Or.inr (Or.inr (Or.inr (Or.inl (eqI h2 rfl))))
  · exact Or.inr (Or.inr (Or.inr (Or.inr (Or.inl (eqI h2 rfl)))))
  · exact Or.inr (Or.inr (Or.inr (Or.inr (Or.inr (Or.inl (eqI h2 rfl))))))
  · exact Or.inr (Or.inr (Or.inr (Or.inr (Or.inr (Or.inr (eqI h2 rfl))))))
theorem sw_0_7 {x : Int32} (h : ¬ (x.toInt < 0 ∨ 7 < x.toInt)) : x = 0 ∨ x = 1 ∨ x = 2 ∨ x = 3 ∨ x = 4 ∨ x = 5 ∨ x = 6 ∨ x = 7 := by
  have h2 : x.toInt = 0 ∨ x.toInt = 1 ∨ x.toInt = 2 ∨ x.toInt = 3 ∨ x.toInt = 4 ∨ x.toInt = 5 ∨ x.toInt = 6 ∨ x.toInt = 7 := by omega
  rcases h2 with h2 | h2 | h2 | h2 | h2 | h2 | h2 | h2
  · exact Or.inl (eqI h2 rfl)
  · exact Or.inr (Or.inl (eqI h2 rfl))
  · exact Or.inr (Or.inr (Or.inl (eqI h2 rfl)))
  · exact Or.inr (Or.inr (Or.inr (Or.inl (eqI h2 rfl))))
  · exact Or.inr (Or.inr (Or.inr (Or.inr (Or.inl (eqI h2 rfl)))))
  · exact Or.inr (Or.inr (Or.inr (Or.inr (Or.inr (Or.inl (eqI h2 rfl))))))
  · exact Or.inr (Or.inr (Or.inr (Or.inr (Or.inr (Or.inr (Or.inl (eqI h2 rfl)))))))
  · exact Or.inr (Or.inr (Or.inr (Or.inr (Or.inr (Or.inr (Or.inr (eqI h2 rfl)))))))
theorem sw_1_6 {x : Int32} (h : ¬ (x.toInt < 1 ∨ 6 < x.toInt)) : x = 1 ∨ x = 2 ∨ x = 3 ∨ x = 4 ∨ x = 5 ∨ x = 6 := by
  have h2 : x.toInt = 1 ∨ x.toInt = 2 ∨ x.toInt = 3 ∨ x.toInt = 4 ∨ x.toInt = 5 ∨ x.toInt = 6 := by omega
  rcases h2 with h2 | h2 | h2 | h2 | h2 | h2
  · exact Or.inl (eqI h2 rfl)
  · exact Or.inr (Or.inl (eqI h2 rfl))
  · exact Or.inr (Or.inr (Or.inl (eqI h2 rfl)))
  · exact Or.inr (Or.inr (Or.inr (Or.inl (eqI h2 rfl))))
  · exact Or.inr (Or.inr (Or.inr (Or.inr (Or.inl (eqI h2 rfl)))))
  · exact Or.inr (Or.inr (Or.inr (Or.inr (Or.inr (eqI h2 rfl)))))
theorem sw_2_5 {x : Int32} (h : ¬ (x.toInt < 2 ∨ 5 < x.toInt)) : x = 2 ∨ x = 3 ∨ x = 4 ∨ x = 5 := by
  have h2 : x.toInt = 2 ∨ x.toInt = 3 ∨ x.toInt = 4 ∨ x.toInt = 5 := by omega
  rcases h2 with h2 | h2 | h2 | h2
  · exact Or.inl (eqI h2 rfl)
  · exact Or.inr (Or.inl (eqI h2 rfl))
  · exact Or.inr (Or.inr (Or.inl (eqI h2 rfl)))
  · exact Or.inr (Or.inr (Or.inr (eqI h2 rfl)))
theorem sw_2_6 {x : Int32} (h : ¬ (x.toInt < 2 ∨ 6 < x.toInt)) : x = 2 ∨ x = 3 ∨ x = 4 ∨ x = 5 ∨ x = 6 := by
  have h2 : x.toInt = 2 ∨ x.toInt = 3 ∨ x.toInt = 4 ∨ x.toInt = 5 ∨ x.toInt = 6 := by omega
  rcases h2 with h2 | h2 | h2 | h2 | h2
  · exact Or.inl (eqI h2 rfl)
  · exact Or.inr (Or.inl (eqI h2 rfl))
  · exact Or.inr (Or.inr (Or.inl (eqI h2 rfl)))
  · exact Or.inr (Or.inr (Or.inr (Or.inl (eqI h2 rfl))))
  · exact Or.inr (Or.inr (Or.inr (Or.inr (eqI h2 rfl))))
theorem sw_6_9 {x : Int32} (h : ¬ (x.toInt < 6 ∨ 9 < x.toInt)) : x = 6 ∨ x = 7 ∨ x = 8 ∨ x = 9 := by
  have h2 : x.toInt = 6 ∨ x.toInt = 7 ∨ x.toInt = 8 ∨ x.toInt = 9 := by omega
  rcases h2 with h2 | h2 | h2 | h2
  · exact Or.inl (eqI h2 rfl)
  · exact Or.inr (Or.inl (eqI h2 rfl))
  · exact Or.inr (Or.inr (Or.inl (eqI h2 rfl)))
  · exact Or.inr (Or.inr (Or.inr (eqI h2 rfl)))
