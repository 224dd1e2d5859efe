theorem mRun {l : Launch} {p : Program} {e : Env} {s : State} {m : MethodId} {args : Array Value} {below : List Frame} {meth : Method} {c : Code} {s₁ : State} {D : va_G} {E : Nat → ClassId} {lo : Nat} {d : Nat} {μ : mM} {b : Nat × Nat} {pc : Nat} {lv : List (Option Value)} {st rest : List Value} {Q Q0 : Int32 → mW → Prop} {mc ms : Nat} {ret : Option FieldType} {as : Array Value} {ls : Array Slot} {H : Heap} {locs : List Loc} (f : Int32 → List Value) (hf : ∀ r, (mEnc ret r).toList ++ rest = f r)
    (B : BodyLoose p l μ.1 (headSpec (mWs μ) (mRm d μ)) μ.2.1 μ.2.2.1 μ.2.2.2.1 e s m args below meth c s₁) (hml : c.maxLocals = μ.2.2.1) (hK : mK D E s) (hlo : lo ≤ s.heap.size) (hl : mLv ls μ.2.2.1 lv) (hS : va_S (fun q => lo ≤ q) s.heap H locs)
    (hrun : va_Run p l e (mRm d μ) s m args below meth c H locs b.1 b.2 mc ms (F0 m pc ls st) rest (mQc D E lo ret Q0 as) (fun q => lo ≤ q))
    (hQ : ∀ r w', Q0 r w' → mG d μ (b.1 + mc, b.2 + ms) (pc + 3) lv (f r) w' Q) :
    W p l e (mRm d μ) s m args below meth c H locs b.1 b.2 (MQ below (mQc D E lo μ.2.2.2.1 Q) args s μ.2.2.2.2.1 μ.2.2.2.2.2 (fun q => lo ≤ q)) (F0 m pc ls st) := by
  intro T hT X
  obtain ⟨v, st₀, t, T', L, h0, X', hL, e1, e2, ⟨⟨r, w', hv, hq, hR'⟩, hz, hk⟩, stp⟩ := hrun T hT X
  have hv' : v = mEnc ret r := Outcome.returned.inj hv
  subst hv'
  rw [h0] at hz hk
  have hal : s.vm.Alike t.vm := by rw [← e2]; exact X'.warmed.alike
  have hR1 : mRep lo D E s w' T'.heap := by rw [e1]; exact hR'.moved hal.symm
  have hS1 : va_S (fun q => lo ≤ q) s.heap T'.heap (locs ++ L) := by
    refine ⟨Nat.le_trans hS.1 (by rw [e1]; exact hz), fun q h1 h2 => ?_, fun q hq => ?_⟩
    · rw [e1, hk q (Nat.lt_of_lt_of_le h1 hS.1) h2]
      exact hS.2.1 q h1 h2
    · rcases List.mem_append.mp hq with h | h
      · exact hS.2.2 q h
      · exact hL q h
  obtain ⟨t2, a1, b1⟩ := hQ r w' hq l p e s m args below meth c s₁ D E lo B hml hK hlo ls T'.heap (locs ++ L) hl hR1 hS1 T' rfl X'
  rw [← hf r] at a1
  exact ⟨t2, stp t2 a1, b1⟩
theorem mB {d : Nat} {μ μ' : mM} {n idx : Nat} {s : State} {args : Array Value} (hts0 : ∀ w ∈ mWs μ, w.before args s = true) (h : mLkB μ' n) (hl : Cond.methodLink μ.1.cls idx μ'.1 ∈ mWd) : CallB (mRm (d + 1) μ) s args μ.1.cls idx μ'.1 μ'.2.1 μ'.2.2.1 μ'.2.2.2.1 (mWs μ') (mRm d μ') μ'.2.2.2.2.1 μ'.2.2.2.2.2 n := by
  obtain ⟨h1, h2, h3, h4⟩ := h
  refine callB_of n hts0 (mGood μ μ' h1) rfl rfl rfl (hts0 _ (List.mem_cons_of_mem _ h2)) (hts0 _ (List.mem_cons_of_mem _ hl)) h3 ⟨Nat.le_refl _, ?_⟩
  show 8 + (μ'.2.2.1 + 11) + 38 * d ≤ 38 * (d + 1)
  omega
theorem mPre {D : va_G} {E : Nat → ClassId} {lo : Nat} {s : State} {w : mW} {H : Heap} {as : List Value} (hlo : lo ≤ s.heap.size) (hK : mK D E s) (hR : mRep lo D E s w H) {A : Nat → Prop} {locs : List Loc} (hS : va_S A s.heap H locs) : ∀ U : State, U.heap = H → s.WarmedH U.vm → mPc D E lo as w as.toArray U := by
  intro U hU hW
  refine ⟨rfl, by rw [hU]; exact Nat.le_trans hlo hS.1, hK.warm hW, ?_⟩
  rw [hU]
  exact hR.moved hW.alike
section CROWS
variable {d : Nat} {μ : mM} {b : Nat × Nat} {pc : Nat} {lv : List (Option Value)} {st : List Value} {w : mW} {Q : Int32 → mW → Prop}
theorem g_callVi {μ' : mM} {idx a : Nat} {S : List Value} (ci n : Nat) (As : List Value) (hd : decode μ.2.1 pc = .ok (.invokevirtual idx, 3)) (hf : mLkV μ.1.cls idx μ' ci n) (hc : ci < 19) (hret : ∃ ty, μ'.2.2.2.1 = some ty) (hn : As.length = n) (hs : S = As.reverse ++ .ref a :: st) (hr : (st.map fun v => v.category).sum ≤ 8) (hb : b.1 + μ'.2.2.2.2.1 ≤ μ.2.2.2.2.1 ∧ b.2 + μ'.2.2.2.2.2 ≤ μ.2.2.2.2.2) (b' : Nat × Nat) (hb' : (b.1 + μ'.2.2.2.2.1, b.2 + μ'.2.2.2.2.2) = b')
    (kk : mT w a = ci + 1 ∧ mC d μ' (.ref a :: As) w (fun r w' => mG (d + 1) μ b' (pc + 3) lv (.int r :: st) w' Q)) : mG (d + 1) μ b pc lv S w Q := by
  subst hs
  subst hb'
  obtain ⟨ht, Q0, hQ, hM⟩ := kk
  intro l p e s m args below meth c s₁ D E lo B hml hK hlo ls H locs hl hR hS
  have hts : ∀ w ∈ mWd, w.before args s = true := fun w h => atoms_spec (ws := mWs μ) B.pre w (List.mem_cons_of_mem _ h)
  have hown : s.vm.findClass μ.1.cls = some m.cls := findClass_of_methodNamed B.named
  obtain ⟨hB, hw1, hw2, hw3, q, hq, hqC⟩ := hf
  obtain ⟨-, -, cell, q1, q2, q3, -⟩ := hR.obj ht hc hq
  have hcw : CallW (mRm (d + 1) μ) s args μ.1.cls μ'.1.cls idx μ'.1 μ'.2.1 μ'.2.2.1 μ'.2.2.2.1 (mWs μ') (mRm d μ') μ'.2.2.2.2.1 μ'.2.2.2.2.2 n := ⟨mB (atoms_spec (ws := mWs μ) B.pre) hB hw1, hts _ hw2, hts _ hw3⟩
  have hrun := va_runV (H := H) (locs := locs) (cells := b.1) (slots := b.2) (e := e) (below := below) (meth := meth) (rest := st) (g := F0 m pc ls (As.reverse ++ .ref a :: st)) ⟨B.exec, B.bytes, hml, hown, atoms_spec (ws := mWs μ) B.pre⟩ (hM l D E lo) hcw ⟨mPc.blind D E lo _ w, ⟨cell, q1, by rw [q3]; rfl, by rw [q2, ← hqC]; exact (hK.1.1 ci q hq).2.1⟩, mPre hlo hK hR hS⟩ rfl hn hl.1 rfl (lv_room hr) hd hb
  exact mRun (fun r => .int r :: st) (by obtain ⟨ty, h⟩ := hret; intro r; rw [h]; rfl) B hml hK hlo hl hS hrun hQ
theorem g_callSi {μ' : mM} {idx : Nat} {S : List Value} (n : Nat) (As : List Value) (hd : decode μ.2.1 pc = .ok (.invokestatic idx, 3)) (hf : mLkS μ.1.cls idx μ' n) (hret : ∃ ty, μ'.2.2.2.1 = some ty) (hn : As.length = n) (hs : S = As.reverse ++ st) (hr : (st.map fun v => v.category).sum ≤ 8) (hb : b.1 + μ'.2.2.2.2.1 ≤ μ.2.2.2.2.1 ∧ b.2 + μ'.2.2.2.2.2 ≤ μ.2.2.2.2.2) (b' : Nat × Nat) (hb' : (b.1 + μ'.2.2.2.2.1, b.2 + μ'.2.2.2.2.2) = b')
    (kk : mC d μ' As w (fun r w' => mG (d + 1) μ b' (pc + 3) lv (.int r :: st) w' Q)) : mG (d + 1) μ b pc lv S w Q := by
  subst hs
  subst hb'
  obtain ⟨Q0, hQ, hM⟩ := kk
  intro l p e s m args below meth c s₁ D E lo B hml hK hlo ls H locs hl hR hS
  have hts : ∀ w ∈ mWd, w.before args s = true := fun w h => atoms_spec (ws := mWs μ) B.pre w (List.mem_cons_of_mem _ h)
  have hown : s.vm.findClass μ.1.cls = some m.cls := findClass_of_methodNamed B.named
  obtain ⟨hB, hw1, hw2⟩ := hf
  have hrun := va_runS (H := H) (locs := locs) (cells := b.1) (slots := b.2) (e := e) (below := below) (meth := meth) (rest := st) (g := F0 m pc ls (As.reverse ++ st)) ⟨B.exec, B.bytes, hml, hown, atoms_spec (ws := mWs μ) B.pre⟩ (hM l D E lo) ⟨mB (d := d) (atoms_spec (ws := mWs μ) B.pre) hB hw1, hts _ hw2⟩ ⟨mPc.blind D E lo _ w, mPre hlo hK hR hS⟩ rfl hn hl.1 rfl (lv_room hr) hd hb
  exact mRun (fun r => .int r :: st) (by obtain ⟨ty, h⟩ := hret; intro r; rw [h]; rfl) B hml hK hlo hl hS hrun hQ
theorem g_callSNi {μ' : mM} {idx : Nat} {S : List Value} (n : Nat) (host : String) (As : List Value) (hd : decode μ.2.1 pc = .ok (.invokestatic idx, 3)) (hf : mLkSN μ.1.cls idx μ' n host) (hret : ∃ ty, μ'.2.2.2.1 = some ty) (hn : As.length = n) (hs : S = As.reverse ++ st) (hr : (st.map fun v => v.category).sum ≤ 8) (hb : b.1 + μ'.2.2.2.2.1 ≤ μ.2.2.2.2.1 ∧ b.2 + μ'.2.2.2.2.2 ≤ μ.2.2.2.2.2) (b' : Nat × Nat) (hb' : (b.1 + μ'.2.2.2.2.1, b.2 + μ'.2.2.2.2.2) = b')
    (kk : mC d μ' As w (fun r w' => mG (d + 1) μ b' (pc + 3) lv (.int r :: st) w' Q)) : mG (d + 1) μ b pc lv S w Q := by
  subst hs
  subst hb'
  obtain ⟨Q0, hQ, hM⟩ := kk
  intro l p e s m args below meth c s₁ D E lo B hml hK hlo ls H locs hl hR hS
  have hts : ∀ w ∈ mWd, w.before args s = true := fun w h => atoms_spec (ws := mWs μ) B.pre w (List.mem_cons_of_mem _ h)
  have hown : s.vm.findClass μ.1.cls = some m.cls := findClass_of_methodNamed B.named
  obtain ⟨⟨h1, h2, h3, h4⟩, hw1, hw2⟩ := hf
  have hcn : va_CN (mRm (d + 1) μ) s args μ.1.cls idx μ'.1 host μ'.2.1 μ'.2.2.1 μ'.2.2.2.1 (mWs μ') (mRm d μ') μ'.2.2.2.2.1 μ'.2.2.2.2.2 n := va_cnB n (atoms_spec (ws := mWs μ) B.pre) (mGood μ μ' h1) rfl rfl rfl (hK.2.2 _ hw1) (hts _ h2) h3 ⟨Nat.le_refl _, by show 8 + (μ'.2.2.1 + 11) + 38 * d ≤ 38 * (d + 1); omega⟩
  have hrun := va_runSN (H := H) (locs := locs) (cells := b.1) (slots := b.2) (e := e) (below := below) (meth := meth) (rest := st) (g := F0 m pc ls (As.reverse ++ st)) ⟨B.exec, B.bytes, hml, hown, atoms_spec (ws := mWs μ) B.pre⟩ (hM l D E lo) ⟨hcn, hts _ hw2, trivial⟩ ⟨mPc.blind D E lo _ w, mPre hlo hK hR hS⟩ rfl hn hl.1 rfl (lv_room hr) hd hb
  exact mRun (fun r => .int r :: st) (by obtain ⟨ty, h⟩ := hret; intro r; rw [h]; rfl) B hml hK hlo hl hS hrun hQ
theorem g_callVv {μ' : mM} {idx a : Nat} {S : List Value} (ci n : Nat) (As : List Value) (hd : decode μ.2.1 pc = .ok (.invokevirtual idx, 3)) (hf : mLkV μ.1.cls idx μ' ci n) (hc : ci < 19) (hret : μ'.2.2.2.1 = none) (hn : As.length = n) (hs : S = As.reverse ++ .ref a :: st) (hr : (st.map fun v => v.category).sum ≤ 8) (hb : b.1 + μ'.2.2.2.2.1 ≤ μ.2.2.2.2.1 ∧ b.2 + μ'.2.2.2.2.2 ≤ μ.2.2.2.2.2) (b' : Nat × Nat) (hb' : (b.1 + μ'.2.2.2.2.1, b.2 + μ'.2.2.2.2.2) = b')
    (kk : mT w a = ci + 1 ∧ mC d μ' (.ref a :: As) w (fun r w' => mG (d + 1) μ b' (pc + 3) lv (st) w' Q)) : mG (d + 1) μ b pc lv S w Q := by
  subst hs
  subst hb'
  obtain ⟨ht, Q0, hQ, hM⟩ := kk
  intro l p e s m args below meth c s₁ D E lo B hml hK hlo ls H locs hl hR hS
  have hts : ∀ w ∈ mWd, w.before args s = true := fun w h => atoms_spec (ws := mWs μ) B.pre w (List.mem_cons_of_mem _ h)
  have hown : s.vm.findClass μ.1.cls = some m.cls := findClass_of_methodNamed B.named
  obtain ⟨hB, hw1, hw2, hw3, q, hq, hqC⟩ := hf
  obtain ⟨-, -, cell, q1, q2, q3, -⟩ := hR.obj ht hc hq
  have hcw : CallW (mRm (d + 1) μ) s args μ.1.cls μ'.1.cls idx μ'.1 μ'.2.1 μ'.2.2.1 μ'.2.2.2.1 (mWs μ') (mRm d μ') μ'.2.2.2.2.1 μ'.2.2.2.2.2 n := ⟨mB (atoms_spec (ws := mWs μ) B.pre) hB hw1, hts _ hw2, hts _ hw3⟩
  have hrun := va_runV (H := H) (locs := locs) (cells := b.1) (slots := b.2) (e := e) (below := below) (meth := meth) (rest := st) (g := F0 m pc ls (As.reverse ++ .ref a :: st)) ⟨B.exec, B.bytes, hml, hown, atoms_spec (ws := mWs μ) B.pre⟩ (hM l D E lo) hcw ⟨mPc.blind D E lo _ w, ⟨cell, q1, by rw [q3]; rfl, by rw [q2, ← hqC]; exact (hK.1.1 ci q hq).2.1⟩, mPre hlo hK hR hS⟩ rfl hn hl.1 rfl (lv_room hr) hd hb
  exact mRun (fun _ => st) (by intro r; rw [hret]; rfl) B hml hK hlo hl hS hrun hQ
theorem g_callIv {μ' : mM} {idx a : Nat} {S : List Value} (n : Nat) (As : List Value) (hd : decode μ.2.1 pc = .ok (.invokespecial idx, 3)) (hf : mLkI μ.1.cls idx μ' n) (hret : μ'.2.2.2.1 = none) (hn : As.length = n) (hs : S = As.reverse ++ .ref a :: st) (hr : (st.map fun v => v.category).sum ≤ 8) (hb : b.1 + μ'.2.2.2.2.1 ≤ μ.2.2.2.2.1 ∧ b.2 + μ'.2.2.2.2.2 ≤ μ.2.2.2.2.2) (b' : Nat × Nat) (hb' : (b.1 + μ'.2.2.2.2.1, b.2 + μ'.2.2.2.2.2) = b')
    (kk : mC d μ' (.ref a :: As) w (fun r w' => mG (d + 1) μ b' (pc + 3) lv (st) w' Q)) : mG (d + 1) μ b pc lv S w Q := by
  subst hs
  subst hb'
  obtain ⟨Q0, hQ, hM⟩ := kk
  intro l p e s m args below meth c s₁ D E lo B hml hK hlo ls H locs hl hR hS
  have hts : ∀ w ∈ mWd, w.before args s = true := fun w h => atoms_spec (ws := mWs μ) B.pre w (List.mem_cons_of_mem _ h)
  have hown : s.vm.findClass μ.1.cls = some m.cls := findClass_of_methodNamed B.named
  obtain ⟨hB, hw1, hw2, hy⟩ := hf
  have hM := hM l D E lo
  have hB := mB (d := d) (atoms_spec (ws := mWs μ) B.pre) hB hw1
  have hrun := va_runI (H := H) (locs := locs) (cells := b.1) (slots := b.2) (e := e) (below := below) (meth := meth) (rest := st) (g := F0 m pc ls (As.reverse ++ .ref a :: st)) ⟨B.exec, B.bytes, hml, hown, atoms_spec (ws := mWs μ) B.pre⟩ hM ⟨by rw [hret] at hB; exact hB, hy, hts _ hw2⟩ ⟨mPc.blind D E lo _ w, mPre hlo hK hR hS⟩ rfl hn hl.1 rfl (lv_room hr) hd hb
  exact mRun (fun _ => st) (by intro r; rw [hret]; rfl) B hml hK hlo hl hS hrun hQ
theorem g_callSv {μ' : mM} {idx : Nat} {S : List Value} (n : Nat) (As : List Value) (hd : decode μ.2.1 pc = .ok (.invokestatic idx, 3)) (hf : mLkS μ.1.cls idx μ' n) (hret : μ'.2.2.2.1 = none) (hn : As.length = n) (hs : S = As.reverse ++ st) (hr : (st.map fun v => v.category).sum ≤ 8) (hb : b.1 + μ'.2.2.2.2.1 ≤ μ.2.2.2.2.1 ∧ b.2 + μ'.2.2.2.2.2 ≤ μ.2.2.2.2.2) (b' : Nat × Nat) (hb' : (b.1 + μ'.2.2.2.2.1, b.2 + μ'.2.2.2.2.2) = b')
    (kk : mC d μ' As w (fun r w' => mG (d + 1) μ b' (pc + 3) lv (st) w' Q)) : mG (d + 1) μ b pc lv S w Q := by
  subst hs
  subst hb'
  obtain ⟨Q0, hQ, hM⟩ := kk
  intro l p e s m args below meth c s₁ D E lo B hml hK hlo ls H locs hl hR hS
  have hts : ∀ w ∈ mWd, w.before args s = true := fun w h => atoms_spec (ws := mWs μ) B.pre w (List.mem_cons_of_mem _ h)
  have hown : s.vm.findClass μ.1.cls = some m.cls := findClass_of_methodNamed B.named
  obtain ⟨hB, hw1, hw2⟩ := hf
  have hrun := va_runS (H := H) (locs := locs) (cells := b.1) (slots := b.2) (e := e) (below := below) (meth := meth) (rest := st) (g := F0 m pc ls (As.reverse ++ st)) ⟨B.exec, B.bytes, hml, hown, atoms_spec (ws := mWs μ) B.pre⟩ (hM l D E lo) ⟨mB (d := d) (atoms_spec (ws := mWs μ) B.pre) hB hw1, hts _ hw2⟩ ⟨mPc.blind D E lo _ w, mPre hlo hK hR hS⟩ rfl hn hl.1 rfl (lv_room hr) hd hb
  exact mRun (fun _ => st) (by intro r; rw [hret]; rfl) B hml hK hlo hl hS hrun hQ
theorem g_callSNv {μ' : mM} {idx : Nat} {S : List Value} (n : Nat) (host : String) (As : List Value) (hd : decode μ.2.1 pc = .ok (.invokestatic idx, 3)) (hf : mLkSN μ.1.cls idx μ' n host) (hret : μ'.2.2.2.1 = none) (hn : As.length = n) (hs : S = As.reverse ++ st) (hr : (st.map fun v => v.category).sum ≤ 8) (hb : b.1 + μ'.2.2.2.2.1 ≤ μ.2.2.2.2.1 ∧ b.2 + μ'.2.2.2.2.2 ≤ μ.2.2.2.2.2) (b' : Nat × Nat) (hb' : (b.1 + μ'.2.2.2.2.1, b.2 + μ'.2.2.2.2.2) = b')
    (kk : mC d μ' As w (fun r w' => mG (d + 1) μ b' (pc + 3) lv (st) w' Q)) : mG (d + 1) μ b pc lv S w Q := by
  subst hs
  subst hb'
  obtain ⟨Q0, hQ, hM⟩ := kk
  intro l p e s m args below meth c s₁ D E lo B hml hK hlo ls H locs hl hR hS
  have hts : ∀ w ∈ mWd, w.before args s = true := fun w h => atoms_spec (ws := mWs μ) B.pre w (List.mem_cons_of_mem _ h)
  have hown : s.vm.findClass μ.1.cls = some m.cls := findClass_of_methodNamed B.named
  obtain ⟨⟨h1, h2, h3, h4⟩, hw1, hw2⟩ := hf
  have hcn : va_CN (mRm (d + 1) μ) s args μ.1.cls idx μ'.1 host μ'.2.1 μ'.2.2.1 μ'.2.2.2.1 (mWs μ') (mRm d μ') μ'.2.2.2.2.1 μ'.2.2.2.2.2 n := va_cnB n (atoms_spec (ws := mWs μ) B.pre) (mGood μ μ' h1) rfl rfl rfl (hK.2.2 _ hw1) (hts _ h2) h3 ⟨Nat.le_refl _, by show 8 + (μ'.2.2.1 + 11) + 38 * d ≤ 38 * (d + 1); omega⟩
  have hrun := va_runSN (H := H) (locs := locs) (cells := b.1) (slots := b.2) (e := e) (below := below) (meth := meth) (rest := st) (g := F0 m pc ls (As.reverse ++ st)) ⟨B.exec, B.bytes, hml, hown, atoms_spec (ws := mWs μ) B.pre⟩ (hM l D E lo) ⟨hcn, hts _ hw2, trivial⟩ ⟨mPc.blind D E lo _ w, mPre hlo hK hR hS⟩ rfl hn hl.1 rfl (lv_room hr) hd hb
  exact mRun (fun _ => st) (by intro r; rw [hret]; rfl) B hml hK hlo hl hS hrun hQ
theorem g_objInit {idx a : Nat} (hd : decode μ.2.1 pc = .ok (.invokespecial idx, 3)) (hf : mLkO μ.1.cls idx) (hr : (st.map fun v => v.category).sum ≤ 8) (kk : mG (d + 1) μ b (pc + 3) lv st w Q) : mG (d + 1) μ b pc lv (.ref a :: st) w Q := by
  intro l p e s m args below meth c s₁ D E lo B hml hK hlo ls H locs hl hR hS
  have hts : ∀ w ∈ mWd, w.before args s = true := fun w h => atoms_spec (ws := mWs μ) B.pre w (List.mem_cons_of_mem _ h)
  have hown : s.vm.findClass μ.1.cls = some m.cls := findClass_of_methodNamed B.named
  exact W.objInit B.exec B.bytes hown (hts _ hf.1) (hts _ hf.2.1) (hts _ hf.2.2) rfl (by rw [hml]; exact hl.1) rfl hd (by show 1 ≤ d + 1; omega) (by show 2 * 0 + _ + 12 ≤ 38 * (d + 1); omega) (kk l p e s m args below meth c s₁ D E lo B hml hK hlo ls H locs hl hR hS)
theorem g_mmax {idx : Nat} {x y : Int32} (hd : decode μ.2.1 pc = .ok (.invokestatic idx, 3)) (hf : mLkX μ.1.cls idx) (hr : (st.map fun v => v.category).sum ≤ 8) (hb : b.1 ≤ μ.2.2.2.2.1 ∧ b.2 ≤ μ.2.2.2.2.2) (kk : mG (d + 1) μ b (pc + 3) lv (.int (if x < y then y else x) :: st) w Q) : mG (d + 1) μ b pc lv (.int y :: .int x :: st) w Q := by
  intro l p e s m args below meth c s₁ D E lo B hml hK hlo ls H locs hl hR hS
  have hts : ∀ w ∈ mWd, w.before args s = true := fun w h => atoms_spec (ws := mWs μ) B.pre w (List.mem_cons_of_mem _ h)
  have hown : s.vm.findClass μ.1.cls = some m.cls := findClass_of_methodNamed B.named
  exact va_mmax B.exec B.bytes (by rw [hml]; exact hl.1.symm) hown (hts _ hf.1) (hts _ hf.2.1) (hts _ hf.2.2.1) (hts _ hf.2.2.2) (by show 1 ≤ d + 1; omega) (by show _ + 13 ≤ 38 * (d + 1); omega) hb.1 hb.2 hd (kk l p e s m args below meth c s₁ D E lo B hml hK hlo ls H locs hl hR hS)
theorem g_acopy {idx a0 a : Nat} {sp dp n : Int32} (hd : decode μ.2.1 pc = .ok (.invokestatic idx, 3)) (hf : mLkA μ.1.cls idx) (hr : (st.map fun v => v.category).sum ≤ 8)
    (kk : mT w a0 = 20 ∧ mT w a = 20 ∧ (¬ sp < 0 ∧ ¬ dp < 0 ∧ ¬ n < 0 ∧ sp.toNatClampNeg + n.toNatClampNeg ≤ mL w a0 ∧ dp.toNatClampNeg + n.toNatClampNeg ≤ mL w a) ∧ ∀ w', w' = wrC w a0 sp.toNatClampNeg a dp.toNatClampNeg n.toNatClampNeg → mG (d + 1) μ b (pc + 3) lv st w' Q) : mG (d + 1) μ b pc lv (.int n :: .int dp :: .ref a :: .int sp :: .ref a0 :: st) w Q := by
  obtain ⟨ht0, ht1, ⟨h1, h2, h3, h4, h5⟩, kk⟩ := kk
  have kk := kk _ rfl
  intro l p e s m args below meth c s₁ D E lo B hml hK hlo ls H locs hl hR hS
  have hts : ∀ w ∈ mWd, w.before args s = true := fun w h => atoms_spec (ws := mWs μ) B.pre w (List.mem_cons_of_mem _ h)
  have hown : s.vm.findClass μ.1.cls = some m.cls := findClass_of_methodNamed B.named
  have nn : ∀ z : Int32, ¬ z < 0 → z.toInt = (z.toNatClampNeg : Int) := by
    intro z hz
    have hz0 : (0 : Int) ≤ z.toInt := by
      have := Int32.not_lt.mp hz
      simpa using Int32.le_iff_toInt_le.mp this
    show z.toInt = ((z.toInt.toNat : Nat) : Int)
    omega
  intro T hT X
  obtain ⟨-, hc0⟩ := hR.ints ht0
  obtain ⟨hloa, hc1⟩ := hR.ints ht1
  have hA0 := (hK.1.2 0 (E 0, .int) rfl).1
  obtain ⟨-, k0, hk0, cm0, hkk0⟩ := hA0 (mL w a0) (fun j => .int (mI w a0 j))
  obtain ⟨-, k1, hk1, cm1, hkk1⟩ := hA0 (mL w a) (fun j => .int (mI w a j))
  obtain ⟨vm', X', step⟩ := X.arraycopy B.exec hown (hts _ hf.1) (hts _ hf.2.1) (hts _ hf.2.2.1) (hts _ hf.2.2.2) (src := a0) (dst := a) (cs := arrV (E 0) (mL w a0) (fun j => .int (mI w a0 j))) (cd := arrV (E 0) (mL w a) (fun j => .int (mI w a j))) (srcPos := sp) (destPos := dp) (n := n) (by rw [hT]; exact hc0) (by rw [hT]; exact hc1)
    (fun _ h => by cases h) (fun _ h => by cases h) (fun h => by cases h) (fun h => by cases h) hk0 hk1 hkk0 hkk1 (by simp [refKind]) h1 h2 h3
    (by rw [nn sp h1, nn n h3]; rw [arrV_size]; omega)
    (by rw [nn dp h2, nn n h3]; rw [arrV_size]; omega)
    (fun vm₁ _ i hi => by
      have e : (arrV (E 0) (mL w a0) (fun j => Value.int (mI w a0 j))).slots.getD (sp.toNatClampNeg + i) .null = .int (mI w a0 (sp.toNatClampNeg + i)) := by
        rw [Array.getD_eq_getD_getElem?, arrV_read _ _ (by omega)]
        rfl
      refine ⟨?_, ?_⟩
      · rw [e]
        rfl
      · rw [e]
        exact trivial)
    (g := F0 m pc ls (.int n :: .int dp :: .ref a :: .int sp :: .ref a0 :: st)) rfl (by rw [hml]; exact hl.1) (rest := st) rfl (by rw [B.bytes]; exact hd) (by show 1 ≤ d + 1; omega) (by show 2 * 0 + _ + (5 + 2 + 11) ≤ 38 * (d + 1); omega)
  have e1 : copied (arrV (E 0) (mL w a0) (fun j => .int (mI w a0 j))) (arrV (E 0) (mL w a) (fun j => .int (mI w a j))) sp dp n = arrV (E 0) (mL w a) (fun j => .int (va_cpy (mI w a0) (mI w a) sp.toNatClampNeg dp.toNatClampNeg n.toNatClampNeg j)) := va_copied (fun z => .int z) (E 0) (E 0) (mI w a0) (mI w a) h4
  rw [e1] at X' step
  have hla : a < H.size := (Array.getElem?_eq_some_iff.mp hc1).1
  generalize hcell : arrV (E 0) (mL w a) (fun j => Value.int (va_cpy (mI w a0) (mI w a) sp.toNatClampNeg dp.toNatClampNeg n.toNatClampNeg j)) = cell at X' step
  have hheap : ((T.setVm vm').setCell a cell).heap = H.setIfInBounds a cell := by rw [← hT]; rfl
  have oq : ∀ q : Nat, q ≠ a → (H.setIfInBounds a cell)[q]? = H[q]? := fun q hq => by simp [Array.getElem?_setIfInBounds, Ne.symm hq]
  have sq : (H.setIfInBounds a cell)[a]? = some cell := by simp [Array.getElem?_setIfInBounds, hla]
  have zq : (H.setIfInBounds a cell).size = H.size := by simp
  have hR1 : mRep lo D E s (wrC w a0 sp.toNatClampNeg a dp.toNatClampNeg n.toNatClampNeg) (H.setIfInBounds a cell) := by
    refine hR.put zq oq hloa (fun _ => rfl) (fun _ => rfl) rfl (fun q hq => ?_) (fun q hq => rfl) ?_
    · funext j
      rw [mI_wrC, if_neg (fun z => hq z.1)]
    · refine ⟨fun z => by omega, fun z => ?_, fun z => by omega, fun z => by omega, fun z => by omega⟩
      rw [sq, ← hcell]
      congr 2
      funext j
      rw [mI_wrC]
      simp only [va_cpy, true_and]
  obtain ⟨t, a1, b1⟩ := kk l p e s m args below meth c s₁ D E lo B hml hK hlo ls _ _ hl hR1 ⟨by rw [zq]; exact hS.1, fun q g1 g2 => by
      rw [oq q (fun e => g2 (by rw [e]; exact hloa))]
      exact hS.2.1 q g1 g2, fun q hq => by
      rcases List.mem_append.mp hq with h | h
      · exact hS.2.2 q h
      · obtain ⟨z, -, hz⟩ := List.mem_map.mp h
        rw [← hz]
        exact hloa⟩ _ hheap X'
  exact ⟨t, step t a1, b1⟩
theorem g_switch {dflt lo' hi : Int} {offs : Array Int} {len : Nat} {x : Int32} (n : Nat) (off : Int) (tgt : Nat) (hd : decode μ.2.1 pc = .ok (.tableswitch dflt lo' hi offs, len)) (hx : x = nI n) (hn : n < 2 ^ 31) (h1 : ¬ (n : Int) < lo') (h2 : ¬ hi < (n : Int)) (ho : offs[((n : Int) - lo').toNat]? = some off) (ht : (pc : Int) + off = (tgt : Int)) (kk : mG d μ b tgt lv st w Q) : mG d μ b pc lv (.int x :: st) w Q := by
  subst hx
  intro l p e s m args below meth c s₁ D E lo B hml hK hlo ls H locs hl hR hS
  have e0 : (nI n).toInt = (n : Int) := nI_toInt hn
  exact lv_tableIn B.exec B.bytes hd (by rw [e0]; exact h1) (by rw [e0]; exact h2) (by rw [e0]; exact ho) ht (kk l p e s m args below meth c s₁ D E lo B hml hK hlo ls H locs hl hR hS)
end CROWS
