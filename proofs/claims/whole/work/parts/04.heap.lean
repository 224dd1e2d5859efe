/-! links, as the words have them -/
def mLkF (own : String) (idx ci k : Nat) (fin : Bool) : Prop := ∃ q : vw_C, mCls[ci]? = some q ∧ k < q.2.2 ∧ (q.2.1 k).1 = q.1 ∧ (q.2.1 k).2.2.2 = fin ∧ Cond.fieldLink own idx q.1 (q.2.1 k).2.1 (q.2.1 k).2.2.1 ∈ mWd
def mLkN (own : String) (idx ci : Nat) (n : Nat) : Prop := ∃ q : vw_C, mCls[ci]? = some q ∧ q.2.2 = n ∧ Cond.classLink own idx q.1 ∈ mWd ∧ Cond.instantiable q.1 q.2.2 ∈ mWd ∧ Cond.initialized q.1 ∈ mWd
def mLkO (own : String) (idx : Nat) : Prop := Cond.methodLink own idx Lib.objectInit ∈ mWd ∧ Cond.instanceMethod Lib.objectInit ∈ mWd ∧ Cond.code Lib.objectInit ⟨#[0xb1]⟩ 1 none ∈ mWd
def mLkX (own : String) (idx : Nat) : Prop := Cond.methodLink own idx Lib.Math.max.name ∈ mWd ∧ Cond.static Lib.Math.max.name ∈ mWd ∧ Cond.initialized "java/lang/Math" ∈ mWd ∧ Cond.code Lib.Math.max.name Lib.Math.max.code 2 (some .int) ∈ mWd
def mLkA (own : String) (idx : Nat) : Prop := Cond.methodLink own idx arraycopyName ∈ mWd ∧ Cond.native arraycopyName ∈ mWd ∧ Cond.static arraycopyName ∈ mWd ∧ Cond.initialized "java/lang/System" ∈ mWd
def mLkB (μ' : mM) (n : Nat) : Prop := Cond.code μ'.1 μ'.2.1 μ'.2.2.1 μ'.2.2.2.1 ∈ mWd ∧ Cond.initialized μ'.1.cls ∈ mWd ∧ (μ'.1.cls ≠ "java/lang/invoke/MethodHandle" ∧ μ'.1.cls ≠ "java/lang/invoke/VarHandle" ∧ (parseMethodDescriptor μ'.1.desc).map (fun d => d.parameters.length) = some n) ∧ μ'.2.2.1 ≤ 19
def mLkV (own : String) (idx : Nat) (μ' : mM) (ci n : Nat) : Prop := mLkB μ' n ∧ Cond.methodLink own idx μ'.1 ∈ mWd ∧ Cond.instanceMethod μ'.1 ∈ mWd ∧ Cond.selects μ'.1.cls μ'.1 μ'.1 ∈ mWd ∧ ∃ q : vw_C, mCls[ci]? = some q ∧ q.1 = μ'.1.cls
def mLkI (own : String) (idx : Nat) (μ' : mM) (n : Nat) : Prop := mLkB μ' n ∧ Cond.methodLink own idx μ'.1 ∈ mWd ∧ Cond.instanceMethod μ'.1 ∈ mWd ∧ μ'.1.name = "<init>"
def mLkS (own : String) (idx : Nat) (μ' : mM) (n : Nat) : Prop := mLkB μ' n ∧ Cond.methodLink own idx μ'.1 ∈ mWd ∧ Cond.static μ'.1 ∈ mWd
def mLkSN (own : String) (idx : Nat) (μ' : mM) (n : Nat) (host : String) : Prop := mLkB μ' n ∧ (own, idx, μ'.1, host) ∈ mNw ∧ Cond.static μ'.1 ∈ mWd
theorem mGood (μ μ' : mM) (h : Cond.code μ'.1 μ'.2.1 μ'.2.2.1 μ'.2.2.2.1 ∈ mWd) : GoodIn (mWs μ) (mWs μ') := by
  intro x hx
  have h1 : x ∈ mWd := by
    rcases List.mem_cons.mp hx with e | e
    · rw [e]; exact h
    · exact e
  exact ⟨List.mem_cons_of_mem _ h1, good_of_word (mWd_good x h1)⟩
theorem mRep.obj {lo : Nat} {D : va_G} {E : Nat → ClassId} {s : State} {w : mW} {H : Heap} (h : mRep lo D E s w H) {a ci : Nat} (ht : mT w a = ci + 1) (hc : ci < 19) {q : vw_C} (hq : mCls[ci]? = some q) : lo ≤ a ∧ a ≠ 0 ∧ t_OB a (D.1 ci) q.2.2 (D.2 ci) H (fun k => mV (mFT ci k) (mI w a k) (mP w a k)) := by
  obtain ⟨h0, h1, h2, h3, h4⟩ := h
  obtain ⟨g1, g2, g3, -⟩ := h3 a (by omega) (by omega)
  rw [ht] at g3
  obtain ⟨r, e1, e2⟩ := g3 (by omega)
  simp only [Nat.add_sub_cancel] at e1 e2
  cases hq.symm.trans e1
  exact ⟨g1, by omega, e2⟩
theorem mRep.ints {lo : Nat} {D : va_G} {E : Nat → ClassId} {s : State} {w : mW} {H : Heap} (h : mRep lo D E s w H) {a : Nat} (ht : mT w a = 20) : lo ≤ a ∧ H[a]? = some (arrV (E 0) (mL w a) (fun j => .int (mI w a j))) := by
  obtain ⟨g1, g2, g3⟩ := h.2.2.2.1 a (by omega) (by omega)
  exact ⟨g1, g3.2.1 ht⟩
theorem mRep.bools {lo : Nat} {D : va_G} {E : Nat → ClassId} {s : State} {w : mW} {H : Heap} (h : mRep lo D E s w H) {a : Nat} (ht : mT w a = 21) : lo ≤ a ∧ H[a]? = some (arrV (E 1) (mL w a) (fun j => .int (mI w a j))) := by
  obtain ⟨g1, g2, g3⟩ := h.2.2.2.1 a (by omega) (by omega)
  exact ⟨g1, g3.2.2.1 ht⟩
theorem mRep.refs2 {lo : Nat} {D : va_G} {E : Nat → ClassId} {s : State} {w : mW} {H : Heap} (h : mRep lo D E s w H) {a : Nat} (ht : mT w a = 22) : lo ≤ a ∧ H[a]? = some (arrV (E 2) (mL w a) (fun j => mR (mP w a j))) := by
  obtain ⟨g1, g2, g3⟩ := h.2.2.2.1 a (by omega) (by omega)
  exact ⟨g1, g3.2.2.2.1 ht⟩
theorem mRep.refs3 {lo : Nat} {D : va_G} {E : Nat → ClassId} {s : State} {w : mW} {H : Heap} (h : mRep lo D E s w H) {a : Nat} (ht : mT w a = 23) : lo ≤ a ∧ H[a]? = some (arrV (E 3) (mL w a) (fun j => mR (mP w a j))) := by
  obtain ⟨g1, g2, g3⟩ := h.2.2.2.1 a (by omega) (by omega)
  exact ⟨g1, g3.2.2.2.2 ht⟩
section FROWS
variable {d : Nat} {μ : mM} {b : Nat × Nat} {pc : Nat} {lv : List (Option Value)} {st : List Value} {w : mW} {Q : Int32 → mW → Prop}
theorem g_getI {idx a : Nat} (ci k : Nat) (fin : Bool) (hd : decode μ.2.1 pc = .ok (.getfield idx, 3)) (hf : mLkF μ.1.cls idx ci k fin) (hty : mFT ci k = .int) (hc : ci < 19) (kk : mT w a = ci + 1 ∧ mG d μ b (pc + 3) lv (.int (mI w a k) :: st) w Q) : mG d μ b pc lv (.ref a :: st) w Q := by
  obtain ⟨ht, kk⟩ := kk
  intro l p e s m args below meth c s₁ D E lo B hml hK hlo ls H locs hl hR hS
  have hts : ∀ w ∈ mWd, w.before args s = true := fun w h => atoms_spec (ws := mWs μ) B.pre w (List.mem_cons_of_mem _ h)
  have hown : s.vm.findClass μ.1.cls = some m.cls := findClass_of_methodNamed B.named
  obtain ⟨⟨C, T, N⟩, hq, hk, h1, -, hlk⟩ := hf
  dsimp only at hk h1 hlk
  obtain ⟨hin, hpf, hnm, -⟩ := mClsOk ci _ hq
  dsimp only at hin hpf hnm
  obtain ⟨-, -, cell, q1, q2, q3, q4⟩ := hR.obj ht hc hq
  obtain ⟨hS1, hfc, kC, hkC, hkind⟩ := hK.1.1 ci _ hq
  obtain ⟨cf, kf, fi, f, hi, hsl⟩ := hS1 k hk
  dsimp only at hi hfc
  have hst := (u_facts hfc hkC (u_lays hts hin hk) hi).1
  rw [h1] at hi
  refine W.getf B.exec B.bytes hown (hts _ hlk) hi hst q1 (by rw [q3]; exact fun h => by cases h) (v := .int (mI w a k)) ?_ rfl rfl hd (kk l p e s m args below meth c s₁ D E lo B hml hK hlo ls H locs hl hR hS)
  rw [hsl, q4 k hk]
  show some (mV (mFT ci k) (mI w a k) (mP w a k)) = _
  rw [hty]; rfl
theorem g_getP {idx a : Nat} (ci k : Nat) (fin : Bool) (hd : decode μ.2.1 pc = .ok (.getfield idx, 3)) (hf : mLkF μ.1.cls idx ci k fin) (hty : (mFT ci k).isReference = true) (hc : ci < 19) (kk : mT w a = ci + 1 ∧ mP w a k ≠ 0 ∧ mG d μ b (pc + 3) lv (.ref (mP w a k) :: st) w Q) : mG d μ b pc lv (.ref a :: st) w Q := by
  obtain ⟨ht, hne, kk⟩ := kk
  intro l p e s m args below meth c s₁ D E lo B hml hK hlo ls H locs hl hR hS
  have hts : ∀ w ∈ mWd, w.before args s = true := fun w h => atoms_spec (ws := mWs μ) B.pre w (List.mem_cons_of_mem _ h)
  have hown : s.vm.findClass μ.1.cls = some m.cls := findClass_of_methodNamed B.named
  obtain ⟨⟨C, T, N⟩, hq, hk, h1, -, hlk⟩ := hf
  dsimp only at hk h1 hlk
  obtain ⟨hin, hpf, hnm, -⟩ := mClsOk ci _ hq
  dsimp only at hin hpf hnm
  obtain ⟨-, -, cell, q1, q2, q3, q4⟩ := hR.obj ht hc hq
  obtain ⟨hS1, hfc, kC, hkC, hkind⟩ := hK.1.1 ci _ hq
  obtain ⟨cf, kf, fi, f, hi, hsl⟩ := hS1 k hk
  dsimp only at hi hfc
  have hst := (u_facts hfc hkC (u_lays hts hin hk) hi).1
  rw [h1] at hi
  refine W.getf B.exec B.bytes hown (hts _ hlk) hi hst q1 (by rw [q3]; exact fun h => by cases h) (v := .ref (mP w a k)) ?_ rfl rfl hd (kk l p e s m args below meth c s₁ D E lo B hml hK hlo ls H locs hl hR hS)
  rw [hsl, q4 k hk]
  show some (mV (mFT ci k) (mI w a k) (mP w a k)) = _
  rw [mV_ref hty, mR_ref hne]
theorem g_putI {idx a : Nat} {x : Int32} (ci k : Nat) (hd : decode μ.2.1 pc = .ok (.putfield idx, 3)) (hf : mLkF μ.1.cls idx ci k false) (hty : mFT ci k = .int) (hc : ci < 19) (kk : mT w a = ci + 1 ∧ ∀ w', w' = wrI w a k x → mG d μ b (pc + 3) lv st w' Q) : mG d μ b pc lv (.int x :: .ref a :: st) w Q := by
  obtain ⟨ht, kk⟩ := kk
  have kk := kk _ rfl
  intro l p e s m args below meth c s₁ D E lo B hml hK hlo ls H locs hl hR hS
  have hts : ∀ w ∈ mWd, w.before args s = true := fun w h => atoms_spec (ws := mWs μ) B.pre w (List.mem_cons_of_mem _ h)
  have hown : s.vm.findClass μ.1.cls = some m.cls := findClass_of_methodNamed B.named
  obtain ⟨⟨C, T, N⟩, hq, hk, h1, h2, hlk⟩ := hf
  dsimp only at hk h1 h2 hlk
  obtain ⟨hin, hpf, hnm, -⟩ := mClsOk ci _ hq
  dsimp only at hin hpf hnm
  obtain ⟨hloa, -, cell, q1, q2, q3, q4⟩ := hR.obj ht hc hq
  have hap := va_apart (own := μ.1.cls) hts hin (mFT ci) hpf hnm hK.1 hq
  obtain ⟨hS1, hfc, kC, hkC, hkind⟩ := hK.1.1 ci _ hq
  obtain ⟨cf, kf, fi, f, hi, hsl⟩ := hS1 k hk
  dsimp only at hi hfc
  have hlay := hts _ (hin _ (u_in_lay hk))
  unfold u_lay at hlay
  have hst := (u_facts hfc hkC (u_lays hts hin hk) hi).1
  have hd0 := hpf k hk
  have hn : narrow (mFT ci k) (.int x) = .int x := by
    rw [hty]; rfl
  have hfit : fits (mFT ci k) (.int x) = true := by
    rw [hty]; rfl
  rw [if_neg (by rw [h2]; decide)] at hlay
  have h6 := u_store hfc hkC hkind hlay hi hd0 hn hfit
  rw [h1] at hi
  refine W.putK B.exec B.bytes (f := f) ⟨hown, hts _ hlk, ⟨_, _, _, hi⟩, hst⟩ (by rw [q2]; exact h6) q1 q3 (by rw [hsl]; exact k2_hasslot (q4 k hk)) rfl rfl hd fun H1 e1 e2 e3 => ?_
  rw [hsl] at e1 ⊢
  have hO : t_OB a (D.1 ci) N (D.2 ci) H1 (updV (fun k => mV (mFT ci k) (mI w a k) (mP w a k)) k (.int x)) := ⟨_, e1, q2, q3, t_set q4 hap hk _⟩
  have hR1 : mRep lo D E s (wrI w a k x) H1 := by
    refine hR.put e2 e3 hloa (fun _ => rfl) (fun _ => rfl) rfl (fun q hq => ?_) (fun q hq => ?_) ?_
    · funext j
      rw [mI_wrI, if_neg (fun z => hq z.1)]
    · funext j
      rfl
    · rw [ht]
      refine ⟨fun _ => ⟨_, hq, hO.to (fun j hj => ?_)⟩, fun z => by omega, fun z => by omega, fun z => by omega, fun z => by omega⟩
      show updV _ k _ j = mV (mFT ci j) (mI (wrI w a k x) a j) (mP (wrI w a k x) a j)
      by_cases hjk : j = k
      · subst hjk
        rw [hty, mI_wrI, if_pos ⟨rfl, rfl⟩]; simp [updV, mV]
      · rw [mI_wrI, if_neg (fun z => hjk z.2), mP_wrI]
        simp [updV, hjk]
  exact kk l p e s m args below meth c s₁ D E lo B hml hK hlo ls H1 _ hl hR1 (hS.put e2 e3 hloa)
theorem g_putP {idx a : Nat} {x : Nat} (ci k : Nat) (hd : decode μ.2.1 pc = .ok (.putfield idx, 3)) (hf : mLkF μ.1.cls idx ci k false) (hty : (mFT ci k).isReference = true) (hc : ci < 19) (kk : mT w a = ci + 1 ∧ x ≠ 0 ∧ ∀ w', w' = wrP w a k x → mG d μ b (pc + 3) lv st w' Q) : mG d μ b pc lv (.ref x :: .ref a :: st) w Q := by
  obtain ⟨ht, hne, kk⟩ := kk
  have kk := kk _ rfl
  intro l p e s m args below meth c s₁ D E lo B hml hK hlo ls H locs hl hR hS
  have hts : ∀ w ∈ mWd, w.before args s = true := fun w h => atoms_spec (ws := mWs μ) B.pre w (List.mem_cons_of_mem _ h)
  have hown : s.vm.findClass μ.1.cls = some m.cls := findClass_of_methodNamed B.named
  obtain ⟨⟨C, T, N⟩, hq, hk, h1, h2, hlk⟩ := hf
  dsimp only at hk h1 h2 hlk
  obtain ⟨hin, hpf, hnm, -⟩ := mClsOk ci _ hq
  dsimp only at hin hpf hnm
  obtain ⟨hloa, -, cell, q1, q2, q3, q4⟩ := hR.obj ht hc hq
  have hap := va_apart (own := μ.1.cls) hts hin (mFT ci) hpf hnm hK.1 hq
  obtain ⟨hS1, hfc, kC, hkC, hkind⟩ := hK.1.1 ci _ hq
  obtain ⟨cf, kf, fi, f, hi, hsl⟩ := hS1 k hk
  dsimp only at hi hfc
  have hlay := hts _ (hin _ (u_in_lay hk))
  unfold u_lay at hlay
  have hst := (u_facts hfc hkC (u_lays hts hin hk) hi).1
  have hd0 := hpf k hk
  have hn : narrow (mFT ci k) (.ref x) = .ref x := by
    generalize mFT ci k = ty at hty; cases ty <;> first | rfl | exact absurd hty (by decide)
  have hfit : fits (mFT ci k) (.ref x) = true := by
    generalize mFT ci k = ty at hty; cases ty <;> first | rfl | exact absurd hty (by decide)
  rw [if_neg (by rw [h2]; decide)] at hlay
  have h6 := u_store hfc hkC hkind hlay hi hd0 hn hfit
  rw [h1] at hi
  refine W.putK B.exec B.bytes (f := f) ⟨hown, hts _ hlk, ⟨_, _, _, hi⟩, hst⟩ (by rw [q2]; exact h6) q1 q3 (by rw [hsl]; exact k2_hasslot (q4 k hk)) rfl rfl hd fun H1 e1 e2 e3 => ?_
  rw [hsl] at e1 ⊢
  have hO : t_OB a (D.1 ci) N (D.2 ci) H1 (updV (fun k => mV (mFT ci k) (mI w a k) (mP w a k)) k (.ref x)) := ⟨_, e1, q2, q3, t_set q4 hap hk _⟩
  have hR1 : mRep lo D E s (wrP w a k x) H1 := by
    refine hR.put e2 e3 hloa (fun _ => rfl) (fun _ => rfl) rfl (fun q hq => ?_) (fun q hq => ?_) ?_
    · funext j
      rfl
    · funext j
      rw [mP_wrP, if_neg (fun z => hq z.1)]
    · rw [ht]
      refine ⟨fun _ => ⟨_, hq, hO.to (fun j hj => ?_)⟩, fun z => by omega, fun z => by omega, fun z => by omega, fun z => by omega⟩
      show updV _ k _ j = mV (mFT ci j) (mI (wrP w a k x) a j) (mP (wrP w a k x) a j)
      by_cases hjk : j = k
      · subst hjk
        rw [mV_ref hty, mP_wrP, if_pos ⟨rfl, rfl⟩, mR_ref hne]; simp [updV]
      · rw [mP_wrP, if_neg (fun z => hjk z.2), mI_wrP]
        simp [updV, hjk]
  exact kk l p e s m args below meth c s₁ D E lo B hml hK hlo ls H1 _ hl hR1 (hS.put e2 e3 hloa)
theorem g_putIF {idx a : Nat} {x : Int32} (ci k : Nat) (hd : decode μ.2.1 pc = .ok (.putfield idx, 3)) (hf : mLkF μ.1.cls idx ci k true) (hty : mFT ci k = .int) (hc : ci < 19) (hini : μ.1.name = "<init>") (hoC : ∀ q : vw_C, mCls[ci]? = some q → q.1 = μ.1.cls) (kk : mT w a = ci + 1 ∧ ∀ w', w' = wrI w a k x → mG d μ b (pc + 3) lv st w' Q) : mG d μ b pc lv (.int x :: .ref a :: st) w Q := by
  obtain ⟨ht, kk⟩ := kk
  have kk := kk _ rfl
  intro l p e s m args below meth c s₁ D E lo B hml hK hlo ls H locs hl hR hS
  have hts : ∀ w ∈ mWd, w.before args s = true := fun w h => atoms_spec (ws := mWs μ) B.pre w (List.mem_cons_of_mem _ h)
  have hown : s.vm.findClass μ.1.cls = some m.cls := findClass_of_methodNamed B.named
  obtain ⟨⟨C, T, N⟩, hq, hk, h1, h2, hlk⟩ := hf
  dsimp only at hk h1 h2 hlk
  obtain ⟨hin, hpf, hnm, -⟩ := mClsOk ci _ hq
  dsimp only at hin hpf hnm
  obtain ⟨hloa, -, cell, q1, q2, q3, q4⟩ := hR.obj ht hc hq
  have hap := va_apart (own := μ.1.cls) hts hin (mFT ci) hpf hnm hK.1 hq
  obtain ⟨hS1, hfc, kC, hkC, hkind⟩ := hK.1.1 ci _ hq
  obtain ⟨cf, kf, fi, f, hi, hsl⟩ := hS1 k hk
  dsimp only at hi hfc
  have hlay := hts _ (hin _ (u_in_lay hk))
  unfold u_lay at hlay
  have hst := (u_facts hfc hkC (u_lays hts hin hk) hi).1
  have hd0 := hpf k hk
  have hn : narrow (mFT ci k) (.int x) = .int x := by
    rw [hty]; rfl
  have hfit : fits (mFT ci k) (.int x) = true := by
    rw [hty]; rfl
  rw [if_pos h2] at hlay
  have hcf : m.cls = cf := by
    obtain ⟨_, _, c', _, _, _, -, -, hf', -, -, -, hown2, -⟩ := Cond.laysFinal_spec hlay
    have e1 : c' = cf := by have := hi.symm.trans hf'; simp at this; exact this.1.symm
    have hoC2 : C = μ.1.cls := hoC _ hq
    rw [h1, hoC2] at hown2
    rw [← e1]; exact Option.some.inj (hown.symm.trans hown2)
  have hin2 : meth.name = "<init>" := (name_of_methodNamed B.named B.method).1.trans hini
  have h6 := u_fits hfc hkC hkind (Or.inr hlay) hi hd0 hn hfit
  rw [h1] at hi
  refine W.putFinK B.exec B.bytes hown (hts _ hlk) hi hst hcf hin2 (by rw [q2]; exact h6) q1 q3 (by rw [hsl]; exact k2_hasslot (q4 k hk)) rfl rfl hd fun H1 e1 e2 e3 => ?_
  rw [hsl] at e1 ⊢
  have hO : t_OB a (D.1 ci) N (D.2 ci) H1 (updV (fun k => mV (mFT ci k) (mI w a k) (mP w a k)) k (.int x)) := ⟨_, e1, q2, q3, t_set q4 hap hk _⟩
  have hR1 : mRep lo D E s (wrI w a k x) H1 := by
    refine hR.put e2 e3 hloa (fun _ => rfl) (fun _ => rfl) rfl (fun q hq => ?_) (fun q hq => ?_) ?_
    · funext j
      rw [mI_wrI, if_neg (fun z => hq z.1)]
    · funext j
      rfl
    · rw [ht]
      refine ⟨fun _ => ⟨_, hq, hO.to (fun j hj => ?_)⟩, fun z => by omega, fun z => by omega, fun z => by omega, fun z => by omega⟩
      show updV _ k _ j = mV (mFT ci j) (mI (wrI w a k x) a j) (mP (wrI w a k x) a j)
      by_cases hjk : j = k
      · subst hjk
        rw [hty, mI_wrI, if_pos ⟨rfl, rfl⟩]; simp [updV, mV]
      · rw [mI_wrI, if_neg (fun z => hjk z.2), mP_wrI]
        simp [updV, hjk]
  exact kk l p e s m args below meth c s₁ D E lo B hml hK hlo ls H1 _ hl hR1 (hS.put e2 e3 hloa)
theorem g_putPF {idx a : Nat} {x : Nat} (ci k : Nat) (hd : decode μ.2.1 pc = .ok (.putfield idx, 3)) (hf : mLkF μ.1.cls idx ci k true) (hty : (mFT ci k).isReference = true) (hc : ci < 19) (hini : μ.1.name = "<init>") (hoC : ∀ q : vw_C, mCls[ci]? = some q → q.1 = μ.1.cls) (kk : mT w a = ci + 1 ∧ x ≠ 0 ∧ ∀ w', w' = wrP w a k x → mG d μ b (pc + 3) lv st w' Q) : mG d μ b pc lv (.ref x :: .ref a :: st) w Q := by
  obtain ⟨ht, hne, kk⟩ := kk
  have kk := kk _ rfl
  intro l p e s m args below meth c s₁ D E lo B hml hK hlo ls H locs hl hR hS
  have hts : ∀ w ∈ mWd, w.before args s = true := fun w h => atoms_spec (ws := mWs μ) B.pre w (List.mem_cons_of_mem _ h)
  have hown : s.vm.findClass μ.1.cls = some m.cls := findClass_of_methodNamed B.named
  obtain ⟨⟨C, T, N⟩, hq, hk, h1, h2, hlk⟩ := hf
  dsimp only at hk h1 h2 hlk
  obtain ⟨hin, hpf, hnm, -⟩ := mClsOk ci _ hq
  dsimp only at hin hpf hnm
  obtain ⟨hloa, -, cell, q1, q2, q3, q4⟩ := hR.obj ht hc hq
  have hap := va_apart (own := μ.1.cls) hts hin (mFT ci) hpf hnm hK.1 hq
  obtain ⟨hS1, hfc, kC, hkC, hkind⟩ := hK.1.1 ci _ hq
  obtain ⟨cf, kf, fi, f, hi, hsl⟩ := hS1 k hk
  dsimp only at hi hfc
  have hlay := hts _ (hin _ (u_in_lay hk))
  unfold u_lay at hlay
  have hst := (u_facts hfc hkC (u_lays hts hin hk) hi).1
  have hd0 := hpf k hk
  have hn : narrow (mFT ci k) (.ref x) = .ref x := by
    generalize mFT ci k = ty at hty; cases ty <;> first | rfl | exact absurd hty (by decide)
  have hfit : fits (mFT ci k) (.ref x) = true := by
    generalize mFT ci k = ty at hty; cases ty <;> first | rfl | exact absurd hty (by decide)
  rw [if_pos h2] at hlay
  have hcf : m.cls = cf := by
    obtain ⟨_, _, c', _, _, _, -, -, hf', -, -, -, hown2, -⟩ := Cond.laysFinal_spec hlay
    have e1 : c' = cf := by have := hi.symm.trans hf'; simp at this; exact this.1.symm
    have hoC2 : C = μ.1.cls := hoC _ hq
    rw [h1, hoC2] at hown2
    rw [← e1]; exact Option.some.inj (hown.symm.trans hown2)
  have hin2 : meth.name = "<init>" := (name_of_methodNamed B.named B.method).1.trans hini
  have h6 := u_fits hfc hkC hkind (Or.inr hlay) hi hd0 hn hfit
  rw [h1] at hi
  refine W.putFinK B.exec B.bytes hown (hts _ hlk) hi hst hcf hin2 (by rw [q2]; exact h6) q1 q3 (by rw [hsl]; exact k2_hasslot (q4 k hk)) rfl rfl hd fun H1 e1 e2 e3 => ?_
  rw [hsl] at e1 ⊢
  have hO : t_OB a (D.1 ci) N (D.2 ci) H1 (updV (fun k => mV (mFT ci k) (mI w a k) (mP w a k)) k (.ref x)) := ⟨_, e1, q2, q3, t_set q4 hap hk _⟩
  have hR1 : mRep lo D E s (wrP w a k x) H1 := by
    refine hR.put e2 e3 hloa (fun _ => rfl) (fun _ => rfl) rfl (fun q hq => ?_) (fun q hq => ?_) ?_
    · funext j
      rfl
    · funext j
      rw [mP_wrP, if_neg (fun z => hq z.1)]
    · rw [ht]
      refine ⟨fun _ => ⟨_, hq, hO.to (fun j hj => ?_)⟩, fun z => by omega, fun z => by omega, fun z => by omega, fun z => by omega⟩
      show updV _ k _ j = mV (mFT ci j) (mI (wrP w a k x) a j) (mP (wrP w a k x) a j)
      by_cases hjk : j = k
      · subst hjk
        rw [mV_ref hty, mP_wrP, if_pos ⟨rfl, rfl⟩, mR_ref hne]; simp [updV]
      · rw [mP_wrP, if_neg (fun z => hjk z.2), mI_wrP]
        simp [updV, hjk]
  exact kk l p e s m args below meth c s₁ D E lo B hml hK hlo ls H1 _ hl hR1 (hS.put e2 e3 hloa)
theorem g_iaload {a : Nat} {i : Int32} (hd : decode μ.2.1 pc = .ok (.iaload, 1)) (kk : mT w a = 20 ∧ vp_in i (mL w a) ∧ mG d μ b (pc + 1) lv (.int (mI w a i.toNatClampNeg) :: st) w Q) : mG d μ b pc lv (.int i :: .ref a :: st) w Q := by
  obtain ⟨ht, hin, kk⟩ := kk
  intro l p e s m args below meth c s₁ D E lo B hml hK hlo ls H locs hl hR hS
  obtain ⟨hloa, hc⟩ := hR.ints ht
  have hlt : i.toNatClampNeg < mL w a := Nat.not_le.mp fun q => hin (Or.inr q)
  exact W.iald (v := .int (mI w a i.toNatClampNeg)) B.exec B.bytes hc ((hK.1.2 0 (E 0, .int) rfl).1 _ _) (fun q => by cases q) (by rw [arrV_size]; exact hin) (by rw [arrV_read _ _ hlt]) rfl rfl hd (kk l p e s m args below meth c s₁ D E lo B hml hK hlo ls H locs hl hR hS)
theorem g_baload {a : Nat} {i : Int32} (hd : decode μ.2.1 pc = .ok (.baload, 1)) (kk : mT w a = 21 ∧ vp_in i (mL w a) ∧ mG d μ b (pc + 1) lv (.int (mI w a i.toNatClampNeg) :: st) w Q) : mG d μ b pc lv (.int i :: .ref a :: st) w Q := by
  obtain ⟨ht, hin, kk⟩ := kk
  intro l p e s m args below meth c s₁ D E lo B hml hK hlo ls H locs hl hR hS
  obtain ⟨hloa, hc⟩ := hR.bools ht
  have hlt : i.toNatClampNeg < mL w a := Nat.not_le.mp fun q => hin (Or.inr q)
  exact W.zald (v := .int (mI w a i.toNatClampNeg)) B.exec B.bytes hc ((hK.1.2 1 (E 1, .boolean) rfl).1 _ _) (fun q => by cases q) (by rw [arrV_size]; exact hin) (by rw [arrV_read _ _ hlt]) rfl rfl hd (kk l p e s m args below meth c s₁ D E lo B hml hK hlo ls H locs hl hR hS)
theorem g_iastore {a : Nat} {i x : Int32} (hd : decode μ.2.1 pc = .ok (.iastore, 1)) (kk : mT w a = 20 ∧ vp_in i (mL w a) ∧ ∀ w', w' = wrI w a i.toNatClampNeg x → mG d μ b (pc + 1) lv st w' Q) : mG d μ b pc lv (.int x :: .int i :: .ref a :: st) w Q := by
  obtain ⟨ht, hin, kk⟩ := kk
  have kk := kk _ rfl
  intro l p e s m args below meth c s₁ D E lo B hml hK hlo ls H locs hl hR hS
  obtain ⟨hloa, hc⟩ := hR.ints ht
  refine W.iast B.exec B.bytes hc ((hK.1.2 0 (E 0, .int) rfl).1 _ _) (fun q => by cases q) (by rw [arrV_size]; exact hin) rfl rfl hd fun H1 e1 e2 e3 => ?_
  have hR1 : mRep lo D E s (wrI w a i.toNatClampNeg x) H1 := by
    refine hR.put e2 e3 hloa (fun _ => rfl) (fun _ => rfl) rfl (fun q hq => ?_) (fun q hq => rfl) ?_
    · funext j
      rw [mI_wrI, if_neg (fun z => hq z.1)]
    · have e4 : H1[a]? = some (arrV (E 0) (mL w a) (fun j => .int (mI (wrI w a i.toNatClampNeg x) a j))) := by
        rw [e1, arrV_store]
        congr 2
        funext j
        rw [mI_wrI]
        by_cases hj : j = i.toNatClampNeg
        · simp [updV, hj]
        · simp [updV, hj]
      refine ⟨fun z => by omega, fun z => e4, fun z => by omega, fun z => by omega, fun z => by omega⟩
  exact kk l p e s m args below meth c s₁ D E lo B hml hK hlo ls H1 _ hl hR1 (hS.put e2 e3 hloa)
theorem g_bastore {a : Nat} {i x : Int32} (hd : decode μ.2.1 pc = .ok (.bastore, 1)) (kk : mT w a = 21 ∧ vp_in i (mL w a) ∧ ∀ w', w' = wrI w a i.toNatClampNeg (x &&& 1) → mG d μ b (pc + 1) lv st w' Q) : mG d μ b pc lv (.int x :: .int i :: .ref a :: st) w Q := by
  obtain ⟨ht, hin, kk⟩ := kk
  have kk := kk _ rfl
  intro l p e s m args below meth c s₁ D E lo B hml hK hlo ls H locs hl hR hS
  obtain ⟨hloa, hc⟩ := hR.bools ht
  refine W.zast B.exec B.bytes hc ((hK.1.2 1 (E 1, .boolean) rfl).1 _ _) (fun q => by cases q) (by rw [arrV_size]; exact hin) rfl rfl hd fun H1 e1 e2 e3 => ?_
  have hR1 : mRep lo D E s (wrI w a i.toNatClampNeg (x &&& 1)) H1 := by
    refine hR.put e2 e3 hloa (fun _ => rfl) (fun _ => rfl) rfl (fun q hq => ?_) (fun q hq => rfl) ?_
    · funext j
      rw [mI_wrI, if_neg (fun z => hq z.1)]
    · have e4 : H1[a]? = some (arrV (E 1) (mL w a) (fun j => .int (mI (wrI w a i.toNatClampNeg (x &&& 1)) a j))) := by
        rw [e1, arrV_store]
        congr 2
        funext j
        rw [mI_wrI]
        by_cases hj : j = i.toNatClampNeg
        · simp [updV, hj, narrow]
        · simp [updV, hj]
      refine ⟨fun z => by omega, fun z => by omega, fun z => e4, fun z => by omega, fun z => by omega⟩
  exact kk l p e s m args below meth c s₁ D E lo B hml hK hlo ls H1 _ hl hR1 (hS.put e2 e3 hloa)
theorem g_aaload2 {a : Nat} {i : Int32} (hd : decode μ.2.1 pc = .ok (.aaload, 1)) (kk : mT w a = 22 ∧ vp_in i (mL w a) ∧ mP w a i.toNatClampNeg ≠ 0 ∧ mG d μ b (pc + 1) lv (.ref (mP w a i.toNatClampNeg) :: st) w Q) : mG d μ b pc lv (.int i :: .ref a :: st) w Q := by
  obtain ⟨ht, hin, hne, kk⟩ := kk
  intro l p e s m args below meth c s₁ D E lo B hml hK hlo ls H locs hl hR hS
  obtain ⟨hloa, hc⟩ := hR.refs2 ht
  have hlt : i.toNatClampNeg < mL w a := Nat.not_le.mp fun q => hin (Or.inr q)
  exact W.aald (v := .ref (mP w a i.toNatClampNeg)) (ty := .object mCop) B.exec B.bytes hc ((hK.1.2 2 (E 2, .object mCop) rfl).1 _ _) rfl (fun q => by cases q) (by rw [arrV_size]; exact hin) (by rw [arrV_read _ _ hlt, mR_ref hne]) rfl rfl hd (kk l p e s m args below meth c s₁ D E lo B hml hK hlo ls H locs hl hR hS)
theorem g_aaload3 {a : Nat} {i : Int32} (hd : decode μ.2.1 pc = .ok (.aaload, 1)) (kk : mT w a = 23 ∧ vp_in i (mL w a) ∧ mP w a i.toNatClampNeg ≠ 0 ∧ mG d μ b (pc + 1) lv (.ref (mP w a i.toNatClampNeg) :: st) w Q) : mG d μ b pc lv (.int i :: .ref a :: st) w Q := by
  obtain ⟨ht, hin, hne, kk⟩ := kk
  intro l p e s m args below meth c s₁ D E lo B hml hK hlo ls H locs hl hR hS
  obtain ⟨hloa, hc⟩ := hR.refs3 ht
  have hlt : i.toNatClampNeg < mL w a := Nat.not_le.mp fun q => hin (Or.inr q)
  exact W.aald (v := .ref (mP w a i.toNatClampNeg)) (ty := .object mCre) B.exec B.bytes hc ((hK.1.2 3 (E 3, .object mCre) rfl).1 _ _) rfl (fun q => by cases q) (by rw [arrV_size]; exact hin) (by rw [arrV_read _ _ hlt, mR_ref hne]) rfl rfl hd (kk l p e s m args below meth c s₁ D E lo B hml hK hlo ls H locs hl hR hS)
theorem g_aastore2 {a x : Nat} {i : Int32} (hd : decode μ.2.1 pc = .ok (.aastore, 1)) (kk : mT w a = 22 ∧ vp_in i (mL w a) ∧ mT w x = mIop + 1 ∧ ∀ w', w' = wrP w a i.toNatClampNeg x → mG d μ b (pc + 1) lv st w' Q) : mG d μ b pc lv (.ref x :: .int i :: .ref a :: st) w Q := by
  obtain ⟨ht, hin, htx, kk⟩ := kk
  have kk := kk _ rfl
  intro l p e s m args below meth c s₁ D E lo B hml hK hlo ls H locs hl hR hS
  obtain ⟨hloa, hc⟩ := hR.refs2 ht
  obtain ⟨q, hq, hqC⟩ := mIop_ok
  obtain ⟨-, hx0, cellV, g1, g2, g3, -⟩ := hR.obj htx mIop_lt hq
  have hcls := (hK.1.1 mIop q hq).2
  rw [hqC] at hcls
  obtain ⟨kA, comp, k1, k2, k3, -⟩ := (hK.1.2 2 (E 2, .object mCop) rfl).2
  have hcomp : comp = D.1 mIop := Option.some.inj (k3.symm.trans hcls.1)
  subst hcomp
  obtain ⟨kC, hkC, -⟩ := hcls.2
  have hlt : i.toNatClampNeg < mL w a := Nat.not_le.mp fun q => hin (Or.inr q)
  have h0 : ¬ i < 0 := fun q => hin (Or.inl q)
  refine W.aast B.exec B.bytes hc (fun q h => by cases h) (fun h => by cases h) k1 k2 rfl hkC ⟨h0, by rw [arrV_size]; exact hlt⟩ g1 (fun q h => by rw [g3] at h; cases h) (by rw [g2]; exact hkC) (by rw [g2]; exact va_assign hcls) rfl rfl hd fun H1 e1 e2 e3 => ?_
  have hR1 : mRep lo D E s (wrP w a i.toNatClampNeg x) H1 := by
    refine hR.put e2 e3 hloa (fun _ => rfl) (fun _ => rfl) rfl (fun q hq => rfl) (fun q hq => ?_) ?_
    · funext j
      rw [mP_wrP, if_neg (fun z => hq z.1)]
    · have e4 : H1[a]? = some (arrV (E 2) (mL w a) (fun j => mR (mP (wrP w a i.toNatClampNeg x) a j))) := by
        rw [e1, arrV_store]
        congr 2
        funext j
        rw [mP_wrP]
        by_cases hj : j = i.toNatClampNeg
        · simp [updV, hj, mR_ref hx0]
        · simp [updV, hj]
      refine ⟨fun z => by omega, fun z => by omega, fun z => by omega, fun z => e4, fun z => by omega⟩
  exact kk l p e s m args below meth c s₁ D E lo B hml hK hlo ls H1 _ hl hR1 (hS.put e2 e3 hloa)
theorem g_aastore3 {a x : Nat} {i : Int32} (hd : decode μ.2.1 pc = .ok (.aastore, 1)) (kk : mT w a = 23 ∧ vp_in i (mL w a) ∧ mT w x = mIre + 1 ∧ ∀ w', w' = wrP w a i.toNatClampNeg x → mG d μ b (pc + 1) lv st w' Q) : mG d μ b pc lv (.ref x :: .int i :: .ref a :: st) w Q := by
  obtain ⟨ht, hin, htx, kk⟩ := kk
  have kk := kk _ rfl
  intro l p e s m args below meth c s₁ D E lo B hml hK hlo ls H locs hl hR hS
  obtain ⟨hloa, hc⟩ := hR.refs3 ht
  obtain ⟨q, hq, hqC⟩ := mIre_ok
  obtain ⟨-, hx0, cellV, g1, g2, g3, -⟩ := hR.obj htx mIre_lt hq
  have hcls := (hK.1.1 mIre q hq).2
  rw [hqC] at hcls
  obtain ⟨kA, comp, k1, k2, k3, -⟩ := (hK.1.2 3 (E 3, .object mCre) rfl).2
  have hcomp : comp = D.1 mIre := Option.some.inj (k3.symm.trans hcls.1)
  subst hcomp
  obtain ⟨kC, hkC, -⟩ := hcls.2
  have hlt : i.toNatClampNeg < mL w a := Nat.not_le.mp fun q => hin (Or.inr q)
  have h0 : ¬ i < 0 := fun q => hin (Or.inl q)
  refine W.aast B.exec B.bytes hc (fun q h => by cases h) (fun h => by cases h) k1 k2 rfl hkC ⟨h0, by rw [arrV_size]; exact hlt⟩ g1 (fun q h => by rw [g3] at h; cases h) (by rw [g2]; exact hkC) (by rw [g2]; exact va_assign hcls) rfl rfl hd fun H1 e1 e2 e3 => ?_
  have hR1 : mRep lo D E s (wrP w a i.toNatClampNeg x) H1 := by
    refine hR.put e2 e3 hloa (fun _ => rfl) (fun _ => rfl) rfl (fun q hq => rfl) (fun q hq => ?_) ?_
    · funext j
      rw [mP_wrP, if_neg (fun z => hq z.1)]
    · have e4 : H1[a]? = some (arrV (E 3) (mL w a) (fun j => mR (mP (wrP w a i.toNatClampNeg x) a j))) := by
        rw [e1, arrV_store]
        congr 2
        funext j
        rw [mP_wrP]
        by_cases hj : j = i.toNatClampNeg
        · simp [updV, hj, mR_ref hx0]
        · simp [updV, hj]
      refine ⟨fun z => by omega, fun z => by omega, fun z => by omega, fun z => by omega, fun z => e4⟩
  exact kk l p e s m args below meth c s₁ D E lo B hml hK hlo ls H1 _ hl hR1 (hS.put e2 e3 hloa)
theorem g_saload {a : Nat} {i : Int32} (hd : decode μ.2.1 pc = .ok (.iaload, 1)) (kk : mT w a = 30 ∧ vp_in i (mL w a) ∧ mG d μ b (pc + 1) lv (.int (mI w a i.toNatClampNeg) :: st) w Q) : mG d μ b pc lv (.int i :: .ref a :: st) w Q := by
  obtain ⟨ht, hin, kk⟩ := kk
  intro l p e s m args below meth c s₁ D E lo B hml hK hlo ls H locs hl hR hS
  obtain ⟨-, scr, h1, h2, h3, h4, h5⟩ := hR.2.2.2.2 a ht
  have hlt : i.toNatClampNeg < mL w a := Nat.not_le.mp fun q => hin (Or.inr q)
  exact W.iald (v := .int (mI w a i.toNatClampNeg)) B.exec B.bytes h1 h2 h3 (by rw [h4]; exact hin) (h5 _ hlt) rfl rfl hd (kk l p e s m args below meth c s₁ D E lo B hml hK hlo ls H locs hl hR hS)
theorem g_slen {a : Nat} (hd : decode μ.2.1 pc = .ok (.arraylength, 1)) (kk : mT w a = 30 ∧ mG d μ b (pc + 1) lv (.int (nI (mL w a)) :: st) w Q) : mG d μ b pc lv (.ref a :: st) w Q := by
  obtain ⟨ht, kk⟩ := kk
  intro l p e s m args below meth c s₁ D E lo B hml hK hlo ls H locs hl hR hS
  obtain ⟨-, scr, h1, h2, h3, h4, h5⟩ := hR.2.2.2.2 a ht
  exact W.alen (n := nI (mL w a)) B.exec B.bytes h1 h2 (by rw [h4] <;> rfl) rfl rfl hd (kk l p e s m args below meth c s₁ D E lo B hml hK hlo ls H locs hl hR hS)
theorem g_new {idx : Nat} (ci n : Nat) (hd : decode μ.2.1 pc = .ok (.new idx, 3)) (hf : mLkN μ.1.cls idx ci n) (hc : ci < 19) (hb : b.1 + 1 ≤ μ.2.2.2.2.1 ∧ b.2 + n ≤ μ.2.2.2.2.2) (b' : Nat × Nat) (hb' : (b.1 + 1, b.2 + n) = b') (kk : ∀ w', w' = wrN w (ci + 1) 0 → mG d μ b' (pc + 3) lv (.ref (mZ w) :: st) w' Q) : mG d μ b pc lv st w Q := by
  have kk := kk _ rfl
  intro l p e s m args below meth c s₁ D E lo B hml hK hlo ls H locs hl hR hS
  have hts : ∀ w ∈ mWd, w.before args s = true := fun w h => atoms_spec (ws := mWs μ) B.pre w (List.mem_cons_of_mem _ h)
  have hown : s.vm.findClass μ.1.cls = some m.cls := findClass_of_methodNamed B.named
  subst hb'
  obtain ⟨⟨C, T, N⟩, hq, rfl, hw1, hw2, hw3⟩ := hf
  dsimp only at hw1 hw2 hw3 hb kk ⊢
  obtain ⟨hin, hpf, hnm, hir⟩ := mClsOk ci _ hq
  dsimp only at hin hpf hnm hir
  have hKn := hK.1.1 ci _ hq
  refine W.newcK B.exec B.bytes hown (hts _ hw1) (hts _ hw2) (hts _ hw3) rfl hd hb.1 hb.2 hKn.2.1 rfl fun H1 kC hkC e1 z1 o1 => ?_
  have hO := u_born (mFT ci) hts hin hKn hkC e1 hpf
  have hR1 : mRep lo D E s (wrN w (ci + 1) 0) H1 := by
    refine hR.new z1 o1 (by omega) ⟨fun _ => ⟨_, hq, ?_⟩, fun z => by omega, fun z => by omega, fun z => by omega, fun z => by omega⟩
    simp only [Nat.add_sub_cancel]
    rw [← hR.2.1]
    exact hO.to (fun j hj => mV_def (hir j hj))
  have hS1 : va_S (fun q => lo ≤ q) s.heap H1 locs := ⟨Nat.le_trans hS.1 (by omega), fun x h1 h2 => (o1 x (Nat.lt_of_lt_of_le h1 hS.1)).trans (hS.2.1 x h1 h2), hS.2.2⟩
  have g := kk l p e s m args below meth c s₁ D E lo B hml hK hlo ls H1 locs hl hR1 hS1
  rw [← hR.2.1] at g
  exact g
theorem g_newI {v : Int32} (n : Nat) (hd : decode μ.2.1 pc = .ok (.newarray .int, 2)) (hw : Cond.arrayClass .int ∈ mWd) (hv : v = nI n) (hn : n < 10000) (hb : b.1 + 1 ≤ μ.2.2.2.2.1 ∧ b.2 + n ≤ μ.2.2.2.2.2) (b' : Nat × Nat) (hb' : (b.1 + 1, b.2 + n) = b') (kk : ∀ w', w' = wrN w 20 n → mG d μ b' (pc + 2) lv (.ref (mZ w) :: st) w' Q) : mG d μ b pc lv (.int v :: st) w Q := by
  have kk := kk _ rfl
  subst hv
  subst hb'
  intro l p e s m args below meth c s₁ D E lo B hml hK hlo ls H locs hl hR hS
  have hts : ∀ w ∈ mWd, w.before args s = true := fun w h => atoms_spec (ws := mWs μ) B.pre w (List.mem_cons_of_mem _ h)
  have hown : s.vm.findClass μ.1.cls = some m.cls := findClass_of_methodNamed B.named
  have hby : n * componentBytes (newarray.typeOf .int) ≤ 536870912 := by
    have h8 : componentBytes (newarray.typeOf .int) ≤ 8 := by decide
    exact Nat.le_trans (Nat.mul_le_mul_left n h8) (by omega)
  refine va_newaK (atype := .int) B.exec B.bytes (hts _ hw) rfl hd rfl (nI_pos (by omega)) (nI_clamp (by omega)) hby hb.1 hb.2 rfl fun H1 cA e1 z1 o1 hA hN => ?_
  have hcA : cA = E 0 := Option.some.inj (hN.symm.trans (hK.1.2 0 (E 0, .int) rfl).2)
  subst hcA
  have hR1 : mRep lo D E s (wrN w 20 n) H1 := by
    refine hR.new z1 o1 (by omega) ?_
    rw [← hR.2.1]
    refine ⟨fun z => by omega, fun z => e1, fun z => by omega, fun z => by omega, fun z => by omega⟩
  have hS1 : va_S (fun q => lo ≤ q) s.heap H1 locs := ⟨Nat.le_trans hS.1 (by omega), fun x h1 h2 => (o1 x (Nat.lt_of_lt_of_le h1 hS.1)).trans (hS.2.1 x h1 h2), hS.2.2⟩
  have g := kk l p e s m args below meth c s₁ D E lo B hml hK hlo ls H1 locs hl hR1 hS1
  rw [← hR.2.1] at g
  exact g
theorem g_newZ {v : Int32} (n : Nat) (hd : decode μ.2.1 pc = .ok (.newarray .boolean, 2)) (hw : Cond.arrayClass .boolean ∈ mWd) (hv : v = nI n) (hn : n < 10000) (hb : b.1 + 1 ≤ μ.2.2.2.2.1 ∧ b.2 + n ≤ μ.2.2.2.2.2) (b' : Nat × Nat) (hb' : (b.1 + 1, b.2 + n) = b') (kk : ∀ w', w' = wrN w 21 n → mG d μ b' (pc + 2) lv (.ref (mZ w) :: st) w' Q) : mG d μ b pc lv (.int v :: st) w Q := by
  have kk := kk _ rfl
  subst hv
  subst hb'
  intro l p e s m args below meth c s₁ D E lo B hml hK hlo ls H locs hl hR hS
  have hts : ∀ w ∈ mWd, w.before args s = true := fun w h => atoms_spec (ws := mWs μ) B.pre w (List.mem_cons_of_mem _ h)
  have hown : s.vm.findClass μ.1.cls = some m.cls := findClass_of_methodNamed B.named
  have hby : n * componentBytes (newarray.typeOf .boolean) ≤ 536870912 := by
    have h8 : componentBytes (newarray.typeOf .boolean) ≤ 8 := by decide
    exact Nat.le_trans (Nat.mul_le_mul_left n h8) (by omega)
  refine va_newaK (atype := .boolean) B.exec B.bytes (hts _ hw) rfl hd rfl (nI_pos (by omega)) (nI_clamp (by omega)) hby hb.1 hb.2 rfl fun H1 cA e1 z1 o1 hA hN => ?_
  have hcA : cA = E 1 := Option.some.inj (hN.symm.trans (hK.1.2 1 (E 1, .boolean) rfl).2)
  subst hcA
  have hR1 : mRep lo D E s (wrN w 21 n) H1 := by
    refine hR.new z1 o1 (by omega) ?_
    rw [← hR.2.1]
    refine ⟨fun z => by omega, fun z => by omega, fun z => e1, fun z => by omega, fun z => by omega⟩
  have hS1 : va_S (fun q => lo ≤ q) s.heap H1 locs := ⟨Nat.le_trans hS.1 (by omega), fun x h1 h2 => (o1 x (Nat.lt_of_lt_of_le h1 hS.1)).trans (hS.2.1 x h1 h2), hS.2.2⟩
  have g := kk l p e s m args below meth c s₁ D E lo B hml hK hlo ls H1 locs hl hR1 hS1
  rw [← hR.2.1] at g
  exact g
theorem g_anew2 {idx : Nat} {v : Int32} (n : Nat) (hd : decode μ.2.1 pc = .ok (.anewarray idx, 3)) (hw : Cond.classLink μ.1.cls idx mCop ∈ mWd) (hv : v = nI n) (hn : n < 10000) (hb : b.1 + 1 ≤ μ.2.2.2.2.1 ∧ b.2 + n ≤ μ.2.2.2.2.2) (b' : Nat × Nat) (hb' : (b.1 + 1, b.2 + n) = b') (kk : ∀ w', w' = wrN w 22 n → mG d μ b' (pc + 3) lv (.ref (mZ w) :: st) w' Q) : mG d μ b pc lv (.int v :: st) w Q := by
  have kk := kk _ rfl
  subst hv
  subst hb'
  intro l p e s m args below meth c s₁ D E lo B hml hK hlo ls H locs hl hR hS
  have hts : ∀ w ∈ mWd, w.before args s = true := fun w h => atoms_spec (ws := mWs μ) B.pre w (List.mem_cons_of_mem _ h)
  have hown : s.vm.findClass μ.1.cls = some m.cls := findClass_of_methodNamed B.named
  have hcl : (nI n).toNatClampNeg = n := nI_clamp (by omega)
  refine W.anew B.exec B.bytes hown (hts _ hw) (va_AO.use hK.2.1.1) rfl hd rfl (nI_pos (by omega)) (by rw [hcl]; omega) hb.1 (by rw [hcl]; exact hb.2) fun cA kA comp f1 f2 f3 f4 => ?_
  rw [hcl]
  generalize hH1 : H.push ({ cls := cA, slots := Array.replicate n .null, vm := .none } : Cell) = H1
  have z1 : H1.size = H.size + 1 := by rw [← hH1, Array.size_push]
  have e1 : H1[H.size]? = some (arrV cA n (fun _ => .null)) := by rw [← hH1, Array.getElem?_push_size, ← arrV_new]
  have o1 : ∀ q : Nat, q < H.size → H1[q]? = H[q]? := fun q hq => by rw [← hH1, Array.getElem?_push, if_neg (Nat.ne_of_lt hq)]
  obtain ⟨kA2, comp2, -, -, -, hN⟩ := (hK.1.2 2 (E 2, .object mCop) rfl).2
  have hcA : cA = E 2 := Option.some.inj (f1.symm.trans hN)
  subst hcA
  have hR1 : mRep lo D E s (wrN w 22 n) H1 := by
    refine hR.new z1 o1 (by omega) ?_
    rw [← hR.2.1]
    refine ⟨fun z => by omega, fun z => by omega, fun z => by omega, fun z => e1, fun z => by omega⟩
  have hS1 : va_S (fun q => lo ≤ q) s.heap H1 locs := ⟨Nat.le_trans hS.1 (by omega), fun x h1 h2 => (o1 x (Nat.lt_of_lt_of_le h1 hS.1)).trans (hS.2.1 x h1 h2), hS.2.2⟩
  have g := kk l p e s m args below meth c s₁ D E lo B hml hK hlo ls H1 locs hl hR1 hS1
  rw [← hR.2.1] at g
  exact g
theorem g_anew3 {idx : Nat} {v : Int32} (n : Nat) (hd : decode μ.2.1 pc = .ok (.anewarray idx, 3)) (hw : Cond.classLink μ.1.cls idx mCre ∈ mWd) (hv : v = nI n) (hn : n < 10000) (hb : b.1 + 1 ≤ μ.2.2.2.2.1 ∧ b.2 + n ≤ μ.2.2.2.2.2) (b' : Nat × Nat) (hb' : (b.1 + 1, b.2 + n) = b') (kk : ∀ w', w' = wrN w 23 n → mG d μ b' (pc + 3) lv (.ref (mZ w) :: st) w' Q) : mG d μ b pc lv (.int v :: st) w Q := by
  have kk := kk _ rfl
  subst hv
  subst hb'
  intro l p e s m args below meth c s₁ D E lo B hml hK hlo ls H locs hl hR hS
  have hts : ∀ w ∈ mWd, w.before args s = true := fun w h => atoms_spec (ws := mWs μ) B.pre w (List.mem_cons_of_mem _ h)
  have hown : s.vm.findClass μ.1.cls = some m.cls := findClass_of_methodNamed B.named
  have hcl : (nI n).toNatClampNeg = n := nI_clamp (by omega)
  refine W.anew B.exec B.bytes hown (hts _ hw) (va_AO.use hK.2.1.2) rfl hd rfl (nI_pos (by omega)) (by rw [hcl]; omega) hb.1 (by rw [hcl]; exact hb.2) fun cA kA comp f1 f2 f3 f4 => ?_
  rw [hcl]
  generalize hH1 : H.push ({ cls := cA, slots := Array.replicate n .null, vm := .none } : Cell) = H1
  have z1 : H1.size = H.size + 1 := by rw [← hH1, Array.size_push]
  have e1 : H1[H.size]? = some (arrV cA n (fun _ => .null)) := by rw [← hH1, Array.getElem?_push_size, ← arrV_new]
  have o1 : ∀ q : Nat, q < H.size → H1[q]? = H[q]? := fun q hq => by rw [← hH1, Array.getElem?_push, if_neg (Nat.ne_of_lt hq)]
  obtain ⟨kA2, comp2, -, -, -, hN⟩ := (hK.1.2 3 (E 3, .object mCre) rfl).2
  have hcA : cA = E 3 := Option.some.inj (f1.symm.trans hN)
  subst hcA
  have hR1 : mRep lo D E s (wrN w 23 n) H1 := by
    refine hR.new z1 o1 (by omega) ?_
    rw [← hR.2.1]
    refine ⟨fun z => by omega, fun z => by omega, fun z => by omega, fun z => by omega, fun z => e1⟩
  have hS1 : va_S (fun q => lo ≤ q) s.heap H1 locs := ⟨Nat.le_trans hS.1 (by omega), fun x h1 h2 => (o1 x (Nat.lt_of_lt_of_le h1 hS.1)).trans (hS.2.1 x h1 h2), hS.2.2⟩
  have g := kk l p e s m args below meth c s₁ D E lo B hml hK hlo ls H1 locs hl hR1 hS1
  rw [← hR.2.1] at g
  exact g
theorem g_iret {r : Int32} (hr : μ.2.2.2.1 = some .int) (hd : decode μ.2.1 pc = .ok (.ireturn, 1)) (hb : b.1 ≤ μ.2.2.2.2.1 ∧ b.2 ≤ μ.2.2.2.2.2) (kk : Q r w) : mG d μ b pc lv [.int r] w Q := by
  intro l p e s m args below meth c s₁ D E lo B hml hK hlo ls H locs hl hR hS
  have hlocks := B.notSynchronized
  refine W.widen hb.1 hb.2 ?_
  refine W.iret B.exec B.bytes (B.returns.trans hr) (fun t ht hW => ⟨⟨r, w, by rw [hr]; rfl, kk, by rw [ht]; exact hR.moved hW.alike⟩, hS.F ht⟩) hS.2.2 hd
theorem g_zret {r : Int32} (hr : μ.2.2.2.1 = some .boolean) (hd : decode μ.2.1 pc = .ok (.ireturn, 1)) (hb : b.1 ≤ μ.2.2.2.2.1 ∧ b.2 ≤ μ.2.2.2.2.2) (kk : r &&& 1 = r ∧ Q r w) : mG d μ b pc lv [.int r] w Q := by
  obtain ⟨h1, kk⟩ := kk
  intro l p e s m args below meth c s₁ D E lo B hml hK hlo ls H locs hl hR hS
  have hlocks := B.notSynchronized
  refine W.widen hb.1 hb.2 ?_
  refine W.zret (ty := .boolean) B.exec B.bytes (B.returns.trans hr) (by simp [narrow, h1]) (fun t ht hW => ⟨⟨r, w, by rw [hr]; rfl, kk, by rw [ht]; exact hR.moved hW.alike⟩, hS.F ht⟩) hS.2.2 hd
theorem g_vret (hr : μ.2.2.2.1 = none) (hd : decode μ.2.1 pc = .ok (.return_, 1)) (hb : b.1 ≤ μ.2.2.2.2.1 ∧ b.2 ≤ μ.2.2.2.2.2) (kk : Q 0 w) : mG d μ b pc lv [] w Q := by
  intro l p e s m args below meth c s₁ D E lo B hml hK hlo ls H locs hl hR hS
  have hlocks := B.notSynchronized
  refine W.widen hb.1 hb.2 ?_
  refine W.vret B.exec B.bytes (B.returns.trans hr) (fun t ht hW => ⟨⟨0, w, by rw [hr]; rfl, kk, by rw [ht]; exact hR.moved hW.alike⟩, hS.F ht⟩) hS.2.2 hd
end FROWS
