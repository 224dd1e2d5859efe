/-! THE CLAIM OUT OF ONE WALK OF THE LAW'S BODY. Your part is whole_start (and what it stands on); all else here is the same for every law, but numbers. -/
def R_law : String := "ReplicaDocumentLaw"
def lw_P (b : Addr) (xs : List Int32) (args : Array Value) (s : State) : Prop := args = #[.ref b] ∧ s.IntsAt b xs ∧ xs.length ≤ 3072 ∧ (Jvm.Cond.and given_1 narrow_1).before args s = true
def lw_Q (_ : Array Value) (s : State) (o : Outcome) (t : State) : Prop := o = .returned (some (.int 1)) ∧ Framed s o t [] 600000 7302250
def lw_Z (below : List Frame) (a : Array Value) (s : State) : State → Prop := fun t => ∃ o, t.status = .running ∧ Ended t below o ∧ lw_Q a s o t
/-- the law's own end, with 1 on the stack, nothing written that was there before, its room as the claim has it -/
theorem lw_ret {p : Program} {l : Launch} {e : Env} {s : State} {m : MethodId} {below : List Frame} {meth : Method} {c : Code} {b : Nat} (hx : p.tables.exec = Jvm.exec) (hb : c.code = code) (hr : meth.sig.returnType = ret) (hlocks : meth.locks = false) {pc : Nat} {H : Heap} {ls : Array Slot} (hdg : decode code pc = .ok (.ireturn, 1)) : W p l e room_1 s m #[Value.ref b] below meth c H [] 600000 7302250 (lw_Z below #[Value.ref b] s) (F0 m pc ls [.int 1]) := by
  intro T hT X
  obtain ⟨fs, hret, hrun, hended, hW, hframe⟩ := X.leave (v := some (.int 1)) (hlocks := hlocks) (fun h => by rw [hr] at h; cases h)
  have hmeth' : T.vm.method? m = some meth := X.method'
  refine ⟨T.setFrames fs, ?_, .returned (some (.int 1)), hrun, hended, rfl, ⟨_, rfl⟩, hW, hframe⟩
  jvm_step X.here [X.here.top, hx, hb, hdg, hmeth', hr, ret, narrow_b1]
  (try refine ⟨rfl, ?_⟩); (try refine ⟨rfl, ?_⟩)
  first | (intro acts; rw [hret _ acts rfl rfl rfl]) | rw [hret _ _ rfl rfl rfl]
  exact Steps.refl _
/-- what holds at the law's entry: the machine, the code, the tables' words (any of lw_tbl by 'hts w (by decide +kernel)'), the script of L ints xs at the cell b, what the Statement gives of the start (any of its parts by flat_of_before) -/
def lw_At (p : Program) (s : State) (m : MethodId) (meth : Method) (c : Code) (b L : Nat) (xs : Nat → Int32) : Prop :=
  p.tables.exec = Jvm.exec ∧ c.code = code ∧ meth.sig.returnType = ret ∧ c.maxLocals = 4 ∧ s.vm.findClass R_law = some m.cls ∧ (∀ w ∈ lw_tbl, w.before #[Value.ref b] s = true) ∧ va_X b L xs s s.heap ∧ b < s.heap.size ∧ meth.locks = false ∧ (Jvm.Cond.and given_1 narrow_1).before #[Value.ref b] s = true
/-- the classes and arrays that the tables name -/
theorem mK_of {s : State} {args : Array Value} (hts : ∀ w ∈ lw_tbl, w.before args s = true) : ∃ (D : va_G) (E : Nat → ClassId), mK D E s := by
  obtain ⟨c0, i0, h0⟩ := u_known (n := 4) hts mIn0 (hts _ (by decide +kernel))
  obtain ⟨c1, i1, h1⟩ := u_known (n := 7) hts mIn1 (hts _ (by decide +kernel))
  obtain ⟨c2, i2, h2⟩ := u_known (n := 2) hts mIn2 (hts _ (by decide +kernel))
  obtain ⟨c3, i3, h3⟩ := u_known (n := 7) hts mIn3 (hts _ (by decide +kernel))
  obtain ⟨c4, i4, h4⟩ := u_known (n := 2) hts mIn4 (hts _ (by decide +kernel))
  obtain ⟨c5, i5, h5⟩ := u_known (n := 12) hts mIn5 (hts _ (by decide +kernel))
  obtain ⟨e0, k0, p0, f0, g0, q0⟩ := Cond.arrayClass_spec (hts _ (List.mem_filter.mp l_W_int).1)
  obtain ⟨e1, k1, p1, f1, g1, q1⟩ := Cond.arrayClass_spec (hts _ (List.mem_filter.mp l_W_boolean).1)
  have hop := hts (Cond.arrayOver (.object mCop)) (by decide +kernel)
  have hre := hts (Cond.arrayOver (.object mCre)) (by decide +kernel)
  obtain ⟨p2, e2, k2, a2, -, g2, q2, f2⟩ := Cond.arrayOver_spec hop
  obtain ⟨p3, e3, k3, a3, -, g3, q3, f3⟩ := Cond.arrayOver_spec hre
  refine ⟨(fun c => match c with | 0 => c0 | 1 => c1 | 2 => c2 | 3 => c3 | 4 => c4 | _ => c5, fun c => match c with | 0 => i0 | 1 => i1 | 2 => i2 | 3 => i3 | 4 => i4 | _ => i5), (fun k => match k with | 0 => e0 | 1 => e1 | 2 => e2 | _ => e3), ⟨fun c q hq => ?_, fun k q hq => ?_⟩, ⟨va_AO.of hop, va_AO.of hre⟩, fun q hq => ?_⟩
  · match c, hq with
    | 0, hq => cases hq; exact h0
    | 1, hq => cases hq; exact h1
    | 2, hq => cases hq; exact h2
    | 3, hq => cases hq; exact h3
    | 4, hq => cases hq; exact h4
    | 5, hq => cases hq; exact h5
    | c + 6, hq => simp [mCls] at hq
  · match k, hq with
    | 0, hq => cases hq; exact ⟨fun n z => ⟨fun _ h => (by cases h), k0, g0, p0, q0⟩, f0⟩
    | 1, hq => cases hq; exact ⟨fun n z => ⟨fun _ h => (by cases h), k1, g1, p1, q1⟩, f1⟩
    | 2, hq => cases hq; exact ⟨fun n z => ⟨fun _ h => (by cases h), k2, g2, p2, q2⟩, k2, p2, g2, q2, a2, f2⟩
    | 3, hq => cases hq; exact ⟨fun n z => ⟨fun _ h => (by cases h), k3, g3, p3, q3⟩, k3, p3, g3, q3, a3, f3⟩
    | k + 4, hq => simp [mTys] at hq
  · exact va_tabs (u := s) (U := s) rfl rfl (hts _ (mNw_tbl q hq))
theorem whole_start {p : Program} {e : Env} {s : State} {m : MethodId} {below : List Frame} {meth : Method} {c : Code} {s₁ : State} (l : Launch) {b L : Nat} {xs : Nat → Int32} (hL : L ≤ 3072) (B0 : BodyLoose p l x (headSpec (Jvm.Cond.code x code maxLocals ret :: tables_1) room_1) code maxLocals ret e s m #[Value.ref b] below meth c s₁) (C0 : lw_At p s m meth c b L xs) : W p l e room_1 s m #[Value.ref b] below meth c s.heap [] 0 0 (lw_Z below #[Value.ref b] s) (entryFrame m ([Value.ref b] : List Value).toArray 4) := by
  obtain ⟨-, -, -, hml, -, hts, hX, hbl, -, -⟩ := C0
  have hts0 : ∀ c ∈ (Jvm.Cond.code x code maxLocals ret :: tables_1), c.before #[Value.ref b] s = true := atoms_spec (ws := Jvm.Cond.code x code maxLocals ret :: tables_1) B0.pre
  have hpre : (allAtoms (mWs m_La_law)).before #[Value.ref b] s = true := by
    refine atoms_intro (fun w hw => ?_)
    rcases List.mem_cons.mp hw with rfl | hw
    · exact hts0 _ List.mem_cons_self
    · exact hts w (List.mem_filter.mp hw).1
  have B : BodyLoose p l m_La_law.1 (headSpec (mWs m_La_law) (mRm 9 m_La_law)) m_La_law.2.1 m_La_law.2.2.1 m_La_law.2.2.2.1 e s m #[Value.ref b] below meth c s₁ := ⟨B0.admits, B0.cas, B0.clock, B0.exec, B0.frames, B0.named, B0.hears, B0.initialised, B0.room, hpre, B0.method, B0.returns, B0.notSynchronized, B0.bytes, B0.state, B0.here⟩
  obtain ⟨D, E, hK⟩ := mK_of hts
  have run : mG (2 + 7) m_La_law (0, 0) 0 [vR b, vN, vN, vN] [] ((fun a => if a = b then 30 else 0, fun _ => L, fun _ => xs, fun _ _ => 0, s.heap.size) : mW) (fun r _ => r = 1) := law_all (a := b) (N := L) (cs := xs) ⟨if_pos rfl, rfl, rfl⟩ hbl (by omega) (fun _ => rfl)
  have hR : mRep s.heap.size D E s ((fun a => if a = b then 30 else 0, fun _ => L, fun _ => xs, fun _ _ => 0, s.heap.size) : mW) s.heap := by
    refine ⟨by omega, rfl, Nat.le_refl _, fun a h1 h2 => ?_, fun a h1 => ?_⟩
    · have e1 : mT ((fun a => if a = b then 30 else 0, fun _ => L, fun _ => xs, fun _ _ => 0, s.heap.size) : mW) a = if a = b then 30 else 0 := rfl
      rw [e1] at h1 h2
      by_cases e : a = b
      · rw [if_pos e] at h2; exact absurd rfl h2
      · rw [if_neg e] at h1; exact absurd rfl h1
    · have e1 : mT ((fun a => if a = b then 30 else 0, fun _ => L, fun _ => xs, fun _ _ => 0, s.heap.size) : mW) a = if a = b then 30 else 0 := rfl
      rw [e1] at h1
      by_cases e : a = b
      · subst e
        exact ⟨hbl, hX⟩
      · rw [if_neg e] at h1
        exact absurd h1 (by decide)
  have K := run l p e s m #[Value.ref b] below meth c s₁ D E s.heap.size B hml hK (Nat.le_refl _) _ s.heap [] (mLv_entry [Value.ref b] (fun v hv => by rw [List.mem_singleton.mp hv]; rfl) (n := 4) (Nat.le_of_ble_eq_true rfl)) hR va_S.rf
  rw [lg_entry_eq]
  intro T hT X
  obtain ⟨t, a1, ⟨o, b1, b2, ⟨⟨r, w', c1, c2, -⟩, -⟩, L', ⟨d1, d2, d3⟩, d4⟩⟩ := K T hT X
  refine ⟨t, a1, o, b1, b2, ?_, d1, d2, ?_⟩
  · rw [c1, c2]; rfl
  · obtain ⟨g1, g2, g3, g4, g5, g6⟩ := d3
    refine ⟨g1, g2, g3, g4, g5, fun a cc hc => ?_⟩
    obtain ⟨c', k1, k2, k3, k4⟩ := g6 a cc hc
    refine ⟨c', k1, k2, k3, fun i _ => k4 i (fun hm => ?_)⟩
    have h1 := d4 _ hm
    have h2 : a < s.heap.size := (Array.getElem?_eq_some_iff.mp hc).1
    exact absurd h1 (Nat.not_le.mpr h2)
set_option maxHeartbeats 4000000 in
theorem lw_walk (l : Launch) (b : Addr) (xs : List Int32) : MetFree l x (headSpec (Jvm.Cond.code x code maxLocals ret :: tables_1) room_1) (lw_P b xs) (fun _ _ _ _ _ => True) lw_Q := by
  refine MetFree.of_bodyS (code := code) (maxLocals := maxLocals) (ret := ret) (by decide) ?_ ?_
  · intro args s m h hn
    obtain ⟨meth, c, h1, h2, h3, h4, h5, h6, -, -⟩ := Cond.code_spec hn (atoms_spec (ws := Jvm.Cond.code x code maxLocals ret :: tables_1) h _ List.mem_cons_self)
    exact ⟨meth, c, h1, h2, h3, h4, h5, h6⟩
  · intro p e s m args below meth c s₁ B hml0 hP _
    obtain ⟨rfl, hx, hbd, hgv⟩ := hP
    obtain ⟨scr, harrAt, hlist, hof, hsmall⟩ := hx
    obtain ⟨hcb, hkn, -, -⟩ := State.arrayAt?_spec harrAt
    have hown : s.vm.findClass R_law = some m.cls := findClass_of_methodNamed B.named
    have hts0 : ∀ c ∈ (Jvm.Cond.code x code maxLocals ret :: tables_1), c.before #[Value.ref b] s = true := atoms_spec (ws := Jvm.Cond.code x code maxLocals ret :: tables_1) B.pre
    have hts : ∀ w ∈ lw_tbl, w.before #[Value.ref b] s = true := k2_hts_sels lw_privs (fun w hw => hts0 w (List.mem_cons_of_mem _ hw)) lw_privs_ok
    have hml : c.maxLocals = 4 := B.maxLocals_eq (hts0 _ List.mem_cons_self)
    have X₀ : Stand p l e room_1 s m #[Value.ref b] below meth c s₁ [] 0 0 := Stand.of_body B
    have hh0 : s₁.heap = s.heap := by rw [B.state]; rfl
    have hsz : scr.slots.size = xs.length := by rw [← Array.length_toList, hlist, List.length_map]
    have hval : ∀ j : Nat, j < xs.length → scr.slots[j]? = some (.int (xs.getD j 0)) := fun j hj => by
      rw [← Array.getElem?_toList, hlist]
      simp [hj]
    have hbl : b < s.heap.size := (Array.getElem?_eq_some_iff.mp hcb).1
    have hX : va_X b xs.length (fun j => xs.getD j 0) s s.heap := ⟨scr, hcb, hof, hkn, hsz, hval⟩
    have K : W p l e room_1 s m #[Value.ref b] below meth c s₁.heap [] 0 0 (lw_Z below #[Value.ref b] s) (entryFrame m ([Value.ref b] : List Value).toArray 4) := by
      rw [hh0]
      exact whole_start l hbd B ⟨B.exec, B.bytes, B.returns, hml, hown, hts, hX, hbl, B.notSynchronized, hgv⟩
    obtain ⟨t, a1, o, b1, b2, b3⟩ := K s₁ rfl X₀
    exact ⟨t, o, a1, b1, b2, b3⟩
theorem lw_pre_spec {args : Array Value} {s : State} (h : (Jvm.Cond.and given_1 narrow_1).before args s = true) (hr : rest_1_c.before args s = true) : ∃ (b : Addr) (xs : List Int32), lw_P b xs args s := by
  have hs := flat_of_before _ h
  have hq := flat_of_before _ hr
  have hc : (Cond.count 1).before args s = true := hs _ (by decide +kernel)
  have harr : (Cond.arrayOf (.arg 0) .int).before args s = true := hs _ (by decide +kernel)
  have hle : (Cond.le (.length (.arg 0)) (.int 3072)).before args s = true := hs _ (by decide +kernel)
  have hlen : (Cond.isInt (.length (.arg 0))).before args s = true := hq _ (by decide +kernel)
  have hall : (Cond.all (.arg 0) (.isInt (.elem (.arg 0) (.index 0)))).before args s = true := hq _ (by decide +kernel)
  obtain ⟨b, xs, hb, hx⟩ := State.ints_of_pre rfl harr hlen hall
  have hsm : xs.length < 2 ^ 31 := hx.choose_spec.2.2.2
  have hev : (Term.length (.arg 0)).eval args s none [] s = some (.int xs.length.toInt32) := hx.length_eval hb
  have hv := Cond.le_ints hev (show (Term.int 3072).eval args s none [] s = some (.int 3072) from rfl)
  have hd : xs.length.toInt32 ≤ 3072 := by
    simpa [Cond.before, Cond.holds, hv] using hle
  have hN : xs.length ≤ 3072 := (Int32.ofNat_le_ofNat hsm (by decide)).mp (show Int32.ofNat xs.length ≤ Int32.ofNat 3072 from hd)
  exact ⟨b, xs, Cond.one_arg hc (show args[0]? = some (.ref b) from hb), hx, hN, h⟩
theorem lw_comes (l : Launch) : Comes l x (Jvm.Cond.code x code maxLocals ret :: tables_1) room_1 (fun tb e args s => Calls_1 tb e args s ∧ rest_1 tb e args s ∧ Pre_1 tb e args s)
    (fun _ _ args s o t => lw_Q args s o t) := by
  intro p e ha hc hk s m args below hf hfit hheap happ hpre
  obtain ⟨b, xs, hP⟩ := lw_pre_spec hpre.2.2 hpre.2.1
  obtain ⟨k, o, h1, h2, h3, hQ⟩ := lw_walk l b xs p e ha hc hk s m args below hf ((Spec.applies_iff_loose hf).mp happ).1 hP trivial
  exact ⟨k, o, h1, h2, h3, hQ⟩
theorem lw_frame {s t : State} {o : Outcome} {args : Array Value} (h : Framed s o t [] 600000 7302250) :
    Framed s o t (fieldLocs frame_1_writes args s ++ arrayLocs frame_1_arrays args s ++ staticLocs frame_1_statics s) 600000 7302250 := h
theorem lw_limb (L : Cond) (hL : ∀ (args : Array Value) (s t : State), L.after args s (.returned (some (.int 1))) t = true) :
    ArmFor flags0 classFile x code maxLocals ret World_1 tables_1 room_1 Calls_1 rest_1 Pre_1
      (fun tb e a s o t => postC L tb e a s o t ∧ Framed s o t (fieldLocs frame_1_writes a s ++ arrayLocs frame_1_arrays a s ++ staticLocs frame_1_statics s) 600000 7302250) := by
  intro l _ _ _ p e ha hc hk s m args below hf hfit hheap happ hpre
  obtain ⟨k, o, h1, h2, h3, rfl, hF⟩ := lw_comes l p e ha hc hk s m args below hf hfit hheap happ hpre
  exact ⟨k, _, h1, h2, h3, hL args s _, lw_frame hF⟩
theorem i_vc : Claimed_1_1 ∧ Claimed_1_2 := ⟨lw_limb limb_1_1 (fun args s t => by simp [limb_1_1, Cond.after, Cond.holds, Cond.value]), lw_limb limb_1_2 (fun args s t => Cond.after_iff.mpr (by
  first | (rw [show limb_1_2 = Cond.eq .result (.int 1) from rfl, Cond.eq_ints (x := 1) (y := 1) rfl rfl]; simp; done) | (simp [limb_1_2, Cond.value, Term.eval]; done)))⟩
