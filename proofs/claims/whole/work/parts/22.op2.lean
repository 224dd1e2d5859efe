/-! contracts: Operation, what writes -/
def mkO (i k t s v : Int32) (bs : List Int32) : mO := i :: k :: t :: s :: v :: nI bs.length :: bs
theorem mkO_len (i k t s v : Int32) (bs : List Int32) : (mkO i k t s v bs).length = bs.length + 6 := by simp [mkO]
theorem ob_mk0 (i k t s v : Int32) (bs : List Int32) : ob (mkO i k t s v bs) 0 = i := rfl
theorem ob_mk1 (i k t s v : Int32) (bs : List Int32) : ob (mkO i k t s v bs) 1 = k := rfl
theorem ob_mk2 (i k t s v : Int32) (bs : List Int32) : ob (mkO i k t s v bs) 2 = t := rfl
theorem ob_mk3 (i k t s v : Int32) (bs : List Int32) : ob (mkO i k t s v bs) 3 = s := rfl
theorem ob_mk4 (i k t s v : Int32) (bs : List Int32) : ob (mkO i k t s v bs) 4 = v := rfl
theorem ob_mk5 (i k t s v : Int32) (bs : List Int32) : ob (mkO i k t s v bs) 5 = nI bs.length := rfl
theorem ob_mk6 (i k t s v : Int32) (bs : List Int32) (j : Nat) : ob (mkO i k t s v bs) (6 + j) = bs.getD j 0 := by
  rw [Nat.add_comm]
  simp [ob, mkO]
/-- x goes into a list at place p -/
def insP (bs : List Int32) (p : Nat) (x : Int32) : List Int32 := bs.take p ++ x :: bs.drop p
theorem insP_len {bs : List Int32} {p : Nat} {x : Int32} (hp : p ≤ bs.length) : (insP bs p x).length = bs.length + 1 := by
  simp [insP]; omega
theorem insP_get {bs : List Int32} {p : Nat} {x : Int32} (hp : p ≤ bs.length) (k : Nat) : (insP bs p x).getD k 0 = if k < p then bs.getD k 0 else if k = p then x else bs.getD (k - 1) 0 := by
  unfold insP
  rw [List.getD_eq_getElem?_getD, List.getD_eq_getElem?_getD, List.getD_eq_getElem?_getD]
  have hl : (bs.take p).length = p := by rw [List.length_take]; omega
  by_cases h1 : k < p
  · rw [if_pos h1, List.getElem?_append_left (by omega), List.getElem?_take_of_lt h1]
  · rw [if_neg h1, List.getElem?_append_right (by omega), hl]
    by_cases h2 : k = p
    · rw [if_pos h2, h2, Nat.sub_self]; rfl
    · rw [if_neg h2]
      have e : k - p = (k - 1 - p) + 1 := by omega
      rw [e, List.getElem?_cons_succ, List.getElem?_drop]
      congr 2
      omega
section SOP2
variable {d : Nat} {w : mW} {Q : Int32 → mW → Prop} {q : Nat} {o : mO} {x : Int32}
def begW (w : mW) (q : Nat) (x1 x2 x3 x4 x5 : Int32) : mW := wrI (wrI (wrI (wrI (wrI (wrI w q 2 x1) q 3 x2) q 4 x3) q 5 x4) q 6 x5) q 1 0
theorem begW_fr (w : mW) (q : Nat) (x1 x2 x3 x4 x5 : Int32) : mFr (fun a => a = q) w (begW w q x1 x2 x3 x4 x5) :=
  ((((((mFr.rf (fun a => a = q) w).wrI 2 x1 rfl).wrI 3 x2 rfl).wrI 4 x3 rfl).wrI 5 x4 rfl).wrI 6 x5 rfl).wrI 1 0 rfl
theorem begW_op (w : mW) (q : Nat) (x1 x2 x3 x4 x5 : Int32) : OpAt (begW w q x1 x2 x3 x4 x5) q (mkO x1 x2 x3 x4 x5 []) := by
  refine ⟨⟨by simp [mkO], by simp [mkO]⟩, ?_, ⟨?_, ?_, ?_, ?_, ?_⟩, fun k hk => ?_⟩
  · simp [begW, mI_wrI, mkO, nI_0]
  · simp [begW, mI_wrI, ob_mk0]
  · simp [begW, mI_wrI, ob_mk1]
  · simp [begW, mI_wrI, ob_mk2]
  · simp [begW, mI_wrI, ob_mk3]
  · simp [begW, mI_wrI, ob_mk4]
  · simp [mkO] at hk
theorem s_Op_begin {x1 x2 x3 x4 x5 : Int32} (hS : OSh w q) (hQ : Q 0 (begW w q x1 x2 x3 x4 x5)) : mC d m_Op_begin [.ref q, .int x1, .int x2, .int x3, .int x4, .int x5] w Q := by
  have t := hS.2.1
  refine e_Op_begin ⟨t, ?_⟩
  rintro _ rfl
  refine ⟨t, ?_⟩
  rintro _ rfl
  refine ⟨t, ?_⟩
  rintro _ rfl
  refine ⟨t, ?_⟩
  rintro _ rfl
  refine ⟨t, ?_⟩
  rintro _ rfl
  refine ⟨t, ?_⟩
  rintro _ rfl
  exact hQ
theorem s_Op_addBefore {i k t s v : Int32} {bs : List Int32} (hS : OSh w q) (hO : OpAt w q (mkO i k t s v bs)) (hF : 6 ≤ bs.length → Q 0 w)
    (hQ : ∀ p w', bs.length < 6 → p ≤ bs.length → (p = 0 ∨ ¬ x < bs.getD (p - 1) 0) → (∀ j, p ≤ j → j < bs.length → x < bs.getD j 0) → mFr (fun a => a = q ∨ a = q + 1) w w' → OpAt w' q (mkO i k t s v (insP bs p x)) → Q 1 w') : mC d m_Op_addBefore [.ref q, .int x] w Q := by
  have hS0 := hS
  obtain ⟨n0, t1, p0, t2, l2⟩ := hS
  obtain ⟨⟨o1, o1'⟩, o3, ⟨k2, k3, k4, k5, k6⟩, o4⟩ := hO
  rw [mkO_len] at o1 o1' o3 o4
  have hn : bs.length + 6 - 6 = bs.length := by omega
  rw [hn] at o3 o4
  have o5 : ∀ j, j < bs.length → mI w (q + 1) j = bs.getD j 0 := fun j hj => by rw [o4 j hj, ob_mk6]
  have last : ∀ p w1, bs.length < 6 → p ≤ bs.length → (p = 0 ∨ ¬ x < bs.getD (p - 1) 0) → (∀ j, p ≤ j → j < bs.length → x < bs.getD j 0) → mFr (fun a => a = q + 1) w w1 → (∀ j, j < p → mI w1 (q + 1) j = bs.getD j 0) → (∀ j, p ≤ j → j < bs.length → mI w1 (q + 1) (j + 1) = bs.getD j 0) → mG d m_Op_addBefore (0, 0) 52 [vR q, vI x, vI (nI p)] [] w1 Q := by
    intro p w1 h6 hp hp1 hp2 hf ha hb
    have hS1 := hS0.of hf.1
    obtain ⟨-, t1', p0', t2', l2'⟩ := hS1
    have hq1 : mI w1 q = mI w q := hf.2 q (by omega)
    refine b_Op_addBefore_52 ?_
    rw [p0']
    refine ⟨t1', by omega, t2', by rw [l2']; exact vp_in_nI (by omega) (by omega), ?_⟩
    rw [nI_clamp (by omega)]
    rintro _ rfl
    refine ⟨t1', ?_⟩
    rintro _ rfl
    have hX : mFr (fun a => a = q ∨ a = q + 1) w w1 := hf.to (fun a h => Or.inr h)
    refine hQ p _ h6 hp hp1 hp2 ((hX.wrI _ _ (Or.inr rfl)).wrI _ _ (Or.inl rfl)) ?_
    have e1 : mI (wrI w1 (q + 1) p x) q 1 = nI bs.length := by
      rw [mI_wrI, if_neg (by omega), hq1, o3]
    rw [e1, nI_1]
    have eq : ∀ j, j ≠ 1 → mI (wrI (wrI w1 (q + 1) p x) q 1 (nI (bs.length + 1))) q j = mI w q j := fun j hj => by
      rw [mI_wrI, if_neg (fun z => hj z.2), mI_wrI, if_neg (by omega), hq1]
    refine ⟨by rw [mkO_len, insP_len hp]; omega, ?_, ⟨?_, ?_, ?_, ?_, ?_⟩, fun j hj => ?_⟩
    · rw [mkO_len, insP_len hp, mI_wrI, if_pos ⟨rfl, rfl⟩]; congr 1
    · rw [eq 2 (by omega), k2]; rfl
    · rw [eq 3 (by omega), k3]; rfl
    · rw [eq 4 (by omega), k4]; rfl
    · rw [eq 5 (by omega), k5]; rfl
    · rw [eq 6 (by omega), k6]; rfl
    · rw [mkO_len, insP_len hp] at hj
      rw [ob_mk6, insP_get hp, mI_wrI, if_neg (by omega), mI_wrI]
      by_cases h1 : j < p
      · rw [if_pos h1, if_neg (by omega), ha j h1]
      · rw [if_neg h1]
        by_cases h2 : j = p
        · rw [if_pos h2, if_pos ⟨rfl, h2⟩]
        · rw [if_neg h2, if_neg (by omega)]
          have e3 : j = (j - 1) + 1 := by omega
          rw [e3, hb (j - 1) (by omega) (by omega)]
          congr 1
  have loop : ∀ p w1, bs.length < 6 → p ≤ bs.length → (∀ j, p ≤ j → j < bs.length → x < bs.getD j 0) → mFr (fun a => a = q + 1) w w1 → (∀ j, j < p → mI w1 (q + 1) j = bs.getD j 0) → (∀ j, p ≤ j → j < bs.length → mI w1 (q + 1) (j + 1) = bs.getD j 0) → mG d m_Op_addBefore (0, 0) 16 [vR q, vI x, vI (nI p)] [] w1 Q := by
    intro p
    induction p with
    | zero =>
      intro w1 h6 hp hp2 hf ha hb
      refine b_Op_addBefore_16 ?_
      rw [nI_0, if_pos (Int32.le_refl _)]
      have := last 0 w1 h6 hp (Or.inl rfl) hp2 hf ha hb
      rw [nI_0] at this
      exact this
    | succ p ih =>
      intro w1 h6 hp hp2 hf ha hb
      have hS1 := hS0.of hf.1
      obtain ⟨-, t1', p0', t2', l2'⟩ := hS1
      refine b_Op_addBefore_16 ?_
      rw [if_neg (nI_nle (by omega) (by omega)), p0', nI_pred, pk_m1]
      refine ⟨t1', by omega, t2', by rw [l2']; exact vp_in_nI (by omega) (by omega), ?_⟩
      rw [nI_clamp (by omega), ha p (by omega)]
      refine by_if (fun h => last (p + 1) w1 h6 hp (Or.inr ?_) hp2 hf ha hb) (fun h => ⟨by rw [l2']; exact vp_in_nI (by omega) (by omega), ?_⟩)
      · rw [Nat.add_sub_cancel]
        exact Int32.not_lt.mpr h
      · rw [nI_clamp (by omega)]
        rintro _ rfl
        refine ih _ h6 (by omega) (fun j h1 h2 => ?_) (hf.wrI _ _ rfl) (fun j hj => ?_) (fun j h1 h2 => ?_)
        · by_cases hj : j = p
          · rw [hj]; exact Int32.not_le.mp h
          · exact hp2 j (by omega) h2
        · rw [mI_wrI, if_neg (by omega)]
          exact ha j (by omega)
        · rw [mI_wrI]
          by_cases hj : j = p
          · rw [if_pos ⟨rfl, by omega⟩, hj]
          · rw [if_neg (by omega)]
            exact hb j (by omega) h2
  refine e_Op_addBefore ⟨t1, ?_⟩
  rw [o3]
  refine by_if (fun h => ?_) (fun h => hF ?_)
  · have h6 : bs.length < 6 := by
      have : nI bs.length < nI 6 := h
      exact (nI_ltI (by omega) (by omega)).mp this
    exact loop bs.length w h6 (Nat.le_refl _) (fun j h1 h2 => by omega) (mFr.rf _ w) o5 (fun j h1 h2 => by omega)
  · have : ¬ nI bs.length < nI 6 := h
    rw [nI_ltI (by omega) (by omega)] at this
    omega
theorem s_Op_copyFrom {q' : Nat} (hS : OSh w q) (hS' : OSh w q') (hO : OpAt w q' o) (hne : q ≠ q' ∧ q ≠ q' + 1 ∧ q + 1 ≠ q') (hQ : ∀ w', mFr (fun a => a = q ∨ a = q + 1) w w' → OpAt w' q o → Q 0 w') : mC (d + 1) m_Op_copyFrom [.ref q, .ref q'] w Q := by
  obtain ⟨⟨o1, o1'⟩, o3, ⟨k2, k3, k4, k5, k6⟩, o4⟩ := hO
  refine e_Op_copyFrom ⟨hS'.2.1, hS.2.1, s_Op_begin hS ?_⟩
  have hf := begW_fr w q (mI w q' 2) (mI w q' 3) (mI w q' 4) (mI w q' 5) (mI w q' 6)
  have hop := begW_op w q (mI w q' 2) (mI w q' 3) (mI w q' 4) (mI w q' 5) (mI w q' 6)
  generalize begW w q (mI w q' 2) (mI w q' 3) (mI w q' 4) (mI w q' 5) (mI w q' 6) = w1 at hf hop
  obtain ⟨-, t1, p0, t2, l2⟩ := hS.of hf.1
  obtain ⟨-, t1', p0', t2', l2'⟩ := hS'.of hf.1
  obtain ⟨-, -, ⟨g2, g3, g4, g5, g6⟩, -⟩ := hop
  rw [p0, p0']
  have c0 : (0 : Int32).toNatClampNeg = 0 := by decide
  have c6 : (6 : Int32).toNatClampNeg = 6 := by decide
  refine ⟨t1', by omega, t1, by omega, t2', t2, ⟨by decide, by decide, by decide, by rw [l2', c0, c6]; omega, by rw [l2, c0, c6]; omega⟩, ?_⟩
  rw [c0, c6]
  rintro _ rfl
  refine ⟨t1', t1, ?_⟩
  rintro _ rfl
  have hq' : mI w1 q' = mI w q' := hf.2 q' (fun z => hne.1 z.symm)
  have hq'1 : mI w1 (q' + 1) = mI w (q' + 1) := hf.2 (q' + 1) (fun z => hne.2.1 z.symm)
  have hX : mFr (fun a => a = q ∨ a = q + 1) w w1 := hf.to (fun a h => Or.inl h)
  refine hQ _ ((hX.wrC _ _ _ _ (Or.inr rfl)).wrI _ _ (Or.inl rfl)) ?_
  have e1 : mI (wrC w1 (q' + 1) 0 (q + 1) 0 6) q' 1 = nI (o.length - 6) := by
    rw [mI_wrC, if_neg (by omega), hq', o3]
  rw [e1]
  have eq : ∀ j, j ≠ 1 → mI (wrI (wrC w1 (q' + 1) 0 (q + 1) 0 6) q 1 (nI (o.length - 6))) q j = mI w1 q j := fun j hj => by
    rw [mI_wrI, if_neg (fun z => hj z.2), mI_wrC, if_neg (by omega)]
  refine ⟨⟨o1, o1'⟩, ?_, ⟨?_, ?_, ?_, ?_, ?_⟩, fun j hj => ?_⟩
  · rw [mI_wrI, if_pos ⟨rfl, rfl⟩]
  · rw [eq 2 (by omega), g2, ob_mk0, k2]
  · rw [eq 3 (by omega), g3, ob_mk1, k3]
  · rw [eq 4 (by omega), g4, ob_mk2, k4]
  · rw [eq 5 (by omega), g5, ob_mk3, k5]
  · rw [eq 6 (by omega), g6, ob_mk4, k6]
  · rw [mI_wrI, if_neg (by omega), mI_wrC, if_pos ⟨rfl, by omega, by omega⟩, hq'1]
    rw [show 0 + (j - 0) = j by omega]
    exact o4 j hj
end SOP2
