/-! the wire -/
def WSh (w : mW) (a : Nat) : Prop := a ≠ 0 ∧ mT w a = 3 ∧ mP w a 0 = a + 1 ∧ mT w (a + 1) = 20 ∧ mL w (a + 1) = 16
theorem WSh.of {w w' : mW} {a : Nat} (h : mSh w w') (hS : WSh w a) : WSh w' a := by
  obtain ⟨h1, h2, h3, h4, h5⟩ := hS
  exact ⟨h1, by rw [h.T]; exact h2, by rw [h.P]; exact h3, by rw [h.T]; exact h4, by rw [h.L]; exact h5⟩
def WiAt (w : mW) (a : Nat) (l : List Int32) : Prop := l.length ≤ 16 ∧ mI w a 1 = nI l.length ∧ ∀ k, k < l.length → mI w (a + 1) k = ob l k
theorem WiAt.of {w w' : mW} {a : Nat} {l : List Int32} (h0 : mI w' a = mI w a) (h1 : mI w' (a + 1) = mI w (a + 1)) (h : WiAt w a l) : WiAt w' a l := by
  unfold WiAt
  rw [h0, h1]
  exact h
/-- byte x of the wire, or -1 -/
def wgt (l : List Int32) (x : Int32) : Int32 := if x < 0 then -1 else if nI l.length ≤ x then -1 else ob l x.toNatClampNeg
def chP (l : List Int32) (x b : Int32) : Prop := ¬ x < 0 ∧ ¬ nI l.length < x ∧ ¬ (16 : Int32) ≤ x ∧ ¬ b < 0 ∧ b ≤ 255
def chL (l : List Int32) (k : Nat) (b : Int32) : List Int32 := if k < l.length then l.set k b else l ++ [b]
section SWI
variable {d : Nat} {w : mW} {Q : Int32 → mW → Prop} {a : Nat} {l : List Int32} {x b : Int32}
theorem ob_set {l : List Int32} {k : Nat} {b : Int32} (hk : k < l.length) (j : Nat) : ob (l.set k b) j = if j = k then b else ob l j := by
  unfold ob
  rw [List.getD_eq_getElem?_getD, List.getD_eq_getElem?_getD]
  by_cases h : j = k
  · subst h
    rw [if_pos rfl, List.getElem?_set_self hk]; rfl
  · rw [if_neg h, List.getElem?_set_ne (fun z => h z.symm)]
theorem ob_app {l l' : List Int32} (j : Nat) : ob (l ++ l') j = if j < l.length then ob l j else ob l' (j - l.length) := by
  unfold ob
  rw [List.getD_eq_getElem?_getD, List.getD_eq_getElem?_getD, List.getD_eq_getElem?_getD]
  by_cases h : j < l.length
  · rw [if_pos h, List.getElem?_append_left h]
  · rw [if_neg h, List.getElem?_append_right (by omega)]
theorem ob_take {l : List Int32} {n : Nat} {j : Nat} (h : j < n) : ob (l.take n) j = ob l j := by
  unfold ob
  rw [List.getD_eq_getElem?_getD, List.getD_eq_getElem?_getD, List.getElem?_take_of_lt h]
theorem s_Wi_byteAt (hS : WSh w a) (hW : WiAt w a l) (hQ : Q (wgt l x) w) : mC d m_Wi_byteAt [.ref a, .int x] w Q := by
  obtain ⟨a0, t1, p0, t2, l2⟩ := hS
  obtain ⟨h1, h2, h3⟩ := hW
  unfold wgt at hQ
  refine e_Wi_byteAt ?_
  rw [h2, p0]
  refine by_if (fun h => ?_) (fun h => ⟨t1, by_if (fun h4 => ?_) (fun h4 => ?_)⟩)
  · rw [if_pos h] at hQ; exact hQ
  · rw [if_neg h, if_pos h4] at hQ; exact hQ
  · rw [if_neg h, if_neg h4] at hQ
    obtain ⟨j, hj, rfl⟩ := nI_of h
    rw [nI_leI (by omega) hj] at h4
    rw [nI_clamp hj] at hQ ⊢
    rw [h3 j (by omega)]
    exact ⟨by omega, t2, by rw [l2]; exact vp_in_nI (by omega) (by omega), hQ⟩
theorem s_Wi_change (hS : WSh w a) (hW : WiAt w a l) (hF : ¬ chP l x b → Q 0 w) (hQ : ∀ k w', chP l x b → x = nI k → k ≤ l.length → k < 16 → mFr (fun z => z = a ∨ z = a + 1) w w' → WiAt w' a (chL l k b) → Q 1 w') : mC (d + 1) m_Wi_change [.ref a, .int x, .int b] w Q := by
  obtain ⟨a0, t1, p0, t2, l2⟩ := hS
  obtain ⟨h1, h2, h3⟩ := hW
  refine e_Wi_change ?_
  rw [h2, p0]
  refine by_if (fun h => hF (fun z => z.1 h)) (fun g1 => ⟨t1, by_if (fun h => hF (fun z => z.2.1 h)) (fun g2 => by_if (fun h => hF (fun z => z.2.2.1 h)) (fun g3 => by_if (fun h => hF (fun z => z.2.2.2.1 h)) (fun g4 => by_if (fun g5 => ?_) (fun h => hF (fun z => h z.2.2.2.2)))))⟩)
  obtain ⟨k, hk, rfl⟩ := nI_of g1
  have g2' := g2
  rw [nI_ltI (by omega) hk] at g2'
  have g3' : ¬ nI 16 ≤ nI k := g3
  rw [nI_leI (by omega) hk] at g3'
  refine ⟨by omega, t2, by rw [l2]; exact vp_in_nI (by omega) (by omega), ?_⟩
  rw [nI_clamp hk]
  rintro _ rfl
  refine ⟨t1, ?_⟩
  have e1 : mI (wrI w (a + 1) k b) a 1 = nI l.length := by rw [mI_wrI, if_neg (by omega), h2]
  rw [e1, nI_1]
  rintro _ rfl
  refine hQ k _ ⟨g1, g2, g3, g4, g5⟩ rfl (by omega) (by omega) (((mFr.rf (fun z => z = a ∨ z = a + 1) w).wrI _ _ (Or.inr rfl)).wrI _ _ (Or.inl rfl)) ?_
  unfold chL
  by_cases hkl : k < l.length
  · rw [if_pos hkl, if_neg (nI_nlt (by omega) (by omega))]
    refine ⟨by rw [List.length_set]; exact h1, by rw [List.length_set, mI_wrI, if_pos ⟨rfl, rfl⟩], fun j hj => ?_⟩
    rw [List.length_set] at hj
    rw [ob_set hkl, mI_wrI, if_neg (by omega), mI_wrI]
    by_cases hjk : j = k
    · rw [if_pos ⟨rfl, hjk⟩, if_pos hjk]
    · rw [if_neg (by omega), if_neg hjk]; exact h3 j hj
  · have hkl' : k = l.length := by omega
    subst hkl'
    rw [if_neg (show ¬ l.length < l.length by omega), if_pos (nI_lt (a := l.length) (b := l.length + 1) (by omega) (by omega))]
    refine ⟨by simp; omega, by simp [mI_wrI], fun j hj => ?_⟩
    simp at hj
    rw [ob_app, mI_wrI, if_neg (by omega), mI_wrI]
    by_cases hjk : j = l.length
    · rw [if_pos ⟨rfl, hjk⟩, if_neg (by omega), hjk, Nat.sub_self]; rfl
    · rw [if_neg (by omega), if_pos (by omega)]; exact h3 j (by omega)
theorem s_Wi_shorten (hS : WSh w a) (hW : WiAt w a l) (hF : ¬ (¬ x < 0 ∧ x ≤ nI l.length) → Q 0 w) (hQ : ∀ k w', x = nI k → k ≤ l.length → mFr (fun z => z = a) w w' → WiAt w' a (l.take k) → Q 1 w') : mC d m_Wi_shorten [.ref a, .int x] w Q := by
  obtain ⟨a0, t1, p0, t2, l2⟩ := hS
  obtain ⟨h1, h2, h3⟩ := hW
  refine e_Wi_shorten ?_
  rw [h2]
  refine by_if (fun h => hF (fun z => z.1 h)) (fun g1 => ⟨t1, by_if (fun g2 => ?_) (fun h => hF (fun z => h z.2))⟩)
  obtain ⟨k, hk, rfl⟩ := nI_of g1
  rw [nI_leI hk (by omega)] at g2
  rintro _ rfl
  have hl : (l.take k).length = k := by rw [List.length_take]; omega
  refine hQ k _ rfl g2 ((mFr.rf (fun z => z = a) w).wrI _ _ rfl) ⟨by omega, by rw [hl, mI_wrI, if_pos ⟨rfl, rfl⟩], fun j hj => ?_⟩
  rw [hl] at hj
  rw [ob_take hj, mI_wrI, if_neg (by omega)]
  exact h3 j (by omega)
theorem s_Wi_write {q : Nat} {o : mO} (hS : WSh w a) (hSq : OSh w q) (hO : OpAt w q o) (h5 : ob o 5 = nI (o.length - 6)) (hne : a ≠ q ∧ a + 1 ≠ q ∧ a ≠ q + 1) (hQ : ∀ w', mFr (fun z => z = a ∨ z = a + 1) w w' → WiAt w' a o → Q 0 w') : mC (d + 1) m_Wi_write [.ref a, .ref q] w Q := by
  obtain ⟨a0, t1, p0, t2, l2⟩ := hS
  obtain ⟨n0, tq, pq, tq2, lq⟩ := hSq
  obtain ⟨⟨o1, o2⟩, o3, ⟨k2, k3, k4, k5, k6⟩, o4⟩ := hO
  have c0 : (0 : Int32).toNatClampNeg = 0 := by decide
  have c1 : (1 : Int32).toNatClampNeg = 1 := by decide
  have c2 : (2 : Int32).toNatClampNeg = 2 := by decide
  have c3 : (3 : Int32).toNatClampNeg = 3 := by decide
  have c4 : (4 : Int32).toNatClampNeg = 4 := by decide
  have c5 : (5 : Int32).toNatClampNeg = 5 := by decide
  have c6 : (6 : Int32).toNatClampNeg = 6 := by decide
  have vin : ∀ k, k < 16 → vp_in (nI k) 16 := fun k hk => vp_in_nI hk (by omega)
  refine e_Wi_write ?_
  rw [p0, c0, k2]
  refine ⟨t1, by omega, tq, t2, by rw [l2]; exact vin 0 (by omega), ?_⟩
  rintro w1 hw1
  have f1 : mFr (fun z => z = a ∨ z = a + 1) w w1 := by rw [hw1]; exact (mFr.rf (fun z => z = a ∨ z = a + 1) w).wrI _ _ (Or.inr rfl)
  have q1 : mI w1 q = mI w q := f1.2 q (by omega)
  rw [f1.1.T, f1.1.P, f1.1.T, f1.1.T, f1.1.L, p0, q1, c1, k3]
  refine ⟨t1, by omega, tq, t2, by rw [l2]; exact vin 1 (by omega), ?_⟩
  rintro w2 hw2
  have f2 : mFr (fun z => z = a ∨ z = a + 1) w w2 := by rw [hw2]; exact f1.wrI _ _ (Or.inr rfl)
  have q2 : mI w2 q = mI w q := f2.2 q (by omega)
  rw [f2.1.T, f2.1.P, f2.1.T, f2.1.T, f2.1.L, p0, q2, c2, k4]
  refine ⟨t1, by omega, tq, t2, by rw [l2]; exact vin 2 (by omega), ?_⟩
  rintro w3 hw3
  have f3 : mFr (fun z => z = a ∨ z = a + 1) w w3 := by rw [hw3]; exact f2.wrI _ _ (Or.inr rfl)
  have q3 : mI w3 q = mI w q := f3.2 q (by omega)
  rw [f3.1.T, f3.1.P, f3.1.T, f3.1.T, f3.1.L, p0, q3, c3, k5]
  refine ⟨t1, by omega, tq, t2, by rw [l2]; exact vin 3 (by omega), ?_⟩
  rintro w4 hw4
  have f4 : mFr (fun z => z = a ∨ z = a + 1) w w4 := by rw [hw4]; exact f3.wrI _ _ (Or.inr rfl)
  have q4 : mI w4 q = mI w q := f4.2 q (by omega)
  rw [f4.1.T, f4.1.P, f4.1.T, f4.1.T, f4.1.L, p0, q4, c4, k6]
  refine ⟨t1, by omega, tq, t2, by rw [l2]; exact vin 4 (by omega), ?_⟩
  rintro w5 hw5
  have f5 : mFr (fun z => z = a ∨ z = a + 1) w w5 := by rw [hw5]; exact f4.wrI _ _ (Or.inr rfl)
  have q5 : mI w5 q = mI w q := f5.2 q (by omega)
  rw [f5.1.T, f5.1.P, f5.1.T, f5.1.T, f5.1.L, p0, q5, c5, o3]
  refine ⟨t1, by omega, tq, t2, by rw [l2]; exact vin 5 (by omega), ?_⟩
  rintro w6 hw6
  have f6 : mFr (fun z => z = a ∨ z = a + 1) w w6 := by rw [hw6]; exact f5.wrI _ _ (Or.inr rfl)
  have q6 : mI w6 q = mI w q := f6.2 q (by omega)
  have q6' : mI w6 (q + 1) = mI w (q + 1) := f6.2 (q + 1) (by omega)
  rw [f6.1.T, f6.1.P, f6.1.T, f6.1.P, f6.1.T, f6.1.T, f6.1.L, f6.1.L, p0, pq, q6, c6, o3, nI_clamp (by omega)]
  refine ⟨tq, by omega, t1, by omega, tq2, t2, ⟨by decide, by decide, nI_pos (by omega), by rw [lq]; omega, by rw [l2]; omega⟩, ?_⟩
  rintro w7 hw7
  have f7 : mFr (fun z => z = a ∨ z = a + 1) w w7 := by rw [hw7]; exact f6.wrC _ _ _ _ (Or.inr rfl)
  have q7 : mI w7 q = mI w q := f7.2 q (by omega)
  rw [f7.1.T, f7.1.T, q7, o3]
  refine ⟨tq, t1, ?_⟩
  rintro w8 hw8
  refine hQ w8 (by rw [hw8]; exact f7.wrI _ _ (Or.inl rfl)) ⟨by omega, ?_, fun j hj => ?_⟩
  · rw [hw8, mI_wrI, if_pos ⟨rfl, rfl⟩]
    show nI 6 + nI (o.length - 6) = nI o.length
    rw [nI_add]
    congr 1
    omega
  · rw [hw8, mI_wrI, if_neg (by omega), hw7, mI_wrC]
    by_cases hj6 : 6 ≤ j
    · rw [if_pos ⟨rfl, by omega, by omega⟩, q6', o4 _ (by omega)]
      congr 1
      omega
    · rw [if_neg (by omega), hw6, mI_wrI]
      have : j = 0 ∨ j = 1 ∨ j = 2 ∨ j = 3 ∨ j = 4 ∨ j = 5 := by omega
      rcases this with h | h | h | h | h | h <;> subst h
      · rw [if_neg (by omega), hw5, mI_wrI, if_neg (by omega), hw4, mI_wrI, if_neg (by omega), hw3, mI_wrI, if_neg (by omega), hw2, mI_wrI, if_neg (by omega), hw1, mI_wrI, if_pos ⟨rfl, rfl⟩]
      · rw [if_neg (by omega), hw5, mI_wrI, if_neg (by omega), hw4, mI_wrI, if_neg (by omega), hw3, mI_wrI, if_neg (by omega), hw2, mI_wrI, if_pos ⟨rfl, rfl⟩]
      · rw [if_neg (by omega), hw5, mI_wrI, if_neg (by omega), hw4, mI_wrI, if_neg (by omega), hw3, mI_wrI, if_pos ⟨rfl, rfl⟩]
      · rw [if_neg (by omega), hw5, mI_wrI, if_neg (by omega), hw4, mI_wrI, if_pos ⟨rfl, rfl⟩]
      · rw [if_neg (by omega), hw5, mI_wrI, if_pos ⟨rfl, rfl⟩]
      · rw [if_pos ⟨rfl, rfl⟩, h5]
end SWI
