/-! the constructors -/
/-- all but the cells X stays, as the heap grows -/
def mGr (X : Nat → Prop) (w w' : mW) : Prop := ∀ z, ¬ X z → mT w' z = mT w z ∧ mL w' z = mL w z ∧ mI w' z = mI w z ∧ mP w' z = mP w z
theorem mGr.rf (X : Nat → Prop) (w : mW) : mGr X w w := fun _ _ => ⟨rfl, rfl, rfl, rfl⟩
theorem mGr.tr {X : Nat → Prop} {w w1 w2 : mW} (h : mGr X w w1) (h2 : mGr X w1 w2) : mGr X w w2 := fun z hz => by
  obtain ⟨a1, a2, a3, a4⟩ := h z hz
  obtain ⟨b1, b2, b3, b4⟩ := h2 z hz
  exact ⟨b1.trans a1, b2.trans a2, b3.trans a3, b4.trans a4⟩
theorem mGr.to {X Y : Nat → Prop} {w w1 : mW} (h : mGr X w w1) (hXY : ∀ z, X z → Y z) : mGr Y w w1 := fun z hz => h z (fun q => hz (hXY z q))
theorem mGr.N {X : Nat → Prop} {w w1 : mW} (h : mGr X w w1) (t n : Nat) (ha : X (mZ w1)) : mGr X w (wrN w1 t n) := fun z hz => by
  have e : z ≠ mZ w1 := fun q => hz (by rw [q]; exact ha)
  obtain ⟨a1, a2, a3, a4⟩ := h z hz
  refine ⟨by rw [mT_wrN, if_neg e]; exact a1, by rw [mL_wrN, if_neg e]; exact a2, ?_, ?_⟩
  · rw [← a3]; funext j; rw [mI_wrN, if_neg e]
  · rw [← a4]; funext j; rw [mP_wrN, if_neg e]
theorem mGr.P {X : Nat → Prop} {w w1 : mW} (h : mGr X w w1) {a : Nat} (k v : Nat) (ha : X a) : mGr X w (wrP w1 a k v) := fun z hz => by
  have e : z ≠ a := fun q => hz (by rw [q]; exact ha)
  obtain ⟨a1, a2, a3, a4⟩ := h z hz
  refine ⟨a1, a2, a3, ?_⟩
  rw [← a4]; funext j; rw [mP_wrP, if_neg (fun q => e q.1)]
theorem mGr.I {X : Nat → Prop} {w w1 : mW} (h : mGr X w w1) {a : Nat} (k : Nat) (v : Int32) (ha : X a) : mGr X w (wrI w1 a k v) := fun z hz => by
  have e : z ≠ a := fun q => hz (by rw [q]; exact ha)
  obtain ⟨a1, a2, a3, a4⟩ := h z hz
  refine ⟨a1, a2, ?_, a4⟩
  rw [← a3]; funext j; rw [mI_wrI, if_neg (fun q => e q.1)]
theorem OSh.gr {X : Nat → Prop} {w w' : mW} {q : Nat} (h : mGr X w w') (hq : ¬ X q) (hq1 : ¬ X (q + 1)) (hS : OSh w q) : OSh w' q := by
  obtain ⟨h1, h2, h3, h4, h5⟩ := hS
  exact ⟨h1, by rw [(h q hq).1]; exact h2, by rw [(h q hq).2.2.2]; exact h3, by rw [(h _ hq1).1]; exact h4, by rw [(h _ hq1).2.1]; exact h5⟩
section SIN
variable {d : Nat} {w : mW} {Q : Int32 → mW → Prop} {q a A b : Nat}
theorem s_Op_init (hT : mT w q = 2) (hz : mZ w = q + 1) (hq : q ≠ 0) (hQ : ∀ w', mGr (fun z => z = q ∨ z = q + 1) w w' → mZ w' = q + 2 → OSh w' q → Q 0 w') : mC (d + 1) m_Op_init [.ref q] w Q := by
  refine e_Op_init ?_
  rintro w1 hw1
  have g1 : mGr (fun z => z = q ∨ z = q + 1) w w1 := by rw [hw1]; exact (mGr.rf _ w).N 20 6 (Or.inr hz)
  have t1 : mT w1 q = 2 := by rw [hw1, mT_wrN, if_neg (by omega)]; exact hT
  refine ⟨t1, by omega, ?_⟩
  rintro w2 hw2
  have g2 : mGr (fun z => z = q ∨ z = q + 1) w w2 := by rw [hw2]; exact g1.P 0 _ (Or.inl rfl)
  refine hQ w2 g2 (by rw [hw2, mZ_wrP, hw1, mZ_wrN]; omega) ⟨hq, by rw [hw2, mT_wrP]; exact t1, by rw [hw2, mP_wrP, if_pos ⟨rfl, rfl⟩, hz], by rw [hw2, mT_wrP, hw1, mT_wrN, if_pos hz.symm], by rw [hw2, mL_wrP, hw1, mL_wrN, if_pos hz.symm]⟩
theorem s_Wi_init (hT : mT w a = 3) (hz : mZ w = a + 1) (hq : a ≠ 0) (h1 : mI w a 1 = 0) (hQ : ∀ w', mGr (fun z => z = a ∨ z = a + 1) w w' → mZ w' = a + 2 → WSh w' a → WiAt w' a [] → Q 0 w') : mC (d + 1) m_Wi_init [.ref a] w Q := by
  refine e_Wi_init ?_
  rintro w1 hw1
  have g1 : mGr (fun z => z = a ∨ z = a + 1) w w1 := by rw [hw1]; exact (mGr.rf _ w).N 20 16 (Or.inr hz)
  have t1 : mT w1 a = 3 := by rw [hw1, mT_wrN, if_neg (by omega)]; exact hT
  refine ⟨t1, by omega, ?_⟩
  rintro w2 hw2
  have g2 : mGr (fun z => z = a ∨ z = a + 1) w w2 := by rw [hw2]; exact g1.P 0 _ (Or.inl rfl)
  refine hQ w2 g2 (by rw [hw2, mZ_wrP, hw1, mZ_wrN]; omega) ⟨hq, by rw [hw2, mT_wrP]; exact t1, by rw [hw2, mP_wrP, if_pos ⟨rfl, rfl⟩, hz], by rw [hw2, mT_wrP, hw1, mT_wrN, if_pos hz.symm], by rw [hw2, mL_wrP, hw1, mL_wrN, if_pos hz.symm]⟩ ⟨Nat.zero_le _, ?_, fun k hk => absurd hk (Nat.not_lt_zero _)⟩
  rw [hw2, mI_wrP, hw1, mI_wrN, if_neg (by omega), h1]
  exact nI_0.symm
theorem s_Co_init (hT : mT w a = 5) (hz : mZ w = a + 1) (hq : a ≠ 0) (hQ : ∀ w', mGr (fun z => z = a ∨ z = a + 1 ∨ z = a + 2) w w' → mZ w' = a + 3 → CoSh w' a → Q 0 w') : mC (d + 1) m_Co_init [.ref a] w Q := by
  refine e_Co_init ?_
  rintro w1 hw1
  have g1 : mGr (fun z => z = a ∨ z = a + 1 ∨ z = a + 2) w w1 := by rw [hw1]; exact (mGr.rf _ w).N 20 16 (Or.inr (Or.inl hz))
  have t1 : mT w1 a = 5 := by rw [hw1, mT_wrN, if_neg (by omega)]; exact hT
  have z1 : mZ w1 = a + 2 := by rw [hw1, mZ_wrN]; omega
  refine ⟨t1, by omega, ?_⟩
  rintro w2 hw2
  have g2 : mGr (fun z => z = a ∨ z = a + 1 ∨ z = a + 2) w w2 := by rw [hw2]; exact g1.P 0 _ (Or.inl rfl)
  have z2 : mZ w2 = a + 2 := by rw [hw2, mZ_wrP]; exact z1
  rintro w3 hw3
  have g3 : mGr (fun z => z = a ∨ z = a + 1 ∨ z = a + 2) w w3 := by rw [hw3]; exact g2.N 20 16 (Or.inr (Or.inr z2))
  have t3 : mT w3 a = 5 := by rw [hw3, mT_wrN, if_neg (by omega), hw2, mT_wrP]; exact t1
  refine ⟨t3, by omega, ?_⟩
  rintro w4 hw4
  have g4 : mGr (fun z => z = a ∨ z = a + 1 ∨ z = a + 2) w w4 := by rw [hw4]; exact g3.P 1 _ (Or.inl rfl)
  refine hQ w4 g4 (by rw [hw4, mZ_wrP, hw3, mZ_wrN]; omega) ⟨hq, by rw [hw4, mT_wrP]; exact t3, ⟨?_, ?_⟩, ⟨?_, ?_⟩, ?_, ?_⟩
  · rw [hw4, mP_wrP, if_neg (by omega), hw3, mP_wrN, if_neg (by omega), hw2, mP_wrP, if_pos ⟨rfl, rfl⟩, hz]
  · rw [hw4, mP_wrP, if_pos ⟨rfl, rfl⟩, z2]
  · rw [hw4, mT_wrP, hw3, mT_wrN, if_neg (by omega), hw2, mT_wrP, hw1, mT_wrN, if_pos hz.symm]
  · rw [hw4, mL_wrP, hw3, mL_wrN, if_neg (by omega), hw2, mL_wrP, hw1, mL_wrN, if_pos hz.symm]
  · rw [hw4, mT_wrP, hw3, mT_wrN, if_pos z2.symm]
  · rw [hw4, mL_wrP, hw3, mL_wrN, if_pos z2.symm]
theorem s_Re_init {num : Int32} (hT : mT w A = 4) (hz : mZ w = A + 1) (hA : A ≠ 0) (h5 : mI w A 5 = 0) (h6 : mI w A 6 = 0)
    (hQ : ∀ w', mGr (fun z => A ≤ z ∧ z < A + 37) w w' → mZ w' = A + 37 → RSh w' A → RPt w' A → mI w' A 0 = num → mI w' A 5 = 0 → mI w' A 6 = 0 → Q 0 w') : mC (d + 2) m_Re_init [.ref A, .int num] w Q := by
  refine e_Re_init ⟨hT, ?_⟩
  rintro w1 hw1
  have g1 : mGr (fun z => A ≤ z ∧ z < A + 37) w w1 := by rw [hw1]; exact (mGr.rf _ w).I 0 num (by omega)
  have z1 : mZ w1 = A + 1 := by rw [hw1, mZ_wrI]; exact hz
  rintro w2 hw2
  have g2 : mGr (fun z => A ≤ z ∧ z < A + 37) w w2 := by rw [hw2]; exact g1.N 22 16 (by rw [z1]; omega)
  have t2 : mT w2 A = 4 := by rw [hw2, mT_wrN, if_neg (by omega), hw1, mT_wrI]; exact hT
  refine ⟨t2, by omega, ?_⟩
  rintro w3 hw3
  have g3 : mGr (fun z => A ≤ z ∧ z < A + 37) w w3 := by rw [hw3]; exact g2.P 1 _ (by omega)
  have z3 : mZ w3 = A + 2 := by rw [hw3, mZ_wrP, hw2, mZ_wrN]; omega
  -- the loop over the rows
  have loop : ∀ j k wk, k + j = 16 → mGr (fun z => A ≤ z ∧ z < A + 37) w wk → mZ wk = A + 2 + 2 * k → mT wk A = 4 → mP wk A 1 = A + 1 → mT wk (A + 1) = 22 → mL wk (A + 1) = 16 → (∀ i, i < k → mP wk (A + 1) i = A + 2 + 2 * i) → (∀ i, i < k → OSh wk (A + 2 + 2 * i)) → mI wk A 0 = num → mI wk A 5 = 0 → mI wk A 6 = 0 → mG (d + 2) m_Re_init (1 + 2 * k, 16 + 13 * k) 20 [vR A, vN, vI (nI k)] [] wk Q := by
    intro j
    induction j with
    | zero =>
      intro k wk hk gk zk tk pk tk1 lk1 hpk hok i0 i5 i6
      have ek : k = 16 := by omega
      subst ek
      refine b_Re_init_20 ?_
      rw [if_pos (by decide)]
      refine ⟨⟨by omega, by omega⟩, ?_⟩
      rintro v1 hv1
      have y1 : mZ v1 = A + 35 := by rw [hv1, mZ_wrN]; omega
      have q1 : mGr (fun z => A ≤ z ∧ z < A + 37) w v1 := by rw [hv1]; exact gk.N 20 16 (by rw [zk]; omega)
      have s1 : mT v1 A = 4 := by rw [hv1, mT_wrN, if_neg (by omega)]; exact tk
      refine ⟨s1, by omega, ?_⟩
      rintro v2 hv2
      have y2 : mZ v2 = A + 35 := by rw [hv2, mZ_wrP]; exact y1
      have q2 : mGr (fun z => A ≤ z ∧ z < A + 37) w v2 := by rw [hv2]; exact q1.P 2 _ (by omega)
      refine ⟨⟨by omega, by omega⟩, ?_⟩
      rintro v3 hv3
      have y3 : mZ v3 = A + 36 := by rw [hv3, mZ_wrN]; omega
      have q3 : mGr (fun z => A ≤ z ∧ z < A + 37) w v3 := by rw [hv3]; exact q2.N 21 16 (by rw [y2]; omega)
      have s3 : mT v3 A = 4 := by rw [hv3, mT_wrN, if_neg (by omega), hv2, mT_wrP]; exact s1
      refine ⟨s3, by omega, ?_⟩
      rintro v4 hv4
      have y4 : mZ v4 = A + 36 := by rw [hv4, mZ_wrP]; exact y3
      have q4 : mGr (fun z => A ≤ z ∧ z < A + 37) w v4 := by rw [hv4]; exact q3.P 3 _ (by omega)
      refine ⟨⟨by omega, by omega⟩, ?_⟩
      rintro v5 hv5
      have y5 : mZ v5 = A + 37 := by rw [hv5, mZ_wrN]; omega
      have q5 : mGr (fun z => A ≤ z ∧ z < A + 37) w v5 := by rw [hv5]; exact q4.N 20 16 (by rw [y4]; omega)
      have s5 : mT v5 A = 4 := by rw [hv5, mT_wrN, if_neg (by omega), hv4, mT_wrP]; exact s3
      refine ⟨s5, by omega, ?_⟩
      rintro v6 hv6
      have q6 : mGr (fun z => A ≤ z ∧ z < A + 37) w v6 := by rw [hv6]; exact q5.P 4 _ (by omega)
      refine ⟨⟨by omega, by omega⟩, ?_⟩
      -- what is there, by address
      have hT : ∀ z, mT v6 z = if z = A + 36 then 20 else if z = A + 35 then 21 else if z = A + 34 then 20 else mT wk z := by
        intro z
        rw [hv6, mT_wrP, hv5, mT_wrN, y4, hv4, mT_wrP, hv3, mT_wrN, y2, hv2, mT_wrP, hv1, mT_wrN, zk]
      have hL : ∀ z, mL v6 z = if z = A + 36 then 16 else if z = A + 35 then 16 else if z = A + 34 then 16 else mL wk z := by
        intro z
        rw [hv6, mL_wrP, hv5, mL_wrN, y4, hv4, mL_wrP, hv3, mL_wrN, y2, hv2, mL_wrP, hv1, mL_wrN, zk]
      have hP : ∀ z k, (z ≠ A ∨ k = 1) → z < A + 34 → mP v6 z k = mP wk z k := by
        intro z k hzk hz
        rw [hv6, mP_wrP, if_neg (by omega), hv5, mP_wrN, if_neg (by omega), hv4, mP_wrP, if_neg (by omega), hv3, mP_wrN, if_neg (by omega), hv2, mP_wrP, if_neg (by omega), hv1, mP_wrN, if_neg (by omega)]
      have hI : ∀ k, mI v6 A k = mI wk A k := by
        intro k
        rw [hv6, mI_wrP, hv5, mI_wrN, if_neg (by omega), hv4, mI_wrP, hv3, mI_wrN, if_neg (by omega), hv2, mI_wrP, hv1, mI_wrN, if_neg (by omega)]
      have hTl : ∀ z, z < A + 34 → mT v6 z = mT wk z := fun z hz => by rw [hT, if_neg (by omega), if_neg (by omega), if_neg (by omega)]
      have hLl : ∀ z, z < A + 34 → mL v6 z = mL wk z := fun z hz => by rw [hL, if_neg (by omega), if_neg (by omega), if_neg (by omega)]
      refine hQ v6 q6 (by rw [hv6, mZ_wrP]; exact y5) ⟨hA, by rw [hTl A (by omega)]; exact tk, ⟨by rw [hP A 1 (Or.inr rfl) (by omega)]; exact pk, ?_, ?_, ?_⟩, ⟨by rw [hTl _ (by omega)]; exact tk1, by rw [hLl _ (by omega)]; exact lk1⟩, ⟨by rw [hT, if_neg (by omega), if_neg (by omega), if_pos rfl], by rw [hL, if_neg (by omega), if_neg (by omega), if_pos rfl]⟩, ⟨by rw [hT, if_neg (by omega), if_pos rfl], by rw [hL, if_neg (by omega), if_pos rfl]⟩, ⟨by rw [hT, if_pos rfl], by rw [hL, if_pos rfl]⟩, fun i hi => ?_⟩ ⟨fun i hi => ⟨i, hi, by rw [hP _ _ (by omega) (by omega)]; exact hpk i hi⟩, fun i j hi hj e => ?_⟩ (by rw [hI]; exact i0) (by rw [hI]; exact i5) (by rw [hI]; exact i6)
      · rw [hv6, mP_wrP, if_neg (by omega), hv5, mP_wrN, if_neg (by omega), hv4, mP_wrP, if_neg (by omega), hv3, mP_wrN, if_neg (by omega), hv2, mP_wrP, if_pos ⟨rfl, rfl⟩, zk]
      · rw [hv6, mP_wrP, if_neg (by omega), hv5, mP_wrN, if_neg (by omega), hv4, mP_wrP, if_pos ⟨rfl, rfl⟩, y2]
      · rw [hv6, mP_wrP, if_pos ⟨rfl, rfl⟩, y4]
      · obtain ⟨o1, o2, o3, o4, o5⟩ := hok i hi
        exact ⟨o1, by rw [hTl _ (by omega)]; exact o2, by rw [hP _ _ (by omega) (by omega)]; exact o3, by rw [hTl _ (by omega)]; exact o4, by rw [hLl _ (by omega)]; exact o5⟩
      · rw [hP _ _ (by omega) (by omega), hP _ _ (by omega) (by omega), hpk i hi, hpk j hj] at e
        omega
    | succ j ih =>
      intro k wk hk gk zk tk pk tk1 lk1 hpk hok i0 i5 i6
      refine b_Re_init_20 ?_
      have e16 : ¬ (16 : Int32) ≤ nI k := nI_ge (a := k) (b := 16) (by omega) (by omega)
      rw [if_neg e16, pk]
      refine ⟨tk, by omega, ⟨by omega, by omega⟩, ?_⟩
      rintro v1 hv1
      have y1 : mZ v1 = A + 2 + 2 * k + 1 := by rw [hv1, mZ_wrN]; omega
      have q1 : mGr (fun z => A ≤ z ∧ z < A + 37) w v1 := by rw [hv1]; exact gk.N 2 0 (by rw [zk]; omega)
      rw [zk]
      refine ⟨⟨by omega, by omega⟩, s_Op_init (by rw [hv1, mT_wrN, if_pos zk.symm]) y1 (by omega) (fun v2 r2 y2 o2 => ?_)⟩
      have f2 : ∀ z, z < A + 2 + 2 * k → mT v2 z = mT wk z ∧ mL v2 z = mL wk z ∧ mI v2 z = mI wk z ∧ mP v2 z = mP wk z := by
        intro z hz
        obtain ⟨a1, a2, a3, a4⟩ := r2 z (by omega)
        refine ⟨by rw [a1, hv1, mT_wrN, if_neg (by omega)], by rw [a2, hv1, mL_wrN, if_neg (by omega)], ?_, ?_⟩
        · rw [a3, hv1]; funext m; rw [mI_wrN, if_neg (by omega)]
        · rw [a4, hv1]; funext m; rw [mP_wrN, if_neg (by omega)]
      rw [(f2 (A + 1) (by omega)).1, (f2 (A + 1) (by omega)).2.1]
      refine ⟨tk1, by rw [lk1]; exact vp_in_nI (by omega) (by omega), o2.2.1, ?_⟩
      rw [nI_clamp (by omega), nI_1]
      rintro v3 hv3
      have e1 : 1 + 2 * k + 2 = 1 + 2 * (k + 1) := by omega
      have e2 : 16 + 13 * k + 13 = 16 + 13 * (k + 1) := by omega
      rw [e1, e2]
      have q2 : mGr (fun z => A ≤ z ∧ z < A + 37) w v2 := q1.tr (r2.to (fun z hz => by omega))
      have hpv : ∀ z m, z ≠ A + 1 → mP v3 z m = mP v2 z m := fun z m hz => by rw [hv3, mP_wrP, if_neg (by omega)]
      refine ih (k + 1) v3 (by omega) (by rw [hv3]; exact q2.P _ _ (by omega)) (by rw [hv3, mZ_wrP, y2]; omega) (by rw [hv3, mT_wrP, (f2 A (by omega)).1]; exact tk) (by rw [hpv A 1 (by omega), (f2 A (by omega)).2.2.2]; exact pk) (by rw [hv3, mT_wrP, (f2 _ (by omega)).1]; exact tk1) (by rw [hv3, mL_wrP, (f2 _ (by omega)).2.1]; exact lk1) (fun i hi => ?_) (fun i hi => ?_) (by rw [hv3, mI_wrP, (f2 A (by omega)).2.2.1]; exact i0) (by rw [hv3, mI_wrP, (f2 A (by omega)).2.2.1]; exact i5) (by rw [hv3, mI_wrP, (f2 A (by omega)).2.2.1]; exact i6)
      · by_cases e : i = k
        · rw [e, hv3, mP_wrP, if_pos ⟨rfl, rfl⟩]
        · rw [hv3, mP_wrP, if_neg (by omega), (f2 (A + 1) (by omega)).2.2.2]
          exact hpk i (by omega)
      · by_cases e : i = k
        · rw [e]
          obtain ⟨b1, b2, b3, b4, b5⟩ := o2
          exact ⟨b1, by rw [hv3, mT_wrP]; exact b2, by rw [hpv _ _ (by omega)]; exact b3, by rw [hv3, mT_wrP]; exact b4, by rw [hv3, mL_wrP]; exact b5⟩
        · obtain ⟨b1, b2, b3, b4, b5⟩ := hok i (by omega)
          have c1 := f2 (A + 2 + 2 * i) (by omega)
          have c2 := f2 (A + 2 + 2 * i + 1) (by omega)
          exact ⟨b1, by rw [hv3, mT_wrP, c1.1]; exact b2, by rw [hpv _ _ (by omega), c1.2.2.2]; exact b3, by rw [hv3, mT_wrP, c2.1]; exact b4, by rw [hv3, mL_wrP, c2.2.1]; exact b5⟩
  have h0 := loop 16 0 w3 (by omega) g3 z3 (by rw [hw3, mT_wrP]; exact t2) (by rw [hw3, mP_wrP, if_pos ⟨rfl, rfl⟩, z1]) (by rw [hw3, mT_wrP, hw2, mT_wrN, if_pos z1.symm]) (by rw [hw3, mL_wrP, hw2, mL_wrN, if_pos z1.symm]) (fun i hi => by omega) (fun i hi => by omega) (by rw [hw3, mI_wrP, hw2, mI_wrN, if_neg (by omega), hw1, mI_wrI, if_pos ⟨rfl, rfl⟩]) (by rw [hw3, mI_wrP, hw2, mI_wrN, if_neg (by omega), hw1, mI_wrI, if_neg (by omega)]; exact h5) (by rw [hw3, mI_wrP, hw2, mI_wrN, if_neg (by omega), hw1, mI_wrI, if_neg (by omega)]; exact h6)
  rw [nI_0] at h0
  exact h0
end SIN
