/-! the model's constructor; law -/
theorem CS.r0 {w : mW} {A : Nat} {num : Int32} (h : CS w A num mS0) : R0 w A num := by
  obtain ⟨⟨h1, h2, -, ⟨i0, i5, i6⟩, -⟩, -⟩ := h
  exact ⟨h1, h2, i0, i5.trans nI_0, i6.trans nI_0⟩
theorem DR.gr0 {X : Nat → Prop} {w w' : mW} {b : Nat} (h : mGr X w w') (hX : ∀ z, b ≤ z → z < b + 120 → ¬ X z) (hD : DR w b (fun _ => mS0) []) : DR w' b (fun _ => mS0) [] := by
  have e : ∀ z, b ≤ z → z < b + 120 → mT w' z = mT w z ∧ mL w' z = mL w z ∧ mI w' z = mI w z ∧ mP w' z = mP w z := fun z h1 h2 => h z (hX z h1 h2)
  obtain ⟨⟨h1, h2, ⟨h3, h4, h5, h6⟩, ⟨h7, h8, h9⟩, hc, hw, ho⟩, hR, hW⟩ := hD
  have eb := e b (by omega) (by omega)
  have e1 := e (b + 1) (by omega) (by omega)
  refine ⟨⟨h1, by rw [eb.1]; exact h2, ⟨by rw [eb.2.2.2]; exact h3, by rw [eb.2.2.2]; exact h4, by rw [eb.2.2.2]; exact h5, by rw [eb.2.2.2]; exact h6⟩, ⟨by rw [e1.1]; exact h7, by rw [e1.2.1]; exact h8, fun r hr => by rw [e1.2.2.2]; exact h9 r hr⟩, hc.gr h (hX _ (by omega) (by omega)) (hX _ (by omega) (by omega)) (hX _ (by omega) (by omega)), hw.gr h (hX _ (by omega) (by omega)) (hX _ (by omega) (by omega)), ho.gr h (hX _ (by omega) (by omega)) (hX _ (by omega) (by omega))⟩, fun r hr => ⟨(R0.gr h (fun z a1 a2 => hX z (by unfold rp at a1; omega) (by unfold rp at a2; omega)) (hR r hr).1.r0).cs, (hR r hr).2⟩, hW.of (e _ (by omega) (by omega)).2.2.1 (e _ (by omega) (by omega)).2.2.1⟩
section SLW
variable {d : Nat} {w : mW} {Q : Int32 → mW → Prop}

/-- a new row behind the others, named by a field -/
def AL (B k : Nat) (w w' : mW) : Prop := mGr (fun z => B ≤ z ∧ z < B + 11) w w' ∧ mZ w' = B + 1 + k ∧ mT w' B = 6 ∧ mI w' B 6 = 0
theorem AL.st {B k t n f : Nat} {w w1 : mW} (h : AL B k w w1) (hk : k < 10) : AL B (k + 1) w (wrP (wrN w1 t n) B f (B + 1 + k)) ∧ mT (wrP (wrN w1 t n) B f (B + 1 + k)) (B + 1 + k) = t ∧ mL (wrP (wrN w1 t n) B f (B + 1 + k)) (B + 1 + k) = n ∧ mP (wrP (wrN w1 t n) B f (B + 1 + k)) B f = B + 1 + k ∧ (∀ j, mI (wrP (wrN w1 t n) B f (B + 1 + k)) (B + 1 + k) j = 0) ∧ (∀ z, z < B + 1 + k → mT (wrP (wrN w1 t n) B f (B + 1 + k)) z = mT w1 z ∧ mL (wrP (wrN w1 t n) B f (B + 1 + k)) z = mL w1 z ∧ (∀ j, mI (wrP (wrN w1 t n) B f (B + 1 + k)) z j = mI w1 z j)) ∧ ∀ g, g ≠ f → mP (wrP (wrN w1 t n) B f (B + 1 + k)) B g = mP w1 B g := by
  obtain ⟨h1, h2, h3, h4⟩ := h
  refine ⟨⟨(h1.N t n (by rw [h2]; omega)).P f _ (by omega), ?_, ?_, ?_⟩, ?_, ?_, ?_, fun j => ?_, fun z hz => ⟨?_, ?_, fun j => ?_⟩, fun g hg => ?_⟩
  · rw [mZ_wrP, mZ_wrN, h2]; omega
  · rw [mT_wrP, mT_wrN, if_neg (by omega)]; exact h3
  · rw [mI_wrP, mI_wrN, if_neg (by omega)]; exact h4
  · rw [mT_wrP, mT_wrN, if_pos h2.symm]
  · rw [mL_wrP, mL_wrN, if_pos h2.symm]
  · rw [mP_wrP, if_pos ⟨rfl, rfl⟩]
  · rw [mI_wrP, mI_wrN, if_pos h2.symm]
  · rw [mT_wrP, mT_wrN, if_neg (by omega)]
  · rw [mL_wrP, mL_wrN, if_neg (by omega)]
  · rw [mI_wrP, mI_wrN, if_neg (by omega)]
  · rw [mP_wrP, if_neg (by omega), mP_wrN, if_neg (by omega)]
theorem s_Mo_init {B : Nat} (hT : mT w B = 6) (hz : mZ w = B + 1) (hB : B ≠ 0) (h6 : mI w B 6 = 0) (hQ : ∀ w', mGr (fun z => B ≤ z ∧ z < B + 11) w w' → MSh w' B → mI w' B 6 = 0 → (∀ j, mI w' (B + 2) j = 0) → (∀ j, mI w' (B + 5) j = 0) → Q 0 w') : mC (d + 1) m_Mo_init [.ref B] w Q := by
  have a0 : AL B 0 w w := ⟨mGr.rf _ w, hz, hT, h6⟩
  refine e_Mo_init ?_
  rintro v0 hv0
  have t0 : mT v0 B = 6 := by rw [hv0, mT_wrN, if_neg (by have := a0.2.1; omega)]; exact a0.2.2.1
  refine ⟨t0, by rw [a0.2.1]; omega, ?_⟩
  rw [a0.2.1]
  rintro u0 hu0
  have s0 := a0.st (t := 20) (n := 576) (f := 0) (by omega)
  rw [← hv0, ← hu0] at s0
  obtain ⟨a1, x0, y0, p0, i0, q0, g0⟩ := s0
  rintro v1 hv1
  have t1 : mT v1 B = 6 := by rw [hv1, mT_wrN, if_neg (by have := a1.2.1; omega)]; exact a1.2.2.1
  refine ⟨t1, by rw [a1.2.1]; omega, ?_⟩
  rw [a1.2.1]
  rintro u1 hu1
  have s1 := a1.st (t := 20) (n := 3) (f := 1) (by omega)
  rw [← hv1, ← hu1] at s1
  obtain ⟨a2, x1, y1, p1, i1, q1, g1⟩ := s1
  rintro v2 hv2
  have t2 : mT v2 B = 6 := by rw [hv2, mT_wrN, if_neg (by have := a2.2.1; omega)]; exact a2.2.2.1
  refine ⟨t2, by rw [a2.2.1]; omega, ?_⟩
  rw [a2.2.1]
  rintro u2 hu2
  have s2 := a2.st (t := 21) (n := 48) (f := 2) (by omega)
  rw [← hv2, ← hu2] at s2
  obtain ⟨a3, x2, y2, p2, i2, q2, g2⟩ := s2
  rintro v3 hv3
  have t3 : mT v3 B = 6 := by rw [hv3, mT_wrN, if_neg (by have := a3.2.1; omega)]; exact a3.2.2.1
  refine ⟨t3, by rw [a3.2.1]; omega, ?_⟩
  rw [a3.2.1]
  rintro u3 hu3
  have s3 := a3.st (t := 20) (n := 48) (f := 3) (by omega)
  rw [← hv3, ← hu3] at s3
  obtain ⟨a4, x3, y3, p3, i3, q3, g3⟩ := s3
  rintro v4 hv4
  have t4 : mT v4 B = 6 := by rw [hv4, mT_wrN, if_neg (by have := a4.2.1; omega)]; exact a4.2.2.1
  refine ⟨t4, by rw [a4.2.1]; omega, ?_⟩
  rw [a4.2.1]
  rintro u4 hu4
  have s4 := a4.st (t := 20) (n := 3) (f := 4) (by omega)
  rw [← hv4, ← hu4] at s4
  obtain ⟨a5, x4, y4, p4, i4, q4, g4⟩ := s4
  rintro v5 hv5
  have t5 : mT v5 B = 6 := by rw [hv5, mT_wrN, if_neg (by have := a5.2.1; omega)]; exact a5.2.2.1
  refine ⟨t5, by rw [a5.2.1]; omega, ?_⟩
  rw [a5.2.1]
  rintro u5 hu5
  have s5 := a5.st (t := 20) (n := 16) (f := 5) (by omega)
  rw [← hv5, ← hu5] at s5
  obtain ⟨a6, x5, y5, p5, i5, q5, g5⟩ := s5
  rintro v6 hv6
  have t6 : mT v6 B = 6 := by rw [hv6, mT_wrN, if_neg (by have := a6.2.1; omega)]; exact a6.2.2.1
  refine ⟨t6, by rw [a6.2.1]; omega, ?_⟩
  rw [a6.2.1]
  rintro u6 hu6
  have s6 := a6.st (t := 21) (n := 16) (f := 8) (by omega)
  rw [← hv6, ← hu6] at s6
  obtain ⟨a7, x6, y6, p6, i6, q6, g6⟩ := s6
  rintro v7 hv7
  have t7 : mT v7 B = 6 := by rw [hv7, mT_wrN, if_neg (by have := a7.2.1; omega)]; exact a7.2.2.1
  refine ⟨t7, by rw [a7.2.1]; omega, ?_⟩
  rw [a7.2.1]
  rintro u7 hu7
  have s7 := a7.st (t := 20) (n := 16) (f := 9) (by omega)
  rw [← hv7, ← hu7] at s7
  obtain ⟨a8, x7, y7, p7, i7, q7, g7⟩ := s7
  rintro v8 hv8
  have t8 : mT v8 B = 6 := by rw [hv8, mT_wrN, if_neg (by have := a8.2.1; omega)]; exact a8.2.2.1
  refine ⟨t8, by rw [a8.2.1]; omega, ?_⟩
  rw [a8.2.1]
  rintro u8 hu8
  have s8 := a8.st (t := 20) (n := 16) (f := 10) (by omega)
  rw [← hv8, ← hu8] at s8
  obtain ⟨a9, x8, y8, p8, i8, q8, g8⟩ := s8
  rintro v9 hv9
  have t9 : mT v9 B = 6 := by rw [hv9, mT_wrN, if_neg (by have := a9.2.1; omega)]; exact a9.2.2.1
  refine ⟨t9, by rw [a9.2.1]; omega, ?_⟩
  rw [a9.2.1]
  rintro u9 hu9
  have s9 := a9.st (t := 20) (n := 24) (f := 11) (by omega)
  rw [← hv9, ← hu9] at s9
  obtain ⟨a10, x9, y9, p9, i9, q9, g9⟩ := s9
  exact hQ u9 a10.1 ⟨hB, a10.2.2.1, ⟨by rw [g9 0 (by omega), g8 0 (by omega), g7 0 (by omega), g6 0 (by omega), g5 0 (by omega), g4 0 (by omega), g3 0 (by omega), g2 0 (by omega), g1 0 (by omega), p0], by rw [g9 1 (by omega), g8 1 (by omega), g7 1 (by omega), g6 1 (by omega), g5 1 (by omega), g4 1 (by omega), g3 1 (by omega), g2 1 (by omega), p1], by rw [g9 2 (by omega), g8 2 (by omega), g7 2 (by omega), g6 2 (by omega), g5 2 (by omega), g4 2 (by omega), g3 2 (by omega), p2], by rw [g9 3 (by omega), g8 3 (by omega), g7 3 (by omega), g6 3 (by omega), g5 3 (by omega), g4 3 (by omega), p3], by rw [g9 4 (by omega), g8 4 (by omega), g7 4 (by omega), g6 4 (by omega), g5 4 (by omega), p4], by rw [g9 5 (by omega), g8 5 (by omega), g7 5 (by omega), g6 5 (by omega), p5]⟩, ⟨by rw [g9 8 (by omega), g8 8 (by omega), g7 8 (by omega), p6], by rw [g9 9 (by omega), g8 9 (by omega), p7], by rw [g9 10 (by omega), p8], p9⟩, ⟨by rw [(q9 (B + 1) (by omega)).1, (q8 (B + 1) (by omega)).1, (q7 (B + 1) (by omega)).1, (q6 (B + 1) (by omega)).1, (q5 (B + 1) (by omega)).1, (q4 (B + 1) (by omega)).1, (q3 (B + 1) (by omega)).1, (q2 (B + 1) (by omega)).1, (q1 (B + 1) (by omega)).1]; exact x0, by rw [(q9 (B + 1) (by omega)).2.1, (q8 (B + 1) (by omega)).2.1, (q7 (B + 1) (by omega)).2.1, (q6 (B + 1) (by omega)).2.1, (q5 (B + 1) (by omega)).2.1, (q4 (B + 1) (by omega)).2.1, (q3 (B + 1) (by omega)).2.1, (q2 (B + 1) (by omega)).2.1, (q1 (B + 1) (by omega)).2.1]; exact y0⟩, ⟨by rw [(q9 (B + 2) (by omega)).1, (q8 (B + 2) (by omega)).1, (q7 (B + 2) (by omega)).1, (q6 (B + 2) (by omega)).1, (q5 (B + 2) (by omega)).1, (q4 (B + 2) (by omega)).1, (q3 (B + 2) (by omega)).1, (q2 (B + 2) (by omega)).1]; exact x1, by rw [(q9 (B + 2) (by omega)).2.1, (q8 (B + 2) (by omega)).2.1, (q7 (B + 2) (by omega)).2.1, (q6 (B + 2) (by omega)).2.1, (q5 (B + 2) (by omega)).2.1, (q4 (B + 2) (by omega)).2.1, (q3 (B + 2) (by omega)).2.1, (q2 (B + 2) (by omega)).2.1]; exact y1⟩, ⟨by rw [(q9 (B + 3) (by omega)).1, (q8 (B + 3) (by omega)).1, (q7 (B + 3) (by omega)).1, (q6 (B + 3) (by omega)).1, (q5 (B + 3) (by omega)).1, (q4 (B + 3) (by omega)).1, (q3 (B + 3) (by omega)).1]; exact x2, by rw [(q9 (B + 3) (by omega)).2.1, (q8 (B + 3) (by omega)).2.1, (q7 (B + 3) (by omega)).2.1, (q6 (B + 3) (by omega)).2.1, (q5 (B + 3) (by omega)).2.1, (q4 (B + 3) (by omega)).2.1, (q3 (B + 3) (by omega)).2.1]; exact y2⟩, ⟨by rw [(q9 (B + 4) (by omega)).1, (q8 (B + 4) (by omega)).1, (q7 (B + 4) (by omega)).1, (q6 (B + 4) (by omega)).1, (q5 (B + 4) (by omega)).1, (q4 (B + 4) (by omega)).1]; exact x3, by rw [(q9 (B + 4) (by omega)).2.1, (q8 (B + 4) (by omega)).2.1, (q7 (B + 4) (by omega)).2.1, (q6 (B + 4) (by omega)).2.1, (q5 (B + 4) (by omega)).2.1, (q4 (B + 4) (by omega)).2.1]; exact y3⟩, ⟨by rw [(q9 (B + 5) (by omega)).1, (q8 (B + 5) (by omega)).1, (q7 (B + 5) (by omega)).1, (q6 (B + 5) (by omega)).1, (q5 (B + 5) (by omega)).1]; exact x4, by rw [(q9 (B + 5) (by omega)).2.1, (q8 (B + 5) (by omega)).2.1, (q7 (B + 5) (by omega)).2.1, (q6 (B + 5) (by omega)).2.1, (q5 (B + 5) (by omega)).2.1]; exact y4⟩, ⟨by rw [(q9 (B + 6) (by omega)).1, (q8 (B + 6) (by omega)).1, (q7 (B + 6) (by omega)).1, (q6 (B + 6) (by omega)).1]; exact x5, by rw [(q9 (B + 6) (by omega)).2.1, (q8 (B + 6) (by omega)).2.1, (q7 (B + 6) (by omega)).2.1, (q6 (B + 6) (by omega)).2.1]; exact y5⟩, ⟨by rw [(q9 (B + 7) (by omega)).1, (q8 (B + 7) (by omega)).1, (q7 (B + 7) (by omega)).1]; exact x6, by rw [(q9 (B + 7) (by omega)).2.1, (q8 (B + 7) (by omega)).2.1, (q7 (B + 7) (by omega)).2.1]; exact y6⟩, ⟨by rw [(q9 (B + 8) (by omega)).1, (q8 (B + 8) (by omega)).1]; exact x7, by rw [(q9 (B + 8) (by omega)).2.1, (q8 (B + 8) (by omega)).2.1]; exact y7⟩, ⟨by rw [(q9 (B + 9) (by omega)).1]; exact x8, by rw [(q9 (B + 9) (by omega)).2.1]; exact y8⟩, x9, y9⟩ a10.2.2.2 (fun j => by rw [(q9 (B + 2) (by omega)).2.2 j, (q8 (B + 2) (by omega)).2.2 j, (q7 (B + 2) (by omega)).2.2 j, (q6 (B + 2) (by omega)).2.2 j, (q5 (B + 2) (by omega)).2.2 j, (q4 (B + 2) (by omega)).2.2 j, (q3 (B + 2) (by omega)).2.2 j, (q2 (B + 2) (by omega)).2.2 j]; exact i1 j) (fun j => by rw [(q9 (B + 5) (by omega)).2.2 j, (q8 (B + 5) (by omega)).2.2 j, (q7 (B + 5) (by omega)).2.2 j, (q6 (B + 5) (by omega)).2.2 j, (q5 (B + 5) (by omega)).2.2 j]; exact i4 j)
theorem lt18 {N i : Nat} (hN : N < 2 ^ 31) (hi : i < 2 ^ 31) : nI N - (6 : Int32) < nI i ↔ N < i + 6 := by
  by_cases h : 6 ≤ N
  · have e : nI N - (6 : Int32) = nI (N - 6) := pk_sub (a := N) (b := 6) h
    rw [e, nI_ltI (by omega) hi]
    omega
  · have e : ∀ M, M < 6 → nI M - (6 : Int32) < 0 := by decide +kernel
    exact ⟨fun _ => by omega, fun _ => Int32.lt_of_lt_of_le (e N (by omega)) (nI_pos' hi)⟩
/-- the loop of law -/
theorem law_loop {b a N : Nat} {cs : Nat → Int32} (hN : N < 2 ^ 31) (hQ : ∀ w', Q 1 w') : ∀ f i w, N < i + 6 + f → i ≤ N → JR w b a N cs → mG (d + 7) m_La_law (131, 2016) 18 [vR a, vR b, vR (b + 120), vI (nI i)] [] w Q := by
  intro f
  induction f with
  | zero =>
    intro i w hf hi hJ
    obtain ⟨K, l, hab, hS, -⟩ := hJ
    refine b_La_law_18 ⟨hS.1, ?_⟩
    rw [hS.2.1, if_pos ((lt18 hN (by omega)).mpr (by omega))]
    exact hQ w
  | succ f ih =>
    intro i w hf hi hJ
    have hJ0 := hJ
    obtain ⟨K, l, hab, hS, hD, -⟩ := hJ
    have tb : mT w b = 1 := hD.1.2.1
    refine b_La_law_18 ⟨hS.1, ?_⟩
    rw [hS.2.1, hS.2.2]
    refine by_if (fun _ => hQ w) (fun e => ?_)
    rw [lt18 hN (by omega)] at e
    have vp : ∀ j, j < 6 → vp_in (nI (i + j)) N := fun j hj => vp_in_nI (by omega) hN
    obtain ⟨c, hc, ec⟩ := pk_andE (cs (nI i).toNatClampNeg) (m := (15 : Int32)) 4 (by decide)
    refine ⟨vp 0 (by omega), c, by omega, ec, ?_⟩
    have e1 : nI i + (1 : Int32) = nI (i + 1) := nI_add i 1
    have e2 : nI i + (2 : Int32) = nI (i + 2) := nI_add i 2
    have e3 : nI i + (3 : Int32) = nI (i + 3) := nI_add i 3
    have e4 : nI i + (4 : Int32) = nI (i + 4) := nI_add i 4
    have e5 : nI i + (5 : Int32) = nI (i + 5) := nI_add i 5
    have e6 : nI i + (6 : Int32) = nI (i + 6) := nI_add i 6
    have hG : ∀ w', JR w' b a N cs → mG (d + 7) m_La_law (131, 2016) 650 [vR a, vR b, vR (b + 120), vI (nI i)] [] w' Q := by
      intro w' hJ'
      refine b_La_law_650 ?_
      rw [e6]
      exact ih (i + 6) w' (by omega) (by omega) hJ'
    rcases (by omega : c = 0 ∨ c = 1 ∨ c = 2 ∨ c = 3 ∨ c = 4 ∨ c = 5 ∨ c = 6 ∨ c = 7 ∨ c = 8 ∨ c = 9 ∨ c = 10 ∨ c = 11 ∨ c = 12 ∨ c = 13 ∨ c = 14 ∨ c = 15) with rfl | rfl | rfl | rfl | rfl | rfl | rfl | rfl | rfl | rfl | rfl | rfl | rfl | rfl | rfl | rfl
    · show mG (d + 7) m_La_law (131, 2016) 112 [vR a, vR b, vR (b + 120), vI (nI i)] [] w Q
      refine b_La_law_112 ?_
      rw [hS.2.2, hS.2.1, e1, e2, e3, e4, e5]
      refine ⟨hS.1, vp 1 (by omega), vp 2 (by omega), vp 3 (by omega), vp 4 (by omega), vp 5 (by omega), tb, mC.mono (fun r1 w1 h => ?_) (j_edit (F := fun w2 => Q 0 w2) hJ0 hG)⟩
      rw [h.1.2.2, h.1.2.1]
      exact ⟨h.1.1, vp 1 (by omega), vp 2 (by omega), vp 3 (by omega), vp 4 (by omega), vp 5 (by omega), h.2.1, h.2.2⟩
    · show mG (d + 7) m_La_law (131, 2016) 175 [vR a, vR b, vR (b + 120), vI (nI i)] [] w Q
      refine b_La_law_175 ?_
      rw [hS.2.2, hS.2.1, e1, e2]
      refine ⟨hS.1, vp 1 (by omega), vp 2 (by omega), tb, mC.mono (fun r1 w1 h => ?_) (j_emit (F := fun w2 => Q 0 w2) hJ0 hG)⟩
      rw [h.1.2.2, h.1.2.1]
      exact ⟨h.1.1, vp 1 (by omega), vp 2 (by omega), h.2.1, h.2.2⟩
    · show mG (d + 7) m_La_law (131, 2016) 208 [vR a, vR b, vR (b + 120), vI (nI i)] [] w Q
      refine b_La_law_208 ?_
      rw [hS.2.2, hS.2.1, e1]
      refine ⟨hS.1, vp 1 (by omega), tb, mC.mono (fun r1 w1 h => ?_) (j_wire (F := fun w2 => Q 0 w2) hJ0 hG)⟩
      rw [h.1.2.2, h.1.2.1]
      exact ⟨h.1.1, vp 1 (by omega), h.2.1, h.2.2⟩
    · show mG (d + 7) m_La_law (131, 2016) 231 [vR a, vR b, vR (b + 120), vI (nI i)] [] w Q
      refine b_La_law_231 ?_
      rw [hS.2.2, hS.2.1, e1, e2]
      refine ⟨hS.1, vp 1 (by omega), vp 2 (by omega), tb, mC.mono (fun r1 w1 h => ?_) (j_alter (F := fun w2 => Q 0 w2) hJ0 hG)⟩
      rw [h.1.2.2, h.1.2.1]
      exact ⟨h.1.1, vp 1 (by omega), vp 2 (by omega), h.2.1, h.2.2⟩
    · show mG (d + 7) m_La_law (131, 2016) 264 [vR a, vR b, vR (b + 120), vI (nI i)] [] w Q
      refine b_La_law_264 ?_
      rw [hS.2.2, hS.2.1, e1]
      refine ⟨hS.1, vp 1 (by omega), tb, mC.mono (fun r1 w1 h => ?_) (j_cut (F := fun w2 => Q 0 w2) hJ0 hG)⟩
      rw [h.1.2.2, h.1.2.1]
      exact ⟨h.1.1, vp 1 (by omega), h.2.1, h.2.2⟩
    · show mG (d + 7) m_La_law (131, 2016) 287 [vR a, vR b, vR (b + 120), vI (nI i)] [] w Q
      refine b_La_law_287 ?_
      rw [hS.2.2, hS.2.1, e1]
      refine ⟨hS.1, vp 1 (by omega), tb, mC.mono (fun r1 w1 h => ?_) (j_receive (F := fun w2 => Q 0 w2) hJ0 hG)⟩
      rw [h.1.2.2, h.1.2.1]
      exact ⟨h.1.1, vp 1 (by omega), h.2.1, h.2.2⟩
    · show mG (d + 7) m_La_law (131, 2016) 310 [vR a, vR b, vR (b + 120), vI (nI i)] [] w Q
      refine b_La_law_310 ?_
      rw [hS.2.2, hS.2.1, e1]
      refine ⟨hS.1, vp 1 (by omega), tb, mC.mono (fun r1 w1 h => ?_) (j_held (F := fun w2 => Q 0 w2) hJ0 hG)⟩
      rw [h.1.2.2, h.1.2.1]
      exact ⟨h.1.1, vp 1 (by omega), h.2.1, h.2.2⟩
    · show mG (d + 7) m_La_law (131, 2016) 333 [vR a, vR b, vR (b + 120), vI (nI i)] [] w Q
      refine b_La_law_333 ?_
      rw [hS.2.2, hS.2.1, e1, e2]
      refine ⟨hS.1, vp 1 (by omega), vp 2 (by omega), tb, mC.mono (fun r1 w1 h => ?_) (j_log (F := fun w2 => Q 0 w2) hJ0 hG)⟩
      rw [h.1.2.2, h.1.2.1]
      exact ⟨h.1.1, vp 1 (by omega), vp 2 (by omega), h.2.1, h.2.2⟩
    · show mG (d + 7) m_La_law (131, 2016) 366 [vR a, vR b, vR (b + 120), vI (nI i)] [] w Q
      refine b_La_law_366 ?_
      rw [hS.2.2, hS.2.1, e1, e2, e3]
      refine ⟨hS.1, vp 1 (by omega), vp 2 (by omega), vp 3 (by omega), tb, mC.mono (fun r1 w1 h => ?_) (j_past (F := fun w2 => Q 0 w2) hJ0 hG)⟩
      rw [h.1.2.2, h.1.2.1]
      exact ⟨h.1.1, vp 1 (by omega), vp 2 (by omega), vp 3 (by omega), h.2.1, h.2.2⟩
    · show mG (d + 7) m_La_law (131, 2016) 409 [vR a, vR b, vR (b + 120), vI (nI i)] [] w Q
      refine b_La_law_409 ?_
      rw [hS.2.2, hS.2.1, e1]
      refine ⟨hS.1, vp 1 (by omega), tb, mC.mono (fun r1 w1 h => ?_) (j_heads (F := fun w2 => Q 0 w2) hJ0 hG)⟩
      rw [h.1.2.2, h.1.2.1]
      exact ⟨h.1.1, vp 1 (by omega), h.2.1, h.2.2⟩
    · show mG (d + 7) m_La_law (131, 2016) 432 [vR a, vR b, vR (b + 120), vI (nI i)] [] w Q
      refine b_La_law_432 ?_
      rw [hS.2.2, hS.2.1, e1, e2, e3, e4]
      refine ⟨hS.1, vp 1 (by omega), vp 2 (by omega), vp 3 (by omega), vp 4 (by omega), tb, mC.mono (fun r1 w1 h => ?_) (j_entry (F := fun w2 => Q 0 w2) hJ0 hG)⟩
      rw [h.1.2.2, h.1.2.1]
      exact ⟨h.1.1, vp 1 (by omega), vp 2 (by omega), vp 3 (by omega), vp 4 (by omega), h.2.1, h.2.2⟩
    · show mG (d + 7) m_La_law (131, 2016) 485 [vR a, vR b, vR (b + 120), vI (nI i)] [] w Q
      refine b_La_law_485 ?_
      rw [hS.2.2, hS.2.1, e1, e2, e3]
      refine ⟨hS.1, vp 1 (by omega), vp 2 (by omega), vp 3 (by omega), tb, mC.mono (fun r1 w1 h => ?_) (j_element (F := fun w2 => Q 0 w2) hJ0 hG)⟩
      rw [h.1.2.2, h.1.2.1]
      exact ⟨h.1.1, vp 1 (by omega), vp 2 (by omega), vp 3 (by omega), h.2.1, h.2.2⟩
    · show mG (d + 7) m_La_law (131, 2016) 528 [vR a, vR b, vR (b + 120), vI (nI i)] [] w Q
      refine b_La_law_528 ?_
      rw [hS.2.2, hS.2.1, e1, e2]
      refine ⟨hS.1, vp 1 (by omega), vp 2 (by omega), tb, mC.mono (fun r1 w1 h => ?_) (j_value (F := fun w2 => Q 0 w2) hJ0 hG)⟩
      rw [h.1.2.2, h.1.2.1]
      exact ⟨h.1.1, vp 1 (by omega), vp 2 (by omega), h.2.1, h.2.2⟩
    · show mG (d + 7) m_La_law (131, 2016) 561 [vR a, vR b, vR (b + 120), vI (nI i)] [] w Q
      refine b_La_law_561 ?_
      rw [hS.2.2, hS.2.1, e1, e2]
      refine ⟨hS.1, vp 1 (by omega), vp 2 (by omega), tb, mC.mono (fun r1 w1 h => ?_) (j_depth (F := fun w2 => Q 0 w2) hJ0 hG)⟩
      rw [h.1.2.2, h.1.2.1]
      exact ⟨h.1.1, vp 1 (by omega), vp 2 (by omega), h.2.1, h.2.2⟩
    · show mG (d + 7) m_La_law (131, 2016) 594 [vR a, vR b, vR (b + 120), vI (nI i)] [] w Q
      refine b_La_law_594 ?_
      rw [hS.2.2, hS.2.1, e1]
      refine ⟨hS.1, vp 1 (by omega), tb, mC.mono (fun r1 w1 h => ?_) (j_sum (F := fun w2 => Q 0 w2) hJ0 hG)⟩
      rw [h.1.2.2, h.1.2.1]
      exact ⟨h.1.1, vp 1 (by omega), h.2.1, h.2.2⟩
    · show mG (d + 7) m_La_law (131, 2016) 617 [vR a, vR b, vR (b + 120), vI (nI i)] [] w Q
      refine b_La_law_617 ?_
      rw [hS.2.2, hS.2.1, e1, e2]
      refine ⟨hS.1, vp 1 (by omega), vp 2 (by omega), tb, mC.mono (fun r1 w1 h => ?_) (j_level (F := fun w2 => Q 0 w2) hJ0 hG)⟩
      rw [h.1.2.2, h.1.2.1]
      exact ⟨h.1.1, vp 1 (by omega), vp 2 (by omega), h.2.1, h.2.2⟩
/-- law says yes -/
theorem law_all {a N : Nat} {cs : Nat → Int32} (hS : JS w a N cs) (ha : a < mZ w) (hN : N < 2 ^ 31) (hQ : ∀ w', Q 1 w') : mG (d + 7) m_La_law (0, 0) 0 [vR a, vN, vN, vN] [] w Q := by
  refine b_La_law_0 ?_
  rintro w1 hw1
  have hb0 : mZ w ≠ 0 := by omega
  refine s_Do_init (by rw [hw1, mT_wrN, if_pos rfl]) (by rw [hw1, mZ_wrN]) hb0 (fun w2 g2 z2 d2 => ?_)
  rintro w3 hw3
  rw [z2]
  refine s_Mo_init (by rw [hw3, mT_wrN, if_pos z2.symm]) (by rw [hw3, mZ_wrN, z2]) (by omega) (by rw [hw3, mI_wrN, if_pos z2.symm]) (fun w4 g4 m4 i4 h4 l4 => ?_)
  have g3 : mGr (fun z => mZ w + 120 ≤ z ∧ z < mZ w + 131) w2 w3 := by rw [hw3]; exact (mGr.rf _ w2).N 6 0 (by rw [z2]; omega)
  have g24 : mGr (fun z => mZ w + 120 ≤ z ∧ z < mZ w + 131) w2 w4 := g3.tr (g4.to (fun z hz => by omega))
  have d4 := DR.gr0 g24 (fun z _ h2 => by omega) d2
  have g1 : mGr (fun z => z = mZ w) w w1 := by rw [hw1]; exact (mGr.rf _ w).N 1 0 rfl
  have s1 := g1 a (by omega)
  have s2 := g2 a (by omega)
  have s4 := g24 a (by omega)
  have hS4 : JS w4 a N cs := ⟨by rw [s4.1, s2.1, s1.1]; exact hS.1, by rw [s4.2.1, s2.2.1, s1.2.1]; exact hS.2.1, by rw [s4.2.2.1, s2.2.2.1, s1.2.2.1]; exact hS.2.2⟩
  have h0 := law_loop (d := d) (Q := Q) (b := mZ w) (a := a) (cs := cs) hN hQ N 0 w4 (by omega) (by omega) ⟨_, _, ha, hS4, d4, fun k hk => absurd hk (Nat.not_lt_zero _), fun r hr => ⟨id, id, m4, hr, Nat.le_refl _, Nat.zero_le _, fun j hj => absurd hj (Nat.not_lt_zero _), fun j hj => absurd hj (Nat.not_lt_zero _), (h4 r).trans nI_0.symm, (l4 r).trans nI_0.symm, fun j hj => absurd hj (Nat.not_lt_zero _), fun j hj => absurd hj (Nat.not_lt_zero _), fun j hj => absurd hj (Nat.not_lt_zero _), fun j hj => absurd hj (Nat.not_lt_zero _), fun p p' hp => absurd hp (Nat.not_lt_zero _)⟩, ⟨Nat.zero_le _, i4.trans nI_0.symm, fun k hk => absurd hk (Nat.not_lt_zero _)⟩⟩
  rw [nI_0] at h0
  exact h0
end SLW
