/-! the document's own constructor -/
def R0 (w : mW) (A : Nat) (num : Int32) : Prop := RSh w A ∧ RPt w A ∧ mI w A 0 = num ∧ mI w A 5 = 0 ∧ mI w A 6 = 0
theorem R0.gr {X : Nat → Prop} {w w' : mW} {A : Nat} {num : Int32} (h : mGr X w w') (hX : ∀ z, A ≤ z → z < A + 37 → ¬ X z) (hR : R0 w A num) : R0 w' A num := by
  obtain ⟨⟨h1, h2, ⟨h3, h4, h5, h6⟩, ⟨h7, h8⟩, ⟨h9, h10⟩, ⟨h11, h12⟩, ⟨h13, h14⟩, h15⟩, hRP, i0, i5, i6⟩ := hR
  have e : ∀ z, A ≤ z → z < A + 37 → mT w' z = mT w z ∧ mL w' z = mL w z ∧ mI w' z = mI w z ∧ mP w' z = mP w z := fun z h1 h2 => h z (hX z h1 h2)
  have eA := e A (by omega) (by omega)
  have e1 := e (A + 1) (by omega) (by omega)
  have e2 := e (A + 34) (by omega) (by omega)
  have e3 := e (A + 35) (by omega) (by omega)
  have e4 := e (A + 36) (by omega) (by omega)
  refine ⟨⟨h1, by rw [eA.1]; exact h2, ⟨by rw [eA.2.2.2]; exact h3, by rw [eA.2.2.2]; exact h4, by rw [eA.2.2.2]; exact h5, by rw [eA.2.2.2]; exact h6⟩, ⟨by rw [e1.1]; exact h7, by rw [e1.2.1]; exact h8⟩, ⟨by rw [e2.1]; exact h9, by rw [e2.2.1]; exact h10⟩, ⟨by rw [e3.1]; exact h11, by rw [e3.2.1]; exact h12⟩, ⟨by rw [e4.1]; exact h13, by rw [e4.2.1]; exact h14⟩, fun k hk => (h15 k hk).gr h (hX _ (by omega) (by omega)) (hX _ (by omega) (by omega))⟩, ⟨fun i hi => by rw [e1.2.2.2]; exact hRP.1 i hi, fun i j hi hj e => hRP.2 i j hi hj (by rw [e1.2.2.2] at e; exact e)⟩, by rw [eA.2.2.1]; exact i0, by rw [eA.2.2.1]; exact i5, by rw [eA.2.2.1]; exact i6⟩
theorem CoSh.gr {X : Nat → Prop} {w w' : mW} {a : Nat} (h : mGr X w w') (h0 : ¬ X a) (h1 : ¬ X (a + 1)) (h2 : ¬ X (a + 2)) (hS : CoSh w a) : CoSh w' a := by
  obtain ⟨c1, c2, ⟨c3, c4⟩, ⟨c5, c6⟩, c7, c8⟩ := hS
  exact ⟨c1, by rw [(h _ h0).1]; exact c2, ⟨by rw [(h _ h0).2.2.2]; exact c3, by rw [(h _ h0).2.2.2]; exact c4⟩, ⟨by rw [(h _ h1).1]; exact c5, by rw [(h _ h1).2.1]; exact c6⟩, by rw [(h _ h2).1]; exact c7, by rw [(h _ h2).2.1]; exact c8⟩
theorem WSh.gr {X : Nat → Prop} {w w' : mW} {a : Nat} (h : mGr X w w') (h0 : ¬ X a) (h1 : ¬ X (a + 1)) (hS : WSh w a) : WSh w' a := by
  obtain ⟨d1, d2, d3, d4, d5⟩ := hS
  exact ⟨d1, by rw [(h _ h0).1]; exact d2, by rw [(h _ h0).2.2.2]; exact d3, by rw [(h _ h1).1]; exact d4, by rw [(h _ h1).2.1]; exact d5⟩
/-- an empty replica -/
def mS0 : mS := (0, 0, fun _ => [], fun _ => 0, fun _ => False, fun _ => 0)
theorem R0.cs {w : mW} {A : Nat} {num : Int32} (hR : R0 w A num) : CS w A num mS0 := by
  obtain ⟨h1, h2, i0, i5, i6⟩ := hR
  refine ⟨⟨h1, h2, ⟨Nat.le_refl _, Nat.zero_le _⟩, ⟨i0, by rw [i5]; exact nI_0.symm, by rw [i6]; exact nI_0.symm⟩, fun i hi => absurd hi (Nat.not_lt_zero _), fun i hi => absurd hi (Nat.not_lt_zero _), fun i hi => absurd hi (Nat.not_lt_zero _), fun i hi => absurd hi (Nat.not_lt_zero _)⟩, fun j hj => absurd hj (Nat.not_lt_zero _), fun j hj => absurd hj (Nat.not_lt_zero _), ⟨fun i hi => absurd hi (Nat.not_lt_zero _), fun i j hij hj => absurd hj (Nat.not_lt_zero _)⟩, fun p p' hp => absurd hp (Nat.not_lt_zero _)⟩
theorem MI0 (num : Int32) : MI num 0 0 (fun _ => []) := ⟨fun p hp => absurd hp (Nat.not_lt_zero _), fun j hj => absurd hj (Nat.not_lt_zero _), fun p _ hp => absurd hp (Nat.not_lt_zero _)⟩
section SDI
variable {d : Nat} {w : mW} {Q : Int32 → mW → Prop} {b : Nat}
theorem s_Do_init (hT : mT w b = 1) (hz : mZ w = b + 1) (hb0 : b ≠ 0) (hQ : ∀ w', mGr (fun z => b ≤ z ∧ z < b + 120) w w' → mZ w' = b + 120 → DR w' b (fun _ => mS0) [] → Q 0 w') : mC (d + 3) m_Do_init [.ref b] w Q := by
  have hrp : ∀ q, rp b q = b + 2 + 37 * q := fun q => rfl
  refine e_Do_init ?_
  rintro w1 hw1
  have t1 : mT w1 b = 1 := by rw [hw1, mT_wrN, if_neg (by omega)]; exact hT
  have g1 : mGr (fun z => b ≤ z ∧ z < b + 120) w w1 := by rw [hw1]; exact (mGr.rf _ w).N 23 3 (by rw [hz]; omega)
  refine ⟨t1, by omega, ?_⟩
  rintro w2 hw2
  have g2 : mGr (fun z => b ≤ z ∧ z < b + 120) w w2 := by rw [hw2]; exact g1.P 0 _ (by omega)
  have z2 : mZ w2 = b + 2 := by rw [hw2, mZ_wrP, hw1, mZ_wrN]; omega
  have loop : ∀ j r wk, r + j = 3 → mGr (fun z => b ≤ z ∧ z < b + 120) w wk → mZ wk = b + 2 + 37 * r → mT wk b = 1 → mP wk b 0 = b + 1 → mT wk (b + 1) = 23 → mL wk (b + 1) = 3 → (∀ i, i < r → mP wk (b + 1) i = rp b i) → (∀ i, i < r → R0 wk (rp b i) (nI i)) → mG (d + 3) m_Do_init (1 + 37 * r, 3 + 279 * r) 14 [vR b, vI (nI r)] [] wk Q := by
    intro j
    induction j with
    | zero =>
      intro r wk hr gk zk tk pk tk1 lk1 hpk hok
      have er : r = 3 := by omega
      subst er
      refine b_Do_init_14 ?_
      rw [if_pos (by decide)]
      refine ⟨⟨by omega, by omega⟩, ?_⟩
      rintro v1 hv1
      have y1 : mZ v1 = b + 114 := by rw [hv1, mZ_wrN]; omega
      have q1 : mGr (fun z => z = b + 113) wk v1 := by rw [hv1]; exact (mGr.rf _ wk).N 5 0 (by rw [zk])
      have zk' : mZ wk = b + 113 := by omega
      rw [zk']
      refine ⟨⟨by omega, by omega⟩, s_Co_init (by rw [hv1, mT_wrN, if_pos zk'.symm]) y1 (by omega) (fun v2 r2 y2 c2 => ?_)⟩
      have f2 : mGr (fun z => b + 113 ≤ z ∧ z < b + 120) wk v2 := (q1.to (fun z hz => by omega)).tr (r2.to (fun z hz => by omega))
      rw [(f2 b (by omega)).1]
      refine ⟨tk, by omega, ?_⟩
      rintro v3 hv3
      have f3 : mGr (fun z => z = b) v2 v3 := by rw [hv3]; exact (mGr.rf _ v2).P 1 _ rfl
      have y3 : mZ v3 = b + 116 := by rw [hv3, mZ_wrP]; exact y2
      refine ⟨⟨by omega, by omega⟩, ?_⟩
      rintro v4 hv4
      have f4 : mGr (fun z => z = b + 116) v3 v4 := by rw [hv4]; exact (mGr.rf _ v3).N 3 0 (by rw [y3])
      have y4 : mZ v4 = b + 117 := by rw [hv4, mZ_wrN]; omega
      rw [y3]
      refine ⟨⟨by omega, by omega⟩, s_Wi_init (by rw [hv4, mT_wrN, if_pos y3.symm]) y4 (by omega) (by rw [hv4, mI_wrN, if_pos y3.symm]) (fun v5 r5 y5 s5 i5 => ?_)⟩
      have f25 : mGr (fun z => z = b ∨ (b + 116 ≤ z ∧ z < b + 120)) v2 v5 := ((f3.to (fun z hz => Or.inl hz)).tr (f4.to (fun z hz => Or.inr (by omega)))).tr (r5.to (fun z hz => Or.inr (by omega)))
      have tb5 : mT v5 b = 1 := by
        rw [(r5 b (by omega)).1, (f4 b (by omega)).1, hv3, mT_wrP, (f2 b (by omega)).1]; exact tk
      refine ⟨tb5, by omega, ?_⟩
      rintro v6 hv6
      have f6 : mGr (fun z => z = b) v5 v6 := by rw [hv6]; exact (mGr.rf _ v5).P 2 _ rfl
      have y6 : mZ v6 = b + 118 := by rw [hv6, mZ_wrP]; exact y5
      refine ⟨⟨by omega, by omega⟩, ?_⟩
      rintro v7 hv7
      have f7 : mGr (fun z => z = b + 118) v6 v7 := by rw [hv7]; exact (mGr.rf _ v6).N 2 0 (by rw [y6])
      have y7 : mZ v7 = b + 119 := by rw [hv7, mZ_wrN]; omega
      rw [y6]
      refine ⟨⟨by omega, by omega⟩, s_Op_init (by rw [hv7, mT_wrN, if_pos y6.symm]) y7 (by omega) (fun v8 r8 y8 o8 => ?_)⟩
      have f58 : mGr (fun z => z = b ∨ (b + 118 ≤ z ∧ z < b + 120)) v5 v8 := ((f6.to (fun z hz => Or.inl hz)).tr (f7.to (fun z hz => Or.inr (by omega)))).tr (r8.to (fun z hz => Or.inr (by omega)))
      have tb8 : mT v8 b = 1 := by
        rw [(r8 b (by omega)).1, (f7 b (by omega)).1, hv6, mT_wrP]; exact tb5
      refine ⟨tb8, by omega, ?_⟩
      rintro v9 hv9
      refine ⟨⟨by omega, by omega⟩, ?_⟩
      have f9 : mGr (fun z => z = b) v8 v9 := by rw [hv9]; exact (mGr.rf _ v8).P 3 _ rfl
      have f59 : mGr (fun z => z = b ∨ (b + 118 ≤ z ∧ z < b + 120)) v5 v9 := f58.tr (f9.to (fun z hz => Or.inl hz))
      have f29 : mGr (fun z => z = b ∨ (b + 116 ≤ z ∧ z < b + 120)) v2 v9 := f25.tr (f59.to (fun z hz => by omega))
      have fk9 : mGr (fun z => z = b ∨ (b + 113 ≤ z ∧ z < b + 120)) wk v9 := (f2.to (fun z hz => Or.inr hz)).tr (f29.to (fun z hz => by omega))
      -- b's own pointers
      have pb8 : ∀ k, mP v8 b k = mP v6 b k := fun k => by rw [(r8 b (by omega)).2.2.2, (f7 b (by omega)).2.2.2]
      have pb5 : ∀ k, mP v5 b k = mP v3 b k := fun k => by rw [(r5 b (by omega)).2.2.2, (f4 b (by omega)).2.2.2]
      have pb2 : ∀ k, mP v2 b k = mP wk b k := fun k => by rw [(f2 b (by omega)).2.2.2]
      have p9 : ∀ k, mP v9 b k = if k = 3 then b + 118 else if k = 2 then b + 116 else if k = 1 then b + 113 else mP wk b k := by
        intro k
        rw [hv9, mP_wrP, pb8, hv6, mP_wrP, pb5, hv3, mP_wrP, pb2]
        simp only [true_and]
      refine hQ v9 (((gk.tr (f2.to (fun z hz => by omega))).tr (f29.to (fun z hz => by omega)))) (by rw [hv9, mZ_wrP]; exact y8) ⟨⟨hb0, by rw [hv9, mT_wrP]; exact tb8, ⟨?_, ?_, ?_, ?_⟩, ⟨?_, ?_, fun r hr => ?_⟩, c2.gr f29 (by omega) (by omega) (by omega), s5.gr f59 (by omega) (by omega), o8.gr f9 (by omega) (by omega)⟩, fun r hr => ⟨(R0.gr fk9 (fun z h1 h2 => by have := hrp r; omega) (hok r hr)).cs, MI0 _⟩, ?_⟩
      · rw [p9, if_neg (by omega), if_neg (by omega), if_neg (by omega)]; exact pk
      · rw [p9, if_neg (by omega), if_neg (by omega), if_pos rfl]
      · rw [p9, if_neg (by omega), if_pos rfl]
      · rw [p9, if_pos rfl]
      · rw [(fk9 _ (by omega)).1]; exact tk1
      · rw [(fk9 _ (by omega)).2.1]; exact lk1
      · rw [(fk9 _ (by omega)).2.2.2]; exact hpk r hr
      · exact i5.of (f59 _ (by omega)).2.2.1 (f59 _ (by omega)).2.2.1
    | succ j ih =>
      intro r wk hr gk zk tk pk tk1 lk1 hpk hok
      refine b_Do_init_14 ?_
      have e3 : ¬ (3 : Int32) ≤ nI r := nI_ge (a := r) (b := 3) (by omega) (by omega)
      rw [if_neg e3, pk]
      refine ⟨tk, by omega, ⟨by omega, by omega⟩, ?_⟩
      rintro v1 hv1
      have zk' : mZ wk = rp b r := by rw [hrp]; exact zk
      have hrr := hrp r
      have y1 : mZ v1 = rp b r + 1 := by rw [hv1, mZ_wrN]; omega
      have q1 : mGr (fun z => z = rp b r) wk v1 := by rw [hv1]; exact (mGr.rf _ wk).N 4 0 (by rw [zk'])
      rw [zk']
      refine ⟨⟨by omega, by omega⟩, s_Re_init (by rw [hv1, mT_wrN, if_pos zk'.symm]) y1 (by omega) (by rw [hv1, mI_wrN, if_pos zk'.symm]) (by rw [hv1, mI_wrN, if_pos zk'.symm]) (fun v2 r2 y2 a1 a2 a3 a4 a5 => ?_)⟩
      have f2 : mGr (fun z => rp b r ≤ z ∧ z < rp b r + 37) wk v2 := (q1.to (fun z hz => by omega)).tr r2
      rw [(f2 (b + 1) (by omega)).1, (f2 (b + 1) (by omega)).2.1]
      refine ⟨tk1, by rw [lk1]; exact vp_in_nI (by omega) (by omega), a1.2.1, ?_⟩
      rw [nI_clamp (by omega), nI_1]
      rintro v3 hv3
      have e1 : 1 + 37 * r + 37 = 1 + 37 * (r + 1) := by omega
      have e2 : 3 + 279 * r + 279 = 3 + 279 * (r + 1) := by omega
      rw [e1, e2]
      have f3 : mGr (fun z => z = b + 1) v2 v3 := by rw [hv3]; exact (mGr.rf _ v2).P _ _ rfl
      refine ih (r + 1) v3 (by omega) ((gk.tr (f2.to (fun z hz => by omega))).tr (f3.to (fun z hz => by omega))) (by rw [hv3, mZ_wrP, y2, hrr]; omega) (by rw [hv3, mT_wrP, (f2 b (by omega)).1]; exact tk) (by rw [(f3 b (by omega)).2.2.2, (f2 b (by omega)).2.2.2]; exact pk) (by rw [hv3, mT_wrP, (f2 _ (by omega)).1]; exact tk1) (by rw [hv3, mL_wrP, (f2 _ (by omega)).2.1]; exact lk1) (fun i hi => ?_) (fun i hi => ?_)
      · by_cases e : i = r
        · rw [e, hv3, mP_wrP, if_pos ⟨rfl, rfl⟩]
        · rw [hv3, mP_wrP, if_neg (by omega), (f2 (b + 1) (by omega)).2.2.2]
          exact hpk i (by omega)
      · have hri := hrp i
        by_cases e : i = r
        · rw [e]
          exact R0.gr f3 (fun z h1 h2 => by omega) ⟨a1, a2, a3, a4, a5⟩
        · exact R0.gr f3 (fun z h1 h2 => by omega) (R0.gr f2 (fun z h1 h2 => by omega) (hok i (by omega)))
  have h0 := loop 3 0 w2 (by omega) g2 z2 (by rw [hw2, mT_wrP]; exact t1) (by rw [hw2, mP_wrP, if_pos ⟨rfl, rfl⟩, hz]) (by rw [hw2, mT_wrP, hw1, mT_wrN, if_pos hz.symm]) (by rw [hw2, mL_wrP, hw1, mL_wrN, if_pos hz.symm]) (fun i hi => by omega) (fun i hi => by omega)
  rw [nI_0] at h0
  exact h0
end SDI
