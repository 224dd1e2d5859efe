/-! the model: where it lies, what it holds; its small calls -/
def MSh (w : mW) (B : Nat) : Prop := B ≠ 0 ∧ mT w B = 6 ∧ (mP w B 0 = B + 1 ∧ mP w B 1 = B + 2 ∧ mP w B 2 = B + 3 ∧ mP w B 3 = B + 4 ∧ mP w B 4 = B + 5 ∧ mP w B 5 = B + 6) ∧ (mP w B 8 = B + 7 ∧ mP w B 9 = B + 8 ∧ mP w B 10 = B + 9 ∧ mP w B 11 = B + 10) ∧ (mT w (B + 1) = 20 ∧ mL w (B + 1) = 576) ∧ (mT w (B + 2) = 20 ∧ mL w (B + 2) = 3) ∧ (mT w (B + 3) = 21 ∧ mL w (B + 3) = 48) ∧ (mT w (B + 4) = 20 ∧ mL w (B + 4) = 48) ∧ (mT w (B + 5) = 20 ∧ mL w (B + 5) = 3) ∧ (mT w (B + 6) = 20 ∧ mL w (B + 6) = 16) ∧ (mT w (B + 7) = 21 ∧ mL w (B + 7) = 16) ∧ (mT w (B + 8) = 20 ∧ mL w (B + 8) = 16) ∧ (mT w (B + 9) = 20 ∧ mL w (B + 9) = 16) ∧ mT w (B + 10) = 20 ∧ mL w (B + 10) = 24
theorem MSh.of {w w' : mW} {B : Nat} (h : mSh w w') (hS : MSh w B) : MSh w' B := by
  unfold MSh at hS ⊢
  simp only [h.T, h.L, h.P]
  exact hS
/-- one replica of the model: slot j holds the operation at position pi j of the class's list -/
def MV (w : mW) (B r n h : Nat) (o : Nat → mO) (pi ro : Nat → Nat) : Prop :=
  (MSh w B) ∧ (r < 3) ∧ (n ≤ h) ∧ (h ≤ 16) ∧ (∀ j, j < h → pi j < h ∧ ro (pi j) = j) ∧ (∀ p, p < h → ro p < h ∧ pi (ro p) = p) ∧ (mI w (B + 2) r = nI h) ∧ (mI w (B + 5) r = nI n) ∧ (∀ j, j < h → ∀ f, f < (o (pi j)).length → mI w (B + 1) (12 * (16 * r + j) + f) = ob (o (pi j)) f) ∧ (∀ j, j < h → mI w (B + 3) (16 * r + j) = bI (pi j < n)) ∧ (∀ p, p < n → mI w (B + 4) (16 * r + p) = nI (ro p)) ∧ (∀ p, p < h → okO (o p)) ∧ unq h o
theorem MV.sh {w : mW} {B r n h : Nat} {o : Nat → mO} {pi ro : Nat → Nat} (v : MV w B r n h o pi ro) : MSh w B := v.1
theorem MV.r3 {w : mW} {B r n h : Nat} {o : Nat → mO} {pi ro : Nat → Nat} (v : MV w B r n h o pi ro) : r < 3 := v.2.1
theorem MV.nh {w : mW} {B r n h : Nat} {o : Nat → mO} {pi ro : Nat → Nat} (v : MV w B r n h o pi ro) : n ≤ h := v.2.2.1
theorem MV.h16 {w : mW} {B r n h : Nat} {o : Nat → mO} {pi ro : Nat → Nat} (v : MV w B r n h o pi ro) : h ≤ 16 := v.2.2.2.1
theorem MV.pi {w : mW} {B r n h : Nat} {o : Nat → mO} {pi ro : Nat → Nat} (v : MV w B r n h o pi ro) : ∀ j, j < h → pi j < h ∧ ro (pi j) = j := v.2.2.2.2.1
theorem MV.ro {w : mW} {B r n h : Nat} {o : Nat → mO} {pi ro : Nat → Nat} (v : MV w B r n h o pi ro) : ∀ p, p < h → ro p < h ∧ pi (ro p) = p := v.2.2.2.2.2.1
theorem MV.hd {w : mW} {B r n h : Nat} {o : Nat → mO} {pi ro : Nat → Nat} (v : MV w B r n h o pi ro) : mI w (B + 2) r = nI h := v.2.2.2.2.2.2.1
theorem MV.lg {w : mW} {B r n h : Nat} {o : Nat → mO} {pi ro : Nat → Nat} (v : MV w B r n h o pi ro) : mI w (B + 5) r = nI n := v.2.2.2.2.2.2.2.1
theorem MV.bt {w : mW} {B r n h : Nat} {o : Nat → mO} {pi ro : Nat → Nat} (v : MV w B r n h o pi ro) : ∀ j, j < h → ∀ f, f < (o (pi j)).length → mI w (B + 1) (12 * (16 * r + j) + f) = ob (o (pi j)) f := v.2.2.2.2.2.2.2.2.1
theorem MV.ap {w : mW} {B r n h : Nat} {o : Nat → mO} {pi ro : Nat → Nat} (v : MV w B r n h o pi ro) : ∀ j, j < h → mI w (B + 3) (16 * r + j) = bI (pi j < n) := v.2.2.2.2.2.2.2.2.2.1
theorem MV.od {w : mW} {B r n h : Nat} {o : Nat → mO} {pi ro : Nat → Nat} (v : MV w B r n h o pi ro) : ∀ p, p < n → mI w (B + 4) (16 * r + p) = nI (ro p) := v.2.2.2.2.2.2.2.2.2.2.1
theorem MV.ok {w : mW} {B r n h : Nat} {o : Nat → mO} {pi ro : Nat → Nat} (v : MV w B r n h o pi ro) : ∀ p, p < h → okO (o p) := v.2.2.2.2.2.2.2.2.2.2.2.1
theorem MV.uq {w : mW} {B r n h : Nat} {o : Nat → mO} {pi ro : Nat → Nat} (v : MV w B r n h o pi ro) : unq h o := v.2.2.2.2.2.2.2.2.2.2.2.2
theorem ix16 (r j : Nat) : (16 : Int32) * nI r + nI j = nI (16 * r + j) := by
  have e : (16 : Int32) = nI 16 := rfl
  rw [e, pk_mul, nI_add]
theorem ix12 (r j f : Nat) : (12 : Int32) * ((16 : Int32) * nI r + nI j) + nI f = nI (12 * (16 * r + j) + f) := by
  have e : (12 : Int32) = nI 12 := rfl
  rw [ix16, e, pk_mul, nI_add]
section SMO
variable {d : Nat} {w : mW} {Q : Int32 → mW → Prop} {B r n h : Nat} {o : Nat → mO} {pi ro : Nat → Nat} {x y z : Int32}
theorem s_Mo_isReplica (hQ : Q (bI (isR x)) w) : mC d m_Mo_isReplica [.int x] w Q := by
  refine e_Mo_isReplica ?_
  refine by_if (fun h => bI_Q0 hQ (fun z => z.1 h)) (fun h => by_if (fun h2 => bI_Q0 hQ (fun z => z.2 ?_)) (fun h2 => bI_Q1 hQ ⟨h, ?_⟩))
  · obtain ⟨j, hj, rfl⟩ := nI_of h
    have h3 : nI 2 < nI j := h2
    rw [nI_ltI (by omega) hj] at h3
    exact nI_le (a := 3) (b := j) (by omega) hj
  · obtain ⟨j, hj, rfl⟩ := nI_of h
    have h3 : ¬ nI 2 < nI j := h2
    rw [nI_ltI (by omega) hj] at h3
    exact nI_ge (a := j) (b := 3) (by omega) (by omega)
theorem s_Mo_part {j f : Nat} (hV : MV w B r n h o pi ro) (hm : mI w B 7 = nI r) (hj : j < h) (hf : f < (o (pi j)).length) (hy : y = nI f) (hQ : Q (ob (o (pi j)) f) w) : mC d m_Mo_part [.ref B, .int (nI j), .int y] w Q := by
  subst hy
  have r3 := hV.r3
  have h16 := hV.h16
  have hl := (hV.ok _ (hV.pi j hj).1).1.2.1
  obtain ⟨b0, t, ⟨p0, -⟩, -, ⟨t1, l1⟩, -⟩ := hV.sh
  refine e_Mo_part ?_
  rw [p0, hm, ix12, nI_clamp (by omega), hV.bt j hj f hf]
  exact ⟨t, by omega, t1, by rw [l1]; exact vp_in_nI (by omega) (by omega), hQ⟩
theorem MV.l6 (hV : MV w B r n h o pi ro) {j : Nat} (hj : j < h) : 6 ≤ (o (pi j)).length ∧ (o (pi j)).length ≤ 12 ∧ ob (o (pi j)) 5 = nI ((o (pi j)).length - 6) := (hV.ok _ (hV.pi j hj).1).1
theorem s_Mo_pt {j : Nat} (f : Nat) (hV : MV w B r n h o pi ro) (hm : mI w B 7 = nI r) (hj : j < h) (hf : f < 6) (hy : y = nI f) (hQ : Q (ob (o (pi j)) f) w) : mC d m_Mo_part [.ref B, .int (nI j), .int y] w Q :=
  s_Mo_part hV hm hj (by have := hV.l6 hj; omega) hy hQ
theorem s_Mo_done {j : Nat} (hV : MV w B r n h o pi ro) (hm : mI w B 7 = nI r) (hj : j < h) (hQ : Q (bI (pi j < n)) w) : mC d m_Mo_done [.ref B, .int (nI j)] w Q := by
  have r3 := hV.r3
  have h16 := hV.h16
  obtain ⟨b0, t, ⟨-, -, p2, -⟩, -, -, -, ⟨t1, l1⟩, -⟩ := hV.sh
  refine e_Mo_done ?_
  rw [p2, hm, ix16, nI_clamp (by omega), hV.ap j hj]
  exact ⟨t, by omega, t1, by rw [l1]; exact vp_in_nI (by omega) (by omega), bI_and _, hQ⟩
/-- what find gives: a slot -/
def fnM (m h : Nat) (o : Nat → mO) (pi : Nat → Nat) (x r : Int32) : Prop := (r = -1 ∧ ∀ p, p < m → ob (o p) 0 ≠ x) ∨ ∃ j, j < h ∧ pi j < m ∧ r = nI j ∧ ob (o (pi j)) 0 = x
theorem s_Mo_find {m : Nat} (hV : MV w B r n h o pi ro) (hm : mI w B 7 = nI r) (hc : (y = 1 ∧ m = n) ∨ (y = 0 ∧ m = h)) (hQ : ∀ v, fnM m h o pi x v → Q v w) : mC (d + 1) m_Mo_find [.ref B, .int x, .int y] w Q := by
  have r3 := hV.r3
  have h16 := hV.h16
  have nh := hV.nh
  obtain ⟨b0, t, ⟨-, p1, -⟩, -, -, ⟨t1, l1⟩, -⟩ := hV.sh
  have loop : ∀ k j (v : Int32), j + k = h → ((v = -1 ∧ ∀ i, i < j → pi i < m → ob (o (pi i)) 0 ≠ x) ∨ ∃ i, i < j ∧ pi i < m ∧ v = nI i ∧ ob (o (pi i)) 0 = x) → mG (d + 1) m_Mo_find (0, 0) 5 [vR B, vI x, vI y, vI v, vI (nI j)] [] w Q := by
    intro k
    induction k with
    | zero =>
      intro j v hj hv
      refine b_Mo_find_5 ?_
      rw [p1, hm, nI_clamp (by omega), hV.hd, if_pos (nI_le (by omega) (by omega))]
      refine ⟨t, by omega, t1, by rw [l1]; exact vp_in_nI (by omega) (by omega), hQ _ ?_⟩
      rcases hv with ⟨rfl, hv⟩ | ⟨i, g1, g2, g3, g4⟩
      · refine Or.inl ⟨rfl, fun p hp => ?_⟩
        have hp' : p < h := by rcases hc with ⟨-, rfl⟩ | ⟨-, rfl⟩ <;> omega
        have := hv (ro p) (by have := (hV.ro p hp').1; omega) (by rw [(hV.ro p hp').2]; exact hp)
        rw [(hV.ro p hp').2] at this
        exact this
      · exact Or.inr ⟨i, by omega, g2, g3, g4⟩
    | succ k ih =>
      intro j v hj hv
      refine b_Mo_find_5 ?_
      rw [p1, hm, nI_clamp (by omega), hV.hd, if_neg (nI_ge (by omega) (by omega)), nI_1]
      have skip : (¬ pi j < m ∨ ob (o (pi j)) 0 ≠ x) → mG (d + 1) m_Mo_find (0, 0) 5 [vR B, vI x, vI y, vI v, vI (nI (j + 1))] [] w Q := by
        intro hs
        refine ih (j + 1) v (by omega) ?_
        rcases hv with ⟨rfl, hv⟩ | ⟨i, g1, g2, g3, g4⟩
        · refine Or.inl ⟨rfl, fun i hi g => ?_⟩
          by_cases e : i = j
          · rw [e] at g ⊢
            rcases hs with hs | hs
            · exact absurd g hs
            · exact hs
          · exact hv i (by omega) g
        · exact Or.inr ⟨i, by omega, g2, g3, g4⟩
      refine ⟨t, by omega, t1, by rw [l1]; exact vp_in_nI (by omega) (by omega), s_Mo_pt 0 hV hm (by omega) (by omega) rfl (by_if (fun e => ?_) (fun e => skip (Or.inr e)))⟩
      have took : pi j < m → mG (d + 1) m_Mo_find (0, 0) 5 [vR B, vI x, vI y, vI (nI j), vI (nI (j + 1))] [] w Q := fun g => ih (j + 1) (nI j) (by omega) (Or.inr ⟨j, by omega, g, rfl, e⟩)
      rcases hc with ⟨rfl, rfl⟩ | ⟨rfl, rfl⟩
      · rw [if_neg (by decide)]
        exact ⟨t, s_Mo_done hV hm (by omega) (bI_ite (fun e2 => skip (Or.inl e2)) took)⟩
      · rw [if_pos rfl]
        exact took (hV.pi j (by omega)).1
  have h0 := loop h 0 (-1) (by omega) (Or.inl ⟨rfl, fun i hi => by omega⟩)
  rw [nI_0] at h0
  exact e_Mo_find h0
theorem s_Mo_find1 (hV : MV w B r n h o pi ro) (hm : mI w B 7 = nI r) (hQ : ∀ v, fnM n h o pi x v → Q v w) : mC (d + 1) m_Mo_find [.ref B, .int x, .int (1 : Int32)] w Q := s_Mo_find hV hm (Or.inl ⟨rfl, rfl⟩) hQ
theorem s_Mo_find0 (hV : MV w B r n h o pi ro) (hm : mI w B 7 = nI r) (hQ : ∀ v, fnM h h o pi x v → Q v w) : mC (d + 1) m_Mo_find [.ref B, .int x, .int (0 : Int32)] w Q := s_Mo_find hV hm (Or.inr ⟨rfl, rfl⟩) hQ
theorem s_Mo_has {j : Nat} (hV : MV w B r n h o pi ro) (hm : mI w B 7 = nI r) (hj : j < h) (hQ : Q (bI (hb (o (pi j)) x)) w) : mC (d + 1) m_Mo_has [.ref B, .int (nI j), .int x] w Q := by
  have t := hV.sh.2.1
  obtain ⟨l1, l2, l3⟩ := hV.l6 hj
  have loop : ∀ k i (P : Prop), i + k = (o (pi j)).length - 6 → (P ↔ ∃ q, q < i ∧ ob (o (pi j)) (6 + q) = x) → mG (d + 1) m_Mo_has (0, 0) 5 [vR B, vI (nI j), vI x, vI (bI P), vI (nI i)] [] w Q := by
    intro k
    induction k with
    | zero =>
      intro i P hi hP
      refine b_Mo_has_5 ⟨t, s_Mo_pt 5 hV hm hj (by omega) rfl ?_⟩
      rw [l3, if_pos (nI_le (by omega) (by omega))]
      refine ⟨bI_and _, ?_⟩
      rw [show bI P = bI (hb (o (pi j)) x) from bI_iff (by rw [hP]; unfold hb; rw [show i = (o (pi j)).length - 6 by omega])]
      exact hQ
    | succ k ih =>
      intro i P hi hP
      refine b_Mo_has_5 ⟨t, s_Mo_pt 5 hV hm hj (by omega) rfl ?_⟩
      rw [l3, if_neg (nI_ge (by omega) (by omega)), nI_1]
      have step : ∀ P' : Prop, (P' ↔ P ∨ ob (o (pi j)) (6 + i) = x) → mG (d + 1) m_Mo_has (0, 0) 5 [vR B, vI (nI j), vI x, vI (bI P'), vI (nI (i + 1))] [] w Q := by
        intro P' hP'
        refine ih (i + 1) P' (by omega) ?_
        rw [hP', hP]
        constructor
        · rintro (⟨q, g1, g2⟩ | g)
          · exact ⟨q, by omega, g2⟩
          · exact ⟨i, by omega, g⟩
        · rintro ⟨q, g1, g2⟩
          by_cases e : q = i
          · rw [e] at g2; exact Or.inr g2
          · exact Or.inl ⟨q, by omega, g2⟩
      have e6 : (6 : Int32) + nI i = nI (6 + i) := nI_add 6 i
      rw [e6]
      refine bI_ite (fun hp => ⟨t, s_Mo_part hV hm hj (f := 6 + i) (by omega) rfl (by_if (fun e => ?_) (fun e => ?_))⟩) (fun hp => ?_)
      · have := step True (by simp [e])
        rw [bI_t trivial] at this
        exact this
      · have := step False (by simp [hp, e])
        rw [bI_f not_false] at this
        exact this
      · have := step True (by simp [hp])
        rw [bI_t trivial] at this
        exact this
  have h0 := loop ((o (pi j)).length - 6) 0 False (by omega) (by simp)
  rw [nI_0, bI_f not_false] at h0
  exact e_Mo_has h0
/-- FITS, by what the scratch says -/
theorem s_Mo_fits {F : Nat → Prop} {k t s : Int32} (hV : MV w B r n h o pi ro) (hm : mI w B 7 = nI r) (hF : ∀ j, j < h → pi j < n → mI w (B + 7) j = bI (F (pi j))) (hQ : Q (bI (fitP n o F k t s)) w) : mC (d + 2) m_Mo_fits [.ref B, .int k, .int t, .int s] w Q := by
  have tB := hV.sh.2.1
  have h16 := hV.h16
  have hu := unq_sub hV.uq hV.nh
  obtain ⟨b0, -, -, ⟨p8, -⟩, -, -, -, -, -, -, ⟨t7, l7⟩, -⟩ := hV.sh
  refine e_Mo_fits ⟨tB, s_Mo_find1 hV hm (fun v hv => ?_)⟩
  refine by_if (fun e3 => ?_) (fun e3 => by_if (fun e4 => ?_) (fun e4 => ?_))
  · rcases hv with ⟨rfl, hv⟩ | ⟨j, g1, g2, rfl, g4⟩
    · rw [if_pos (by decide)]
      refine bI_Q0 hQ ?_
      rintro (z | z | z)
      · obtain ⟨p, q1, q2, -⟩ := z.2.2; exact hv p q1 q2
      · rw [e3] at z; exact absurd z.1 (by decide)
      · exact z.1 e3
    · rw [if_neg (nI_pos (by omega))]
      refine ⟨tB, s_Mo_pt 1 hV hm g1 (by omega) rfl (by_if (fun e5 => ⟨tB, s_Mo_find1 hV hm (fun v' hv' => ?_)⟩) (fun e5 => bI_Q0 hQ ?_))⟩
      · have hk : kdP n o t 2 := ⟨pi j, g2, g4, e5⟩
        refine by_if (fun e6 => bI_Q1 hQ (Or.inl ⟨e3, Or.inl e6, hk⟩)) (fun e6 => ?_)
        have no : ∀ P : Prop, (∀ p, inP n o F s p → ob (o p) 2 = t → P) → ¬ P → Q 0 w := by
          intro P h1 h2
          refine bI_Q0 hQ ?_
          rintro (z | z | z)
          · rcases z.2.1 with z | ⟨p, z1, z2⟩
            · exact e6 z
            · exact h2 (h1 p z1 z2)
          · rw [e3] at z; exact absurd z.1 (by decide)
          · exact z.1 e3
        rcases hv' with ⟨rfl, hv'⟩ | ⟨i, i1, i2, rfl, i4⟩
        · rw [if_pos (by decide)]
          exact no False (fun p z _ => hv' p z.1 z.2.1) id
        · have same : ∀ p, inP n o F s p → p = pi i := fun p z => hu p (pi i) z.1 i2 (z.2.1.trans i4.symm)
          rw [if_neg (nI_pos (by omega))]
          refine ⟨tB, s_Mo_pt 1 hV hm i1 (by omega) rfl (by_if (fun e7 => ?_) (fun e7 => no False (fun p z _ => e7 (by rw [← same p z]; exact z.2.2.2)) id))⟩
          rw [p8, nI_clamp (by omega), hF i i1 i2]
          refine ⟨tB, by omega, t7, by rw [l7]; exact vp_in_nI (by omega) (by omega), bI_ite (fun e8 => no False (fun p z _ => e8 (by rw [← same p z]; exact z.2.2.1)) id) (fun e8 => s_Mo_pt 2 hV hm i1 (by omega) rfl (by_if (fun e9 => bI_Q1 hQ (Or.inl ⟨e3, Or.inr ⟨pi i, ⟨i2, i4, e8, e7⟩, e9⟩, hk⟩)) (fun e9 => no False (fun p z z2 => e9 (by rw [← same p z]; exact z2)) id)))⟩
      · rintro (z | z | z)
        · obtain ⟨p, q1, q2, q3⟩ := z.2.2
          rw [hu p (pi j) q1 g2 (q2.trans g4.symm)] at q3
          exact e5 q3
        · rw [e3] at z; exact absurd z.1 (by decide)
        · exact z.1 e3
  · have no : (∀ p, ¬ inP n o F t p) → Q 0 w := by
      intro h1
      refine bI_Q0 hQ ?_
      rintro (z | z | z)
      · exact e3 z.1
      · obtain ⟨p, z⟩ := z.2; exact h1 p z
      · exact z.2.1 e4
    rcases hv with ⟨rfl, hv⟩ | ⟨j, g1, g2, rfl, g4⟩
    · rw [if_pos (by decide)]
      exact no (fun p z => hv p z.1 z.2.1)
    · have same : ∀ p, inP n o F t p → p = pi j := fun p z => hu p (pi j) z.1 g2 (z.2.1.trans g4.symm)
      rw [if_neg (nI_pos (by omega))]
      refine ⟨tB, s_Mo_pt 1 hV hm g1 (by omega) rfl (by_if (fun e5 => ?_) (fun e5 => no (fun p z => e5 (by rw [← same p z]; exact z.2.2.2))))⟩
      rw [p8, nI_clamp (by omega), hF j g1 g2]
      exact ⟨tB, by omega, t7, by rw [l7]; exact vp_in_nI (by omega) (by omega), bI_ite (fun e8 => no (fun p z => e8 (by rw [← same p z]; exact z.2.2.1))) (fun e8 => bI_Q1 hQ (Or.inr (Or.inl ⟨e4, pi j, g2, g4, e8, e5⟩)))⟩
  · refine by_if (fun e5 => bI_Q1 hQ (Or.inr (Or.inr ⟨e3, e4, Or.inl e5⟩))) (fun e5 => ?_)
    have no : ¬ kdP n o t 1 → Q 0 w := by
      intro h1
      refine bI_Q0 hQ ?_
      rintro (z | z | z)
      · exact e3 z.1
      · exact e4 z.1
      · rcases z.2.2 with z | z
        · exact e5 z
        · exact h1 z
    rcases hv with ⟨rfl, hv⟩ | ⟨j, g1, g2, rfl, g4⟩
    · rw [if_pos (by decide)]
      exact no (fun ⟨p, q1, q2, _⟩ => hv p q1 q2)
    · rw [if_neg (nI_pos (by omega))]
      refine ⟨tB, s_Mo_pt 1 hV hm g1 (by omega) rfl (by_if (fun e6 => bI_Q1 hQ (Or.inr (Or.inr ⟨e3, e4, Or.inr ⟨pi j, g2, g4, e6⟩⟩))) (fun e6 => no (fun ⟨p, q1, q2, q3⟩ => e6 ?_)))⟩
      rw [← hu p (pi j) q1 g2 (q2.trans g4.symm)]
      exact q3
end SMO
