/-! contracts of a replica that read: heads, readiness, pasts -/
noncomputable def cntP : Nat → (Nat → Prop) → Nat
  | 0, _ => 0
  | n + 1, P => cntP n P + @ite _ (P n) (Classical.propDecidable _) 1 0
theorem cntP_t {n : Nat} {P : Nat → Prop} (h : P n) : cntP (n + 1) P = cntP n P + 1 := by
  show cntP n P + @ite _ (P n) (Classical.propDecidable _) 1 0 = _
  rw [if_pos h]
theorem cntP_f {n : Nat} {P : Nat → Prop} (h : ¬ P n) : cntP (n + 1) P = cntP n P := by
  show cntP n P + @ite _ (P n) (Classical.propDecidable _) 1 0 = _
  rw [if_neg h, Nat.add_zero]
theorem cntP_le (n : Nat) (P : Nat → Prop) : cntP n P ≤ n := by
  induction n with
  | zero => exact Nat.le_refl 0
  | succ n ih =>
    by_cases h : P n
    · rw [cntP_t h]; omega
    · rw [cntP_f h]; omega
/-- no applied one has it in its BEFORE -/
def hdP (n : Nat) (o : Nat → mO) (x : Int32) : Prop := ∀ p, p < n → ¬ hb (o p) x
/-- all of BEFORE is applied -/
def rdP (n : Nat) (o : Nat → mO) (c : mO) : Prop := ∀ x, hb c x → ∃ p, p < n ∧ ob (o p) 0 = x
section SRE2
variable {d : Nat} {w : mW} {Q : Int32 → mW → Prop} {A : Nat} {num : Int32} {n h : Nat} {o : Nat → mO} {pm : Nat → Int32} {ft : Nat → Prop} {sg : Nat → Nat} {x : Int32}
theorem s_Re_hasInPast {i j : Nat} (hR : CRep w A num n h o pm ft sg) (hj : j < n) (hQ : Q (bI (bitA (pm j) i)) w) : mC d m_Re_hasInPast [.ref A, .int (nI i), .int (nI j)] w Q := by
  obtain ⟨⟨a0, tA, ⟨-, p2, -, -⟩, -, ⟨t2, l2⟩, -⟩, -, ⟨hn, hh⟩, -, -, hpm, -⟩ := hR
  refine e_Re_hasInPast ?_
  rw [p2, nI_clamp (by omega), hpm j hj]
  refine ⟨tA, by omega, t2, by rw [l2]; exact vp_in_nI (by omega) (by omega), ?_⟩
  exact by_if (fun e => bI_Q1 hQ e) (fun e => bI_Q0 hQ e)
theorem s_Re_isHead {p : Nat} (hR : CRep w A num n h o pm ft sg) (hp : p < n) (hQ : Q (bI (hdP n o (ob (o p) 0))) w) : mC (d + 1) m_Re_isHead [.ref A, .int (nI p)] w Q := by
  have hR0 := hR
  obtain ⟨⟨a0, tA, ⟨p1, -, -, -⟩, ⟨t1, l1⟩, -⟩, -, ⟨hn, hh⟩, ⟨-, i5, -⟩, hop, -⟩ := hR
  have hrp := hR0.row (i := p) (by omega)
  have loop : ∀ j k, k + j = n → (∀ i, i < k → ¬ hb (o i) (ob (o p) 0)) → mG (d + 1) m_Re_isHead (0, 0) 2 [vR A, vI (nI p), vI (nI k)] [] w Q := by
    intro j
    induction j with
    | zero =>
      intro k hk hn'
      refine b_Re_isHead_2 ⟨tA, ?_⟩
      rw [i5, if_pos (nI_le (by omega) (by omega))]
      exact bI_Q1 hQ (fun i hi => hn' i (by omega))
    | succ j ih =>
      intro k hk hn'
      refine b_Re_isHead_2 ⟨tA, ?_⟩
      have hrk := hR0.row (i := k) (by omega)
      rw [i5, if_neg (nI_ge (by omega) (by omega)), p1, nI_clamp (by omega), nI_clamp (by omega), nI_1, (hop p (by omega)).2.2.1.1]
      refine ⟨by omega, t1, by rw [l1]; exact vp_in_nI (by omega) (by omega), hrk.1, by rw [l1]; exact vp_in_nI (by omega) (by omega), hrp.1, hrp.2.1, hrk.2.1, ?_⟩
      refine s_Op_hasBefore hrk (hop k (by omega)) (bI_ite (fun e => ih (k + 1) (by omega) (fun i hi => ?_)) (fun e => bI_Q0 hQ (fun z => z k (by omega) e)))
      by_cases hik : i = k
      · rw [hik]; exact e
      · exact hn' i (by omega)
  have h0 := loop n 0 (by omega) (fun i hi => by omega)
  rw [nI_0] at h0
  exact e_Re_isHead h0
theorem s_Re_countHeads (hR : CRep w A num n h o pm ft sg) (hQ : Q (nI (cntP n (fun p => hdP n o (ob (o p) 0)))) w) : mC (d + 2) m_Re_countHeads [.ref A] w Q := by
  have hR0 := hR
  obtain ⟨⟨a0, tA, -⟩, -, ⟨hn, hh⟩, ⟨-, i5, -⟩, -⟩ := hR
  have loop : ∀ j k, k + j = n → mG (d + 2) m_Re_countHeads (0, 0) 4 [vR A, vI (nI (cntP k (fun p => hdP n o (ob (o p) 0)))), vI (nI k)] [] w Q := by
    intro j
    induction j with
    | zero =>
      intro k hk
      refine b_Re_countHeads_4 ⟨tA, ?_⟩
      have e : k = n := by omega
      subst e
      rw [i5, if_pos (nI_le (by omega) (by omega))]
      exact hQ
    | succ j ih =>
      intro k hk
      refine b_Re_countHeads_4 ⟨tA, ?_⟩
      rw [i5, if_neg (nI_ge (by omega) (by omega)), nI_1, nI_1]
      refine s_Re_isHead hR0 (by omega) (bI_ite (fun e => ?_) (fun e => ?_))
      · have := ih (k + 1) (by omega)
        rw [cntP_f e] at this
        exact this
      · have := ih (k + 1) (by omega)
        rw [cntP_t e] at this
        exact this
  have h0 := loop n 0 (by omega)
  have e0 : cntP 0 (fun p => hdP n o (ob (o p) 0)) = 0 := rfl
  rw [e0, nI_0] at h0
  exact e_Re_countHeads h0
theorem s_Re_isReady {q : Nat} {c : mO} (hR : CRep w A num n h o pm ft sg) (hS : OSh w q) (hO : OpAt w q c) (hQ : Q (bI (rdP n o c)) w) : mC (d + 1) m_Re_isReady [.ref A, .ref q] w Q := by
  have hR0 := hR
  obtain ⟨⟨a0, tA, -⟩, -, ⟨hn, hh⟩, ⟨-, i5, -⟩, -⟩ := hR
  obtain ⟨n0, t1, p0, t2, l2⟩ := hS
  obtain ⟨o1, o3, -, o4⟩ := hO
  have loop : ∀ j k, k + j = c.length - 6 → (∀ i, i < k → ∃ p, p < n ∧ ob (o p) 0 = ob c (6 + i)) → mG (d + 1) m_Re_isReady (0, 0) 2 [vR A, vR q, vI (nI k)] [] w Q := by
    intro j
    induction j with
    | zero =>
      intro k hk hn'
      refine b_Re_isReady_2 ⟨t1, ?_⟩
      rw [o3, if_pos (nI_le (by omega) (by omega))]
      refine bI_Q1 hQ ?_
      rintro x ⟨i, hi, rfl⟩
      exact hn' i (by omega)
    | succ j ih =>
      intro k hk hn'
      refine b_Re_isReady_2 ⟨t1, ?_⟩
      rw [o3, if_neg (nI_ge (by omega) (by omega)), p0, nI_clamp (by omega), nI_1, o4 k (by omega), i5]
      refine ⟨by omega, t2, by rw [l2]; exact vp_in_nI (by omega) (by omega), tA, ?_⟩
      refine s_Re_find hR0 hn (fun r hr => ?_)
      rcases hr with ⟨rfl, hr⟩ | ⟨p, hp, rfl, hr⟩
      · rw [if_pos rfl]
        refine bI_Q0 hQ (fun z => ?_)
        obtain ⟨p, hp, e⟩ := z _ ⟨k, by omega, rfl⟩
        exact hr p hp e
      · rw [if_neg (nI_m1 (by omega))]
        refine ih (k + 1) (by omega) (fun i hi => ?_)
        by_cases hik : i = k
        · rw [hik]; exact ⟨p, hp, hr⟩
        · exact hn' i (by omega)
  have h0 := loop _ 0 (Nat.zero_add _) (fun i hi => by omega)
  rw [nI_0] at h0
  exact e_Re_isReady h0
/-- the least of those that wait and are ready -/
def lrP (n h : Nat) (o : Nat → mO) (r : Int32) : Prop := (r = -1 ∧ ∀ p, n ≤ p → p < h → ¬ rdP n o (o p)) ∨ ∃ p, n ≤ p ∧ p < h ∧ r = nI p ∧ rdP n o (o p) ∧ ∀ p', n ≤ p' → p' < h → rdP n o (o p') → ob (o p) 0 ≤ ob (o p') 0
theorem s_Re_findLeastReady (hR : CRep w A num n h o pm ft sg) (hQ : ∀ r, lrP n h o r → Q r w) : mC (d + 2) m_Re_findLeastReady [.ref A] w Q := by
  have hR0 := hR
  obtain ⟨⟨a0, tA, ⟨p1, -, -, -⟩, ⟨t1, l1⟩, -⟩, -, ⟨hn, hh⟩, ⟨-, i5, i6⟩, hop, -⟩ := hR
  have loop : ∀ j k r, k + j = h → n ≤ k → lrP n k o r → mG (d + 2) m_Re_findLeastReady (0, 0) 7 [vR A, vI r, vI (nI k)] [] w Q := by
    intro j
    induction j with
    | zero =>
      intro k r hk hnk hr
      refine b_Re_findLeastReady_7 ⟨tA, ?_⟩
      have e : k = h := by omega
      subst e
      rw [i6, if_pos (nI_le (by omega) (by omega))]
      exact hQ r hr
    | succ j ih =>
      intro k r hk hnk hr
      refine b_Re_findLeastReady_7 ⟨tA, ?_⟩
      have hrk := hR0.row (i := k) (by omega)
      rw [i6, if_neg (nI_ge (by omega) (by omega)), p1, nI_clamp (by omega), nI_1]
      refine ⟨by omega, t1, by rw [l1]; exact vp_in_nI (by omega) (by omega), hrk.1, ?_⟩
      refine s_Re_isReady hR0 hrk (hop k (by omega)) (bI_ite (fun e => ih (k + 1) r (by omega) (by omega) ?_) (fun e => ?_))
      · rcases hr with ⟨rfl, hr⟩ | ⟨p, h1, h2, rfl, h3, h4⟩
        · refine Or.inl ⟨rfl, fun p h1 h2 => ?_⟩
          by_cases hpk : p = k
          · rw [hpk]; exact e
          · exact hr p h1 (by omega)
        · refine Or.inr ⟨p, h1, by omega, rfl, h3, fun p' g1 g2 g3 => ?_⟩
          by_cases hpk : p' = k
          · rw [hpk] at g3; exact absurd g3 e
          · exact h4 p' g1 (by omega) g3
      · rcases hr with ⟨rfl, hr⟩ | ⟨p, h1, h2, rfl, h3, h4⟩
        · rw [if_pos rfl]
          refine ih (k + 1) _ (by omega) (by omega) (Or.inr ⟨k, hnk, by omega, rfl, e, fun p' g1 g2 g3 => ?_⟩)
          by_cases hpk : p' = k
          · rw [hpk]; exact Int32.le_refl _
          · exact absurd g3 (hr p' g1 (by omega))
        · have hrp := hR0.row (i := p) (by omega)
          rw [if_neg (nI_m1 (by omega)), p1, nI_clamp (by omega), (hop p (by omega)).2.2.1.1, (hop k (by omega)).2.2.1.1]
          refine ⟨tA, by omega, t1, by rw [l1]; exact vp_in_nI (by omega) (by omega), hrk.1, hrk.2.1, by rw [l1]; exact vp_in_nI (by omega) (by omega), hrp.1, hrp.2.1, ?_⟩
          refine by_if (fun g => ih (k + 1) _ (by omega) (by omega) (Or.inr ⟨p, h1, by omega, rfl, h3, fun p' g1 g2 g3 => ?_⟩)) (fun g => ih (k + 1) _ (by omega) (by omega) (Or.inr ⟨k, hnk, by omega, rfl, e, fun p' g1 g2 g3 => ?_⟩))
          · by_cases hpk : p' = k
            · rw [hpk]; exact g
            · exact h4 p' g1 (by omega) g3
          · by_cases hpk : p' = k
            · rw [hpk]; exact Int32.le_refl _
            · have a1 := h4 p' g1 (by omega) g3
              have a2 := Int32.not_le.mp g
              rw [Int32.le_iff_toInt_le] at a1 ⊢
              rw [Int32.lt_iff_toInt_lt] at a2
              omega
  refine e_Re_findLeastReady ⟨tA, ?_⟩
  rw [i5]
  exact loop (h - n) n (-1) (by omega) (Nat.le_refl _) (Or.inl ⟨rfl, fun p h1 h2 => by omega⟩)
theorem s_Re_greatestCount (hR : CRep w A num n h o pm ft sg) (hQ0 : n = 0 → Q 0 w) (hQ : 0 < n → Q (ob (o (sg (n - 1))) 0 >>> ((2 : Int32) &&& 31)) w) : mC d m_Re_greatestCount [.ref A] w Q := by
  have hR0 := hR
  obtain ⟨⟨a0, tA, ⟨p1, -, -, p4⟩, ⟨t1, l1⟩, -, -, ⟨t4, l4⟩, -⟩, -, ⟨hn, hh⟩, ⟨-, i5, -⟩, hop, -, -, hsg⟩ := hR
  refine e_Re_greatestCount ⟨tA, ?_⟩
  by_cases h0 : n = 0
  · rw [i5, h0, nI_0, if_pos rfl]
    exact hQ0 h0
  · have e1 : nI n - 1 = nI (n - 1) := by
      obtain ⟨m, rfl⟩ : ∃ m, n = m + 1 := ⟨n - 1, by omega⟩
      rw [nI_pred]; rfl
    obtain ⟨hs1, hs2⟩ := hsg (n - 1) (by omega)
    have hrow := hR0.row (i := sg (n - 1)) (by omega)
    rw [i5, if_neg (nI_ne0 (by omega) (by omega)), e1, nI_clamp (by omega), p1, p4, hs2, nI_clamp (by omega), (hop _ (by omega)).2.2.1.1]
    exact ⟨by omega, by omega, t4, by rw [l4]; exact vp_in_nI (by omega) (by omega), t1, by rw [l1]; exact vp_in_nI (by omega) (by omega), hrow.1, hrow.2.1, hQ (by omega)⟩
end SRE2
