/-! a replica: its rows, and what they hold -/
def RSh (w : mW) (A : Nat) : Prop := A ≠ 0 ∧ mT w A = 4 ∧ (mP w A 1 = A + 1 ∧ mP w A 2 = A + 34 ∧ mP w A 3 = A + 35 ∧ mP w A 4 = A + 36) ∧ (mT w (A + 1) = 22 ∧ mL w (A + 1) = 16) ∧ (mT w (A + 34) = 20 ∧ mL w (A + 34) = 16) ∧ (mT w (A + 35) = 21 ∧ mL w (A + 35) = 16) ∧ (mT w (A + 36) = 20 ∧ mL w (A + 36) = 16) ∧ ∀ k, k < 16 → OSh w (A + 2 + 2 * k)
def RPt (w : mW) (A : Nat) : Prop := (∀ i, i < 16 → ∃ k, k < 16 ∧ mP w (A + 1) i = A + 2 + 2 * k) ∧ ∀ i j, i < 16 → j < 16 → mP w (A + 1) i = mP w (A + 1) j → i = j
theorem RSh.of {w w' : mW} {A : Nat} (h : mSh w w') (hS : RSh w A) : RSh w' A := by
  obtain ⟨h1, h2, ⟨h3, h4, h5, h6⟩, ⟨h7, h8⟩, ⟨h9, h10⟩, ⟨h11, h12⟩, ⟨h13, h14⟩, h15⟩ := hS
  exact ⟨h1, by rw [h.T]; exact h2, ⟨by rw [h.P]; exact h3, by rw [h.P]; exact h4, by rw [h.P]; exact h5, by rw [h.P]; exact h6⟩, ⟨by rw [h.T]; exact h7, by rw [h.L]; exact h8⟩, ⟨by rw [h.T]; exact h9, by rw [h.L]; exact h10⟩, ⟨by rw [h.T]; exact h11, by rw [h.L]; exact h12⟩, ⟨by rw [h.T]; exact h13, by rw [h.L]; exact h14⟩, fun k hk => (h15 k hk).of h⟩
theorem RPt.of {w w' : mW} {A : Nat} (h : mSh w w') (hS : RPt w A) : RPt w' A := by
  refine ⟨fun i hi => ?_, fun i j hi hj e => hS.2 i j hi hj ?_⟩
  · rw [h.P]; exact hS.1 i hi
  · rw [h.P, h.P] at e; exact e
/-- n applied, h held; the operations, pasts, fits, the order by id -/
def CRep (w : mW) (A : Nat) (num : Int32) (n h : Nat) (o : Nat → mO) (pm : Nat → Int32) (ft : Nat → Prop) (sg : Nat → Nat) : Prop :=
  RSh w A ∧ RPt w A ∧ (n ≤ h ∧ h ≤ 16) ∧ (mI w A 0 = num ∧ mI w A 5 = nI n ∧ mI w A 6 = nI h) ∧ (∀ i, i < h → OpAt w (mP w (A + 1) i) (o i)) ∧ (∀ i, i < n → mI w (A + 34) i = pm i) ∧ (∀ i, i < n → mI w (A + 35) i = bI (ft i)) ∧ ∀ i, i < n → sg i < n ∧ mI w (A + 36) i = nI (sg i)
theorem nI_m1 {p : Nat} (h : p < 2 ^ 31) : ¬ nI p = -1 := by
  intro e
  have h1 := nI_toInt h
  rw [e] at h1
  have h2 : (-1 : Int32).toInt = -1 := by decide
  omega
/-- where an id stands among the first m -/
def fndP (m : Nat) (o : Nat → mO) (x r : Int32) : Prop := (r = -1 ∧ ∀ p, p < m → ob (o p) 0 ≠ x) ∨ ∃ p, p < m ∧ r = nI p ∧ ob (o p) 0 = x
def unq (m : Nat) (o : Nat → mO) : Prop := ∀ p p', p < m → p' < m → ob (o p) 0 = ob (o p') 0 → p = p'
def kdP (n : Nat) (o : Nat → mO) (x k : Int32) : Prop := ∃ p, p < n ∧ ob (o p) 0 = x ∧ ob (o p) 1 = k
section SRE
variable {d : Nat} {w : mW} {Q : Int32 → mW → Prop} {A : Nat} {num : Int32} {n h : Nat} {o : Nat → mO} {pm : Nat → Int32} {ft : Nat → Prop} {sg : Nat → Nat} {x : Int32}
theorem CRep.row (hR : CRep w A num n h o pm ft sg) {i : Nat} (hi : i < 16) : OSh w (mP w (A + 1) i) := by
  obtain ⟨k, hk, e⟩ := hR.2.1.1 i hi
  rw [e]
  exact hR.1.2.2.2.2.2.2.2 k hk
theorem s_Re_find {m : Nat} (hR : CRep w A num n h o pm ft sg) (hm : m ≤ h) (hQ : ∀ r, fndP m o x r → Q r w) : mC d m_Re_find [.ref A, .int x, .int (nI m)] w Q := by
  have hR0 := hR
  obtain ⟨⟨a0, tA, ⟨p1, -, -, -⟩, ⟨t1, l1⟩, -⟩, -, ⟨hn, hh⟩, -, hop, -⟩ := hR
  have loop : ∀ j p, p + j = m → (∀ i, i < p → ob (o i) 0 ≠ x) → mG d m_Re_find (0, 0) 2 [vR A, vI x, vI (nI m), vI (nI p)] [] w Q := by
    intro j
    induction j with
    | zero =>
      intro p hp hn
      refine b_Re_find_2 ?_
      rw [if_pos (nI_le (by omega) (by omega))]
      exact hQ _ (Or.inl ⟨rfl, fun i hi => hn i (by omega)⟩)
    | succ j ih =>
      intro p hp hn
      refine b_Re_find_2 ?_
      have hrow := hR0.row (i := p) (by omega)
      rw [if_neg (nI_ge (by omega) (by omega)), p1, nI_clamp (by omega), nI_1]
      refine ⟨tA, by omega, t1, by rw [l1]; exact vp_in_nI (by omega) (by omega), hrow.1, hrow.2.1, ?_⟩
      rw [(hop p (by omega)).2.2.1.1]
      refine by_if (fun e => hQ _ (Or.inr ⟨p, by omega, rfl, e⟩)) (fun e => ih (p + 1) (by omega) (fun i hi => ?_))
      by_cases hip : i = p
      · rw [hip]; exact e
      · exact hn i (by omega)
  have h0 := loop m 0 (by omega) (fun i hi => by omega)
  rw [nI_0] at h0
  exact e_Re_find h0
theorem s_Re_isMap (hR : CRep w A num n h o pm ft sg) (hu : unq n o) (hQ : Q (bI (x = 0 ∨ kdP n o x 1)) w) : mC (d + 1) m_Re_isMap [.ref A, .int x] w Q := by
  have hR0 := hR
  obtain ⟨⟨a0, tA, ⟨p1, -, -, -⟩, ⟨t1, l1⟩, -⟩, -, ⟨hn, hh⟩, ⟨-, i5, -⟩, hop, -⟩ := hR
  refine e_Re_isMap ⟨tA, ?_⟩
  rw [i5]
  refine s_Re_find hR0 hn (fun r hr => by_if (fun h0 => bI_Q1 hQ (Or.inl h0)) (fun h0 => ?_))
  rcases hr with ⟨rfl, hr⟩ | ⟨p, hp, rfl, hr⟩
  · rw [if_pos rfl]
    refine bI_Q0 hQ ?_
    rintro (z | ⟨p, hp, z, -⟩)
    · exact h0 z
    · exact hr p hp z
  · have hrow := hR0.row (i := p) (by omega)
    rw [if_neg (nI_m1 (by omega)), p1, nI_clamp (by omega)]
    refine ⟨tA, by omega, t1, by rw [l1]; exact vp_in_nI (by omega) (by omega), hrow.1, hrow.2.1, ?_⟩
    rw [(hop p (by omega)).2.2.1.2.1]
    refine by_if (fun e => bI_Q1 hQ (Or.inr ⟨p, hp, hr, e⟩)) (fun e => bI_Q0 hQ ?_)
    rintro (z | ⟨p', hp', z, z2⟩)
    · exact h0 z
    · rw [hu p' p hp' hp (z.trans hr.symm)] at z2
      exact e z2
theorem s_Re_isList (hR : CRep w A num n h o pm ft sg) (hu : unq n o) (hQ : Q (bI (kdP n o x 2)) w) : mC (d + 1) m_Re_isList [.ref A, .int x] w Q := by
  have hR0 := hR
  obtain ⟨⟨a0, tA, ⟨p1, -, -, -⟩, ⟨t1, l1⟩, -⟩, -, ⟨hn, hh⟩, ⟨-, i5, -⟩, hop, -⟩ := hR
  refine e_Re_isList ⟨tA, ?_⟩
  rw [i5]
  refine s_Re_find hR0 hn (fun r hr => ?_)
  rcases hr with ⟨rfl, hr⟩ | ⟨p, hp, rfl, hr⟩
  · rw [if_pos rfl]
    refine bI_Q0 hQ ?_
    rintro ⟨p, hp, z, -⟩
    exact hr p hp z
  · have hrow := hR0.row (i := p) (by omega)
    rw [if_neg (nI_m1 (by omega)), p1, nI_clamp (by omega)]
    refine ⟨tA, by omega, t1, by rw [l1]; exact vp_in_nI (by omega) (by omega), hrow.1, hrow.2.1, ?_⟩
    rw [(hop p (by omega)).2.2.1.2.1]
    refine by_if (fun e => bI_Q1 hQ ⟨p, hp, hr, e⟩) (fun e => bI_Q0 hQ ?_)
    rintro ⟨p', hp', z, z2⟩
    rw [hu p' p hp' hp (z.trans hr.symm)] at z2
    exact e z2
/-- an INSERT that fits, of that id -/
def inP (n : Nat) (o : Nat → mO) (ft : Nat → Prop) (x : Int32) (p : Nat) : Prop := p < n ∧ ob (o p) 0 = x ∧ ft p ∧ ob (o p) 1 = 3
theorem s_Re_findInsert (hR : CRep w A num n h o pm ft sg) (hu : unq n o) (hQ : ∀ r, (r = -1 ∧ ∀ p, ¬ inP n o ft x p) ∨ (∃ p, r = nI p ∧ inP n o ft x p) → Q r w) : mC (d + 1) m_Re_findInsert [.ref A, .int x] w Q := by
  have hR0 := hR
  obtain ⟨⟨a0, tA, ⟨p1, -, p3, -⟩, ⟨t1, l1⟩, -, ⟨t3, l3⟩, -⟩, -, ⟨hn, hh⟩, ⟨-, i5, -⟩, hop, -, hft, -⟩ := hR
  refine e_Re_findInsert ⟨tA, ?_⟩
  rw [i5]
  refine s_Re_find hR0 hn (fun r hr => ?_)
  rcases hr with ⟨rfl, hr⟩ | ⟨p, hp, rfl, hr⟩
  · rw [if_pos rfl]
    exact hQ _ (Or.inl ⟨rfl, fun p z => hr p z.1 z.2.1⟩)
  · have hrow := hR0.row (i := p) (by omega)
    rw [if_neg (nI_m1 (by omega)), p1, p3, nI_clamp (by omega), hft p hp]
    refine ⟨tA, by omega, t3, by rw [l3]; exact vp_in_nI (by omega) (by omega), ?_⟩
    refine bI_ite (fun e => hQ _ (Or.inl ⟨rfl, fun p' z => ?_⟩)) (fun e => ⟨by omega, t1, by rw [l1]; exact vp_in_nI (by omega) (by omega), hrow.1, hrow.2.1, ?_⟩)
    · have := hu p' p z.1 hp (z.2.1.trans hr.symm)
      rw [this] at z
      exact e z.2.2.1
    · rw [(hop p (by omega)).2.2.1.2.1]
      refine by_if (fun e3 => hQ _ (Or.inr ⟨p, rfl, hp, hr, e, e3⟩)) (fun e3 => hQ _ (Or.inl ⟨rfl, fun p' z => ?_⟩))
      have := hu p' p z.1 hp (z.2.1.trans hr.symm)
      rw [this] at z
      exact e3 z.2.2.2
/-- FITS -/
def fitP (n : Nat) (o : Nat → mO) (ft : Nat → Prop) (k t s : Int32) : Prop :=
  (k = 3 ∧ (s = 0 ∨ ∃ p, inP n o ft s p ∧ ob (o p) 2 = t) ∧ kdP n o t 2) ∨ (k = 4 ∧ ∃ p, inP n o ft t p) ∨ (k ≠ 3 ∧ k ≠ 4 ∧ (t = 0 ∨ kdP n o t 1))
theorem s_Re_hasPlaceFor {q : Nat} {c : mO} (hR : CRep w A num n h o pm ft sg) (hu : unq n o) (hS : OSh w q) (hO : OpAt w q c) (hQ : Q (bI (fitP n o ft (ob c 1) (ob c 2) (ob c 3))) w) : mC (d + 2) m_Re_hasPlaceFor [.ref A, .ref q] w Q := by
  have hR0 := hR
  obtain ⟨⟨a0, tA, ⟨p1, -, -, -⟩, ⟨t1, l1⟩, -⟩, -, ⟨hn, hh⟩, -, hop, -⟩ := hR
  have tq := hS.2.1
  obtain ⟨-, -, ⟨-, k3, k4, k5, -⟩, -⟩ := hO
  refine e_Re_hasPlaceFor ⟨tq, ?_⟩
  rw [k3]
  refine by_if (fun e => ?_) (fun e => by_if (fun e4 => ?_) (fun e4 => ?_))
  · have join : ∀ y : Int32, (y = 0 ↔ ¬ (ob c 3 = 0 ∨ ∃ p, inP n o ft (ob c 3) p ∧ ob (o p) 2 = ob c 2)) → mG (d + 2) m_Re_hasPlaceFor (0, 0) 50 [vR A, vR q, vN, vN] [.int y] w Q := by
      intro y hy
      refine b_Re_hasPlaceFor_50 ?_
      refine by_if (fun e0 => bI_Q0 hQ ?_) (fun e0 => ⟨tq, tA, ?_⟩)
      · rintro (z | z | z)
        · exact hy.mp e0 z.2.1
        · rw [e] at z; exact absurd z.1 (by decide)
        · exact z.1 e
      · rw [k4]
        have e1 : ob c 3 = 0 ∨ ∃ p, inP n o ft (ob c 3) p ∧ ob (o p) 2 = ob c 2 := Classical.byContradiction (fun z => e0 (hy.mpr z))
        refine s_Re_isList hR0 hu (bI_ite (fun e2 => bI_Q0 hQ ?_) (fun e2 => bI_Q1 hQ (Or.inl ⟨e, e1, e2⟩)))
        rintro (z | z | z)
        · exact e2 z.2.2
        · rw [e] at z; exact absurd z.1 (by decide)
        · exact z.1 e
    refine ⟨tA, ?_⟩
    rw [k5]
    refine s_Re_findInsert hR0 hu (fun r hr => ⟨tq, ?_⟩)
    rw [k4, k5]
    refine by_if (fun e0 => join 1 ?_) (fun e0 => ?_)
    · simp [e0]
    · rcases hr with ⟨rfl, hr⟩ | ⟨p, rfl, hr⟩
      · rw [if_pos rfl]
        refine join 0 ⟨fun _ z => ?_, fun _ => rfl⟩
        rcases z with z | ⟨p, z, -⟩
        · exact e0 z
        · exact hr p z
      · have hp := hr.1
        have hrow := hR0.row (i := p) (by omega)
        rw [if_neg (nI_m1 (by omega)), p1, nI_clamp (by omega)]
        refine ⟨tA, by omega, t1, by rw [l1]; exact vp_in_nI (by omega) (by omega), hrow.1, hrow.2.1, ?_⟩
        rw [(hop p (by omega)).2.2.1.2.2.1]
        refine by_if (fun e2 => join 1 ⟨fun z => absurd z (by decide), fun z => absurd (Or.inr ⟨p, hr, e2⟩) z⟩) (fun e2 => join 0 ⟨fun _ z => ?_, fun _ => rfl⟩)
        rcases z with z | ⟨p', z, z2⟩
        · exact e0 z
        · have := hu p' p z.1 hp (z.2.1.trans hr.2.1.symm)
          rw [this] at z2
          exact e2 z2
  · refine ⟨tA, ?_⟩
    rw [k4]
    refine s_Re_findInsert hR0 hu (fun r hr => ?_)
    rcases hr with ⟨rfl, hr⟩ | ⟨p, rfl, hr⟩
    · rw [if_pos rfl]
      refine bI_Q0 hQ ?_
      rintro (z | ⟨-, p, z⟩ | z)
      · exact e z.1
      · exact hr p z
      · exact z.2.1 e4
    · rw [if_neg (nI_m1 (by have := hr.1; omega))]
      exact bI_Q1 hQ (Or.inr (Or.inl ⟨e4, p, hr⟩))
  · refine ⟨tA, ?_⟩
    rw [k4]
    refine s_Re_isMap hR0 hu ⟨bI_and _, ?_⟩
    have e5 : (ob c 2 = 0 ∨ kdP n o (ob c 2) 1) ↔ fitP n o ft (ob c 1) (ob c 2) (ob c 3) := by
      constructor
      · exact fun z => Or.inr (Or.inr ⟨e, e4, z⟩)
      · rintro (z | z | z)
        · exact absurd z.1 e
        · exact absurd z.1 e4
        · exact z.2.2
    rw [bI_iff e5]
    exact hQ
end SRE
