/-! contracts of Contents: entries, erased elements, depth -/
def CoSh (w : mW) (a : Nat) : Prop := a ≠ 0 ∧ mT w a = 5 ∧ (mP w a 0 = a + 1 ∧ mP w a 1 = a + 2) ∧ (mT w (a + 1) = 20 ∧ mL w (a + 1) = 16) ∧ (mT w (a + 2) = 20 ∧ mL w (a + 2) = 16)
theorem CoSh.of {w w' : mW} {a : Nat} (h : mSh w w') (hS : CoSh w a) : CoSh w' a := by
  obtain ⟨h1, h2, ⟨h3, h4⟩, ⟨h5, h6⟩, h7, h8⟩ := hS
  exact ⟨h1, by rw [h.T]; exact h2, ⟨by rw [h.P]; exact h3, by rw [h.P]; exact h4⟩, ⟨by rw [h.T]; exact h5, by rw [h.L]; exact h6⟩, by rw [h.T]; exact h7, by rw [h.L]; exact h8⟩
/-- p writes to the place t, s -/
def wpP (o : Nat → mO) (ft : Nat → Prop) (t s : Int32) (p : Nat) : Prop := ft p ∧ wmP (ob (o p) 1) ∧ ob (o p) 2 = t ∧ ob (o p) 3 = s
/-- ENTRY -/
def enP (n : Nat) (o : Nat → mO) (pm : Nat → Int32) (ft : Nat → Prop) (p : Nat) : Prop := ft p ∧ wmP (ob (o p) 1) ∧ ob (o p) 1 ≠ 5 ∧ ∀ p', p' < n → bitA (pm p') p → ¬ wpP o ft (ob (o p) 2) (ob (o p) 3) p'
def eaP (n : Nat) (o : Nat → mO) (pm : Nat → Int32) (ft : Nat → Prop) (m k : Int32) (p : Nat) : Prop := ob (o p) 2 = m ∧ ob (o p) 3 = k ∧ enP n o pm ft p
/-- an element is gone -/
def goP (n : Nat) (o : Nat → mO) (ft : Nat → Prop) (x : Int32) : Prop := ∃ p, p < n ∧ ft p ∧ ob (o p) 1 = 4 ∧ ob (o p) 2 = x
def shP (n : Nat) (o : Nat → mO) (pm : Nat → Int32) (ft : Nat → Prop) (p : Nat) : Prop := (ob (o p) 1 = 3 ∧ ft p ∧ ¬ goP n o ft (ob (o p) 0)) ∨ (ob (o p) 1 ≠ 3 ∧ enP n o pm ft p)
/-- the k-th of a list, how many, or NONE -/
def lgt (l : List Int32) (k : Int32) : Int32 := if k = -1 then nI l.length else if k < 0 then -1 else if nI l.length ≤ k then -1 else ob l k.toNatClampNeg
noncomputable def eL (P : Nat → Prop) (f : Nat → Int32) : Nat → List Int32
  | 0 => []
  | i + 1 => @ite _ (P i) (Classical.propDecidable _) (eL P f i ++ [f i]) (eL P f i)
theorem eL_t {P : Nat → Prop} {f : Nat → Int32} {i : Nat} (h : P i) : eL P f (i + 1) = eL P f i ++ [f i] := by
  show @ite _ (P i) (Classical.propDecidable _) (eL P f i ++ [f i]) (eL P f i) = _
  rw [if_pos h]
theorem eL_f {P : Nat → Prop} {f : Nat → Int32} {i : Nat} (h : ¬ P i) : eL P f (i + 1) = eL P f i := by
  show @ite _ (P i) (Classical.propDecidable _) (eL P f i ++ [f i]) (eL P f i) = _
  rw [if_neg h]
theorem eL_len (P : Nat → Prop) (f : Nat → Int32) (i : Nat) : (eL P f i).length ≤ i := by
  induction i with
  | zero => exact Nat.le_refl 0
  | succ i ih =>
    by_cases h : P i
    · rw [eL_t h, List.length_append, List.length_singleton]; omega
    · rw [eL_f h]; omega
theorem eL_pre (P : Nat → Prop) (f : Nat → Int32) {i n : Nat} (h : i ≤ n) : (eL P f i).length ≤ (eL P f n).length ∧ ∀ j, j < (eL P f i).length → ob (eL P f n) j = ob (eL P f i) j := by
  induction n with
  | zero =>
    have : i = 0 := by omega
    subst this
    exact ⟨Nat.le_refl _, fun _ _ => rfl⟩
  | succ n ih =>
    by_cases e : i = n + 1
    · subst e; exact ⟨Nat.le_refl _, fun _ _ => rfl⟩
    · obtain ⟨h1, h2⟩ := ih (by omega)
      by_cases hp : P n
      · rw [eL_t hp]
        refine ⟨by rw [List.length_append]; omega, fun j hj => ?_⟩
        rw [ob_app, if_pos (by omega)]
        exact h2 j hj
      · rw [eL_f hp]; exact ⟨h1, h2⟩
/-- depth, by at most f steps -/
def dpR (n : Nat) (o : Nat → mO) (pm : Nat → Int32) (ft : Nat → Prop) : Nat → Nat → Int32 → Int32 → Prop
  | 0, _, _, r => r = -1
  | f + 1, l, x, r => (x = 0 ∧ r = nI l) ∨ (x ≠ 0 ∧ ∃ p, p < n ∧ ob (o p) 0 = x ∧ shP n o pm ft p ∧ dpR n o pm ft f (l + 1) (ob (o p) 2) r) ∨ (x ≠ 0 ∧ (¬ ∃ p, p < n ∧ ob (o p) 0 = x ∧ shP n o pm ft p) ∧ r = -1)
section SEN
variable {d : Nat} {w : mW} {Q : Int32 → mW → Prop} {A a : Nat} {num : Int32} {n h : Nat} {o : Nat → mO} {pm : Nat → Int32} {ft : Nat → Prop} {sg : Nat → Nat} {x k : Int32}
theorem s_Co_writesSamePlace {p q : Nat} {c : mO} (hR : CRep w A num n h o pm ft sg) (hp : p < n) (hS : OSh w q) (hO : OpAt w q c) (hQ : Q (bI (wpP o ft (ob c 2) (ob c 3) p)) w) : mC (d + 1) m_Co_writesSamePlace [.ref a, .ref A, .int (nI p), .ref q] w Q := by
  have hR0 := hR
  obtain ⟨⟨a0, tA, ⟨p1, -, p3, -⟩, ⟨t1, l1⟩, -, ⟨t3, l3⟩, -⟩, -, ⟨hn, hh⟩, -, hop, -, hft, -⟩ := hR
  have hrow := hR0.row (i := p) (by omega)
  have hO1 := hop p (by omega)
  refine e_Co_writesSamePlace ?_
  rw [p1, p3, nI_clamp (by omega), hft p hp]
  refine ⟨tA, by omega, t1, by rw [l1]; exact vp_in_nI (by omega) (by omega), hrow.1, by omega, t3, by rw [l3]; exact vp_in_nI (by omega) (by omega), bI_ite (fun e => bI_Q0 hQ (fun z => e z.1)) (fun e => ⟨hrow.2.1, s_Op_writesToMap hrow hO1 (bI_ite (fun e2 => bI_Q0 hQ (fun z => e2 z.2.1)) (fun e2 => ⟨hrow.2.1, hS.2.1, ?_⟩))⟩)⟩
  rw [hO1.2.2.1.2.2.1, hO1.2.2.1.2.2.2.1, hO.2.2.1.2.2.1, hO.2.2.1.2.2.2.1]
  exact by_if (fun e3 => by_if (fun e4 => bI_Q1 hQ ⟨e, e2, e3, e4⟩) (fun e4 => bI_Q0 hQ (fun z => e4 z.2.2.2))) (fun e3 => bI_Q0 hQ (fun z => e3 z.2.2.1))
theorem s_Co_isEntry {p : Nat} (hS : CoSh w a) (hR : CRep w A num n h o pm ft sg) (hp : p < n) (hQ : Q (bI (enP n o pm ft p)) w) : mC (d + 2) m_Co_isEntry [.ref a, .ref A, .int (nI p)] w Q := by
  have hR0 := hR
  obtain ⟨⟨a0, tA, ⟨p1, -, p3, -⟩, ⟨t1, l1⟩, -, ⟨t3, l3⟩, -⟩, -, ⟨hn, hh⟩, ⟨-, i5, -⟩, hop, -, hft, -⟩ := hR
  have hrow := hR0.row (i := p) (by omega)
  have hO1 := hop p (by omega)
  have loop : ∀ j m, ft p → wmP (ob (o p) 1) → ob (o p) 1 ≠ 5 → m + j = n → (∀ i, i < m → bitA (pm i) p → ¬ wpP o ft (ob (o p) 2) (ob (o p) 3) i) → mG (d + 2) m_Co_isEntry (0, 0) 36 [vR a, vR A, vI (nI p), vR (mP w (A + 1) p), vI (nI m)] [] w Q := by
    intro j
    induction j with
    | zero =>
      intro m g1 g2 g3 hm hi
      refine b_Co_isEntry_36 ⟨tA, ?_⟩
      rw [i5, if_pos (nI_le (by omega) (by omega))]
      exact bI_Q1 hQ ⟨g1, g2, g3, fun i hi' => hi i (by omega)⟩
    | succ j ih =>
      intro m g1 g2 g3 hm hi
      refine b_Co_isEntry_36 ⟨tA, ?_⟩
      rw [i5, if_neg (nI_ge (by omega) (by omega)), nI_1]
      have next : (bitA (pm m) p → ¬ wpP o ft (ob (o p) 2) (ob (o p) 3) m) → mG (d + 2) m_Co_isEntry (0, 0) 36 [vR a, vR A, vI (nI p), vR (mP w (A + 1) p), vI (nI (m + 1))] [] w Q := by
        intro g
        refine ih (m + 1) g1 g2 g3 (by omega) (fun i hi' => ?_)
        by_cases e : i = m
        · rw [e]; exact g
        · exact hi i (by omega)
      refine s_Re_hasInPast hR0 (by omega) (bI_ite (fun e => next (fun z => absurd z e)) (fun e => ⟨hS.2.1, s_Co_writesSamePlace hR0 (by omega) hrow hO1 (bI_ite (fun e2 => next (fun _ => e2)) (fun e2 => bI_Q0 hQ (fun z => z.2.2.2 m (by omega) e e2)))⟩))
  refine e_Co_isEntry ?_
  rw [p1, p3, nI_clamp (by omega), hft p hp]
  refine ⟨tA, by omega, t1, by rw [l1]; exact vp_in_nI (by omega) (by omega), hrow.1, by omega, t3, by rw [l3]; exact vp_in_nI (by omega) (by omega), bI_ite (fun e => bI_Q0 hQ (fun z => e z.1)) (fun e => ⟨hrow.2.1, s_Op_writesToMap hrow hO1 (bI_ite (fun e2 => bI_Q0 hQ (fun z => e2 z.2.1)) (fun e2 => ⟨hrow.2.1, ?_⟩))⟩)⟩
  rw [hO1.2.2.1.2.1]
  refine by_if (fun e3 => bI_Q0 hQ (fun z => z.2.2.1 e3)) (fun e3 => ?_)
  have h0 := loop n 0 e e2 e3 (by omega) (fun i hi => by omega)
  rw [nI_0] at h0
  exact h0
theorem s_Co_isEntryAt {p : Nat} (hS : CoSh w a) (hR : CRep w A num n h o pm ft sg) (hp : p < n) (hQ : Q (bI (eaP n o pm ft x k p)) w) : mC (d + 3) m_Co_isEntryAt [.ref a, .ref A, .int x, .int k, .int (nI p)] w Q := by
  have hR0 := hR
  obtain ⟨⟨a0, tA, ⟨p1, -, p3, -⟩, ⟨t1, l1⟩, -, ⟨t3, l3⟩, -⟩, -, ⟨hn, hh⟩, ⟨-, i5, -⟩, hop, -, hft, -⟩ := hR
  have hrow := hR0.row (i := p) (by omega)
  have hO1 := hop p (by omega)
  refine e_Co_isEntryAt ?_
  rw [p1, nI_clamp (by omega), hO1.2.2.1.2.2.1, hO1.2.2.1.2.2.2.1]
  exact ⟨tA, by omega, t1, by rw [l1]; exact vp_in_nI (by omega) (by omega), hrow.1, hrow.2.1, by_if (fun e => by_if (fun e2 => ⟨hS.2.1, s_Co_isEntry hS hR0 hp (bI_ite (fun e3 => bI_Q0 hQ (fun z => e3 z.2.2)) (fun e3 => bI_Q1 hQ ⟨e, e2, e3⟩))⟩) (fun e2 => bI_Q0 hQ (fun z => e2 z.2.1))) (fun e => bI_Q0 hQ (fun z => e z.1))⟩
/-- counting up to the k-th: one step, and the end -/
theorem lgt_here {l : List Int32} {m : Nat} (hm : m < l.length) (hl : l.length < 2 ^ 31) : lgt l (nI m) = ob l m := by
  unfold lgt
  rw [if_neg (nI_m1 (by omega)), if_neg (nI_pos (by omega)), if_neg (nI_ge hm hl), nI_clamp (by omega)]
theorem lgt_end {l : List Int32} {k : Int32} (hl : l.length < 2 ^ 31) (hk : ∀ j, j < l.length → k ≠ nI j) : lgt l k = if k = -1 then nI l.length else -1 := by
  unfold lgt
  by_cases e : k = -1
  · rw [if_pos e, if_pos e]
  · rw [if_neg e, if_neg e]
    by_cases e2 : k < 0
    · rw [if_pos e2]
    · rw [if_neg e2]
      obtain ⟨j, hj, rfl⟩ := nI_of e2
      by_cases e3 : j < l.length
      · exact absurd rfl (hk j e3)
      · rw [if_pos (nI_le (by omega) hj)]
theorem s_Co_findEntry {m : Int32} (hS : CoSh w a) (hR : CRep w A num n h o pm ft sg) (hQ : Q (lgt (eL (fun i => eaP n o pm ft m x (sg i)) (fun i => ob (o (sg i)) 0) n) k) w) : mC (d + 4) m_Co_findEntry [.ref a, .ref A, .int m, .int x, .int k] w Q := by
  have hR0 := hR
  obtain ⟨⟨a0, tA, ⟨p1, -, p3, p4⟩, ⟨t1, l1⟩, -, ⟨t3, l3⟩, ⟨t4, l4⟩, -⟩, -, ⟨hn, hh⟩, ⟨-, i5, -⟩, hop, -, hft, hsg⟩ := hR
  generalize hP : (fun i => eaP n o pm ft m x (sg i)) = P at hQ
  generalize hf : (fun i => ob (o (sg i)) 0) = f at hQ
  have hlen := eL_len P f n
  have loop : ∀ j i, i + j = n → (∀ j', j' < (eL P f i).length → k ≠ nI j') → mG (d + 4) m_Co_findEntry (0, 0) 6 [vR a, vR A, vI m, vI x, vI k, vI (nI (eL P f i).length), vI (nI i), vN] [] w Q := by
    intro j
    induction j with
    | zero =>
      intro i hi hk
      have e : i = n := by omega
      subst e
      refine b_Co_findEntry_6 ⟨tA, ?_⟩
      rw [i5, if_pos (nI_le (by omega) (by omega))]
      rw [lgt_end (by omega) hk] at hQ
      exact by_if (fun e => by rw [if_pos e] at hQ; exact hQ) (fun e => by rw [if_neg e] at hQ; exact hQ)
    | succ j ih =>
      intro i hi hk
      obtain ⟨hs1, hs2⟩ := hsg i (by omega)
      have hrow := hR0.row (i := sg i) (by omega)
      have hli := eL_len P f i
      refine b_Co_findEntry_6 ⟨tA, ?_⟩
      rw [i5, if_neg (nI_ge (by omega) (by omega)), p4, nI_clamp (by omega), hs2, nI_1, nI_1]
      refine ⟨by omega, t4, by rw [l4]; exact vp_in_nI (by omega) (by omega), hS.2.1, s_Co_isEntryAt hS hR0 hs1 (bI_ite (fun e => ?_) (fun e => ?_))⟩
      · have e' : ¬ P i := by rw [← hP]; exact e
        have := ih (i + 1) (by omega) (by rw [eL_f e']; exact hk)
        rw [eL_f e'] at this
        exact this
      · have e' : P i := by rw [← hP]; exact e
        have hpre := eL_pre P f (show i + 1 ≤ n by omega)
        rw [eL_t e', List.length_append, List.length_singleton] at hpre
        refine by_if (fun e2 => ?_) (fun e2 => ?_)
        · rw [p1, nI_clamp (by omega), (hop (sg i) (by omega)).2.2.1.1]
          refine ⟨tA, by omega, t1, by rw [l1]; exact vp_in_nI (by omega) (by omega), hrow.1, hrow.2.1, ?_⟩
          rw [← e2, lgt_here (by omega) (by omega), hpre.2 _ (by omega), ob_app, if_neg (by omega), Nat.sub_self] at hQ
          rw [← hf] at hQ
          exact hQ
        · have := ih (i + 1) (by omega) (by
            rw [eL_t e', List.length_append, List.length_singleton]
            intro j' hj'
            by_cases e3 : j' = (eL P f i).length
            · rw [e3]; exact fun z => e2 z.symm
            · exact hk j' (by omega))
          rw [eL_t e', List.length_append, List.length_singleton] at this
          exact this
  have h0 := loop n 0 (by omega) (fun j' hj' => absurd hj' (Nat.not_lt_zero _))
  rw [show (eL P f 0).length = 0 from rfl, nI_0] at h0
  exact e_Co_findEntry h0
theorem s_Co_isGone {p : Nat} (hR : CRep w A num n h o pm ft sg) (hp : p < n) (hQ : Q (bI (goP n o ft (ob (o p) 0))) w) : mC d m_Co_isGone [.ref a, .ref A, .int (nI p)] w Q := by
  have hR0 := hR
  obtain ⟨⟨a0, tA, ⟨p1, -, p3, -⟩, ⟨t1, l1⟩, -, ⟨t3, l3⟩, -⟩, -, ⟨hn, hh⟩, ⟨-, i5, -⟩, hop, -, hft, -⟩ := hR
  have loop : ∀ j m, m + j = n → (∀ i, i < m → ¬ (ft i ∧ ob (o i) 1 = 4 ∧ ob (o i) 2 = ob (o p) 0)) → mG d m_Co_isGone (0, 0) 13 [vN, vR A, vN, vI (ob (o p) 0), vI (nI m), vN] [] w Q := by
    intro j
    induction j with
    | zero =>
      intro m hm hi
      refine b_Co_isGone_13 ⟨tA, ?_⟩
      rw [i5, if_pos (nI_le (by omega) (by omega))]
      refine bI_Q0 hQ ?_
      rintro ⟨i, h1, h2⟩
      exact hi i (by omega) h2
    | succ j ih =>
      intro m hm hi
      have hrow := hR0.row (i := m) (by omega)
      have hO1 := hop m (by omega)
      have next : ¬ (ft m ∧ ob (o m) 1 = 4 ∧ ob (o m) 2 = ob (o p) 0) → mG d m_Co_isGone (0, 0) 13 [vN, vR A, vN, vI (ob (o p) 0), vI (nI (m + 1)), vN] [] w Q := by
        intro g
        refine ih (m + 1) (by omega) (fun i hi' => ?_)
        by_cases e : i = m
        · rw [e]; exact g
        · exact hi i (by omega)
      refine b_Co_isGone_13 ⟨tA, ?_⟩
      rw [i5, if_neg (nI_ge (by omega) (by omega)), p1, p3, nI_clamp (by omega), hft m (by omega), nI_1, hO1.2.2.1.2.1, hO1.2.2.1.2.2.1]
      exact ⟨by omega, t1, by rw [l1]; exact vp_in_nI (by omega) (by omega), hrow.1, by omega, t3, by rw [l3]; exact vp_in_nI (by omega) (by omega), bI_ite (fun e => next (fun z => e z.1)) (fun e => ⟨hrow.2.1, by_if (fun e2 => by_if (fun e3 => bI_Q1 hQ ⟨m, by omega, e, e2, e3⟩) (fun e3 => next (fun z => e3 z.2.2))) (fun e2 => next (fun z => e2 z.2.1))⟩)⟩
  have hrow := hR0.row (i := p) (by omega)
  refine e_Co_isGone ?_
  rw [p1, nI_clamp (by omega), (hop p (by omega)).2.2.1.1]
  have h0 := loop n 0 (by omega) (fun i hi => by omega)
  rw [nI_0] at h0
  exact ⟨tA, by omega, t1, by rw [l1]; exact vp_in_nI (by omega) (by omega), hrow.1, hrow.2.1, h0⟩
theorem s_Co_isShown {p : Nat} (hS : CoSh w a) (hR : CRep w A num n h o pm ft sg) (hp : p < n) (hQ : Q (bI (shP n o pm ft p)) w) : mC (d + 3) m_Co_isShown [.ref a, .ref A, .int (nI p)] w Q := by
  have hR0 := hR
  obtain ⟨⟨a0, tA, ⟨p1, -, p3, -⟩, ⟨t1, l1⟩, -, ⟨t3, l3⟩, -⟩, -, ⟨hn, hh⟩, ⟨-, i5, -⟩, hop, -, hft, -⟩ := hR
  have hrow := hR0.row (i := p) (by omega)
  refine e_Co_isShown ?_
  rw [p1, p3, nI_clamp (by omega), (hop p (by omega)).2.2.1.2.1, hft p hp]
  refine ⟨tA, by omega, t1, by rw [l1]; exact vp_in_nI (by omega) (by omega), hrow.1, hrow.2.1, by_if (fun e => ⟨by omega, t3, by rw [l3]; exact vp_in_nI (by omega) (by omega), bI_ite (fun e2 => bI_Q0 hQ ?_) (fun e2 => ⟨hS.2.1, s_Co_isGone hR0 hp (bI_ite (fun e3 => bI_Q1 hQ (Or.inl ⟨e, e2, e3⟩)) (fun e3 => bI_Q0 hQ ?_))⟩)⟩) (fun e => ⟨hS.2.1, s_Co_isEntry hS hR0 hp ⟨bI_and _, ?_⟩⟩)⟩
  · rintro (z | z)
    · exact e2 z.2.1
    · exact z.1 e
  · rintro (z | z)
    · exact z.2.2 e3
    · exact z.1 e
  · have e2 : enP n o pm ft p ↔ shP n o pm ft p := ⟨fun z => Or.inr ⟨e, z⟩, fun z => by
      rcases z with z | z
      · exact absurd z.1 e
      · exact z.2⟩
    rw [bI_iff e2]
    exact hQ
theorem s_Co_countLevels (hS : CoSh w a) (hR : CRep w A num n h o pm ft sg) (hu : unq n o) (hQ : ∀ r, dpR n o pm ft 17 0 x r → Q r w) : mC (d + 4) m_Co_countLevels [.ref a, .ref A, .int x] w Q := by
  have hR0 := hR
  obtain ⟨⟨a0, tA, ⟨p1, -, p3, -⟩, ⟨t1, l1⟩, -, ⟨t3, l3⟩, -⟩, -, ⟨hn, hh⟩, ⟨-, i5, -⟩, hop, -, hft, -⟩ := hR
  have loop : ∀ f l x, l + f = 17 → (∀ r, dpR n o pm ft f l x r → Q r w) → mG (d + 4) m_Co_countLevels (0, 0) 5 [vR a, vR A, vN, vI x, vI (nI l), vN] [] w Q := by
    intro f
    induction f with
    | zero =>
      intro l x hl hQ
      refine b_Co_countLevels_5 ?_
      have e : (16 : Int32) < nI l := nI_lt (a := 16) (b := l) (by omega) (by omega)
      rw [if_pos e]
      exact hQ _ rfl
    | succ f ih =>
      intro l x hl hQ
      refine b_Co_countLevels_5 ?_
      have e : ¬ (16 : Int32) < nI l := nI_nlt (a := 16) (b := l) (by omega) (by omega)
      rw [if_neg e, i5]
      refine by_if (fun e0 => hQ _ (Or.inl ⟨e0, rfl⟩)) (fun e0 => ⟨tA, s_Re_find hR0 hn (fun r hr => ?_)⟩)
      rcases hr with ⟨rfl, hr⟩ | ⟨p, hp, rfl, hr⟩
      · rw [if_pos rfl]
        exact hQ _ (Or.inr (Or.inr ⟨e0, fun ⟨p, g1, g2, _⟩ => hr p g1 g2, rfl⟩))
      · have hrow := hR0.row (i := p) (by omega)
        rw [if_neg (nI_m1 (by omega))]
        refine ⟨hS.2.1, s_Co_isShown hS hR0 hp (bI_ite (fun e2 => hQ _ (Or.inr (Or.inr ⟨e0, fun ⟨p', g1, g2, g3⟩ => ?_, rfl⟩))) (fun e2 => ?_))⟩
        · have := hu p' p g1 hp (g2.trans hr.symm)
          rw [this] at g3
          exact e2 g3
        · rw [p1, nI_clamp (by omega), (hop p (by omega)).2.2.1.2.2.1, nI_1]
          exact ⟨tA, by omega, t1, by rw [l1]; exact vp_in_nI (by omega) (by omega), hrow.1, hrow.2.1, ih (l + 1) _ (by omega) (fun r hr2 => hQ r (Or.inr (Or.inl ⟨e0, p, hp, hr, e2, hr2⟩)))⟩
  have h0 := loop 17 0 x (by omega) hQ
  rw [nI_0] at h0
  exact e_Co_countLevels h0
end SEN
