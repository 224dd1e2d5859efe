/-! contracts of Contents: elements in their order, sums -/
def insN (l : List Nat) (p x : Nat) : List Nat := l.take p ++ x :: l.drop p
theorem insN_len {l : List Nat} {p x : Nat} (hp : p ≤ l.length) : (insN l p x).length = l.length + 1 := by
  simp [insN]; omega
theorem insN_get {l : List Nat} {p x : Nat} (hp : p ≤ l.length) (k : Nat) : (insN l p x).getD k 0 = if k < p then l.getD k 0 else if k = p then x else l.getD (k - 1) 0 := by
  unfold insN
  rw [List.getD_eq_getElem?_getD, List.getD_eq_getElem?_getD, List.getD_eq_getElem?_getD]
  have hl : (l.take p).length = p := by rw [List.length_take]; omega
  by_cases h1 : k < p
  · rw [if_pos h1, List.getElem?_append_left (by omega), List.getElem?_take_of_lt h1]
  · rw [if_neg h1, List.getElem?_append_right (by omega), hl]
    by_cases h2 : k = p
    · rw [if_pos h2, h2, Nat.sub_self]; rfl
    · rw [if_neg h2]
      have e : k - p = (k - 1 - p) + 1 := by omega
      rw [e, List.getElem?_cons_succ, List.getElem?_drop]
      congr 2
      omega
/-- an element of the list l -/
def elP (o : Nat → mO) (ft : Nat → Prop) (l : Int32) (p : Nat) : Prop := ft p ∧ ob (o p) 1 = 3 ∧ ob (o p) 2 = l
/-- the place right behind s, or the front -/
def plP (o : Nat → mO) (L : List Nat) (s : Int32) (p : Nat) : Prop := (p = 0 ∨ (s ≠ 0 ∧ ob (o (L.getD (p - 1) 0)) 0 = s)) ∧ ∀ j, p ≤ j → j < L.length → ¬ (s ≠ 0 ∧ ob (o (L.getD j 0)) 0 = s)
/-- the elements among the first i by id, in their order -/
def arR (o : Nat → mO) (ft : Nat → Prop) (sg : Nat → Nat) (l : Int32) : Nat → List Nat → Prop
  | 0, L => L = []
  | i + 1, L => (¬ elP o ft l (sg i) ∧ arR o ft sg l i L) ∨ (elP o ft l (sg i) ∧ ∃ L0 p, arR o ft sg l i L0 ∧ p ≤ L0.length ∧ plP o L0 (ob (o (sg i)) 3) p ∧ L = insN L0 p (sg i))
theorem arR_len {o : Nat → mO} {ft : Nat → Prop} {sg : Nat → Nat} {l : Int32} {i : Nat} {L : List Nat} (h : arR o ft sg l i L) : L.length ≤ i := by
  induction i generalizing L with
  | zero => rw [show L = [] from h]; exact Nat.le_refl 0
  | succ i ih =>
    rcases h with ⟨-, h⟩ | ⟨-, L0, p, h, hp, -, rfl⟩
    · have := ih h; omega
    · have := ih h; rw [insN_len hp]; omega
theorem arR_lt {o : Nat → mO} {ft : Nat → Prop} {sg : Nat → Nat} {l : Int32} {n i : Nat} {L : List Nat} (hs : ∀ j, j < n → sg j < n) (hi : i ≤ n) (h : arR o ft sg l i L) : ∀ j, j < L.length → L.getD j 0 < n := by
  induction i generalizing L with
  | zero =>
    intro j hj
    rw [show L = [] from h] at hj
    exact absurd hj (Nat.not_lt_zero _)
  | succ i ih =>
    rcases h with ⟨-, h⟩ | ⟨-, L0, p, h, hp, -, rfl⟩
    · exact ih (by omega) h
    · intro j hj
      rw [insN_len hp] at hj
      rw [insN_get hp]
      by_cases e1 : j < p
      · rw [if_pos e1]; exact ih (by omega) h j (by omega)
      · rw [if_neg e1]
        by_cases e2 : j = p
        · rw [if_pos e2]; exact hs i (by omega)
        · rw [if_neg e2]; exact ih (by omega) h (j - 1) (by omega)
/-- steps over those that count -/
noncomputable def fldI (P : Nat → Prop) (g : Nat → Int32 → Int32) : Nat → Int32 → Int32
  | 0, s => s
  | i + 1, s => @ite _ (P i) (Classical.propDecidable _) (g i (fldI P g i s)) (fldI P g i s)
theorem fldI_t {P : Nat → Prop} {g : Nat → Int32 → Int32} {i : Nat} {s : Int32} (h : P i) : fldI P g (i + 1) s = g i (fldI P g i s) := by
  show @ite _ (P i) (Classical.propDecidable _) (g i (fldI P g i s)) (fldI P g i s) = _
  rw [if_pos h]
theorem fldI_f {P : Nat → Prop} {g : Nat → Int32 → Int32} {i : Nat} {s : Int32} (h : ¬ P i) : fldI P g (i + 1) s = fldI P g i s := by
  show @ite _ (P i) (Classical.propDecidable _) (g i (fldI P g i s)) (fldI P g i s) = _
  rw [if_neg h]
theorem fldI_congr {P : Nat → Prop} {g g' : Nat → Int32 → Int32} {n : Nat} {s : Int32} (h : ∀ i, i < n → P i → ∀ z, g i z = g' i z) : fldI P g n s = fldI P g' n s := by
  induction n with
  | zero => rfl
  | succ n ih =>
    have := ih (fun i hi => h i (by omega))
    by_cases e : P n
    · rw [fldI_t e, fldI_t e, this, h n (by omega) e]
    · rw [fldI_f e, fldI_f e, this]
noncomputable def mpK (n : Nat) (o : Nat → mO) (pm : Nat → Int32) (ft : Nat → Prop) (sg : Nat → Nat) (S : Nat → Int32) (m : Int32) : Nat → Int32
  | 0 => 7
  | k + 1 => fldI (fun i => eaP n o pm ft m (nI k) (sg i)) (fun i z => 31 * (31 * z + 4 * ob (o (sg i)) 0 + nI k) + S (sg i)) n (mpK n o pm ft sg S m k)
theorem mpK_congr {n : Nat} {o : Nat → mO} {pm : Nat → Int32} {ft : Nat → Prop} {sg : Nat → Nat} {S S' : Nat → Int32} {m : Int32} (h : ∀ i, i < n → ob (o (sg i)) 2 = m → S (sg i) = S' (sg i)) (k : Nat) : mpK n o pm ft sg S m k = mpK n o pm ft sg S' m k := by
  induction k with
  | zero => rfl
  | succ k ih =>
    unfold mpK
    rw [ih]
    refine fldI_congr (fun i hi e z => ?_)
    show _ + S (sg i) = _ + S' (sg i)
    rw [h i hi e.1]
noncomputable def lsF (n : Nat) (o : Nat → mO) (ft : Nat → Prop) (L : List Nat) : Nat → Int32 := fun i => fldI (fun j => ¬ goP n o ft (ob (o (L.getD j 0)) 0)) (fun j z => 31 * z + 128 * ob (o (L.getD j 0)) 0 + ob (o (L.getD j 0)) 4) i 11
/-- what each applied one adds up to -/
def smP (n : Nat) (o : Nat → mO) (pm : Nat → Int32) (ft : Nat → Prop) (sg : Nat → Nat) (S : Nat → Int32) (p : Nat) : Prop :=
  (ob (o p) 1 = 1 → S p = mpK n o pm ft sg S (ob (o p) 0) 4) ∧ (ob (o p) 1 = 2 → ∃ L, arR o ft sg (ob (o p) 0) n L ∧ S p = lsF n o ft L L.length) ∧ (ob (o p) 1 ≠ 1 → ob (o p) 1 ≠ 2 → S p = ob (o p) 4)
section SSM
variable {d : Nat} {w : mW} {Q : Int32 → mW → Prop} {A a : Nat} {num : Int32} {n h : Nat} {o : Nat → mO} {pm : Nat → Int32} {ft : Nat → Prop} {sg : Nat → Nat} {x k s : Int32} {L : List Nat}
theorem s_Co_placeBehind {x : Nat} (hS : CoSh w a) (hR : CRep w A num n h o pm ft sg) (haA : a + 2 < A ∨ A + 37 ≤ a) (hL : L.length < 16) (hLn : ∀ j, j < L.length → L.getD j 0 < n) (hM : ∀ j, j < L.length → mI w (a + 1) j = nI (L.getD j 0))
    (hQ : ∀ p w', p ≤ L.length → plP o L s p → mFr (fun z => z = a + 1) w w' → (∀ j, j < L.length + 1 → mI w' (a + 1) j = nI ((insN L p x).getD j 0)) → Q 0 w') : mC d m_Co_placeBehind [.ref a, .ref A, .int s, .int (nI x), .int (nI L.length)] w Q := by
  have hS0 := hS
  have hR0 := hR
  have loop : ∀ p w1, p ≤ L.length → (∀ j, p ≤ j → j < L.length → ¬ (s ≠ 0 ∧ ob (o (L.getD j 0)) 0 = s)) → mFr (fun z => z = a + 1) w w1 → (∀ j, j < p → mI w1 (a + 1) j = nI (L.getD j 0)) → (∀ j, p ≤ j → j < L.length → mI w1 (a + 1) (j + 1) = nI (L.getD j 0)) → mG d m_Co_placeBehind (0, 0) 4 [vR a, vR A, vI s, vI (nI x), vN, vI (nI p)] [] w1 Q := by
    have fin : ∀ p w1, p ≤ L.length → plP o L s p → mFr (fun z => z = a + 1) w w1 → (∀ j, j < p → mI w1 (a + 1) j = nI (L.getD j 0)) → (∀ j, p ≤ j → j < L.length → mI w1 (a + 1) (j + 1) = nI (L.getD j 0)) → Q 0 (wrI w1 (a + 1) p (nI x)) := by
      intro p w1 hp hpl hf ha hb
      refine hQ p _ hp hpl (hf.wrI _ _ rfl) (fun j hj => ?_)
      rw [mI_wrI, insN_get hp]
      by_cases e1 : j < p
      · rw [if_pos e1, if_neg (by omega)]; exact ha j e1
      · rw [if_neg e1]
        by_cases e2 : j = p
        · rw [if_pos e2, if_pos ⟨rfl, e2⟩]
        · rw [if_neg e2, if_neg (by omega)]
          have := hb (j - 1) (by omega) (by omega)
          rw [show j - 1 + 1 = j by omega] at this
          exact this
    intro p
    induction p with
    | zero =>
      intro w1 hp hp2 hf ha hb
      obtain ⟨-, t5, ⟨q0, -⟩, ⟨t6, l6⟩, -⟩ := hS0.of hf.1
      refine b_Co_placeBehind_4 ?_
      rw [if_pos (show nI 0 ≤ 0 by rw [nI_0]; exact Int32.le_refl _), q0, nI_clamp (by omega)]
      refine ⟨t5, by omega, t6, by rw [l6]; exact vp_in_nI (by omega) (by omega), ?_⟩
      rintro _ rfl
      exact fin 0 w1 hp ⟨Or.inl rfl, hp2⟩ hf ha hb
    | succ p ih =>
      intro w1 hp hp2 hf ha hb
      obtain ⟨-, t5, ⟨q0, -⟩, ⟨t6, l6⟩, -⟩ := hS0.of hf.1
      have hR1 : CRep w1 A num n h o pm ft sg := hR0.ofX hf.x (fun z h1 h2 => by omega)
      have hrow := hR1.row (i := L.getD p 0) (by have := hLn p (by omega); have := hR0.2.2.1; omega)
      have hLp := hLn p (by omega)
      obtain ⟨⟨a0, tA, ⟨p1, -, -, -⟩, ⟨t1, l1⟩, -⟩, -, ⟨hn, hh⟩, -, hop, -⟩ := hR1
      have shift : ¬ (s ≠ 0 ∧ ob (o (L.getD p 0)) 0 = s) → mG d m_Co_placeBehind (0, 0) 34 [vR a, vR A, vI s, vI (nI x), vN, vI (nI (p + 1))] [] w1 Q := by
        intro g
        refine b_Co_placeBehind_34 ?_
        rw [q0, nI_pred, pk_m1, nI_clamp (by omega), nI_clamp (by omega), ha p (by omega)]
        refine ⟨t5, by omega, t6, by rw [l6]; exact vp_in_nI (by omega) (by omega), by rw [l6]; exact vp_in_nI (by omega) (by omega), ?_⟩
        rintro _ rfl
        refine ih _ (by omega) (fun j h1 h2 => ?_) (hf.wrI _ _ rfl) (fun j hj => ?_) (fun j h1 h2 => ?_)
        · by_cases hj : j = p
          · rw [hj]; exact g
          · exact hp2 j (by omega) h2
        · rw [mI_wrI, if_neg (by omega)]
          exact ha j (by omega)
        · rw [mI_wrI]
          by_cases hj : j = p
          · rw [if_pos ⟨rfl, by omega⟩, hj]
          · rw [if_neg (by omega)]
            exact hb j (by omega) h2
      refine b_Co_placeBehind_4 ?_
      rw [if_neg (nI_nle (by omega) (by omega)), q0, p1, nI_pred, nI_clamp (by omega), ha p (by omega), nI_clamp (by omega), nI_clamp (by omega), (hop _ (by omega)).2.2.1.1]
      refine by_if (fun e => shift (fun z => z.1 e)) (fun e => ⟨tA, by omega, t5, by omega, t6, by rw [l6]; exact vp_in_nI (by omega) (by omega), t1, by rw [l1]; exact vp_in_nI (by omega) (by omega), hrow.1, hrow.2.1, by_if (fun e2 => ⟨by rw [l6]; exact vp_in_nI (by omega) (by omega), ?_⟩) (fun e2 => shift (fun z => e2 z.2))⟩)
      rintro _ rfl
      exact fin (p + 1) w1 hp ⟨Or.inr ⟨e, by rw [Nat.add_sub_cancel]; exact e2⟩, hp2⟩ hf ha hb
  exact e_Co_placeBehind (loop L.length w (Nat.le_refl _) (fun j h1 h2 => by omega) (mFr.rf _ w) hM (fun j h1 h2 => by omega))
theorem s_Co_arrange (hS : CoSh w a) (hR : CRep w A num n h o pm ft sg) (haA : a + 2 < A ∨ A + 37 ≤ a)
    (hQ : ∀ L w', arR o ft sg x n L → mFr (fun z => z = a + 1) w w' → (∀ j, j < L.length → mI w' (a + 1) j = nI (L.getD j 0)) → Q (nI L.length) w') : mC (d + 1) m_Co_arrange [.ref a, .ref A, .int x] w Q := by
  have hS0 := hS
  have hR0 := hR
  have hnh := hR0.2.2.1
  have hsgn : ∀ j, j < n → sg j < n := fun j hj => (hR0.2.2.2.2.2.2.2 j hj).1
  have loop : ∀ j i L w1, i + j = n → arR o ft sg x i L → mFr (fun z => z = a + 1) w w1 → (∀ j, j < L.length → mI w1 (a + 1) j = nI (L.getD j 0)) → mG (d + 1) m_Co_arrange (0, 0) 5 [vR a, vR A, vI x, vI (nI L.length), vI (nI i), vN, vN] [] w1 Q := by
    intro j
    induction j with
    | zero =>
      intro i L w1 hi hA hf hM
      have hR1 : CRep w1 A num n h o pm ft sg := hR0.ofX hf.x (fun z h1 h2 => by omega)
      have e : i = n := by omega
      subst e
      refine b_Co_arrange_5 ⟨hR1.1.2.1, ?_⟩
      rw [hR1.2.2.2.1.2.1, if_pos (nI_le (by omega) (by omega))]
      exact hQ L w1 hA hf hM
    | succ j ih =>
      intro i L w1 hi hA hf hM
      have hlen := arR_len hA
      have hR1 : CRep w1 A num n h o pm ft sg := hR0.ofX hf.x (fun z h1 h2 => by omega)
      have hS1 := hS0.of hf.1
      have hR2 := hR1
      obtain ⟨⟨a0, tA, ⟨p1, -, p3, p4⟩, ⟨t1, l1⟩, -, ⟨t3, l3⟩, ⟨t4, l4⟩, -⟩, -, ⟨hn, hh⟩, ⟨-, i5, -⟩, hop, -, hft, hsg⟩ := hR1
      obtain ⟨hs1, hs2⟩ := hsg i (by omega)
      have hrow := hR2.row (i := sg i) (by omega)
      have hO1 := hop (sg i) (by omega)
      have skip : ¬ elP o ft x (sg i) → mG (d + 1) m_Co_arrange (0, 0) 5 [vR a, vR A, vI x, vI (nI L.length), vI (nI (i + 1)), vN, vN] [] w1 Q := fun g => ih (i + 1) L w1 (by omega) (Or.inl ⟨g, hA⟩) hf hM
      refine b_Co_arrange_5 ⟨tA, ?_⟩
      rw [i5, if_neg (nI_ge (by omega) (by omega)), p4, p1, p3, nI_clamp (by omega), hs2, nI_clamp (by omega), hft _ hs1, hO1.2.2.1.2.1, hO1.2.2.1.2.2.1, hO1.2.2.1.2.2.2.1, nI_1, nI_1]
      refine ⟨by omega, t4, by rw [l4]; exact vp_in_nI (by omega) (by omega), by omega, t1, by rw [l1]; exact vp_in_nI (by omega) (by omega), hrow.1, by omega, t3, by rw [l3]; exact vp_in_nI (by omega) (by omega), bI_ite (fun e => skip (fun z => e z.1)) (fun e => ⟨hrow.2.1, by_if (fun e2 => by_if (fun e3 => ⟨hS1.2.1, ?_⟩) (fun e3 => skip (fun z => e3 z.2.2))) (fun e2 => skip (fun z => e2 z.2.1))⟩)⟩
      refine s_Co_placeBehind hS1 hR2 haA (by omega) (arR_lt hsgn (by omega) hA) hM (fun p w2 g1 g2 g3 g4 => ?_)
      have := ih (i + 1) (insN L p (sg i)) w2 (by omega) (Or.inr ⟨⟨e, e2, e3⟩, L, p, hA, g1, g2, rfl⟩) (hf.tr g3) (by rw [insN_len g1]; exact g4)
      rw [insN_len g1] at this
      exact this
  have h0 := loop n 0 [] w (by omega) rfl (mFr.rf _ w) (fun j hj => absurd hj (Nat.not_lt_zero _))
  rw [show ([] : List Nat).length = 0 from rfl, nI_0] at h0
  exact e_Co_arrange h0
theorem s_Co_findElement (hS : CoSh w a) (hR : CRep w A num n h o pm ft sg) (haA : a + 2 < A ∨ A + 37 ≤ a)
    (hQ : ∀ L w', arR o ft sg x n L → mFr (fun z => z = a + 1) w w' → Q (lgt (eL (fun i => ¬ goP n o ft (ob (o (L.getD i 0)) 0)) (fun i => ob (o (L.getD i 0)) 0) L.length) k) w') : mC (d + 2) m_Co_findElement [.ref a, .ref A, .int x, .int k] w Q := by
  have hnh := hR.2.2.1
  have hsgn : ∀ j, j < n → sg j < n := fun j hj => (hR.2.2.2.2.2.2.2 j hj).1
  refine e_Co_findElement ⟨hS.2.1, s_Co_arrange hS hR haA (fun L w1 hA hf hM => ?_)⟩
  have hQ := hQ L w1 hA hf
  have hlen := arR_len hA
  have hlt := arR_lt hsgn (Nat.le_refl _) hA
  have hR1 : CRep w1 A num n h o pm ft sg := hR.ofX hf.x (fun z h1 h2 => by omega)
  obtain ⟨-, t5, ⟨q0, -⟩, ⟨t6, l6⟩, -⟩ := hS.of hf.1
  have hR2 := hR1
  obtain ⟨⟨a0, tA, ⟨p1, -, p3, p4⟩, ⟨t1, l1⟩, -⟩, -, ⟨hn, hh⟩, -, hop, -⟩ := hR1
  generalize hP : (fun i => ¬ goP n o ft (ob (o (L.getD i 0)) 0)) = P at hQ
  generalize hff : (fun i => ob (o (L.getD i 0)) 0) = f at hQ
  have hle := eL_len P f L.length
  have loop : ∀ j i, i + j = L.length → (∀ j', j' < (eL P f i).length → k ≠ nI j') → mG (d + 2) m_Co_findElement (0, 0) 14 [vR a, vR A, vN, vI k, vI (nI L.length), vI (nI (eL P f i).length), vI (nI i), vN] [] w1 Q := by
    intro j
    induction j with
    | zero =>
      intro i hi hk
      have e : i = L.length := by omega
      subst e
      refine b_Co_findElement_14 ?_
      rw [if_pos (nI_le (by omega) (by omega))]
      rw [lgt_end (by omega) hk] at hQ
      exact by_if (fun e => by rw [if_pos e] at hQ; exact hQ) (fun e => by rw [if_neg e] at hQ; exact hQ)
    | succ j ih =>
      intro i hi hk
      have hLi := hlt i (by omega)
      have hrow := hR2.row (i := L.getD i 0) (by omega)
      have hli := eL_len P f i
      refine b_Co_findElement_14 ?_
      rw [if_neg (nI_ge (by omega) (by omega)), q0, nI_clamp (by omega), hM i (by omega), nI_1, nI_1]
      refine ⟨t5, by omega, t6, by rw [l6]; exact vp_in_nI (by omega) (by omega), s_Co_isGone hR2 hLi (bI_ite (fun e => ?_) (fun e => ?_))⟩
      · have e' : P i := by rw [← hP]; exact e
        have hpre := eL_pre P f (show i + 1 ≤ L.length by omega)
        rw [eL_t e', List.length_append, List.length_singleton] at hpre
        refine by_if (fun e2 => ?_) (fun e2 => ?_)
        · rw [p1, nI_clamp (by omega), (hop _ (by omega)).2.2.1.1]
          refine ⟨tA, by omega, t1, by rw [l1]; exact vp_in_nI (by omega) (by omega), hrow.1, hrow.2.1, ?_⟩
          rw [← e2, lgt_here (by omega) (by omega), hpre.2 _ (by omega), ob_app, if_neg (by omega), Nat.sub_self] at hQ
          rw [← hff] at hQ
          exact hQ
        · have := ih (i + 1) (by omega) (by
            rw [eL_t e', List.length_append, List.length_singleton]
            intro j' hj'
            by_cases e3 : j' = (eL P f i).length
            · rw [e3]; exact fun z => e2 z.symm
            · exact hk j' (by omega))
          rw [eL_t e', List.length_append, List.length_singleton] at this
          exact this
      · have e' : ¬ P i := by rw [← hP]; exact fun z => z e
        have := ih (i + 1) (by omega) (by rw [eL_f e']; exact hk)
        rw [eL_f e'] at this
        exact this
  have h0 := loop L.length 0 (by omega) (fun j' hj' => absurd hj' (Nat.not_lt_zero _))
  rw [show (eL P f 0).length = 0 from rfl, nI_0] at h0
  exact h0
theorem s_Co_addUpList (hS : CoSh w a) (hR : CRep w A num n h o pm ft sg) (haA : a + 2 < A ∨ A + 37 ≤ a)
    (hQ : ∀ L w', arR o ft sg x n L → mFr (fun z => z = a + 1) w w' → Q (lsF n o ft L L.length) w') : mC (d + 2) m_Co_addUpList [.ref a, .ref A, .int x] w Q := by
  have hnh := hR.2.2.1
  have hsgn : ∀ j, j < n → sg j < n := fun j hj => (hR.2.2.2.2.2.2.2 j hj).1
  refine e_Co_addUpList ⟨hS.2.1, s_Co_arrange hS hR haA (fun L w1 hA hf hM => ?_)⟩
  have hQ := hQ L w1 hA hf
  have hlen := arR_len hA
  have hlt := arR_lt hsgn (Nat.le_refl _) hA
  have hR1 : CRep w1 A num n h o pm ft sg := hR.ofX hf.x (fun z h1 h2 => by omega)
  obtain ⟨-, t5, ⟨q0, -⟩, ⟨t6, l6⟩, -⟩ := hS.of hf.1
  have hR2 := hR1
  obtain ⟨⟨a0, tA, ⟨p1, -, p3, p4⟩, ⟨t1, l1⟩, -⟩, -, ⟨hn, hh⟩, -, hop, -⟩ := hR1
  have loop : ∀ j i, i + j = L.length → mG (d + 2) m_Co_addUpList (0, 0) 14 [vR a, vR A, vN, vI (nI L.length), vI (lsF n o ft L i), vI (nI i), vN] [] w1 Q := by
    intro j
    induction j with
    | zero =>
      intro i hi
      have e : i = L.length := by omega
      subst e
      refine b_Co_addUpList_14 ?_
      rw [if_pos (nI_le (by omega) (by omega))]
      exact hQ
    | succ j ih =>
      intro i hi
      have hLi := hlt i (by omega)
      have hrow := hR2.row (i := L.getD i 0) (by omega)
      have hO1 := hop (L.getD i 0) (by omega)
      refine b_Co_addUpList_14 ?_
      rw [if_neg (nI_ge (by omega) (by omega)), q0, nI_clamp (by omega), hM i (by omega), nI_1]
      refine ⟨t5, by omega, t6, by rw [l6]; exact vp_in_nI (by omega) (by omega), s_Co_isGone hR2 hLi (bI_ite (fun e => ?_) (fun e => ?_))⟩
      · rw [p1, nI_clamp (by omega), hO1.2.2.1.1, hO1.2.2.1.2.2.2.2]
        refine ⟨tA, by omega, t1, by rw [l1]; exact vp_in_nI (by omega) (by omega), hrow.1, hrow.2.1, ?_⟩
        have := ih (i + 1) (by omega)
        unfold lsF at this ⊢
        rw [fldI_t e] at this
        exact this
      · have := ih (i + 1) (by omega)
        unfold lsF at this ⊢
        rw [fldI_f (fun z => z e)] at this
        exact this
  have h0 := loop L.length 0 (by omega)
  rw [nI_0] at h0
  exact h0
theorem s_Co_addUpMap {S : Nat → Int32} (hS : CoSh w a) (hR : CRep w A num n h o pm ft sg) (hM : ∀ i, i < n → ob (o (sg i)) 2 = x → mI w (a + 2) (sg i) = S (sg i)) (hQ : Q (mpK n o pm ft sg S x 4) w) : mC (d + 4) m_Co_addUpMap [.ref a, .ref A, .int x] w Q := by
  have hR0 := hR
  obtain ⟨⟨a0, tA, ⟨p1, -, p3, p4⟩, ⟨t1, l1⟩, -, ⟨t3, l3⟩, ⟨t4, l4⟩, -⟩, -, ⟨hn, hh⟩, ⟨-, i5, -⟩, hop, -, hft, hsg⟩ := hR
  have hS0 := hS
  obtain ⟨-, t5, ⟨-, q1⟩, -, ⟨t7, l7⟩⟩ := hS
  have loop : ∀ j k, k + j = 4 → mG (d + 4) m_Co_addUpMap (0, 0) 6 [vR a, vR A, vI x, vI (mpK n o pm ft sg S x k), vI (nI k), vN, vN] [] w Q := by
    intro j
    induction j with
    | zero =>
      intro k hk
      have e : k = 4 := by omega
      subst e
      refine b_Co_addUpMap_6 ?_
      rw [if_pos (by decide)]
      exact hQ
    | succ j ih =>
      intro k hk
      refine b_Co_addUpMap_6 ?_
      have e : ¬ (4 : Int32) ≤ nI k := nI_ge (a := k) (b := 4) (by omega) (by omega)
      rw [if_neg e]
      have inner : ∀ j' i, i + j' = n → mG (d + 4) m_Co_addUpMap (0, 0) 15 [vR a, vR A, vI x, vI (fldI (fun i => eaP n o pm ft x (nI k) (sg i)) (fun i z => 31 * (31 * z + 4 * ob (o (sg i)) 0 + nI k) + S (sg i)) i (mpK n o pm ft sg S x k)), vI (nI k), vI (nI i), vN] [] w Q := by
        intro j'
        induction j' with
        | zero =>
          intro i hi
          have e : i = n := by omega
          subst e
          refine b_Co_addUpMap_15 ⟨tA, ?_⟩
          rw [i5, if_pos (nI_le (by omega) (by omega)), nI_1]
          exact ih (k + 1) (by omega)
        | succ j' ih' =>
          intro i hi
          obtain ⟨hs1, hs2⟩ := hsg i (by omega)
          have hrow := hR0.row (i := sg i) (by omega)
          refine b_Co_addUpMap_15 ⟨tA, ?_⟩
          rw [i5, if_neg (nI_ge (by omega) (by omega)), p4, nI_clamp (by omega), hs2, nI_1]
          refine ⟨by omega, t4, by rw [l4]; exact vp_in_nI (by omega) (by omega), t5, s_Co_isEntryAt hS0 hR0 hs1 (bI_ite (fun e => ?_) (fun e => ?_))⟩
          · have := ih' (i + 1) (by omega)
            rw [fldI_f (P := fun i => eaP n o pm ft x (nI k) (sg i)) e] at this
            exact this
          · rw [p1, q1, nI_clamp (by omega), (hop (sg i) (by omega)).2.2.1.1, hM i (by omega) e.1]
            refine ⟨tA, by omega, t1, by rw [l1]; exact vp_in_nI (by omega) (by omega), hrow.1, hrow.2.1, t5, by omega, t7, by rw [l7]; exact vp_in_nI (by omega) (by omega), ?_⟩
            have := ih' (i + 1) (by omega)
            rw [fldI_t (P := fun i => eaP n o pm ft x (nI k) (sg i)) e] at this
            exact this
      have h0 := inner n 0 (by omega)
      rw [nI_0] at h0
      exact h0
  have h0 := loop 4 0 (by omega)
  rw [nI_0] at h0
  exact e_Co_addUpMap h0
theorem smP_congr {S S' : Nat → Int32} {p : Nat} (hp : p < n) (hl : ∀ p e, p < n → e < n → ob (o e) 2 = ob (o p) 0 → p < e) (hs : ∀ i, i < n → sg i < n) (h : ∀ j, p ≤ j → j < n → S' j = S j) (h1 : smP n o pm ft sg S p) : smP n o pm ft sg S' p := by
  obtain ⟨g1, g2, g3⟩ := h1
  have e0 : S' p = S p := h p (Nat.le_refl _) hp
  refine ⟨fun e => ?_, fun e => ?_, fun e e' => ?_⟩
  · rw [e0, g1 e]
    refine mpK_congr (fun i hi hm => ?_) 4
    have := hl p (sg i) hp (hs i hi) hm
    exact (h _ (by omega) (hs i hi)).symm
  · rw [e0]; exact g2 e
  · rw [e0]; exact g3 e e'
theorem s_Co_addUp (hS : CoSh w a) (hR : CRep w A num n h o pm ft sg) (haA : a + 2 < A ∨ A + 37 ≤ a) (hl : ∀ p e, p < n → e < n → ob (o e) 2 = ob (o p) 0 → p < e)
    (hQ : ∀ S w', (∀ p, p < n → smP n o pm ft sg S p) → mFr (fun z => z = a + 1 ∨ z = a + 2) w w' → Q (mpK n o pm ft sg S 0 4) w') : mC (d + 5) m_Co_addUp [.ref a, .ref A] w Q := by
  have hnh := hR.2.2.1
  have hsgn : ∀ j, j < n → sg j < n := fun j hj => (hR.2.2.2.2.2.2.2 j hj).1
  have loop : ∀ p S w1, p ≤ n → (∀ j, p ≤ j → j < n → smP n o pm ft sg S j) → mFr (fun z => z = a + 1 ∨ z = a + 2) w w1 → (∀ j, p ≤ j → j < n → mI w1 (a + 2) j = S j) → mG (d + 5) m_Co_addUp (0, 0) 7 [vR a, vR A, vI (nI p - 1), vN] [] w1 Q := by
    intro p
    induction p with
    | zero =>
      intro S w1 hp hSm hf hM
      have hR1 : CRep w1 A num n h o pm ft sg := hR.ofX hf.x (fun z h1 h2 => by omega)
      have hS1 := hS.of hf.1
      refine b_Co_addUp_7 ?_
      have e : nI 0 - 1 < 0 := by rw [nI_0]; decide
      rw [if_pos e]
      exact ⟨hS1.2.1, s_Co_addUpMap (S := S) hS1 hR1 (fun i hi _ => hM _ (by omega) (hsgn i hi)) (hQ S w1 (fun p hp => hSm p (by omega) hp) hf)⟩
    | succ p ih =>
      intro S w1 hp hSm hf hM
      have hR1 : CRep w1 A num n h o pm ft sg := hR.ofX hf.x (fun z h1 h2 => by omega)
      have hS1 := hS.of hf.1
      have hR2 := hR1
      obtain ⟨⟨a0, tA, ⟨p1, -, p3, p4⟩, ⟨t1, l1⟩, -⟩, -, ⟨hn, hh⟩, -, hop, -⟩ := hR1
      have hrow := hR2.row (i := p) (by omega)
      have hO1 := hop p (by omega)
      have hSc := hS1
      obtain ⟨-, t5, ⟨-, q1⟩, -, ⟨t7, l7⟩⟩ := hS1
      have next : ∀ v w2, mFr (fun z => z = a + 1) w1 w2 → ((ob (o p) 1 = 1 → v = mpK n o pm ft sg S (ob (o p) 0) 4) ∧ (ob (o p) 1 = 2 → ∃ L, arR o ft sg (ob (o p) 0) n L ∧ v = lsF n o ft L L.length) ∧ (ob (o p) 1 ≠ 1 → ob (o p) 1 ≠ 2 → v = ob (o p) 4)) → mG (d + 5) m_Co_addUp (0, 0) 7 [vR a, vR A, vI (nI p - 1), vN] [] (wrI w2 (a + 2) p v) Q := by
        intro v w2 hf2 hv
        have hup : ∀ j, p + 1 ≤ j → j < n → upP S p v j = S j := fun j h1 h2 => by unfold upP; rw [if_neg (by omega)]
        have e0 : upP S p v p = v := by unfold upP; rw [if_pos rfl]
        refine ih (upP S p v) _ (by omega) (fun j h1 h2 => ?_) ((hf.tr (hf2.to (fun z hz => Or.inl hz))).wrI _ _ (Or.inr rfl)) (fun j h1 h2 => ?_)
        · by_cases e : j = p
          · subst e
            refine ⟨fun e => ?_, fun e => ?_, fun e e' => ?_⟩
            · rw [e0]
              refine (hv.1 e).trans (mpK_congr (fun i hi hm => ?_) 4)
              have := hl j (sg i) (by omega) (hsgn i hi) hm
              exact (hup _ (by omega) (hsgn i hi)).symm
            · rw [e0]; exact hv.2.1 e
            · rw [e0]; exact hv.2.2 e e'
          · exact smP_congr (by omega) hl hsgn (fun j' h3 h4 => hup j' (by omega) h4) (hSm j (by omega) h2)
        · rw [mI_wrI]
          by_cases e : j = p
          · rw [if_pos ⟨rfl, e⟩, e, e0]
          · rw [if_neg (by omega), hf2.2 _ (by omega), hup j (by omega) h2]
            exact hM j (by omega) h2
      have hvin : vp_in (nI p) 16 := vp_in_nI (by omega) (by omega)
      refine b_Co_addUp_7 ?_
      have em : nI p + (-1) = nI p - 1 := (Int32.sub_eq_add_neg _ _).symm
      rw [nI_pred, if_neg (nI_pos (by omega)), p1, nI_clamp (by omega), hO1.2.2.1.2.1, hO1.2.2.1.1, q1, hO1.2.2.1.2.2.2.2, em]
      refine ⟨tA, by omega, t1, by rw [l1]; exact hvin, hrow.1, hrow.2.1, by_if (fun e => ⟨t5, by omega, s_Co_addUpMap (S := S) hSc hR2 (fun i hi hm => ?_) ⟨t7, by rw [l7]; exact hvin, ?_⟩⟩) (fun e => by_if (fun e2 => ⟨t5, by omega, s_Co_addUpList hSc hR2 haA (fun L w2 hA hf2 => ⟨by rw [hf2.1.T]; exact t7, by rw [hf2.1.L, l7]; exact hvin, ?_⟩)⟩) (fun e2 => ⟨t5, by omega, t7, by rw [l7]; exact hvin, ?_⟩))⟩
      · have := hl p (sg i) (by omega) (hsgn i hi) hm
        exact hM _ (by omega) (hsgn i hi)
      · rintro _ rfl
        exact next _ w1 (mFr.rf _ _) ⟨fun _ => rfl, fun z => absurd (e.symm.trans z) (by decide), fun z => absurd e z⟩
      · rintro _ rfl
        exact next _ w2 hf2 ⟨fun z => absurd (e2.symm.trans z) (by decide), fun _ => ⟨L, hA, rfl⟩, fun _ z => absurd e2 z⟩
      · rintro _ rfl
        exact next _ w1 (mFr.rf _ _) ⟨fun z => absurd z e, fun z => absurd z e2, fun _ _ => rfl⟩
  refine e_Co_addUp ⟨hR.1.2.1, ?_⟩
  rw [hR.2.2.2.1.2.1]
  exact loop n (fun _ => 0) w (Nat.le_refl _) (fun j h1 h2 => by omega) (mFr.rf _ w) (fun j h1 h2 => by omega)
end SSM
