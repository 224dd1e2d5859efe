/-! the model: the simple reading calls -/
theorem cntP_bij {h m : Nat} {pi : Nat → Nat} (R : Nat → Prop) (hr : ∀ j, j < h → pi j < m) (hi : ∀ i j, i < h → j < h → pi i = pi j → i = j) : cntP h (fun j => R (pi j)) = cntP m (fun p => R p ∧ ∃ j, j < h ∧ pi j = p) := by
  induction h with
  | zero => exact (cntP_none (fun p _ z => by obtain ⟨-, j, h1, -⟩ := z; omega)).symm
  | succ h ih =>
    have ih' := ih (fun j hj => hr j (by omega)) (fun i j h1 h2 => hi i j (by omega) (by omega))
    by_cases hR : R (pi h)
    · rw [cntP_t (P := fun j => R (pi j)) hR, ih']
      refine (cntP_add1 (hr h (by omega)) (fun z => ?_) (fun p hp => ?_)).symm
      · obtain ⟨-, j, h1, h2⟩ := z
        have := hi j h (by omega) (by omega) h2
        omega
      · constructor
        · rintro ⟨z1, j, h1, h2⟩
          by_cases e : j = h
          · rw [e] at h2; exact Or.inr h2.symm
          · exact Or.inl ⟨z1, j, by omega, h2⟩
        · rintro (⟨z1, j, h1, h2⟩ | rfl)
          · exact ⟨z1, j, by omega, h2⟩
          · exact ⟨hR, h, by omega, rfl⟩
    · rw [cntP_f (P := fun j => R (pi j)) hR, ih']
      refine (cntP_eq (fun p hp => ?_)).symm
      constructor
      · rintro ⟨z1, j, h1, h2⟩
        by_cases e : j = h
        · rw [e] at h2; rw [← h2] at z1; exact absurd z1 hR
        · exact ⟨z1, j, by omega, h2⟩
      · rintro ⟨z1, j, h1, h2⟩
        exact ⟨z1, j, by omega, h2⟩
theorem cntP_cut {n h : Nat} {P : Nat → Prop} (hn : n ≤ h) : cntP h (fun p => p < n ∧ P p) = cntP n P := by
  induction h with
  | zero =>
    have : n = 0 := by omega
    subst this
    rfl
  | succ h ih =>
    by_cases e : n = h + 1
    · subst e
      exact cntP_eq (fun p hp => ⟨fun z => z.2, fun z => ⟨hp, z⟩⟩)
    · rw [cntP_f (P := fun p => p < n ∧ P p) (by omega), ih (by omega)]
section SMQ
variable {d : Nat} {w : mW} {Q : Int32 → mW → Prop} {B r n h : Nat} {o : Nat → mO} {pm : Nat → Int32} {ft : Nat → Prop} {sg : Nat → Nat} {pi ro : Nat → Nat} {x y z k : Int32}
theorem MV.inj (hV : MV w B r n h o pi ro) {i j : Nat} (hi : i < h) (hj : j < h) (e : pi i = pi j) : i = j := by
  rw [← (hV.pi i hi).2, ← (hV.pi j hj).2, e]
theorem s_Mo_held (hV : MV w B r n h o pi ro) (hQ : Q (nI h) w) : mC (d + 1) m_Mo_held [.ref B, .int (nI r)] w Q := by
  have r3 := hV.r3
  obtain ⟨b0, t, ⟨-, p1, -⟩, -, -, ⟨t2, l2⟩, -⟩ := hV.sh
  refine e_Mo_held (s_Mo_isReplica (bI_ite (fun e => absurd (isR_nI r3) e) (fun e => ?_)))
  rw [p1, nI_clamp (by omega), hV.hd, l2]
  exact ⟨t, by omega, t2, vp_in_nI (by omega) (by omega), hQ⟩
theorem s_Mo_log (hV : MV w B r n h o pi ro) (hQ : ∀ w', mSc B w w' → Q (if k = -1 then nI n else if k < 0 then -1 else if nI n ≤ k then -1 else ob (o k.toNatClampNeg) 0) w') : mC (d + 1) m_Mo_log [.ref B, .int (nI r), .int k] w Q := by
  have r3 := hV.r3
  have nh := hV.nh
  have h16 := hV.h16
  obtain ⟨b0, t, ⟨-, -, -, p3, p4, -⟩, -, -, -, -, ⟨t4, l4⟩, ⟨t5, l5⟩, -⟩ := hV.sh
  refine e_Mo_log (s_Mo_isReplica (bI_ite (fun e => absurd (isR_nI r3) e) (fun e => by_if (fun e1 => ?_) (fun e1 => ?_))))
  · have h1 : ¬ k = -1 := fun z => by rw [z] at e1; exact absurd e1 (by decide)
    have h2 : k < 0 := Int32.lt_trans e1 (by decide)
    have := hQ w (mSc.rf B w)
    rw [if_neg h1, if_pos h2] at this
    exact this
  · rw [p4, nI_clamp (by omega), hV.lg, l5]
    refine ⟨t, by omega, t5, vp_in_nI (by omega) (by omega), by_if (fun e2 => ?_) (fun e2 => ?_)⟩
    · rintro w2 rfl
      have hS2 : mSc B w (wrI w B 7 (nI r)) := (mSc.rf B w).me _
      have hV2 := hV.of hS2.1
      have hm2 : mI (wrI w B 7 (nI r)) B 7 = nI r := by rw [mI_wrI, if_pos ⟨rfl, rfl⟩]
      have hQ := hQ _ hS2
      rw [mP_wrI, mP_wrI, p3, p4, hV2.lg, mL_wrI, mL_wrI, l4, l5]
      refine by_if (fun e3 => ⟨t, by omega, t5, vp_in_nI (by omega) (by omega), ?_⟩) (fun e3 => ?_)
      · rw [if_pos e3] at hQ; exact hQ
      · have h0 : ¬ k < 0 := by
          intro z
          have a1 : (-1 : Int32).toInt = -1 := by decide
          have a0 : (0 : Int32).toInt = 0 := by decide
          rw [Int32.lt_iff_toInt_lt] at z e1
          refine e3 (Int32.toInt_inj.mp ?_)
          omega
        rw [if_neg e3, if_neg h0] at hQ
        obtain ⟨j, hj, rfl⟩ := nI_of h0
        rw [nI_ltI hj (by omega)] at e2
        rw [if_neg (nI_ge (by omega) (by omega)), nI_clamp hj] at hQ
        rw [ix16, nI_clamp (by omega), hV2.od j e2]
        have hro := hV.ro j (by omega)
        refine ⟨t, by omega, t4, vp_in_nI (by omega) (by omega), s_Mo_pt 0 hV2 hm2 hro.1 (by omega) rfl ?_⟩
        rw [hro.2]
        exact hQ
    · have hQ := hQ w (mSc.rf B w)
      have e3 : ¬ k = -1 := by
        intro z
        rw [z] at e2
        apply e2
        rw [Int32.lt_iff_toInt_lt, nI_toInt (by omega)]
        have a1 : (-1 : Int32).toInt = -1 := by decide
        omega
      have e4 : ¬ k < 0 := by
        intro z
        exact e2 (Int32.lt_of_lt_of_le z (nI_pos' (by omega)))
      rw [if_neg e3, if_neg e4, if_pos (Int32.not_lt.mp e2)] at hQ
      exact hQ
theorem s_Mo_past (hV : MV w B r n h o pi ro) (hB : ∀ j, j < n → ∀ x, hb (o j) x → ∃ q, q < j ∧ ob (o q) 0 = x) (hP : PmOk n o pm) (hT : FtOk n o ft) (hQ : ∀ w', mSc B w w' → Q (bI (∃ i j, i < n ∧ j < n ∧ ob (o i) 0 = y ∧ ob (o j) 0 = z ∧ bitA (pm j) i)) w') : mC (d + 4) m_Mo_past [.ref B, .int (nI r), .int y, .int z] w Q := by
  have r3 := hV.r3
  have nh := hV.nh
  have h16 := hV.h16
  have hun := unq_sub hV.uq nh
  have t := hV.sh.2.1
  refine e_Mo_past (s_Mo_isReplica (bI_ite (fun e => absurd (isR_nI r3) e) (fun e => ⟨t, s_Mo_study hV hB hP hT (fun w1 a1 a2 a3 a4 => ?_)⟩)))
  have hQ := hQ w1 a1
  obtain ⟨b0, t1, -, ⟨-, p9, -⟩, -, -, -, -, -, -, -, ⟨t8, l8⟩, -⟩ := a2.sh
  refine ⟨t1, s_Mo_find1 a2 a3 (fun u hu => ⟨t1, s_Mo_find1 a2 a3 (fun u' hu' => ?_)⟩)⟩
  rcases hu with ⟨rfl, hu⟩ | ⟨i, i1, i2, rfl, i4⟩
  · rw [if_pos (by decide)]
    exact bI_Q0 hQ (fun ⟨i, j, g1, _, g3, _⟩ => hu i g1 g3)
  · rw [if_neg (nI_pos (by omega))]
    rcases hu' with ⟨rfl, hu'⟩ | ⟨j, j1, j2, rfl, j4⟩
    · rw [if_pos (by decide)]
      exact bI_Q0 hQ (fun ⟨i, j, _, g2, _, g4, _⟩ => hu' j g2 g4)
    · rw [if_neg (nI_pos (by omega)), p9, nI_clamp (by omega), l8]
      have hb' := (a4 j j1 j2).2 i i1
      refine ⟨t1, by omega, t8, vp_in_nI (by omega) (by omega), by_if (fun g => bI_Q1 hQ ⟨pi i, pi j, i2, j2, i4, j4, hb'.mp g⟩) (fun g => bI_Q0 hQ (fun ⟨i', j', g1, g2, g3, g4, g5⟩ => g (hb'.mpr ?_)))⟩
      rw [← hun i' (pi i) g1 i2 (g3.trans i4.symm), ← hun j' (pi j) g2 j2 (g4.trans j4.symm)]
      exact g5
theorem s_Mo_heads (hV : MV w B r n h o pi ro) (hQ : ∀ w', mSc B w w' → Q (nI (cntP n (fun p => hdP n o (ob (o p) 0)))) w') : mC (d + 3) m_Mo_heads [.ref B, .int (nI r)] w Q := by
  have r3 := hV.r3
  have nh := hV.nh
  have h16 := hV.h16
  have t := hV.sh.2.1
  refine e_Mo_heads (s_Mo_isReplica (bI_ite (fun e => absurd (isR_nI r3) e) (fun e => ⟨t, ?_⟩)))
  rintro w2 rfl
  have hS2 : mSc B w (wrI w B 7 (nI r)) := (mSc.rf B w).me _
  have hV2 := hV.of hS2.1
  have hm2 : mI (wrI w B 7 (nI r)) B 7 = nI r := by rw [mI_wrI, if_pos ⟨rfl, rfl⟩]
  have hQ := hQ _ hS2
  generalize wrI w B 7 (nI r) = w1 at hV2 hm2 hQ ⊢
  obtain ⟨b0, t1, ⟨-, p1, -⟩, -, -, ⟨t2, l2⟩, -⟩ := hV2.sh
  have hcnt : cntP h (fun j => pi j < n ∧ hdP n o (ob (o (pi j)) 0)) = cntP n (fun p => hdP n o (ob (o p) 0)) := by
    rw [cntP_bij (pi := pi) (m := h) (fun p => p < n ∧ hdP n o (ob (o p) 0)) (fun j hj => (hV.pi j hj).1) (fun i j hi hj => hV.inj hi hj), ← cntP_cut nh]
    exact cntP_eq (fun p hp => ⟨fun z => z.1, fun z => ⟨z, ro p, (hV.ro p hp).1, (hV.ro p hp).2⟩⟩)
  have loop : ∀ c j, j + c = h → mG (d + 3) m_Mo_heads (0, 0) 18 [vR B, vI (nI r), vI (nI (cntP j (fun j => pi j < n ∧ hdP n o (ob (o (pi j)) 0)))), vI (nI j)] [] w1 Q := by
    intro c
    induction c with
    | zero =>
      intro j hj
      have hj' : j = h := by omega
      subst hj'
      refine b_Mo_heads_18 ?_
      rw [p1, nI_clamp (by omega), hV2.hd, l2, if_pos (nI_le (by omega) (by omega)), hcnt]
      exact ⟨t1, by omega, t2, vp_in_nI (by omega) (by omega), hQ⟩
    | succ c ih =>
      intro j hj
      refine b_Mo_heads_18 ?_
      rw [p1, nI_clamp (by omega), hV2.hd, l2, if_neg (nI_ge (by omega) (by omega)), nI_1, nI_1, Int32.add_zero]
      have := ih (j + 1) (by omega)
      refine ⟨t1, by omega, t2, vp_in_nI (by omega) (by omega), s_Mo_isHead hV2 hm2 (by omega) (bI_ite (fun g => ?_) (fun g => ?_))⟩
      · rw [cntP_f (P := fun j => pi j < n ∧ hdP n o (ob (o (pi j)) 0)) g] at this; exact this
      · rw [cntP_t (P := fun j => pi j < n ∧ hdP n o (ob (o (pi j)) 0)) g] at this; exact this
  have h0 := loop h 0 (by omega)
  have e0 : cntP 0 (fun j => pi j < n ∧ hdP n o (ob (o (pi j)) 0)) = 0 := rfl
  rw [e0, nI_0] at h0
  exact h0
theorem s_Mo_value {v : Int32} (hV : MV w B r n h o pi ro) (hv : (v = -1 ∧ ∀ p, p < n → ob (o p) 0 ≠ y) ∨ (∃ p, p < n ∧ ob (o p) 0 = y ∧ v = ob (o p) 4)) (hQ : ∀ w', mSc B w w' → Q v w') : mC (d + 2) m_Mo_value [.ref B, .int (nI r), .int y] w Q := by
  have r3 := hV.r3
  have h16 := hV.h16
  have hun := unq_sub hV.uq hV.nh
  have t := hV.sh.2.1
  refine e_Mo_value (s_Mo_isReplica (bI_ite (fun e => absurd (isR_nI r3) e) (fun e => ⟨t, ?_⟩)))
  rintro w2 rfl
  have hS2 : mSc B w (wrI w B 7 (nI r)) := (mSc.rf B w).me _
  have hV2 := hV.of hS2.1
  have hm2 : mI (wrI w B 7 (nI r)) B 7 = nI r := by rw [mI_wrI, if_pos ⟨rfl, rfl⟩]
  have hQ := hQ _ hS2
  refine ⟨t, s_Mo_find1 hV2 hm2 (fun u hu => ?_)⟩
  rcases hu with ⟨rfl, hu⟩ | ⟨i, i1, i2, rfl, i4⟩
  · rw [if_neg (by decide)]
    rcases hv with ⟨rfl, -⟩ | ⟨p, q1, q2, -⟩
    · exact hQ
    · exact absurd q2 (hu p q1)
  · rw [if_pos (nI_pos' (by omega))]
    refine ⟨t, s_Mo_pt 4 hV2 hm2 i1 (by omega) rfl ?_⟩
    rcases hv with ⟨-, hv⟩ | ⟨p, q1, q2, q3⟩
    · exact absurd i4 (hv _ i2)
    · rw [hun p (pi i) q1 i2 (q2.trans i4.symm)] at q3
      rw [← q3]
      exact hQ
theorem s_Mo_isKind (hV : MV w B r n h o pi ro) (hm : mI w B 7 = nI r) (hQ : Q (bI (kdP n o x k)) w) : mC (d + 2) m_Mo_isKind [.ref B, .int x, .int k] w Q := by
  have h16 := hV.h16
  have hun := unq_sub hV.uq hV.nh
  have t := hV.sh.2.1
  refine e_Mo_isKind ⟨t, s_Mo_find1 hV hm (fun u hu => ?_)⟩
  rcases hu with ⟨rfl, hu⟩ | ⟨i, i1, i2, rfl, i4⟩
  · rw [if_pos (by decide)]
    exact bI_Q0 hQ (fun ⟨p, q1, q2, _⟩ => hu p q1 q2)
  · rw [if_neg (nI_pos (by omega))]
    refine ⟨t, s_Mo_pt 1 hV hm i1 (by omega) rfl (by_if (fun g => bI_Q1 hQ ⟨pi i, i2, i4, g⟩) (fun g => bI_Q0 hQ (fun ⟨p, q1, q2, q3⟩ => g ?_)))⟩
    rw [← hun p (pi i) q1 i2 (q2.trans i4.symm)]
    exact q3
/-! two replicas side by side -/
theorem s_Mo_alike {r' n' h' i j : Nat} {o' : Nat → mO} {pi' ro' : Nat → Nat} (hV : MV w B r n h o pi ro) (hV' : MV w B r' n' h' o' pi' ro') (hi : i < h) (hj : j < h') (hQ : Q (bI (o' (pi' j) = o (pi i))) w) : mC d m_Mo_alike [.ref B, .int (nI (16 * r + i)), .int (nI (16 * r' + j))] w Q := by
  have r3 := hV.r3
  have r3' := hV'.r3
  have h16 := hV.h16
  have h16' := hV'.h16
  obtain ⟨l1, l2, l3⟩ := hV.l6 hi
  obtain ⟨l1', l2', l3'⟩ := hV'.l6 hj
  obtain ⟨b0, t, ⟨p0, -⟩, -, ⟨t1, m1⟩, -⟩ := hV.sh
  have e12 : ∀ a f : Nat, (12 : Int32) * nI a + nI f = nI (12 * a + f) := by
    intro a f
    have e : (12 : Int32) = nI 12 := rfl
    rw [e, pk_mul, nI_add]
  have e5 : (12 : Int32) * nI (16 * r + i) + (5 : Int32) = nI (12 * (16 * r + i) + 5) := e12 _ 5
  have e6 : (6 : Int32) + nI ((o (pi i)).length - 6) = nI (o (pi i)).length := by
    have := nI_add 6 ((o (pi i)).length - 6)
    rw [show 6 + ((o (pi i)).length - 6) = (o (pi i)).length by omega] at this
    exact this
  have loop : ∀ c k (P : Prop), k + c = (o (pi i)).length → (P ↔ ∀ q, q < k → ob (o' (pi' j)) q = ob (o (pi i)) q) → mG d m_Mo_alike (0, 0) 5 [vR B, vI (nI (16 * r + i)), vI (nI (16 * r' + j)), vI (bI P), vI (nI k)] [] w Q := by
    intro c
    induction c with
    | zero =>
      intro k P hk hP
      refine b_Mo_alike_5 ?_
      rw [p0, e5, nI_clamp (by omega), hV.bt i hi 5 (by omega), l3, e6, if_pos (nI_le (by omega) (by omega)), m1]
      refine ⟨t, by omega, t1, vp_in_nI (by omega) (by omega), bI_and _, ?_⟩
      rw [show bI P = bI (o' (pi' j) = o (pi i)) from bI_iff ?_]
      · exact hQ
      · rw [hP]
        refine ⟨fun g => ob_ext ?_ (fun q hq => ?_), fun g q _ => by rw [g]⟩
        · have := g 5 (by omega)
          rw [l3, l3', nI_eq (by omega) (by omega)] at this
          omega
        · have := g 5 (by omega)
          rw [l3, l3', nI_eq (by omega) (by omega)] at this
          exact g q (by omega)
    | succ c ih =>
      intro k P hk hP
      refine b_Mo_alike_5 ?_
      rw [p0, e5, nI_clamp (by omega), hV.bt i hi 5 (by omega), l3, e6, if_neg (nI_ge (by omega) (by omega)), m1, nI_1, e12, e12, nI_clamp (by omega), nI_clamp (by omega), hV.bt i hi k (by omega)]
      refine ⟨t, by omega, t1, vp_in_nI (by omega) (by omega), bI_ite (fun g => ⟨bI_and _, ?_⟩) (fun g => ⟨vp_in_nI (by omega) (by omega), vp_in_nI (by omega) (by omega), ?_⟩)⟩
      · rw [show bI P = bI (o' (pi' j) = o (pi i)) from bI_iff ⟨fun z => absurd z g, fun z => absurd (hP.mpr (fun q _ => by rw [z])) g⟩]
        exact hQ
      · have hk' : k < (o' (pi' j)).length := by
          by_cases g5 : k ≤ 5
          · omega
          · have := hP.mp g 5 (by omega)
            rw [l3, l3', nI_eq (by omega) (by omega)] at this
            omega
        rw [hV'.bt j hj k hk']
        refine by_if (fun g2 => ?_) (fun g2 => ?_)
        · have := ih (k + 1) True (by omega) ⟨fun _ q hq => (by
            by_cases e : q = k
            · rw [e]; exact g2.symm
            · exact hP.mp g q (by omega)), fun _ => trivial⟩
          rw [bI_t trivial] at this
          exact this
        · have := ih (k + 1) False (by omega) ⟨fun z => z.elim, fun z => g2 (z k (by omega)).symm⟩
          rw [bI_f not_false] at this
          exact this
  have h0 := loop (o (pi i)).length 0 True (by omega) ⟨fun _ q hq => by omega, fun _ => trivial⟩
  rw [nI_0, bI_t trivial] at h0
  exact e_Mo_alike h0
theorem s_Mo_level {r' n' h' : Nat} {o' : Nat → mO} {pi' ro' : Nat → Nat} (hV : MV w B r n h o pi ro) (hV' : MV w B r' n' h' o' pi' ro') (hQ : Q (bI (n = n' ∧ ∀ p, p < n → ∃ p', p' < n' ∧ o' p' = o p)) w) : mC (d + 1) m_Mo_level [.ref B, .int (nI r), .int (nI r')] w Q := by
  have r3 := hV.r3
  have r3' := hV'.r3
  have h16 := hV.h16
  have h16' := hV'.h16
  have nh := hV.nh
  have nh' := hV'.nh
  obtain ⟨b0, t, ⟨-, p1, p2, -, p4, -⟩, -, -, ⟨t2, l2⟩, ⟨t3, l3⟩, -, ⟨t5, l5⟩, -⟩ := hV.sh
  have outer : ∀ c i (P : Prop), i + c = h → (P ↔ n = n' ∧ ∀ q, q < i → pi q < n → ∃ p', p' < n' ∧ o' p' = o (pi q)) → mG (d + 1) m_Mo_level (0, 0) 40 [vR B, vI (nI r), vI (nI r'), vI (bI P), vI (nI i), vN, vN] [] w Q := by
    intro c
    induction c with
    | zero =>
      intro i P hi hP
      refine b_Mo_level_40 ?_
      rw [p1, nI_clamp (by omega), hV.hd, l2, if_pos (nI_le (by omega) (by omega))]
      refine ⟨t, by omega, t2, vp_in_nI (by omega) (by omega), bI_and _, ?_⟩
      rw [show bI P = bI (n = n' ∧ ∀ p, p < n → ∃ p', p' < n' ∧ o' p' = o p) from bI_iff ?_]
      · exact hQ
      · rw [hP]
        refine and_congr_right (fun _ => ⟨fun g p hp => ?_, fun g q _ hq2 => g _ hq2⟩)
        have := g (ro p) (by have := (hV.ro p (by omega)).1; omega) (by rw [(hV.ro p (by omega)).2]; exact hp)
        rw [(hV.ro p (by omega)).2] at this
        exact this
    | succ c ih =>
      intro i P hi hP
      refine b_Mo_level_40 ?_
      rw [p1, p2, nI_clamp (by omega), hV.hd, l2, l3, if_neg (nI_ge (by omega) (by omega)), nI_1, ix16, nI_clamp (by omega), hV.ap i (by omega)]
      refine ⟨t, by omega, t2, vp_in_nI (by omega) (by omega), bI_ite (fun g => ⟨bI_and _, ?_⟩) (fun g => ⟨by omega, t3, vp_in_nI (by omega) (by omega), bI_ite (fun g2 => ?_) (fun g2 => ?_)⟩)⟩
      · rw [show bI P = bI (n = n' ∧ ∀ p, p < n → ∃ p', p' < n' ∧ o' p' = o p) from bI_iff ⟨fun z => absurd z g, fun z => absurd (hP.mpr ⟨z.1, fun q _ hq2 => z.2 _ hq2⟩) g⟩]
        exact hQ
      · refine ih (i + 1) P (by omega) (hP.trans (and_congr_right (fun _ => ⟨fun z q hq hq2 => ?_, fun z q hq hq2 => z q (by omega) hq2⟩)))
        by_cases e : q = i
        · rw [e] at hq2; exact absurd hq2 g2
        · exact z q (by omega) hq2
      · have inner : ∀ c2 j (R : Prop), j + c2 = h' → (R ↔ ∃ q, q < j ∧ pi' q < n' ∧ o' (pi' q) = o (pi i)) → mG (d + 1) m_Mo_level (0, 0) 76 [vR B, vI (nI r), vI (nI r'), vN, vI (nI i), vI (bI R), vI (nI j)] [] w Q := by
          intro c2
          induction c2 with
          | zero =>
            intro j R hj hR
            refine b_Mo_level_76 ?_
            rw [p1, nI_clamp (by omega), hV'.hd, l2, if_pos (nI_le (by omega) (by omega)), nI_1]
            refine ⟨t, by omega, t2, vp_in_nI (by omega) (by omega), ih (i + 1) R (by omega) ?_⟩
            have hP' := hP.mp g
            rw [hR]
            constructor
            · rintro ⟨q, q1, q2, q3⟩
              refine ⟨hP'.1, fun a ha ha2 => ?_⟩
              by_cases e : a = i
              · rw [e]; exact ⟨pi' q, q2, q3⟩
              · exact hP'.2 a (by omega) ha2
            · rintro ⟨-, z⟩
              obtain ⟨p', q1, q2⟩ := z i (by omega) g2
              have hro := hV'.ro p' (by omega)
              exact ⟨ro' p', by omega, by rw [hro.2]; exact q1, by rw [hro.2]; exact q2⟩
          | succ c2 ih2 =>
            intro j R hj hR
            refine b_Mo_level_76 ?_
            rw [p1, p2, nI_clamp (by omega), hV'.hd, l2, l3, if_neg (nI_ge (by omega) (by omega)), nI_1 j, ix16, ix16, nI_clamp (by omega), hV'.ap j (by omega)]
            have step : ∀ R' : Prop, (R' ↔ R ∨ (pi' j < n' ∧ o' (pi' j) = o (pi i))) → mG (d + 1) m_Mo_level (0, 0) 76 [vR B, vI (nI r), vI (nI r'), vN, vI (nI i), vI (bI R'), vI (nI (j + 1))] [] w Q := by
              intro R' hR'
              refine ih2 (j + 1) R' (by omega) ?_
              rw [hR', hR]
              constructor
              · rintro (⟨q, q1, q2⟩ | z)
                · exact ⟨q, by omega, q2⟩
                · exact ⟨j, by omega, z⟩
              · rintro ⟨q, q1, q2⟩
                by_cases e : q = j
                · rw [e] at q2; exact Or.inr q2
                · exact Or.inl ⟨q, by omega, q2⟩
            have stepT : (R ∨ (pi' j < n' ∧ o' (pi' j) = o (pi i))) → mG (d + 1) m_Mo_level (0, 0) 76 [vR B, vI (nI r), vI (nI r'), vN, vI (nI i), vI (1 : Int32), vI (nI (j + 1))] [] w Q := by
              intro z
              have := step True ⟨fun _ => z, fun _ => trivial⟩
              rw [bI_t trivial] at this
              exact this
            have stepF : ¬ (R ∨ (pi' j < n' ∧ o' (pi' j) = o (pi i))) → mG (d + 1) m_Mo_level (0, 0) 76 [vR B, vI (nI r), vI (nI r'), vN, vI (nI i), vI (0 : Int32), vI (nI (j + 1))] [] w Q := by
              intro z
              have := step False ⟨fun y => y.elim, z⟩
              rw [bI_f not_false] at this
              exact this
            exact ⟨t, by omega, t2, vp_in_nI (by omega) (by omega), bI_ite (fun q => ⟨by omega, t3, vp_in_nI (by omega) (by omega), bI_ite (fun q2 => stepF (fun z => z.elim q (fun z => q2 z.1))) (fun q2 => s_Mo_alike hV hV' (by omega) (by omega) (bI_ite (fun q3 => stepF (fun z => z.elim q (fun z => q3 z.2))) (fun q3 => stepT (Or.inr ⟨q2, q3⟩))))⟩) (fun q => stepT (Or.inl q))⟩
        have i0 := inner h' 0 False (by omega) ⟨fun z => z.elim, fun ⟨q, z, _⟩ => by omega⟩
        rw [bI_f not_false, nI_0] at i0
        exact i0
  refine e_Mo_level (s_Mo_isReplica (bI_ite (fun e => absurd (isR_nI r3) e) (fun e => s_Mo_isReplica (bI_ite (fun e => absurd (isR_nI r3') e) (fun e => ?_)))))
  rw [p4, nI_clamp (by omega), nI_clamp (by omega), hV.lg, hV'.lg, l5]
  refine ⟨t, by omega, t5, vp_in_nI (by omega) (by omega), vp_in_nI (by omega) (by omega), by_if (fun g => ?_) (fun g => ?_)⟩
  · rw [nI_eq (by omega) (by omega)] at g
    have := outer h 0 True (by omega) ⟨fun _ => ⟨g, fun q hq => by omega⟩, fun _ => trivial⟩
    rw [bI_t trivial, nI_0] at this
    exact this
  · have := outer h 0 False (by omega) ⟨fun z => z.elim, fun z => g (by rw [z.1])⟩
    rw [bI_f not_false, nI_0] at this
    exact this
end SMQ
