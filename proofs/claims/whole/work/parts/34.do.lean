/-! the document: where it lies, what it holds; the calls that read -/
def rp (b r : Nat) : Nat := b + 2 + 37 * r
def DSh (w : mW) (b : Nat) : Prop := b ≠ 0 ∧ mT w b = 1 ∧ (mP w b 0 = b + 1 ∧ mP w b 1 = b + 113 ∧ mP w b 2 = b + 116 ∧ mP w b 3 = b + 118) ∧ (mT w (b + 1) = 23 ∧ mL w (b + 1) = 3 ∧ ∀ r, r < 3 → mP w (b + 1) r = rp b r) ∧ CoSh w (b + 113) ∧ WSh w (b + 116) ∧ OSh w (b + 118)
/-- a replica's state: applied, held, operations, pasts, fits, the order by id -/
abbrev mS : Type := Nat × Nat × (Nat → mO) × (Nat → Int32) × (Nat → Prop) × (Nat → Nat)
def CS (w : mW) (A : Nat) (num : Int32) (S : mS) : Prop := CSt w A num S.1 S.2.1 S.2.2.1 S.2.2.2.1 S.2.2.2.2.1 S.2.2.2.2.2
/-- a held operation is as it should be -/
def okO (c : mO) : Prop := (6 ≤ c.length ∧ c.length ≤ 12 ∧ ob c 5 = nI (c.length - 6)) ∧ isIdP (ob c 0) ∧ (∀ k, k < c.length - 6 → isIdP (ob c (6 + k))) ∧ (∀ i j, i < j → j < c.length - 6 → ob c (6 + i) < ob c (6 + j)) ∧ gapP c ∧ behP c (ob c 0) ∧ spP (ob c 1) (ob c 2) (ob c 3) (ob c 4)
/-- what holds of a replica's operations -/
def MI (num : Int32) (n h : Nat) (o : Nat → mO) : Prop := (∀ p, p < h → okO (o p)) ∧ (∀ j, j < n → ∀ x, hb (o j) x → ∃ p, p < j ∧ ob (o p) 0 = x) ∧ ∀ p, n ≤ p → p < h → ob (o p) 0 &&& 3 ≠ num
def DR (w : mW) (b : Nat) (K : Nat → mS) (l : List Int32) : Prop := DSh w b ∧ (∀ r, r < 3 → CS w (rp b r) (nI r) (K r) ∧ MI (nI r) (K r).1 (K r).2.1 (K r).2.2.1) ∧ WiAt w (b + 116) l
theorem isR_of {x : Int32} (h : isR x) : ∃ r, r < 3 ∧ x = nI r := by
  obtain ⟨j, hj, rfl⟩ := nI_of h.1
  have h2 : ¬ nI 3 ≤ nI j := h.2
  rw [nI_leI (by omega) hj] at h2
  exact ⟨j, by omega, rfl⟩
theorem isR_nI {r : Nat} (h : r < 3) : isR (nI r) := ⟨nI_pos (by omega), nI_ge (a := r) (b := 3) h (by omega)⟩
theorem isIdP_ne0 {x : Int32} (h : isIdP x) : x ≠ 0 := by
  intro e
  rw [e] at h
  exact absurd h.1 (by decide)
theorem MI_late {num : Int32} {n h : Nat} {o : Nat → mO} (hM : MI num n h o) (hnh : n ≤ h) (hu : unq h o) : ∀ p e, p < n → e < n → ob (o e) 2 = ob (o p) 0 → p < e := by
  intro p e hp he ht
  have hid : ob (o p) 0 ≠ 0 := isIdP_ne0 (hM.1 p (by omega)).2.1
  have hg := (hM.1 e (by omega)).2.2.2.2.1
  rcases hg.1 with z | z
  · exact absurd (ht.symm.trans z) hid
  · obtain ⟨p', h1, h2⟩ := hM.2.1 e he _ z
    have := hu p' p (by omega) (by omega) (h2.trans ht)
    omega
/-- the k-th of the log -/
def lgV (S : mS) (k : Int32) : Int32 := if k = -1 then nI S.1 else if k < 0 then -1 else if nI S.1 ≤ k then -1 else ob (S.2.2.1 k.toNatClampNeg) 0
section SDO
variable {d : Nat} {w : mW} {Q : Int32 → mW → Prop} {b : Nat} {K : Nat → mS} {l : List Int32} {x y z k m : Int32}
theorem DR.sh (hD : DR w b K l) {r : Nat} (hr : r < 3) : mT w b = 1 ∧ mP w b 0 = b + 1 ∧ mT w (b + 1) = 23 ∧ vp_in (nI r) (mL w (b + 1)) ∧ mP w (b + 1) r = rp b r ∧ rp b r ≠ 0 ∧ mT w (rp b r) = 4 := by
  obtain ⟨⟨b0, t, ⟨p0, -⟩, ⟨t1, l1, h1⟩, -⟩, hC, -⟩ := hD
  exact ⟨t, p0, t1, by rw [l1]; exact vp_in_nI hr (by omega), h1 r hr, by unfold rp; omega, (hC r hr).1.1.1.2.1⟩
theorem s_Do_held (hD : DR w b K l) (hN : ¬ isR x → Q (-1) w) (hQ : ∀ r, r < 3 → x = nI r → Q (nI (K r).2.1) w) : mC (d + 1) m_Do_held [.ref b, .int x] w Q := by
  refine e_Do_held (s_Do_isReplica (bI_ite hN (fun e => ?_)))
  obtain ⟨r, hr, rfl⟩ := isR_of e
  obtain ⟨t, p0, t1, v1, h1, h2, h3⟩ := hD.sh hr
  rw [p0, nI_clamp (by omega), h1, ((hD.2.1 r hr).1.1).2.2.2.1.2.2]
  exact ⟨t, by omega, t1, v1, h2, h3, hQ r hr rfl⟩
theorem s_Do_heads (hD : DR w b K l) (hN : ¬ isR x → Q (-1) w) (hQ : ∀ r, r < 3 → x = nI r → Q (nI (cntP (K r).1 (fun p => hdP (K r).1 (K r).2.2.1 (ob ((K r).2.2.1 p) 0)))) w) : mC (d + 3) m_Do_heads [.ref b, .int x] w Q := by
  refine e_Do_heads (s_Do_isReplica (bI_ite hN (fun e => ?_)))
  obtain ⟨r, hr, rfl⟩ := isR_of e
  obtain ⟨t, p0, t1, v1, h1, h2, h3⟩ := hD.sh hr
  rw [p0, nI_clamp (by omega), h1]
  exact ⟨t, by omega, t1, v1, h2, h3, s_Re_countHeads (hD.2.1 r hr).1.1 (hQ r hr rfl)⟩
theorem s_Do_log (hD : DR w b K l) (hN : ¬ isR x → Q (-1) w) (hQ : ∀ r, r < 3 → x = nI r → Q (lgV (K r) k) w) : mC (d + 1) m_Do_log [.ref b, .int x, .int k] w Q := by
  refine e_Do_log (s_Do_isReplica (bI_ite hN (fun e => ?_)))
  obtain ⟨r, hr, rfl⟩ := isR_of e
  obtain ⟨t, p0, t1, v1, h1, h2, h3⟩ := hD.sh hr
  have hR := (hD.2.1 r hr).1.1
  have hQ := hQ r hr rfl
  have hR0 := hR
  obtain ⟨⟨a0, tA, ⟨p1, -, -, -⟩, ⟨t11, l11⟩, -⟩, -, ⟨hn, hh⟩, ⟨-, i5, -⟩, hop, -⟩ := hR
  unfold lgV at hQ
  rw [p0, nI_clamp (by omega), h1, i5]
  refine ⟨t, by omega, t1, v1, h2, by_if (fun e => ⟨h3, ?_⟩) (fun e => by_if (fun e2 => ?_) (fun e2 => ⟨h3, by_if (fun e3 => ?_) (fun e3 => ?_)⟩))⟩
  · rw [if_pos e] at hQ; exact hQ
  · rw [if_neg e, if_pos e2] at hQ; exact hQ
  · rw [if_neg e, if_neg e2, if_pos e3] at hQ; exact hQ
  · rw [if_neg e, if_neg e2, if_neg e3] at hQ
    obtain ⟨j, hj, rfl⟩ := nI_of e2
    rw [nI_leI (by omega) hj] at e3
    have hrow := hR0.row (i := j) (by omega)
    rw [nI_clamp hj] at hQ ⊢
    rw [p1, (hop j (by omega)).2.2.1.1]
    exact ⟨by omega, t11, by rw [l11]; exact vp_in_nI (by omega) (by omega), hrow.1, hrow.2.1, hQ⟩
theorem s_Do_value (hD : DR w b K l) (hN : ¬ isR x → Q (-1) w) (hQ : ∀ r, r < 3 → x = nI r → ∀ v, (v = -1 ∧ ∀ p, p < (K r).1 → ob ((K r).2.2.1 p) 0 ≠ y) ∨ (∃ p, p < (K r).1 ∧ ob ((K r).2.2.1 p) 0 = y ∧ v = ob ((K r).2.2.1 p) 4) → Q v w) : mC (d + 1) m_Do_value [.ref b, .int x, .int y] w Q := by
  refine e_Do_value (s_Do_isReplica (bI_ite hN (fun e => ?_)))
  obtain ⟨r, hr, rfl⟩ := isR_of e
  obtain ⟨t, p0, t1, v1, h1, h2, h3⟩ := hD.sh hr
  have hR := (hD.2.1 r hr).1.1
  have hQ := hQ r hr rfl
  have hR0 := hR
  obtain ⟨⟨a0, tA, ⟨p1, -, -, -⟩, ⟨t11, l11⟩, -⟩, -, ⟨hn, hh⟩, ⟨-, i5, -⟩, hop, -⟩ := hR
  rw [p0, nI_clamp (by omega), h1, i5]
  refine ⟨t, by omega, t1, v1, h2, h3, s_Re_find hR0 hn (fun v hv => ?_)⟩
  rcases hv with ⟨rfl, hv⟩ | ⟨p, hp, rfl, hv⟩
  · rw [if_pos rfl]
    exact hQ _ (Or.inl ⟨rfl, hv⟩)
  · have hrow := hR0.row (i := p) (by omega)
    rw [if_neg (nI_m1 (by omega)), p0, h1, p1, nI_clamp (by omega), (hop p (by omega)).2.2.1.2.2.2.2]
    exact ⟨t, by omega, t1, v1, h2, h3, by omega, t11, by rw [l11]; exact vp_in_nI (by omega) (by omega), hrow.1, hrow.2.1, hQ _ (Or.inr ⟨p, hp, hv, rfl⟩)⟩
theorem s_Do_past (hD : DR w b K l) (hN : ¬ isR x → Q 0 w) (hQ : ∀ r, r < 3 → x = nI r → Q (bI (∃ i j, i < (K r).1 ∧ j < (K r).1 ∧ ob ((K r).2.2.1 i) 0 = y ∧ ob ((K r).2.2.1 j) 0 = z ∧ bitA ((K r).2.2.2.1 j) i)) w) : mC (d + 1) m_Do_past [.ref b, .int x, .int y, .int z] w Q := by
  refine e_Do_past (s_Do_isReplica (bI_ite hN (fun e => ?_)))
  obtain ⟨r, hr, rfl⟩ := isR_of e
  obtain ⟨t, p0, t1, v1, h1, h2, h3⟩ := hD.sh hr
  have hC := (hD.2.1 r hr).1
  have hR := hC.1
  have hnh := hR.2.2.1
  have hu := unq_sub hC.2.2.2.2 hnh.1
  have hQ := hQ r hr rfl
  have i5 := hR.2.2.2.1.2.1
  rw [p0, nI_clamp (by omega), h1, i5]
  refine ⟨t, by omega, t1, v1, h2, h3, s_Re_find hR hnh.1 (fun v hv => ⟨h3, ?_⟩)⟩
  rw [i5]
  refine s_Re_find hR hnh.1 (fun v' hv' => ?_)
  rcases hv with ⟨rfl, hv⟩ | ⟨i, hi, rfl, hv⟩
  · rw [if_pos rfl]
    exact bI_Q0 hQ (fun ⟨i, j, g1, g2, g3, _⟩ => hv i g1 g3)
  · rw [if_neg (nI_m1 (by omega))]
    rcases hv' with ⟨rfl, hv'⟩ | ⟨j, hj, rfl, hv'⟩
    · rw [if_pos rfl]
      exact bI_Q0 hQ (fun ⟨i, j, g1, g2, g3, g4, _⟩ => hv' j g2 g4)
    · rw [if_neg (nI_m1 (by omega))]
      refine ⟨h3, s_Re_hasInPast hR hj (bI_ite (fun e2 => bI_Q0 hQ (fun ⟨i', j', g1, g2, g3, g4, g5⟩ => ?_)) (fun e2 => bI_Q1 hQ ⟨i, j, hi, hj, hv, hv', e2⟩))⟩
      have a1 := hu i' i g1 hi (g3.trans hv.symm)
      have a2 := hu j' j g2 hj (g4.trans hv'.symm)
      rw [a1, a2] at g5
      exact e2 g5
theorem s_Do_entry (hD : DR w b K l) (hN : ¬ isR x → Q (-1) w) (hQ : ∀ r, r < 3 → x = nI r → (¬ ((m = 0 ∨ kdP (K r).1 (K r).2.2.1 m 1) ∧ isKy y) → Q (-1) w) ∧ (((m = 0 ∨ kdP (K r).1 (K r).2.2.1 m 1) ∧ isKy y) → Q (lgt (eL (fun i => eaP (K r).1 (K r).2.2.1 (K r).2.2.2.1 (K r).2.2.2.2.1 m y ((K r).2.2.2.2.2 i)) (fun i => ob ((K r).2.2.1 ((K r).2.2.2.2.2 i)) 0) (K r).1) k) w)) : mC (d + 5) m_Do_entry [.ref b, .int x, .int m, .int y, .int k] w Q := by
  refine e_Do_entry (s_Do_isReplica (bI_ite hN (fun e => ?_)))
  obtain ⟨r, hr, rfl⟩ := isR_of e
  obtain ⟨t, p0, t1, v1, h1, h2, h3⟩ := hD.sh hr
  have hC := (hD.2.1 r hr).1
  have hR := hC.1
  have hnh := hR.2.2.1
  have hu := unq_sub hC.2.2.2.2 hnh.1
  obtain ⟨q1, q2⟩ := hQ r hr rfl
  have hco := hD.1.2.2.2.2.1
  have pc := hD.1.2.2.1.2.1
  rw [p0, nI_clamp (by omega), h1]
  refine ⟨t, by omega, t1, v1, h2, h3, s_Re_isMap hR hu (bI_ite (fun e2 => q1 (fun z => e2 z.1)) (fun e2 => s_Do_isKey (bI_ite (fun e3 => q1 (fun z => e3 z.2)) (fun e3 => ?_))))⟩
  rw [p0, pc, h1]
  exact ⟨t, by omega, by omega, t1, v1, h2, hco.2.1, s_Co_findEntry hco hR (q2 ⟨e2, e3⟩)⟩
theorem s_Do_depth (hD : DR w b K l) (hN : ¬ isR x → Q (-1) w) (hQ : ∀ r, r < 3 → x = nI r → ∀ v, dpR (K r).1 (K r).2.2.1 (K r).2.2.2.1 (K r).2.2.2.2.1 17 0 y v → Q v w) : mC (d + 5) m_Do_depth [.ref b, .int x, .int y] w Q := by
  refine e_Do_depth (s_Do_isReplica (bI_ite hN (fun e => ?_)))
  obtain ⟨r, hr, rfl⟩ := isR_of e
  obtain ⟨t, p0, t1, v1, h1, h2, h3⟩ := hD.sh hr
  have hC := (hD.2.1 r hr).1
  have hR := hC.1
  have hnh := hR.2.2.1
  have hu := unq_sub hC.2.2.2.2 hnh.1
  have hco := hD.1.2.2.2.2.1
  have pc := hD.1.2.2.1.2.1
  rw [p0, pc, nI_clamp (by omega), h1]
  exact ⟨t, by omega, by omega, t1, v1, h2, hco.2.1, s_Co_countLevels hco hR hu (hQ r hr rfl)⟩
theorem s_Do_level (hD : DR w b K l) (hN : ¬ (isR x ∧ isR y) → Q 0 w) (hQ : ∀ r s, r < 3 → s < 3 → x = nI r → y = nI s → Q (bI ((K r).1 = (K s).1 ∧ ∀ p, p < (K r).1 → ∃ p', p' < (K s).1 ∧ (K s).2.2.1 p' = (K r).2.2.1 p)) w) : mC (d + 2) m_Do_level [.ref b, .int x, .int y] w Q := by
  refine e_Do_level (s_Do_isReplica (bI_ite (fun e => hN (fun z => e z.1)) (fun e => s_Do_isReplica (bI_ite (fun e2 => hN (fun z => e2 z.2)) (fun e2 => ?_)))))
  obtain ⟨r, hr, rfl⟩ := isR_of e
  obtain ⟨s, hs, rfl⟩ := isR_of e2
  obtain ⟨t, p0, t1, v1, h1, h2, h3⟩ := hD.sh hr
  obtain ⟨-, -, -, v1', h1', h2', h3'⟩ := hD.sh hs
  have hC := (hD.2.1 r hr).1
  have hC' := (hD.2.1 s hs).1
  have hnh := hC.1.2.2.1
  have hnh' := hC'.1.2.2.1
  rw [p0, nI_clamp (by omega), nI_clamp (by omega), h1, h1']
  refine ⟨t, by omega, t1, v1, h2, v1', h2', h3, s_Re_hasAppliedSameAs hC.1 hC'.1 (unq_sub hC'.2.2.2.2 hnh'.1) (fun p hp => ((hD.2.1 r hr).2.1 p (by omega)).1.2.2) (fun p hp => ((hD.2.1 s hs).2.1 p (by omega)).1.2.2) ?_⟩
  exact bI_ite (fun e => bI_Q0 (hQ r s hr hs rfl rfl) e) (fun e => bI_Q1 (hQ r s hr hs rfl rfl) e)
/-- the cells of the document -/
def inD (b : Nat) (q : Nat) : Prop := b ≤ q ∧ q < b + 120
theorem OSh.ofY {X : Nat → Prop} {w w' : mW} {q : Nat} (h : mFx X w w') (hP : mP w' q = mP w q) (hS : OSh w q) : OSh w' q := by
  obtain ⟨h1, h2, h3, h4, h5⟩ := hS
  exact ⟨h1, by rw [h.T]; exact h2, by rw [hP]; exact h3, by rw [h.T]; exact h4, by rw [h.L]; exact h5⟩
/-- pointers outside the replicas stay -/
theorem DSh.ofX {X : Nat → Prop} {w' : mW} (hS : DSh w b) (h : mFx X w w') (hP : ∀ q, (q = b ∨ q = b + 1 ∨ (b + 113 ≤ q ∧ q < b + 120)) → mP w' q = mP w q) : DSh w' b := by
  obtain ⟨h1, h2, ⟨h3, h4, h5, h6⟩, ⟨h7, h8, h9⟩, ⟨c1, c2, ⟨c3, c4⟩, ⟨c5, c6⟩, c7, c8⟩, ⟨d1, d2, d3, d4, d5⟩, ⟨e1, e2, e3, e4, e5⟩⟩ := hS
  have pb := hP b (by omega)
  have pb1 := hP (b + 1) (by omega)
  have pc := hP (b + 113) (by omega)
  have pw := hP (b + 116) (by omega)
  have pd := hP (b + 118) (by omega)
  refine ⟨h1, by rw [h.T]; exact h2, ⟨by rw [pb]; exact h3, by rw [pb]; exact h4, by rw [pb]; exact h5, by rw [pb]; exact h6⟩, ⟨by rw [h.T]; exact h7, by rw [h.L]; exact h8, fun r hr => by rw [pb1]; exact h9 r hr⟩, ⟨c1, by rw [h.T]; exact c2, ⟨by rw [pc]; exact c3, by rw [pc]; exact c4⟩, ⟨by rw [h.T]; exact c5, by rw [h.L]; exact c6⟩, by rw [h.T]; exact c7, by rw [h.L]; exact c8⟩, ⟨d1, by rw [h.T]; exact d2, by rw [pw]; exact d3, by rw [h.T]; exact d4, by rw [h.L]; exact d5⟩, ⟨e1, by rw [h.T]; exact e2, by rw [pd]; exact e3, by rw [h.T]; exact e4, by rw [h.L]; exact e5⟩⟩
theorem DSh.of {w' : mW} (hS : DSh w b) (h : mSh w w') : DSh w' b := hS.ofX (X := fun _ => True) ⟨⟨h.1, h.2.1, h.Z⟩, fun a ha => absurd trivial ha⟩ (fun q _ => by funext k; exact h.P q k)
/-- a call that writes ints outside the replicas and the wire -/
theorem DR.ofI {X : Nat → Prop} {w' : mW} (hD : DR w b K l) (h : mFr X w w') (hX : ∀ q, X q → q = b + 114 ∨ q = b + 115 ∨ q = b + 118 ∨ q = b + 119) : DR w' b K l := by
  refine ⟨hD.1.of h.1, fun r hr => ⟨CSt.ofX (hD.2.1 r hr).1 h.x (fun z h1 h2 h3 => ?_), (hD.2.1 r hr).2⟩, hD.2.2.of (h.2 _ (fun z => ?_)) (h.2 _ (fun z => ?_))⟩
  · have := hX z h3
    unfold rp at h1 h2
    omega
  · have := hX _ z; omega
  · have := hX _ z; omega
theorem s_Do_element (hD : DR w b K l) (hN : ¬ isR x → Q (-1) w) (hQ : ∀ r, r < 3 → x = nI r → (¬ kdP (K r).1 (K r).2.2.1 m 2 → Q (-1) w) ∧ ∀ L w', arR (K r).2.2.1 (K r).2.2.2.2.1 (K r).2.2.2.2.2 m (K r).1 L → mFx (inD b) w w' → DR w' b K l → kdP (K r).1 (K r).2.2.1 m 2 → Q (lgt (eL (fun i => ¬ goP (K r).1 (K r).2.2.1 (K r).2.2.2.2.1 (ob ((K r).2.2.1 (L.getD i 0)) 0)) (fun i => ob ((K r).2.2.1 (L.getD i 0)) 0) L.length) k) w') : mC (d + 3) m_Do_element [.ref b, .int x, .int m, .int k] w Q := by
  refine e_Do_element (s_Do_isReplica (bI_ite hN (fun e => ?_)))
  obtain ⟨r, hr, rfl⟩ := isR_of e
  obtain ⟨t, p0, t1, v1, h1, h2, h3⟩ := hD.sh hr
  have hC := (hD.2.1 r hr).1
  have hR := hC.1
  have hnh := hR.2.2.1
  have hu := unq_sub hC.2.2.2.2 hnh.1
  obtain ⟨q1, q2⟩ := hQ r hr rfl
  have hco := hD.1.2.2.2.2.1
  have pc := hD.1.2.2.1.2.1
  rw [p0, nI_clamp (by omega), h1]
  refine ⟨t, by omega, t1, v1, h2, h3, s_Re_isList hR hu (bI_ite q1 (fun e2 => ?_))⟩
  rw [p0, pc, h1]
  refine ⟨t, by omega, by omega, t1, v1, h2, hco.2.1, s_Co_findElement hco hR (by unfold rp; omega) (fun L w' hA hf => q2 L w' hA (hf.x.to (fun z hz => by unfold inD; omega)) (hD.ofI hf (fun z hz => by omega)) e2)⟩
theorem s_Do_sum (hD : DR w b K l) (hN : ¬ isR x → Q 0 w) (hQ : ∀ r, r < 3 → x = nI r → ∀ S w', (∀ p, p < (K r).1 → smP (K r).1 (K r).2.2.1 (K r).2.2.2.1 (K r).2.2.2.2.1 (K r).2.2.2.2.2 S p) → mFx (inD b) w w' → DR w' b K l → Q (mpK (K r).1 (K r).2.2.1 (K r).2.2.2.1 (K r).2.2.2.2.1 (K r).2.2.2.2.2 S 0 4) w') : mC (d + 6) m_Do_sum [.ref b, .int x] w Q := by
  refine e_Do_sum (s_Do_isReplica (bI_ite hN (fun e => ?_)))
  obtain ⟨r, hr, rfl⟩ := isR_of e
  obtain ⟨t, p0, t1, v1, h1, h2, h3⟩ := hD.sh hr
  have hC := (hD.2.1 r hr).1
  have hR := hC.1
  have hnh := hR.2.2.1
  have hco := hD.1.2.2.2.2.1
  have pc := hD.1.2.2.1.2.1
  rw [p0, pc, nI_clamp (by omega), h1]
  refine ⟨t, by omega, by omega, t1, v1, h2, hco.2.1, s_Co_addUp hco hR (by unfold rp; omega) (MI_late (hD.2.1 r hr).2 hnh.1 hC.2.2.2.2) (fun S w' hS hf => hQ r hr rfl S w' hS (hf.x.to (fun z hz => by unfold inD; omega)) (hD.ofI hf (fun z hz => by omega)))⟩
end SDO
