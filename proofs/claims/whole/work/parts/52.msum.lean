/-! the model: elements by rank, sums -/
theorem eL_cnt (P : Nat → Prop) (f : Nat → Int32) (i : Nat) : (eL P f i).length = cntP i P := by
  induction i with
  | zero => rfl
  | succ i ih =>
    by_cases h : P i
    · rw [eL_t h, cntP_t h, List.length_append, List.length_singleton, ih]
    · rw [eL_f h, cntP_f h, ih]
theorem fld_len {P : Nat → Prop} {f : Nat → Int32} {g : Nat → Int32 → Int32} {s : Int32} {i i' : Nat} (h : i ≤ i') (e : (eL P f i).length = (eL P f i').length) : fldI P g i s = fldI P g i' s := by
  induction i' with
  | zero =>
    have : i = 0 := by omega
    rw [this]
  | succ i' ih =>
    by_cases e1 : i = i' + 1
    · rw [e1]
    · have h1 := (eL_pre P f (i := i) (n := i') (by omega)).1
      by_cases hp : P i'
      · rw [eL_t hp, List.length_append, List.length_singleton] at e
        omega
      · rw [eL_f hp] at e
        rw [fldI_f hp]
        exact ih (by omega) e
theorem fld_len2 {P : Nat → Prop} {f : Nat → Int32} {g : Nat → Int32 → Int32} {s : Int32} {i i' : Nat} (e : (eL P f i).length = (eL P f i').length) : fldI P g i s = fldI P g i' s := by
  by_cases h : i ≤ i'
  · exact fld_len h e
  · exact (fld_len (by omega) e.symm).symm
/-- one step of a sum by ranks -/
theorem fld_step {z0 : Int32} {n h a : Nat} {pi sg : Nat → Nat} {P : Nat → Prop} {f : Nat → Int32} {g : Nat → Int32 → Int32} {s v : Int32} (hn : n ≤ 16) (ha : a < 16) (he : epR n h pi sg P f (nI a) v) (hi : ∃ i, i ≤ n ∧ (eL P f i).length = min a (eL P f n).length ∧ s = fldI P g i z0) :
    (∃ i j, i < n ∧ j < h ∧ P i ∧ pi j = sg i ∧ v = nI j ∧ ∃ i', i' ≤ n ∧ (eL P f i').length = min (a + 1) (eL P f n).length ∧ g i s = fldI P g i' z0) ∨ (v < 0 ∧ ∃ i', i' ≤ n ∧ (eL P f i').length = min (a + 1) (eL P f n).length ∧ s = fldI P g i' z0) := by
  obtain ⟨i0, i1, i2, i3⟩ := hi
  have hl := eL_len P f n
  rcases he with ⟨i, j, h1, h2, h3, h4, h5, h6⟩ | ⟨h1, h2⟩
  · have hli := eL_len P f i
    rw [nI_eq (by omega) (by omega)] at h6
    have hat := (eL_at (f := f) h1 h3).1
    have et := eL_t (f := f) h3
    refine Or.inl ⟨i, j, h1, h2, h3, h4, h5, i + 1, by omega, ?_, ?_⟩
    · rw [et, List.length_append, List.length_singleton]; omega
    · rw [fldI_t h3, i3]
      rw [fld_len2 (f := f) (g := g) (s := z0) (i := i0) (i' := i) (by omega)]
  · refine Or.inr ⟨by rw [h1]; exact m1lt _ (by omega), i0, i1, ?_, i3⟩
    by_cases g2 : a < (eL P f n).length
    · obtain ⟨i, q1, q2, q3⟩ := eL_hit g2
      exact absurd (by rw [q3]) (h2 i q1 q2)
    · omega
section SMSM
variable {d : Nat} {w : mW} {Q : Int32 → mW → Prop} {B r n h : Nat} {o : Nat → mO} {pm : Nat → Int32} {ft : Nat → Prop} {sg : Nat → Nat} {pi ro : Nat → Nat} {x y z k m l : Int32} {L : List Nat}
theorem s_Mo_elementPlace (hV : MV w B r n h o pi ro) (hm : mI w B 7 = nI r) (hS : ST w B h n pi pm ft) (hFt : FtOk n o ft) (hs : SgOk n o sg) (hL : arR o ft sg l n L) (hQ : ∀ v, epR L.length h pi (fun i => L.getD i 0) (fun i => ¬ goP n o ft (ob (o (L.getD i 0)) 0)) (fun i => ob (o (L.getD i 0)) 0) k v → Q v w) : mC (d + 4) m_Mo_elementPlace [.ref B, .int l, .int k] w Q := by
  have r3 := hV.r3
  have h16 := hV.h16
  have nh := hV.nh
  have hun := unq_sub hV.uq nh
  have hok : ∀ q, q < n → okO (o q) := fun q hq => hV.ok q (by omega)
  have hT := TR_el (l := l) hok hun hFt
  obtain ⟨srtd, mem0⟩ := arR_srt hok hun hFt hs (Nat.le_refl n) hL
  have hinj : ∀ i j, i < n → j < n → sg i = sg j → i = j := by
    intro i j hi hj e
    by_cases hij : i = j
    · exact hij
    · exfalso
      rcases Nat.lt_or_gt_of_ne hij with g | g
      · have := hs.2 i j g hj; rw [e] at this; exact Int32.lt_irrefl this
      · have := hs.2 j i g hi; rw [e] at this; exact Int32.lt_irrefl this
  have mem : ∀ e, (∃ a, a < L.length ∧ L.getD a 0 = e) ↔ e < n ∧ elP o ft l e := by
    intro e
    rw [mem0 e]
    constructor
    · rintro ⟨q, q1, q2, q3⟩
      exact ⟨by rw [← q2]; exact hs.1 q q1, q3⟩
    · rintro ⟨z1, z2⟩
      obtain ⟨q, q1, q2⟩ := pg_onto n sg hs.1 hinj e z1
      exact ⟨q, q1, q2, z2⟩
  have hLn : ∀ a, a < L.length → L.getD a 0 < n ∧ elP o ft l (L.getD a 0) := fun a ha => (mem _).mp ⟨a, ha, rfl⟩
  have hLi : ∀ a b, a < L.length → b < L.length → L.getD a 0 = L.getD b 0 → a = b := by
    intro a b ha hb e
    by_cases hab : a = b
    · exact hab
    · exfalso
      rcases Nat.lt_or_gt_of_ne hab with g | g
      · have := srtd a b g hb; rw [e] at this; exact Ah_irr _ this
      · have := srtd b a g ha; rw [e] at this; exact Ah_irr _ this
  have roL : ∀ a, a < L.length → ro (L.getD a 0) < h ∧ pi (ro (L.getD a 0)) = L.getD a 0 := fun a ha => hV.ro _ (by have := (hLn a ha).1; omega)
  -- counting over the list and over slots
  have cnt : ∀ a, a ≤ L.length → (eL (fun i => ¬ goP n o ft (ob (o (L.getD i 0)) 0)) (fun i => ob (o (L.getD i 0)) 0) a).length = cntP h (fun i => ¬ goP n o ft (ob (o (pi i)) 0) ∧ ∃ b, b < a ∧ ro (L.getD b 0) = i) := by
    intro a ha
    rw [eL_cnt, ← cntP_bij (h := a) (m := h) (pi := fun b => ro (L.getD b 0)) (fun i => ¬ goP n o ft (ob (o (pi i)) 0)) (fun b hb => (roL b (by omega)).1) (fun b c hb hc e => ?_)]
    · refine cntP_eq (fun b hb => ?_)
      rw [(roL b (by omega)).2]
    · refine hLi b c (by omega) (by omega) ?_
      rw [← (roL b (by omega)).2, ← (roL c (by omega)).2]
      exact congrArg pi e
  have rank : ∀ a, a < L.length → cntP h (fun i => i ≠ ro (L.getD a 0) ∧ (pi i < n ∧ elP o ft l (pi i)) ∧ ¬ goP n o ft (ob (o (pi i)) 0) ∧ Ah (fun p => ob (o p) 3) (fun p => ob (o p) 0) (paF n o) (pi i) (L.getD a 0)) = (eL (fun i => ¬ goP n o ft (ob (o (L.getD i 0)) 0)) (fun i => ob (o (L.getD i 0)) 0) a).length := by
    intro a ha
    rw [cnt a (by omega)]
    refine cntP_eq (fun i hi => ?_)
    constructor
    · rintro ⟨-, z2, z3, z4⟩
      obtain ⟨b, b1, b2⟩ := (mem _).mpr z2
      refine ⟨z3, b, ?_, by rw [b2]; exact (hV.pi i hi).2⟩
      rw [← b2] at z4
      by_cases g : b < a
      · exact g
      · exfalso
        by_cases g2 : b = a
        · rw [g2] at z4; exact Ah_irr _ z4
        · have h2 := srtd a b (by omega) b1
          have hne : L.getD a 0 ≠ L.getD b 0 := fun z => g2 (hLi b a b1 ha z.symm)
          exact (Ah_tot hT (hLn a ha) (hLn b b1) hne).mp h2 z4
    · rintro ⟨z1, b, b1, b2⟩
      have e : pi i = L.getD b 0 := by rw [← b2]; exact (roL b (by omega)).2
      refine ⟨fun z => ?_, by rw [e]; exact hLn b (by omega), z1, by rw [e]; exact srtd b a b1 ha⟩
      rw [← b2] at z
      have : L.getD b 0 = L.getD a 0 := by rw [← (roL b (by omega)).2, z, (roL a ha).2]
      have := hLi b a (by omega) ha this
      omega
  have total : cntP h (fun i => (pi i < n ∧ elP o ft l (pi i)) ∧ ¬ goP n o ft (ob (o (pi i)) 0)) = (eL (fun i => ¬ goP n o ft (ob (o (L.getD i 0)) 0)) (fun i => ob (o (L.getD i 0)) 0) L.length).length := by
    rw [cnt L.length (Nat.le_refl _)]
    refine cntP_eq (fun i hi => ?_)
    constructor
    · rintro ⟨z2, z3⟩
      obtain ⟨b, b1, b2⟩ := (mem _).mpr z2
      exact ⟨z3, b, b1, by rw [b2]; exact (hV.pi i hi).2⟩
    · rintro ⟨z1, b, b1, b2⟩
      have e : pi i = L.getD b 0 := by rw [← b2]; exact (roL b (by omega)).2
      exact ⟨by rw [e]; exact hLn b b1, z1⟩
  obtain ⟨b0, t, ⟨-, p1, -⟩, -, -, ⟨t2, l2⟩, -⟩ := hV.sh
  have outer : ∀ c j, j + c = h → (∀ a, a < L.length → ro (L.getD a 0) < j → ¬ goP n o ft (ob (o (L.getD a 0)) 0) → k ≠ nI (eL (fun i => ¬ goP n o ft (ob (o (L.getD i 0)) 0)) (fun i => ob (o (L.getD i 0)) 0) a).length) → mG (d + 4) m_Mo_elementPlace (0, 0) 5 [vR B, vI l, vI k, vI (nI (cntP j (fun i => (pi i < n ∧ elP o ft l (pi i)) ∧ ¬ goP n o ft (ob (o (pi i)) 0)))), vI (nI j), vN, vN] [] w Q := by
    intro c
    induction c with
    | zero =>
      intro j hj hv
      have hj' : j = h := by omega
      subst hj'
      refine b_Mo_elementPlace_5 ?_
      rw [p1, hm, nI_clamp (by omega), hV.hd, l2, if_pos (nI_le (by omega) (by omega)), total]
      exact ⟨t, by omega, t2, vp_in_nI (by omega) (by omega), hQ _ (Or.inr ⟨rfl, fun a ha hp => hv a ha (roL a ha).1 hp⟩)⟩
    | succ c ih =>
      intro j hj hv
      have hjh : j < h := by omega
      refine b_Mo_elementPlace_5 ?_
      rw [p1, hm, nI_clamp (by omega), hV.hd, l2, if_neg (nI_ge (by omega) (by omega)), nI_1, nI_1]
      have skip : ¬ ((pi j < n ∧ elP o ft l (pi j)) ∧ ¬ goP n o ft (ob (o (pi j)) 0)) → mG (d + 4) m_Mo_elementPlace (0, 0) 5 [vR B, vI l, vI k, vI (nI (cntP j (fun i => (pi i < n ∧ elP o ft l (pi i)) ∧ ¬ goP n o ft (ob (o (pi i)) 0)))), vI (nI (j + 1)), vN, vN] [] w Q := by
        intro g
        have := ih (j + 1) (by omega) (fun a ha ha2 hp => by
          by_cases e : ro (L.getD a 0) = j
          · exfalso
            apply g
            rw [← e, (roL a ha).2]
            exact ⟨hLn a ha, hp⟩
          · exact hv a ha (by omega) hp)
        rw [cntP_f (P := fun i => (pi i < n ∧ elP o ft l (pi i)) ∧ ¬ goP n o ft (ob (o (pi i)) 0)) g] at this
        exact this
      refine ⟨t, by omega, t2, vp_in_nI (by omega) (by omega), s_Mo_isElement hV hm hS hjh (bI_ite (fun g => skip (fun z => g z.1)) (fun g => ⟨t, s_Mo_gone hV hm hS hjh (bI_ite (fun g2 => ?_) (fun g2 => skip (fun z => z.2 g2)))⟩))⟩
      obtain ⟨a, ha, ea⟩ := (mem _).mpr g
      have eja : ro (L.getD a 0) = j := by rw [ea]; exact (hV.pi j hjh).2
      have inner : ∀ c2 i, i + c2 = h → mG (d + 4) m_Mo_elementPlace (0, 0) 47 [vR B, vI l, vI k, vI (nI (cntP j (fun i => (pi i < n ∧ elP o ft l (pi i)) ∧ ¬ goP n o ft (ob (o (pi i)) 0)) + 1)), vI (nI j), vI (nI (cntP i (fun i => i ≠ j ∧ (pi i < n ∧ elP o ft l (pi i)) ∧ ¬ goP n o ft (ob (o (pi i)) 0) ∧ Ah (fun p => ob (o p) 3) (fun p => ob (o p) 0) (paF n o) (pi i) (pi j)))), vI (nI i)] [] w Q := by
        intro c2
        induction c2 with
        | zero =>
          intro i hi
          have hi' : i = h := by omega
          subst hi'
          refine b_Mo_elementPlace_47 ?_
          rw [p1, hm, nI_clamp (by omega), hV.hd, l2, if_pos (nI_le (by omega) (by omega)), nI_1]
          have rk := rank a ha
          rw [eja, ea] at rk
          rw [rk]
          refine ⟨t, by omega, t2, vp_in_nI (by omega) (by omega), by_if (fun g3 => hQ _ (Or.inl ⟨a, j, ha, hjh, by show ¬ goP n o ft (ob (o (L.getD a 0)) 0); rw [ea]; exact g2, ea.symm, rfl, g3.symm⟩)) (fun g3 => ?_)⟩
          have := ih (j + 1) (by omega) (fun a' ha' ha2 hp => by
            by_cases e : ro (L.getD a' 0) = j
            · have e2 : a' = a := hLi a' a ha' ha (by rw [← (roL a' ha').2, e, ea])
              rw [e2]
              exact fun z => g3 z.symm
            · exact hv a' ha' (by omega) hp)
          rw [cntP_t (P := fun i => (pi i < n ∧ elP o ft l (pi i)) ∧ ¬ goP n o ft (ob (o (pi i)) 0)) ⟨g, g2⟩] at this
          exact this
        | succ c2 ih2 =>
          intro i hi
          have hih : i < h := by omega
          refine b_Mo_elementPlace_47 ?_
          rw [p1, hm, nI_clamp (by omega), hV.hd, l2, if_neg (nI_ge (by omega) (by omega)), nI_1 i, nI_1, Int32.add_zero]
          have := ih2 (i + 1) (by omega)
          have no : ¬ (i ≠ j ∧ (pi i < n ∧ elP o ft l (pi i)) ∧ ¬ goP n o ft (ob (o (pi i)) 0) ∧ Ah (fun p => ob (o p) 3) (fun p => ob (o p) 0) (paF n o) (pi i) (pi j)) → mG (d + 4) m_Mo_elementPlace (0, 0) 47 [vR B, vI l, vI k, vI (nI (cntP j (fun i => (pi i < n ∧ elP o ft l (pi i)) ∧ ¬ goP n o ft (ob (o (pi i)) 0)) + 1)), vI (nI j), vI (nI (cntP i (fun i => i ≠ j ∧ (pi i < n ∧ elP o ft l (pi i)) ∧ ¬ goP n o ft (ob (o (pi i)) 0) ∧ Ah (fun p => ob (o p) 3) (fun p => ob (o p) 0) (paF n o) (pi i) (pi j)))), vI (nI (i + 1))] [] w Q := by
            intro z
            rw [cntP_f (P := fun i => i ≠ j ∧ (pi i < n ∧ elP o ft l (pi i)) ∧ ¬ goP n o ft (ob (o (pi i)) 0) ∧ Ah (fun p => ob (o p) 3) (fun p => ob (o p) 0) (paF n o) (pi i) (pi j)) z] at this
            exact this
          refine ⟨t, by omega, t2, vp_in_nI (by omega) (by omega), by_if (fun q => no (fun z => z.1 ?_)) (fun q => s_Mo_isElement hV hm hS hih (bI_ite (fun q2 => no (fun z => q2 z.2.1)) (fun q2 => ⟨t, s_Mo_gone hV hm hS hih (bI_ite (fun q3 => ⟨t, s_Mo_ahead hV hm hT hih hjh q2 g (bI_ite (fun q4 => no (fun z => q4 z.2.2.2)) (fun q4 => ?_))⟩) (fun q3 => no (fun z => z.2.2.1 q3)))⟩)))⟩
          · rw [nI_eq (by omega) (by omega)] at q; exact q
          · have hij : i ≠ j := fun z => q (by rw [z])
            rw [cntP_t (P := fun i => i ≠ j ∧ (pi i < n ∧ elP o ft l (pi i)) ∧ ¬ goP n o ft (ob (o (pi i)) 0) ∧ Ah (fun p => ob (o p) 3) (fun p => ob (o p) 0) (paF n o) (pi i) (pi j)) ⟨hij, q2, q3, q4⟩] at this
            exact this
      have i0 := inner h 0 (by omega)
      have e0 : cntP 0 (fun i => i ≠ j ∧ (pi i < n ∧ elP o ft l (pi i)) ∧ ¬ goP n o ft (ob (o (pi i)) 0) ∧ Ah (fun p => ob (o p) 3) (fun p => ob (o p) 0) (paF n o) (pi i) (pi j)) = 0 := rfl
      rw [e0, nI_0] at i0
      exact i0
  have h0 := outer h 0 (by omega) (fun a _ ha => by omega)
  have e0 : cntP 0 (fun i => (pi i < n ∧ elP o ft l (pi i)) ∧ ¬ goP n o ft (ob (o (pi i)) 0)) = 0 := rfl
  rw [e0, nI_0] at h0
  exact e_Mo_elementPlace h0
theorem s_Mo_element (hV : MV w B r n h o pi ro) (hB : ∀ j, j < n → ∀ x, hb (o j) x → ∃ q, q < j ∧ ob (o q) 0 = x) (hP : PmOk n o pm) (hT : FtOk n o ft) (hs : SgOk n o sg)
    (hN : ¬ kdP n o m 2 → ∀ w', mSc B w w' → Q (-1) w') (hQ : kdP n o m 2 → ∃ L, arR o ft sg m n L ∧ ∀ w', mSc B w w' → Q (lgt (eL (fun i => ¬ goP n o ft (ob (o (L.getD i 0)) 0)) (fun i => ob (o (L.getD i 0)) 0) L.length) k) w') : mC (d + 5) m_Mo_element [.ref B, .int (nI r), .int m, .int k] w Q := by
  have r3 := hV.r3
  have h16 := hV.h16
  have nh := hV.nh
  have t := hV.sh.2.1
  refine e_Mo_element (s_Mo_isReplica (bI_ite (fun e => absurd (isR_nI r3) e) (fun e => by_if (fun e3 => ⟨t, s_Mo_study hV hB hP hT (fun w1 a1 a2 a3 a4 => ?_)⟩) (fun e3 => ?_))))
  · have t1 := a2.sh.2.1
    refine ⟨t1, s_Mo_isKind a2 a3 (bI_ite (fun g => hN g w1 a1) (fun g => ?_))⟩
    obtain ⟨L, hL, hQ⟩ := hQ g
    have hQ := hQ w1 a1
    have hLl := arR_len hL
    refine ⟨t1, s_Mo_elementPlace a2 a3 a4 hT hs hL (fun v hv => ?_)⟩
    obtain ⟨c1, c2⟩ := epR_lgt (by omega) h16 e3 hv
    refine by_if (fun q => by rw [c1 q]; exact hQ) (fun q => ?_)
    rcases c2 q with ⟨i, j, i1, i2, i3, rfl, i5⟩ | ⟨i1, i2⟩
    · rw [if_pos (nI_pos' (by omega))]
      refine ⟨t1, s_Mo_pt 0 a2 a3 i2 (by omega) rfl ?_⟩
      rw [i3, i5]
      exact hQ
    · rw [if_neg (Int32.not_le.mpr i1), ← i2]
      exact hQ
  · by_cases g : kdP n o m 2
    · obtain ⟨L, hL, hQ⟩ := hQ g
      have hQ := hQ w (mSc.rf B w)
      have h1 : k < -1 := Int32.not_le.mp e3
      have h2 : ¬ k = -1 := fun z => by rw [z] at h1; exact absurd h1 (by decide)
      have h3 : k < 0 := Int32.lt_trans h1 (by decide)
      unfold lgt at hQ
      rw [if_neg h2, if_pos h3] at hQ
      exact hQ
    · exact hN g w (mSc.rf B w)
end SMSM
