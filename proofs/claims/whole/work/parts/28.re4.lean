/-! applying one that waits -/
def swp (o : Nat → mO) (n p : Nat) (i : Nat) : mO := if i = p then o n else if i = n then o p else o i
def swi (n p i : Nat) : Nat := if i = p then n else if i = n then p else i
theorem swp_eq {o : Nat → mO} {n p i : Nat} : swp o n p i = o (swi n p i) := by
  unfold swp swi
  by_cases e2 : i = p
  · rw [if_pos e2, if_pos e2]
  · rw [if_neg e2, if_neg e2]
    by_cases e1 : i = n
    · rw [if_pos e1, if_pos e1]
    · rw [if_neg e1, if_neg e1]
theorem swi_lt {n p i m : Nat} (hn : n < m) (hp : p < m) (hi : i < m) : swi n p i < m := by
  unfold swi
  by_cases e2 : i = p
  · rw [if_pos e2]; exact hn
  · rw [if_neg e2]
    by_cases e1 : i = n
    · rw [if_pos e1]; exact hp
    · rw [if_neg e1]; exact hi
theorem swi_swi (n p i : Nat) : swi n p (swi n p i) = i := by
  unfold swi
  by_cases e2 : i = p
  · by_cases e1 : n = p
    · simp [e2, e1]
    · simp [e2, e1]
  · by_cases e1 : i = n
    · simp [e2, e1]
    · simp [e2, e1]
def upP {α : Type} (f : Nat → α) (n : Nat) (v : α) (i : Nat) : α := if i = n then v else f i
section SRE4
variable {d : Nat} {w : mW} {Q : Int32 → mW → Prop} {A : Nat} {num : Int32} {n h : Nat} {o : Nat → mO} {pm : Nat → Int32} {ft : Nat → Prop} {sg : Nat → Nat} {x : Int32}
/-- a write beyond the first n places of one of the three lists -/
theorem CRep.wrX (hR : CRep w A num n h o pm ft sg) {a k : Nat} {v : Int32} (ha : a = A + 34 ∨ a = A + 35 ∨ a = A + 36) (hk : n ≤ k) : CRep (wrI w a k v) A num n h o pm ft sg := by
  obtain ⟨hRS, hRP, hnh, ⟨i0, i5, i6⟩, hop, hpm, hft, hsg⟩ := hR
  have hsh := mSh.wrI w a k v
  refine ⟨hRS.of hsh, hRP.of hsh, hnh, ⟨?_, ?_, ?_⟩, fun i hi => ?_, fun i hi => ?_, fun i hi => ?_, fun i hi => ?_⟩
  · rw [mI_wrI, if_neg (by omega)]; exact i0
  · rw [mI_wrI, if_neg (by omega)]; exact i5
  · rw [mI_wrI, if_neg (by omega)]; exact i6
  · rw [hsh.P]
    obtain ⟨ki, hki, eki⟩ := hRP.1 i (by omega)
    refine (hop i hi).of ?_ ?_
    · funext j; rw [mI_wrI, if_neg (by rw [eki]; omega)]
    · funext j; rw [mI_wrI, if_neg (by rw [eki]; omega)]
  · rw [mI_wrI, if_neg (by omega)]; exact hpm i hi
  · rw [mI_wrI, if_neg (by omega)]; exact hft i hi
  · rw [mI_wrI, if_neg (by omega)]; exact hsg i hi
theorem CRep.swap (hR : CRep w A num n h o pm ft sg) {p : Nat} (hp : n ≤ p) (hph : p < h) : CRep (wrP (wrP w (A + 1) p (mP w (A + 1) n)) (A + 1) n (mP w (A + 1) p)) A num n h (swp o n p) pm ft sg := by
  obtain ⟨hRS, hRP, hnh, hi, hop, hpm, hft, hsg⟩ := hR
  have hP : ∀ a k, mP (wrP (wrP w (A + 1) p (mP w (A + 1) n)) (A + 1) n (mP w (A + 1) p)) a k = if a = A + 1 then (if k = n then mP w (A + 1) p else if k = p then mP w (A + 1) n else mP w (A + 1) k) else mP w a k := by
    intro a k
    rw [mP_wrP, mP_wrP]
    by_cases e : a = A + 1
    · subst e
      by_cases e1 : k = n
      · simp [e1]
      · by_cases e2 : k = p
        · simp [e1, e2]
        · simp [e1, e2]
    · simp [e]
  obtain ⟨h1, h2, ⟨h3, h4, h5, h6⟩, h7, h8, h9, h10, h15⟩ := hRS
  have hPA : ∀ k, mP (wrP (wrP w (A + 1) p (mP w (A + 1) n)) (A + 1) n (mP w (A + 1) p)) A k = mP w A k := fun k => by rw [hP, if_neg (by omega)]
  refine ⟨⟨h1, h2, ⟨by rw [hPA]; exact h3, by rw [hPA]; exact h4, by rw [hPA]; exact h5, by rw [hPA]; exact h6⟩, h7, h8, h9, h10, fun k hk => ?_⟩, ⟨fun i hi16 => ?_, fun i j hi16 hj16 e => ?_⟩, hnh, hi, fun i hi => ?_, hpm, hft, hsg⟩
  · obtain ⟨g1, g2, g3, g4, g5⟩ := h15 k hk
    exact ⟨g1, g2, by rw [hP, if_neg (by omega)]; exact g3, g4, g5⟩
  · rw [hP, if_pos rfl]
    by_cases e1 : i = n
    · rw [if_pos e1]; exact hRP.1 p (by omega)
    · rw [if_neg e1]
      by_cases e2 : i = p
      · rw [if_pos e2]; exact hRP.1 n (by omega)
      · rw [if_neg e2]; exact hRP.1 i hi16
  · rw [hP, hP, if_pos rfl, if_pos rfl] at e
    by_cases e1 : i = n
    · by_cases f1 : j = n
      · omega
      · rw [if_pos e1, if_neg f1] at e
        by_cases f2 : j = p
        · rw [if_pos f2] at e
          have := hRP.2 p n (by omega) (by omega) e
          omega
        · rw [if_neg f2] at e
          have := hRP.2 p j (by omega) hj16 e
          omega
    · rw [if_neg e1] at e
      by_cases e2 : i = p
      · rw [if_pos e2] at e
        by_cases f1 : j = n
        · rw [if_pos f1] at e
          have := hRP.2 n p (by omega) (by omega) e
          omega
        · rw [if_neg f1] at e
          by_cases f2 : j = p
          · omega
          · rw [if_neg f2] at e
            have := hRP.2 n j (by omega) hj16 e
            omega
      · rw [if_neg e2] at e
        by_cases f1 : j = n
        · rw [if_pos f1] at e
          have := hRP.2 i p hi16 (by omega) e
          omega
        · rw [if_neg f1] at e
          by_cases f2 : j = p
          · rw [if_pos f2] at e
            have := hRP.2 i n hi16 (by omega) e
            omega
          · rw [if_neg f2] at e
            exact hRP.2 i j hi16 hj16 e
  · have e3 : mP (wrP (wrP w (A + 1) p (mP w (A + 1) n)) (A + 1) n (mP w (A + 1) p)) (A + 1) i = mP w (A + 1) (swi n p i) := by
      rw [hP, if_pos rfl]
      unfold swi
      by_cases e1 : i = n
      · rw [if_pos e1]
        by_cases e2 : i = p
        · rw [if_pos e2]; congr 1; omega
        · rw [if_neg e2, if_pos e1]
      · rw [if_neg e1, if_neg e1]
        by_cases e2 : i = p
        · rw [if_pos e2, if_pos e2]
        · rw [if_neg e2, if_neg e2]
    rw [e3, swp_eq]
    exact hop _ (by
      unfold swi
      by_cases e2 : i = p
      · rw [if_pos e2]; omega
      · rw [if_neg e2]
        by_cases e1 : i = n
        · rw [if_pos e1]; omega
        · rw [if_neg e1]; exact hi)
theorem unq_sub {m m' : Nat} {o : Nat → mO} (h : unq m o) (hm : m' ≤ m) : unq m' o := fun p p' h1 h2 e => h p p' (by omega) (by omega) e
theorem unq_swp {m n p : Nat} {o : Nat → mO} (h : unq m o) (hn : n < m) (hp : p < m) : unq m (swp o n p) := by
  intro i j hi hj e
  rw [swp_eq, swp_eq] at e
  have := h _ _ (swi_lt hn hp hi) (swi_lt hn hp hj) e
  rw [← swi_swi n p i, this, swi_swi]
theorem s_Re_applyWaiting {p : Nat} (hR : CRep w A num n h o pm ft sg) (hp : n ≤ p) (hph : p < h) (hu : unq h o)
    (hQ : ∀ g s w', (∀ i, i < 32 → (bitA g i ↔ gpP n (swp o n p) pm (o p) i)) → s ≤ n → (s = 0 ∨ ¬ ob (o p) 0 < ob (swp o n p (sg (s - 1))) 0) → (∀ j, s ≤ j → j < n → ob (o p) 0 < ob (swp o n p (sg j)) 0) → mFx (fun z => A ≤ z ∧ z < A + 37) w w' → CRep w' A num (n + 1) h (swp o n p) (upP pm n g) (upP ft n (fitP n (swp o n p) ft (ob (o p) 1) (ob (o p) 2) (ob (o p) 3))) (insS sg s n) → Q 0 w') : mC (d + 3) m_Re_applyWaiting [.ref A, .int (nI p)] w Q := by
  have hR0 := hR
  have hsw := hR.swap hp hph
  obtain ⟨hRS, hRP, ⟨hnh, hh16⟩, ⟨i0, i5, i6⟩, hop, hpm, hft, hsg⟩ := hR
  obtain ⟨a0, tA, ⟨p1, p2, p3, p4⟩, ⟨t1, l1⟩, ⟨t2, l2⟩, ⟨t3, l3⟩, ⟨t4, l4⟩, -⟩ := hRS
  have hrn := hR0.row (i := n) (by omega)
  have hrp := hR0.row (i := p) (by omega)
  obtain ⟨kp, hkp, ekp⟩ := hRP.1 p (by omega)
  have huo : unq n (swp o n p) := unq_sub (unq_swp hu (by omega) hph) hnh
  refine e_Re_applyWaiting ?_
  rw [p1, i5, nI_clamp (by omega), nI_clamp (by omega)]
  refine ⟨tA, by omega, t1, by rw [l1]; exact vp_in_nI (by omega) (by omega), hrp.1, by rw [l1]; exact vp_in_nI (by omega) (by omega), hrn.1, hrn.2.1, ?_⟩
  rintro w1 hw1
  have f1 : mFx (fun z => A ≤ z ∧ z < A + 37) w w1 := by rw [hw1]; exact (mFx.rf _ w).wrP _ _ (by omega)
  have a1 : mI w1 A = mI w A := by rw [hw1]; rfl
  have b1 : mP w1 A = mP w A := by rw [hw1]; funext k; rw [mP_wrP, if_neg (by omega)]
  rw [f1.T, b1, p1, f1.T, f1.L, a1, i5, f1.T, nI_clamp (by omega)]
  refine ⟨tA, by omega, t1, by rw [l1]; exact vp_in_nI (by omega) (by omega), hrp.2.1, ?_⟩
  rintro w2 hw2
  rw [hw1] at hw2
  rw [← hw2] at hsw
  have f2 : mFx (fun z => A ≤ z ∧ z < A + 37) w w2 := by rw [hw2, ← hw1]; exact f1.wrP _ _ (by omega)
  have hR2 := hsw
  obtain ⟨⟨-, tA2, ⟨p12, p22, p32, p42⟩, -, ⟨t22, l22⟩, ⟨t32, l32⟩, -⟩, hRP2, -, ⟨-, i52, -⟩, hop2, -⟩ := hsw
  have hq2 : mP w2 (A + 1) n = mP w (A + 1) p := by rw [hw2, mP_wrP, if_pos ⟨rfl, rfl⟩]
  have hrow2 : OSh w2 (mP w (A + 1) p) := by rw [← hq2]; exact hR2.row (by omega)
  have hO2 : OpAt w2 (mP w (A + 1) p) (o p) := by
    have := hop2 n (by omega)
    rw [hq2] at this
    have e : swp o n p n = o p := by unfold swp; by_cases e : n = p <;> simp [e]
    rw [e] at this
    exact this
  generalize hqq : mP w (A + 1) p = q at hrow2 hO2 hq2 ⊢
  rw [p22, i52, nI_clamp (by omega)]
  refine ⟨tA2, by omega, s_Re_gatherPast hR2 hrow2 hO2 (fun g hg => ?_) huo⟩
  refine ⟨t22, by rw [l22]; exact vp_in_nI (by omega) (by omega), ?_⟩
  rintro w4 hw4
  have hR4 : CRep w4 A num n h (swp o n p) pm ft sg := by rw [hw4]; exact hR2.wrX (Or.inl rfl) (Nat.le_refl _)
  have f4 : mFr (fun z => A ≤ z ∧ z < A + 37) w2 w4 := by rw [hw4]; exact (mFr.rf _ w2).wrI _ _ (by omega)
  have f24 : mFr (fun z => z = A + 34) w2 w4 := by rw [hw4]; exact (mFr.rf _ w2).wrI _ _ rfl
  have hrow4 := hrow2.of f4.1
  have hO4 : OpAt w4 q (o p) := hO2.of (f24.2 _ (by rw [← hqq, ekp]; omega)) (f24.2 _ (by rw [← hqq, ekp]; omega))
  obtain ⟨⟨-, tA4, ⟨-, -, p34, -⟩, -, -, ⟨t34, l34⟩, -⟩, -, -, ⟨-, i54, -⟩, -⟩ := hR4
  have hR4 : CRep w4 A num n h (swp o n p) pm ft sg := by rw [hw4]; exact hR2.wrX (Or.inl rfl) (Nat.le_refl _)
  rw [p34, i54, nI_clamp (by omega)]
  refine ⟨tA4, by omega, s_Re_hasPlaceFor hR4 huo hrow4 hO4 ⟨t34, by rw [l34]; exact vp_in_nI (by omega) (by omega), ?_⟩⟩
  rintro w6 hw6
  rw [bI_and] at hw6
  have hR6 : CRep w6 A num n h (swp o n p) pm ft sg := by rw [hw6]; exact hR4.wrX (Or.inr (Or.inl rfl)) (Nat.le_refl _)
  have f6 : mFr (fun z => A ≤ z ∧ z < A + 37) w4 w6 := by rw [hw6]; exact (mFr.rf _ w4).wrI _ _ (by omega)
  have f46 : mFr (fun z => z = A + 35) w4 w6 := by rw [hw6]; exact (mFr.rf _ w4).wrI _ _ rfl
  have hq6 : mI w6 q = mI w4 q := f46.2 _ (by rw [← hqq, ekp]; omega)
  rw [f6.1.T, f6.1.T, hq6, hO4.2.2.1.1]
  refine ⟨hrow4.2.1, tA4, s_Re_fileById hR6 (by omega) (fun s w7 hs1 hs2 hs3 f7 h7 => ?_)⟩
  rw [f7.1.T, f6.1.T]
  refine ⟨tA4, ?_⟩
  have a7 : mI w7 A = mI w6 A := f7.2 A (by omega)
  rw [a7, hR6.2.2.2.1.2.1, nI_1]
  rintro w8 hw8
  have f8 : mFr (fun z => A ≤ z ∧ z < A + 37) w6 w8 := by rw [hw8]; exact (f7.to (fun z hz => by omega)).wrI _ _ (by omega)
  have f68 : mFr (fun z => z = A ∨ z = A + 36) w6 w8 := by rw [hw8]; exact (f7.to (fun z hz => Or.inr hz)).wrI _ _ (Or.inl rfl)
  refine hQ g s w8 hg hs1 hs2 hs3 (f2.tr ((f4.tr (f6.tr f8)).x)) ?_
  obtain ⟨hRS6, hRP6, hnh6, ⟨i06, i56, i66⟩, hop6, hpm6, hft6, hsg6⟩ := hR6
  refine ⟨hRS6.of f8.1, hRP6.of f8.1, ⟨by omega, by omega⟩, ⟨?_, ?_, ?_⟩, fun i hi => ?_, fun i hi => ?_, fun i hi => ?_, fun i hi => ⟨?_, ?_⟩⟩
  · rw [hw8, mI_wrI, if_neg (by omega), a7]; exact i06
  · rw [hw8, mI_wrI, if_pos ⟨rfl, rfl⟩]
  · rw [hw8, mI_wrI, if_neg (by omega), a7]; exact i66
  · rw [f8.1.P]
    obtain ⟨ki, hki, eki⟩ := hRP6.1 i (by omega)
    exact (hop6 i hi).of (f68.2 _ (by rw [eki]; omega)) (f68.2 _ (by rw [eki]; omega))
  · rw [f68.2 _ (by omega)]
    unfold upP
    by_cases e : i = n
    · rw [if_pos e, f46.2 _ (by omega), hw4, mI_wrI, if_pos ⟨rfl, e⟩]
    · rw [if_neg e]; exact hpm6 i (by omega)
  · rw [f68.2 _ (by omega)]
    unfold upP
    by_cases e : i = n
    · rw [if_pos e, hw6, mI_wrI, if_pos ⟨rfl, e⟩]
    · rw [if_neg e]; exact hft6 i (by omega)
  · unfold insS
    by_cases e1 : i < s
    · rw [if_pos e1]; have := (hsg i (by omega)).1; omega
    · rw [if_neg e1]
      by_cases e2 : i = s
      · rw [if_pos e2]; omega
      · rw [if_neg e2]; have := (hsg (i - 1) (by omega)).1; omega
  · rw [hw8, mI_wrI, if_neg (by omega)]; exact h7 i hi
end SRE4
