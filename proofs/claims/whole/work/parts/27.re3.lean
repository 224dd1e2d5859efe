/-! contracts of a replica that write -/
/-- all stays but ints and pointers at the addresses X -/
def mFx (X : Nat → Prop) (w w' : mW) : Prop := (w'.1 = w.1 ∧ w'.2.1 = w.2.1 ∧ mZ w' = mZ w) ∧ ∀ a, ¬ X a → mI w' a = mI w a ∧ mP w' a = mP w a
theorem mFx.rf (X : Nat → Prop) (w : mW) : mFx X w w := ⟨⟨rfl, rfl, rfl⟩, fun _ _ => ⟨rfl, rfl⟩⟩
theorem mFx.tr {X : Nat → Prop} {w w1 w2 : mW} (h : mFx X w w1) (h2 : mFx X w1 w2) : mFx X w w2 := ⟨⟨h2.1.1.trans h.1.1, h2.1.2.1.trans h.1.2.1, h2.1.2.2.trans h.1.2.2⟩, fun a ha => ⟨(h2.2 a ha).1.trans (h.2 a ha).1, (h2.2 a ha).2.trans (h.2 a ha).2⟩⟩
theorem mFx.to {X Y : Nat → Prop} {w w1 : mW} (h : mFx X w w1) (hXY : ∀ a, X a → Y a) : mFx Y w w1 := ⟨h.1, fun a ha => h.2 a (fun z => ha (hXY a z))⟩
theorem mFr.x {X : Nat → Prop} {w w' : mW} (h : mFr X w w') : mFx X w w' := ⟨⟨h.1.1, h.1.2.1, h.1.Z⟩, fun a ha => ⟨h.2 a ha, by funext k; exact h.1.P a k⟩⟩
theorem mFx.T {X : Nat → Prop} {w w' : mW} (h : mFx X w w') (a : Nat) : mT w' a = mT w a := by unfold mT; rw [h.1.1]
theorem mFx.L {X : Nat → Prop} {w w' : mW} (h : mFx X w w') (a : Nat) : mL w' a = mL w a := by unfold mL; rw [h.1.2.1]
theorem mFx.wrP {X : Nat → Prop} {w w1 : mW} (h : mFx X w w1) {a : Nat} (k v : Nat) (ha : X a) : mFx X w (wrP w1 a k v) := by
  refine ⟨h.1, fun q hq => ?_⟩
  have e : q ≠ a := fun z => hq (by rw [z]; exact ha)
  refine ⟨(h.2 q hq).1, ?_⟩
  rw [← (h.2 q hq).2]
  funext j
  rw [mP_wrP, if_neg (fun z => e z.1)]
theorem OSh.ofX {X : Nat → Prop} {w w' : mW} {q : Nat} (h : mFx X w w') (hq : ¬ X q) (hS : OSh w q) : OSh w' q := by
  obtain ⟨h1, h2, h3, h4, h5⟩ := hS
  exact ⟨h1, by rw [h.T]; exact h2, by rw [(h.2 q hq).2]; exact h3, by rw [h.T]; exact h4, by rw [h.L]; exact h5⟩
/-- x in the PAST of the one whose BEFORE is c's -/
def gpP (n : Nat) (o : Nat → mO) (pm : Nat → Int32) (c : mO) (i : Nat) : Prop := ∃ p, p < n ∧ hb c (ob (o p) 0) ∧ (i = p ∨ bitA (pm p) i)
section SRE3
variable {d : Nat} {w : mW} {Q : Int32 → mW → Prop} {A : Nat} {num : Int32} {n h : Nat} {o : Nat → mO} {pm : Nat → Int32} {ft : Nat → Prop} {sg : Nat → Nat} {x : Int32}
theorem s_Re_gatherPast {q : Nat} {c : mO} (hR : CRep w A num n h o pm ft sg) (hS : OSh w q) (hO : OpAt w q c) (hQ : ∀ g, (∀ i, i < 32 → (bitA g i ↔ gpP n o pm c i)) → Q g w) (hu : unq n o) : mC (d + 1) m_Re_gatherPast [.ref A, .ref q] w Q := by
  have hR0 := hR
  obtain ⟨⟨a0, tA, ⟨-, p2, -, -⟩, -, ⟨t3, l3⟩, -⟩, -, ⟨hn, hh⟩, ⟨-, i5, -⟩, -, hpm, -⟩ := hR
  obtain ⟨n0, t1, p0, t2, l2⟩ := hS
  obtain ⟨o1, o3, -, o4⟩ := hO
  have loop : ∀ j k g, k + j = c.length - 6 → (∀ i, i < 32 → (bitA g i ↔ ∃ m p, m < k ∧ p < n ∧ ob (o p) 0 = ob c (6 + m) ∧ (i = p ∨ bitA (pm p) i))) → mG (d + 1) m_Re_gatherPast (0, 0) 4 [vR A, vR q, vI g, vI (nI k), vN] [] w Q := by
    intro j
    induction j with
    | zero =>
      intro k g hk hg
      refine b_Re_gatherPast_4 ⟨t1, ?_⟩
      rw [o3, if_pos (nI_le (by omega) (by omega))]
      refine hQ g (fun i hi => (hg i hi).trans ⟨?_, ?_⟩)
      · rintro ⟨m, p, h1, h2, h3, h4⟩
        exact ⟨p, h2, ⟨m, by omega, h3.symm⟩, h4⟩
      · rintro ⟨p, h1, ⟨m, h2, h3⟩, h4⟩
        exact ⟨m, p, by omega, h1, h3.symm, h4⟩
    | succ j ih =>
      intro k g hk hg
      refine b_Re_gatherPast_4 ⟨t1, ?_⟩
      rw [o3, if_neg (nI_ge (by omega) (by omega)), p0, nI_clamp (by omega), nI_1, o4 k (by omega), i5]
      refine ⟨by omega, t2, by rw [l2]; exact vp_in_nI (by omega) (by omega), tA, ?_⟩
      refine s_Re_find hR0 hn (fun r hr => ?_)
      rcases hr with ⟨rfl, hr⟩ | ⟨p, hp, rfl, hr⟩
      · rw [if_pos rfl]
        refine ih (k + 1) g (by omega) (fun i hi => (hg i hi).trans ⟨?_, ?_⟩)
        · rintro ⟨m, p, h1, h2, h3, h4⟩
          exact ⟨m, p, by omega, h2, h3, h4⟩
        · rintro ⟨m, p, h1, h2, h3, h4⟩
          by_cases e : m = k
          · rw [e] at h3; exact absurd h3 (hr p h2)
          · exact ⟨m, p, by omega, h2, h3, h4⟩
      · rw [if_neg (nI_m1 (by omega)), p2, nI_clamp (by omega), hpm p hp]
        refine ⟨tA, by omega, t3, by rw [l3]; exact vp_in_nI (by omega) (by omega), ?_⟩
        refine ih (k + 1) _ (by omega) (fun i hi => ?_)
        rw [bitA_or _ _ hi, bitA_or _ _ hi, bitA_1 (by omega) hi, hg i hi]
        constructor
        · rintro (⟨m, p', h1, h2, h3, h4⟩ | h4 | h4)
          · exact ⟨m, p', by omega, h2, h3, h4⟩
          · exact ⟨k, p, by omega, hp, hr, Or.inr h4⟩
          · exact ⟨k, p, by omega, hp, hr, Or.inl h4⟩
        · rintro ⟨m, p', h1, h2, h3, h4⟩
          by_cases e : m = k
          · rw [e] at h3
            have e2 := hu p' p h2 hp (h3.trans hr.symm)
            rw [e2] at h4
            rcases h4 with h4 | h4
            · exact Or.inr (Or.inr h4)
            · exact Or.inr (Or.inl h4)
          · exact Or.inl ⟨m, p', by omega, h2, h3, h4⟩
  have h0 := loop _ 0 0 (Nat.zero_add _) (fun i hi => ⟨fun z => absurd z (bitA_0 hi), fun ⟨m, p, z, _⟩ => by omega⟩)
  rw [nI_0] at h0
  exact e_Re_gatherPast h0
/-- the held rows keep what they hold while the replica's own cells change -/
theorem s_Re_keep {q : Nat} {c : mO} (hR : CRep w A num n h o pm ft sg) (hh : h < 16) (hS : OSh w q) (hO : OpAt w q c) (hne : q < A ∨ A + 37 ≤ q) (hne' : q + 1 < A ∨ A + 37 ≤ q + 1)
    (hQ : ∀ w', mFr (fun z => A ≤ z ∧ z < A + 37) w w' → CRep w' A num n (h + 1) (fun i => if i = h then c else o i) pm ft sg → Q 0 w') : mC (d + 2) m_Re_keep [.ref A, .ref q] w Q := by
  have hR0 := hR
  obtain ⟨hRS, hRP, ⟨hn, hh16⟩, ⟨i0, i5, i6⟩, hop, hpm, hft, hsg⟩ := hR
  have hRS0 := hRS
  obtain ⟨a0, tA, ⟨p1, -, -, -⟩, ⟨t1, l1⟩, -⟩ := hRS
  have hrow := hR0.row (i := h) hh
  obtain ⟨kh, hkh, ekh⟩ := hRP.1 h hh
  refine e_Re_keep ?_
  rw [p1, i6, nI_clamp (by omega)]
  refine ⟨tA, by omega, t1, by rw [l1]; exact vp_in_nI (by omega) (by omega), hrow.1, hrow.2.1, ?_⟩
  refine s_Op_copyFrom hrow hS hO (by rw [ekh]; omega) (fun w1 hf h1 => ?_)
  rw [hf.1.T]
  refine ⟨tA, ?_⟩
  have hA1 : mI w1 A = mI w A := hf.2 A (by rw [ekh]; omega)
  rw [hA1, i6, nI_1]
  rintro _ rfl
  have hfr : mFr (fun z => A ≤ z ∧ z < A + 37) w (wrI w1 A 6 (nI (h + 1))) := (hf.to (fun z hz => by rw [ekh] at hz; omega)).wrI _ _ (by omega)
  refine hQ _ hfr ⟨hRS0.of hfr.1, hRP.of hfr.1, ⟨by omega, by omega⟩, ⟨?_, ?_, ?_⟩, fun i hi => ?_, fun i hi => ?_, fun i hi => ?_, fun i hi => ?_⟩
  · rw [mI_wrI, if_neg (by omega), hA1, i0]
  · rw [mI_wrI, if_neg (by omega), hA1, i5]
  · rw [mI_wrI, if_pos ⟨rfl, rfl⟩]
  · rw [hfr.1.P]
    show OpAt _ _ (if i = h then c else o i)
    by_cases e : i = h
    · subst e
      rw [if_pos rfl]
      refine h1.of ?_ ?_
      · funext j; rw [mI_wrI, if_neg (by rw [ekh]; omega)]
      · funext j; rw [mI_wrI, if_neg (by rw [ekh]; omega)]
    · rw [if_neg e]
      obtain ⟨ki, hki, eki⟩ := hRP.1 i (by omega)
      have hij : ki ≠ kh := fun z => e (hRP.2 i h (by omega) hh (by rw [eki, ekh, z]))
      refine (hop i (by omega)).of ?_ ?_
      · funext j; rw [mI_wrI, if_neg (by rw [eki]; omega), hf.2 _ (by rw [eki, ekh]; omega)]
      · funext j; rw [mI_wrI, if_neg (by rw [eki]; omega), hf.2 _ (by rw [eki, ekh]; omega)]
  · rw [mI_wrI, if_neg (by omega), hf.2 _ (by rw [ekh]; omega)]; exact hpm i hi
  · rw [mI_wrI, if_neg (by omega), hf.2 _ (by rw [ekh]; omega)]; exact hft i hi
  · rw [mI_wrI, if_neg (by omega), hf.2 _ (by rw [ekh]; omega)]; exact hsg i hi
/-- m is put in at place p of the order -/
def insS (sg : Nat → Nat) (p m : Nat) (i : Nat) : Nat := if i < p then sg i else if i = p then m else sg (i - 1)
theorem s_Re_fileById (hR : CRep w A num n h o pm ft sg) (hn : n < 16) (hQ : ∀ p w', p ≤ n → (p = 0 ∨ ¬ x < ob (o (sg (p - 1))) 0) → (∀ j, p ≤ j → j < n → x < ob (o (sg j)) 0) → mFr (fun z => z = A + 36) w w' → (∀ i, i < n + 1 → mI w' (A + 36) i = nI (insS sg p n i)) → Q 0 w') : mC d m_Re_fileById [.ref A, .int x] w Q := by
  have hR0 := hR
  obtain ⟨hRS, hRP, ⟨hnh, hh16⟩, ⟨i0, i5, i6⟩, hop, hpm, hft, hsg⟩ := hR
  obtain ⟨a0, tA, ⟨p1, -, -, p4⟩, ⟨t1, l1⟩, -, -, ⟨t4, l4⟩, -⟩ := hRS
  have loop : ∀ p w1, p ≤ n → (∀ j, p ≤ j → j < n → x < ob (o (sg j)) 0) → mFr (fun z => z = A + 36) w w1 → (∀ j, j < p → mI w1 (A + 36) j = nI (sg j)) → (∀ j, p ≤ j → j < n → mI w1 (A + 36) (j + 1) = nI (sg j)) → mG d m_Re_fileById (0, 0) 5 [vR A, vI x, vI (nI p)] [] w1 Q := by
    intro p
    have fin : ∀ p w1, p ≤ n → (p = 0 ∨ ¬ x < ob (o (sg (p - 1))) 0) → (∀ j, p ≤ j → j < n → x < ob (o (sg j)) 0) → mFr (fun z => z = A + 36) w w1 → (∀ j, j < p → mI w1 (A + 36) j = nI (sg j)) → (∀ j, p ≤ j → j < n → mI w1 (A + 36) (j + 1) = nI (sg j)) → Q 0 (wrI w1 (A + 36) p (nI n)) := by
      intro p w1 hp h0 hp2 hf ha hb
      refine hQ p _ hp h0 hp2 (hf.wrI _ _ rfl) (fun i hi => ?_)
      rw [mI_wrI]
      unfold insS
      by_cases e1 : i < p
      · rw [if_pos e1, if_neg (by omega)]; exact ha i e1
      · rw [if_neg e1]
        by_cases e2 : i = p
        · rw [if_pos e2, if_pos ⟨rfl, e2⟩]
        · rw [if_neg e2, if_neg (by omega)]
          have := hb (i - 1) (by omega) (by omega)
          rw [show i - 1 + 1 = i by omega] at this
          exact this
    induction p with
    | zero =>
      intro w1 hp hp2 hf ha hb
      have hA1 : mI w1 A = mI w A := hf.2 A (by omega)
      refine b_Re_fileById_5 ?_
      rw [nI_0, if_pos (Int32.le_refl _), hf.1.T, hf.1.P, p4, hf.1.T, hf.1.L, hA1, i5]
      refine ⟨tA, by omega, t4, by rw [l4]; exact vp_in_nI (n := 0) (by omega) (by omega), ?_⟩
      have c0 : (0 : Int32).toNatClampNeg = 0 := by decide
      rw [c0]
      rintro _ rfl
      exact fin 0 w1 hp (Or.inl rfl) hp2 hf ha hb
    | succ p ih =>
      intro w1 hp hp2 hf ha hb
      have hA1 : mI w1 A = mI w A := hf.2 A (by omega)
      obtain ⟨hs1, hs2⟩ := hsg p (by omega)
      obtain ⟨ki, hki, eki⟩ := hRP.1 (sg p) (by omega)
      have hrow := hR0.row (i := sg p) (by omega)
      have hq1 : mI w1 (mP w (A + 1) (sg p)) = mI w (mP w (A + 1) (sg p)) := hf.2 _ (by rw [eki]; omega)
      refine b_Re_fileById_5 ?_
      rw [if_neg (nI_nle (by omega) (by omega)), hf.1.T, hf.1.P, hf.1.P, p1, p4, hf.1.T, hf.1.L, nI_pred, pk_m1, nI_clamp (by omega), ha p (by omega), hf.1.T, hf.1.L, nI_clamp (by omega), hf.1.P, hf.1.T, hq1, (hop (sg p) (by omega)).2.2.1.1, hA1, i5, nI_clamp (by omega)]
      refine ⟨tA, by omega, by omega, t4, by rw [l4]; exact vp_in_nI (by omega) (by omega), t1, by rw [l1]; exact vp_in_nI (by omega) (by omega), hrow.1, hrow.2.1, ?_⟩
      refine by_if (fun e => ⟨by rw [l4]; exact vp_in_nI (by omega) (by omega), ?_⟩) (fun e => ⟨by rw [l4]; exact vp_in_nI (by omega) (by omega), ?_⟩)
      · rintro _ rfl
        exact fin (p + 1) w1 hp (Or.inr (by rw [Nat.add_sub_cancel]; exact Int32.not_lt.mpr e)) hp2 hf ha hb
      · rintro _ rfl
        refine ih _ (by omega) (fun j h1 h2 => ?_) (hf.wrI _ _ rfl) (fun j hj => ?_) (fun j h1 h2 => ?_)
        · by_cases hj : j = p
          · rw [hj]; exact Int32.not_le.mp e
          · exact hp2 j (by omega) h2
        · rw [mI_wrI, if_neg (by omega)]
          exact ha j (by omega)
        · rw [mI_wrI]
          by_cases hj : j = p
          · rw [if_pos ⟨rfl, by omega⟩, hj]
          · rw [if_neg (by omega)]
            exact hb j (by omega) h2
  refine e_Re_fileById ⟨tA, ?_⟩
  rw [i5]
  exact loop n w (Nat.le_refl _) (fun j h1 h2 => by omega) (mFr.rf _ w) (fun j hj => (hsg j hj).2) (fun j h1 h2 => by omega)
end SRE3
