/-! issuing and taking -/
def srt (bs : List Int32) : Prop := ∀ i j, i < j → j < bs.length → bs.getD i 0 < bs.getD j 0
def inL (bs : List Int32) (x : Int32) : Prop := ∃ i, i < bs.length ∧ bs.getD i 0 = x
theorem insP_srt {bs : List Int32} {p : Nat} {x : Int32} (hp : p ≤ bs.length) (hs : srt bs) (hx : ¬ inL bs x) (h1 : p = 0 ∨ ¬ x < bs.getD (p - 1) 0) (h2 : ∀ j, p ≤ j → j < bs.length → x < bs.getD j 0) : srt (insP bs p x) := by
  intro i j hij hj
  rw [insP_len hp] at hj
  rw [insP_get hp, insP_get hp]
  have low : ∀ i, i < p → bs.getD i 0 < x := by
    intro i hi
    have h1' : ¬ x < bs.getD (p - 1) 0 := by
      rcases h1 with z | z
      · omega
      · exact z
    have hlt : bs.getD (p - 1) 0 < x := Int32.lt_of_le_of_ne (Int32.not_lt.mp h1') (fun z => hx ⟨p - 1, by omega, z⟩)
    by_cases e : i = p - 1
    · rw [e]; exact hlt
    · have := hs i (p - 1) (by omega) (by omega)
      rw [Int32.lt_iff_toInt_lt] at this hlt ⊢
      omega
  by_cases e1 : i < p
  · rw [if_pos e1]
    by_cases f1 : j < p
    · rw [if_pos f1]; exact hs i j hij (by omega)
    · rw [if_neg f1]
      by_cases f2 : j = p
      · rw [if_pos f2]; exact low i e1
      · rw [if_neg f2]
        have a := low i e1
        have b := h2 (j - 1) (by omega) (by omega)
        rw [Int32.lt_iff_toInt_lt] at a b ⊢
        omega
  · rw [if_neg e1, if_neg (show ¬ j < p by omega), if_neg (show ¬ j = p by omega)]
    by_cases e2 : i = p
    · rw [if_pos e2]; exact h2 (j - 1) (by omega) (by omega)
    · rw [if_neg e2]; exact hs (i - 1) (j - 1) (by omega) (by omega)
theorem insP_in {bs : List Int32} {p : Nat} {x y : Int32} (hp : p ≤ bs.length) : inL (insP bs p x) y ↔ y = x ∨ inL bs y := by
  constructor
  · rintro ⟨i, hi, e⟩
    rw [insP_len hp] at hi
    rw [insP_get hp] at e
    by_cases e1 : i < p
    · rw [if_pos e1] at e; exact Or.inr ⟨i, by omega, e⟩
    · rw [if_neg e1] at e
      by_cases e2 : i = p
      · rw [if_pos e2] at e; exact Or.inl e.symm
      · rw [if_neg e2] at e; exact Or.inr ⟨i - 1, by omega, e⟩
  · rintro (rfl | ⟨i, hi, e⟩)
    · exact ⟨p, by rw [insP_len hp]; omega, by rw [insP_get hp, if_neg (by omega), if_pos rfl]⟩
    · by_cases e1 : i < p
      · exact ⟨i, by rw [insP_len hp]; omega, by rw [insP_get hp, if_pos e1]; exact e⟩
      · exact ⟨i + 1, by rw [insP_len hp]; omega, by rw [insP_get hp, if_neg (by omega), if_neg (by omega), Nat.add_sub_cancel]; exact e⟩
/-- two ascending lists with the same members are one -/
theorem srt_ext {bs cs : List Int32} (h1 : srt bs) (h2 : srt cs) (h : ∀ x, inL bs x ↔ inL cs x) : bs = cs := by
  induction bs generalizing cs with
  | nil =>
    cases cs with
    | nil => rfl
    | cons c cs =>
      obtain ⟨i, hi, -⟩ := (h c).mpr ⟨0, Nat.succ_pos _, rfl⟩
      exact absurd hi (Nat.not_lt_zero i)
  | cons b bs ih =>
    cases cs with
    | nil =>
      obtain ⟨i, hi, -⟩ := (h b).mp ⟨0, Nat.succ_pos _, rfl⟩
      exact absurd hi (Nat.not_lt_zero i)
    | cons c cs =>
      have low : ∀ {a : Int32} {as : List Int32}, srt (a :: as) → ∀ x, inL as x → a < x := by
        rintro a as hs x ⟨i, hi, rfl⟩
        exact hs 0 (i + 1) (by omega) (by simp; omega)
      have tl : ∀ {a : Int32} {as : List Int32}, srt (a :: as) → srt as := fun hs i j hij hj => hs (i + 1) (j + 1) (by omega) (by simp; omega)
      have cons : ∀ {a : Int32} {as : List Int32} {x : Int32}, inL (a :: as) x ↔ x = a ∨ inL as x := by
        intro a as x
        constructor
        · rintro ⟨i, hi, e⟩
          cases i with
          | zero => exact Or.inl e.symm
          | succ i => exact Or.inr ⟨i, by simpa using hi, e⟩
        · rintro (rfl | ⟨i, hi, e⟩)
          · exact ⟨0, Nat.succ_pos _, rfl⟩
          · exact ⟨i + 1, by simpa using hi, e⟩
      have hbc : b = c := by
        rcases cons.mp ((h b).mp (cons.mpr (Or.inl rfl))) with e | e
        · exact e
        · rcases cons.mp ((h c).mpr (cons.mpr (Or.inl rfl))) with f | f
          · exact f.symm
          · have a1 := low h2 b e
            have a2 := low h1 c f
            rw [Int32.lt_iff_toInt_lt] at a1 a2
            omega
      subst hbc
      congr 1
      refine ih (tl h1) (tl h2) (fun x => ⟨fun hx => ?_, fun hx => ?_⟩)
      · rcases cons.mp ((h x).mp (cons.mpr (Or.inr hx))) with e | e
        · have := low h1 x hx
          rw [e, Int32.lt_iff_toInt_lt] at this
          omega
        · exact e
      · rcases cons.mp ((h x).mpr (cons.mpr (Or.inr hx))) with e | e
        · have := low h2 x hx
          rw [e, Int32.lt_iff_toInt_lt] at this
          omega
        · exact e
theorem cntP_mono {m n : Nat} (P : Nat → Prop) (h : m ≤ n) : cntP m P ≤ cntP n P := by
  induction n with
  | zero =>
    have : m = 0 := by omega
    rw [this]
    exact Nat.le_refl _
  | succ n ih =>
    by_cases e : m = n + 1
    · rw [e]; exact Nat.le_refl _
    · have := ih (by omega)
      by_cases hp : P n
      · rw [cntP_t hp]; omega
      · rw [cntP_f hp]; exact this
/-- what goes into the BEFORE of a new one -/
def slP (n : Nat) (o : Nat → mO) (k t s : Int32) (p : Nat) : Prop := hdP n o (ob (o p) 0) ∨ nmP (mkO 0 k t s 0 []) (ob (o p) 0)
def bfP (n : Nat) (o : Nat → mO) (k t s : Int32) (bs : List Int32) : Prop := srt bs ∧ bs.length = cntP n (slP n o k t s) ∧ bs.length ≤ 6 ∧ ∀ x, inL bs x ↔ ∃ p, p < n ∧ slP n o k t s p ∧ ob (o p) 0 = x
section SIS
variable {d : Nat} {w : mW} {Q : Int32 → mW → Prop} {A q : Nat} {num : Int32} {n h : Nat} {o : Nat → mO} {pm : Nat → Int32} {ft : Nat → Prop} {sg : Nat → Nat} {x i k t s v : Int32}
/-- a replica is untouched by what happens outside its cells -/
theorem CRep.ofX {X : Nat → Prop} {w' : mW} (hR : CRep w A num n h o pm ft sg) (hf : mFx X w w') (hX : ∀ z, A ≤ z → z < A + 37 → ¬ X z) : CRep w' A num n h o pm ft sg := by
  obtain ⟨hRS, hRP, hnh, ⟨i0, i5, i6⟩, hop, hpm, hft, hsg⟩ := hR
  have eI : ∀ z, A ≤ z → z < A + 37 → mI w' z = mI w z := fun z h1 h2 => (hf.2 z (hX z h1 h2)).1
  have eP : ∀ z, A ≤ z → z < A + 37 → mP w' z = mP w z := fun z h1 h2 => (hf.2 z (hX z h1 h2)).2
  obtain ⟨h1, h2, ⟨h3, h4, h5, h6⟩, ⟨h7, h8⟩, ⟨h9, h10⟩, ⟨h11, h12⟩, ⟨h13, h14⟩, h15⟩ := hRS
  refine ⟨⟨h1, by rw [hf.T]; exact h2, ⟨by rw [eP A (by omega) (by omega)]; exact h3, by rw [eP A (by omega) (by omega)]; exact h4, by rw [eP A (by omega) (by omega)]; exact h5, by rw [eP A (by omega) (by omega)]; exact h6⟩, ⟨by rw [hf.T]; exact h7, by rw [hf.L]; exact h8⟩, ⟨by rw [hf.T]; exact h9, by rw [hf.L]; exact h10⟩, ⟨by rw [hf.T]; exact h11, by rw [hf.L]; exact h12⟩, ⟨by rw [hf.T]; exact h13, by rw [hf.L]; exact h14⟩, fun k hk => (h15 k hk).ofX hf (hX _ (by omega) (by omega))⟩, ⟨fun i hi => by rw [eP (A + 1) (by omega) (by omega)]; exact hRP.1 i hi, fun i j hi hj e => hRP.2 i j hi hj (by rw [eP (A + 1) (by omega) (by omega)] at e; exact e)⟩, hnh, ⟨by rw [eI A (by omega) (by omega)]; exact i0, by rw [eI A (by omega) (by omega)]; exact i5, by rw [eI A (by omega) (by omega)]; exact i6⟩, fun i hi => ?_, fun i hi => by rw [eI _ (by omega) (by omega)]; exact hpm i hi, fun i hi => by rw [eI _ (by omega) (by omega)]; exact hft i hi, fun i hi => by rw [eI _ (by omega) (by omega)]; exact hsg i hi⟩
  rw [eP (A + 1) (by omega) (by omega)]
  obtain ⟨ki, hki, eki⟩ := hRP.1 i (by omega)
  exact (hop i hi).of (eI _ (by rw [eki]; omega) (by rw [eki]; omega)) (eI _ (by rw [eki]; omega) (by rw [eki]; omega))
theorem CSt.ofX {X : Nat → Prop} {w' : mW} (hC : CSt w A num n h o pm ft sg) (hf : mFx X w w') (hX : ∀ z, A ≤ z → z < A + 37 → ¬ X z) : CSt w' A num n h o pm ft sg := ⟨hC.1.ofX hf hX, hC.2⟩
theorem s_Re_gatherBefore (hR : CRep w A num n h o pm ft sg) (hu : unq n o) (hS : OSh w q) (hO : OpAt w q (mkO i k t s v [])) (hq : q + 1 < A ∨ A + 37 ≤ q)
    (hQ : ∀ r w', mFr (fun z => z = q ∨ z = q + 1) w w' → (r = 0 ∧ 6 < cntP n (slP n o k t s)) ∨ (r = 1 ∧ ∃ bs, bfP n o k t s bs ∧ OpAt w' q (mkO i k t s v bs)) → Q r w') : mC (d + 2) m_Re_gatherBefore [.ref A, .ref q] w Q := by
  have hnh := hR.2.2.1
  have loop : ∀ j m w1 bs, m + j = n → mFr (fun z => z = q ∨ z = q + 1) w w1 → OpAt w1 q (mkO i k t s v bs) → srt bs → bs.length = cntP m (slP n o k t s) → bs.length ≤ 6 → (∀ x, inL bs x ↔ ∃ p, p < m ∧ slP n o k t s p ∧ ob (o p) 0 = x) → mG (d + 2) m_Re_gatherBefore (0, 0) 2 [vR A, vR q, vI (nI m), vN] [] w1 Q := by
    intro j
    induction j with
    | zero =>
      intro m w1 bs hm hf hO1 b1 b2 b3 b4
      have hR1 : CRep w1 A num n h o pm ft sg := hR.ofX hf.x (fun z h1 h2 => by omega)
      have em : m = n := by omega
      subst em
      refine b_Re_gatherBefore_2 ⟨hR1.1.2.1, ?_⟩
      rw [hR1.2.2.2.1.2.1, if_pos (nI_le (by omega) (by omega))]
      exact hQ 1 w1 hf (Or.inr ⟨rfl, bs, ⟨b1, b2, b3, b4⟩, hO1⟩)
    | succ j ih =>
      intro m w1 bs hm hf hO1 b1 b2 b3 b4
      have hR1 : CRep w1 A num n h o pm ft sg := hR.ofX hf.x (fun z h1 h2 => by omega)
      have hS1 := hS.of hf.1
      have hrow := hR1.row (i := m) (by omega)
      obtain ⟨⟨a0, tA, ⟨p1, -, -, -⟩, ⟨t1, l1⟩, -⟩, -, -, ⟨-, i5, -⟩, hop, -⟩ := hR1
      have hR1 : CRep w1 A num n h o pm ft sg := hR.ofX hf.x (fun z h1 h2 => by omega)
      refine b_Re_gatherBefore_2 ⟨tA, ?_⟩
      rw [i5, if_neg (nI_ge (by omega) (by omega)), p1, nI_clamp (by omega), (hop m (by omega)).2.2.1.1, nI_1]
      refine ⟨by omega, t1, by rw [l1]; exact vp_in_nI (by omega) (by omega), hrow.1, hrow.2.1, ?_⟩
      have skip : ¬ slP n o k t s m → mG (d + 2) m_Re_gatherBefore (0, 0) 2 [vR A, vR q, vI (nI (m + 1)), vN] [] w1 Q := by
        intro hns
        refine ih (m + 1) w1 bs (by omega) hf hO1 b1 (by rw [cntP_f hns]; exact b2) b3 (fun x => (b4 x).trans ⟨?_, ?_⟩)
        · rintro ⟨p, h1, h2, h3⟩
          exact ⟨p, by omega, h2, h3⟩
        · rintro ⟨p, h1, h2, h3⟩
          by_cases e : p = m
          · rw [e] at h2; exact absurd h2 hns
          · exact ⟨p, by omega, h2, h3⟩
      have add : slP n o k t s m → mG (d + 2) m_Re_gatherBefore (0, 0) 36 [vR A, vR q, vI (nI m), vI (ob (o m) 0)] [] w1 Q := by
        intro hs
        refine b_Re_gatherBefore_36 ⟨hS1.2.1, s_Op_addBefore hS1 hO1 (fun g => ?_) (fun p w2 g1 g2 g3 g4 g5 g6 => ?_)⟩
        · rw [if_pos rfl]
          refine hQ 0 w1 hf (Or.inl ⟨rfl, ?_⟩)
          have := cntP_mono (slP n o k t s) (show m + 1 ≤ n by omega)
          rw [cntP_t hs] at this
          omega
        · rw [if_neg (by decide), nI_1]
          have hnx : ¬ inL bs (ob (o m) 0) := by
            intro z
            obtain ⟨p', h1, h2, h3⟩ := (b4 _).mp z
            have := hu p' m (by omega) (by omega) h3
            omega
          refine ih (m + 1) w2 (insP bs p (ob (o m) 0)) (by omega) (hf.tr g5) g6 (insP_srt g2 b1 hnx g3 g4) (by rw [insP_len g2, cntP_t hs, b2]) (by rw [insP_len g2]; omega) (fun x => ?_)
          rw [insP_in g2, b4 x]
          constructor
          · rintro (e | ⟨p', h1, h2, h3⟩)
            · exact ⟨m, by omega, hs, e.symm⟩
            · exact ⟨p', by omega, h2, h3⟩
          · rintro ⟨p', h1, h2, h3⟩
            by_cases e : p' = m
            · rw [e] at h3; exact Or.inl h3.symm
            · exact Or.inr ⟨p', by omega, h2, h3⟩
      refine s_Re_isHead hR1 (by omega) (bI_ite (fun e => ⟨hS1.2.1, s_Op_names hS1 hO1 (bI_ite (fun e2 => skip ?_) (fun e2 => add (Or.inr e2)))⟩) (fun e => add (Or.inl e)))
      rintro (z | z)
      · exact e z
      · exact e2 z
  have h0 := loop n 0 w [] (by omega) (mFr.rf _ w) hO (fun i j hij hj => absurd hj (Nat.not_lt_zero _)) rfl (Nat.zero_le _) (fun x => ⟨fun ⟨i, hi, _⟩ => absurd hi (Nat.not_lt_zero i), fun ⟨p, hp, _⟩ => absurd hp (Nat.not_lt_zero p)⟩)
  rw [nI_0] at h0
  exact e_Re_gatherBefore h0
end SIS
