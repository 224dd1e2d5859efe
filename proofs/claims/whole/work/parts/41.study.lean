/-! the model: what it works out of a log -/
theorem le_l (x : Int32) (a : Nat) {b : Nat} (hx : x = nI a) (h : a ≤ b) (hb : b < 2 ^ 31) : x ≤ nI b := by rw [hx]; exact nI_le h hb
theorem ge_l (x : Int32) (a : Nat) {b : Nat} (hx : x = nI a) (h : b < a) (ha : a < 2 ^ 31) : ¬ x ≤ nI b := by rw [hx]; exact nI_ge h ha
def scr (B a : Nat) : Prop := a = B ∨ a = B + 7 ∨ a = B + 8 ∨ a = B + 9 ∨ a = B + 10
/-- only scratch changes -/
def mSc (B : Nat) (w w' : mW) : Prop := mFr (scr B) w w' ∧ mI w' B 6 = mI w B 6
theorem mSc.rf (B : Nat) (w : mW) : mSc B w w := ⟨mFr.rf _ w, rfl⟩
theorem mSc.tr {B : Nat} {w w1 w2 : mW} (h : mSc B w w1) (h2 : mSc B w1 w2) : mSc B w w2 := ⟨h.1.tr h2.1, h2.2.trans h.2⟩
theorem mSc.wr {B : Nat} {w w1 : mW} (h : mSc B w w1) {a : Nat} (k : Nat) (v : Int32) (ha : a = B + 7 ∨ a = B + 8 ∨ a = B + 9 ∨ a = B + 10) : mSc B w (wrI w1 a k v) := by
  refine ⟨h.1.wrI k v (Or.inr ha), ?_⟩
  rw [mI_wrI, if_neg (by omega)]
  exact h.2
theorem mSc.me {B : Nat} {w w1 : mW} (h : mSc B w w1) (v : Int32) : mSc B w (wrI w1 B 7 v) := by
  refine ⟨h.1.wrI 7 v (Or.inl rfl), ?_⟩
  rw [mI_wrI, if_neg (by omega)]
  exact h.2
section SMS
variable {d : Nat} {w : mW} {Q : Int32 → mW → Prop} {B r n h : Nat} {o : Nat → mO} {pm : Nat → Int32} {ft : Nat → Prop} {pi ro : Nat → Nat} {x y z : Int32}
theorem MV.of {w' : mW} (h1 : mFr (scr B) w w') (hV : MV w B r n h o pi ro) : MV w' B r n h o pi ro := by
  have e : ∀ k, 1 ≤ k → k ≤ 5 → mI w' (B + k) = mI w (B + k) := fun k _ _ => h1.2 _ (by unfold scr; omega)
  refine ⟨hV.sh.of h1.1, hV.r3, hV.nh, hV.h16, hV.pi, hV.ro, ?_, ?_, ?_, ?_, ?_, hV.ok, hV.uq⟩
  · rw [e 2 (by omega) (by omega)]; exact hV.hd
  · rw [e 5 (by omega) (by omega)]; exact hV.lg
  · rw [e 1 (by omega) (by omega)]; exact hV.bt
  · rw [e 3 (by omega) (by omega)]; exact hV.ap
  · rw [e 4 (by omega) (by omega)]; exact hV.od
theorem nhb_self {c : mO} (hc : okO c) : ¬ hb c (ob c 0) := by
  rintro ⟨k, hk, e⟩
  have := hc.2.2.2.2.2.1 k hk
  rw [e] at this
  exact Int32.lt_irrefl this
theorem s_Mo_widen {j : Nat} (hV : MV w B r n h o pi ro) (hm : mI w B 7 = nI r) (hj : j < h)
    (hQ : ∀ w', mFr (fun a => a = B + 8) w w' → (∀ i, i ≠ j → mI w' (B + 8) i = mI w (B + 8) i) → (∀ i, i < 32 → (bitA (mI w' (B + 8) j) i ↔ bitA (mI w (B + 8) j) i ∨ ∃ k, k < h ∧ hb (o (pi j)) (ob (o (pi k)) 0) ∧ (i = k ∨ bitA (mI w (B + 8) k) i))) → Q 0 w') : mC (d + 2) m_Mo_widen [.ref B, .int (nI j)] w Q := by
  have r3 := hV.r3
  have h16 := hV.h16
  have loop : ∀ c k w1, k + c = h → mFr (fun a => a = B + 8) w w1 → (∀ i, i ≠ j → mI w1 (B + 8) i = mI w (B + 8) i) → (∀ i, i < 32 → (bitA (mI w1 (B + 8) j) i ↔ bitA (mI w (B + 8) j) i ∨ ∃ q, q < k ∧ hb (o (pi j)) (ob (o (pi q)) 0) ∧ (i = q ∨ bitA (mI w (B + 8) q) i))) → mG (d + 2) m_Mo_widen (0, 0) 2 [vR B, vI (nI j), vI (nI k), vN] [] w1 Q := by
    intro c
    induction c with
    | zero =>
      intro k w1 hk hF hi hb
      have hV1 : MV w1 B r n h o pi ro := hV.of (hF.to (fun a ha => by unfold scr; omega))
      obtain ⟨b0, t, ⟨-, p1, -⟩, -, -, ⟨t1, l1⟩, -⟩ := hV1.sh
      have hm1 : mI w1 B 7 = nI r := by rw [hF.2 B (by omega)]; exact hm
      refine b_Mo_widen_2 ?_
      rw [p1, hm1, nI_clamp (by omega), hV1.hd, if_pos (nI_le (by omega) (by omega))]
      have hk' : k = h := by omega
      rw [hk'] at hb
      exact ⟨t, by omega, t1, by rw [l1]; exact vp_in_nI (by omega) (by omega), hQ _ hF hi hb⟩
    | succ c ih =>
      intro k w1 hk hF hi hb
      have hV1 : MV w1 B r n h o pi ro := hV.of (hF.to (fun a ha => by unfold scr; omega))
      obtain ⟨b0, t, ⟨-, p1, -⟩, ⟨-, p9, -⟩, -, ⟨t1, l1⟩, -, -, -, -, -, ⟨t8, l8⟩, -⟩ := hV1.sh
      have hm1 : mI w1 B 7 = nI r := by rw [hF.2 B (by omega)]; exact hm
      refine b_Mo_widen_2 ?_
      rw [p1, hm1, nI_clamp (by omega), hV1.hd, if_neg (nI_ge (by omega) (by omega)), nI_1]
      refine ⟨t, by omega, t1, by rw [l1]; exact vp_in_nI (by omega) (by omega), s_Mo_pt 0 hV1 hm1 (by omega) (by omega) rfl ⟨t, s_Mo_has hV1 hm1 hj (bI_ite (fun e => ?_) (fun e => ?_))⟩⟩
      · refine ih (k + 1) w1 (by omega) hF hi (fun i hi32 => (hb i hi32).trans ?_)
        constructor
        · rintro (g | ⟨q, g1, g2, g3⟩)
          · exact Or.inl g
          · exact Or.inr ⟨q, by omega, g2, g3⟩
        · rintro (g | ⟨q, g1, g2, g3⟩)
          · exact Or.inl g
          · by_cases eq : q = k
            · rw [eq] at g2; exact absurd g2 e
            · exact Or.inr ⟨q, by omega, g2, g3⟩
      · have kj : k ≠ j := by
          intro e2
          rw [e2] at e
          exact nhb_self (hV.ok _ (hV.pi j hj).1) e
        rw [p9, nI_clamp (by omega), nI_clamp (by omega)]
        refine ⟨t, by omega, t8, by rw [l8]; exact vp_in_nI (by omega) (by omega), by rw [l8]; exact vp_in_nI (by omega) (by omega), ?_⟩
        rintro w2 rfl
        refine ih (k + 1) _ (by omega) (hF.wrI _ _ rfl) (fun i hi2 => ?_) (fun i hi32 => ?_)
        · rw [mI_wrI, if_neg (by omega)]
          exact hi i hi2
        · rw [mI_wrI, if_pos ⟨rfl, rfl⟩, bitA_or _ _ hi32, bitA_or _ _ hi32, bitA_1 (by omega) hi32, hb i hi32, hi k kj]
          constructor
          · rintro ((g | ⟨q, g1, g2, g3⟩) | g)
            · exact Or.inl g
            · exact Or.inr ⟨q, by omega, g2, g3⟩
            · exact Or.inr ⟨k, by omega, e, g⟩
          · rintro (g | ⟨q, g1, g2, g3⟩)
            · exact Or.inl (Or.inl g)
            · by_cases eq : q = k
              · rw [eq] at g3; exact Or.inr g3
              · exact Or.inl (Or.inr ⟨q, by omega, g2, g3⟩)
  have h0 := loop h 0 w (by omega) (mFr.rf _ w) (fun _ _ => rfl) (fun i hi => by
    constructor
    · exact Or.inl
    · rintro (g | ⟨q, g1, -⟩)
      · exact g
      · omega)
  rw [nI_0] at h0
  exact e_Mo_widen h0
/-- what is named lies before -/
theorem loc_lt {p : Nat} (hok : ∀ q, q < n → okO (o q)) (hu : unq n o) (hB : ∀ j, j < n → ∀ x, hb (o j) x → ∃ q, q < j ∧ ob (o q) 0 = x) (hp : p < n) (hx : x = 0 ∨ hb (o p) x) {q : Nat} (hq : q < n) (e : ob (o q) 0 = x) : q < p := by
  rcases hx with hx | hx
  · exact absurd (e.trans hx) (isIdP_ne0 (hok q hq).2.1)
  · obtain ⟨q', h1, h2⟩ := hB p hp x hx
    rw [hu q q' hq (by omega) (e.trans h2.symm)]
    exact h1
theorem kdP_loc {p : Nat} (hl : ∀ q, q < n → ob (o q) 0 = x → q < p) (hp : p < n) : kdP n o x y ↔ kdP p o x y :=
  ⟨fun ⟨q, h1, h2, h3⟩ => ⟨q, hl q h1 h2, h2, h3⟩, fun ⟨q, h1, h2, h3⟩ => ⟨q, by omega, h2, h3⟩⟩
theorem inP_loc {p : Nat} {F : Nat → Prop} (hl : ∀ q, q < n → ob (o q) 0 = x → q < p) (hp : p < n) (hF : ∀ q, q < p → (F q ↔ ft q)) (q : Nat) : inP n o F x q ↔ inP p o ft x q :=
  ⟨fun ⟨h1, h2, h3, h4⟩ => ⟨hl q h1 h2, h2, (hF q (hl q h1 h2)).mp h3, h4⟩, fun ⟨h1, h2, h3, h4⟩ => ⟨by omega, h2, (hF q h1).mpr h3, h4⟩⟩
theorem fitP_loc {p : Nat} {F : Nat → Prop} (hok : ∀ q, q < n → okO (o q)) (hu : unq n o) (hB : ∀ j, j < n → ∀ x, hb (o j) x → ∃ q, q < j ∧ ob (o q) 0 = x) (hp : p < n) (hF : ∀ q, q < p → (F q ↔ ft q)) : fitP n o F (ob (o p) 1) (ob (o p) 2) (ob (o p) 3) ↔ fitP p o ft (ob (o p) 1) (ob (o p) 2) (ob (o p) 3) := by
  have hg := (hok p hp).2.2.2.2.1
  have l2 : ∀ q, q < n → ob (o q) 0 = ob (o p) 2 → q < p := fun q h1 h2 => loc_lt hok hu hB hp hg.1 h1 h2
  unfold fitP
  by_cases e3 : ob (o p) 1 = 3
  · have l3 : ∀ q, q < n → ob (o q) 0 = ob (o p) 3 → q < p := fun q h1 h2 => loc_lt hok hu hB hp (hg.2 e3) h1 h2
    simp only [kdP_loc l2 hp, inP_loc l3 hp hF, inP_loc l2 hp hF]
  · simp only [kdP_loc l2 hp, inP_loc l2 hp hF, e3, false_and]
/-- what study leaves -/
def ST (w : mW) (B h n : Nat) (pi : Nat → Nat) (pm : Nat → Int32) (ft : Nat → Prop) : Prop := ∀ j, j < h → pi j < n → mI w (B + 7) j = bI (ft (pi j)) ∧ ∀ i, i < h → (bitA (mI w (B + 8) j) i ↔ bitA (pm (pi j)) (pi i))
theorem s_Mo_study (hV : MV w B r n h o pi ro) (hB : ∀ j, j < n → ∀ x, hb (o j) x → ∃ q, q < j ∧ ob (o q) 0 = x) (hP : PmOk n o pm) (hT : FtOk n o ft)
    (hQ : ∀ w', mSc B w w' → MV w' B r n h o pi ro → mI w' B 7 = nI r → ST w' B h n pi pm ft → Q 0 w') : mC (d + 3) m_Mo_study [.ref B, .int (nI r)] w Q := by
  have r3 := hV.r3
  have h16 := hV.h16
  have nh := hV.nh
  have hun := unq_sub hV.uq nh
  have hok : ∀ q, q < n → okO (o q) := fun q hq => hV.ok q (by omega)
  -- the rounds
  have inner : ∀ (T : Nat), (∀ (w1 : mW) (F : Nat → Prop), mSc B w w1 → mI w1 B 7 = nI r → (∀ j, j < h → mI w1 (B + 7) j = bI (F (pi j))) → (∀ j, j < h → pi j < n → ∀ i, i < h → bitA (mI w1 (B + 8) j) i → bitA (pm (pi j)) (pi i)) → (∀ p, p < n → p < T + 1 → (F p ↔ ft p) ∧ ∀ i, i < h → bitA (pm p) (pi i) → bitA (mI w1 (B + 8) (ro p)) i) → mG (d + 3) m_Mo_study (0, 0) 35 [vR B, vN, vI (nI (T + 1)), vN] [] w1 Q) →
      ∀ c k (w1 : mW) (F : Nat → Prop), k + c = h → mSc B w w1 → mI w1 B 7 = nI r → (∀ j, j < h → mI w1 (B + 7) j = bI (F (pi j))) → (∀ j, j < h → pi j < n → ∀ i, i < h → bitA (mI w1 (B + 8) j) i → bitA (pm (pi j)) (pi i)) → (∀ p, p < n → (p < T ∨ (p = T ∧ ro p < k)) → (F p ↔ ft p) ∧ ∀ i, i < h → bitA (pm p) (pi i) → bitA (mI w1 (B + 8) (ro p)) i) → mG (d + 3) m_Mo_study (0, 0) 43 [vR B, vN, vI (nI T), vI (nI k)] [] w1 Q := by
    intro T next c
    induction c with
    | zero =>
      intro k w1 F hk hS hm hF hs hc
      have hV1 := hV.of hS.1
      obtain ⟨b0, t, ⟨-, p1, -⟩, -, -, ⟨t1, l1⟩, -⟩ := hV1.sh
      refine b_Mo_study_43 ?_
      rw [p1, hm, nI_clamp (by omega), hV1.hd, if_pos (nI_le (by omega) (by omega)), nI_1]
      refine ⟨t, by omega, t1, by rw [l1]; exact vp_in_nI (by omega) (by omega), next w1 F hS hm hF hs (fun p h1 h2 => hc p h1 ?_)⟩
      have := (hV.ro p (by omega)).1
      omega
    | succ c ih =>
      intro k w1 F hk hS hm hF hs hc
      have hV1 := hV.of hS.1
      have hkh : k < h := by omega
      obtain ⟨b0, t, ⟨-, p1, -⟩, ⟨p8, -, -⟩, -, ⟨t1, l1⟩, -, -, -, -, ⟨t7, l7⟩, -⟩ := hV1.sh
      refine b_Mo_study_43 ?_
      rw [p1, hm, nI_clamp (by omega), hV1.hd, if_neg (nI_ge (by omega) (by omega)), nI_1]
      refine ⟨t, by omega, t1, by rw [l1]; exact vp_in_nI (by omega) (by omega), s_Mo_done hV1 hm hkh (bI_ite (fun e => ?_) (fun e => ?_))⟩
      · refine ih (k + 1) w1 F (by omega) hS hm hF hs (fun p h1 h2 => hc p h1 ?_)
        rcases h2 with h2 | ⟨h2, h3⟩
        · exact Or.inl h2
        · by_cases e2 : ro p = k
          · have := (hV.ro p (by omega)).2
            rw [e2] at this
            omega
          · exact Or.inr ⟨h2, by omega⟩
      · rw [p8]
        refine ⟨t, by omega, s_Mo_pt 1 hV1 hm hkh (by omega) rfl ⟨t, s_Mo_pt 2 hV1 hm hkh (by omega) rfl ⟨t, s_Mo_pt 3 hV1 hm hkh (by omega) rfl ⟨t, s_Mo_fits hV1 hm (fun j h1 _ => hF j h1) ?_⟩⟩⟩⟩
        rw [nI_clamp (by omega), bI_and]
        refine ⟨t7, by rw [l7]; exact vp_in_nI (by omega) (by omega), ?_⟩
        rintro w2 rfl
        have hS2 : mSc B w (wrI w1 (B + 7) k (bI (fitP n o F (ob (o (pi k)) 1) (ob (o (pi k)) 2) (ob (o (pi k)) 3)))) := hS.wr _ _ (Or.inl rfl)
        have hV2 := hV.of hS2.1
        refine ⟨t, s_Mo_widen hV2 (by rw [mI_wrI, if_neg (by omega)]; exact hm) hkh ?_⟩
        intro w3 hF3 hi3 hb3
        have e8 : ∀ i, mI (wrI w1 (B + 7) k (bI (fitP n o F (ob (o (pi k)) 1) (ob (o (pi k)) 2) (ob (o (pi k)) 3)))) (B + 8) i = mI w1 (B + 8) i := fun i => by rw [mI_wrI, if_neg (by omega)]
        simp only [e8] at hi3 hb3
        have hS3 : mSc B w w3 := hS2.tr ⟨hF3.to (fun a ha => by unfold scr; omega), by rw [hF3.2 B (by omega)]⟩
        -- the right bits
        have pmk := hP (pi k) e
        have earl : ∀ q, q < h → hb (o (pi k)) (ob (o (pi q)) 0) → pi q < pi k := by
          intro q hq hh
          obtain ⟨q', g1, g2⟩ := hB _ e _ hh
          rw [hV.uq (pi q) q' (hV.pi q hq).1 (by omega) g2.symm]
          exact g1
        refine ih (k + 1) w3 (fun p => if p = pi k then fitP n o F (ob (o (pi k)) 1) (ob (o (pi k)) 2) (ob (o (pi k)) 3) else F p) (by omega) hS3 ?_ ?_ ?_ ?_
        · rw [hF3.2 B (by omega), mI_wrI, if_neg (by omega)]
          exact hm
        · intro j hj
          rw [hF3.2 (B + 7) (by omega), mI_wrI]
          by_cases ej : j = k
          · rw [if_pos ⟨rfl, ej⟩, ej, if_pos rfl]
          · rw [if_neg (by omega), if_neg, hF j hj]
            intro e2
            apply ej
            rw [← (hV.pi j hj).2, ← (hV.pi k hkh).2, e2]
        · intro j hj hjn i hi hbit
          by_cases ej : j = k
          · rw [ej] at hbit ⊢
            rw [hb3 i (by omega)] at hbit
            rcases hbit with g | ⟨q, g1, g2, g3⟩
            · exact hs k hkh e i hi g
            · rw [pmk (pi i) (by have := (hV.pi i hi).1; omega)]
              refine ⟨pi q, earl q g1 g2, g2, ?_⟩
              rcases g3 with g3 | g3
              · exact Or.inl (by rw [g3])
              · exact Or.inr (hs q g1 (by have := earl q g1 g2; omega) i hi g3)
          · rw [hi3 j ej] at hbit
            exact hs j hj hjn i hi hbit
        · intro p hp hg
          by_cases ep : p = pi k
          · have hpT : p ≤ T := by omega
            have erk : ro p = k := by rw [ep]; exact (hV.pi k hkh).2
            have rt : ∀ q, q < p → (F q ↔ ft q) := fun q hq => (hc q (by omega) (by omega)).1
            refine ⟨?_, fun i hi hbit => ?_⟩
            · rw [if_pos ep, ← ep, fitP_loc hok hun hB hp rt]
              exact (hT p hp).symm
            · rw [erk, hb3 i (by omega)]
              rw [ep, pmk (pi i) (by have := (hV.pi i hi).1; omega)] at hbit
              obtain ⟨q, g1, g2, g3⟩ := hbit
              have hqh : q < h := by omega
              refine Or.inr ⟨ro q, (hV.ro q hqh).1, by rw [(hV.ro q hqh).2]; exact g2, ?_⟩
              rcases g3 with g3 | g3
              · exact Or.inl (by rw [← g3]; exact ((hV.pi i hi).2).symm)
              · exact Or.inr ((hc q (by omega) (by omega)).2 i hi g3)
          · have hne : ro p ≠ k := by
              intro e2
              apply ep
              rw [← e2]
              exact ((hV.ro p (by omega)).2).symm
            have := hc p hp (by omega)
            rw [if_neg ep, hi3 (ro p) hne]
            exact this
  have outer : ∀ c T (w1 : mW) (F : Nat → Prop), T + c = 17 → mSc B w w1 → mI w1 B 7 = nI r → (∀ j, j < h → mI w1 (B + 7) j = bI (F (pi j))) → (∀ j, j < h → pi j < n → ∀ i, i < h → bitA (mI w1 (B + 8) j) i → bitA (pm (pi j)) (pi i)) → (∀ p, p < n → p < T → (F p ↔ ft p) ∧ ∀ i, i < h → bitA (pm p) (pi i) → bitA (mI w1 (B + 8) (ro p)) i) → mG (d + 3) m_Mo_study (0, 0) 35 [vR B, vN, vI (nI T), vN] [] w1 Q := by
    intro c
    induction c with
    | zero =>
      intro T w1 F hT1 hS hm hF hs hc
      refine b_Mo_study_35 ?_
      rw [if_pos (le_l 17 17 rfl (by omega) (by omega))]
      refine hQ w1 hS (hV.of hS.1) hm (fun j hj hjn => ⟨?_, fun i hi => ⟨hs j hj hjn i hi, ?_⟩⟩)
      · rw [hF j hj]
        exact bI_iff (hc (pi j) hjn (by omega)).1
      · have := (hc (pi j) hjn (by omega)).2 i hi
        rw [(hV.pi j hj).2] at this
        exact this
    | succ c ih =>
      intro T w1 F hT1 hS hm hF hs hc
      refine b_Mo_study_35 ?_
      rw [if_neg (ge_l 17 17 (b := T) rfl (by omega) (by omega))]
      have := inner T (fun w2 F2 a1 a2 a3 a4 a5 => ih (T + 1) w2 F2 (by omega) a1 a2 a3 a4 a5) h 0 w1 F (by omega) hS hm hF hs (fun p h1 h2 => hc p h1 (by omega))
      rw [nI_0] at this
      exact this
  have start : ∀ c k (w1 : mW), k + c = 16 → mSc B w w1 → mI w1 B 7 = nI r → (∀ j, j < k → mI w1 (B + 7) j = 0 ∧ mI w1 (B + 8) j = 0) → mG (d + 3) m_Mo_study (0, 0) 7 [vR B, vN, vI (nI k), vN] [] w1 Q := by
    intro c
    induction c with
    | zero =>
      intro k w1 hk hS hm hz
      refine b_Mo_study_7 ?_
      rw [if_pos (le_l 16 16 rfl (by omega) (by omega))]
      have := outer 17 0 w1 (fun _ => False) (by omega) hS hm (fun j hj => by rw [(hz j (by omega)).1, bI_f not_false]) (fun j hj _ i hi hbit => by
        rw [(hz j (by omega)).2] at hbit
        exact absurd hbit (bitA_0 (by omega))) (fun p _ h2 => by omega)
      rw [nI_0] at this
      exact this
    | succ c ih =>
      intro k w1 hk hS hm hz
      have hV1 := hV.of hS.1
      obtain ⟨b0, t, -, ⟨p8, p9, -⟩, -, -, -, -, -, -, ⟨t7, l7⟩, ⟨t8, l8⟩, -⟩ := hV1.sh
      refine b_Mo_study_7 ?_
      rw [if_neg (ge_l 16 16 (b := k) rfl (by omega) (by omega)), p8, nI_clamp (by omega), nI_1]
      refine ⟨t, by omega, t7, by rw [l7]; exact vp_in_nI (by omega) (by omega), ?_⟩
      rintro w2 rfl
      rw [mP_wrI, p9]
      refine ⟨t, by omega, t8, by rw [mL_wrI, l8]; exact vp_in_nI (by omega) (by omega), ?_⟩
      rintro w3 rfl
      refine ih (k + 1) _ (by omega) ((hS.wr _ _ (Or.inl rfl)).wr _ _ (Or.inr (Or.inl rfl))) ?_ (fun j hj => ?_)
      · rw [mI_wrI, if_neg (by omega), mI_wrI, if_neg (by omega)]
        exact hm
      · rw [mI_wrI, if_neg (by omega), mI_wrI, mI_wrI]
        by_cases ej : j = k
        · rw [if_pos ⟨rfl, ej⟩, if_pos ⟨rfl, ej⟩]
          exact ⟨by decide, rfl⟩
        · rw [if_neg (by omega), if_neg (by omega), mI_wrI, if_neg (by omega)]
          exact hz j (by omega)
  have hsh := hV.sh.2.1
  refine e_Mo_study ⟨hsh, ?_⟩
  rintro w1 rfl
  have := start 16 0 (wrI w B 7 (nI r)) (by omega) ((mSc.rf B w).me _) (by rw [mI_wrI, if_pos ⟨rfl, rfl⟩]) (fun j hj => by omega)
  rw [nI_0] at this
  exact this
end SMS
