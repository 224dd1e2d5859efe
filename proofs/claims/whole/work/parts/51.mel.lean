/-! the model: the order of elements -/
noncomputable def paF (n : Nat) (o : Nat → mO) (p : Nat) : Nat := @dite Nat (∃ q, q < n ∧ ob (o q) 0 = ob (o p) 3) (Classical.propDecidable _) (fun h => Classical.choose h) (fun _ => 0)
theorem paF_eq {n : Nat} {o : Nat → mO} {p q : Nat} (hu : unq n o) (hq : q < n) (e : ob (o q) 0 = ob (o p) 3) : paF n o p = q := by
  have h : ∃ q, q < n ∧ ob (o q) 0 = ob (o p) 3 := ⟨q, hq, e⟩
  unfold paF
  rw [dif_pos h]
  exact hu _ _ (Classical.choose_spec h).1 hq ((Classical.choose_spec h).2.trans e.symm)
section TEL
variable {n : Nat} {o : Nat → mO} {ft : Nat → Prop} {sg : Nat → Nat} {l : Int32}
theorem TR_el (hok : ∀ q, q < n → okO (o q)) (hu : unq n o) (hT : FtOk n o ft) : TR (fun p => p < n ∧ elP o ft l p) (fun p => ob (o p) 3) (fun p => ob (o p) 0) (paF n o) := by
  refine ⟨fun p hp hs => ?_, fun p q hp hq e => hu p q hp.1 hq.1 e⟩
  obtain ⟨hp1, hp2, hp3, hp4⟩ := hp
  have hf := (hT p hp1).mp hp2
  rcases hf with ⟨-, h2, -⟩ | ⟨h1, -⟩ | ⟨h1, -⟩
  · rcases h2 with h2 | ⟨q, ⟨q1, q2, q3, q4⟩, q5⟩
    · exact absurd h2 hs
    · have e := paF_eq hu (show q < n by omega) q2
      show paF n o p < p ∧ _
      rw [e]
      refine ⟨q1, ⟨by omega, q3, q4, by rw [q5]; exact hp4⟩, q2, ?_⟩
      have hg := (hok p hp1).2.2.2.2.1.2 hp3
      have hb := (hok p hp1).2.2.2.2.2.1
      rcases hg with hg | ⟨k, k1, k2⟩
      · exact absurd hg hs
      · show ob (o q) 0 < ob (o p) 0
        rw [q2, ← k2]
        exact hb k k1
  · rw [hp3] at h1; exact absurd h1 (by decide)
  · exact absurd hp3 h1
/-- the arrangement is in the tree's order, and holds what it should -/
theorem arR_srt {i : Nat} {L : List Nat} (hok : ∀ q, q < n → okO (o q)) (hu : unq n o) (hT : FtOk n o ft) (hs : SgOk n o sg) (hi : i ≤ n) (h : arR o ft sg l i L) : (∀ a b, a < b → b < L.length → Ah (fun p => ob (o p) 3) (fun p => ob (o p) 0) (paF n o) (L.getD a 0) (L.getD b 0)) ∧ ∀ e, (∃ a, a < L.length ∧ L.getD a 0 = e) ↔ ∃ q, q < i ∧ sg q = e ∧ elP o ft l e := by
  have hTR := TR_el (l := l) hok hu hT
  have hinj : ∀ i j, i < n → j < n → sg i = sg j → i = j := by
    intro i j hi hj e
    by_cases hij : i = j
    · exact hij
    · exfalso
      rcases Nat.lt_or_gt_of_ne hij with g | g
      · have := hs.2 i j g hj; rw [e] at this; exact Int32.lt_irrefl this
      · have := hs.2 j i g hi; rw [e] at this; exact Int32.lt_irrefl this
  induction i generalizing L with
  | zero =>
    have hL : L = [] := h
    subst hL
    exact ⟨fun a b _ hb => absurd hb (Nat.not_lt_zero _), fun e => ⟨fun ⟨a, ha, _⟩ => absurd ha (Nat.not_lt_zero _), fun ⟨q, hq, _⟩ => absurd hq (Nat.not_lt_zero _)⟩⟩
  | succ i ih =>
    rcases h with ⟨hne, h⟩ | ⟨hel, L0, p, h, hp, hpl, rfl⟩
    · obtain ⟨h1, h2⟩ := ih (by omega) h
      refine ⟨h1, fun e => (h2 e).trans ⟨fun ⟨q, q1, q2⟩ => ⟨q, by omega, q2⟩, fun ⟨q, q1, q2, q3⟩ => ⟨q, ?_, q2, q3⟩⟩⟩
      by_cases e2 : q = i
      · rw [← q2, e2] at q3; exact absurd q3 hne
      · omega
    · obtain ⟨h1, h2⟩ := ih (by omega) h
      have hsi := hs.1 i (by omega)
      have Ex : (sg i) < n ∧ elP o ft l (sg i) := ⟨hsi, hel⟩
      have mem : ∀ a, a < L0.length → (L0.getD a 0 < n ∧ elP o ft l (L0.getD a 0)) ∧ ob (o (L0.getD a 0)) 0 < ob (o (sg i)) 0 := by
        intro a ha
        obtain ⟨q, q1, q2, q3⟩ := (h2 _).mp ⟨a, ha, rfl⟩
        refine ⟨⟨?_, q3⟩, ?_⟩
        · rw [← q2]; exact hs.1 q (by omega)
        · rw [← q2]; exact hs.2 q i q1 (by omega)
      have bef : ∀ a, a < p → Ah (fun p => ob (o p) 3) (fun p => ob (o p) 0) (paF n o) (L0.getD a 0) (sg i) := by
        intro a ha
        have ma := mem a (by omega)
        rw [Ah_step hTR Ex ma.1 ma.2]
        rcases hpl.1 with z | ⟨z1, z2⟩
        · omega
        · have mp := mem (p - 1) (by omega)
          have epa := paF_eq hu mp.1.1 z2
          refine ⟨z1, ?_⟩
          rw [epa]
          by_cases e : a = p - 1
          · rw [e]; exact Or.inl rfl
          · exact Or.inr (h1 a (p - 1) (by omega) (by omega))
      have aft : ∀ a, p ≤ a → a < L0.length → Ah (fun p => ob (o p) 3) (fun p => ob (o p) 0) (paF n o) (sg i) (L0.getD a 0) := by
        intro a ha ha2
        have ma := mem a ha2
        have hne : sg i ≠ L0.getD a 0 := by
          intro z
          have := ma.2
          rw [z] at this
          exact Int32.lt_irrefl this
        rw [Ah_tot hTR Ex ma.1 hne, Ah_step hTR Ex ma.1 ma.2]
        rintro ⟨z1, z2⟩
        obtain ⟨t1, t2, t3, t4⟩ := hTR.1 (sg i) Ex z1
        have no := hpl.2 a ha ha2
        rcases z2 with z2 | z2
        · exact no ⟨z1, by rw [z2]; exact t3⟩
        · obtain ⟨q, q1, q2⟩ := pg_onto n sg hs.1 hinj (paF n o (sg i)) t2.1
          have qi : q < i := by
            by_cases g : q < i
            · exact g
            · exfalso
              by_cases g2 : q = i
              · rw [g2] at q2; rw [← q2] at t1; omega
              · have := hs.2 i q (by omega) q1
                rw [q2] at this
                exact Int32.lt_irrefl (Int32.lt_trans this t4)
          obtain ⟨b, b1, b2⟩ := (h2 (paF n o (sg i))).mpr ⟨q, qi, q2, t2.2⟩
          have bp : b < p := by
            by_cases g : b < p
            · exact g
            · exact absurd ⟨z1, by rw [b2]; exact t3⟩ (hpl.2 b (by omega) b1)
          have := h1 b a (by omega) ha2
          rw [b2] at this
          have hne2 : paF n o (sg i) ≠ L0.getD a 0 := by
            intro z
            rw [z] at this
            exact Ah_irr _ this
          exact (Ah_tot hTR t2 ma.1 hne2).mp this z2
      refine ⟨fun a b hab hb => ?_, fun e => ?_⟩
      · rw [insN_len hp] at hb
        rw [insN_get hp, insN_get hp]
        by_cases a1 : a < p
        · rw [if_pos a1]
          by_cases b1 : b < p
          · rw [if_pos b1]; exact h1 a b hab (by omega)
          · rw [if_neg b1]
            by_cases b2 : b = p
            · rw [if_pos b2]; exact bef a a1
            · rw [if_neg b2]; exact h1 a (b - 1) (by omega) (by omega)
        · rw [if_neg a1, if_neg (show ¬ b < p by omega), if_neg (show ¬ b = p by omega)]
          by_cases a2 : a = p
          · rw [if_pos a2]; exact aft (b - 1) (by omega) (by omega)
          · rw [if_neg a2]; exact h1 (a - 1) (b - 1) (by omega) (by omega)
      · constructor
        · rintro ⟨a, ha, e1⟩
          rw [insN_len hp] at ha
          rw [insN_get hp] at e1
          by_cases a1 : a < p
          · rw [if_pos a1] at e1
            obtain ⟨q, q1, q2⟩ := (h2 e).mp ⟨a, by omega, e1⟩
            exact ⟨q, by omega, q2⟩
          · rw [if_neg a1] at e1
            by_cases a2 : a = p
            · rw [if_pos a2] at e1
              exact ⟨i, by omega, e1, by rw [← e1]; exact hel⟩
            · rw [if_neg a2] at e1
              obtain ⟨q, q1, q2⟩ := (h2 e).mp ⟨a - 1, by omega, e1⟩
              exact ⟨q, by omega, q2⟩
        · rintro ⟨q, q1, q2, q3⟩
          by_cases e1 : q = i
          · refine ⟨p, by rw [insN_len hp]; omega, ?_⟩
            rw [insN_get hp, if_neg (by omega), if_pos rfl, ← q2, e1]
          · obtain ⟨a, ha, e2⟩ := (h2 e).mpr ⟨q, by omega, q2, q3⟩
            by_cases a1 : a < p
            · exact ⟨a, by rw [insN_len hp]; omega, by rw [insN_get hp, if_pos a1]; exact e2⟩
            · exact ⟨a + 1, by rw [insN_len hp]; omega, by rw [insN_get hp, if_neg (by omega), if_neg (by omega), Nat.add_sub_cancel]; exact e2⟩
end TEL
section SMEL
variable {d : Nat} {w : mW} {Q : Int32 → mW → Prop} {B r n h : Nat} {o : Nat → mO} {pm : Nat → Int32} {ft : Nat → Prop} {sg : Nat → Nat} {pi ro : Nat → Nat} {x y z k m l : Int32}
theorem s_Mo_upf {u : Nat} (hV : MV w B r n h o pi ro) (hm : mI w B 7 = nI r) (hT : TR (fun p => p < n ∧ elP o ft l p) (fun p => ob (o p) 3) (fun p => ob (o p) 0) (paF n o)) (hu : u < n ∧ elP o ft l u) (hs : ob (o u) 3 ≠ 0) (hQ : ∀ j, j < h → pi j = paF n o u → Q (nI j) w) : mC (d + 1) m_Mo_find [.ref B, .int (ob (o u) 3), .int (1 : Int32)] w Q := by
  have hun := unq_sub hV.uq hV.nh
  obtain ⟨h1, h2, h3, h4⟩ := hT.1 u hu hs
  refine s_Mo_find1 hV hm (fun v hv => ?_)
  rcases hv with ⟨-, hv⟩ | ⟨j, j1, j2, rfl, j4⟩
  · exact absurd h3 (hv _ h2.1)
  · exact hQ j j1 (hun _ _ j2 h2.1 (j4.trans h3.symm))
theorem s_Mo_steps {j : Nat} (hV : MV w B r n h o pi ro) (hm : mI w B 7 = nI r) (hT : TR (fun p => p < n ∧ elP o ft l p) (fun p => ob (o p) 3) (fun p => ob (o p) 0) (paF n o)) (hj : j < h) (hE : pi j < n ∧ elP o ft l (pi j)) (hQ : Q (nI (dep (fun p => ob (o p) 3) (paF n o) (pi j))) w) : mC (d + 2) m_Mo_steps [.ref B, .int (nI j)] w Q := by
  have h16 := hV.h16
  have nh := hV.nh
  have t := hV.sh.2.1
  have hdl := dep_le hT (pi j + 1) (pi j) (by omega) hE
  have loop : ∀ c k j', k + c = dep (fun p => ob (o p) 3) (paF n o) (pi j) → j' < h → pi j' = upn (paF n o) k (pi j) → mG (d + 2) m_Mo_steps (0, 0) 7 [vR B, vN, vI (nI k), vI (nI j'), vI (nI k)] [] w Q := by
    intro c
    induction c with
    | zero =>
      intro k j' hk hj' e
      obtain ⟨g1, g2, -⟩ := upn_E hT k (pi j) hE (by omega)
      have hs : ob (o (pi j')) 3 = 0 := by
        by_cases z : ob (o (pi j')) 3 = 0
        · exact z
        · have := dep_s hT (p := pi j') (by rw [e]; exact g1) z
          rw [← e] at g2
          omega
      refine b_Mo_steps_7 ?_
      rw [if_neg (ge_l 16 16 (b := k) rfl (by omega) (by omega))]
      refine ⟨t, s_Mo_pt 3 hV hm hj' (by omega) rfl ?_⟩
      rw [if_pos hs, show k = dep (fun p => ob (o p) 3) (paF n o) (pi j) by omega]
      exact hQ
    | succ c ih =>
      intro k j' hk hj' e
      obtain ⟨g1, g2, -⟩ := upn_E hT k (pi j) hE (by omega)
      rw [← e] at g1 g2
      have hs : ob (o (pi j')) 3 ≠ 0 := by
        intro z
        have := dep_0 (sl := fun p => ob (o p) 3) (pa := paF n o) (p := pi j') z
        omega
      refine b_Mo_steps_7 ?_
      rw [if_neg (ge_l 16 16 (b := k) rfl (by omega) (by omega)), nI_1]
      refine ⟨t, s_Mo_pt 3 hV hm hj' (by omega) rfl ?_⟩
      rw [if_neg hs]
      refine ⟨t, s_Mo_pt 3 hV hm hj' (by omega) rfl ⟨t, s_Mo_upf hV hm hT g1 hs (fun j2 h1 h2 => ih (k + 1) j2 (by omega) h1 ?_)⟩⟩
      rw [h2, upn_succ, e]
  have h0 := loop (dep (fun p => ob (o p) 3) (paF n o) (pi j)) 0 j (by omega) hj rfl
  rw [nI_0] at h0
  exact e_Mo_steps h0
theorem s_Mo_up {j c : Nat} (hV : MV w B r n h o pi ro) (hm : mI w B 7 = nI r) (hT : TR (fun p => p < n ∧ elP o ft l p) (fun p => ob (o p) 3) (fun p => ob (o p) 0) (paF n o)) (hj : j < h) (hE : pi j < n ∧ elP o ft l (pi j)) (hc : c ≤ dep (fun p => ob (o p) 3) (paF n o) (pi j)) (hx : x = nI c) (hQ : ∀ j', j' < h → pi j' = upn (paF n o) c (pi j) → Q (nI j') w) : mC (d + 2) m_Mo_up [.ref B, .int (nI j), .int x] w Q := by
  subst hx
  have h16 := hV.h16
  have nh := hV.nh
  have t := hV.sh.2.1
  have hdl := dep_le hT (pi j + 1) (pi j) (by omega) hE
  have loop : ∀ e k j', k + e = c → j' < h → pi j' = upn (paF n o) k (pi j) → mG (d + 2) m_Mo_up (0, 0) 5 [vR B, vN, vI (nI c), vI (nI j'), vI (nI k)] [] w Q := by
    intro e
    induction e with
    | zero =>
      intro k j' hk hj' e1
      refine b_Mo_up_5 ?_
      rw [if_pos (nI_le (by omega) (by omega))]
      exact hQ j' hj' (by rw [e1, show k = c by omega])
    | succ e ih =>
      intro k j' hk hj' e1
      obtain ⟨g1, g2, -⟩ := upn_E hT k (pi j) hE (by omega)
      rw [← e1] at g1 g2
      have hs : ob (o (pi j')) 3 ≠ 0 := by
        intro z
        have := dep_0 (sl := fun p => ob (o p) 3) (pa := paF n o) (p := pi j') z
        omega
      refine b_Mo_up_5 ?_
      rw [if_neg (nI_ge (by omega) (by omega)), nI_1]
      refine ⟨t, s_Mo_pt 3 hV hm hj' (by omega) rfl ⟨t, s_Mo_upf hV hm hT g1 hs (fun j2 h1 h2 => ih (k + 1) j2 (by omega) h1 ?_)⟩⟩
      rw [h2, upn_succ, e1]
  have h0 := loop c 0 j (by omega) hj rfl
  rw [nI_0] at h0
  exact e_Mo_up h0
theorem nI_sub {a b : Nat} (h : b ≤ a) : nI a - nI b = nI (a - b) := by
  have := nI_add (a - b) b
  rw [show a - b + b = a by omega] at this
  rw [← this, Int32.add_sub_cancel]
theorem s_Mo_ahead {i j : Nat} (hV : MV w B r n h o pi ro) (hm : mI w B 7 = nI r) (hT : TR (fun p => p < n ∧ elP o ft l p) (fun p => ob (o p) 3) (fun p => ob (o p) 0) (paF n o)) (hi : i < h) (hj : j < h) (hEi : pi i < n ∧ elP o ft l (pi i)) (hEj : pi j < n ∧ elP o ft l (pi j)) (hQ : Q (bI (Ah (fun p => ob (o p) 3) (fun p => ob (o p) 0) (paF n o) (pi i) (pi j))) w) : mC (d + 3) m_Mo_ahead [.ref B, .int (nI i), .int (nI j)] w Q := by
  have h16 := hV.h16
  have nh := hV.nh
  have t := hV.sh.2.1
  have da := dep_le hT (pi i + 1) (pi i) (by omega) hEi
  have db := dep_le hT (pi j + 1) (pi j) (by omega) hEj
  have lt_a := la_top (sl := fun p => ob (o p) 3) (pa := paF n o) (pi i)
  have lt_b := la_top (sl := fun p => ob (o p) 3) (pa := paF n o) (pi j)
  -- the end: two slots at one level
  have b125 : ∀ i' j' q, i' < h → j' < h → pi i' = la (fun p => ob (o p) 3) (paF n o) (pi i) q → pi j' = la (fun p => ob (o p) 3) (paF n o) (pi j) q → (Ah (fun p => ob (o p) 3) (fun p => ob (o p) 0) (paF n o) (pi i) (pi j) ↔ ob (o (pi j')) 0 < ob (o (pi i')) 0) → mG (d + 3) m_Mo_ahead (0, 0) 125 [vR B, vN, vN, vN, vN, vI (nI i'), vI (nI j'), vN] [] w Q := by
    intro i' j' q h1 h2 h3 h4 h5
    refine b_Mo_ahead_125 ⟨t, s_Mo_pt 0 hV hm h1 (by omega) rfl ⟨t, s_Mo_pt 0 hV hm h2 (by omega) rfl (by_if (fun g => bI_Q0 hQ (fun z => ?_)) (fun g => bI_Q1 hQ (h5.mpr (Int32.not_le.mp g))))⟩⟩
    exact Int32.not_lt.mpr g (h5.mp z)
  have b77 : ∀ q c i' j', q + c ≤ 15 → i' < h → j' < h → q ≤ dep (fun p => ob (o p) 3) (paF n o) (pi i) → q ≤ dep (fun p => ob (o p) 3) (paF n o) (pi j) → pi i' = la (fun p => ob (o p) 3) (paF n o) (pi i) q → pi j' = la (fun p => ob (o p) 3) (paF n o) (pi j) q → la (fun p => ob (o p) 3) (paF n o) (pi i) q ≠ la (fun p => ob (o p) 3) (paF n o) (pi j) q → (Ah (fun p => ob (o p) 3) (fun p => ob (o p) 0) (paF n o) (pi i) (pi j) ↔ Dl (fun p => ob (o p) 3) (fun p => ob (o p) 0) (paF n o) (pi i) (pi j) q) → mG (d + 3) m_Mo_ahead (0, 0) 77 [vR B, vN, vN, vN, vN, vI (nI i'), vI (nI j'), vI (nI c)] [] w Q := by
    intro q
    induction q with
    | zero =>
      intro c i' j' hc h1 h2 q1 q2 h3 h4 hne hA
      have s1 : ob (o (pi i')) 3 = 0 := by rw [h3]; exact la_0 hT hEi
      have s2 : ob (o (pi j')) 3 = 0 := by rw [h4]; exact la_0 hT hEj
      refine b_Mo_ahead_77 ?_
      rw [if_neg (ge_l 16 16 (b := c) rfl (by omega) (by omega))]
      refine ⟨t, s_Mo_pt 3 hV hm h1 (by omega) rfl ⟨t, s_Mo_pt 3 hV hm h2 (by omega) rfl ?_⟩⟩
      rw [if_pos (s1.trans s2.symm)]
      refine b125 i' j' 0 h1 h2 h3 h4 (hA.trans ?_)
      unfold Dl
      rw [h3, h4]
    | succ q ih =>
      intro c i' j' hc h1 h2 q1 q2 h3 h4 hne hA
      have hsl := la_sl hT hEi hEj q1 q2
      refine b_Mo_ahead_77 ?_
      rw [if_neg (ge_l 16 16 (b := c) rfl (by omega) (by omega)), nI_1]
      refine ⟨t, s_Mo_pt 3 hV hm h1 (by omega) rfl ⟨t, s_Mo_pt 3 hV hm h2 (by omega) rfl (by_if (fun g => ?_) (fun g => ?_))⟩⟩
      · rw [h3, h4] at g
        have g' := hsl.mp g
        refine b125 i' j' (q + 1) h1 h2 h3 h4 (hA.trans ?_)
        rw [h3, h4]
        exact ⟨fun z => z.elim (fun z => z.2) (fun z => absurd g' z.1), fun z => Or.inl ⟨g', z⟩⟩
      · rw [h3, h4] at g
        have g' : la (fun p => ob (o p) 3) (paF n o) (pi i) q ≠ la (fun p => ob (o p) 3) (paF n o) (pi j) q := fun z => g (hsl.mpr z)
        have E1 := la_E hT hEi q1
        have E2 := la_E hT hEj q2
        refine ⟨t, s_Mo_up (c := 1) hV hm hT h1 (by rw [h3]; exact E1.1) (by rw [h3, E1.2.1]; omega) rfl (fun i2 a1 a2 => ⟨t, s_Mo_up (c := 1) hV hm hT h2 (by rw [h4]; exact E2.1) (by rw [h4, E2.2.1]; omega) rfl (fun j2 c1 c2 => ?_)⟩)⟩
        refine ih (c + 1) i2 j2 (by omega) a1 c1 (by omega) (by omega) ?_ ?_ g' (hA.trans ?_)
        · rw [a2, h3]; exact (la_up hT hEi q1).2
        · rw [c2, h4]; exact (la_up hT hEj q2).2
        · exact ⟨fun z => z.elim (fun z => absurd z.1 g') (fun z => z.2), fun z => Or.inr ⟨g', z⟩⟩
  have b53 : ∀ i' j', i' < h → j' < h → pi i' = la (fun p => ob (o p) 3) (paF n o) (pi i) (min (dep (fun p => ob (o p) 3) (paF n o) (pi i)) (dep (fun p => ob (o p) 3) (paF n o) (pi j))) → pi j' = la (fun p => ob (o p) 3) (paF n o) (pi j) (min (dep (fun p => ob (o p) 3) (paF n o) (pi i)) (dep (fun p => ob (o p) 3) (paF n o) (pi j))) → mG (d + 3) m_Mo_ahead (0, 0) 53 [vR B, vN, vN, vI (nI (dep (fun p => ob (o p) 3) (paF n o) (pi i))), vI (nI (dep (fun p => ob (o p) 3) (paF n o) (pi j))), vI (nI i'), vN, vN] [.int (nI j')] w Q := by
    intro i' j' h1 h2 h3 h4
    refine b_Mo_ahead_53 (by_if (fun g => ?_) (fun g => ?_))
    · rw [nI_eq (by omega) (by omega)] at g
      rw [g] at h3
      have e := h3.symm.trans h4
      refine by_if (fun g2 => bI_Q0 hQ ?_) (fun g2 => bI_Q1 hQ (Or.inl ⟨e, ?_⟩))
      · rw [nI_leI (by omega) (by omega)] at g2
        rintro (⟨-, z⟩ | ⟨z, -⟩)
        · omega
        · exact z e
      · rw [nI_leI (by omega) (by omega)] at g2
        omega
    · rw [nI_eq (by omega) (by omega)] at g
      have hne : la (fun p => ob (o p) 3) (paF n o) (pi i) (min (dep (fun p => ob (o p) 3) (paF n o) (pi i)) (dep (fun p => ob (o p) 3) (paF n o) (pi j))) ≠ la (fun p => ob (o p) 3) (paF n o) (pi j) (min (dep (fun p => ob (o p) 3) (paF n o) (pi i)) (dep (fun p => ob (o p) 3) (paF n o) (pi j))) := by
        intro z
        rw [← h3, ← h4] at z
        exact g (hV.inj h1 h2 z)
      have := b77 _ 0 i' j' (by omega) h1 h2 (Nat.min_le_left _ _) (Nat.min_le_right _ _) h3 h4 hne ⟨fun z => z.elim (fun z => absurd z.1 hne) (fun z => z.2), fun z => Or.inr ⟨hne, z⟩⟩
      rw [nI_0] at this
      exact this
  have b32 : ∀ i', i' < h → pi i' = la (fun p => ob (o p) 3) (paF n o) (pi i) (min (dep (fun p => ob (o p) 3) (paF n o) (pi i)) (dep (fun p => ob (o p) 3) (paF n o) (pi j))) → mG (d + 3) m_Mo_ahead (0, 0) 32 [vR B, vN, vI (nI j), vI (nI (dep (fun p => ob (o p) 3) (paF n o) (pi i))), vI (nI (dep (fun p => ob (o p) 3) (paF n o) (pi j))), vN, vN, vN] [.int (nI i')] w Q := by
    intro i' h1 h3
    refine b_Mo_ahead_32 (by_if (fun g => ?_) (fun g => ⟨t, ?_⟩))
    · rw [nI_leI (by omega) (by omega)] at g
      refine b53 i' j h1 hj h3 ?_
      rw [show min (dep (fun p => ob (o p) 3) (paF n o) (pi i)) (dep (fun p => ob (o p) 3) (paF n o) (pi j)) = dep (fun p => ob (o p) 3) (paF n o) (pi j) by omega]
      exact lt_b.symm
    · rw [nI_leI (by omega) (by omega)] at g
      refine s_Mo_up hV hm hT hj hEj (c := dep (fun p => ob (o p) 3) (paF n o) (pi j) - dep (fun p => ob (o p) 3) (paF n o) (pi i)) (by omega) (nI_sub (by omega)) (fun j' a1 a2 => b53 i' j' h1 a1 h3 ?_)
      rw [show min (dep (fun p => ob (o p) 3) (paF n o) (pi i)) (dep (fun p => ob (o p) 3) (paF n o) (pi j)) = dep (fun p => ob (o p) 3) (paF n o) (pi i) by omega]
      exact a2
  refine e_Mo_ahead ⟨t, s_Mo_steps hV hm hT hi hEi ⟨t, s_Mo_steps hV hm hT hj hEj (by_if (fun g => b32 i hi ?_) (fun g => ⟨t, ?_⟩))⟩⟩
  · rw [nI_leI (by omega) (by omega)] at g
    rw [show min (dep (fun p => ob (o p) 3) (paF n o) (pi i)) (dep (fun p => ob (o p) 3) (paF n o) (pi j)) = dep (fun p => ob (o p) 3) (paF n o) (pi i) by omega]
    exact lt_a.symm
  · rw [nI_leI (by omega) (by omega)] at g
    refine s_Mo_up hV hm hT hi hEi (c := dep (fun p => ob (o p) 3) (paF n o) (pi i) - dep (fun p => ob (o p) 3) (paF n o) (pi j)) (by omega) (nI_sub (by omega)) (fun j' a1 a2 => b32 j' a1 ?_)
    rw [show min (dep (fun p => ob (o p) 3) (paF n o) (pi i)) (dep (fun p => ob (o p) 3) (paF n o) (pi j)) = dep (fun p => ob (o p) 3) (paF n o) (pi j) by omega]
    exact a2
end SMEL
