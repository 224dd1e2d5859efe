/-! the model: entries, elements that are gone, depth -/
theorem kd_nn {c : mO} (h : okO c) : (ob c 1 ≤ 2 ↔ wmP (ob c 1) ∧ ob c 1 ≠ 5) ∧ ((ob c 1 ≤ 2 ∨ ob c 1 = 5) ↔ wmP (ob c 1)) := by
  have h6 := h.2.2.2.2.2.2
  have hk : (ob c 1 = 0 ∨ ob c 1 = 1 ∨ ob c 1 = 2 ∨ ob c 1 = 5) ∨ ob c 1 = 3 ∨ ob c 1 = 4 := by
    rcases h6 with ⟨h6, -⟩ | ⟨h6, -⟩ | ⟨h6, -⟩
    · exact Or.inl h6
    · exact Or.inr (Or.inl h6)
    · exact Or.inr (Or.inr h6)
  rcases hk with (e | e | e | e) | e | e <;> rw [e] <;> unfold wmP <;> decide
theorem m1m1 : ∀ a, a < 17 → (-1 : Int32) - ((-1 : Int32) - nI a) = nI a := by decide +kernel
theorem m1lt : ∀ a, a < 17 → (-1 : Int32) - nI a < 0 := by decide +kernel
theorem eL_hit {P : Nat → Prop} {f : Nat → Int32} {n a : Nat} (h : a < (eL P f n).length) : ∃ i, i < n ∧ P i ∧ (eL P f i).length = a := by
  induction n with
  | zero => exact absurd h (Nat.not_lt_zero _)
  | succ n ih =>
    by_cases hp : P n
    · rw [eL_t hp, List.length_append, List.length_singleton] at h
      by_cases e : a = (eL P f n).length
      · exact ⟨n, by omega, hp, e.symm⟩
      · obtain ⟨i, h1, h2, h3⟩ := ih (by omega)
        exact ⟨i, by omega, h2, h3⟩
    · rw [eL_f hp] at h
      obtain ⟨i, h1, h2, h3⟩ := ih h
      exact ⟨i, by omega, h2, h3⟩
theorem eL_at {P : Nat → Prop} {f : Nat → Int32} {n i : Nat} (hi : i < n) (hp : P i) : (eL P f i).length < (eL P f n).length ∧ ob (eL P f n) (eL P f i).length = f i := by
  obtain ⟨h1, h2⟩ := eL_pre P f (i := i + 1) (n := n) (by omega)
  have e := eL_t (f := f) hp
  rw [e, List.length_append, List.length_singleton] at h1
  refine ⟨by omega, ?_⟩
  rw [h2 _ (by rw [e, List.length_append, List.length_singleton]; omega), e, ob_app, if_neg (by omega), Nat.sub_self]
  rfl
/-- where the k-th of a list by id lies: a slot, or how many there are -/
def epR (n h : Nat) (pi sg : Nat → Nat) (P : Nat → Prop) (f : Nat → Int32) (k v : Int32) : Prop := (∃ i j, i < n ∧ j < h ∧ P i ∧ pi j = sg i ∧ v = nI j ∧ k = nI (eL P f i).length) ∨ (v = -1 - nI (eL P f n).length ∧ ∀ i, i < n → P i → k ≠ nI (eL P f i).length)
theorem epR_lgt {n h : Nat} {pi sg : Nat → Nat} {P : Nat → Prop} {f : Nat → Int32} {k v : Int32} (hn : n ≤ 16) (hh : h ≤ 16) (hk : (-1 : Int32) ≤ k) (he : epR n h pi sg P f k v) : (k = -1 → -1 - v = lgt (eL P f n) k) ∧ (k ≠ -1 → (∃ i j, i < n ∧ j < h ∧ pi j = sg i ∧ v = nI j ∧ f i = lgt (eL P f n) k) ∨ (v < 0 ∧ lgt (eL P f n) k = -1)) := by
  have hl := eL_len P f n
  unfold lgt
  rcases he with ⟨i, j, h1, h2, h3, h4, h5, h6⟩ | ⟨h1, h2⟩
  · have hli := eL_len P f i
    have hne : ¬ k = -1 := by rw [h6]; exact nI_m1 (by omega)
    refine ⟨fun z => absurd z hne, fun _ => Or.inl ⟨i, j, h1, h2, h4, h5, ?_⟩⟩
    obtain ⟨g1, g2⟩ := eL_at (f := f) h1 h3
    rw [if_neg hne, h6, if_neg (nI_pos (by omega)), if_neg (nI_ge g1 (by omega)), nI_clamp (by omega), g2]
  · refine ⟨fun z => ?_, fun z => Or.inr ⟨?_, ?_⟩⟩
    · rw [if_pos z, h1]; exact m1m1 _ (by omega)
    · rw [h1]; exact m1lt _ (by omega)
    · rw [if_neg z]
      by_cases h0 : k < 0
      · rw [if_pos h0]
      · rw [if_neg h0]
        obtain ⟨a, ha, rfl⟩ := nI_of h0
        by_cases g : a < (eL P f n).length
        · obtain ⟨i, q1, q2, q3⟩ := eL_hit g
          exact absurd (by rw [q3]) (h2 i q1 q2)
        · rw [if_pos (nI_le (by omega) ha)]
section SMN
variable {d : Nat} {w : mW} {Q : Int32 → mW → Prop} {B r n h : Nat} {o : Nat → mO} {pm : Nat → Int32} {ft : Nat → Prop} {sg : Nat → Nat} {pi ro : Nat → Nat} {x y z k m : Int32}
theorem s_Mo_isEntry {j : Nat} (hV : MV w B r n h o pi ro) (hm : mI w B 7 = nI r) (hS : ST w B h n pi pm ft) (hj : j < h) (hQ : Q (bI (pi j < n ∧ enP n o pm ft (pi j))) w) : mC (d + 1) m_Mo_isEntry [.ref B, .int (nI j)] w Q := by
  have r3 := hV.r3
  have h16 := hV.h16
  have nh := hV.nh
  obtain ⟨b0, t, ⟨-, p1, -⟩, ⟨p8, p9, -⟩, -, ⟨t2, l2⟩, -, -, -, -, ⟨t7, l7⟩, ⟨t8, l8⟩, -⟩ := hV.sh
  refine e_Mo_isEntry ⟨t, s_Mo_done hV hm hj (bI_ite (fun e => bI_Q0 hQ (fun z => e z.1)) (fun e => ?_))⟩
  rw [p8, nI_clamp (by omega), (hS j hj e).1, l7]
  refine ⟨t, by omega, t7, vp_in_nI (by omega) (by omega), bI_ite (fun e2 => bI_Q0 hQ (fun z => e2 z.2.1)) (fun e2 => s_Mo_pt 1 hV hm hj (by omega) rfl ?_)⟩
  have kj := kd_nn (hV.ok _ (hV.pi j hj).1)
  refine by_if (fun e3 => ?_) (fun e3 => bI_Q0 hQ (fun z => e3 (kj.1.mpr ⟨z.2.2.1, z.2.2.2.1⟩)))
  have loop : ∀ c i (P : Prop), i + c = h → (P ↔ ∀ q, q < i → ¬ (pi q < n ∧ bitA (pm (pi q)) (pi j) ∧ wpP o ft (ob (o (pi j)) 2) (ob (o (pi j)) 3) (pi q))) → mG (d + 1) m_Mo_isEntry (0, 0) 33 [vR B, vI (nI j), vI (bI P), vI (nI i), vN, vN] [] w Q := by
    intro c
    induction c with
    | zero =>
      intro i P hi hP
      refine b_Mo_isEntry_33 ?_
      rw [p1, hm, nI_clamp (by omega), hV.hd, l2, if_pos (nI_le (by omega) (by omega))]
      refine ⟨t, by omega, t2, vp_in_nI (by omega) (by omega), bI_and _, ?_⟩
      rw [show bI P = bI (pi j < n ∧ enP n o pm ft (pi j)) from bI_iff ?_]
      · exact hQ
      · rw [hP]
        constructor
        · intro g
          refine ⟨e, e2, (kj.1.mp e3).1, (kj.1.mp e3).2, fun p' hp' hb hw => ?_⟩
          have hro := hV.ro p' (by omega)
          refine g (ro p') (by omega) ?_
          rw [hro.2]
          exact ⟨hp', hb, hw⟩
        · rintro ⟨-, -, -, -, g⟩ q hq ⟨z1, z2, z3⟩
          exact g _ z1 z2 z3
    | succ c ih =>
      intro i P hi hP
      have hih : i < h := by omega
      refine b_Mo_isEntry_33 ?_
      rw [p1, hm, nI_clamp (by omega), hV.hd, l2, if_neg (nI_ge (by omega) (by omega))]
      have step : ∀ P' : Prop, (P' ↔ P ∧ ¬ (pi i < n ∧ bitA (pm (pi i)) (pi j) ∧ wpP o ft (ob (o (pi j)) 2) (ob (o (pi j)) 3) (pi i))) → mG (d + 1) m_Mo_isEntry (0, 0) 33 [vR B, vI (nI j), vI (bI P'), vI (nI (i + 1)), vN, vN] [] w Q := by
        intro P' hP'
        refine ih (i + 1) P' (by omega) ?_
        rw [hP', hP]
        refine ⟨fun g q hq => ?_, fun g => ⟨fun q hq => g q (by omega), g i (by omega)⟩⟩
        by_cases e4 : q = i
        · rw [e4]; exact g.2
        · exact g.1 q (by omega)
      have stepT : P → ¬ (pi i < n ∧ bitA (pm (pi i)) (pi j) ∧ wpP o ft (ob (o (pi j)) 2) (ob (o (pi j)) 3) (pi i)) → mG (d + 1) m_Mo_isEntry (0, 0) 33 [vR B, vI (nI j), vI (1 : Int32), vI (nI (i + 1)), vN, vN] [] w Q := by
        intro g1 g2
        have := step True ⟨fun _ => ⟨g1, g2⟩, fun _ => trivial⟩
        rw [bI_t trivial] at this
        exact this
      have stepF : ¬ (P ∧ ¬ (pi i < n ∧ bitA (pm (pi i)) (pi j) ∧ wpP o ft (ob (o (pi j)) 2) (ob (o (pi j)) 3) (pi i))) → mG (d + 1) m_Mo_isEntry (0, 0) 33 [vR B, vI (nI j), vI (0 : Int32), vI (nI (i + 1)), vN, vN] [] w Q := by
        intro g1
        have := step False ⟨fun z => z.elim, g1⟩
        rw [bI_f not_false] at this
        exact this
      have b0' : ¬ (pi i < n ∧ wpP o ft (ob (o (pi j)) 2) (ob (o (pi j)) 3) (pi i)) → mG (d + 1) m_Mo_isEntry (0, 0) 118 [vR B, vI (nI j), vI (bI P), vI (nI i), vN, vN] [.int (0 : Int32)] w Q := by
        intro g
        refine b_Mo_isEntry_118 ?_
        rw [nI_1, if_pos rfl]
        exact bI_ite (fun q => stepF (fun z => q z.1)) (fun q => stepT q (fun z => g ⟨z.1, z.2.2⟩))
      have b1' : (pi i < n ∧ wpP o ft (ob (o (pi j)) 2) (ob (o (pi j)) 3) (pi i)) → mG (d + 1) m_Mo_isEntry (0, 0) 118 [vR B, vI (nI j), vI (bI P), vI (nI i), vN, vN] [.int (1 : Int32)] w Q := by
        intro g
        refine b_Mo_isEntry_118 ?_
        rw [nI_1, if_neg (show ¬ (1 : Int32) = 0 by decide), p9, nI_clamp (by omega), l8]
        have hbit := (hS i hih g.1).2 j hj
        exact bI_ite (fun q => stepF (fun z => q z.1)) (fun q => ⟨t, by omega, t8, vp_in_nI (by omega) (by omega), by_if (fun q2 => stepF (fun z => z.2 ⟨g.1, hbit.mp q2, g.2⟩)) (fun q2 => stepT q (fun z => q2 (hbit.mpr z.2.1)))⟩)
      have b83 : pi i < n → ft (pi i) → wmP (ob (o (pi i)) 1) → mG (d + 1) m_Mo_isEntry (0, 0) 83 [vR B, vI (nI j), vI (bI P), vI (nI i), vN, vN] [] w Q := by
        intro g1 g2 g3
        refine b_Mo_isEntry_83 ⟨t, s_Mo_pt 2 hV hm hih (by omega) rfl ⟨t, s_Mo_pt 2 hV hm hj (by omega) rfl (by_if (fun q => ⟨t, s_Mo_pt 3 hV hm hih (by omega) rfl ⟨t, s_Mo_pt 3 hV hm hj (by omega) rfl (by_if (fun q2 => b1' ⟨g1, g2, g3, q, q2⟩) (fun q2 => b0' (fun z => q2 z.2.2.2.2)))⟩⟩) (fun q => b0' (fun z => q z.2.2.2.1)))⟩⟩
      have ki := kd_nn (hV.ok _ (hV.pi i hih).1)
      refine ⟨t, by omega, t2, vp_in_nI (by omega) (by omega), s_Mo_pt 1 hV hm hih (by omega) rfl ⟨t, s_Mo_done hV hm hih (bI_ite (fun q => b0' (fun z => q z.1)) (fun q => ?_))⟩⟩
      rw [p8, nI_clamp (by omega), (hS i hih q).1, l7]
      exact ⟨t, by omega, t7, vp_in_nI (by omega) (by omega), bI_ite (fun q2 => b0' (fun z => q2 z.2.1)) (fun q2 => by_if (fun q3 => b83 q q2 (ki.2.mp (Or.inl q3))) (fun q3 => by_if (fun q4 => b83 q q2 (ki.2.mp (Or.inr q4))) (fun q4 => b0' (fun z => (ki.2.mpr z.2.2.1).elim q3 q4))))⟩
  have h0 := loop h 0 True (by omega) ⟨fun _ q hq => by omega, fun _ => trivial⟩
  rw [nI_0, bI_t trivial] at h0
  exact h0
theorem s_Mo_entryPlace (hV : MV w B r n h o pi ro) (hm : mI w B 7 = nI r) (hS : ST w B h n pi pm ft) (hs : SgOk n o sg) (hQ : ∀ v, epR n h pi sg (fun i => eaP n o pm ft m y (sg i)) (fun i => ob (o (sg i)) 0) k v → Q v w) : mC (d + 2) m_Mo_entryPlace [.ref B, .int m, .int y, .int k] w Q := by
  have h16 := hV.h16
  have nh := hV.nh
  have t := hV.sh.2.1
  have hun := unq_sub hV.uq nh
  have hinj : ∀ i j, i < n → j < n → sg i = sg j → i = j := by
    intro i j hi hj e
    by_cases hij : i = j
    · exact hij
    · exfalso
      rcases Nat.lt_or_gt_of_ne hij with g | g
      · have := hs.2 i j g hj; rw [e] at this; exact Int32.lt_irrefl this
      · have := hs.2 j i g hi; rw [e] at this; exact Int32.lt_irrefl this
  have hid : ∀ p, p < n → ∃ m, ob (o p) 0 = nI m ∧ 4 ≤ m ∧ m < 163 := fun p hp => by
    obtain ⟨m, e, m1, m2, -⟩ := isIdP_of (hV.ok p (by omega)).2.1
    exact ⟨m, e, m1, m2⟩
  have loop : ∀ e id i, id + e = 163 → i ≤ n → (∀ q, q < i → ob (o (sg q)) 0 < nI id) → (∀ q, i ≤ q → q < n → ¬ ob (o (sg q)) 0 < nI id) → (∀ q, q < i → eaP n o pm ft m y (sg q) → k ≠ nI (eL (fun i => eaP n o pm ft m y (sg i)) (fun i => ob (o (sg i)) 0) q).length) → mG (d + 2) m_Mo_entryPlace (0, 0) 6 [vR B, vI m, vI y, vI k, vI (nI (eL (fun i => eaP n o pm ft m y (sg i)) (fun i => ob (o (sg i)) 0) i).length), vI (nI id), vN] [] w Q := by
    intro e
    induction e with
    | zero =>
      intro id i he hi h1 h2 h3
      have he' : id = 163 := by omega
      subst he'
      have hin : i = n := by
        by_cases g : i = n
        · exact g
        · exfalso
          obtain ⟨m', em, -, m2⟩ := hid (sg i) (hs.1 i (by omega))
          refine h2 i (by omega) (by omega) ?_
          rw [em]
          exact nI_lt m2 (by omega)
      subst hin
      refine b_Mo_entryPlace_6 ?_
      rw [if_pos (show (162 : Int32) < nI 163 by decide)]
      exact hQ _ (Or.inr ⟨rfl, h3⟩)
    | succ e ih =>
      intro id i he hi h1 h2 h3
      refine b_Mo_entryPlace_6 ?_
      rw [if_neg (show ¬ (162 : Int32) < nI id from nI_nlt (a := 162) (b := id) (by omega) (by omega)), nI_1 id]
      have lts : ∀ p, p < n → (ob (o p) 0 < nI (id + 1) ↔ ob (o p) 0 < nI id ∨ ob (o p) 0 = nI id) := by
        intro p hp
        obtain ⟨m', em, -, m2⟩ := hid p hp
        rw [em, nI_ltI (by omega) (by omega), nI_ltI (by omega) (by omega), nI_eq (by omega) (by omega)]
        omega
      refine ⟨t, s_Mo_find1 hV hm (fun u hu => ?_)⟩
      rcases hu with ⟨rfl, hu⟩ | ⟨j, j1, j2, rfl, j4⟩
      · rw [if_pos (by decide)]
        refine ih (id + 1) i (by omega) hi (fun q hq => (lts _ (hs.1 q (by omega))).mpr (Or.inl (h1 q hq))) (fun q hq hq2 z => ?_) h3
        exact ((lts _ (hs.1 q hq2)).mp z).elim (h2 q hq hq2) (fun z => hu _ (hs.1 q hq2) z)
      · rw [if_neg (nI_pos (by omega))]
        obtain ⟨q, hq, eq⟩ := pg_onto n sg hs.1 hinj (pi j) j2
        have hqi : q = i := by
          by_cases g1 : q < i
          · have := h1 q g1
            rw [eq, j4] at this
            exact absurd this Int32.lt_irrefl
          · by_cases g2 : q = i
            · exact g2
            · exfalso
              have := hs.2 i q (by omega) hq
              rw [eq, j4] at this
              exact h2 i (by omega) (by omega) this
        subst hqi
        have nx1 : ∀ a, a < q + 1 → ob (o (sg a)) 0 < nI (id + 1) := by
          intro a ha
          rw [lts _ (hs.1 a (by omega))]
          by_cases g : a = q
          · rw [g, eq]; exact Or.inr j4
          · exact Or.inl (h1 a (by omega))
        have nx2 : ∀ a, q + 1 ≤ a → a < n → ¬ ob (o (sg a)) 0 < nI (id + 1) := by
          intro a ha ha2 z
          rcases (lts _ (hs.1 a ha2)).mp z with z | z
          · exact h2 a (by omega) ha2 z
          · have := hs.2 q a (by omega) ha2
            rw [z, eq, j4] at this
            exact Int32.lt_irrefl this
        have skip : ¬ eaP n o pm ft m y (sg q) → mG (d + 2) m_Mo_entryPlace (0, 0) 6 [vR B, vI m, vI y, vI k, vI (nI (eL (fun i => eaP n o pm ft m y (sg i)) (fun i => ob (o (sg i)) 0) q).length), vI (nI (id + 1)), vN] [] w Q := by
          intro g
          have := ih (id + 1) (q + 1) (by omega) (by omega) nx1 nx2 (fun a ha ga => by
            by_cases e2 : a = q
            · rw [e2] at ga; exact absurd ga g
            · exact h3 a (by omega) ga)
          rw [eL_f (P := fun i => eaP n o pm ft m y (sg i)) g] at this
          exact this
        refine ⟨t, s_Mo_pt 2 hV hm j1 (by omega) rfl (by_if (fun g2 => ⟨t, s_Mo_pt 3 hV hm j1 (by omega) rfl (by_if (fun g3 => ⟨t, s_Mo_isEntry hV hm hS j1 (bI_ite (fun g4 => skip (fun z => ?_)) (fun g4 => ?_))⟩) (fun g3 => skip (fun z => ?_)))⟩) (fun g2 => skip (fun z => ?_)))⟩
        · rw [eq] at z; exact g4 ⟨j2, z.2.2⟩
        · have hea : eaP n o pm ft m y (sg q) := by rw [eq]; exact ⟨g2, g3, g4.2⟩
          refine by_if (fun g5 => hQ _ (Or.inl ⟨q, j, hq, j1, hea, eq.symm, rfl, g5.symm⟩)) (fun g5 => ?_)
          have := ih (id + 1) (q + 1) (by omega) (by omega) nx1 nx2 (fun a ha ga => by
            by_cases e2 : a = q
            · rw [e2]; exact fun z => g5 z.symm
            · exact h3 a (by omega) ga)
          rw [eL_t (P := fun i => eaP n o pm ft m y (sg i)) hea, List.length_append, List.length_singleton] at this
          rw [nI_1]
          exact this
        · rw [eq] at z; exact g3 z.2.1
        · rw [eq] at z; exact g2 z.1
  have h0 := loop 159 4 0 (by omega) (by omega) (fun q hq => by omega) (fun q _ hq => by
    obtain ⟨m', em, m1, m2⟩ := hid (sg q) (hs.1 q hq)
    rw [em]
    exact nI_nlt m1 (by omega)) (fun q hq => by omega)
  exact e_Mo_entryPlace h0
theorem s_Mo_entry (hV : MV w B r n h o pi ro) (hB : ∀ j, j < n → ∀ x, hb (o j) x → ∃ q, q < j ∧ ob (o q) 0 = x) (hP : PmOk n o pm) (hT : FtOk n o ft) (hs : SgOk n o sg)
    (hN : ¬ ((m = 0 ∨ kdP n o m 1) ∧ isKy y) → ∀ w', mSc B w w' → Q (-1) w') (hQ : ((m = 0 ∨ kdP n o m 1) ∧ isKy y) → ∀ w', mSc B w w' → Q (lgt (eL (fun i => eaP n o pm ft m y (sg i)) (fun i => ob (o (sg i)) 0) n) k) w') : mC (d + 4) m_Mo_entry [.ref B, .int (nI r), .int m, .int y, .int k] w Q := by
  have r3 := hV.r3
  have h16 := hV.h16
  have nh := hV.nh
  have t := hV.sh.2.1
  refine e_Mo_entry (s_Mo_isReplica (bI_ite (fun e => absurd (isR_nI r3) e) (fun e => by_if (fun e1 => hN (fun z => z.2.1 e1) w (mSc.rf B w)) (fun e1 => by_if (fun e2 => hN (fun z => (ky3 e1).mpr z.2 e2) w (mSc.rf B w)) (fun e2 => by_if (fun e3 => ⟨t, s_Mo_study hV hB hP hT (fun w1 a1 a2 a3 a4 => ?_)⟩) (fun e3 => ?_))))))
  · have t1 := a2.sh.2.1
    have b44 : (m = 0 ∨ kdP n o m 1) → mG (d + 4) m_Mo_entry (0, 0) 44 [vR B, vN, vI m, vI y, vI k, vN] [] w1 Q := by
      intro g
      have hQ := hQ ⟨g, (ky3 e1).mp e2⟩ w1 a1
      refine b_Mo_entry_44 ⟨t1, s_Mo_entryPlace a2 a3 a4 hs (fun v hv => ?_)⟩
      obtain ⟨c1, c2⟩ := epR_lgt (by omega) h16 e3 hv
      refine by_if (fun q => by rw [c1 q]; exact hQ) (fun q => ?_)
      rcases c2 q with ⟨i, j, i1, i2, i3, rfl, i5⟩ | ⟨i1, i2⟩
      · rw [if_pos (nI_pos' (by omega))]
        refine ⟨t1, s_Mo_pt 0 a2 a3 i2 (by omega) rfl ?_⟩
        rw [i3, i5]
        exact hQ
      · rw [if_neg (Int32.not_le.mpr i1), ← i2]
        exact hQ
    exact by_if (fun g => b44 (Or.inl g)) (fun g => ⟨t1, s_Mo_isKind a2 a3 (bI_ite (fun g2 => hN (fun z => z.1.elim g g2) w1 a1) (fun g2 => b44 (Or.inr g2)))⟩)
  · by_cases g : (m = 0 ∨ kdP n o m 1) ∧ isKy y
    · have hQ := hQ g w (mSc.rf B w)
      have h1 : k < -1 := Int32.not_le.mp e3
      have h2 : ¬ k = -1 := fun z => by rw [z] at h1; exact absurd h1 (by decide)
      have h3 : k < 0 := Int32.lt_trans h1 (by decide)
      unfold lgt at hQ
      rw [if_neg h2, if_pos h3] at hQ
      exact hQ
    · exact hN g w (mSc.rf B w)
theorem s_Mo_isElement {j : Nat} (hV : MV w B r n h o pi ro) (hm : mI w B 7 = nI r) (hS : ST w B h n pi pm ft) (hj : j < h) (hQ : Q (bI (pi j < n ∧ elP o ft x (pi j))) w) : mC (d + 1) m_Mo_isElement [.ref B, .int (nI j), .int x] w Q := by
  have h16 := hV.h16
  obtain ⟨b0, t, -, ⟨p8, -⟩, -, -, -, -, -, -, ⟨t7, l7⟩, -⟩ := hV.sh
  refine e_Mo_isElement ⟨t, s_Mo_done hV hm hj (bI_ite (fun e => bI_Q0 hQ (fun z => e z.1)) (fun e => ?_))⟩
  rw [p8, nI_clamp (by omega), (hS j hj e).1, l7]
  exact ⟨t, by omega, t7, vp_in_nI (by omega) (by omega), bI_ite (fun e2 => bI_Q0 hQ (fun z => e2 z.2.1)) (fun e2 => s_Mo_pt 1 hV hm hj (by omega) rfl (by_if (fun e3 => ⟨t, s_Mo_pt 2 hV hm hj (by omega) rfl (by_if (fun e4 => bI_Q1 hQ ⟨e, e2, e3, e4⟩) (fun e4 => bI_Q0 hQ (fun z => e4 z.2.2.2)))⟩) (fun e3 => bI_Q0 hQ (fun z => e3 z.2.2.1))))⟩
theorem s_Mo_gone {j : Nat} (hV : MV w B r n h o pi ro) (hm : mI w B 7 = nI r) (hS : ST w B h n pi pm ft) (hj : j < h) (hQ : Q (bI (goP n o ft (ob (o (pi j)) 0))) w) : mC (d + 1) m_Mo_gone [.ref B, .int (nI j)] w Q := by
  have r3 := hV.r3
  have h16 := hV.h16
  have nh := hV.nh
  obtain ⟨b0, t, ⟨-, p1, -⟩, ⟨p8, -⟩, -, ⟨t2, l2⟩, -, -, -, -, ⟨t7, l7⟩, -⟩ := hV.sh
  have loop : ∀ c i (P : Prop), i + c = h → (P ↔ ∃ q, q < i ∧ pi q < n ∧ ft (pi q) ∧ ob (o (pi q)) 1 = 4 ∧ ob (o (pi q)) 2 = ob (o (pi j)) 0) → mG (d + 1) m_Mo_gone (0, 0) 4 [vR B, vI (nI j), vI (bI P), vI (nI i)] [] w Q := by
    intro c
    induction c with
    | zero =>
      intro i P hi hP
      refine b_Mo_gone_4 ?_
      rw [p1, hm, nI_clamp (by omega), hV.hd, l2, if_pos (nI_le (by omega) (by omega))]
      refine ⟨t, by omega, t2, vp_in_nI (by omega) (by omega), bI_and _, ?_⟩
      rw [show bI P = bI (goP n o ft (ob (o (pi j)) 0)) from bI_iff ?_]
      · exact hQ
      · rw [hP]
        constructor
        · rintro ⟨q, -, z⟩
          exact ⟨pi q, z⟩
        · rintro ⟨p, z1, z2⟩
          have hro := hV.ro p (by omega)
          exact ⟨ro p, by omega, by rw [hro.2]; exact ⟨z1, z2⟩⟩
    | succ c ih =>
      intro i P hi hP
      have hih : i < h := by omega
      refine b_Mo_gone_4 ?_
      rw [p1, hm, nI_clamp (by omega), hV.hd, l2, if_neg (nI_ge (by omega) (by omega)), nI_1]
      have step : ∀ P' : Prop, (P' ↔ P ∨ (pi i < n ∧ ft (pi i) ∧ ob (o (pi i)) 1 = 4 ∧ ob (o (pi i)) 2 = ob (o (pi j)) 0)) → mG (d + 1) m_Mo_gone (0, 0) 4 [vR B, vI (nI j), vI (bI P'), vI (nI (i + 1))] [] w Q := by
        intro P' hP'
        refine ih (i + 1) P' (by omega) ?_
        rw [hP', hP]
        constructor
        · rintro (⟨q, q1, q2⟩ | z)
          · exact ⟨q, by omega, q2⟩
          · exact ⟨i, by omega, z⟩
        · rintro ⟨q, q1, q2⟩
          by_cases e : q = i
          · rw [e] at q2; exact Or.inr q2
          · exact Or.inl ⟨q, by omega, q2⟩
      have stepT : (P ∨ (pi i < n ∧ ft (pi i) ∧ ob (o (pi i)) 1 = 4 ∧ ob (o (pi i)) 2 = ob (o (pi j)) 0)) → mG (d + 1) m_Mo_gone (0, 0) 4 [vR B, vI (nI j), vI (1 : Int32), vI (nI (i + 1))] [] w Q := by
        intro z
        have := step True ⟨fun _ => z, fun _ => trivial⟩
        rw [bI_t trivial] at this
        exact this
      have stepF : ¬ (P ∨ (pi i < n ∧ ft (pi i) ∧ ob (o (pi i)) 1 = 4 ∧ ob (o (pi i)) 2 = ob (o (pi j)) 0)) → mG (d + 1) m_Mo_gone (0, 0) 4 [vR B, vI (nI j), vI (0 : Int32), vI (nI (i + 1))] [] w Q := by
        intro z
        have := step False ⟨fun y => y.elim, z⟩
        rw [bI_f not_false] at this
        exact this
      refine ⟨t, by omega, t2, vp_in_nI (by omega) (by omega), bI_ite (fun q => s_Mo_done hV hm hih (bI_ite (fun q2 => stepF (fun z => z.elim q (fun z => q2 z.1))) (fun q2 => ?_))) (fun q => stepT (Or.inl q))⟩
      rw [p8, nI_clamp (by omega), (hS i hih q2).1, l7]
      exact ⟨t, by omega, t7, vp_in_nI (by omega) (by omega), bI_ite (fun q3 => stepF (fun z => z.elim q (fun z => q3 z.2.1))) (fun q3 => s_Mo_pt 1 hV hm hih (by omega) rfl (by_if (fun q4 => ⟨t, s_Mo_pt 2 hV hm hih (by omega) rfl ⟨t, s_Mo_pt 0 hV hm hj (by omega) rfl (by_if (fun q5 => stepT (Or.inr ⟨q2, q3, q4, q5⟩)) (fun q5 => stepF (fun z => z.elim q (fun z => q5 z.2.2.2))))⟩⟩) (fun q4 => stepF (fun z => z.elim q (fun z => q4 z.2.2.1)))))⟩
  have h0 := loop h 0 False (by omega) ⟨fun z => z.elim, fun ⟨q, z, _⟩ => by omega⟩
  rw [nI_0, bI_f not_false] at h0
  exact e_Mo_gone h0
theorem s_Mo_depth {v : Int32} (hV : MV w B r n h o pi ro) (hM : MI (nI r) n h o) (hP : PmOk n o pm) (hT : FtOk n o ft) (hv : dpR n o pm ft 17 0 y v) (hQ : ∀ w', mSc B w w' → Q v w') : mC (d + 4) m_Mo_depth [.ref B, .int (nI r), .int y] w Q := by
  have r3 := hV.r3
  have h16 := hV.h16
  have nh := hV.nh
  have t := hV.sh.2.1
  have hun := unq_sub hV.uq nh
  have late := MI_late hM nh hV.uq
  refine e_Mo_depth (s_Mo_isReplica (bI_ite (fun e => absurd (isR_nI r3) e) (fun e => ⟨t, s_Mo_study hV hM.2.1 hP hT (fun w1 a1 a2 a3 a4 => ?_)⟩)))
  have hQ := hQ w1 a1
  obtain ⟨b0, t1, -, ⟨p8, -⟩, -, -, -, -, -, -, ⟨t7, l7⟩, -⟩ := a2.sh
  have loop : ∀ f l x, l + f = 17 → 1 ≤ f → (∀ p, p < n → ob (o p) 0 = x → p + l < n) → dpR n o pm ft f l x v → mG (d + 4) m_Mo_depth (0, 0) 19 [vR B, vN, vN, vI x, vI (nI l), vN, vN] [] w1 Q := by
    intro f
    induction f with
    | zero => intro l x _ h1; omega
    | succ f ih =>
      intro l x hl _ hlt hd
      refine b_Mo_depth_19 ?_
      rw [if_neg (show ¬ (17 : Int32) < nI l from nI_nlt (a := 17) (b := l) (by omega) (by omega))]
      rcases hd with ⟨g1, g2⟩ | ⟨g1, p, g2, g3, g4, g5⟩ | ⟨g1, g2, g3⟩
      · rw [if_pos g1, ← g2]; exact hQ
      · rw [if_neg g1]
        refine ⟨t1, s_Mo_find1 a2 a3 (fun u hu => ?_)⟩
        rcases hu with ⟨rfl, hu⟩ | ⟨j, j1, j2, rfl, j4⟩
        · exact absurd g3 (hu p g2)
        · have ep := hun p (pi j) g2 j2 (g3.trans j4.symm)
          rw [ep] at g4 g5
          have hpl := hlt (pi j) j2 j4
          have b92 : ∀ y0 : Int32, ¬ y0 = 0 → mG (d + 4) m_Mo_depth (0, 0) 92 [vR B, vN, vN, vN, vI (nI l), vI (nI j), vN] [.int y0] w1 Q := by
            intro y0 hy
            refine b_Mo_depth_92 ?_
            rw [if_neg hy, nI_1]
            refine ⟨t1, s_Mo_pt 2 a2 a3 j1 (by omega) rfl (ih (l + 1) _ (by omega) (by omega) (fun q hq e2 => ?_) g5)⟩
            have := late q (pi j) hq j2 e2.symm
            omega
          rw [if_pos (nI_pos' (by omega))]
          refine ⟨t1, s_Mo_pt 1 a2 a3 j1 (by omega) rfl (by_if (fun q => ?_) (fun q => ⟨t1, s_Mo_isEntry a2 a3 a4 j1 (b92 _ ?_)⟩))⟩
          · rcases g4 with ⟨-, z2, z3⟩ | ⟨z1, -⟩
            · rw [p8, nI_clamp (by omega), (a4 j j1 j2).1, l7]
              exact ⟨t1, by omega, t7, vp_in_nI (by omega) (by omega), bI_ite (fun q2 => absurd z2 q2) (fun q2 => s_Mo_gone a2 a3 a4 j1 (bI_ite (fun q3 => b92 1 (by decide)) (fun q3 => absurd q3 z3)))⟩
            · exact absurd q z1
          · rcases g4 with ⟨z1, -⟩ | ⟨-, z2⟩
            · exact absurd z1 q
            · rw [bI_t ⟨j2, z2⟩]; decide
      · rw [if_neg g1]
        refine ⟨t1, s_Mo_find1 a2 a3 (fun u hu => ?_)⟩
        rcases hu with ⟨rfl, hu⟩ | ⟨j, j1, j2, rfl, j4⟩
        · rw [if_neg (by decide), ← g3]
          exact hQ
        · have hns : ¬ shP n o pm ft (pi j) := fun z => g2 ⟨pi j, j2, j4, z⟩
          have b92 : mG (d + 4) m_Mo_depth (0, 0) 92 [vR B, vN, vN, vN, vI (nI l), vI (nI j), vN] [.int (0 : Int32)] w1 Q := by
            refine b_Mo_depth_92 ?_
            rw [if_pos rfl, ← g3]
            exact hQ
          rw [if_pos (nI_pos' (by omega))]
          refine ⟨t1, s_Mo_pt 1 a2 a3 j1 (by omega) rfl (by_if (fun q => ?_) (fun q => ⟨t1, s_Mo_isEntry a2 a3 a4 j1 ?_⟩))⟩
          · rw [p8, nI_clamp (by omega), (a4 j j1 j2).1, l7]
            exact ⟨t1, by omega, t7, vp_in_nI (by omega) (by omega), bI_ite (fun q2 => b92) (fun q2 => s_Mo_gone a2 a3 a4 j1 (bI_ite (fun q3 => absurd (Or.inl ⟨q, q2, q3⟩) hns) (fun q3 => b92)))⟩
          · rw [bI_f (fun z => hns (Or.inr ⟨q, z.2⟩))]
            exact b92
  have h0 := loop 17 0 y (by omega) (by omega) (fun p hp _ => by omega) hv
  rw [nI_0] at h0
  exact h0
end SMN
