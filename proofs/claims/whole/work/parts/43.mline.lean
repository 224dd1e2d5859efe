/-! the model: its line of bytes -/
def MLn (w : mW) (B : Nat) (l : List Int32) : Prop := l.length ≤ 16 ∧ mI w B 6 = nI l.length ∧ ∀ k, k < l.length → mI w (B + 6) k = ob l k
def nnL (l : List Int32) : Prop := ∀ k, k < l.length → ¬ ob l k < 0
theorem MLn.of {w w' : mW} {B : Nat} {l : List Int32} (h0 : mI w' B 6 = mI w B 6) (h1 : mI w' (B + 6) = mI w (B + 6)) (h : MLn w B l) : MLn w' B l := by
  unfold MLn
  rw [h0, h1]
  exact h
theorem nn_ob {l : List Int32} (h : nnL l) (k : Nat) : ¬ ob l k < 0 := by
  by_cases hk : k < l.length
  · exact h k hk
  · have : ob l k = 0 := by
      unfold ob
      rw [List.getD_eq_getElem?_getD, List.getElem?_eq_none (by omega)]
      rfl
    rw [this]
    decide
theorem nn_ch {l : List Int32} {j : Nat} {b : Int32} (h : nnL l) (hj : j ≤ l.length) (hb : ¬ b < 0) : nnL (chL l j b) := by
  intro k _
  unfold chL
  by_cases e : j < l.length
  · rw [if_pos e, ob_set e]
    by_cases e2 : k = j
    · rw [if_pos e2]; exact hb
    · rw [if_neg e2]; exact nn_ob h k
  · rw [if_neg e, ob_app]
    by_cases e2 : k < l.length
    · rw [if_pos e2]; exact nn_ob h k
    · rw [if_neg e2]
      refine nn_ob (l := [b]) (fun i hi => ?_) _
      have : i = 0 := by simp at hi; omega
      rw [this]
      exact hb
theorem nn_take {l : List Int32} {j : Nat} (h : nnL l) : nnL (l.take j) := by
  intro k hk
  have : k < j := by rw [List.length_take] at hk; omega
  rw [ob_take this]
  exact nn_ob h k
theorem id_nn {x : Int32} (h : isIdP x) : ¬ x < 0 := by
  obtain ⟨m, rfl, -, h2, -⟩ := isIdP_of h
  exact nI_pos (by omega)
theorem nn_ok {c : mO} (h : okO c) : nnL c := by
  obtain ⟨⟨h1, h2, h3⟩, h4, h5, -, -, -, h6⟩ := h
  intro k hk
  rcases (by omega : k = 0 ∨ k = 1 ∨ k = 2 ∨ k = 3 ∨ k = 4 ∨ k = 5 ∨ 6 ≤ k) with rfl | rfl | rfl | rfl | rfl | rfl | h7
  · exact id_nn h4
  · rcases h6 with ⟨h6, -⟩ | ⟨h6, -⟩ | ⟨h6, -⟩
    · rcases h6 with h6 | h6 | h6 | h6 <;> rw [h6] <;> decide
    · rw [h6]; decide
    · rw [h6]; decide
  · rcases h6 with ⟨-, h6, -⟩ | ⟨-, h6, -⟩ | ⟨-, h6, -⟩
    · rcases h6 with h6 | h6
      · rw [h6]; decide
      · exact id_nn h6
    · exact id_nn h6
    · exact id_nn h6
  · rcases h6 with ⟨-, -, h6, -⟩ | ⟨-, -, h6, -⟩ | ⟨-, -, h6, -⟩
    · exact h6.1
    · rcases h6 with h6 | h6
      · rw [h6]; decide
      · exact id_nn h6
    · rw [h6]; decide
  · rcases h6 with ⟨-, -, -, h6⟩ | ⟨-, -, -, h6⟩ | ⟨-, -, -, h6⟩ <;> exact h6.1
  · rw [h3]; exact nI_pos (by omega)
  · have := h5 (k - 6) (by omega)
    rw [show 6 + (k - 6) = k by omega] at this
    exact id_nn this
theorem rem4 : ∀ m, m < 163 → nI m - nI m / (4 : Int32) * (4 : Int32) = nI (m % 4) := by decide +kernel
section SML
variable {d : Nat} {w : mW} {Q : Int32 → mW → Prop} {B r n h : Nat} {o : Nat → mO} {pi ro : Nat → Nat} {x y z : Int32} {l : List Int32}
theorem MV.of5 {w' : mW} (h1 : mSh w w') (e : ∀ k, 1 ≤ k → k ≤ 5 → mI w' (B + k) = mI w (B + k)) (hV : MV w B r n h o pi ro) : MV w' B r n h o pi ro := by
  refine ⟨hV.sh.of h1, hV.r3, hV.nh, hV.h16, hV.pi, hV.ro, ?_, ?_, ?_, ?_, ?_, hV.ok, hV.uq⟩
  · rw [e 2 (by omega) (by omega)]; exact hV.hd
  · rw [e 5 (by omega) (by omega)]; exact hV.lg
  · rw [e 1 (by omega) (by omega)]; exact hV.bt
  · rw [e 3 (by omega) (by omega)]; exact hV.ap
  · rw [e 4 (by omega) (by omega)]; exact hV.od
theorem s_Mo_isId (hQ : Q (bI (isIdP x)) w) : mC d m_Mo_isId [.int x] w Q := by
  refine e_Mo_isId (by_if (fun e => bI_Q0 hQ (fun z => ?_)) (fun e => by_if (fun e2 => bI_Q0 hQ (fun z => ?_)) (fun e2 => ⟨by decide, ?_⟩)))
  · obtain ⟨m, rfl, h1, h2, -⟩ := isIdP_of z
    have e3 : nI m < nI 4 := e
    rw [nI_ltI (by omega) (by omega)] at e3
    omega
  · obtain ⟨m, rfl, h1, h2, -⟩ := isIdP_of z
    have e3 : nI 162 < nI m := e2
    rw [nI_ltI (by omega) (by omega)] at e3
    omega
  · have hp : ¬ x < 0 := fun z => e (Int32.lt_trans z (by decide))
    obtain ⟨m, hm, rfl⟩ := nI_of hp
    have e3 : ¬ nI m < nI 4 := e
    rw [nI_ltI (by omega) (by omega)] at e3
    have e4 : ¬ nI 162 < nI m := e2
    rw [nI_ltI (by omega) (by omega)] at e4
    rw [rem4 m (by omega)]
    refine by_if (fun e5 => bI_Q0 hQ (fun z => ?_)) (fun e5 => bI_Q1 hQ (isIdP_mk m (by omega) (by omega) (fun z => e5 (by rw [z]; rfl))))
    obtain ⟨m', e6, h1, h2, h3⟩ := isIdP_of z
    rw [nI_eq (by omega) (by omega)] at e6
    have e7 : nI (m % 4) = nI 3 := e5
    rw [nI_eq (by omega) (by omega)] at e7
    omega
theorem s_Mo_wire (hS : MSh w B) (hL : MLn w B l) (hQ : Q (wiV l x) w) : mC d m_Mo_wire [.ref B, .int x] w Q := by
  obtain ⟨b0, t, ⟨-, -, -, -, -, p5⟩, -, -, -, -, -, -, ⟨t6, l6⟩, -⟩ := hS
  obtain ⟨h1, h2, h3⟩ := hL
  unfold wiV wgt at hQ
  refine e_Mo_wire ?_
  rw [h2, p5]
  refine by_if (fun e => ⟨t, ?_⟩) (fun e => by_if (fun e2 => ?_) (fun e2 => ⟨t, by_if (fun e3 => ?_) (fun e3 => ?_)⟩))
  · rw [if_pos e] at hQ; exact hQ
  · rw [if_neg e, if_pos e2] at hQ; exact hQ
  · rw [if_neg e, if_neg e2, if_pos e3] at hQ; exact hQ
  · rw [if_neg e, if_neg e2, if_neg e3] at hQ
    obtain ⟨j, hj, rfl⟩ := nI_of e2
    rw [nI_leI (by omega) hj] at e3
    rw [nI_clamp hj] at hQ ⊢
    rw [h3 j (by omega)]
    exact ⟨by omega, t6, by rw [l6]; exact vp_in_nI (by omega) (by omega), hQ⟩
theorem s_Mo_alter (hS : MSh w B) (hL : MLn w B l) (hF : ¬ chP l x y → Q 0 w) (hQ : ∀ j w', chP l x y → x = nI j → j ≤ l.length → j < 16 → mFr (fun a => a = B ∨ a = B + 6) w w' → MLn w' B (chL l j y) → Q 1 w') : mC d m_Mo_alter [.ref B, .int x, .int y] w Q := by
  obtain ⟨b0, t, ⟨-, -, -, -, -, p5⟩, -, -, -, -, -, -, ⟨t6, l6⟩, -⟩ := hS
  obtain ⟨h1, h2, h3⟩ := hL
  refine e_Mo_alter ?_
  rw [h2, p5]
  refine by_if (fun e => hF (fun z => z.1 e)) (fun e => ⟨t, by_if (fun e2 => hF (fun z => z.2.1 e2)) (fun e2 => by_if (fun e3 => hF (fun z => z.2.2.1 e3)) (fun e3 => by_if (fun e4 => hF (fun z => z.2.2.2.1 e4)) (fun e4 => by_if (fun e5 => ?_) (fun e5 => hF (fun z => e5 z.2.2.2.2)))))⟩)
  have hch : chP l x y := ⟨e, e2, e3, e4, e5⟩
  obtain ⟨j, hj, rfl⟩ := nI_of e
  rw [nI_ltI (by omega) hj] at e2
  have e6 : ¬ nI 16 ≤ nI j := e3
  rw [nI_leI (by omega) hj] at e6
  rw [nI_clamp hj]
  refine ⟨by omega, t6, by rw [l6]; exact vp_in_nI (by omega) (by omega), ?_⟩
  rintro w1 rfl
  refine ⟨t, ?_⟩
  have e8 : mI (wrI w (B + 6) j y) B 6 = nI l.length := by rw [mI_wrI, if_neg (by omega), h2]
  rw [e8]
  have hk : ∀ v, ∀ k, k < (chL l j y).length → mI (wrI (wrI w (B + 6) j y) B 6 v) (B + 6) k = ob (chL l j y) k := by
    intro v k hk
    rw [mI_wrI, if_neg (by omega), mI_wrI]
    unfold chL at hk ⊢
    by_cases g : j < l.length
    · rw [if_pos g] at hk ⊢
      rw [List.length_set] at hk
      rw [ob_set g]
      by_cases g2 : k = j
      · rw [if_pos ⟨rfl, g2⟩, if_pos g2]
      · rw [if_neg (by omega), if_neg g2, h3 k (by omega)]
    · rw [if_neg g] at hk ⊢
      rw [List.length_append] at hk
      simp at hk
      rw [ob_app]
      by_cases g2 : k = j
      · rw [if_pos ⟨rfl, g2⟩, if_neg (by omega), show k - l.length = 0 by omega]
        rfl
      · rw [if_neg (by omega), if_pos (by omega), h3 k (by omega)]
  refine by_if (fun e7 => ?_) (fun e7 => ?_) <;> rw [nI_eq hj (by omega)] at e7
  · rintro w3 rfl
    have hl : (chL l j y).length = l.length + 1 := by
      unfold chL
      rw [if_neg (by omega), List.length_append]
      rfl
    refine hQ j _ hch rfl (by omega) (by omega) (((mFr.rf _ w).wrI _ _ (Or.inr rfl)).wrI _ _ (Or.inl rfl)) ⟨by omega, ?_, hk _⟩
    rw [mI_wrI, if_pos ⟨rfl, rfl⟩, hl, nI_1]
  · rintro w3 rfl
    have hl : (chL l j y).length = l.length := by
      unfold chL
      rw [if_pos (by omega), List.length_set]
    refine hQ j _ hch rfl (by omega) (by omega) (((mFr.rf _ w).wrI _ _ (Or.inr rfl)).wrI _ _ (Or.inl rfl)) ⟨by omega, ?_, hk _⟩
    rw [mI_wrI, if_pos ⟨rfl, rfl⟩, hl]
theorem s_Mo_cut (hS : MSh w B) (hL : MLn w B l) (hF : ¬ (¬ x < 0 ∧ x ≤ nI l.length) → Q 0 w) (hQ : ∀ j w', x = nI j → j ≤ l.length → mFr (fun a => a = B ∨ a = B + 6) w w' → MLn w' B (l.take j) → Q 1 w') : mC d m_Mo_cut [.ref B, .int x] w Q := by
  have t := hS.2.1
  obtain ⟨h1, h2, h3⟩ := hL
  refine e_Mo_cut ?_
  rw [h2]
  refine by_if (fun e => hF (fun z => z.1 e)) (fun e => ⟨t, by_if (fun e2 => ?_) (fun e2 => hF (fun z => e2 z.2))⟩)
  rintro w1 rfl
  obtain ⟨j, hj, rfl⟩ := nI_of e
  rw [nI_leI hj (by omega)] at e2
  have hl : (l.take j).length = j := by rw [List.length_take]; omega
  refine hQ j _ rfl e2 ((mFr.rf _ w).wrI _ _ (Or.inl rfl)) ⟨by omega, ?_, fun k hk => ?_⟩
  · rw [mI_wrI, if_pos ⟨rfl, rfl⟩, hl]
  · rw [mI_wrI, if_neg (by omega), ob_take (by omega), h3 k (by omega)]
theorem s_Mo_emit (hV : MV w B r n h o pi ro) (hF : (∀ p, p < h → ob (o p) 0 ≠ y) → ∀ w', mSc B w w' → Q (-1) w')
    (hQ : ∀ p w', p < h → ob (o p) 0 = y → mFr (fun a => a = B ∨ a = B + 6) w w' → MLn w' B (o p) → Q (nI (o p).length) w') : mC (d + 2) m_Mo_emit [.ref B, .int (nI r), .int y] w Q := by
  have t := hV.sh.2.1
  have r3 := hV.r3
  have h16 := hV.h16
  refine e_Mo_emit (s_Mo_isReplica (bI_ite (fun e => absurd (isR_nI r3) e) (fun e => ⟨t, ?_⟩)))
  rintro w2 rfl
  have hS2 : mSc B w (wrI w B 7 (nI r)) := (mSc.rf B w).me _
  have hV2 := hV.of hS2.1
  have hm2 : mI (wrI w B 7 (nI r)) B 7 = nI r := by rw [mI_wrI, if_pos ⟨rfl, rfl⟩]
  refine ⟨t, s_Mo_find0 hV2 hm2 (fun v hv => ?_)⟩
  rcases hv with ⟨rfl, hv⟩ | ⟨j, g1, g2, rfl, g4⟩
  · rw [if_neg (by decide)]
    exact hF hv _ hS2
  · rw [if_pos (nI_pos' (by omega))]
    refine ⟨t, s_Mo_pt 5 hV2 hm2 g1 (by omega) rfl ⟨t, ?_⟩⟩
    obtain ⟨l1, l2, l3⟩ := hV.l6 g1
    have e6 : (6 : Int32) + nI ((o (pi j)).length - 6) = nI (o (pi j)).length := by
      have := nI_add 6 ((o (pi j)).length - 6)
      rw [show 6 + ((o (pi j)).length - 6) = (o (pi j)).length by omega] at this
      exact this
    rw [l3, e6]
    rintro w3 rfl
    have loop : ∀ c k (w1 : mW), k + c = (o (pi j)).length → mFr (fun a => a = B ∨ a = B + 6) w w1 → mI w1 B 7 = nI r → mI w1 B 6 = nI (o (pi j)).length → (∀ q, q < k → mI w1 (B + 6) q = ob (o (pi j)) q) → mG (d + 2) m_Mo_emit (0, 0) 43 [vR B, vN, vN, vI (nI j), vI (nI k)] [] w1 Q := by
      intro c
      induction c with
      | zero =>
        intro k w1 hk hF1 hm1 h61 hl1
        refine b_Mo_emit_43 ?_
        rw [h61, if_pos (nI_le (by omega) (by omega))]
        exact ⟨by rw [hF1.1.T]; exact t, hQ (pi j) w1 g2 g4 hF1 ⟨by omega, h61, fun q hq => hl1 q (by omega)⟩⟩
      | succ c ih =>
        intro k w1 hk hF1 hm1 h61 hl1
        have hV1 : MV w1 B r n h o pi ro := hV.of5 hF1.1 (fun q _ _ => hF1.2 _ (by omega))
        obtain ⟨b0, t1, ⟨-, -, -, -, -, p5⟩, -, -, -, -, -, -, ⟨t6, l6⟩, -⟩ := hV1.sh
        refine b_Mo_emit_43 ?_
        rw [h61, if_neg (nI_ge (by omega) (by omega)), nI_1, p5]
        refine ⟨t1, by omega, s_Mo_part hV1 hm1 g1 (f := k) (by omega) rfl ?_⟩
        rw [nI_clamp (by omega)]
        refine ⟨t6, by rw [l6]; exact vp_in_nI (by omega) (by omega), ?_⟩
        rintro w4 rfl
        refine ih (k + 1) _ (by omega) (hF1.wrI _ _ (Or.inr rfl)) ?_ ?_ (fun q hq => ?_)
        · rw [mI_wrI, if_neg (by omega)]; exact hm1
        · rw [mI_wrI, if_neg (by omega)]; exact h61
        · rw [mI_wrI]
          by_cases e : q = k
          · rw [if_pos ⟨rfl, e⟩, e]
          · rw [if_neg (by omega)]; exact hl1 q (by omega)
    have h0 := loop (o (pi j)).length 0 _ (by omega) (((mFr.rf _ w).wrI 7 (nI r) (Or.inl rfl)).wrI 6 (nI (o (pi j)).length) (Or.inl rfl)) (by rw [mI_wrI, if_neg (by omega)]; exact hm2) (by rw [mI_wrI, if_pos ⟨rfl, rfl⟩]) (fun q hq => by omega)
    rw [nI_0] at h0
    exact h0
theorem s_Mo_says (hS : MSh w B) (hL : MLn w B l) (h6 : 6 ≤ l.length) (hQ : Q (bI (x = 0 ∨ hb l x)) w) : mC d m_Mo_says [.ref B, .int x] w Q := by
  obtain ⟨b0, t, ⟨-, -, -, -, -, p5⟩, -, -, -, -, -, -, ⟨t6, l6⟩, -⟩ := hS
  obtain ⟨h1, h2, h3⟩ := hL
  have loop : ∀ c k (P : Prop), 6 + k + c = l.length → (P ↔ x = 0 ∨ ∃ q, q < k ∧ ob l (6 + q) = x) → mG d m_Mo_says (0, 0) 13 [vR B, vI x, vI (bI P), vI (nI (6 + k))] [] w Q := by
    intro c
    induction c with
    | zero =>
      intro k P hk hP
      refine b_Mo_says_13 ?_
      rw [h2, if_pos (nI_le (by omega) (by omega))]
      refine ⟨t, bI_and _, ?_⟩
      rw [show bI P = bI (x = 0 ∨ hb l x) from bI_iff (by rw [hP]; unfold hb; rw [show l.length - 6 = k by omega])]
      exact hQ
    | succ c ih =>
      intro k P hk hP
      refine b_Mo_says_13 ?_
      rw [h2, if_neg (nI_ge (by omega) (by omega)), p5, nI_clamp (by omega), nI_1, h3 (6 + k) (by omega)]
      have step : ∀ P' : Prop, (P' ↔ P ∨ ob l (6 + k) = x) → mG d m_Mo_says (0, 0) 13 [vR B, vI x, vI (bI P'), vI (nI (6 + k + 1))] [] w Q := by
        intro P' hP'
        refine ih (k + 1) P' (by omega) ?_
        rw [hP', hP, or_assoc]
        refine or_congr_right ⟨?_, ?_⟩
        · rintro (⟨q, g1, g2⟩ | g)
          · exact ⟨q, by omega, g2⟩
          · exact ⟨k, by omega, g⟩
        · rintro ⟨q, g1, g2⟩
          by_cases e : q = k
          · rw [e] at g2; exact Or.inr g2
          · exact Or.inl ⟨q, by omega, g2⟩
      have stepT : (P ∨ ob l (6 + k) = x) → mG d m_Mo_says (0, 0) 13 [vR B, vI x, vI (1 : Int32), vI (nI (6 + k + 1))] [] w Q := by
        intro g
        have := step True ⟨fun _ => g, fun _ => trivial⟩
        rw [bI_t trivial] at this
        exact this
      have stepF : ¬ (P ∨ ob l (6 + k) = x) → mG d m_Mo_says (0, 0) 13 [vR B, vI x, vI (0 : Int32), vI (nI (6 + k + 1))] [] w Q := by
        intro g
        have := step False ⟨fun z => z.elim, g⟩
        rw [bI_f not_false] at this
        exact this
      exact ⟨t, bI_ite (fun e => ⟨by omega, t6, by rw [l6]; exact vp_in_nI (by omega) (by omega), by_if (fun e2 => stepT (Or.inr e2)) (fun e2 => stepF (fun z => z.elim e e2))⟩) (fun e => stepT (Or.inl e))⟩
  refine e_Mo_says (by_if (fun e => ?_) (fun e => ?_))
  · have := loop (l.length - 6) 0 True (by omega) ⟨fun _ => Or.inl e, fun _ => trivial⟩
    rw [bI_t trivial] at this
    exact this
  · have := loop (l.length - 6) 0 False (by omega) ⟨fun z => z.elim, fun z => z.elim e (fun ⟨q, g, _⟩ => by omega)⟩
    rw [bI_f not_false] at this
    exact this
theorem s_Mo_sameAsLine {j : Nat} (hV : MV w B r n h o pi ro) (hm : mI w B 7 = nI r) (hL : MLn w B l) (h6 : 6 ≤ l.length) (hl5 : ob l 5 = nI (l.length - 6)) (hj : j < h) (hQ : Q (bI (o (pi j) = l)) w) : mC (d + 1) m_Mo_sameAsLine [.ref B, .int (nI j)] w Q := by
  obtain ⟨b0, t, ⟨-, -, -, -, -, p5⟩, -, -, -, -, -, -, ⟨t6, l6⟩, -⟩ := hV.sh
  obtain ⟨h1, h2, h3⟩ := hL
  obtain ⟨l1, l2, l3⟩ := hV.l6 hj
  refine e_Mo_sameAsLine ⟨t, s_Mo_pt 5 hV hm hj (by omega) rfl ?_⟩
  rw [p5, show (5 : Int32).toNatClampNeg = 5 from rfl, h3 5 (by omega)]
  refine ⟨t, by omega, t6, by rw [l6]; exact vp_in_nI (n := 5) (by omega) (by omega), by_if (fun e => ?_) (fun e => ?_)⟩
  · rw [l3, hl5, nI_eq (by omega) (by omega)] at e
    have loop : ∀ c k (P : Prop), k + c = l.length → (P ↔ ∀ q, q < k → ob (o (pi j)) q = ob l q) → mG (d + 1) m_Mo_sameAsLine (0, 0) 23 [vR B, vI (nI j), vI (bI P), vI (nI k)] [] w Q := by
      intro c
      induction c with
      | zero =>
        intro k P hk hP
        refine b_Mo_sameAsLine_23 ?_
        rw [h2, if_pos (nI_le (by omega) (by omega))]
        refine ⟨t, bI_and _, ?_⟩
        rw [show bI P = bI (o (pi j) = l) from bI_iff (by
          rw [hP]
          exact ⟨fun g => ob_ext (by omega) (fun q hq => g q (by omega)), fun g q _ => by rw [g]⟩)]
        exact hQ
      | succ c ih =>
        intro k P hk hP
        refine b_Mo_sameAsLine_23 ?_
        rw [h2, if_neg (nI_ge (by omega) (by omega)), nI_1]
        have stepT : P → ob (o (pi j)) k = ob l k → mG (d + 1) m_Mo_sameAsLine (0, 0) 23 [vR B, vI (nI j), vI (1 : Int32), vI (nI (k + 1))] [] w Q := by
          intro e2 e3
          have := ih (k + 1) True (by omega) ⟨fun _ q hq => (by
            by_cases e4 : q = k
            · rw [e4]; exact e3
            · exact hP.mp e2 q (by omega)), fun _ => trivial⟩
          rw [bI_t trivial] at this
          exact this
        have stepF : ¬ ob (o (pi j)) k = ob l k → mG (d + 1) m_Mo_sameAsLine (0, 0) 23 [vR B, vI (nI j), vI (0 : Int32), vI (nI (k + 1))] [] w Q := by
          intro e3
          have := ih (k + 1) False (by omega) ⟨fun z => z.elim, fun z => e3 (z k (by omega))⟩
          rw [bI_f not_false] at this
          exact this
        refine ⟨t, bI_ite (fun e2 => ⟨bI_and _, ?_⟩) (fun e2 => s_Mo_part hV hm hj (f := k) (by omega) rfl (by
          rw [p5, nI_clamp (by omega), h3 k (by omega)]
          refine ⟨t, by omega, t6, by rw [l6]; exact vp_in_nI (by omega) (by omega), by_if (fun e3 => ?_) (fun e3 => ?_)⟩
          · exact stepT e2 e3
          · exact stepF e3))⟩
        rw [show bI P = bI (o (pi j) = l) from bI_iff ⟨fun z => absurd z e2, fun z => absurd (hP.mpr (fun q _ => by rw [z])) e2⟩]
        exact hQ
    have h0 := loop l.length 0 True (by omega) ⟨fun _ q hq => by omega, fun _ => trivial⟩
    rw [nI_0, bI_t trivial] at h0
    exact h0
  · refine b_Mo_sameAsLine_23 ?_
    have hne : ¬ o (pi j) = l := fun z => e (by rw [z])
    have hQ0 := bI_Q0 hQ hne
    exact ⟨t, by_if (fun _ => ⟨by decide, hQ0⟩) (fun _ => by rw [if_pos rfl]; exact ⟨by decide, hQ0⟩)⟩
end SML
