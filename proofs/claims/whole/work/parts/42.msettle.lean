/-! the model: heads, readiness, applying, settling -/
def own (B r a k : Nat) : Prop := (a = B + 1 ∧ 192 * r ≤ k ∧ k < 192 * r + 192) ∨ (a = B + 2 ∧ k = r) ∨ (a = B + 3 ∧ 16 * r ≤ k ∧ k < 16 * r + 16) ∨ (a = B + 4 ∧ 16 * r ≤ k ∧ k < 16 * r + 16) ∨ (a = B + 5 ∧ k = r)
/-- one replica's rows and scratch change -/
def mOw (B r : Nat) (w w' : mW) : Prop := mSh w w' ∧ (∀ a, (a < B ∨ B + 10 < a ∨ a = B + 6) → mI w' a = mI w a) ∧ mI w' B 6 = mI w B 6 ∧ ∀ a k, B + 1 ≤ a → a ≤ B + 5 → ¬ own B r a k → mI w' a k = mI w a k
theorem mOw.rf (B r : Nat) (w : mW) : mOw B r w w := ⟨mSh.rf w, fun _ _ => rfl, rfl, fun _ _ _ _ _ => rfl⟩
theorem mOw.tr {B r : Nat} {w w1 w2 : mW} (h : mOw B r w w1) (h2 : mOw B r w1 w2) : mOw B r w w2 := ⟨h.1.tr h2.1, fun a ha => (h2.2.1 a ha).trans (h.2.1 a ha), h2.2.2.1.trans h.2.2.1, fun a k g1 g2 g3 => (h2.2.2.2 a k g1 g2 g3).trans (h.2.2.2 a k g1 g2 g3)⟩
theorem mSc.ow {B : Nat} {w w' : mW} (h : mSc B w w') (r : Nat) : mOw B r w w' := by
  refine ⟨h.1.1, fun a ha => h.1.2 a (by unfold scr; omega), h.2, fun a k g1 g2 _ => ?_⟩
  rw [h.1.2 a (by unfold scr; omega)]
theorem mOw.wr {B r : Nat} {w w1 : mW} (h : mOw B r w w1) {a k : Nat} (v : Int32) (ha : own B r a k) : mOw B r w (wrI w1 a k v) := by
  unfold own at ha
  refine ⟨h.1.tr (mSh.wrI _ _ _ _), fun q hq => ?_, ?_, fun q j g1 g2 g3 => ?_⟩
  · rw [← h.2.1 q hq]
    funext j
    rw [mI_wrI, if_neg (by omega)]
  · rw [mI_wrI, if_neg (by omega)]
    exact h.2.2.1
  · rw [mI_wrI, if_neg]
    · exact h.2.2.2 q j g1 g2 g3
    · rintro ⟨rfl, rfl⟩
      exact g3 ha
section SMT
variable {d : Nat} {w : mW} {Q : Int32 → mW → Prop} {B r n h : Nat} {o : Nat → mO} {pm : Nat → Int32} {ft : Nat → Prop} {pi ro : Nat → Nat} {x y z : Int32}
theorem MV.ow {w' : mW} {r' : Nat} (hr : r' < 3) (hne : r ≠ r') (h1 : mOw B r' w w') (hV : MV w B r n h o pi ro) : MV w' B r n h o pi ro := by
  have r3 := hV.r3
  have h16 := hV.h16
  have nh := hV.nh
  refine ⟨hV.sh.of h1.1, hV.r3, hV.nh, hV.h16, hV.pi, hV.ro, ?_, ?_, fun j hj f hf => ?_, fun j hj => ?_, fun p hp => ?_, hV.ok, hV.uq⟩
  · rw [h1.2.2.2 (B + 2) r (by omega) (by omega) (by unfold own; omega)]; exact hV.hd
  · rw [h1.2.2.2 (B + 5) r (by omega) (by omega) (by unfold own; omega)]; exact hV.lg
  · have := (hV.l6 hj).2.1
    rw [h1.2.2.2 (B + 1) _ (by omega) (by omega) (by unfold own; omega)]; exact hV.bt j hj f hf
  · rw [h1.2.2.2 (B + 3) _ (by omega) (by omega) (by unfold own; omega)]; exact hV.ap j hj
  · rw [h1.2.2.2 (B + 4) _ (by omega) (by omega) (by unfold own; omega)]; exact hV.od p hp
theorem s_Mo_isHead {j : Nat} (hV : MV w B r n h o pi ro) (hm : mI w B 7 = nI r) (hj : j < h) (hQ : Q (bI (pi j < n ∧ hdP n o (ob (o (pi j)) 0))) w) : mC (d + 2) m_Mo_isHead [.ref B, .int (nI j)] w Q := by
  have r3 := hV.r3
  have h16 := hV.h16
  have nh := hV.nh
  obtain ⟨b0, t, ⟨-, p1, -⟩, -, -, ⟨t1, l1⟩, -⟩ := hV.sh
  have loop : ∀ c k (P : Prop), k + c = h → (P ↔ pi j < n ∧ ∀ i, i < k → ¬ (pi i < n ∧ hb (o (pi i)) (ob (o (pi j)) 0))) → mG (d + 2) m_Mo_isHead (0, 0) 16 [vR B, vN, vI (bI P), vI (ob (o (pi j)) 0), vI (nI k)] [] w Q := by
    intro c
    induction c with
    | zero =>
      intro k P hk hP
      refine b_Mo_isHead_16 ?_
      rw [p1, hm, nI_clamp (by omega), hV.hd, if_pos (nI_le (by omega) (by omega))]
      refine ⟨t, by omega, t1, by rw [l1]; exact vp_in_nI (by omega) (by omega), bI_and _, ?_⟩
      have e : P ↔ pi j < n ∧ hdP n o (ob (o (pi j)) 0) := by
        rw [hP]
        refine and_congr_right (fun _ => ⟨fun g p hp hh => ?_, fun g i hi z => g (pi i) z.1 z.2⟩)
        have hph : p < h := by omega
        refine g (ro p) (by have := (hV.ro p hph).1; omega) ?_
        rw [(hV.ro p hph).2]
        exact ⟨hp, hh⟩
      rw [bI_iff e]
      exact hQ
    | succ c ih =>
      intro k P hk hP
      refine b_Mo_isHead_16 ?_
      rw [p1, hm, nI_clamp (by omega), hV.hd, if_neg (nI_ge (by omega) (by omega)), nI_1]
      have step : ∀ P' : Prop, (P' ↔ P ∧ ¬ (pi k < n ∧ hb (o (pi k)) (ob (o (pi j)) 0))) → mG (d + 2) m_Mo_isHead (0, 0) 16 [vR B, vN, vI (bI P'), vI (ob (o (pi j)) 0), vI (nI (k + 1))] [] w Q := by
        intro P' hP'
        refine ih (k + 1) P' (by omega) ?_
        rw [hP', hP, and_assoc]
        refine and_congr_right (fun _ => ⟨fun g i hi => ?_, fun g => ⟨fun i hi => g i (by omega), g k (by omega)⟩⟩)
        by_cases e : i = k
        · rw [e]; exact g.2
        · exact g.1 i (by omega)
      have stepT : P → ¬ (pi k < n ∧ hb (o (pi k)) (ob (o (pi j)) 0)) → mG (d + 2) m_Mo_isHead (0, 0) 16 [vR B, vN, vI (1 : Int32), vI (ob (o (pi j)) 0), vI (nI (k + 1))] [] w Q := by
        intro g1 g2
        have := step True ⟨fun _ => ⟨g1, g2⟩, fun _ => trivial⟩
        rw [bI_t trivial] at this
        exact this
      have stepF : ¬ (P ∧ ¬ (pi k < n ∧ hb (o (pi k)) (ob (o (pi j)) 0))) → mG (d + 2) m_Mo_isHead (0, 0) 16 [vR B, vN, vI (0 : Int32), vI (ob (o (pi j)) 0), vI (nI (k + 1))] [] w Q := by
        intro g1
        have := step False ⟨fun z => z.elim, g1⟩
        rw [bI_f not_false] at this
        exact this
      refine ⟨t, by omega, t1, by rw [l1]; exact vp_in_nI (by omega) (by omega), bI_ite (fun e => stepF (fun z => e z.1)) (fun e => s_Mo_done hV hm (by omega) (bI_ite (fun e2 => stepT e (fun z => e2 z.1)) (fun e2 => ⟨t, s_Mo_has hV hm (by omega) (bI_ite (fun e3 => stepT e (fun z => e3 z.2)) (fun e3 => stepF (fun z => z.2 ⟨e2, e3⟩)))⟩)))⟩
  have h0 := loop h 0 (pi j < n) (by omega) ⟨fun g => ⟨g, fun i hi => by omega⟩, fun g => g.1⟩
  rw [nI_0] at h0
  exact e_Mo_isHead ⟨t, s_Mo_done hV hm hj ⟨t, s_Mo_pt 0 hV hm hj (by omega) rfl h0⟩⟩
theorem s_Mo_ready {j : Nat} (hV : MV w B r n h o pi ro) (hm : mI w B 7 = nI r) (hj : j < h) (hQ : Q (bI (rdP n o (o (pi j)))) w) : mC (d + 2) m_Mo_ready [.ref B, .int (nI j)] w Q := by
  have t := hV.sh.2.1
  have h16 := hV.h16
  obtain ⟨l1, l2, l3⟩ := hV.l6 hj
  have loop : ∀ c k (P : Prop), k + c = (o (pi j)).length - 6 → (P ↔ ∀ q, q < k → ∃ p, p < n ∧ ob (o p) 0 = ob (o (pi j)) (6 + q)) → mG (d + 2) m_Mo_ready (0, 0) 4 [vR B, vI (nI j), vI (bI P), vI (nI k), vN] [] w Q := by
    intro c
    induction c with
    | zero =>
      intro k P hk hP
      refine b_Mo_ready_4 ⟨t, s_Mo_pt 5 hV hm hj (by omega) rfl ?_⟩
      rw [l3, if_pos (nI_le (by omega) (by omega))]
      refine ⟨bI_and _, ?_⟩
      have e : P ↔ rdP n o (o (pi j)) := by
        rw [hP]
        refine ⟨fun g x hx => ?_, fun g q hq => g _ ⟨q, by omega, rfl⟩⟩
        obtain ⟨q, q1, q2⟩ := hx
        rw [← q2]
        exact g q (by omega)
      rw [bI_iff e]
      exact hQ
    | succ c ih =>
      intro k P hk hP
      refine b_Mo_ready_4 ⟨t, s_Mo_pt 5 hV hm hj (by omega) rfl ?_⟩
      rw [l3, if_neg (nI_ge (by omega) (by omega)), nI_1]
      have e6 : (6 : Int32) + nI k = nI (6 + k) := nI_add 6 k
      rw [e6]
      have step : ∀ P' : Prop, (P' ↔ P ∧ ∃ p, p < n ∧ ob (o p) 0 = ob (o (pi j)) (6 + k)) → mG (d + 2) m_Mo_ready (0, 0) 4 [vR B, vI (nI j), vI (bI P'), vI (nI (k + 1)), vN] [] w Q := by
        intro P' hP'
        refine ih (k + 1) P' (by omega) ?_
        rw [hP', hP]
        refine ⟨fun g i hi => ?_, fun g => ⟨fun i hi => g i (by omega), g k (by omega)⟩⟩
        by_cases e : i = k
        · rw [e]; exact g.2
        · exact g.1 i (by omega)
      have stepF : ¬ (P ∧ ∃ p, p < n ∧ ob (o p) 0 = ob (o (pi j)) (6 + k)) → mG (d + 2) m_Mo_ready (0, 0) 4 [vR B, vI (nI j), vI (0 : Int32), vI (nI (k + 1)), vN] [] w Q := by
        intro g1
        have := step False ⟨fun z => z.elim, g1⟩
        rw [bI_f not_false] at this
        exact this
      refine ⟨t, s_Mo_part hV hm hj (f := 6 + k) (by omega) rfl ⟨t, s_Mo_find1 hV hm (fun v hv => bI_ite (fun e => stepF (fun z => e z.1)) (fun e => ?_))⟩⟩
      rcases hv with ⟨rfl, hv⟩ | ⟨i, g1, g2, rfl, g4⟩
      · rw [if_pos (by decide)]
        exact stepF (fun ⟨_, p, z1, z2⟩ => hv p z1 z2)
      · rw [if_neg (nI_pos (by omega))]
        have := step True ⟨fun _ => ⟨e, pi i, g2, g4⟩, fun _ => trivial⟩
        rw [bI_t trivial] at this
        exact this
  have h0 := loop ((o (pi j)).length - 6) 0 True (by omega) ⟨fun _ q hq => by omega, fun _ => trivial⟩
  rw [nI_0, bI_t trivial] at h0
  exact e_Mo_ready h0
theorem s_Mo_apply {j : Nat} (hV : MV w B r n h o pi ro) (hm : mI w B 7 = nI r) (hj : j < h) (hp : n ≤ pi j) (hQ : ∀ w', mOw B r w w' → mI w' B 7 = nI r → MV w' B r (n + 1) h (swp o n (pi j)) (fun i => swi n (pi j) (pi i)) (fun q => ro (swi n (pi j) q)) → Q 0 w') : mC d m_Mo_apply [.ref B, .int (nI j)] w Q := by
  have r3 := hV.r3
  have h16 := hV.h16
  have nh := hV.nh
  have hpj := hV.pi j hj
  obtain ⟨b0, t, ⟨-, -, p2, p3, p4, -⟩, -, -, -, ⟨t3, l3⟩, ⟨t4, l4⟩, ⟨t5, l5⟩, -⟩ := hV.sh
  refine e_Mo_apply ?_
  rw [p2, hm, ix16, nI_clamp (by omega)]
  refine ⟨t, by omega, t3, by rw [l3]; exact vp_in_nI (by omega) (by omega), ?_⟩
  rintro w1 rfl
  rw [mP_wrI, mP_wrI, p3, p4, mI_wrI, if_neg (by omega), hm, nI_clamp (by omega), mI_wrI, if_neg (by omega), hV.lg, ix16, nI_clamp (by omega)]
  refine ⟨t, by omega, by omega, t5, by rw [mL_wrI, l5]; exact vp_in_nI (by omega) (by omega), t4, by rw [mL_wrI, l4]; exact vp_in_nI (by omega) (by omega), ?_⟩
  rintro w2 rfl
  rw [mP_wrI, mP_wrI, p4, mI_wrI, if_neg (by omega), mI_wrI, if_neg (by omega), hm, nI_clamp (by omega), mI_wrI, if_neg (by omega), mI_wrI, if_neg (by omega), hV.lg, nI_1]
  refine ⟨t, by omega, t5, by rw [mL_wrI, mL_wrI, l5]; exact vp_in_nI (by omega) (by omega), ?_⟩
  rintro w3 rfl
  have hO : mOw B r w (wrI (wrI (wrI w (B + 3) (16 * r + j) ((1 : Int32) &&& 1)) (B + 4) (16 * r + n) (nI j)) (B + 5) r (nI (n + 1))) := (((mOw.rf B r w).wr _ (by unfold own; omega)).wr _ (by unfold own; omega)).wr _ (by unfold own; omega)
  refine hQ _ hO ?_ ⟨hV.sh.of hO.1, hV.r3, by omega, hV.h16, fun i hi => ?_, fun q hq => ?_, ?_, ?_, fun i hi f hf => ?_, fun i hi => ?_, fun q hq => ?_, fun q hq => ?_, unq_swp hV.uq (by omega) hpj.1⟩
  · rw [mI_wrI, if_neg (by omega), mI_wrI, if_neg (by omega), mI_wrI, if_neg (by omega)]; exact hm
  · refine ⟨swi_lt (by omega) hpj.1 (hV.pi i hi).1, ?_⟩
    show ro (swi n (pi j) (swi n (pi j) (pi i))) = i
    rw [swi_swi]
    exact (hV.pi i hi).2
  · have hq' := swi_lt (n := n) (p := pi j) (by omega) hpj.1 hq
    refine ⟨(hV.ro _ hq').1, ?_⟩
    show swi n (pi j) (pi (ro (swi n (pi j) q))) = q
    rw [(hV.ro _ hq').2, swi_swi]
  · rw [mI_wrI, if_neg (by omega), mI_wrI, if_neg (by omega), mI_wrI, if_neg (by omega)]; exact hV.hd
  · rw [mI_wrI, if_pos ⟨rfl, rfl⟩]
  · rw [mI_wrI, if_neg (by omega), mI_wrI, if_neg (by omega), mI_wrI, if_neg (by omega)]
    have e : swp o n (pi j) (swi n (pi j) (pi i)) = o (pi i) := by rw [swp_eq, swi_swi]
    rw [e] at hf ⊢
    exact hV.bt i hi f hf
  · rw [mI_wrI, if_neg (by omega), mI_wrI, if_neg (by omega), mI_wrI]
    by_cases e : i = j
    · rw [if_pos ⟨rfl, by omega⟩, e, bI_t]
      · decide
      · show swi n (pi j) (pi j) < n + 1
        unfold swi
        rw [if_pos rfl]
        omega
    · have hne : pi i ≠ pi j := by
        intro e2
        apply e
        rw [← (hV.pi i hi).2, ← hpj.2, e2]
      rw [if_neg (by omega), hV.ap i hi]
      refine bI_iff ?_
      show pi i < n ↔ swi n (pi j) (pi i) < n + 1
      unfold swi
      rw [if_neg hne]
      by_cases e2 : pi i = n
      · rw [if_pos e2]; omega
      · rw [if_neg e2]; omega
  · rw [mI_wrI, if_neg (by omega), mI_wrI]
    by_cases e : q = n
    · rw [if_pos ⟨rfl, by omega⟩, e]
      show nI j = nI (ro (swi n (pi j) n))
      have : swi n (pi j) n = pi j := by
        unfold swi
        by_cases e2 : n = pi j
        · rw [if_pos e2]; exact e2
        · rw [if_neg e2, if_pos rfl]
      rw [this, hpj.2]
    · rw [if_neg (by omega), mI_wrI, if_neg (by omega), hV.od q (by omega)]
      show nI (ro q) = nI (ro (swi n (pi j) q))
      unfold swi
      rw [if_neg (by omega), if_neg e]
  · rw [swp_eq]
    exact hV.ok _ (swi_lt (by omega) hpj.1 hq)
theorem s_Mo_settle {k : Nat} {o' : Nat → mO} (hV : MV w B r n h o pi ro) (hm : mI w B 7 = nI r) (hc : Chn k n h o o') (hQ : ∀ w' pi' ro', mOw B r w w' → MV w' B r (n + k) h o' pi' ro' → mI w' B 7 = nI r → Q (nI k) w') : mC (d + 3) m_Mo_settle [.ref B] w Q := by
  have outer : ∀ c T a k1 n1 (o1 : Nat → mO) pi1 ro1 (w1 : mW), T + c = 16 → k1 ≤ c → a + k1 = k → n1 + k1 = n + k → mOw B r w w1 → MV w1 B r n1 h o1 pi1 ro1 → mI w1 B 7 = nI r → Chn k1 n1 h o1 o' → mG (d + 3) m_Mo_settle (0, 0) 4 [vR B, vI (nI a), vI (nI T), vN, vN] [] w1 Q := by
    intro c
    induction c with
    | zero =>
      intro T a k1 n1 o1 pi1 ro1 w1 hT hk ha hn hO hV1 hm1 hc1
      have hk0 : k1 = 0 := by omega
      subst hk0
      refine b_Mo_settle_4 ?_
      rw [if_pos (le_l 16 16 rfl (by omega) (by omega)), show a = k by omega]
      rw [hc1.1] at hQ
      rw [show n + k = n1 by omega] at hQ
      exact hQ w1 pi1 ro1 hO hV1 hm1
    | succ c ih =>
      intro T a k1 n1 o1 pi1 ro1 w1 hT hk ha hn hO hV1 hm1 hc1
      have r3 := hV1.r3
      have h16 := hV1.h16
      have nh := hV1.nh
      obtain ⟨b0, t, ⟨-, p1, -⟩, -, -, ⟨t1, l1⟩, -⟩ := hV1.sh
      have inner : ∀ c2 j (v : Int32), j + c2 = h → ((v = -1 ∧ ∀ i, i < j → n1 ≤ pi1 i → ¬ rdP n1 o1 (o1 (pi1 i))) ∨ ∃ i, i < j ∧ v = nI i ∧ n1 ≤ pi1 i ∧ rdP n1 o1 (o1 (pi1 i)) ∧ ∀ i', i' < j → n1 ≤ pi1 i' → rdP n1 o1 (o1 (pi1 i')) → ob (o1 (pi1 i)) 0 ≤ ob (o1 (pi1 i')) 0) → mG (d + 3) m_Mo_settle (0, 0) 15 [vR B, vI (nI a), vI (nI T), vI v, vI (nI j)] [] w1 Q := by
        intro c2
        induction c2 with
        | zero =>
          intro j v hj hv
          have hjh : j = h := by omega
          subst hjh
          refine b_Mo_settle_15 ?_
          rw [p1, hm1, nI_clamp (by omega), hV1.hd, if_pos (nI_le (by omega) (by omega)), nI_1, nI_1]
          refine ⟨t, by omega, t1, by rw [l1]; exact vp_in_nI (by omega) (by omega), ?_⟩
          rcases hv with ⟨rfl, hv⟩ | ⟨i, g1, rfl, g3, g4, g5⟩
          · rw [if_pos (by decide)]
            cases k1 with
            | zero => exact ih (T + 1) a 0 n1 o1 pi1 ro1 w1 (by omega) (by omega) ha hn hO hV1 hm1 hc1
            | succ k1 =>
              obtain ⟨p, q1, q2, q3, -, -⟩ := hc1
              have := hv (ro1 p) (hV1.ro p q2).1 (by rw [(hV1.ro p q2).2]; exact q1)
              rw [(hV1.ro p q2).2] at this
              exact absurd q3 this
          · rw [if_neg (nI_pos (by omega))]
            refine s_Mo_apply hV1 hm1 g1 g3 (fun w2 hO2 hm2 hV2 => ?_)
            cases k1 with
            | zero => exact absurd g4 (hc1.2 _ g3 (hV1.pi i g1).1)
            | succ k1 =>
              obtain ⟨p, q1, q2, q3, q4, q5⟩ := hc1
              have e1 := q4 (pi1 i) g3 (hV1.pi i g1).1 g4
              have e2 := g5 (ro1 p) (hV1.ro p q2).1 (by rw [(hV1.ro p q2).2]; exact q1) (by rw [(hV1.ro p q2).2]; exact q3)
              rw [(hV1.ro p q2).2] at e2
              have e3 : p = pi1 i := hV1.uq p (pi1 i) q2 (hV1.pi i g1).1 (Int32.le_antisymm e1 e2)
              rw [e3] at q5
              exact ih (T + 1) (a + 1) k1 (n1 + 1) _ _ _ w2 (by omega) (by omega) (by omega) (by omega) (hO.tr hO2) hV2 hm2 q5
        | succ c2 ih2 =>
          intro j v hj hv
          refine b_Mo_settle_15 ?_
          rw [p1, hm1, nI_clamp (by omega), hV1.hd, if_neg (nI_ge (by omega) (by omega)), nI_1 j]
          have skip : ¬ (n1 ≤ pi1 j ∧ rdP n1 o1 (o1 (pi1 j))) → mG (d + 3) m_Mo_settle (0, 0) 15 [vR B, vI (nI a), vI (nI T), vI v, vI (nI (j + 1))] [] w1 Q := by
            intro hs
            refine ih2 (j + 1) v (by omega) ?_
            rcases hv with ⟨rfl, hv⟩ | ⟨i, g1, rfl, g3, g4, g5⟩
            · refine Or.inl ⟨rfl, fun i hi h1 h2 => ?_⟩
              by_cases e : i = j
              · rw [e] at h1 h2; exact hs ⟨h1, h2⟩
              · exact hv i (by omega) h1 h2
            · refine Or.inr ⟨i, by omega, rfl, g3, g4, fun i' hi h1 h2 => ?_⟩
              by_cases e : i' = j
              · rw [e] at h1 h2; exact absurd ⟨h1, h2⟩ hs
              · exact g5 i' (by omega) h1 h2
          refine ⟨t, by omega, t1, by rw [l1]; exact vp_in_nI (by omega) (by omega), s_Mo_done hV1 hm1 (by omega) (bI_ite (fun e => ⟨t, s_Mo_ready hV1 hm1 (by omega) (bI_ite (fun e2 => skip (fun z => e2 z.2)) (fun e2 => ?_))⟩) (fun e => skip (fun z => by omega)))⟩
          rcases hv with ⟨rfl, hv⟩ | ⟨i, g1, rfl, g3, g4, g5⟩
          · rw [if_pos (by decide)]
            refine ih2 (j + 1) _ (by omega) (Or.inr ⟨j, by omega, rfl, by omega, e2, fun i' hi h1 h2 => ?_⟩)
            by_cases e3 : i' = j
            · rw [e3]; exact Int32.le_refl _
            · exact absurd h2 (hv i' (by omega) h1)
          · rw [if_neg (nI_pos (by omega))]
            refine ⟨t, s_Mo_pt 0 hV1 hm1 (by omega) (by omega) rfl ⟨t, s_Mo_pt 0 hV1 hm1 (by omega) (by omega) rfl (by_if (fun e4 => ?_) (fun e4 => ?_))⟩⟩
            · refine ih2 (j + 1) _ (by omega) (Or.inr ⟨i, by omega, rfl, g3, g4, fun i' hi h1 h2 => ?_⟩)
              by_cases e3 : i' = j
              · rw [e3]; exact e4
              · exact g5 i' (by omega) h1 h2
            · refine ih2 (j + 1) _ (by omega) (Or.inr ⟨j, by omega, rfl, by omega, e2, fun i' hi h1 h2 => ?_⟩)
              by_cases e3 : i' = j
              · rw [e3]; exact Int32.le_refl _
              · exact Int32.le_trans (Int32.le_of_lt (Int32.not_le.mp e4)) (g5 i' (by omega) h1 h2)
      refine b_Mo_settle_4 ?_
      rw [if_neg (ge_l 16 16 (b := T) rfl (by omega) (by omega))]
      have := inner h 0 (-1) (by omega) (Or.inl ⟨rfl, fun i hi => by omega⟩)
      rw [nI_0] at this
      exact this
  have hle := Chn_le hc hV.nh
  have h0 := outer 16 0 0 k n o pi ro w (by omega) (by have := hV.h16; omega) (by omega) rfl (mOw.rf B r w) hV hm hc
  rw [nI_0] at h0
  exact e_Mo_settle h0
end SMT
