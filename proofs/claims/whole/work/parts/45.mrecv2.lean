/-! the model: receiving -/
theorem wf_len {l : List Int32} (hw : wfP l) (hn : nnL l) (hl : l.length ≤ 16) : l.length ≤ 12 ∧ ob l 5 = nI (l.length - 6) := by
  obtain ⟨⟨h1, h2, h3⟩, -⟩ := hw
  obtain ⟨j, hj, ej⟩ := nI_of (nn_ob hn 5)
  rw [ej] at h2 h3 ⊢
  have h4 : ¬ nI 6 < nI j := h2
  rw [nI_ltI (by omega) hj] at h4
  have h5 : nI l.length = nI (6 + j) := h3.trans (nI_add 6 j)
  rw [nI_eq (by omega) (by omega)] at h5
  exact ⟨by omega, by rw [h5]; congr 1; omega⟩
theorem beh_last {l : List Int32} (h6 : 6 < l.length) (ha : ascP l l.length) {x : Int32} : behP l x ↔ ob l (l.length - 1) < x := by
  constructor
  · intro h
    have := h (l.length - 7) (by omega)
    rw [show 6 + (l.length - 7) = l.length - 1 by omega] at this
    exact this
  · intro h k hk
    by_cases e : 6 + k = l.length - 1
    · rw [e]; exact h
    · exact Int32.lt_trans (ascP_lt ha (6 + k) (l.length - 1) (by omega) (by omega) (by omega)) h
/-- the refusals of a line that is well-formed and new -/
def rfP (l : List Int32) (r h : Nat) (c : Int32) : Prop := (c = -4 ∧ ob l 0 &&& 3 = nI r) ∨ (c = -5 ∧ ¬ ob l 0 &&& 3 = nI r ∧ ¬ gapP l) ∨ (c = -6 ∧ ¬ ob l 0 &&& 3 = nI r ∧ gapP l ∧ ¬ behP l (ob l 0)) ∨ (c = -7 ∧ ¬ ob l 0 &&& 3 = nI r ∧ gapP l ∧ behP l (ob l 0) ∧ 16 ≤ h)
theorem rfP_fn {l : List Int32} {r h : Nat} {c c' : Int32} (h1 : rfP l r h c) (h2 : rfP l r h c') : c = c' := by
  rcases h1 with ⟨rfl, a⟩ | ⟨rfl, a, b⟩ | ⟨rfl, a, b, e⟩ | ⟨rfl, a, b, e, f⟩ <;> rcases h2 with ⟨rfl, a'⟩ | ⟨rfl, a', b'⟩ | ⟨rfl, a', b', e'⟩ | ⟨rfl, a', b', e', f'⟩ <;> first | rfl | contradiction
section SMR2
variable {d : Nat} {w : mW} {Q : Int32 → mW → Prop} {B r n h : Nat} {o : Nat → mO} {pi ro : Nat → Nat} {x y z : Int32} {l : List Int32}
theorem s_Mo_receive (hV : MV w B r n h o pi ro) (hL : MLn w B l) (hn : nnL l) (hF : ¬ wfP l → Q (-2) w)
    (hQ1 : ∀ p w', wfP l → p < h → ob (o p) 0 = ob l 0 → mSc B w w' → Q (if bI (o p = l) = 0 then -3 else -8) w')
    (hQ2 : ∀ c w', wfP l → (∀ p, p < h → ob (o p) 0 ≠ ob l 0) → mSc B w w' → rfP l r h c → Q c w')
    (hQ3 : wfP l → (∀ p, p < h → ob (o p) 0 ≠ ob l 0) → ¬ ob l 0 &&& 3 = nI r → gapP l → behP l (ob l 0) → h < 16 → ∃ kk o', Chn kk n (h + 1) (kpO o h l) o' ∧ ∀ w' pi' ro', mOw B r w w' → MV w' B r (n + kk) (h + 1) o' pi' ro' → Q (nI kk) w') : mC (d + 4) m_Mo_receive [.ref B, .int (nI r)] w Q := by
  have r3 := hV.r3
  have h16 := hV.h16
  have t := hV.sh.2.1
  have hl := hL.1
  refine e_Mo_receive (s_Mo_isReplica (bI_ite (fun e => absurd (isR_nI r3) e) (fun e => ⟨t, s_Mo_wellFormed hV.sh hL hn (bI_ite hF (fun hw => ⟨t, ?_⟩))⟩)))
  rintro w3 rfl
  have hS3 : mSc B w (wrI w B 7 (nI r)) := (mSc.rf B w).me _
  have hV3 := hV.of hS3.1
  have hm3 : mI (wrI w B 7 (nI r)) B 7 = nI r := by rw [mI_wrI, if_pos ⟨rfl, rfl⟩]
  have hL3 : MLn (wrI w B 7 (nI r)) B l := hL.of hS3.2 (hS3.1.2 _ (by unfold scr; omega))
  have hwl := wf_len hw hn hl
  have hl6 := hw.1.1
  generalize wrI w B 7 (nI r) = w1 at hS3 hV3 hm3 hL3 ⊢
  obtain ⟨b0, t', ⟨p0, p1, p2, -, -, p5⟩, -, ⟨t1, l1⟩, ⟨t2, l2⟩, ⟨t3, l3⟩, -, -, ⟨t6, l6⟩, -⟩ := hV3.sh
  have h2 := hL3.2.1
  have h3 := hL3.2.2
  have v0 : vp_in (0 : Int32) 16 := vp_in_nI (n := 0) (by omega) (by omega)
  have v1 : vp_in (1 : Int32) 16 := vp_in_nI (n := 1) (by omega) (by omega)
  have v2 : vp_in (2 : Int32) 16 := vp_in_nI (n := 2) (by omega) (by omega)
  have v3 : vp_in (3 : Int32) 16 := vp_in_nI (n := 3) (by omega) (by omega)
  have z0 : (0 : Int32).toNatClampNeg = 0 := rfl
  have z1 : (1 : Int32).toNatClampNeg = 1 := rfl
  have z2 : (2 : Int32).toNatClampNeg = 2 := rfl
  have z3 : (3 : Int32).toNatClampNeg = 3 := rfl
  rw [p5, z0, z1, z2, z3, h3 0 (by omega), l6]
  refine ⟨t', by omega, t6, v0, s_Mo_find0 hV3 hm3 (fun v hv => ?_)⟩
  rcases hv with ⟨rfl, hv⟩ | ⟨j, g1, g2, rfl, g4⟩
  rotate_left
  · rw [if_neg (nI_pos (by omega))]
    refine ⟨t', s_Mo_sameAsLine hV3 hm3 hL3 hl6 hwl.2 g1 ?_⟩
    have := hQ1 (pi j) w1 hw g2 g4 hS3
    exact bI_ite (fun e2 => by rw [if_pos (bI_0.mpr e2)] at this; exact this) (fun e2 => by rw [if_neg (by rw [bI_0]; exact fun z => z e2)] at this; exact this)
  have new := fun c z => hQ2 c w1 hw hv hS3 z
  -- the copy
  have copy : ¬ ob l 0 &&& 3 = nI r → gapP l → behP l (ob l 0) → h < 16 → mG (d + 4) m_Mo_receive (0, 0) 158 [vR B, vI (nI r), vN, vI (0 : Int32)] [] w1 Q := by
    intro q1 q2 q3 q4
    obtain ⟨kk, o', hc, hQ3⟩ := hQ3 hw hv q1 q2 q3 q4
    have loop : ∀ c k (w2 : mW), k + c = l.length → mBw B (12 * (16 * r + h)) w1 w2 → (∀ f, f < k → mI w2 (B + 1) (12 * (16 * r + h) + f) = ob l f) → mG (d + 4) m_Mo_receive (0, 0) 158 [vR B, vI (nI r), vN, vI (nI k)] [] w2 Q := by
      intro c
      induction c with
      | zero =>
        intro k w2 hk hB hb
        refine b_Mo_receive_158 ?_
        rw [hB.2 B 6 (by omega), h2, if_pos (nI_le (by omega) (by omega)), hB.1.P, hB.1.P, p1, p2, hB.1.T, hB.1.T, hB.1.T, hB.1.L, hB.1.L, l2, l3, nI_clamp (by omega), hB.2 (B + 2) r (by omega), hV3.hd, ix16, nI_clamp (by omega)]
        refine ⟨t', by omega, by omega, t2, vp_in_nI (by omega) (by omega), t3, vp_in_nI (by omega) (by omega), ?_⟩
        rintro w4 rfl
        rw [mP_wrI, hB.1.P, p1, mT_wrI, mT_wrI, hB.1.T, hB.1.T, mL_wrI, hB.1.L, l2, mI_wrI, if_neg (by omega), hB.2 (B + 2) r (by omega), hV3.hd, nI_1]
        refine ⟨t', by omega, t2, vp_in_nI (by omega) (by omega), ?_⟩
        rintro w5 rfl
        have hB2 : mOw B r w1 (wrI (wrI w2 (B + 3) (16 * r + h) ((0 : Int32) &&& 1)) (B + 2) r (nI (h + 1))) := ((hB.ow (by omega)).wr _ (by unfold own; omega)).wr _ (by unfold own; omega)
        have hVa := hV3.add (c := l) (w' := wrI (wrI w2 (B + 3) (16 * r + h) ((0 : Int32) &&& 1)) (B + 2) r (nI (h + 1))) q4 (ok_wire hl hw q2 q3) hv hB2.1 (by rw [mI_wrI, if_pos ⟨rfl, rfl⟩])
          (by rw [mI_wrI, if_neg (by omega), mI_wrI, if_neg (by omega)]; exact hB.2 _ _ (by omega))
          (fun j hj f hf => by rw [mI_wrI, if_neg (by omega), mI_wrI, if_neg (by omega)]; exact hB.2 _ _ (by omega))
          (fun f hf => by rw [mI_wrI, if_neg (by omega), mI_wrI, if_neg (by omega)]; exact hb f (by omega))
          (fun j hj => by rw [mI_wrI, if_neg (by omega), mI_wrI, if_neg (by omega)]; exact hB.2 _ _ (by omega))
          (by rw [mI_wrI, if_neg (by omega), mI_wrI, if_pos ⟨rfl, rfl⟩]; decide)
          (fun p hp => by rw [mI_wrI, if_neg (by omega), mI_wrI, if_neg (by omega)]; exact hB.2 _ _ (by omega))
        have hmm : mI (wrI (wrI w2 (B + 3) (16 * r + h) ((0 : Int32) &&& 1)) (B + 2) r (nI (h + 1))) B 7 = nI r := by
          rw [mI_wrI, if_neg (by omega), mI_wrI, if_neg (by omega), hB.2 B 7 (by omega)]
          exact hm3
        refine ⟨hVa.sh.2.1, s_Mo_settle hVa hmm hc (fun w6 pi' ro' a1 a2 _ => hQ3 w6 pi' ro' (((hS3.ow r).tr hB2).tr a1) a2)⟩
      | succ c ih =>
        intro k w2 hk hB hb
        refine b_Mo_receive_158 ?_
        rw [hB.2 B 6 (by omega), h2, if_neg (nI_ge (by omega) (by omega)), hB.1.P, hB.1.P, hB.1.P, p0, p1, p5, hB.1.T, hB.1.T, hB.1.T, hB.1.T, hB.1.L, hB.1.L, hB.1.L, l1, l2, l6, nI_clamp (by omega), nI_clamp (by omega), hB.2 (B + 2) r (by omega), hV3.hd, ix12, nI_clamp (by omega), hB.2 (B + 6) k (by omega), h3 k (by omega), nI_1]
        refine ⟨t', by omega, by omega, t2, vp_in_nI (by omega) (by omega), by omega, t6, vp_in_nI (by omega) (by omega), t1, vp_in_nI (by omega) (by omega), ?_⟩
        rintro w4 rfl
        refine ih (k + 1) _ (by omega) (hB.wr _ (by omega)) (fun f hf => ?_)
        rw [mI_wrI]
        by_cases e2 : f = k
        · rw [if_pos ⟨rfl, by omega⟩, e2]
        · rw [if_neg (by omega)]
          exact hb f (by omega)
    have h0 := loop l.length 0 w1 (by omega) (mBw.rf _ _ _) (fun f hf => by omega)
    rw [nI_0] at h0
    exact h0
  have b110 : ¬ ob l 0 &&& 3 = nI r → gapP l → mG (d + 4) m_Mo_receive (0, 0) 110 [vR B, vI (nI r), vN, vN] [] w1 Q := by
    intro q1 q2
    have full : behP l (ob l 0) → if nI h < (16 : Int32) then mG (d + 4) m_Mo_receive (0, 0) 158 [vR B, vI (nI r), vN, vI (0 : Int32)] [] w1 Q else Q (-7) w1 := by
      intro q3
      refine by_if (fun q4 => copy q1 q2 q3 ?_) (fun q4 => new (-7) (Or.inr (Or.inr (Or.inr ⟨rfl, q1, q2, q3, ?_⟩))))
      · have q5 : nI h < nI 16 := q4
        rw [nI_ltI (by omega) (by omega)] at q5
        exact q5
      · have q5 : ¬ nI h < nI 16 := q4
        rw [nI_ltI (by omega) (by omega)] at q5
        omega
    refine b_Mo_receive_110 ⟨t', ?_⟩
    rw [h2, p1, l2, nI_clamp (by omega), hV3.hd]
    refine by_if (fun q3 => ⟨by omega, t2, vp_in_nI (by omega) (by omega), full (fun k hk => ?_)⟩) (fun q3 => ?_)
    · have q4 : nI l.length ≤ nI 6 := q3
      rw [nI_leI (by omega) (by omega)] at q4
      omega
    · have q4 : ¬ nI l.length ≤ nI 6 := q3
      rw [nI_leI (by omega) (by omega)] at q4
      have em : nI l.length - 1 = nI (l.length - 1) := by
        have := nI_pred (l.length - 1)
        rw [show l.length - 1 + 1 = l.length by omega] at this
        exact this
      rw [p5, em, z0, nI_clamp (by omega), h3 0 (by omega), h3 (l.length - 1) (by omega), l6]
      refine ⟨by omega, t6, vp_in_nI (by omega) (by omega), v0, by_if (fun q5 => ⟨by omega, t2, vp_in_nI (by omega) (by omega), full ((beh_last (by omega) hw.2.1).mpr q5)⟩) (fun q5 => new (-6) (Or.inr (Or.inr (Or.inl ⟨rfl, q1, q2, fun z => q5 ((beh_last (by omega) hw.2.1).mp z)⟩))))⟩
  rw [if_pos (by decide), p5, h3 0 (by omega), h3 2 (by omega), l6]
  obtain ⟨m, em, m1, m2, m3⟩ := isIdP_of hw.2.2.1
  have erem : ob l 0 - ob l 0 / (4 : Int32) * (4 : Int32) = ob l 0 &&& 3 := by rw [em, rem4 m m2, id_and (by omega)]
  rw [erem]
  refine ⟨t', by omega, t6, v0, by decide, by_if (fun q1 => new (-4) (Or.inl ⟨rfl, q1⟩)) (fun q1 => ⟨v2, s_Mo_says hV3.sh hL3 hl6 (bI_ite (fun q2 => new (-5) (Or.inr (Or.inl ⟨rfl, q1, fun z => q2 z.1⟩))) (fun q2 => ?_))⟩)⟩
  rw [p5, h3 1 (by omega), h3 3 (by omega), l6]
  exact ⟨t', by omega, t6, v1, by_if (fun q3 => ⟨v3, s_Mo_says hV3.sh hL3 hl6 (bI_ite (fun q4 => new (-5) (Or.inr (Or.inl ⟨rfl, q1, fun z => q4 (z.2 q3)⟩))) (fun q4 => b110 q1 ⟨q2, fun _ => q4⟩))⟩) (fun q3 => b110 q1 ⟨q2, fun z => absurd z q3⟩)⟩
end SMR2
