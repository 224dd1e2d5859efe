/-! the model: totals -/
section SMTT
variable {d : Nat} {w : mW} {Q : Int32 → mW → Prop} {B r n h : Nat} {o : Nat → mO} {pm : Nat → Int32} {ft : Nat → Prop} {sg : Nat → Nat} {pi ro : Nat → Nat} {S : Nat → Int32} {m l : Int32} {L : List Nat}
theorem s_Mo_mapTotal (hV : MV w B r n h o pi ro) (hm : mI w B 7 = nI r) (hS : ST w B h n pi pm ft) (hs : SgOk n o sg)
    (hTt : ∀ j, j < h → pi j < n → ob (o (pi j)) 2 = m → (ob (o (pi j)) 1 = 0 → S (pi j) = ob (o (pi j)) 4) ∧ (ob (o (pi j)) 1 = 1 ∨ ob (o (pi j)) 1 = 2 → mI w (B + 9) j = S (pi j))) (hQ : Q (mpK n o pm ft sg S m 4) w) : mC (d + 3) m_Mo_mapTotal [.ref B, .int m] w Q := by
  have h16 := hV.h16
  have nh := hV.nh
  obtain ⟨b0, t, -, ⟨-, -, p10, -⟩, -, -, -, -, -, -, -, -, ⟨t9, l9⟩, -⟩ := hV.sh
  have outer : ∀ c key, key + c = 4 → mG (d + 3) m_Mo_mapTotal (0, 0) 5 [vR B, vI m, vI (mpK n o pm ft sg S m key), vI (nI key), vN, vN] [] w Q := by
    intro c
    induction c with
    | zero =>
      intro key hk
      refine b_Mo_mapTotal_5 ?_
      rw [if_pos (le_l 4 4 rfl (by omega) (by omega)), show key = 4 by omega]
      exact hQ
    | succ c ih =>
      intro key hk
      refine b_Mo_mapTotal_5 ?_
      rw [if_neg (ge_l 4 4 (b := key) rfl (by omega) (by omega))]
      have inner : ∀ e a s, a + e = 16 → (∃ i, i ≤ n ∧ (eL (fun i => eaP n o pm ft m (nI key) (sg i)) (fun i => ob (o (sg i)) 0) i).length = min a (eL (fun i => eaP n o pm ft m (nI key) (sg i)) (fun i => ob (o (sg i)) 0) n).length ∧ s = fldI (fun i => eaP n o pm ft m (nI key) (sg i)) (fun i z => 31 * (31 * z + 4 * ob (o (sg i)) 0 + nI key) + S (sg i)) i (mpK n o pm ft sg S m key)) → mG (d + 3) m_Mo_mapTotal (0, 0) 13 [vR B, vI m, vI s, vI (nI key), vI (nI a), vN] [] w Q := by
        intro e
        induction e with
        | zero =>
          intro a s ha hi
          refine b_Mo_mapTotal_13 ?_
          rw [if_pos (le_l 16 16 rfl (by omega) (by omega)), nI_1]
          obtain ⟨i, i1, i2, i3⟩ := hi
          have hl := eL_len (fun i => eaP n o pm ft m (nI key) (sg i)) (fun i => ob (o (sg i)) 0) n
          rw [i3, fld_len2 (i' := n) (by rw [i2]; omega)]
          exact ih (key + 1) (by omega)
        | succ e ih2 =>
          intro a s ha hi
          refine b_Mo_mapTotal_13 ?_
          rw [if_neg (ge_l 16 16 (b := a) rfl (by omega) (by omega)), nI_1 a]
          refine ⟨t, s_Mo_entryPlace hV hm hS hs (fun v hv => ?_)⟩
          rcases fld_step (by omega) (by omega) hv hi with ⟨i, j, i1, j1, hp, e1, rfl, hn⟩ | ⟨hv0, hn⟩
          · have hj2 : pi j < n := by rw [e1]; exact hs.1 i i1
            obtain ⟨k1, k2⟩ := hTt j j1 hj2 (by rw [e1]; exact hp.1)
            rw [if_neg (nI_pos (by omega))]
            refine ⟨t, s_Mo_pt 0 hV hm j1 (by omega) rfl ⟨t, s_Mo_pt 1 hV hm j1 (by omega) rfl (by_if (fun g => ⟨t, s_Mo_pt 4 hV hm j1 (by omega) rfl ?_⟩) (fun g => ?_))⟩⟩
            · rw [← k1 g, e1]
              exact ih2 (a + 1) _ (by omega) hn
            · have kk : ob (o (pi j)) 1 = 1 ∨ ob (o (pi j)) 1 = 2 := by
                have hw := hp.2.2.2.1
                have h5 := hp.2.2.2.2.1
                rw [← e1] at hw h5
                rcases hw with z | z | z | z
                · exact absurd z g
                · exact Or.inl z
                · exact Or.inr z
                · exact absurd z h5
              rw [p10, nI_clamp (by omega), k2 kk, l9, e1]
              exact ⟨t, by omega, t9, vp_in_nI (by omega) (by omega), ih2 (a + 1) _ (by omega) hn⟩
          · rw [if_pos hv0]
            exact ih2 (a + 1) s (by omega) hn
      have i0 := inner 16 0 (mpK n o pm ft sg S m key) (by omega) ⟨0, by omega, by rw [Nat.zero_min]; rfl, rfl⟩
      rw [nI_0] at i0
      exact i0
  have h0 := outer 4 0 (by omega)
  rw [nI_0] at h0
  exact e_Mo_mapTotal h0
theorem s_Mo_listTotal (hV : MV w B r n h o pi ro) (hm : mI w B 7 = nI r) (hS : ST w B h n pi pm ft) (hFt : FtOk n o ft) (hs : SgOk n o sg) (hL : arR o ft sg l n L) (hQ : Q (lsF n o ft L L.length) w) : mC (d + 5) m_Mo_listTotal [.ref B, .int l] w Q := by
  have h16 := hV.h16
  have nh := hV.nh
  have t := hV.sh.2.1
  have hLl := arR_len hL
  have loop : ∀ e a s, a + e = 16 → (∃ i, i ≤ L.length ∧ (eL (fun i => ¬ goP n o ft (ob (o (L.getD i 0)) 0)) (fun i => ob (o (L.getD i 0)) 0) i).length = min a (eL (fun i => ¬ goP n o ft (ob (o (L.getD i 0)) 0)) (fun i => ob (o (L.getD i 0)) 0) L.length).length ∧ s = fldI (fun j => ¬ goP n o ft (ob (o (L.getD j 0)) 0)) (fun j z => 31 * z + 128 * ob (o (L.getD j 0)) 0 + ob (o (L.getD j 0)) 4) i 11) → mG (d + 5) m_Mo_listTotal (0, 0) 5 [vR B, vI l, vI s, vI (nI a), vN] [] w Q := by
    intro e
    induction e with
    | zero =>
      intro a s ha hi
      refine b_Mo_listTotal_5 ?_
      rw [if_pos (le_l 16 16 rfl (by omega) (by omega))]
      obtain ⟨i, i1, i2, i3⟩ := hi
      have hl := eL_len (fun i => ¬ goP n o ft (ob (o (L.getD i 0)) 0)) (fun i => ob (o (L.getD i 0)) 0) L.length
      rw [i3, fld_len2 (f := fun i => ob (o (L.getD i 0)) 0) (i' := L.length) (by rw [i2]; omega)]
      exact hQ
    | succ e ih =>
      intro a s ha hi
      refine b_Mo_listTotal_5 ?_
      rw [if_neg (ge_l 16 16 (b := a) rfl (by omega) (by omega)), nI_1 a]
      refine ⟨t, s_Mo_elementPlace hV hm hS hFt hs hL (fun v hv => ?_)⟩
      rcases fld_step (by omega) (by omega) hv hi with ⟨i, j, i1, j1, hp, e1, rfl, hn⟩ | ⟨hv0, hn⟩
      · rw [if_neg (nI_pos (by omega))]
        refine ⟨t, s_Mo_pt 0 hV hm j1 (by omega) rfl ⟨t, s_Mo_pt 4 hV hm j1 (by omega) rfl ?_⟩⟩
        rw [e1]
        exact ih (a + 1) _ (by omega) hn
      · rw [if_pos hv0]
        exact ih (a + 1) s (by omega) hn
  have i0 := loop 16 0 11 (by omega) ⟨0, by omega, by rw [Nat.zero_min]; rfl, rfl⟩
  rw [nI_0] at i0
  exact e_Mo_listTotal i0
theorem s_Mo_sum (hV : MV w B r n h o pi ro) (hM : MI (nI r) n h o) (hP : PmOk n o pm) (hT : FtOk n o ft) (hs : SgOk n o sg) (hSm : ∀ p, p < n → smP n o pm ft sg S p) (hQ : ∀ w', mSc B w w' → Q (mpK n o pm ft sg S 0 4) w') : mC (d + 6) m_Mo_sum [.ref B, .int (nI r)] w Q := by
  have r3 := hV.r3
  have h16 := hV.h16
  have nh := hV.nh
  have t := hV.sh.2.1
  have hun := unq_sub hV.uq nh
  have hok : ∀ q, q < n → okO (o q) := fun q hq => hV.ok q (by omega)
  have hid : ∀ p, p < n → ∃ m, ob (o p) 0 = nI m ∧ 4 ≤ m ∧ m < 163 := fun p hp => by
    obtain ⟨m, e, m1, m2, -⟩ := isIdP_of (hok p hp).2.1
    exact ⟨m, e, m1, m2⟩
  refine e_Mo_sum (s_Mo_isReplica (bI_ite (fun e => absurd (isR_nI r3) e) (fun e => ⟨t, s_Mo_study hV hM.2.1 hP hT (fun w1 a1 a2 a3 a4 => ?_)⟩)))
  have stST : ∀ w2, mFr (fun a => a = B + 9) w1 w2 → ST w2 B h n pi pm ft := by
    intro w2 hf j hj hjn
    rw [hf.2 (B + 7) (by omega), hf.2 (B + 8) (by omega)]
    exact a4 j hj hjn
  have cond : ∀ (w2 : mW) (m0 : Int32) (id : Nat), (∀ p, p < n → ob (o p) 2 = m0 → nI id < ob (o p) 0) → (∀ j, j < h → pi j < n → nI id < ob (o (pi j)) 0 → (ob (o (pi j)) 1 = 1 ∨ ob (o (pi j)) 1 = 2) → mI w2 (B + 9) j = S (pi j)) → ∀ j, j < h → pi j < n → ob (o (pi j)) 2 = m0 → (ob (o (pi j)) 1 = 0 → S (pi j) = ob (o (pi j)) 4) ∧ (ob (o (pi j)) 1 = 1 ∨ ob (o (pi j)) 1 = 2 → mI w2 (B + 9) j = S (pi j)) := by
    intro w2 m0 id h1 h2 j hj hjn hm0
    refine ⟨fun z => (hSm (pi j) hjn).2.2 (by rw [z]; decide) (by rw [z]; decide), fun z => h2 j hj hjn (h1 _ hjn hm0) z⟩
  have loop : ∀ id w2, id < 163 → mFr (fun a => a = B + 9) w1 w2 → (∀ j, j < h → pi j < n → nI (id + 3) < ob (o (pi j)) 0 → (ob (o (pi j)) 1 = 1 ∨ ob (o (pi j)) 1 = 2) → mI w2 (B + 9) j = S (pi j)) → id + 3 < 163 → mG (d + 6) m_Mo_sum (0, 0) 18 [vR B, vN, vI (nI (id + 3)), vN] [] w2 Q := by
    intro id
    induction id with
    | zero =>
      intro w2 _ hf hd _
      have hS2 : mSc B w w2 := a1.tr ⟨hf.to (fun a ha => by unfold scr; omega), by rw [hf.2 B (by omega)]⟩
      have hV2 := hV.of hS2.1
      have hm2 : mI w2 B 7 = nI r := by rw [hf.2 B (by omega)]; exact a3
      refine b_Mo_sum_18 ?_
      rw [if_pos (show nI (0 + 3) < (4 : Int32) by decide)]
      refine ⟨hV2.sh.2.1, s_Mo_mapTotal hV2 hm2 (stST w2 hf) hs (cond w2 0 3 (fun p hp _ => ?_) hd) (hQ w2 hS2)⟩
      obtain ⟨m', em, m1, m2⟩ := hid p hp
      rw [em]
      exact nI_lt (by omega) (by omega)
    | succ id ih =>
      intro w2 h163 hf hd hlt
      have hS2 : mSc B w w2 := a1.tr ⟨hf.to (fun a ha => by unfold scr; omega), by rw [hf.2 B (by omega)]⟩
      have hV2 := hV.of hS2.1
      have hm2 : mI w2 B 7 = nI r := by rw [hf.2 B (by omega)]; exact a3
      obtain ⟨b0, t2, -, ⟨-, -, p10, -⟩, -, -, -, -, -, -, -, -, ⟨t9, l9⟩, -⟩ := hV2.sh
      have em1 : nI (id + 1 + 3) + (-1 : Int32) = nI (id + 3) := by
        rw [show id + 1 + 3 = id + 3 + 1 by omega]
        exact pk_m1 _
      have lts : ∀ p, p < n → (nI (id + 3) < ob (o p) 0 ↔ nI (id + 1 + 3) < ob (o p) 0 ∨ ob (o p) 0 = nI (id + 1 + 3)) := by
        intro p hp
        obtain ⟨m', em, -, m2⟩ := hid p hp
        rw [em, nI_ltI (by omega) (by omega), nI_ltI (by omega) (by omega), nI_eq (by omega) (by omega)]
        omega
      refine b_Mo_sum_18 ?_
      rw [if_neg (show ¬ nI (id + 1 + 3) < (4 : Int32) from nI_nlt (a := id + 1 + 3) (b := 4) (by omega) (by omega)), em1]
      refine ⟨t2, s_Mo_find1 hV2 hm2 (fun u hu => ?_)⟩
      rcases hu with ⟨rfl, hu⟩ | ⟨j, j1, j2, rfl, j4⟩
      · rw [if_pos (by decide)]
        refine ih w2 (by omega) hf (fun q q1 q2 q3 q4 => hd q q1 q2 ?_ q4) (by omega)
        exact ((lts _ q2).mp q3).elim (fun z => z) (fun z => absurd z (hu _ q2))
      · rw [if_neg (nI_pos (by omega)), p10]
        have next : ∀ v : Int32, (ob (o (pi j)) 1 = 1 ∨ ob (o (pi j)) 1 = 2 → v = S (pi j)) → mG (d + 6) m_Mo_sum (0, 0) 18 [vR B, vN, vI (nI (id + 3)), vN] [] (wrI w2 (B + 9) j v) Q := by
          intro v hv
          refine ih _ (by omega) (hf.wrI _ _ rfl) (fun q q1 q2 q3 q4 => ?_) (by omega)
          rw [mI_wrI]
          by_cases e1 : q = j
          · rw [if_pos ⟨rfl, e1⟩, e1]
            rw [e1] at q4
            exact hv q4
          · rw [if_neg (by omega)]
            refine hd q q1 q2 (((lts _ q2).mp q3).elim (fun z => z) (fun z => ?_)) q4
            exact absurd (hV.inj q1 j1 (hun _ _ q2 j2 (z.trans j4.symm))) e1
        have up : ∀ p, p < n → ob (o p) 2 = nI (id + 1 + 3) → nI (id + 1 + 3) < ob (o p) 0 := by
          intro p hp e2
          have hg := (hok p hp).2.2.2.2.1.1
          have hb' := (hok p hp).2.2.2.2.2.1
          rw [e2] at hg
          rcases hg with hg | ⟨q, q1, q2⟩
          · exact absurd hg (nI_ne0 (by omega) (by omega))
          · rw [← q2]; exact hb' q q1
        have hsm := hSm (pi j) j2
        refine ⟨t2, by omega, s_Mo_pt 1 hV2 hm2 j1 (by omega) rfl (by_if (fun g1 => ⟨t2, s_Mo_mapTotal (S := S) hV2 hm2 (stST w2 hf) hs (cond w2 _ (id + 1 + 3) up hd) ⟨t9, by rw [l9]; exact vp_in_nI (by omega) (by omega), ?_⟩⟩) (fun g1 => ⟨t2, s_Mo_pt 1 hV2 hm2 j1 (by omega) rfl (by_if (fun g2 => ?_) (fun g2 => ⟨t9, by rw [l9]; exact vp_in_nI (by omega) (by omega), ?_⟩))⟩))⟩
        · rintro w9 rfl
          rw [nI_clamp (by omega)]
          exact next _ (fun _ => by rw [hsm.1 g1, j4])
        · obtain ⟨L, L1, L2⟩ := hsm.2.1 g2
          rw [j4] at L1
          refine ⟨t2, s_Mo_listTotal hV2 hm2 (stST w2 hf) hT hs L1 ⟨t9, by rw [l9]; exact vp_in_nI (by omega) (by omega), ?_⟩⟩
          rintro w9 rfl
          rw [nI_clamp (by omega)]
          exact next _ (fun _ => L2.symm)
        · rintro w9 rfl
          rw [nI_clamp (by omega)]
          exact next _ (fun z => z.elim (fun z => absurd z g1) (fun z => absurd z g2))
  exact loop 159 w1 (by omega) (mFr.rf _ w1) (fun j hj hjn z _ => by
    obtain ⟨m', em, -, m2⟩ := hid (pi j) hjn
    rw [em, nI_ltI (by omega) (by omega)] at z
    omega) (by omega)
end SMTT
