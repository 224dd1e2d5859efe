/-! the model: editing -/
theorem cntP_add1 {n p0 : Nat} {P P' : Nat → Prop} (hp : p0 < n) (h0 : ¬ P p0) (h : ∀ p, p < n → (P' p ↔ P p ∨ p = p0)) : cntP n P' = cntP n P + 1 := by
  induction n with
  | zero => omega
  | succ n ih =>
    by_cases e : n = p0
    · have hP : P' n := (h n (by omega)).mpr (Or.inr e)
      have hN : ¬ P n := by rw [e]; exact h0
      rw [cntP_t hP, cntP_f hN]
      have : ∀ m, m ≤ n → cntP m P' = cntP m P := by
        intro m
        induction m with
        | zero => intro _; rfl
        | succ m ih2 =>
          intro hm
          have e2 : P' m ↔ P m := by
            rw [h m (by omega)]
            exact ⟨fun z => z.elim id (fun z => by omega), Or.inl⟩
          by_cases hq : P m
          · rw [cntP_t hq, cntP_t (e2.mpr hq), ih2 (by omega)]
          · rw [cntP_f hq, cntP_f (fun z => hq (e2.mp z)), ih2 (by omega)]
      rw [this n (Nat.le_refl n)]
    · have e2 : P' n ↔ P n := by
        rw [h n (by omega)]
        exact ⟨fun z => z.elim id (fun z => absurd z e), Or.inl⟩
      have := ih (by omega) (fun p hp => h p (by omega))
      by_cases hq : P n
      · rw [cntP_t hq, cntP_t (e2.mpr hq), this]
      · rw [cntP_f hq, cntP_f (fun z => hq (e2.mp z)), this]
theorem cntP_eq {n : Nat} {P P' : Nat → Prop} (h : ∀ p, p < n → (P' p ↔ P p)) : cntP n P' = cntP n P := by
  induction n with
  | zero => rfl
  | succ n ih =>
    have := ih (fun p hp => h p (by omega))
    by_cases hq : P n
    · rw [cntP_t hq, cntP_t ((h n (by omega)).mpr hq), this]
    · rw [cntP_f hq, cntP_f (fun z => hq ((h n (by omega)).mp z)), this]
theorem cntP_none {n : Nat} {P : Nat → Prop} (h : ∀ p, p < n → ¬ P p) : cntP n P = 0 := by
  induction n with
  | zero => rfl
  | succ n ih => rw [cntP_f (h n (by omega)), ih (fun p hp => h p (by omega))]
theorem gct_at {num : Int32} {n h : Nat} {o : Nat → mO} {sg : Nat → Nat} (hM : MI num n h o) (hnh : n ≤ h) (hs : SgOk n o sg) : ∃ c, gct n o sg = nI c ∧ c ≤ 40 ∧ (∀ p m, p < n → ob (o p) 0 = nI m → m < 163 → m / 4 ≤ c) ∧ (c = 0 ∨ ∃ p m, p < n ∧ ob (o p) 0 = nI m ∧ m < 163 ∧ m / 4 = c) := by
  obtain ⟨c, h1, h2, h3⟩ := gct_nat hM hnh hs
  refine ⟨c, h1, h2, fun p m hp e hm => ?_, ?_⟩
  · obtain ⟨m', e', -, g2, -, g4⟩ := h3 p hp
    rw [e, nI_eq (by omega) (by omega)] at e'
    omega
  · unfold gct at h1
    by_cases h0 : n = 0
    · rw [if_pos h0] at h1
      have h4 : nI 0 = nI c := h1
      rw [nI_eq (by omega) (by omega)] at h4
      exact Or.inl h4.symm
    · rw [if_neg h0] at h1
      have hl := hs.1 (n - 1) (by omega)
      obtain ⟨m, em, m1, m2, -⟩ := isIdP_of (hM.1 (sg (n - 1)) (by omega)).2.1
      rw [em, id_shr (by omega), nI_eq (by omega) (by omega)] at h1
      exact Or.inr ⟨sg (n - 1), m, hl, em, m2, h1⟩
theorem div4 : ∀ m, m < 163 → nI m / (4 : Int32) = nI (m / 4) := by decide +kernel
theorem ixs (r h : Nat) : (12 : Int32) * ((16 : Int32) * nI r + nI h) = nI (12 * (16 * r + h)) := by
  have e : (12 : Int32) = nI 12 := rfl
  rw [ix16, e, pk_mul]
section SME
variable {d : Nat} {w : mW} {Q : Int32 → mW → Prop} {B r n h : Nat} {o : Nat → mO} {pm : Nat → Int32} {ft : Nat → Prop} {sg : Nat → Nat} {pi ro : Nat → Nat} {k t s v : Int32}
/-- the shape follows from the rest -/
theorem sp_of_fit (hok : ∀ q, q < n → okO (o q)) (hk0 : ¬ k < 0) (hk5 : k ≤ 5) (hs : k ≠ 3 → k ≠ 4 → isKy s) (hs4 : k = 4 → s = 0) (hv : svP k v) (hf : fitP n o ft k t s) : spP k t s v := by
  rcases hf with ⟨h3, h4, ⟨p, h5, h6, -⟩⟩ | ⟨h3, p, h4⟩ | ⟨h3, h4, h5⟩
  · refine Or.inr (Or.inl ⟨h3, by rw [← h6]; exact (hok p h5).2.1, ?_, hv⟩)
    rcases h4 with h4 | ⟨q, h4, -⟩
    · exact Or.inl h4
    · exact Or.inr (by rw [← h4.2.1]; exact (hok q h4.1).2.1)
  · exact Or.inr (Or.inr ⟨h3, by rw [← h4.2.1]; exact (hok p h4.1).2.1, hs4 h3, hv⟩)
  · refine Or.inl ⟨?_, ?_, hs h3 h4, hv⟩
    · obtain ⟨j, hj, rfl⟩ := nI_of hk0
      have e9 : nI j ≤ nI 5 := hk5
      rw [nI_leI hj (by omega)] at e9
      have k3' : ¬ nI j = nI 3 := h3
      have k4' : ¬ nI j = nI 4 := h4
      rw [nI_eq hj (by omega)] at k3' k4'
      rcases (by omega : j = 0 ∨ j = 1 ∨ j = 2 ∨ j = 5) with rfl | rfl | rfl | rfl
      · exact Or.inl rfl
      · exact Or.inr (Or.inl rfl)
      · exact Or.inr (Or.inr (Or.inl rfl))
      · exact Or.inr (Or.inr (Or.inr rfl))
    · rcases h5 with h5 | ⟨p, h5, h6, -⟩
      · exact Or.inl h5
      · exact Or.inr (by rw [← h6]; exact (hok p h5).2.1)
theorem ky3 (hs : ¬ s < 0) : ¬ (3 : Int32) < s ↔ isKy s := by
  obtain ⟨j, hj, rfl⟩ := nI_of hs
  show ¬ nI 3 < nI j ↔ ¬ nI j < 0 ∧ ¬ nI 4 ≤ nI j
  rw [nI_ltI (by omega) hj, nI_leI (by omega) hj]
  exact ⟨fun z => ⟨nI_pos hj, by omega⟩, fun z => by omega⟩
theorem spP_k (hsp : spP k t s v) : ¬ k < 0 ∧ k ≤ 5 ∧ svP k v ∧ (k ≠ 3 → k ≠ 4 → isKy s) ∧ (k = 4 → s = 0) := by
  rcases hsp with ⟨h1, -, h3, h4⟩ | ⟨h1, -, -, h4⟩ | ⟨h1, -, h3, h4⟩
  · refine ⟨?_, ?_, h4, fun _ _ => h3, fun z => absurd z (wmP_ne3 h1).2⟩ <;> rcases h1 with h1 | h1 | h1 | h1 <;> rw [h1] <;> decide
  · exact ⟨by rw [h1]; decide, by rw [h1]; decide, h4, fun z => absurd h1 z, fun z => by rw [h1] at z; exact absurd z (by decide)⟩
  · exact ⟨by rw [h1]; decide, by rw [h1]; decide, h4, fun _ z => absurd h1 z, fun _ => h3⟩
/-- the last of an edit: the row is written and applied -/
theorem s_Mo_edit_316 {c kk : Nat} {bs : List Int32} {o' : Nat → mO} {w1 : mW} (hV : MV w1 B r n h o pi ro) (hm : mI w1 B 7 = nI r) (hh : h < 16) (hc6 : bs.length ≤ 6)
    (hok : okO (mkO (4 * nI (c + 1) + nI r) k t s v bs)) (hd : ∀ p, p < h → ob (o p) 0 ≠ 4 * nI (c + 1) + nI r)
    (hfr : ∀ i, i < bs.length → mI w1 (B + 10) (6 + i) = bs.getD i 0)
    (hc : Chn kk (n + 1) (h + 1) (swp (kpO o h (mkO (4 * nI (c + 1) + nI r) k t s v bs)) n h) o')
    (hQ : ∀ w' pi' ro', mOw B r w1 w' → MV w' B r (n + 1 + kk) (h + 1) o' pi' ro' → Q (4 * nI (c + 1) + nI r) w') :
    ∀ e j w2, j + e = bs.length → mBw B (12 * (16 * r + h)) w1 w2 → (∀ f, f < 6 + j → mI w2 (B + 1) (12 * (16 * r + h) + f) = ob (mkO (4 * nI (c + 1) + nI r) k t s v bs) f) → mG (d + 4) m_Mo_edit (0, 0) 316 [vR B, vI (nI r), vN, vN, vN, vN, vN, vN, vI (nI (c + 1)), vI (nI bs.length), vI (nI (12 * (16 * r + h))), vI (nI j)] [] w2 Q := by
  have r3 := hV.r3
  have nh := hV.nh
  obtain ⟨b0, t', ⟨p0, p1, p2, -, -, -⟩, ⟨-, -, -, p11⟩, ⟨t1, l1⟩, ⟨t2, l2⟩, ⟨t3, l3⟩, -, -, -, -, -, -, ⟨t10, l10⟩⟩ := hV.sh
  have hlen : (mkO (4 * nI (c + 1) + nI r) k t s v bs).length = bs.length + 6 := mkO_len _ _ _ _ _ _
  intro e
  induction e with
  | zero =>
    intro j w2 hj hB hb
    refine b_Mo_edit_316 ?_
    rw [if_pos (nI_le (by omega) (by omega)), hB.1.P, hB.1.P, p1, p2, hB.1.T, hB.1.T, hB.1.T, hB.1.L, hB.1.L, l2, l3, nI_clamp (by omega), hB.2 (B + 2) r (by omega), hV.hd, ix16, nI_clamp (by omega)]
    refine ⟨t', by omega, by omega, t2, vp_in_nI (by omega) (by omega), t3, vp_in_nI (by omega) (by omega), ?_⟩
    rintro w4 rfl
    rw [mP_wrI, hB.1.P, p1, mT_wrI, mT_wrI, hB.1.T, hB.1.T, mL_wrI, hB.1.L, l2, mI_wrI, if_neg (by omega), hB.2 (B + 2) r (by omega), hV.hd, nI_1]
    refine ⟨t', by omega, t2, vp_in_nI (by omega) (by omega), ?_⟩
    rintro w5 rfl
    have hB2 : mOw B r w1 (wrI (wrI w2 (B + 3) (16 * r + h) ((0 : Int32) &&& 1)) (B + 2) r (nI (h + 1))) := ((hB.ow (by omega)).wr _ (by unfold own; omega)).wr _ (by unfold own; omega)
    have hVa := hV.add (c := mkO (4 * nI (c + 1) + nI r) k t s v bs) (w' := wrI (wrI w2 (B + 3) (16 * r + h) ((0 : Int32) &&& 1)) (B + 2) r (nI (h + 1))) hh hok hd hB2.1 (by rw [mI_wrI, if_pos ⟨rfl, rfl⟩])
      (by rw [mI_wrI, if_neg (by omega), mI_wrI, if_neg (by omega)]; exact hB.2 _ _ (by omega))
      (fun j hj f hf => by rw [mI_wrI, if_neg (by omega), mI_wrI, if_neg (by omega)]; exact hB.2 _ _ (by omega))
      (fun f hf => by rw [mI_wrI, if_neg (by omega), mI_wrI, if_neg (by omega)]; exact hb f (by omega))
      (fun j hj => by rw [mI_wrI, if_neg (by omega), mI_wrI, if_neg (by omega)]; exact hB.2 _ _ (by omega))
      (by rw [mI_wrI, if_neg (by omega), mI_wrI, if_pos ⟨rfl, rfl⟩]; decide)
      (fun p hp => by rw [mI_wrI, if_neg (by omega), mI_wrI, if_neg (by omega)]; exact hB.2 _ _ (by omega))
    have hmm : mI (wrI (wrI w2 (B + 3) (16 * r + h) ((0 : Int32) &&& 1)) (B + 2) r (nI (h + 1))) B 7 = nI r := by
      rw [mI_wrI, if_neg (by omega), mI_wrI, if_neg (by omega), hB.2 B 7 (by omega)]
      exact hm
    have hp1 : mP (wrI (wrI w2 (B + 3) (16 * r + h) ((0 : Int32) &&& 1)) (B + 2) r (nI (h + 1))) B 1 = B + 2 := hVa.sh.2.2.1.2.1
    rw [hp1, hVa.hd, nI_pred, hVa.sh.2.2.2.2.2.1.2]
    refine ⟨hVa.sh.2.1, by omega, hVa.sh.2.2.2.2.2.1.1, vp_in_nI (by omega) (by omega), s_Mo_apply hVa hmm (by omega) (by rw [if_pos rfl]; exact nh) (fun w6 a1 a2 a3 => ⟨a3.sh.2.1, ?_⟩)⟩
    refine s_Mo_settle a3 a2 (k := kk) (o' := o') (by rw [if_pos rfl]; exact hc) (fun w7 pi' ro' c1 c2 _ => hQ w7 pi' ro' ((hB2.tr a1).tr c1) c2)
  | succ e ih =>
    intro j w2 hj hB hb
    have e6 : (6 : Int32) + nI j = nI (6 + j) := nI_add 6 j
    have e7 : nI (12 * (16 * r + h)) + (6 : Int32) + nI j = nI (12 * (16 * r + h) + (6 + j)) := by
      have : nI (12 * (16 * r + h)) + (6 : Int32) = nI (12 * (16 * r + h) + 6) := nI_add _ 6
      rw [this, nI_add]
      congr 1
      omega
    refine b_Mo_edit_316 ?_
    rw [if_neg (nI_ge (by omega) (by omega)), hB.1.P, hB.1.P, p0, p11, e6, e7, hB.1.T, hB.1.T, hB.1.T, hB.1.L, hB.1.L, l1, l10, nI_clamp (by omega), nI_clamp (by omega), hB.2 (B + 10) _ (by omega), hfr j (by omega), nI_1]
    refine ⟨t', by omega, by omega, t10, vp_in_nI (by omega) (by omega), t1, vp_in_nI (by omega) (by omega), ?_⟩
    rintro w4 rfl
    refine ih (j + 1) _ (by omega) (hB.wr _ (by omega)) (fun f hf => ?_)
    rw [mI_wrI]
    by_cases e2 : f = 6 + j
    · rw [if_pos ⟨rfl, by omega⟩, e2, ob_mk6]
    · rw [if_neg (by omega)]
      exact hb f (by omega)
end SME
