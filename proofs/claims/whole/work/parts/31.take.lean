/-! issuing, taking, comparing -/
theorem PmOk_congr {n : Nat} {o o' : Nat → mO} {pm : Nat → Int32} (h : PmOk n o pm) (ho : ∀ p, p < n → o' p = o p) : PmOk n o' pm := by
  intro j hj i hi
  rw [h j hj i hi, ho j hj]
  exact (gpP_congr (fun p hp => ho p (by omega)) (fun _ _ => rfl)).symm
theorem FtOk_congr {n : Nat} {o o' : Nat → mO} {ft : Nat → Prop} (h : FtOk n o ft) (ho : ∀ p, p < n → o' p = o p) : FtOk n o' ft := by
  intro j hj
  rw [h j hj, ho j hj]
  exact (fitP_congr (fun p hp => ho p (by omega)) (fun _ _ => Iff.rfl)).symm
theorem SgOk_congr {n : Nat} {o o' : Nat → mO} {sg : Nat → Nat} (h : SgOk n o sg) (ho : ∀ p, p < n → o' p = o p) : SgOk n o' sg := by
  refine ⟨h.1, fun i j hij hj => ?_⟩
  rw [ho _ (h.1 i (by omega)), ho _ (h.1 j hj)]
  exact h.2 i j hij hj
def kpO (o : Nat → mO) (h : Nat) (c : mO) (i : Nat) : mO := if i = h then c else o i
theorem kpO_lt {o : Nat → mO} {h i : Nat} {c : mO} (hi : i < h) : kpO o h c i = o i := by unfold kpO; rw [if_neg (by omega)]
theorem kpO_h {o : Nat → mO} {h : Nat} {c : mO} : kpO o h c h = c := by unfold kpO; rw [if_pos rfl]
theorem unq_kp {o : Nat → mO} {h : Nat} {c : mO} (hu : unq h o) (hn : ∀ i, i < h → ob (o i) 0 ≠ ob c 0) : unq (h + 1) (kpO o h c) := by
  intro p p' h1 h2 e
  by_cases e1 : p = h
  · by_cases e2 : p' = h
    · omega
    · rw [e1, kpO_h, kpO_lt (by omega)] at e
      exact absurd e.symm (hn p' (by omega))
  · by_cases e2 : p' = h
    · rw [e2, kpO_h, kpO_lt (by omega)] at e
      exact absurd e (hn p (by omega))
    · rw [kpO_lt (by omega), kpO_lt (by omega)] at e
      exact hu p p' (by omega) (by omega) e
/-- the greatest COUNT among the applied, 0 without any -/
def gct (n : Nat) (o : Nat → mO) (sg : Nat → Nat) : Int32 := if n = 0 then 0 else ob (o (sg (n - 1))) 0 >>> ((2 : Int32) &&& 31)
section STK
variable {d : Nat} {w : mW} {Q : Int32 → mW → Prop} {A q : Nat} {num : Int32} {n h : Nat} {o : Nat → mO} {pm : Nat → Int32} {ft : Nat → Prop} {sg : Nat → Nat} {x i k t s v : Int32}
theorem t_Re_greatestCount (hR : CRep w A num n h o pm ft sg) (hQ : Q (gct n o sg) w) : mC d m_Re_greatestCount [.ref A] w Q := by
  refine s_Re_greatestCount hR (fun h0 => ?_) (fun h0 => ?_)
  · unfold gct at hQ; rw [if_pos h0] at hQ; exact hQ
  · unfold gct at hQ; rw [if_neg (by omega)] at hQ; exact hQ
theorem OpAt_id {bs : List Int32} (hO : OpAt w q (mkO i k t s v bs)) : OpAt (wrI w q 2 x) q (mkO x k t s v bs) := by
  obtain ⟨h1, h2, ⟨h3, h4, h5, h6, h7⟩, h8⟩ := hO
  rw [mkO_len] at h1 h2 h8
  refine ⟨by rw [mkO_len]; exact h1, by rw [mkO_len, mI_wrI, if_neg (by omega)]; exact h2, ⟨?_, ?_, ?_, ?_, ?_⟩, fun j hj => ?_⟩
  · rw [mI_wrI, if_pos ⟨rfl, rfl⟩]; rfl
  · rw [mI_wrI, if_neg (by omega)]; exact h4
  · rw [mI_wrI, if_neg (by omega)]; exact h5
  · rw [mI_wrI, if_neg (by omega)]; exact h6
  · rw [mI_wrI, if_neg (by omega)]; exact h7
  · rw [mkO_len] at hj
    rw [mI_wrI, if_neg (by omega), h8 j hj, ob_mk6, ob_mk6]
theorem t_Re_keep {c : mO} (hC : CSt w A num n h o pm ft sg) (hh : h < 16) (hS : OSh w q) (hO : OpAt w q c) (hq : q + 1 < A ∨ A + 37 ≤ q) (hn : ∀ i, i < h → ob (o i) 0 ≠ ob c 0)
    (hQ : ∀ w', mFr (fun z => A ≤ z ∧ z < A + 37) w w' → CSt w' A num n (h + 1) (kpO o h c) pm ft sg → Q 0 w') : mC (d + 2) m_Re_keep [.ref A, .ref q] w Q := by
  obtain ⟨hR, h1, h2, h3, hu⟩ := hC
  have hnh := hR.2.2.1
  refine s_Re_keep hR hh hS hO (by omega) (by omega) (fun w' hf hR' => hQ w' hf ⟨hR', PmOk_congr h1 (fun p hp => kpO_lt (by omega)), FtOk_congr h2 (fun p hp => kpO_lt (by omega)), SgOk_congr h3 (fun p hp => kpO_lt (by omega)), unq_kp hu hn⟩)
theorem s_Re_issue (hC : CSt w A num n h o pm ft sg) (hS : OSh w q) (hO : OpAt w q (mkO i k t s v [])) (hq : q + 1 < A ∨ A + 37 ≤ q)
    (hn : ∀ i, i < h → ob (o i) 0 ≠ 4 * (gct n o sg + 1) + num)
    (hF : ∀ w', mFr (fun z => z = q ∨ z = q + 1) w w' → (16 ≤ h ∨ 40 < gct n o sg + 1 ∨ 6 < cntP n (slP n o k t s)) → Q (-7) w')
    (hQ : ∀ bs kk o' pm' ft' sg' w', h < 16 → ¬ 40 < gct n o sg + 1 → bfP n o k t s bs → Chn kk (n + 1) (h + 1) (swp (kpO o h (mkO (4 * (gct n o sg + 1) + num) k t s v bs)) n h) o' → mFx (fun z => (A ≤ z ∧ z < A + 37) ∨ z = q ∨ z = q + 1) w w' → mP w' q = mP w q → mP w' (q + 1) = mP w (q + 1) → CSt w' A num (n + 1 + kk) (h + 1) o' pm' ft' sg' → Q (4 * (gct n o sg + 1) + num) w') : mC (d + 5) m_Re_issue [.ref A, .ref q] w Q := by
  have hC0 := hC
  obtain ⟨hR, h1, h2, h3, hu⟩ := hC
  have hnh := hR.2.2.1
  have i6 := hR.2.2.2.1.2.2
  have hun : unq n o := unq_sub hu hnh.1
  refine e_Re_issue ⟨hR.1.2.1, t_Re_greatestCount hR ⟨hR.1.2.1, ?_⟩⟩
  rw [i6]
  refine by_if (fun e => hF w (mFr.rf _ w) (Or.inl ?_)) (fun e => by_if (fun e2 => hF w (mFr.rf _ w) (Or.inr (Or.inl e2))) (fun e2 => ?_))
  · have e' : nI 16 ≤ nI h := e
    rw [nI_leI (by omega) (by omega)] at e'
    exact e'
  have hh : h < 16 := by
    have e' : ¬ nI 16 ≤ nI h := e
    rw [nI_leI (by omega) (by omega)] at e'
    omega
  refine s_Re_gatherBefore hR hun hS hO hq (fun r w2 hf2 hr => ?_)
  rcases hr with ⟨rfl, hr⟩ | ⟨rfl, bs, hbs, hO2⟩
  · rw [if_pos rfl]
    exact hF w2 hf2 (Or.inr (Or.inr hr))
  rw [if_neg (by decide)]
  have hC2 : CSt w2 A num n h o pm ft sg := hC0.ofX hf2.x (fun z h1 h2 => by omega)
  have hS2 := hS.of hf2.1
  refine ⟨hC2.1.1.2.1, hS2.2.1, ?_⟩
  rw [hC2.1.2.2.2.1.1]
  rintro w3 hw3
  have hf3 : mFr (fun z => z = q ∨ z = q + 1) w w3 := by rw [hw3]; exact hf2.wrI _ _ (Or.inl rfl)
  have hC3 : CSt w3 A num n h o pm ft sg := hC0.ofX hf3.x (fun z h1 h2 => by omega)
  have hS3 := hS.of hf3.1
  have hO3 : OpAt w3 q (mkO (4 * (gct n o sg + 1) + num) k t s v bs) := by rw [hw3]; exact OpAt_id hO2
  refine ⟨hC3.1.1.2.1, t_Re_keep hC3 hh hS3 hO3 hq hn (fun w4 hf4 hC4 => ?_)⟩
  refine ⟨hC4.1.1.2.1, ?_⟩
  rw [hC4.1.2.2.2.1.2.2, nI_pred]
  refine t_Re_applyWaiting hC4 hnh.1 (by omega) (fun pm5 ft5 sg5 w5 hf5 hC5 => ⟨hC5.1.1.2.1, ?_⟩)
  refine s_Re_settle hC5 (fun kk o' pm' ft' sg' w6 hch hf6 hC6 => ?_)
  have hq6 : mI w6 q = mI w3 q := by
    have a1 := (hf4.x.2 q (by omega)).1
    have a2 := (hf5.2 q (by omega)).1
    have a3 := (hf6.2 q (by omega)).1
    rw [a3, a2, a1]
  have t6 : mT w6 q = 2 := by
    rw [hf6.T, hf5.T, hf4.1.T]
    exact hS3.2.1
  refine ⟨t6, ?_⟩
  rw [hq6, hO3.2.2.1.1]
  have hfx : mFx (fun z => (A ≤ z ∧ z < A + 37) ∨ z = q ∨ z = q + 1) w w6 := (hf3.x.to (fun z hz => Or.inr hz)).tr (((hf4.x.tr hf5).tr hf6).to (fun z hz => Or.inl hz))
  have hpp : ∀ z, (z = q ∨ z = q + 1) → mP w6 z = mP w z := by
    intro z hz
    have a1 := (hf4.x.2 z (by omega)).2
    have a2 := (hf5.2 z (by omega)).2
    have a3 := (hf6.2 z (by omega)).2
    rw [a3, a2, a1]
    funext j
    exact hf3.1.P z j
  exact hQ bs kk o' pm' ft' sg' w6 hh e2 hbs hch hfx (hpp q (Or.inl rfl)) (hpp (q + 1) (Or.inr rfl)) hC6
theorem s_Re_take {c : mO} (hC : CSt w A num n h o pm ft sg) (hS : OSh w q) (hO : OpAt w q c) (hq : q + 1 < A ∨ A + 37 ≤ q) (h5 : ob c 5 = nI (c.length - 6)) (h5o : ∀ p, p < h → ob (o p) 5 = nI ((o p).length - 6))
    (hQ1 : ∀ p, p < h → ob (o p) 0 = ob c 0 → Q (if bI (o p = c) = 0 then -3 else -8) w)
    (hQ2 : (∀ p, p < h → ob (o p) 0 ≠ ob c 0) → ob c 0 &&& 3 = num → Q (-4) w)
    (hQ3 : (∀ p, p < h → ob (o p) 0 ≠ ob c 0) → ¬ ob c 0 &&& 3 = num → ¬ gapP c → Q (-5) w)
    (hQ4 : (∀ p, p < h → ob (o p) 0 ≠ ob c 0) → ¬ ob c 0 &&& 3 = num → gapP c → ¬ behP c (ob c 0) → Q (-6) w)
    (hQ5 : (∀ p, p < h → ob (o p) 0 ≠ ob c 0) → ¬ ob c 0 &&& 3 = num → gapP c → behP c (ob c 0) → 16 ≤ h → Q (-7) w)
    (hQ6 : (∀ p, p < h → ob (o p) 0 ≠ ob c 0) → ¬ ob c 0 &&& 3 = num → gapP c → behP c (ob c 0) → h < 16 → ∀ kk o' pm' ft' sg' w', Chn kk n (h + 1) (kpO o h c) o' → mFx (fun z => A ≤ z ∧ z < A + 37) w w' → CSt w' A num (n + kk) (h + 1) o' pm' ft' sg' → Q (nI kk) w') : mC (d + 5) m_Re_take [.ref A, .ref q] w Q := by
  have hC0 := hC
  obtain ⟨hR, h1, h2, h3, hu⟩ := hC
  have hR0 := hR
  obtain ⟨⟨a0, tA, ⟨p1, -, -, -⟩, ⟨t1, l1⟩, -⟩, -, hnh, ⟨i0, i5, i6⟩, hop, -⟩ := hR
  have tq := hS.2.1
  have k2 := hO.2.2.1.1
  refine e_Re_take ⟨tq, tA, ?_⟩
  rw [k2, i6]
  refine s_Re_find hR0 (Nat.le_refl _) (fun r hr => ?_)
  rcases hr with ⟨rfl, hr⟩ | ⟨p, hp, rfl, hr⟩
  · rw [if_pos rfl, k2, i0]
    refine ⟨tq, tA, by_if (fun e => hQ2 hr e) (fun e => s_Op_namesOnlyBefore hS hO (bI_ite (fun e2 => hQ3 hr e e2) (fun e2 => ⟨tq, s_Op_isBehindBefore hS hO (bI_ite (fun e3 => hQ4 hr e e2 e3) (fun e3 => ⟨tA, ?_⟩))⟩)))⟩
    rw [i6]
    refine by_if (fun e4 => ?_) (fun e4 => hQ5 hr e e2 e3 ?_)
    · have hh : h < 16 := by
        have e' : nI h < nI 16 := e4
        rw [nI_ltI (by omega) (by omega)] at e'
        exact e'
      refine t_Re_keep hC0 hh hS hO hq hr (fun w4 hf4 hC4 => ⟨hC4.1.1.2.1, s_Re_settle hC4 (fun kk o' pm' ft' sg' w5 hch hf5 hC5 => ?_)⟩)
      exact hQ6 hr e e2 e3 hh kk o' pm' ft' sg' w5 hch (hf4.x.tr hf5) hC5
    · have e' : ¬ nI h < nI 16 := e4
      rw [nI_ltI (by omega) (by omega)] at e'
      omega
  · have hrow := hR0.row (i := p) (by omega)
    rw [if_neg (nI_m1 (by omega)), p1, nI_clamp (by omega)]
    refine ⟨tA, by omega, t1, by rw [l1]; exact vp_in_nI (by omega) (by omega), hrow.1, hrow.2.1, ?_⟩
    refine s_Op_hasSameBytesAs hrow hS (hop p hp) hO (h5o p hp) h5 ?_
    have := hQ1 p hp hr
    by_cases e : bI (o p = c) = 0
    · rw [if_pos e] at this ⊢; exact this
    · rw [if_neg e] at this ⊢; exact this
theorem s_Re_hasAppliedSameAs {B : Nat} {num' : Int32} {n' h' : Nat} {o' : Nat → mO} {pm' : Nat → Int32} {ft' : Nat → Prop} {sg' : Nat → Nat} (hR : CRep w A num n h o pm ft sg) (hR' : CRep w B num' n' h' o' pm' ft' sg') (hu : unq n' o') (h5o : ∀ p, p < n → ob (o p) 5 = nI ((o p).length - 6)) (h5o' : ∀ p, p < n' → ob (o' p) 5 = nI ((o' p).length - 6))
    (hQ : Q (bI (n = n' ∧ ∀ p, p < n → ∃ p', p' < n' ∧ o' p' = o p)) w) : mC (d + 1) m_Re_hasAppliedSameAs [.ref A, .ref B] w Q := by
  have hR0 := hR
  have hR0' := hR'
  obtain ⟨⟨a0, tA, ⟨p1, -, -, -⟩, ⟨t1, l1⟩, -⟩, -, hnh, ⟨i0, i5, i6⟩, hop, -⟩ := hR
  obtain ⟨⟨a0', tA', ⟨p1', -, -, -⟩, ⟨t1', l1'⟩, -⟩, -, hnh', ⟨i0', i5', i6'⟩, hop', -⟩ := hR'
  have loop : ∀ j p, n = n' → p + j = n → (∀ i, i < p → ∃ p', p' < n' ∧ o' p' = o i) → mG (d + 1) m_Re_hasAppliedSameAs (0, 0) 15 [vR A, vR B, vI (nI p), vN] [] w Q := by
    intro j
    induction j with
    | zero =>
      intro p hn hp hi
      refine b_Re_hasAppliedSameAs_15 ⟨tA, ?_⟩
      rw [i5, if_pos (nI_le (by omega) (by omega))]
      exact bI_Q1 hQ ⟨hn, fun i hi' => hi i (by omega)⟩
    | succ j ih =>
      intro p hn hp hi
      have hrow := hR0.row (i := p) (by omega)
      refine b_Re_hasAppliedSameAs_15 ⟨tA, ?_⟩
      rw [i5, if_neg (nI_ge (by omega) (by omega)), p1, nI_clamp (by omega), (hop p (by omega)).2.2.1.1, i5', nI_1]
      refine ⟨by omega, t1, by rw [l1]; exact vp_in_nI (by omega) (by omega), hrow.1, hrow.2.1, tA', ?_⟩
      refine s_Re_find hR0' hnh'.1 (fun r hr => ?_)
      rcases hr with ⟨rfl, hr⟩ | ⟨p', hp', rfl, hr⟩
      · rw [if_pos rfl]
        refine bI_Q0 hQ (fun z => ?_)
        obtain ⟨p', g1, g2⟩ := z.2 p (by omega)
        exact hr p' g1 (by rw [g2])
      · have hrow' := hR0'.row (i := p') (by omega)
        rw [if_neg (nI_m1 (by omega)), p1, p1', nI_clamp (by omega)]
        refine ⟨tA, by omega, t1, by rw [l1]; exact vp_in_nI (by omega) (by omega), hrow.1, tA', by omega, t1', by rw [l1']; exact vp_in_nI (by omega) (by omega), hrow'.1, hrow.2.1, ?_⟩
        refine s_Op_hasSameBytesAs hrow hrow' (hop p (by omega)) (hop' p' (by omega)) (h5o p (by omega)) (h5o' p' hp') (bI_ite (fun e => bI_Q0 hQ (fun z => ?_)) (fun e => ih (p + 1) hn (by omega) (fun i hi' => ?_)))
        · obtain ⟨p'', g1, g2⟩ := z.2 p (by omega)
          have := hu p'' p' g1 hp' (by rw [g2, hr])
          rw [this] at g2
          exact e g2.symm
        · by_cases e1 : i = p
          · rw [e1]; exact ⟨p', hp', e.symm⟩
          · exact hi i (by omega)
  refine e_Re_hasAppliedSameAs ⟨tA, tA', ?_⟩
  rw [i5, i5']
  refine by_if (fun e => ?_) (fun e => bI_Q0 hQ (fun z => e (by rw [z.1])))
  have hn : n = n' := (nI_eq (by omega) (by omega)).mp e
  have h0 := loop n 0 hn (by omega) (fun i hi => by omega)
  rw [nI_0] at h0
  exact h0
end STK
