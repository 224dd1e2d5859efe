/-! the document: the calls that write -/
def wiV (l : List Int32) (x : Int32) : Int32 := if x = -1 then nI l.length else wgt l x
section SD2
variable {d : Nat} {w : mW} {Q : Int32 → mW → Prop} {b : Nat} {K : Nat → mS} {l : List Int32} {x y z k m t s v : Int32}
theorem DR.upd {w' : mW} {r : Nat} {S : mS} (hD : DR w b K l) (hr : r < 3) (hf : mFx (fun z => (rp b r ≤ z ∧ z < rp b r + 37) ∨ z = b + 118 ∨ z = b + 119) w w') (hP : mP w' (b + 118) = mP w (b + 118)) (hP' : mP w' (b + 119) = mP w (b + 119)) (hS : CS w' (rp b r) (nI r) S) (hM : MI (nI r) S.1 S.2.1 S.2.2.1) : DR w' b (upP K r S) l := by
  have hrp : ∀ q, rp b q = b + 2 + 37 * q := fun q => rfl
  have hrr := hrp r
  refine ⟨hD.1.ofX hf (fun q hq => ?_), fun q hq => ?_, hD.2.2.of (hf.2 _ (by omega)).1 (hf.2 _ (by omega)).1⟩
  · by_cases e : q = b + 118
    · rw [e]; exact hP
    · by_cases e2 : q = b + 119
      · rw [e2]; exact hP'
      · exact (hf.2 q (by omega)).2
  · by_cases e : q = r
    · subst e
      have : upP K q S q = S := by unfold upP; rw [if_pos rfl]
      rw [this]
      exact ⟨hS, hM⟩
    · have : upP K r S q = K q := by unfold upP; rw [if_neg e]
      rw [this]
      have hqq := hrp q
      exact ⟨CSt.ofX (hD.2.1 q hq).1 hf (fun z h1 h2 => by omega), (hD.2.1 q hq).2⟩
theorem DR.wi {w' : mW} {l' : List Int32} (hD : DR w b K l) (hf : mFr (fun z => z = b + 116 ∨ z = b + 116 + 1) w w') (hW : WiAt w' (b + 116) l') : DR w' b K l' := by
  refine ⟨hD.1.of hf.1, fun q hq => ⟨CSt.ofX (hD.2.1 q hq).1 hf.x (fun z h1 h2 => ?_), (hD.2.1 q hq).2⟩, hW⟩
  have : rp b q = b + 2 + 37 * q := rfl
  omega
theorem s_Do_wire (hD : DR w b K l) (hQ : Q (wiV l x) w) : mC (d + 1) m_Do_wire [.ref b, .int x] w Q := by
  have hW := hD.1.2.2.2.2.2.1
  have pw := hD.1.2.2.1.2.2.1
  have t := hD.1.2.1
  refine e_Do_wire ?_
  unfold wiV at hQ
  rw [pw, hD.2.2.2.1]
  refine by_if (fun e => ⟨t, by omega, hW.2.1, ?_⟩) (fun e => ⟨t, by omega, hW.2.1, s_Wi_byteAt hW hD.2.2 ?_⟩)
  · rw [if_pos e] at hQ; exact hQ
  · rw [if_neg e] at hQ; exact hQ
theorem s_Do_alter (hD : DR w b K l) (hF : ¬ chP l x y → Q 0 w) (hQ : ∀ j w', chP l x y → x = nI j → j ≤ l.length → j < 16 → mFx (inD b) w w' → DR w' b K (chL l j y) → Q 1 w') : mC (d + 2) m_Do_alter [.ref b, .int x, .int y] w Q := by
  have hW := hD.1.2.2.2.2.2.1
  have pw := hD.1.2.2.1.2.2.1
  have t := hD.1.2.1
  refine e_Do_alter ?_
  rw [pw]
  refine ⟨t, by omega, hW.2.1, s_Wi_change hW hD.2.2 (fun e => ⟨by decide, hF e⟩) (fun j w' g1 g2 g3 g4 g5 g6 => ⟨by decide, hQ j w' g1 g2 g3 g4 (g5.x.to (fun z hz => by unfold inD; omega)) (hD.wi g5 g6)⟩)⟩
theorem s_Do_cut (hD : DR w b K l) (hF : ¬ (¬ x < 0 ∧ x ≤ nI l.length) → Q 0 w) (hQ : ∀ j w', x = nI j → j ≤ l.length → mFx (inD b) w w' → DR w' b K (l.take j) → Q 1 w') : mC (d + 1) m_Do_cut [.ref b, .int x] w Q := by
  have hW := hD.1.2.2.2.2.2.1
  have pw := hD.1.2.2.1.2.2.1
  have t := hD.1.2.1
  refine e_Do_cut ?_
  rw [pw]
  refine ⟨t, by omega, hW.2.1, s_Wi_shorten hW hD.2.2 (fun e => ⟨by decide, hF e⟩) (fun j w' g2 g3 g5 g6 => ⟨by decide, hQ j w' g2 g3 (g5.x.to (fun z hz => by unfold inD; omega)) (hD.wi (g5.to (fun z hz => Or.inl hz)) g6)⟩)⟩
theorem s_Do_emit (hD : DR w b K l) (hN : ¬ isR x → Q (-1) w) (hF : ∀ r, r < 3 → x = nI r → (∀ p, p < (K r).2.1 → ob ((K r).2.2.1 p) 0 ≠ y) → Q (-1) w)
    (hQ : ∀ r p w', r < 3 → x = nI r → p < (K r).2.1 → ob ((K r).2.2.1 p) 0 = y → mFx (inD b) w w' → DR w' b K ((K r).2.2.1 p) → Q (nI ((K r).2.2.1 p).length) w') : mC (d + 2) m_Do_emit [.ref b, .int x, .int y] w Q := by
  refine e_Do_emit (s_Do_isReplica (bI_ite hN (fun e => ?_)))
  obtain ⟨r, hr, rfl⟩ := isR_of e
  obtain ⟨t, p0, t1, v1, h1, h2, h3⟩ := hD.sh hr
  have hR := (hD.2.1 r hr).1.1
  have hM := (hD.2.1 r hr).2
  have hR0 := hR
  obtain ⟨⟨a0, tA, ⟨p1, -, -, -⟩, ⟨t11, l11⟩, -⟩, hRP, ⟨hn, hh⟩, ⟨-, i5, i6⟩, hop, -⟩ := hR
  have hW := hD.1.2.2.2.2.2.1
  have pw := hD.1.2.2.1.2.2.1
  have hrr : rp b r = b + 2 + 37 * r := rfl
  rw [p0, nI_clamp (by omega), h1, i6]
  refine ⟨t, by omega, t1, v1, h2, h3, s_Re_find hR0 (Nat.le_refl _) (fun c hc => ?_)⟩
  rcases hc with ⟨rfl, hc⟩ | ⟨p, hp, rfl, hc⟩
  · rw [if_pos rfl]
    exact hF r hr rfl hc
  · have hrow := hR0.row (i := p) (by omega)
    obtain ⟨kp, hkp, ekp⟩ := hRP.1 p (by omega)
    rw [if_neg (nI_m1 (by omega)), pw, p0, h1, p1, nI_clamp (by omega)]
    refine ⟨t, by omega, by omega, t1, v1, h2, h3, by omega, t11, by rw [l11]; exact vp_in_nI (by omega) (by omega), hrow.1, hW.2.1, ?_⟩
    refine s_Wi_write hW hrow (hop p hp) (hM.1 p hp).1.2.2 (by rw [ekp]; omega) (fun w' hf hWi => ?_)
    rw [hf.1.T, hf.1.P, pw, hf.1.T, hWi.2.1]
    exact ⟨t, by omega, hW.2.1, hQ r p w' hr rfl hp hc (hf.x.to (fun z hz => by unfold inD; omega)) (hD.wi hf hWi)⟩
theorem s_Do_edit (hD : DR w b K l) (hN : ¬ isR x → Q (-1) w)
    (hF : ∀ r w', r < 3 → x = nI r → mFx (inD b) w w' → DR w' b K l → ¬ (spP k t s v ∧ fitP (K r).1 (K r).2.2.1 (K r).2.2.2.2.1 k t s) → Q (-1) w')
    (hG : ∀ r w', r < 3 → x = nI r → mFx (inD b) w w' → DR w' b K l → spP k t s v → fitP (K r).1 (K r).2.2.1 (K r).2.2.2.2.1 k t s → (16 ≤ (K r).2.1 ∨ 40 < gct (K r).1 (K r).2.2.1 (K r).2.2.2.2.2 + 1 ∨ 6 < cntP (K r).1 (slP (K r).1 (K r).2.2.1 k t s)) → Q (-7) w')
    (hQ : ∀ r bs kk o' pm' ft' sg' w', r < 3 → x = nI r → spP k t s v → fitP (K r).1 (K r).2.2.1 (K r).2.2.2.2.1 k t s → (K r).2.1 < 16 → ¬ 40 < gct (K r).1 (K r).2.2.1 (K r).2.2.2.2.2 + 1 → bfP (K r).1 (K r).2.2.1 k t s bs → Chn kk ((K r).1 + 1) ((K r).2.1 + 1) (swp (kpO (K r).2.2.1 (K r).2.1 (mkO (4 * (gct (K r).1 (K r).2.2.1 (K r).2.2.2.2.2 + 1) + nI r) k t s v bs)) (K r).1 (K r).2.1) o' → mFx (inD b) w w' → DR w' b (upP K r ((K r).1 + 1 + kk, (K r).2.1 + 1, o', pm', ft', sg')) l → Q (4 * (gct (K r).1 (K r).2.2.1 (K r).2.2.2.2.2 + 1) + nI r) w') : mC (d + 6) m_Do_edit [.ref b, .int x, .int k, .int t, .int s, .int v] w Q := by
  refine e_Do_edit (s_Do_isReplica (bI_ite hN (fun e => ?_)))
  obtain ⟨r, hr, rfl⟩ := isR_of e
  have hS := hD.1.2.2.2.2.2.2
  have pd := hD.1.2.2.1.2.2.2
  have hrr : rp b r = b + 2 + 37 * r := rfl
  obtain ⟨tb, -⟩ := hD.sh hr
  rw [pd]
  refine ⟨tb, by omega, hS.2.1, s_Op_begin hS ?_⟩
  have hf := begW_fr w (b + 118) (-1) k t s v
  have hO := begW_op w (b + 118) (-1) k t s v
  generalize begW w (b + 118) (-1) k t s v = w1 at hf hO
  have hfx : mFx (inD b) w w1 := hf.x.to (fun z hz => by unfold inD; omega)
  have hD1 : DR w1 b K l := hD.ofI hf (fun z hz => by omega)
  have hS1 := hD1.1.2.2.2.2.2.2
  have pd1 := hD1.1.2.2.1.2.2.2
  obtain ⟨tb1, p0, t1, v1, h1, h2, h3⟩ := hD1.sh hr
  have hC := (hD1.2.1 r hr).1
  have hM := (hD1.2.1 r hr).2
  have hR := hC.1
  have hnh := hR.2.2.1
  have hu := unq_sub hC.2.2.2.2 hnh.1
  rw [pd1]
  refine ⟨tb1, by omega, hS1.2.1, s_Op_hasSoundParts hS1 hO (bI_ite (fun e2 => hF r w1 hr rfl hfx hD1 (fun z => e2 z.1)) (fun e2 => ?_))⟩
  rw [p0, nI_clamp (by omega), h1, pd1]
  refine ⟨tb1, by omega, t1, v1, h2, by omega, h3, s_Re_hasPlaceFor hR hu hS1 hO (bI_ite (fun e3 => hF r w1 hr rfl hfx hD1 (fun z => e3 z.2)) (fun e3 => ?_))⟩
  rw [p0, h1, pd1]
  obtain ⟨c, hc1, hc2, hc3, hc4, hc5⟩ := new_apart hr rfl hM hnh.1 hC.2.2.2.1
  refine ⟨tb1, by omega, t1, v1, h2, by omega, h3, s_Re_issue hC hS1 hO (by omega) hc4 (fun w2 hf2 g => hG r w2 hr rfl (hfx.tr (hf2.x.to (fun z hz => by unfold inD; omega))) (hD1.ofI hf2 (fun z hz => by omega)) e2 e3 g) (fun bs kk o' pm' ft' sg' w2 g1 g2 g3 g4 g5 gp1 gp2 g6 => ?_)⟩
  have hfw : mFx (fun z => (rp b r ≤ z ∧ z < rp b r + 37) ∨ z = b + 118 ∨ z = b + 119) w1 w2 := g5
  have hid : isIdP (4 * (gct (K r).1 (K r).2.2.1 (K r).2.2.2.2.2 + 1) + nI r) := by
    rw [hc3]
    refine isIdP_mk _ ?_ (by omega) (by omega)
    have : ¬ nI 40 < nI c + nI 1 := by rw [← hc1]; exact g2
    rw [nI_add, nI_ltI (by omega) (by omega)] at this
    omega
  obtain ⟨ok1, ok2⟩ := ok_new (i := 4 * (gct (K r).1 (K r).2.2.1 (K r).2.2.2.2.2 + 1) + nI r) hM hnh.1 e2 e3 g3 hid hc5
  have hMI := MI_chn (MI_new hM hnh.1 ok1 ok2) g4
  refine hQ r bs kk o' pm' ft' sg' w2 hr rfl e2 e3 g1 g2 g3 g4 (hfx.tr (hfw.to (fun z hz => by unfold inD; omega))) ?_
  exact hD1.upd hr hfw gp1 gp2 g6 hMI
theorem s_Do_receive (hD : DR w b K l) (hN : ¬ isR x → Q (-1) w)
    (hF : ∀ r w', r < 3 → x = nI r → mFx (inD b) w w' → DR w' b K l → ¬ wfP l → Q (-2) w')
    (hQ1 : ∀ r w' p, r < 3 → x = nI r → mFx (inD b) w w' → DR w' b K l → wfP l → p < (K r).2.1 → ob ((K r).2.2.1 p) 0 = ob l 0 → Q (if bI ((K r).2.2.1 p = l) = 0 then -3 else -8) w')
    (hQ2 : ∀ r w', r < 3 → x = nI r → mFx (inD b) w w' → DR w' b K l → wfP l → (∀ p, p < (K r).2.1 → ob ((K r).2.2.1 p) 0 ≠ ob l 0) → ∀ c, (c = -4 ∧ ob l 0 &&& 3 = nI r) ∨ (c = -5 ∧ ¬ ob l 0 &&& 3 = nI r ∧ ¬ gapP l) ∨ (c = -6 ∧ ¬ ob l 0 &&& 3 = nI r ∧ gapP l ∧ ¬ behP l (ob l 0)) ∨ (c = -7 ∧ ¬ ob l 0 &&& 3 = nI r ∧ gapP l ∧ behP l (ob l 0) ∧ 16 ≤ (K r).2.1) → Q c w')
    (hQ3 : ∀ r kk o' pm' ft' sg' w', r < 3 → x = nI r → wfP l → (∀ p, p < (K r).2.1 → ob ((K r).2.2.1 p) 0 ≠ ob l 0) → ¬ ob l 0 &&& 3 = nI r → gapP l → behP l (ob l 0) → (K r).2.1 < 16 → Chn kk (K r).1 ((K r).2.1 + 1) (kpO (K r).2.2.1 (K r).2.1 l) o' → mFx (inD b) w w' → DR w' b (upP K r ((K r).1 + kk, (K r).2.1 + 1, o', pm', ft', sg')) l → Q (nI kk) w') : mC (d + 6) m_Do_receive [.ref b, .int x] w Q := by
  refine e_Do_receive (s_Do_isReplica (bI_ite hN (fun e => ?_)))
  obtain ⟨r, hr, rfl⟩ := isR_of e
  have hS := hD.1.2.2.2.2.2.2
  have pd := hD.1.2.2.1.2.2.2
  have hW := hD.1.2.2.2.2.2.1
  have pw := hD.1.2.2.1.2.2.1
  have hrr : rp b r = b + 2 + 37 * r := rfl
  obtain ⟨tb, -⟩ := hD.sh hr
  rw [pd, pw]
  refine ⟨tb, by omega, by omega, hW.2.1, s_Wi_readInto hW hD.2.2 hS (by omega) (fun c w1 hf hc => ?_)⟩
  have hfx : mFx (inD b) w w1 := hf.x.to (fun z hz => by unfold inD; omega)
  have hD1 : DR w1 b K l := hD.ofI hf (fun z hz => by omega)
  rcases hc with ⟨rfl, hc⟩ | ⟨rfl, hc, hO⟩
  · rw [if_pos rfl]
    exact hF r w1 hr rfl hfx hD1 hc
  rw [if_neg (by decide)]
  have hS1 := hD1.1.2.2.2.2.2.2
  have pd1 := hD1.1.2.2.1.2.2.2
  obtain ⟨tb1, p0, t1, v1, h1, h2, h3⟩ := hD1.sh hr
  have hC := (hD1.2.1 r hr).1
  have hM := (hD1.2.1 r hr).2
  have hnh := hC.1.2.2.1
  have h5 : ob l 5 = nI (l.length - 6) := by
    have e1 : nI l.length = nI 6 + nI (l.length - 6) := by rw [nI_add]; congr 1; have := hc.1.1; omega
    have e2 : nI 6 + nI (l.length - 6) = nI 6 + ob l 5 := e1.symm.trans hc.1.2.2
    exact ((Int32.add_right_inj (nI 6)).mp e2).symm
  rw [p0, nI_clamp (by omega), h1, pd1]
  refine ⟨tb1, by omega, t1, v1, h2, by omega, h3, s_Re_take hC hS1 hO (by omega) h5 (fun p hp => (hM.1 p hp).1.2.2) (fun p hp g => hQ1 r w1 p hr rfl hfx hD1 hc hp g) (fun g g2 => hQ2 r w1 hr rfl hfx hD1 hc g _ (Or.inl ⟨rfl, g2⟩)) (fun g g2 g3 => hQ2 r w1 hr rfl hfx hD1 hc g _ (Or.inr (Or.inl ⟨rfl, g2, g3⟩))) (fun g g2 g3 g4 => hQ2 r w1 hr rfl hfx hD1 hc g _ (Or.inr (Or.inr (Or.inl ⟨rfl, g2, g3, g4⟩)))) (fun g g2 g3 g4 g5 => hQ2 r w1 hr rfl hfx hD1 hc g _ (Or.inr (Or.inr (Or.inr ⟨rfl, g2, g3, g4, g5⟩)))) (fun g g2 g3 g4 g5 kk o' pm' ft' sg' w2 c1 c2 c3 => ?_)⟩
  have hfw : mFx (fun z => (rp b r ≤ z ∧ z < rp b r + 37) ∨ z = b + 118 ∨ z = b + 119) w1 w2 := c2.to (fun z hz => Or.inl hz)
  have ok1 := ok_wire hD.2.2.1 hc g3 g4
  have hMI := MI_chn (MI_kp hM hnh.1 ok1 g2) c1
  exact hQ3 r kk o' pm' ft' sg' w2 hr rfl hc g g2 g3 g4 g5 c1 (hfx.tr (hfw.to (fun z hz => by unfold inD; omega))) (hD1.upd hr hfw (c2.2 _ (by omega)).2 (c2.2 _ (by omega)).2 c3 hMI)
end SD2
