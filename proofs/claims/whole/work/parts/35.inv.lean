/-! ids as numbers; the invariants kept -/
/-- an injective map of the first n into themselves is onto -/
theorem pg_onto : ∀ (n : Nat) (f : Nat → Nat), (∀ i, i < n → f i < n) → (∀ i j, i < n → j < n → f i = f j → i = j) → ∀ p, p < n → ∃ j, j < n ∧ f j = p := by
  intro n
  induction n with
  | zero => intro f h1 h2 p hp; omega
  | succ n ih =>
    intro f h1 h2 p hp
    -- g: as f, but what goes to n goes where n goes
    have hg : ∀ q, q < n → ∃ j, j < n ∧ (if f j = n then f n else f j) = q := by
      refine ih (fun j => if f j = n then f n else f j) (fun i hi => ?_) (fun i j hi hj e => ?_)
      · show (if f i = n then f n else f i) < n
        have a1 := h1 i (by omega)
        have a2 := h1 n (by omega)
        by_cases e : f i = n
        · rw [if_pos e]
          have : f n ≠ n := fun z => by have := h2 i n (by omega) (by omega) (e.trans z.symm); omega
          omega
        · rw [if_neg e]; omega
      · have e : (if f i = n then f n else f i) = (if f j = n then f n else f j) := e
        by_cases ei : f i = n
        · rw [if_pos ei] at e
          by_cases ej : f j = n
          · exact h2 i j (by omega) (by omega) (ei.trans ej.symm)
          · rw [if_neg ej] at e
            have := h2 n j (by omega) (by omega) e
            omega
        · rw [if_neg ei] at e
          by_cases ej : f j = n
          · rw [if_pos ej] at e
            have := h2 i n (by omega) (by omega) e
            omega
          · rw [if_neg ej] at e
            exact h2 i j (by omega) (by omega) e
    by_cases hp2 : p = n
    · -- n is reached
      by_cases hfn : f n = n
      · exact ⟨n, by omega, hfn.trans hp2.symm⟩
      · have a2 := h1 n (by omega)
        obtain ⟨j, hj, e⟩ := hg (f n) (by omega)
        by_cases ej : f j = n
        · exact ⟨j, by omega, ej.trans hp2.symm⟩
        · rw [if_neg ej] at e
          have := h2 j n (by omega) (by omega) e
          omega
    · obtain ⟨j, hj, e⟩ := hg p (by omega)
      by_cases ej : f j = n
      · rw [if_pos ej] at e
        exact ⟨n, by omega, e⟩
      · rw [if_neg ej] at e
        exact ⟨j, by omega, e⟩
theorem isIdP_mk : ∀ m, m < 163 → 4 ≤ m → m % 4 ≠ 3 → isIdP (nI m) := by
  unfold isIdP isR
  decide +kernel
theorem isIdP_of {x : Int32} (h : isIdP x) : ∃ m, x = nI m ∧ 4 ≤ m ∧ m < 163 ∧ m % 4 ≠ 3 := by
  obtain ⟨h1, h2, h3⟩ := h
  have e : (x >>> ((2 : Int32) &&& 31)).toInt = x.toInt >>> 2 := pk_shr x _ 2 (by decide)
  rw [Int32.lt_iff_toInt_lt, e] at h1 h2
  have c1 : (1 : Int32).toInt = 1 := by decide
  have c40 : (40 : Int32).toInt = 40 := by decide
  rw [c1] at h1
  rw [c40] at h2
  have e2 : x.toInt >>> 2 = x.toInt / 4 := by rw [Int.shiftRight_eq_div_pow]; rfl
  rw [e2] at h1 h2
  have hx0 : 4 ≤ x.toInt := by omega
  have hx1 : x.toInt < 164 := by omega
  have hneg : ¬ x < 0 := by rw [Int32.lt_iff_toInt_lt, Int32.toInt_zero]; omega
  obtain ⟨m, hm, rfl⟩ := nI_of hneg
  rw [nI_toInt hm] at hx0 hx1
  have e3 : nI m &&& 3 = nI (m % 2 ^ 2) := pk_andN (by omega) 2 (by decide)
  rw [e3] at h3
  have h4 : ¬ nI 3 ≤ nI (m % 2 ^ 2) := h3.2
  rw [nI_leI (by omega) (by omega)] at h4
  exact ⟨m, rfl, by omega, by omega, by omega⟩
theorem id_shr {m : Nat} (h : m < 2 ^ 31) : nI m >>> ((2 : Int32) &&& 31) = nI (m / 4) := by
  have := pk_shrN h ((2 : Int32) &&& 31) 2 (by decide)
  rw [this]
theorem id_and {m : Nat} (h : m < 2 ^ 31) : nI m &&& 3 = nI (m % 4) := pk_andN (by omega) 2 (by decide)
theorem new_id {c r : Nat} (hc : c ≤ 1000) (hr : r < 3) : 4 * (nI c + 1) + nI r = nI (4 * (c + 1) + r) := by
  show nI 4 * (nI c + nI 1) + nI r = _
  rw [nI_add, pk_mul, nI_add]
/-- the greatest count, as a number -/
theorem gct_nat {num : Int32} {n h : Nat} {o : Nat → mO} {sg : Nat → Nat} (hM : MI num n h o) (hnh : n ≤ h) (hs : SgOk n o sg) : ∃ c, gct n o sg = nI c ∧ c ≤ 40 ∧ ∀ p, p < n → ∃ m, ob (o p) 0 = nI m ∧ 4 ≤ m ∧ m < 163 ∧ m % 4 ≠ 3 ∧ m / 4 ≤ c := by
  unfold gct
  by_cases h0 : n = 0
  · rw [if_pos h0]
    exact ⟨0, nI_0.symm, by omega, fun p hp => by omega⟩
  · rw [if_neg h0]
    obtain ⟨mg, eg, g1, g2, g3⟩ := isIdP_of (hM.1 (sg (n - 1)) (by have := hs.1 (n - 1) (by omega); omega)).2.1
    rw [eg, id_shr (by omega)]
    refine ⟨mg / 4, rfl, by omega, fun p hp => ?_⟩
    obtain ⟨m, e, m1, m2, m3⟩ := isIdP_of (hM.1 p (by omega)).2.1
    refine ⟨m, e, m1, m2, m3, ?_⟩
    -- p is sg j for some j: by counting
    have surj : ∃ j, j < n ∧ sg j = p := by
      -- an injective map of the first n into themselves is onto
      have inj : ∀ i j, i < n → j < n → sg i = sg j → i = j := by
        intro i j hi hj e
        by_cases hij : i = j
        · exact hij
        · exfalso
          rcases Nat.lt_or_gt_of_ne hij with z | z
          · have := hs.2 i j z hj; rw [e] at this; exact Int32.lt_irrefl this
          · have := hs.2 j i z hi; rw [e] at this; exact Int32.lt_irrefl this
      exact pg_onto n sg hs.1 inj p hp
    obtain ⟨j, hj, rfl⟩ := surj
    by_cases ej : j = n - 1
    · rw [ej, eg] at e
      have := (nI_eq (by omega) (by omega)).mp e
      omega
    · have := hs.2 j (n - 1) (by omega) (by omega)
      rw [e, eg, nI_ltI (by omega) (by omega)] at this
      omega
theorem new_apart {num : Int32} {r n h : Nat} {o : Nat → mO} {sg : Nat → Nat} (hr : r < 3) (hnum : num = nI r) (hM : MI num n h o) (hnh : n ≤ h) (hs : SgOk n o sg) : ∃ c, gct n o sg = nI c ∧ c ≤ 40 ∧ 4 * (gct n o sg + 1) + num = nI (4 * (c + 1) + r) ∧ (∀ i, i < h → ob (o i) 0 ≠ 4 * (gct n o sg + 1) + num) ∧ ∀ i, i < n → ob (o i) 0 < 4 * (gct n o sg + 1) + num := by
  obtain ⟨c, hc, hc2, hall⟩ := gct_nat hM hnh hs
  have e : 4 * (gct n o sg + 1) + num = nI (4 * (c + 1) + r) := by rw [hc, hnum, new_id (by omega) hr]
  refine ⟨c, hc, hc2, e, fun i hi => ?_, fun i hi => ?_⟩
  · rw [e]
    by_cases hin : i < n
    · obtain ⟨m, em, m1, m2, m3, m4⟩ := hall i hin
      rw [em]
      intro z
      have := (nI_eq (by omega) (by omega)).mp z
      omega
    · intro z
      have h1 := hM.2.2 i (by omega) hi
      rw [z, id_and (by omega), hnum] at h1
      apply h1
      congr 1
      omega
  · obtain ⟨m, em, m1, m2, m3, m4⟩ := hall i hi
    rw [e, em, nI_ltI (by omega) (by omega)]
    omega
theorem hb_swp {o : Nat → mO} {n p j : Nat} {x : Int32} : hb (swp o n p j) x ↔ hb (o (swi n p j)) x := by rw [swp_eq]
/-- a step of settling keeps the invariants -/
theorem MI_step {num : Int32} {n h p : Nat} {o : Nat → mO} (hM : MI num n h o) (hp : n ≤ p) (hph : p < h) (hr : rdP n o (o p)) : MI num (n + 1) h (swp o n p) := by
  obtain ⟨h1, h2, h3⟩ := hM
  refine ⟨fun q hq => ?_, fun j hj x hx => ?_, fun q hq1 hq2 => ?_⟩
  · rw [swp_eq]; exact h1 _ (swi_lt (by omega) hph hq)
  · by_cases e : j = n
    · subst e
      rw [swp_n] at hx
      obtain ⟨q, hq, e⟩ := hr x hx
      exact ⟨q, hq, by rw [swp_lt hq hp]; exact e⟩
    · rw [swp_lt (by omega) hp] at hx
      obtain ⟨q, hq, e⟩ := h2 j (by omega) x hx
      exact ⟨q, hq, by rw [swp_lt (by omega) hp]; exact e⟩
  · rw [swp_eq]
    unfold swi
    by_cases e : q = p
    · rw [if_pos e]; exact h3 n (Nat.le_refl _) (by omega)
    · rw [if_neg e, if_neg (by omega)]; exact h3 q (by omega) hq2
theorem MI_chn {num : Int32} {k n h : Nat} {o o' : Nat → mO} (hM : MI num n h o) (hc : Chn k n h o o') : MI num (n + k) h o' := by
  induction k generalizing n o with
  | zero => rw [show o' = o from hc.1]; exact hM
  | succ k ih =>
    obtain ⟨p, g1, g2, g3, -, g5⟩ := hc
    have := ih (MI_step hM g1 g2 g3) g5
    rw [show n + (k + 1) = n + 1 + k by omega]
    exact this
/-- a new one is applied at once -/
theorem MI_new {num : Int32} {n h : Nat} {o : Nat → mO} {c : mO} (hM : MI num n h o) (hnh : n ≤ h) (hc : okO c) (hr : rdP n o c) : MI num (n + 1) (h + 1) (swp (kpO o h c) n h) := by
  obtain ⟨h1, h2, h3⟩ := hM
  refine ⟨fun q hq => ?_, fun j hj x hx => ?_, fun q hq1 hq2 => ?_⟩
  · rw [swp_eq]
    have := swi_lt (n := n) (p := h) (i := q) (m := h + 1) (by omega) (by omega) hq
    by_cases e : swi n h q = h
    · rw [e, kpO_h]; exact hc
    · rw [kpO_lt (by omega)]; exact h1 _ (by omega)
  · by_cases e : j = n
    · subst e
      rw [swp_n, kpO_h] at hx
      obtain ⟨q, hq, e⟩ := hr x hx
      exact ⟨q, hq, by rw [swp_lt hq hnh, kpO_lt (by omega)]; exact e⟩
    · rw [swp_lt (by omega) hnh, kpO_lt (by omega)] at hx
      obtain ⟨q, hq, e⟩ := h2 j (by omega) x hx
      exact ⟨q, hq, by rw [swp_lt (by omega) hnh, kpO_lt (by omega)]; exact e⟩
  · rw [swp_eq]
    unfold swi
    by_cases e : q = h
    · rw [if_pos e, kpO_lt (by omega)]; exact h3 n (Nat.le_refl _) (by omega)
    · rw [if_neg e, if_neg (by omega), kpO_lt (by omega)]; exact h3 q (by omega) (by omega)
theorem MI_kp {num : Int32} {n h : Nat} {o : Nat → mO} {c : mO} (hM : MI num n h o) (hnh : n ≤ h) (hc : okO c) (hr : ob c 0 &&& 3 ≠ num) : MI num n (h + 1) (kpO o h c) := by
  obtain ⟨h1, h2, h3⟩ := hM
  refine ⟨fun q hq => ?_, fun j hj x hx => ?_, fun q hq1 hq2 => ?_⟩
  · by_cases e : q = h
    · rw [e, kpO_h]; exact hc
    · rw [kpO_lt (by omega)]; exact h1 _ (by omega)
  · rw [kpO_lt (by omega)] at hx
    obtain ⟨q, hq, e⟩ := h2 j hj x hx
    exact ⟨q, hq, by rw [kpO_lt (by omega)]; exact e⟩
  · by_cases e : q = h
    · rw [e, kpO_h]; exact hr
    · rw [kpO_lt (by omega)]; exact h3 q hq1 (by omega)
theorem hb_mk {i k t s v x : Int32} {bs : List Int32} : hb (mkO i k t s v bs) x ↔ inL bs x := by
  unfold hb inL
  constructor
  · rintro ⟨j, h1, h2⟩
    rw [mkO_len] at h1
    rw [ob_mk6] at h2
    exact ⟨j, by omega, h2⟩
  · rintro ⟨j, h1, h2⟩
    exact ⟨j, by rw [mkO_len]; omega, by rw [ob_mk6]; exact h2⟩
/-- what a call of edit makes is as it should be -/
theorem ok_new {num i k t s v : Int32} {n h : Nat} {o : Nat → mO} {ft : Nat → Prop} {bs : List Int32} (hM : MI num n h o) (hnh : n ≤ h) (hsp : spP k t s v) (hfit : fitP n o ft k t s) (hbs : bfP n o k t s bs) (hid : isIdP i) (hlt : ∀ p, p < n → ob (o p) 0 < i) : okO (mkO i k t s v bs) ∧ rdP n o (mkO i k t s v bs) := by
  obtain ⟨b1, b2, b3, b4⟩ := hbs
  have named : ∀ x p, p < n → ob (o p) 0 = x → nmP (mkO 0 k t s 0 []) x → inL bs x := fun x p h1 h2 h3 => (b4 x).mpr ⟨p, h1, Or.inr (by rw [h2]; exact h3), h2⟩
  have idne : ∀ p, p < n → ob (o p) 0 ≠ 0 := fun p hp => isIdP_ne0 (hM.1 p (by omega)).2.1
  have nb : ∀ j, j < bs.length → ∃ p, p < n ∧ ob (o p) 0 = bs.getD j 0 := fun j hj => by
    obtain ⟨p, h1, -, h3⟩ := (b4 _).mp ⟨j, hj, rfl⟩
    exact ⟨p, h1, h3⟩
  refine ⟨⟨⟨by rw [mkO_len]; omega, by rw [mkO_len]; omega, by rw [ob_mk5, mkO_len, Nat.add_sub_cancel]⟩, hid, fun j hj => ?_, fun a c hac hc => ?_, ⟨?_, fun e => ?_⟩, fun j hj => ?_, hsp⟩, fun x hx => ?_⟩
  · rw [mkO_len] at hj
    rw [ob_mk6]
    obtain ⟨p, h1, h2⟩ := nb j (by omega)
    rw [← h2]
    exact (hM.1 p (by omega)).2.1
  · rw [mkO_len] at hc
    rw [ob_mk6, ob_mk6]
    exact b1 a c hac (by omega)
  · rw [ob_mk2, hb_mk]
    by_cases e0 : t = 0
    · exact Or.inl e0
    · right
      have tp : ∃ p, p < n ∧ ob (o p) 0 = t := by
        rcases hfit with ⟨-, -, p, h1, h2, -⟩ | ⟨-, p, h1, h2, -⟩ | ⟨-, -, z | ⟨p, h1, h2, -⟩⟩
        · exact ⟨p, h1, h2⟩
        · exact ⟨p, h1, h2⟩
        · exact absurd z e0
        · exact ⟨p, h1, h2⟩
      obtain ⟨p, h1, h2⟩ := tp
      exact named t p h1 h2 ⟨e0, Or.inl rfl⟩
  · rw [ob_mk1] at e
    rw [ob_mk3, hb_mk]
    by_cases e0 : s = 0
    · exact Or.inl e0
    · right
      rcases hfit with ⟨-, z | ⟨p, h1, -⟩, -⟩ | ⟨z, -⟩ | ⟨z, -⟩
      · exact absurd z e0
      · exact named s p h1.1 h1.2.1 ⟨e0, Or.inr ⟨e, rfl⟩⟩
      · exact absurd (e.symm.trans z) (by decide)
      · exact absurd e z
  · rw [mkO_len] at hj
    rw [ob_mk6, ob_mk0]
    obtain ⟨p, h1, h2⟩ := nb j (by omega)
    rw [← h2]
    exact hlt p h1
  · rw [hb_mk] at hx
    obtain ⟨p, h1, -, h3⟩ := (b4 x).mp hx
    exact ⟨p, h1, h3⟩
/-- what comes well formed off the wire -/
theorem ok_wire {l : List Int32} (hl : l.length ≤ 16) (hw : wfP l) (hg : gapP l) (hb' : behP l (ob l 0)) : okO l := by
  obtain ⟨⟨w1, w2, w3⟩, w4, w5, w6⟩ := hw
  have h5 : ob l 5 = nI (l.length - 6) := by
    have e1 : nI l.length = nI 6 + nI (l.length - 6) := by rw [nI_add]; congr 1; omega
    have e2 : nI 6 + nI (l.length - 6) = nI 6 + ob l 5 := e1.symm.trans w3
    exact ((Int32.add_right_inj (nI 6)).mp e2).symm
  have h12 : l.length ≤ 12 := by
    have : ¬ nI 6 < ob l 5 := w2
    rw [h5, nI_ltI (by omega) (by omega)] at this
    omega
  exact ⟨⟨w1, h12, h5⟩, w5, fun k hk => (w4 (6 + k) (by omega) (by omega)).1, fun i j hij hj => ascP_lt w4 (6 + i) (6 + j) (by omega) (by omega) (by omega), hg, hb', w6⟩
