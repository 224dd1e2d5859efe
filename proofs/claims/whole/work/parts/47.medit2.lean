/-! the model: editing, the whole call -/
theorem inL_snoc {L : List Int32} {y x : Int32} : inL (L ++ [y]) x ↔ inL L x ∨ x = y := by
  unfold inL
  have hl : (L ++ [y]).length = L.length + 1 := by rw [List.length_append]; rfl
  constructor
  · rintro ⟨i, h1, h2⟩
    have e := ob_app (l := L) (l' := [y]) i
    unfold ob at e
    rw [e] at h2
    by_cases g : i < L.length
    · rw [if_pos g] at h2; exact Or.inl ⟨i, g, h2⟩
    · rw [if_neg g, show i - L.length = 0 by omega] at h2
      exact Or.inr h2.symm
  · rintro (⟨i, h1, h2⟩ | rfl)
    · have e := ob_app (l := L) (l' := [y]) i
      unfold ob at e
      rw [if_pos h1] at e
      exact ⟨i, by omega, e.trans h2⟩
    · have e := ob_app (l := L) (l' := [x]) L.length
      unfold ob at e
      rw [if_neg (by omega), show L.length - L.length = 0 by omega] at e
      exact ⟨L.length, by omega, e⟩
theorem srt_snoc {L : List Int32} {y : Int32} (h : srt L) (hy : ∀ x, inL L x → x < y) : srt (L ++ [y]) := by
  intro i j hij hj
  have hl : (L ++ [y]).length = L.length + 1 := by rw [List.length_append]; rfl
  have ei := ob_app (l := L) (l' := [y]) i
  have ej := ob_app (l := L) (l' := [y]) j
  unfold ob at ei ej
  rw [ei, ej, if_pos (by omega)]
  by_cases g : j < L.length
  · rw [if_pos g]; exact h i j hij g
  · rw [if_neg g, show j - L.length = 0 by omega]
    exact hy _ ⟨i, by omega, rfl⟩
section SME2
variable {d : Nat} {w : mW} {Q : Int32 → mW → Prop} {B r n h : Nat} {o : Nat → mO} {pm : Nat → Int32} {ft : Nat → Prop} {sg : Nat → Nat} {pi ro : Nat → Nat} {k t s v : Int32}
theorem s_Mo_edit (hV : MV w B r n h o pi ro) (hM : MI (nI r) n h o) (hP : PmOk n o pm) (hT : FtOk n o ft) (hS : SgOk n o sg)
    (hF : ∀ w', mSc B w w' → ¬ (spP k t s v ∧ fitP n o ft k t s) → Q (-1) w')
    (hG : ∀ w', mSc B w w' → spP k t s v → fitP n o ft k t s → (16 ≤ h ∨ 40 < gct n o sg + 1 ∨ 6 < cntP n (slP n o k t s)) → Q (-7) w')
    (hQ : spP k t s v → fitP n o ft k t s → h < 16 → ¬ 40 < gct n o sg + 1 → ¬ 6 < cntP n (slP n o k t s) → ∃ bs kk o', bfP n o k t s bs ∧ Chn kk (n + 1) (h + 1) (swp (kpO o h (mkO (4 * (gct n o sg + 1) + nI r) k t s v bs)) n h) o' ∧ ∀ w' pi' ro', mOw B r w w' → MV w' B r (n + 1 + kk) (h + 1) o' pi' ro' → Q (4 * (gct n o sg + 1) + nI r) w') : mC (d + 4) m_Mo_edit [.ref B, .int (nI r), .int k, .int t, .int s, .int v] w Q := by
  have r3 := hV.r3
  have h16 := hV.h16
  have nh := hV.nh
  have hun := unq_sub hV.uq nh
  have hok : ∀ q, q < n → okO (o q) := fun q hq => hV.ok q (by omega)
  have hid : ∀ p, p < n → ∃ m, ob (o p) 0 = nI m ∧ 4 ≤ m ∧ m < 163 := fun p hp => by
    obtain ⟨m, e, m1, m2, -⟩ := isIdP_of (hok p hp).2.1
    exact ⟨m, e, m1, m2⟩
  -- the gathering
  have gather : spP k t s v → fitP n o ft k t s → ∀ e id (w2 : mW) (c : Nat) (L : List Int32), id + e = 163 → mSc B w w2 → mI w2 B 7 = nI r → srt L → (∀ x, inL L x ↔ ∃ p, p < n ∧ slP n o k t s p ∧ ob (o p) 0 = x ∧ x < nI id) → L.length = cntP n (fun p => slP n o k t s p ∧ ob (o p) 0 < nI id) → (∀ i, i < L.length → mI w2 (B + 10) (6 + i) = L.getD i 0) → (∀ p m, p < n → ob (o p) 0 = nI m → m < id → m / 4 ≤ c) → (c = 0 ∨ ∃ p m, p < n ∧ ob (o p) 0 = nI m ∧ m < id ∧ m / 4 = c) → mG (d + 4) m_Mo_edit (0, 0) 125 [vR B, vI (nI r), vI k, vI t, vI s, vI v, vN, vN, vI (nI (c + 1)), vI (nI L.length), vI (nI id), vN] [] w2 Q := by
    intro hsp hfit e
    induction e with
    | zero =>
      intro id w2 c L he hS2 hm2 hL1 hL2 hL3 hL4 hc1 hc2
      have he' : id = 163 := by omega
      subst he'
      have hV2 := hV.of hS2.1
      obtain ⟨b0, t', ⟨p0, p1, -⟩, -, ⟨t1, l1⟩, ⟨t2, l2⟩, -⟩ := hV2.sh
      have hlen : L.length = cntP n (slP n o k t s) := by
        rw [hL3]
        refine cntP_eq (fun p hp => ⟨fun z => z.1, fun z => ⟨z, ?_⟩⟩)
        obtain ⟨m, em, -, m2⟩ := hid p hp
        rw [em]
        exact nI_lt m2 (by omega)
      have hcn := cntP_le n (slP n o k t s)
      obtain ⟨cg, g1, g2, g3, g4⟩ := gct_at hM nh hS
      have hcc : c = cg := by
        have a1 : c ≤ cg := by
          rcases hc2 with z | ⟨p, m, q1, q2, q3, q4⟩
          · omega
          · have := g3 p m q1 q2 q3; omega
        have a2 : cg ≤ c := by
          rcases g4 with z | ⟨p, m, q1, q2, q3, q4⟩
          · omega
          · have := hc1 p m q1 q2 q3; omega
        omega
      subst hcc
      have g1' : gct n o sg + 1 = nI (c + 1) := by rw [g1, nI_1]
      rw [g1'] at hG hQ
      refine b_Mo_edit_125 ?_
      rw [if_pos (show (162 : Int32) < nI 163 by decide), p1, nI_clamp (by omega), hV2.hd, l2]
      refine ⟨t', by omega, t2, vp_in_nI (by omega) (by omega), by_if (fun q => hG w2 hS2 hsp hfit (Or.inl ?_)) (fun q => by_if (fun q2 => hG w2 hS2 hsp hfit (Or.inr (Or.inr ?_))) (fun q2 => by_if (fun q3 => ?_) (fun q3 => hG w2 hS2 hsp hfit (Or.inr (Or.inl (Int32.not_le.mp q3))))))⟩
      · have q' : nI 16 ≤ nI h := q
        rw [nI_leI (by omega) (by omega)] at q'
        exact q'
      · have q' : nI 6 < nI L.length := q2
        rw [nI_ltI (by omega) (by omega)] at q'
        omega
      have q' : ¬ nI 16 ≤ nI h := q
      rw [nI_leI (by omega) (by omega)] at q'
      have q2' : ¬ nI 6 < nI L.length := q2
      rw [nI_ltI (by omega) (by omega)] at q2'
      have q3' : nI (c + 1) ≤ nI 40 := q3
      rw [nI_leI (by omega) (by omega)] at q3'
      obtain ⟨bs, kk, o', d1, d2, d3⟩ := hQ hsp hfit (by omega) (Int32.not_lt.mpr q3) (by omega)
      have hbs : L = bs := srt_ext hL1 d1.1 (fun x => by
        rw [hL2 x, d1.2.2.2 x]
        refine ⟨fun ⟨p, z1, z2, z3, _⟩ => ⟨p, z1, z2, z3⟩, fun ⟨p, z1, z2, z3⟩ => ⟨p, z1, z2, z3, ?_⟩⟩
        obtain ⟨m, em, -, m2⟩ := hid p z1
        rw [← z3, em]
        exact nI_lt m2 (by omega))
      subst hbs
      obtain ⟨cn, n1, n2, n3, n4, n5⟩ := new_apart r3 rfl hM nh hS
      rw [g1'] at n3 n4 n5
      have hcn2 : cn = c := by
        rw [g1, nI_eq (by omega) (by omega)] at n1
        exact n1.symm
      subst hcn2
      obtain ⟨k1, k2⟩ := ok_new hM nh hsp hfit d1 (i := 4 * nI (cn + 1) + nI r) (by rw [n3]; exact isIdP_mk _ (by omega) (by omega) (by omega)) n5
      have es : ∀ f : Nat, nI (12 * (16 * r + h)) + nI f = nI (12 * (16 * r + h) + f) := fun f => nI_add _ f
      have e1 : nI (12 * (16 * r + h)) + (1 : Int32) = nI (12 * (16 * r + h) + 1) := es 1
      have e2 : nI (12 * (16 * r + h)) + (2 : Int32) = nI (12 * (16 * r + h) + 2) := es 2
      have e3 : nI (12 * (16 * r + h)) + (3 : Int32) = nI (12 * (16 * r + h) + 3) := es 3
      have e4 : nI (12 * (16 * r + h)) + (4 : Int32) = nI (12 * (16 * r + h) + 4) := es 4
      have e5 : nI (12 * (16 * r + h)) + (5 : Int32) = nI (12 * (16 * r + h) + 5) := es 5
      have fin := s_Mo_edit_316 (d := d) (Q := Q) hV2 hm2 (by omega) d1.2.2.1 k1 n4 hL4 d2 (fun w' pi' ro' a1 a2 => d3 w' pi' ro' ((hS2.ow r).tr a1) a2) L.length 0
      rw [p0, ixs, e1, e2, e3, e4, e5, nI_clamp (by omega), nI_clamp (by omega), nI_clamp (by omega), nI_clamp (by omega), nI_clamp (by omega), nI_clamp (by omega), l1]
      refine ⟨by omega, t1, vp_in_nI (by omega) (by omega), ?_⟩
      rintro w3 rfl
      rw [mP_wrI, p0, mL_wrI, l1]
      refine ⟨t', by omega, t1, vp_in_nI (by omega) (by omega), ?_⟩
      rintro w3 rfl
      rw [mP_wrI, mP_wrI, p0, mL_wrI, mL_wrI, l1]
      refine ⟨t', by omega, t1, vp_in_nI (by omega) (by omega), ?_⟩
      rintro w3 rfl
      rw [mP_wrI, mP_wrI, mP_wrI, p0, mL_wrI, mL_wrI, mL_wrI, l1]
      refine ⟨t', by omega, t1, vp_in_nI (by omega) (by omega), ?_⟩
      rintro w3 rfl
      rw [mP_wrI, mP_wrI, mP_wrI, mP_wrI, p0, mL_wrI, mL_wrI, mL_wrI, mL_wrI, l1]
      refine ⟨t', by omega, t1, vp_in_nI (by omega) (by omega), ?_⟩
      rintro w3 rfl
      rw [mP_wrI, mP_wrI, mP_wrI, mP_wrI, mP_wrI, p0, mL_wrI, mL_wrI, mL_wrI, mL_wrI, mL_wrI, l1]
      refine ⟨t', by omega, t1, vp_in_nI (by omega) (by omega), ?_⟩
      rintro w3 rfl
      have f0 := fin _ (by omega) (((((((mBw.rf B (12 * (16 * r + h)) w2).wr (4 * nI (cn + 1) + nI r) (k := 12 * (16 * r + h)) (by omega)).wr k (k := 12 * (16 * r + h) + 1) (by omega)).wr t (k := 12 * (16 * r + h) + 2) (by omega)).wr s (k := 12 * (16 * r + h) + 3) (by omega)).wr v (k := 12 * (16 * r + h) + 4) (by omega)).wr (nI L.length) (k := 12 * (16 * r + h) + 5) (by omega)) (fun f hf => by
        rcases (by omega : f = 0 ∨ f = 1 ∨ f = 2 ∨ f = 3 ∨ f = 4 ∨ f = 5) with rfl | rfl | rfl | rfl | rfl | rfl
        · rw [mI_wrI, if_neg (by omega), mI_wrI, if_neg (by omega), mI_wrI, if_neg (by omega), mI_wrI, if_neg (by omega), mI_wrI, if_neg (by omega), mI_wrI, if_pos ⟨rfl, rfl⟩, ob_mk0]
        · rw [mI_wrI, if_neg (by omega), mI_wrI, if_neg (by omega), mI_wrI, if_neg (by omega), mI_wrI, if_neg (by omega), mI_wrI, if_pos ⟨rfl, rfl⟩, ob_mk1]
        · rw [mI_wrI, if_neg (by omega), mI_wrI, if_neg (by omega), mI_wrI, if_neg (by omega), mI_wrI, if_pos ⟨rfl, rfl⟩, ob_mk2]
        · rw [mI_wrI, if_neg (by omega), mI_wrI, if_neg (by omega), mI_wrI, if_pos ⟨rfl, rfl⟩, ob_mk3]
        · rw [mI_wrI, if_neg (by omega), mI_wrI, if_pos ⟨rfl, rfl⟩, ob_mk4]
        · rw [mI_wrI, if_pos ⟨rfl, rfl⟩, ob_mk5])
      rw [nI_0] at f0
      exact f0
    | succ e ih =>
      intro id w2 c L he hS2 hm2 hL1 hL2 hL3 hL4 hc1 hc2
      have hV2 := hV.of hS2.1
      obtain ⟨b0, t', -, ⟨-, -, -, p11⟩, -, -, -, -, -, -, -, -, -, ⟨t10, l10⟩⟩ := hV2.sh
      have hLn : L.length ≤ n := by rw [hL3]; exact cntP_le _ _
      have lts : ∀ p, p < n → (ob (o p) 0 < nI (id + 1) ↔ ob (o p) 0 < nI id ∨ ob (o p) 0 = nI id) := by
        intro p hp
        obtain ⟨m, em, -, m2⟩ := hid p hp
        rw [em, nI_ltI (by omega) (by omega), nI_ltI (by omega) (by omega), nI_eq (by omega) (by omega)]
        omega
      refine b_Mo_edit_125 ?_
      rw [if_neg (show ¬ (162 : Int32) < nI id from nI_nlt (a := 162) (b := id) (by omega) (by omega)), nI_1 id]
      refine ⟨t', s_Mo_find1 hV2 hm2 (fun u hu => ?_)⟩
      rcases hu with ⟨rfl, hu⟩ | ⟨j, j1, j2, rfl, j4⟩
      · rw [if_pos (by decide)]
        refine ih (id + 1) w2 c L (by omega) hS2 hm2 hL1 (fun x => ?_) ?_ hL4 (fun p m q1 q2 q3 => ?_) ?_
        · rw [hL2 x]
          refine ⟨fun ⟨p, z1, z2, z3, z4⟩ => ⟨p, z1, z2, z3, by rw [← z3, lts p z1, z3]; exact Or.inl z4⟩, fun ⟨p, z1, z2, z3, z4⟩ => ⟨p, z1, z2, z3, ?_⟩⟩
          rw [← z3, lts p z1] at z4
          rw [← z3]
          exact z4.elim (fun z => z) (fun z => absurd z (hu p z1))
        · rw [hL3]
          refine cntP_eq (fun p hp => ?_)
          rw [lts p hp]
          exact ⟨fun z => ⟨z.1, Or.inl z.2⟩, fun z => ⟨z.1, z.2.elim (fun z => z) (fun g => absurd g (hu p hp))⟩⟩
        · by_cases em : m = id
          · rw [em] at q2; exact absurd q2 (hu p q1)
          · exact hc1 p m q1 q2 (by omega)
        · exact hc2.imp (fun z => z) (fun ⟨p, m, q1, q2, q3, q4⟩ => ⟨p, m, q1, q2, by omega, q4⟩)
      · rw [if_neg (nI_pos (by omega)), div4 id (by omega), nI_1, nI_1]
        have c1' : ∀ p m, p < n → ob (o p) 0 = nI m → m < id + 1 → m / 4 ≤ id / 4 := fun p m _ _ z => Nat.div_le_div_right (by omega)
        have c2' : id / 4 = 0 ∨ ∃ p m, p < n ∧ ob (o p) 0 = nI m ∧ m < id + 1 ∧ m / 4 = id / 4 := Or.inr ⟨pi j, id, j2, j4, by omega, rfl⟩
        have e6 : (6 : Int32) + nI L.length = nI (6 + L.length) := nI_add 6 _
        have sel : slP n o k t s (pi j) → mT w2 B = 6 ∧ mP w2 B 11 ≠ 0 ∧ mT w2 (mP w2 B 11) = 20 ∧ vp_in ((6 : Int32) + nI L.length) (mL w2 (mP w2 B 11)) ∧ ∀ w9, w9 = wrI w2 (mP w2 B 11) ((6 : Int32) + nI L.length).toNatClampNeg (nI id) → mG (d + 4) m_Mo_edit (0, 0) 125 [vR B, vI (nI r), vI k, vI t, vI s, vI v, vN, vN, vI (nI (id / 4 + 1)), vI (nI (L.length + 1)), vI (nI (id + 1)), vN] [] w9 Q := by
          intro hsl
          rw [p11, e6, nI_clamp (by omega), l10]
          refine ⟨t', by omega, t10, vp_in_nI (by omega) (by omega), ?_⟩
          rintro w9 rfl
          have hl : (L ++ [nI id]).length = L.length + 1 := by rw [List.length_append]; rfl
          have := ih (id + 1) (wrI w2 (B + 10) (6 + L.length) (nI id)) (id / 4) (L ++ [nI id]) (by omega) (hS2.wr _ _ (Or.inr (Or.inr (Or.inr rfl)))) (by rw [mI_wrI, if_neg (by omega)]; exact hm2) (srt_snoc hL1 (fun x hx => by
            obtain ⟨p, -, -, -, z4⟩ := (hL2 x).mp hx
            exact z4)) (fun x => ?_) ?_ (fun i hi => ?_) c1' c2'
          · rw [hl] at this
            exact this
          · rw [inL_snoc, hL2 x]
            constructor
            · rintro (⟨p, z1, z2, z3, z4⟩ | rfl)
              · exact ⟨p, z1, z2, z3, by rw [← z3, lts p z1, z3]; exact Or.inl z4⟩
              · exact ⟨pi j, j2, hsl, j4, nI_lt (by omega) (by omega)⟩
            · rintro ⟨p, z1, z2, z3, z4⟩
              rw [← z3, lts p z1, z3] at z4
              exact z4.imp (fun z => ⟨p, z1, z2, z3, z⟩) (fun z => z)
          · rw [hl, hL3]
            refine (cntP_add1 j2 (fun z => ?_) (fun p hp => ?_)).symm
            · have := z.2
              rw [j4] at this
              exact Int32.lt_irrefl this
            · rw [lts p hp]
              constructor
              · rintro ⟨z1, z2⟩
                rcases z2 with z2 | z2
                · exact Or.inl ⟨z1, z2⟩
                · exact Or.inr (hun p (pi j) hp j2 (z2.trans j4.symm))
              · rintro (⟨z1, z2⟩ | rfl)
                · exact ⟨z1, Or.inl z2⟩
                · exact ⟨hsl, Or.inr j4⟩
          · rw [mI_wrI]
            have ea := ob_app (l := L) (l' := [nI id]) i
            unfold ob at ea
            rw [ea]
            by_cases ei : i < L.length
            · rw [if_neg (by omega), if_pos ei]
              exact hL4 i ei
            · rw [if_pos ⟨rfl, by omega⟩, if_neg ei, show i - L.length = 0 by omega]
              rfl
        have nosel : ¬ slP n o k t s (pi j) → mG (d + 4) m_Mo_edit (0, 0) 125 [vR B, vI (nI r), vI k, vI t, vI s, vI v, vN, vN, vI (nI (id / 4 + 1)), vI (nI L.length), vI (nI (id + 1)), vN] [] w2 Q := by
          intro hsl
          have np : ∀ p, p < n → slP n o k t s p → ob (o p) 0 ≠ nI id := by
            intro p hp z1 z2
            rw [hun p (pi j) hp j2 (z2.trans j4.symm)] at z1
            exact hsl z1
          refine ih (id + 1) w2 (id / 4) L (by omega) hS2 hm2 hL1 (fun x => ?_) ?_ hL4 c1' c2'
          · rw [hL2 x]
            refine ⟨fun ⟨p, z1, z2, z3, z4⟩ => ⟨p, z1, z2, z3, by rw [← z3, lts p z1, z3]; exact Or.inl z4⟩, fun ⟨p, z1, z2, z3, z4⟩ => ⟨p, z1, z2, z3, ?_⟩⟩
            rw [← z3, lts p z1] at z4
            rw [← z3]
            exact z4.elim (fun z => z) (fun z => absurd z (np p z1 z2))
          · rw [hL3]
            refine cntP_eq (fun p hp => ?_)
            rw [lts p hp]
            exact ⟨fun z => ⟨z.1, Or.inl z.2⟩, fun z => ⟨z.1, z.2.elim (fun z => z) (fun g => absurd g (np p hp z.1))⟩⟩
        have hne : ob (o (pi j)) 0 ≠ 0 := isIdP_ne0 (hok _ j2).2.1
        have sl : slP n o k t s (pi j) ↔ hdP n o (ob (o (pi j)) 0) ∨ nI id = t ∨ (k = 3 ∧ nI id = s) := by
          unfold slP nmP
          rw [ob_mk1, ob_mk2, ob_mk3, j4]
          rw [j4] at hne
          refine or_congr_right ⟨fun z => z.2.imp (fun g => g.symm) (fun g => ⟨g.1, g.2.symm⟩), fun z => ⟨hne, z.imp (fun g => g.symm) (fun g => ⟨g.1, g.2.symm⟩)⟩⟩
        refine ⟨by decide, t', s_Mo_isHead hV2 hm2 j1 (bI_ite (fun q => ?_) (fun q => sel (sl.mpr (Or.inl q.2))))⟩
        have q' : ¬ hdP n o (ob (o (pi j)) 0) := fun z => q ⟨j2, z⟩
        exact by_if (fun q2 => sel (sl.mpr (Or.inr (Or.inl q2)))) (fun q2 => by_if (fun q3 => by_if (fun q4 => sel (sl.mpr (Or.inr (Or.inr ⟨q3, q4⟩)))) (fun q4 => nosel (fun z => (sl.mp z).elim q' (fun z => z.elim q2 (fun z => q4 z.2))))) (fun q3 => nosel (fun z => (sl.mp z).elim q' (fun z => z.elim q2 (fun z => q3 z.1)))))
  have t' := hV.sh.2.1
  refine e_Mo_edit (s_Mo_isReplica (bI_ite (fun e => absurd (isR_nI r3) e) (fun e => by_if (fun k0 => hF w (mSc.rf B w) (fun z => (spP_k z.1).1 k0)) (fun k0 => by_if (fun k5 => ⟨t', s_Mo_study hV hM.2.1 hP hT (fun w1 a1 a2 a3 a4 => ?_)⟩) (fun k5 => hF w (mSc.rf B w) (fun z => k5 (spP_k z.1).2.1))))))
  have t1' := a2.sh.2.1
  have bad : ¬ (spP k t s v ∧ fitP n o ft k t s) → Q (-1) w1 := hF w1 a1
  have b100 : ∀ y0, y0 = (if k = 0 ∨ k = 3 then (99 : Int32) else 0) → (k ≠ 3 → k ≠ 4 → isKy s) → (k = 4 → s = 0) → ¬ v < 0 → mG (d + 4) m_Mo_edit (0, 0) 100 [vR B, vI (nI r), vI k, vI t, vI s, vI v, vN, vN, vN, vN, vN, vN] [.int y0, .int v] w1 Q := by
    intro y0 hy g1 g2 g3
    refine b_Mo_edit_100 (by_if (fun q => bad (fun z => ?_)) (fun q => ⟨t1', s_Mo_fits a2 a3 (F := ft) (fun j q1 q2 => (a4 j q1 q2).1) (bI_ite (fun q1 => bad (fun z => q1 z.2)) (fun q1 => ?_))⟩))
    · have := (spP_k z.1).2.2.1.2
      rw [← hy] at this
      exact this q
    · have sv : svP k v := ⟨g3, by rw [← hy]; exact q⟩
      have hsp := sp_of_fit hok k0 k5 g1 g2 sv q1
      have none4 : ∀ p, p < n → ¬ ob (o p) 0 < nI 4 := by
        intro p hp
        obtain ⟨m, em, m1, m2⟩ := hid p hp
        rw [em]
        exact nI_nlt m1 (by omega)
      have := gather hsp q1 159 4 w1 0 [] (by omega) a1 a3 (fun i j _ hj => absurd hj (Nat.not_lt_zero _)) (fun x => ⟨fun ⟨i, z, _⟩ => absurd z (Nat.not_lt_zero _), fun ⟨p, z1, _, z3, z4⟩ => by rw [← z3] at z4; exact absurd z4 (none4 p z1)⟩) (cntP_none (fun p hp z => none4 p hp z.2)).symm (fun i hi => absurd hi (Nat.not_lt_zero _)) (fun p m z1 z2 z3 => by
        obtain ⟨m', em, m1, m2⟩ := hid p z1
        rw [z2, nI_eq (by omega) (by omega)] at em
        omega) (Or.inl rfl)
      exact this
  have b72 : ∀ y : Int32, y = (if k = 0 ∨ k = 3 then (1 : Int32) else 0) → (k ≠ 3 → k ≠ 4 → isKy s) → mG (d + 4) m_Mo_edit (0, 0) 72 [vR B, vI (nI r), vI k, vI t, vI s, vI v, vN, vI y, vN, vN, vN, vN] [] w1 Q := by
    intro y hy g1
    have tl : (k = 4 → s = 0) → if v < 0 then Q (-1) w1 else (if y = 0 then mG (d + 4) m_Mo_edit (0, 0) 100 [vR B, vI (nI r), vI k, vI t, vI s, vI v, vN, vN, vN, vN, vN, vN] [.int (0 : Int32), .int v] w1 Q else mG (d + 4) m_Mo_edit (0, 0) 100 [vR B, vI (nI r), vI k, vI t, vI s, vI v, vN, vN, vN, vN, vN, vN] [.int (99 : Int32), .int v] w1 Q) := by
      intro g2
      refine by_if (fun q => bad (fun z => (spP_k z.1).2.2.1.1 q)) (fun q => by_if (fun q2 => b100 0 ?_ g1 g2 q) (fun q2 => b100 99 ?_ g1 g2 q))
      · rw [hy] at q2
        by_cases c : k = 0 ∨ k = 3
        · rw [if_pos c] at q2; exact absurd q2 (by decide)
        · rw [if_neg c]
      · rw [hy] at q2
        by_cases c : k = 0 ∨ k = 3
        · rw [if_pos c]
        · rw [if_neg c] at q2; exact absurd rfl q2
    exact b_Mo_edit_72 (by_if (fun k4 => by_if (fun s0 => tl (fun _ => s0)) (fun s0 => bad (fun z => s0 ((spP_k z.1).2.2.2.2 k4)))) (fun k4 => tl (fun z => absurd z k4)))
  have b54 : ∀ y x6 : Int32, y = (if k = 0 ∨ k = 3 then (1 : Int32) else 0) → x6 = (if k = 3 ∨ k = 4 then (0 : Int32) else 1) → mG (d + 4) m_Mo_edit (0, 0) 54 [vR B, vI (nI r), vI k, vI t, vI s, vI v, vI x6, vN, vN, vN, vN, vN] [.int y] w1 Q := by
    intro y x6 hy hx
    refine b_Mo_edit_54 (by_if (fun q => b72 y hy (fun z1 z2 => ?_)) (fun q => ?_))
    · rw [hx, if_neg (fun z => z.elim z1 z2)] at q
      exact absurd q (by decide)
    · have hk : ¬ (k = 3 ∨ k = 4) := by
        intro z
        rw [hx, if_pos z] at q
        exact q rfl
      have hk3 : k ≠ 3 := fun z => hk (Or.inl z)
      have hk4 : k ≠ 4 := fun z => hk (Or.inr z)
      exact by_if (fun q2 => bad (fun z => ((spP_k z.1).2.2.2.1 hk3 hk4).1 q2)) (fun q2 => by_if (fun q3 => bad (fun z => (ky3 q2).mpr ((spP_k z.1).2.2.2.1 hk3 hk4) q3)) (fun q3 => b72 y hy (fun _ _ => (ky3 q2).mp q3)))
  have b38 : ∀ y : Int32, y = (if k = 3 ∨ k = 4 then (0 : Int32) else 1) → mG (d + 4) m_Mo_edit (0, 0) 38 [vR B, vI (nI r), vI k, vI t, vI s, vI v, vN, vN, vN, vN, vN, vN] [.int y] w1 Q := by
    intro y hy
    exact b_Mo_edit_38 (by_if (fun q => b54 1 y (by rw [if_pos (Or.inl q)]) hy) (fun q => by_if (fun q2 => b54 1 y (by rw [if_pos (Or.inr q2)]) hy) (fun q2 => b54 0 y (by rw [if_neg (fun z => z.elim q q2)]) hy)))
  exact by_if (fun q => b38 0 (by rw [if_pos (Or.inl q)])) (fun q => by_if (fun q2 => b38 0 (by rw [if_pos (Or.inr q2)])) (fun q2 => b38 1 (by rw [if_neg (fun z => z.elim q q2)])))
end SME2
