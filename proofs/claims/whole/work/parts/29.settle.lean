/-! a replica's state with its invariants; settling -/
def PmOk (n : Nat) (o : Nat → mO) (pm : Nat → Int32) : Prop := ∀ j, j < n → ∀ i, i < 32 → (bitA (pm j) i ↔ gpP j o pm (o j) i)
def FtOk (n : Nat) (o : Nat → mO) (ft : Nat → Prop) : Prop := ∀ j, j < n → (ft j ↔ fitP j o ft (ob (o j) 1) (ob (o j) 2) (ob (o j) 3))
def SgOk (n : Nat) (o : Nat → mO) (sg : Nat → Nat) : Prop := (∀ i, i < n → sg i < n) ∧ ∀ i j, i < j → j < n → ob (o (sg i)) 0 < ob (o (sg j)) 0
theorem gpP_congr {n : Nat} {o o' : Nat → mO} {pm pm' : Nat → Int32} {c : mO} {i : Nat} (ho : ∀ p, p < n → o' p = o p) (hpm : ∀ p, p < n → pm' p = pm p) : gpP n o' pm' c i ↔ gpP n o pm c i := by
  constructor
  · rintro ⟨p, h1, h2, h3⟩
    rw [ho p h1] at h2
    rw [hpm p h1] at h3
    exact ⟨p, h1, h2, h3⟩
  · rintro ⟨p, h1, h2, h3⟩
    rw [← ho p h1] at h2
    rw [← hpm p h1] at h3
    exact ⟨p, h1, h2, h3⟩
theorem kdP_congr {n : Nat} {o o' : Nat → mO} {x k : Int32} (ho : ∀ p, p < n → o' p = o p) : kdP n o' x k ↔ kdP n o x k := by
  constructor
  · rintro ⟨p, h1, h2, h3⟩
    rw [ho p h1] at h2 h3
    exact ⟨p, h1, h2, h3⟩
  · rintro ⟨p, h1, h2, h3⟩
    rw [← ho p h1] at h2 h3
    exact ⟨p, h1, h2, h3⟩
theorem inP_congr {n : Nat} {o o' : Nat → mO} {ft ft' : Nat → Prop} {x : Int32} {p : Nat} (ho : ∀ p, p < n → o' p = o p) (hf : ∀ p, p < n → (ft' p ↔ ft p)) : inP n o' ft' x p ↔ inP n o ft x p := by
  unfold inP
  constructor
  · rintro ⟨h1, h2, h3, h4⟩
    rw [ho p h1] at h2 h4
    exact ⟨h1, h2, (hf p h1).mp h3, h4⟩
  · rintro ⟨h1, h2, h3, h4⟩
    rw [← ho p h1] at h2 h4
    exact ⟨h1, h2, (hf p h1).mpr h3, h4⟩
theorem fitP_congr {n : Nat} {o o' : Nat → mO} {ft ft' : Nat → Prop} {k t s : Int32} (ho : ∀ p, p < n → o' p = o p) (hf : ∀ p, p < n → (ft' p ↔ ft p)) : fitP n o' ft' k t s ↔ fitP n o ft k t s := by
  unfold fitP
  rw [kdP_congr ho, kdP_congr ho]
  have e1 : (∃ p, inP n o' ft' s p ∧ ob (o' p) 2 = t) ↔ ∃ p, inP n o ft s p ∧ ob (o p) 2 = t := by
    constructor
    · rintro ⟨p, h1, h2⟩
      rw [ho p h1.1] at h2
      exact ⟨p, (inP_congr ho hf).mp h1, h2⟩
    · rintro ⟨p, h1, h2⟩
      rw [← ho p h1.1] at h2
      exact ⟨p, (inP_congr ho hf).mpr h1, h2⟩
  have e2 : (∃ p, inP n o' ft' t p) ↔ ∃ p, inP n o ft t p := ⟨fun ⟨p, h⟩ => ⟨p, (inP_congr ho hf).mp h⟩, fun ⟨p, h⟩ => ⟨p, (inP_congr ho hf).mpr h⟩⟩
  rw [e1, e2]
def CSt (w : mW) (A : Nat) (num : Int32) (n h : Nat) (o : Nat → mO) (pm : Nat → Int32) (ft : Nat → Prop) (sg : Nat → Nat) : Prop := CRep w A num n h o pm ft sg ∧ PmOk n o pm ∧ FtOk n o ft ∧ SgOk n o sg ∧ unq h o
/-- k steps of settling, then nothing is ready -/
def Chn : Nat → Nat → Nat → (Nat → mO) → (Nat → mO) → Prop
  | 0, n, h, o, o' => o' = o ∧ ∀ p, n ≤ p → p < h → ¬ rdP n o (o p)
  | k + 1, n, h, o, o' => ∃ p, n ≤ p ∧ p < h ∧ rdP n o (o p) ∧ (∀ p', n ≤ p' → p' < h → rdP n o (o p') → ob (o p) 0 ≤ ob (o p') 0) ∧ Chn k (n + 1) h (swp o n p) o'
theorem Chn_le {k n h : Nat} {o o' : Nat → mO} (h1 : Chn k n h o o') (hn : n ≤ h) : n + k ≤ h := by
  induction k generalizing n o with
  | zero => omega
  | succ k ih =>
    obtain ⟨p, g1, g2, -, -, g5⟩ := h1
    have := ih g5 (by omega)
    omega
theorem swp_lt {o : Nat → mO} {n p i : Nat} (hi : i < n) (hp : n ≤ p) : swp o n p i = o i := by
  unfold swp
  rw [if_neg (by omega), if_neg (by omega)]
theorem swp_n {o : Nat → mO} {n p : Nat} : swp o n p n = o p := by
  unfold swp
  by_cases e : n = p
  · rw [if_pos e, e]
  · rw [if_neg e, if_pos rfl]
section SST
variable {d : Nat} {w : mW} {Q : Int32 → mW → Prop} {A : Nat} {num : Int32} {n h : Nat} {o : Nat → mO} {pm : Nat → Int32} {ft : Nat → Prop} {sg : Nat → Nat} {x : Int32}
theorem PmOk_app {p : Nat} {g : Int32} (hp : n ≤ p) (h1 : PmOk n o pm) (hg : ∀ i, i < 32 → (bitA g i ↔ gpP n (swp o n p) pm (o p) i)) : PmOk (n + 1) (swp o n p) (upP pm n g) := by
  intro j hj i hi
  by_cases e : j = n
  · subst e
    have e1 : upP pm j g j = g := by unfold upP; rw [if_pos rfl]
    rw [e1, hg i hi, swp_n]
    exact (gpP_congr (fun _ _ => rfl) (fun p' hp' => by unfold upP; rw [if_neg (by omega)])).symm
  · have e1 : upP pm n g j = pm j := by unfold upP; rw [if_neg e]
    rw [e1, h1 j (by omega) i hi, swp_lt (by omega) hp]
    exact (gpP_congr (fun p' hp' => swp_lt (by omega) hp) (fun p' hp' => by unfold upP; rw [if_neg (by omega)])).symm
theorem FtOk_app {p : Nat} (hp : n ≤ p) (h1 : FtOk n o ft) : FtOk (n + 1) (swp o n p) (upP ft n (fitP n (swp o n p) ft (ob (o p) 1) (ob (o p) 2) (ob (o p) 3))) := by
  intro j hj
  by_cases e : j = n
  · subst e
    have e1 : upP ft j (fitP j (swp o j p) ft (ob (o p) 1) (ob (o p) 2) (ob (o p) 3)) j = fitP j (swp o j p) ft (ob (o p) 1) (ob (o p) 2) (ob (o p) 3) := by unfold upP; rw [if_pos rfl]
    rw [e1, swp_n]
    exact (fitP_congr (fun _ _ => rfl) (fun p' hp' => by unfold upP; rw [if_neg (by omega)])).symm
  · have e1 : upP ft n (fitP n (swp o n p) ft (ob (o p) 1) (ob (o p) 2) (ob (o p) 3)) j = ft j := by unfold upP; rw [if_neg e]
    rw [e1, h1 j (by omega), swp_lt (by omega) hp]
    exact (fitP_congr (fun p' hp' => swp_lt (by omega) hp) (fun p' hp' => by unfold upP; rw [if_neg (by omega)])).symm
theorem SgOk_app {p s : Nat} (hp : n ≤ p) (hph : p < h) (hu : unq h o) (hnh : n ≤ h) (h1 : SgOk n o sg) (hs : s ≤ n) (hs2 : s = 0 ∨ ¬ ob (o p) 0 < ob (swp o n p (sg (s - 1))) 0) (hs3 : ∀ j, s ≤ j → j < n → ob (o p) 0 < ob (swp o n p (sg j)) 0) : SgOk (n + 1) (swp o n p) (insS sg s n) := by
  have val : ∀ i, i < n + 1 → ob (swp o n p (insS sg s n i)) 0 = if i < s then ob (o (sg i)) 0 else if i = s then ob (o p) 0 else ob (o (sg (i - 1))) 0 := by
    intro i hi
    unfold insS
    by_cases e1 : i < s
    · rw [if_pos e1, if_pos e1, swp_lt (h1.1 i (by omega)) hp]
    · rw [if_neg e1, if_neg e1]
      by_cases e2 : i = s
      · rw [if_pos e2, if_pos e2, swp_n]
      · rw [if_neg e2, if_neg e2, swp_lt (h1.1 (i - 1) (by omega)) hp]
  have low : ∀ i, i < s → ob (o (sg i)) 0 < ob (o p) 0 := by
    intro i hi
    have hs2' : ¬ ob (o p) 0 < ob (o (sg (s - 1))) 0 := by
      rcases hs2 with z | z
      · omega
      · rw [swp_lt (h1.1 (s - 1) (by omega)) hp] at z; exact z
    have hne : ob (o (sg (s - 1))) 0 ≠ ob (o p) 0 := by
      intro z
      have a1 := h1.1 (s - 1) (by omega)
      have := hu (sg (s - 1)) p (by omega) hph z
      omega
    have hlt : ob (o (sg (s - 1))) 0 < ob (o p) 0 := Int32.lt_of_le_of_ne (Int32.not_lt.mp hs2') hne
    by_cases e : i = s - 1
    · rw [e]; exact hlt
    · have := h1.2 i (s - 1) (by omega) (by omega)
      rw [Int32.lt_iff_toInt_lt] at this hlt ⊢
      omega
  have high : ∀ j, s ≤ j → j < n → ob (o p) 0 < ob (o (sg j)) 0 := by
    intro j h2 h3
    have := hs3 j h2 h3
    rw [swp_lt (h1.1 j h3) hp] at this
    exact this
  refine ⟨fun i hi => ?_, fun i j hij hj => ?_⟩
  · unfold insS
    by_cases e1 : i < s
    · rw [if_pos e1]; have := h1.1 i (by omega); omega
    · rw [if_neg e1]
      by_cases e2 : i = s
      · rw [if_pos e2]; omega
      · rw [if_neg e2]; have := h1.1 (i - 1) (by omega); omega
  · rw [val i (by omega), val j hj]
    by_cases e1 : i < s
    · rw [if_pos e1]
      by_cases f1 : j < s
      · rw [if_pos f1]; exact h1.2 i j hij (by omega)
      · rw [if_neg f1]
        by_cases f2 : j = s
        · rw [if_pos f2]; exact low i e1
        · rw [if_neg f2]
          have a := low i e1
          have b := high (j - 1) (by omega) (by omega)
          rw [Int32.lt_iff_toInt_lt] at a b ⊢
          omega
    · rw [if_neg e1, if_neg (show ¬ j < s by omega), if_neg (show ¬ j = s by omega)]
      by_cases e2 : i = s
      · rw [if_pos e2]; exact high (j - 1) (by omega) (by omega)
      · rw [if_neg e2]; exact h1.2 (i - 1) (j - 1) (by omega) (by omega)
/-- applying one that waits, with the invariants -/
theorem t_Re_applyWaiting {p : Nat} (hC : CSt w A num n h o pm ft sg) (hp : n ≤ p) (hph : p < h)
    (hQ : ∀ pm' ft' sg' w', mFx (fun z => A ≤ z ∧ z < A + 37) w w' → CSt w' A num (n + 1) h (swp o n p) pm' ft' sg' → Q 0 w') : mC (d + 3) m_Re_applyWaiting [.ref A, .int (nI p)] w Q := by
  obtain ⟨hR, h1, h2, h3, hu⟩ := hC
  have hnh := hR.2.2.1.1
  refine s_Re_applyWaiting hR hp hph hu (fun g s w' hg hs1 hs2 hs3 hf hR' => hQ _ _ _ w' hf ⟨hR', PmOk_app hp h1 hg, FtOk_app hp h2, SgOk_app hp hph hu hnh h3 hs1 hs2 hs3, unq_swp hu (by omega) hph⟩)
theorem s_Re_settle (hC : CSt w A num n h o pm ft sg) (hQ : ∀ k o' pm' ft' sg' w', Chn k n h o o' → mFx (fun z => A ≤ z ∧ z < A + 37) w w' → CSt w' A num (n + k) h o' pm' ft' sg' → Q (nI k) w') : mC (d + 4) m_Re_settle [.ref A] w Q := by
  have loop : ∀ j k n1 o1 pm1 ft1 sg1 w1, k + j = 16 → k ≤ n1 → CSt w1 A num n1 h o1 pm1 ft1 sg1 → (∀ k' o' pm' ft' sg' w', Chn k' n1 h o1 o' → mFx (fun z => A ≤ z ∧ z < A + 37) w1 w' → CSt w' A num (n1 + k') h o' pm' ft' sg' → Q (nI (k + k')) w') → mG (d + 4) m_Re_settle (0, 0) 4 [vR A, vI (nI k), vI (nI k), vN] [] w1 Q := by
    intro j
    induction j with
    | zero =>
      intro k n1 o1 pm1 ft1 sg1 w1 hk hkn hC1 hQ1
      have hh := hC1.1.2.2.1
      refine b_Re_settle_4 ?_
      have hk16 : k = 16 := by omega
      subst hk16
      rw [if_pos (by decide)]
      have := hQ1 0 o1 pm1 ft1 sg1 w1 ⟨rfl, fun p h1 h2 => by omega⟩ (mFx.rf _ _) hC1
      exact this
    | succ j ih =>
      intro k n1 o1 pm1 ft1 sg1 w1 hk hkn hC1 hQ1
      have hC1' := hC1
      obtain ⟨hR1, -⟩ := hC1
      have hh := hR1.2.2.1
      refine b_Re_settle_4 ?_
      have hk16 : ¬ (16 : Int32) ≤ nI k := nI_ge (a := k) (b := 16) (by omega) (by omega)
      rw [if_neg hk16]
      refine ⟨hR1.1.2.1, s_Re_findLeastReady hR1 (fun r hr => ?_)⟩
      rcases hr with ⟨rfl, hr⟩ | ⟨p, h1, h2, rfl, h3, h4⟩
      · rw [if_pos rfl]
        exact hQ1 0 o1 pm1 ft1 sg1 w1 ⟨rfl, hr⟩ (mFx.rf _ _) hC1'
      · rw [if_neg (nI_m1 (by omega))]
        refine ⟨hR1.1.2.1, t_Re_applyWaiting hC1' h1 h2 (fun pm2 ft2 sg2 w2 hf hC2 => ?_)⟩
        rw [nI_1]
        refine ih (k + 1) (n1 + 1) _ pm2 ft2 sg2 w2 (by omega) (by omega) hC2 (fun k' o' pm' ft' sg' w' g1 g2 g3 => ?_)
        have := hQ1 (k' + 1) o' pm' ft' sg' w' ⟨p, h1, h2, h3, h4, g1⟩ (hf.tr g2) (by rw [show n1 + (k' + 1) = n1 + 1 + k' by omega]; exact g3)
        rw [show k + 1 + k' = k + (k' + 1) by omega]
        exact this
  have h0 := loop 16 0 n o pm ft sg w (by omega) (by omega) hC (fun k' o' pm' ft' sg' w' g1 g2 g3 => by rw [Nat.zero_add]; exact hQ k' o' pm' ft' sg' w' g1 g2 g3)
  rw [nI_0] at h0
  exact e_Re_settle h0
end SST
