/-! elements as a tree; the order that the model reads off it -/
def upn (pa : Nat → Nat) : Nat → Nat → Nat
  | 0, p => p
  | k + 1, p => upn pa k (pa p)
theorem upn_succ (pa : Nat → Nat) (k p : Nat) : upn pa (k + 1) p = pa (upn pa k p) := by
  induction k generalizing p with
  | zero => rfl
  | succ k ih => exact ih (pa p)
def dpf (sl : Nat → Int32) (pa : Nat → Nat) : Nat → Nat → Nat
  | 0, _ => 0
  | f + 1, p => if sl p = 0 then 0 else dpf sl pa f (pa p) + 1
def dep (sl : Nat → Int32) (pa : Nat → Nat) (p : Nat) : Nat := dpf sl pa (p + 1) p
def la (sl : Nat → Int32) (pa : Nat → Nat) (p k : Nat) : Nat := upn pa (dep sl pa p - k) p
/-- a tree by what is behind what -/
def TR (E : Nat → Prop) (sl idf : Nat → Int32) (pa : Nat → Nat) : Prop := (∀ p, E p → sl p ≠ 0 → pa p < p ∧ E (pa p) ∧ idf (pa p) = sl p ∧ idf (pa p) < idf p) ∧ ∀ p q, E p → E q → idf p = idf q → p = q
def Dl (sl idf : Nat → Int32) (pa : Nat → Nat) (i j : Nat) : Nat → Prop
  | 0 => idf (la sl pa j 0) < idf (la sl pa i 0)
  | m + 1 => (la sl pa i m = la sl pa j m ∧ idf (la sl pa j (m + 1)) < idf (la sl pa i (m + 1))) ∨ (la sl pa i m ≠ la sl pa j m ∧ Dl sl idf pa i j m)
def Ah (sl idf : Nat → Int32) (pa : Nat → Nat) (i j : Nat) : Prop := (la sl pa i (min (dep sl pa i) (dep sl pa j)) = la sl pa j (min (dep sl pa i) (dep sl pa j)) ∧ dep sl pa i < dep sl pa j) ∨ (la sl pa i (min (dep sl pa i) (dep sl pa j)) ≠ la sl pa j (min (dep sl pa i) (dep sl pa j)) ∧ Dl sl idf pa i j (min (dep sl pa i) (dep sl pa j)))
section TREE
variable {E : Nat → Prop} {sl idf : Nat → Int32} {pa : Nat → Nat}
theorem dpf_eq (hT : TR E sl idf pa) : ∀ f g p, E p → p < f → p < g → dpf sl pa f p = dpf sl pa g p := by
  intro f
  induction f with
  | zero => intro g p _ h; omega
  | succ f ih =>
    intro g p hE hf hg
    cases g with
    | zero => omega
    | succ g =>
      unfold dpf
      by_cases e : sl p = 0
      · rw [if_pos e, if_pos e]
      · rw [if_neg e, if_neg e]
        obtain ⟨h1, h2, -⟩ := hT.1 p hE e
        rw [ih g (pa p) h2 (by omega) (by omega)]
theorem dep_0 {p : Nat} (e : sl p = 0) : dep sl pa p = 0 := by
  unfold dep dpf
  rw [if_pos e]
theorem dep_s (hT : TR E sl idf pa) {p : Nat} (hE : E p) (e : sl p ≠ 0) : dep sl pa p = dep sl pa (pa p) + 1 := by
  obtain ⟨h1, h2, -⟩ := hT.1 p hE e
  show (if sl p = 0 then 0 else dpf sl pa p (pa p) + 1) = dpf sl pa (pa p + 1) (pa p) + 1
  rw [if_neg e, dpf_eq hT p (pa p + 1) (pa p) h2 h1 (by omega)]
theorem dep_le (hT : TR E sl idf pa) : ∀ b p, p < b → E p → dep sl pa p ≤ p := by
  intro b
  induction b with
  | zero => intro p h; omega
  | succ b ih =>
    intro p hp hE
    by_cases e : sl p = 0
    · rw [dep_0 e]; omega
    · obtain ⟨h1, h2, -⟩ := hT.1 p hE e
      rw [dep_s hT hE e]
      have := ih (pa p) (by omega) h2
      omega
theorem upn_E (hT : TR E sl idf pa) : ∀ k p, E p → k ≤ dep sl pa p → E (upn pa k p) ∧ dep sl pa (upn pa k p) + k = dep sl pa p ∧ idf (upn pa k p) ≤ idf p := by
  intro k
  induction k with
  | zero => intro p hE _; exact ⟨hE, rfl, Int32.le_refl _⟩
  | succ k ih =>
    intro p hE hk
    have e : sl p ≠ 0 := by
      intro z
      rw [dep_0 z] at hk
      omega
    obtain ⟨h1, h2, h3, h4⟩ := hT.1 p hE e
    have h5 := dep_s hT hE e
    obtain ⟨g1, g2, g3⟩ := ih (pa p) h2 (by omega)
    refine ⟨g1, ?_, Int32.le_trans g3 (Int32.le_of_lt h4)⟩
    show dep sl pa (upn pa k (pa p)) + (k + 1) = _
    omega
theorem la_top (p : Nat) : la sl pa p (dep sl pa p) = p := by
  unfold la
  rw [Nat.sub_self]
  rfl
theorem la_E (hT : TR E sl idf pa) {p k : Nat} (hE : E p) (hk : k ≤ dep sl pa p) : E (la sl pa p k) ∧ dep sl pa (la sl pa p k) = k ∧ idf (la sl pa p k) ≤ idf p := by
  obtain ⟨h1, h2, h3⟩ := upn_E hT (dep sl pa p - k) p hE (by omega)
  exact ⟨h1, by unfold la; omega, h3⟩
theorem la_pa (hT : TR E sl idf pa) {x k : Nat} (hE : E x) (e : sl x ≠ 0) (hk : k ≤ dep sl pa (pa x)) : la sl pa x k = la sl pa (pa x) k := by
  unfold la
  have h5 := dep_s hT hE e
  rw [show dep sl pa x - k = (dep sl pa (pa x) - k) + 1 by omega]
  rfl
theorem la_up (hT : TR E sl idf pa) {p k : Nat} (hE : E p) (hk : k + 1 ≤ dep sl pa p) : sl (la sl pa p (k + 1)) ≠ 0 ∧ pa (la sl pa p (k + 1)) = la sl pa p k := by
  constructor
  · intro z
    have := (la_E hT hE hk).2.1
    rw [dep_0 z] at this
    omega
  · unfold la
    rw [show dep sl pa p - k = (dep sl pa p - (k + 1)) + 1 by omega, upn_succ]
theorem la_0 (hT : TR E sl idf pa) {p : Nat} (hE : E p) : sl (la sl pa p 0) = 0 := by
  have h := la_E hT hE (k := 0) (by omega)
  by_cases e : sl (la sl pa p 0) = 0
  · exact e
  · have := dep_s hT h.1 e
    omega
/-- the same slot: the same parent, or both at the root -/
theorem la_sl (hT : TR E sl idf pa) {p q k : Nat} (hp : E p) (hq : E q) (hkp : k + 1 ≤ dep sl pa p) (hkq : k + 1 ≤ dep sl pa q) : sl (la sl pa p (k + 1)) = sl (la sl pa q (k + 1)) ↔ la sl pa p k = la sl pa q k := by
  obtain ⟨a1, a2⟩ := la_up hT hp hkp
  obtain ⟨b1, b2⟩ := la_up hT hq hkq
  have a3 := (hT.1 _ (la_E hT hp hkp).1 a1).2.2.1
  have b3 := (hT.1 _ (la_E hT hq hkq).1 b1).2.2.1
  rw [a2] at a3
  rw [b2] at b3
  rw [← a3, ← b3]
  exact ⟨fun z => hT.2 _ _ (la_E hT hp (by omega)).1 (la_E hT hq (by omega)).1 z, fun z => by rw [z]⟩
theorem Dl_congr {i i' j j' m : Nat} (h : ∀ k, k ≤ m → la sl pa i k = la sl pa i' k ∧ la sl pa j k = la sl pa j' k) : Dl sl idf pa i j m ↔ Dl sl idf pa i' j' m := by
  induction m with
  | zero =>
    unfold Dl
    rw [(h 0 (by omega)).1, (h 0 (by omega)).2]
  | succ m ih =>
    unfold Dl
    rw [(h m (by omega)).1, (h m (by omega)).2, (h (m + 1) (by omega)).1, (h (m + 1) (by omega)).2, ih (fun k hk => h k (by omega))]
theorem Dl_tot (hT : TR E sl idf pa) {i j m : Nat} (hi : E i) (hj : E j) (h1 : m ≤ dep sl pa i) (h2 : m ≤ dep sl pa j) (hne : la sl pa i m ≠ la sl pa j m) : Dl sl idf pa i j m ↔ ¬ Dl sl idf pa j i m := by
  have lvl : ∀ k, k ≤ m → la sl pa i k ≠ la sl pa j k → (idf (la sl pa j k) < idf (la sl pa i k) ↔ ¬ idf (la sl pa i k) < idf (la sl pa j k)) := by
    intro k hk hn
    have hd : idf (la sl pa i k) ≠ idf (la sl pa j k) := fun z => hn (hT.2 _ _ (la_E hT hi (by omega)).1 (la_E hT hj (by omega)).1 z)
    constructor
    · intro z z2
      exact Int32.lt_irrefl (Int32.lt_trans z z2)
    · intro z
      rcases Int32.lt_or_eq_of_le (Int32.not_lt.mp z) with z2 | z2
      · exact z2
      · exact absurd z2.symm hd
  induction m with
  | zero =>
    unfold Dl
    exact lvl 0 (Nat.le_refl 0) hne
  | succ m ih =>
    unfold Dl
    by_cases e : la sl pa i m = la sl pa j m
    · have e' : la sl pa j m = la sl pa i m := e.symm
      constructor
      · rintro (⟨-, z⟩ | ⟨z, -⟩)
        · rintro (⟨-, z2⟩ | ⟨z2, -⟩)
          · exact (lvl (m + 1) (by omega) hne).mp z z2
          · exact z2 e'
        · exact absurd e z
      · intro z
        exact Or.inl ⟨e, (lvl (m + 1) (by omega) hne).mpr (fun z2 => z (Or.inl ⟨e', z2⟩))⟩
    · have e' : la sl pa j m ≠ la sl pa i m := fun z => e z.symm
      have ih' := ih (by omega) (by omega) e (fun k hk => lvl k (by omega))
      constructor
      · rintro (⟨z, -⟩ | ⟨-, z⟩)
        · exact absurd z e
        · rintro (⟨z2, -⟩ | ⟨-, z2⟩)
          · exact e' z2
          · exact ih'.mp z z2
      · intro z
        exact Or.inr ⟨e, ih'.mpr (fun z2 => z (Or.inr ⟨e', z2⟩))⟩
theorem Ah_irr (x : Nat) : ¬ Ah sl idf pa x x := by
  rintro (⟨-, h⟩ | ⟨h, -⟩)
  · omega
  · exact h rfl
theorem Ah_tot (hT : TR E sl idf pa) {x y : Nat} (hx : E x) (hy : E y) (hne : x ≠ y) : Ah sl idf pa x y ↔ ¬ Ah sl idf pa y x := by
  unfold Ah
  rw [Nat.min_comm (dep sl pa y) (dep sl pa x)]
  by_cases e : la sl pa x (min (dep sl pa x) (dep sl pa y)) = la sl pa y (min (dep sl pa x) (dep sl pa y))
  · have hd : dep sl pa x ≠ dep sl pa y := by
      intro z
      apply hne
      rw [← z, Nat.min_self] at e
      rw [la_top, z, la_top] at e
      exact e
    constructor
    · rintro (⟨-, z⟩ | ⟨z, -⟩)
      · rintro (⟨-, z2⟩ | ⟨z2, -⟩)
        · omega
        · exact z2 e.symm
      · exact absurd e z
    · intro z
      refine Or.inl ⟨e, ?_⟩
      by_cases g : dep sl pa y < dep sl pa x
      · exact absurd (Or.inl ⟨e.symm, g⟩) z
      · omega
  · have hD := Dl_tot hT hx hy (Nat.min_le_left _ _) (Nat.min_le_right _ _) e
    constructor
    · rintro (⟨z, -⟩ | ⟨-, z⟩)
      · exact absurd z e
      · rintro (⟨z2, -⟩ | ⟨-, z2⟩)
        · exact e z2.symm
        · exact hD.mp z z2
    · intro z
      exact Or.inr ⟨e, hD.mpr (fun z2 => z (Or.inr ⟨fun g => e g.symm, z2⟩))⟩
/-- against one of greater id: what its parent says -/
theorem Ah_step (hT : TR E sl idf pa) {x y : Nat} (hx : E x) (hy : E y) (hlt : idf y < idf x) : Ah sl idf pa y x ↔ sl x ≠ 0 ∧ (y = pa x ∨ Ah sl idf pa y (pa x)) := by
  have nex : ∀ k, k ≤ dep sl pa y → la sl pa y k ≠ x := by
    intro k hk z
    have := (la_E hT hy hk).2.2
    rw [z] at this
    exact Int32.lt_irrefl (Int32.lt_of_le_of_lt this hlt)
  have low : ∀ k, k ≤ dep sl pa y → ¬ idf x < idf (la sl pa y k) := by
    intro k hk z
    exact Int32.lt_irrefl (Int32.lt_trans hlt (Int32.lt_of_lt_of_le z (la_E hT hy hk).2.2))
  by_cases e : sl x = 0
  · have d0 := dep_0 (pa := pa) e
    constructor
    · intro h
      exfalso
      unfold Ah at h
      rw [d0, Nat.min_zero] at h
      have lx : la sl pa x 0 = x := by have := la_top (sl := sl) (pa := pa) x; rw [d0] at this; exact this
      rw [lx] at h
      rcases h with ⟨z, -⟩ | ⟨-, z⟩
      · exact nex 0 (by omega) z
      · unfold Dl at z
        rw [lx] at z
        exact low 0 (by omega) z
    · intro h
      exact absurd e h.1
  · obtain ⟨h1, h2, h3, h4⟩ := hT.1 x hx e
    have hd := dep_s hT hx e
    have lx : la sl pa x (dep sl pa (pa x) + 1) = x := by have := la_top (sl := sl) (pa := pa) x; rw [hd] at this; exact this
    by_cases g : dep sl pa y ≤ dep sl pa (pa x)
    · have m1 : min (dep sl pa y) (dep sl pa x) = dep sl pa y := by omega
      have m2 : min (dep sl pa y) (dep sl pa (pa x)) = dep sl pa y := by omega
      unfold Ah
      rw [m1, m2, la_pa hT hx e g, la_top]
      have hDc : Dl sl idf pa y x (dep sl pa y) ↔ Dl sl idf pa y (pa x) (dep sl pa y) := Dl_congr (fun k hk => ⟨rfl, la_pa hT hx e (by omega)⟩)
      rw [hDc]
      constructor
      · rintro (⟨z, -⟩ | ⟨z, z2⟩)
        · refine ⟨e, ?_⟩
          by_cases g2 : dep sl pa y = dep sl pa (pa x)
          · rw [g2, la_top] at z
            exact Or.inl z
          · exact Or.inr (Or.inl ⟨z, by omega⟩)
        · exact ⟨e, Or.inr (Or.inr ⟨z, z2⟩)⟩
      · rintro ⟨-, z | ⟨z, z2⟩ | ⟨z, z2⟩⟩
        · refine Or.inl ⟨?_, by rw [z]; omega⟩
          rw [z, la_top]
        · exact Or.inl ⟨z, by omega⟩
        · exact Or.inr ⟨z, z2⟩
    · have m1 : min (dep sl pa y) (dep sl pa x) = dep sl pa (pa x) + 1 := by omega
      have m2 : min (dep sl pa y) (dep sl pa (pa x)) = dep sl pa (pa x) := by omega
      have hyne : y ≠ pa x := fun z => by rw [z] at g; omega
      unfold Ah
      rw [m1, m2, lx, la_top (pa x)]
      have lq : la sl pa x (dep sl pa (pa x)) = pa x := by rw [la_pa hT hx e (by omega), la_top]
      have hDc : Dl sl idf pa y x (dep sl pa (pa x)) ↔ Dl sl idf pa y (pa x) (dep sl pa (pa x)) := Dl_congr (fun k hk => ⟨rfl, la_pa hT hx e (by omega)⟩)
      have hDs : Dl sl idf pa y x (dep sl pa (pa x) + 1) ↔ (la sl pa y (dep sl pa (pa x)) ≠ pa x ∧ Dl sl idf pa y (pa x) (dep sl pa (pa x))) := by
        show (la sl pa y (dep sl pa (pa x)) = la sl pa x (dep sl pa (pa x)) ∧ idf (la sl pa x (dep sl pa (pa x) + 1)) < idf (la sl pa y (dep sl pa (pa x) + 1))) ∨ (la sl pa y (dep sl pa (pa x)) ≠ la sl pa x (dep sl pa (pa x)) ∧ Dl sl idf pa y x (dep sl pa (pa x))) ↔ _
        rw [lq, lx, hDc]
        exact ⟨fun z => z.elim (fun z => absurd z.2 (low _ (by omega))) (fun z => z), Or.inr⟩
      rw [hDs]
      constructor
      · rintro (⟨z, -⟩ | ⟨-, z⟩)
        · exact absurd z (nex _ (by omega))
        · exact ⟨e, Or.inr (Or.inr z)⟩
      · rintro ⟨-, z | ⟨-, z⟩ | z⟩
        · exact absurd z hyne
        · omega
        · exact Or.inr ⟨nex _ (by omega), z⟩
end TREE
