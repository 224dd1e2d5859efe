/-! truth values and small facts -/
noncomputable def bI (P : Prop) : Int32 := @ite _ P (Classical.propDecidable P) 1 0
theorem bI_t {P : Prop} (h : P) : bI P = 1 := by unfold bI; rw [if_pos h]
theorem bI_f {P : Prop} (h : ¬ P) : bI P = 0 := by unfold bI; rw [if_neg h]
theorem bI_0 {P : Prop} : bI P = 0 ↔ ¬ P := by
  by_cases h : P
  · rw [bI_t h]; simp [h]
  · rw [bI_f h]; simp [h]
theorem bI_1 {P : Prop} : bI P = 1 ↔ P := by
  by_cases h : P
  · rw [bI_t h]; simp [h]
  · rw [bI_f h]; simp [h]
theorem bI_and (P : Prop) : bI P &&& 1 = bI P := by
  by_cases h : P
  · rw [bI_t h]; decide
  · rw [bI_f h]; decide
theorem bI_iff {P P' : Prop} (h : P ↔ P') : bI P = bI P' := by rw [propext h]
theorem bI_ite {P A B : Prop} (f : ¬ P → A) (g : P → B) : if bI P = 0 then A else B := by
  by_cases h : P
  · rw [if_neg (by rw [bI_0]; exact fun q => q h)]; exact g h
  · rw [if_pos (bI_0.mpr h)]; exact f h
theorem bI_Q1 {P : Prop} {Q : Int32 → mW → Prop} {w : mW} (hQ : Q (bI P) w) (h : P) : Q 1 w := by rw [bI_t h] at hQ; exact hQ
theorem bI_Q0 {P : Prop} {Q : Int32 → mW → Prop} {w : mW} (hQ : Q (bI P) w) (h : ¬ P) : Q 0 w := by rw [bI_f h] at hQ; exact hQ
/-- branches: both ways -/
theorem by_if {c A B : Prop} [Decidable c] (f : c → A) (g : ¬ c → B) : if c then A else B := by
  by_cases h : c
  · rw [if_pos h]; exact f h
  · rw [if_neg h]; exact g h
/-! what of the memory stays: tags, lengths, pointers, size -/
def mSh (w w' : mW) : Prop := w'.1 = w.1 ∧ w'.2.1 = w.2.1 ∧ w'.2.2.2 = w.2.2.2
theorem mSh.rf (w : mW) : mSh w w := ⟨rfl, rfl, rfl⟩
theorem mSh.tr {w w1 w2 : mW} (h : mSh w w1) (h2 : mSh w1 w2) : mSh w w2 := ⟨h2.1.trans h.1, h2.2.1.trans h.2.1, h2.2.2.trans h.2.2⟩
theorem mSh.wrI (w : mW) (a k : Nat) (v : Int32) : mSh w (wrI w a k v) := ⟨rfl, rfl, rfl⟩
theorem mSh.wrC (w : mW) (x sp y dp n : Nat) : mSh w (wrC w x sp y dp n) := ⟨rfl, rfl, rfl⟩
theorem mSh.T {w w' : mW} (h : mSh w w') (a : Nat) : mT w' a = mT w a := by unfold mT; rw [h.1]
theorem mSh.L {w w' : mW} (h : mSh w w') (a : Nat) : mL w' a = mL w a := by unfold mL; rw [h.2.1]
theorem mSh.P {w w' : mW} (h : mSh w w') (a k : Nat) : mP w' a k = mP w a k := by unfold mP; rw [h.2.2]
theorem mSh.Z {w w' : mW} (h : mSh w w') : mZ w' = mZ w := by unfold mZ; rw [h.2.2]
/-- ints may differ only at the addresses X -/
def mFr (X : Nat → Prop) (w w' : mW) : Prop := mSh w w' ∧ ∀ a, ¬ X a → mI w' a = mI w a
theorem mFr.rf (X : Nat → Prop) (w : mW) : mFr X w w := ⟨mSh.rf w, fun _ _ => rfl⟩
theorem mFr.tr {X : Nat → Prop} {w w1 w2 : mW} (h : mFr X w w1) (h2 : mFr X w1 w2) : mFr X w w2 := ⟨h.1.tr h2.1, fun a ha => (h2.2 a ha).trans (h.2 a ha)⟩
theorem mFr.to {X Y : Nat → Prop} {w w1 : mW} (h : mFr X w w1) (hXY : ∀ a, X a → Y a) : mFr Y w w1 := ⟨h.1, fun a ha => h.2 a (fun z => ha (hXY a z))⟩
theorem mFr.wrI {X : Nat → Prop} {w w1 : mW} (h : mFr X w w1) {a : Nat} (k : Nat) (v : Int32) (ha : X a) : mFr X w (wrI w1 a k v) := by
  refine ⟨h.1.tr (mSh.wrI w1 a k v), fun q hq => ?_⟩
  rw [← h.2 q hq]
  funext j
  rw [mI_wrI, if_neg]
  intro z
  rw [z.1] at hq
  exact hq ha
theorem mFr.wrC {X : Nat → Prop} {w w1 : mW} (h : mFr X w w1) {y : Nat} (x sp dp n : Nat) (ha : X y) : mFr X w (wrC w1 x sp y dp n) := by
  refine ⟨h.1.tr (mSh.wrC w1 x sp y dp n), fun q hq => ?_⟩
  rw [← h.2 q hq]
  funext j
  rw [mI_wrC, if_neg]
  intro z
  rw [z.1] at hq
  exact hq ha
/-! an operation: its bytes -/
abbrev mO : Type := List Int32
def ob (o : mO) (k : Nat) : Int32 := o.getD k 0
/-- x is in BEFORE -/
def hb (o : mO) (x : Int32) : Prop := ∃ k, k < o.length - 6 ∧ ob o (6 + k) = x
/-- the row of an operation: Operation at q, its before at q + 1 -/
def OSh (w : mW) (q : Nat) : Prop := q ≠ 0 ∧ mT w q = 2 ∧ mP w q 0 = q + 1 ∧ mT w (q + 1) = 20 ∧ mL w (q + 1) = 6
theorem OSh.of {w w' : mW} {q : Nat} (h : mSh w w') (hS : OSh w q) : OSh w' q := by
  obtain ⟨h1, h2, h3, h4, h5⟩ := hS
  exact ⟨h1, by rw [h.T]; exact h2, by rw [h.P]; exact h3, by rw [h.T]; exact h4, by rw [h.L]; exact h5⟩
def OpAt (w : mW) (q : Nat) (o : mO) : Prop := (6 ≤ o.length ∧ o.length ≤ 12) ∧ mI w q 1 = nI (o.length - 6) ∧ (mI w q 2 = ob o 0 ∧ mI w q 3 = ob o 1 ∧ mI w q 4 = ob o 2 ∧ mI w q 5 = ob o 3 ∧ mI w q 6 = ob o 4) ∧ ∀ k, k < o.length - 6 → mI w (q + 1) k = ob o (6 + k)
theorem OpAt.of {w w' : mW} {q : Nat} {o : mO} (h0 : mI w' q = mI w q) (h1 : mI w' (q + 1) = mI w (q + 1)) (h : OpAt w q o) : OpAt w' q o := by
  unfold OpAt
  rw [h0, h1]
  exact h
