/-! contracts: the statics, and Operation -/
section SOP
variable {d : Nat} {w : mW} {Q : Int32 → mW → Prop} {q : Nat} {o : mO} {x : Int32}
def isR (x : Int32) : Prop := ¬ x < 0 ∧ ¬ (3 : Int32) ≤ x
def isKy (x : Int32) : Prop := ¬ x < 0 ∧ ¬ (4 : Int32) ≤ x
def isIdP (x : Int32) : Prop := ¬ (x >>> ((2 : Int32) &&& 31)) < 1 ∧ ¬ (40 : Int32) < (x >>> ((2 : Int32) &&& 31)) ∧ isR (x &&& 3)
theorem s_Do_isReplica (hQ : Q (bI (isR x)) w) : mC d m_Do_isReplica [.int x] w Q := by
  refine e_Do_isReplica ?_
  refine by_if (fun h => bI_Q0 hQ (fun z => z.1 h)) (fun h => by_if (fun h2 => bI_Q0 hQ (fun z => z.2 h2)) (fun h2 => bI_Q1 hQ ⟨h, h2⟩))
theorem s_Do_isKey (hQ : Q (bI (isKy x)) w) : mC d m_Do_isKey [.int x] w Q := by
  refine e_Do_isKey ?_
  refine by_if (fun h => bI_Q0 hQ (fun z => z.1 h)) (fun h => by_if (fun h2 => bI_Q0 hQ (fun z => z.2 h2)) (fun h2 => bI_Q1 hQ ⟨h, h2⟩))
theorem s_Do_isId (hQ : Q (bI (isIdP x)) w) : mC (d + 1) m_Do_isId [.int x] w Q := by
  refine e_Do_isId ?_
  refine by_if (fun h => bI_Q0 hQ (fun z => z.1 h)) (fun h => by_if (fun h2 => bI_Q0 hQ (fun z => z.2.1 h2)) (fun h2 => ?_))
  refine s_Do_isReplica ?_
  exact bI_ite (fun h3 => bI_Q0 hQ (fun z => h3 z.2.2)) (fun h3 => bI_Q1 hQ ⟨h, h2, h3⟩)
theorem s_Op_hasBefore (hS : OSh w q) (hO : OpAt w q o) (hQ : Q (bI (hb o x)) w) : mC d m_Op_hasBefore [.ref q, .int x] w Q := by
  obtain ⟨n0, t1, p0, t2, l2⟩ := hS
  obtain ⟨o1, o3, -, o4⟩ := hO
  have loop : ∀ j k, k + j = o.length - 6 → (∀ i, i < k → ob o (6 + i) ≠ x) → mG d m_Op_hasBefore (0, 0) 2 [vR q, vI x, vI (nI k)] [] w Q := by
    intro j
    induction j with
    | zero =>
      intro k hk hn
      refine b_Op_hasBefore_2 ⟨t1, ?_⟩
      rw [o3, if_pos (nI_le (by omega) (by omega))]
      refine bI_Q0 hQ ?_
      rintro ⟨i, hi, he⟩
      exact hn i (by omega) he
    | succ j ih =>
      intro k hk hn
      refine b_Op_hasBefore_2 ⟨t1, ?_⟩
      rw [o3, if_neg (nI_ge (by omega) (by omega)), p0]
      refine ⟨by omega, t2, by rw [l2]; exact vp_in_nI (by omega) (by omega), ?_⟩
      rw [nI_clamp (by omega), o4 k (by omega), nI_1]
      refine by_if (fun e => bI_Q1 hQ ⟨k, by omega, e⟩) (fun e => ih (k + 1) (by omega) (fun i hi => ?_))
      by_cases hik : i = k
      · rw [hik]; exact e
      · exact hn i (by omega)
  have h0 := loop _ 0 (Nat.zero_add _) (fun i hi => by omega)
  rw [nI_0] at h0
  exact e_Op_hasBefore h0
/-- kinds that write to a map -/
def wmP (k : Int32) : Prop := k = 0 ∨ k = 1 ∨ k = 2 ∨ k = 5
theorem s_Op_writesToMap (hS : OSh w q) (hO : OpAt w q o) (hQ : Q (bI (wmP (ob o 1))) w) : mC d m_Op_writesToMap [.ref q] w Q := by
  obtain ⟨-, -, ⟨-, k3, -⟩, -⟩ := hO
  refine e_Op_writesToMap ⟨hS.2.1, ?_⟩
  rw [k3]
  refine by_if (fun h => bI_Q1 hQ (Or.inl h)) (fun h0 => by_if (fun h => bI_Q1 hQ (Or.inr (Or.inl h))) (fun h1 => by_if (fun h => bI_Q1 hQ (Or.inr (Or.inr (Or.inl h)))) (fun h2 => by_if (fun h => bI_Q1 hQ (Or.inr (Or.inr (Or.inr h)))) (fun h3 => bI_Q0 hQ ?_))))
  rintro (h | h | h | h)
  · exact h0 h
  · exact h1 h
  · exact h2 h
  · exact h3 h
def nmP (o : mO) (x : Int32) : Prop := x ≠ 0 ∧ (ob o 2 = x ∨ (ob o 1 = 3 ∧ ob o 3 = x))
theorem s_Op_names (hS : OSh w q) (hO : OpAt w q o) (hQ : Q (bI (nmP o x)) w) : mC d m_Op_names [.ref q, .int x] w Q := by
  obtain ⟨-, -, ⟨-, k3, k4, k5, -⟩, -⟩ := hO
  refine e_Op_names ?_
  rw [k3, k4, k5]
  refine by_if (fun h => bI_Q0 hQ (fun z => z.1 h)) (fun h0 => ⟨hS.2.1, by_if (fun h => bI_Q1 hQ ⟨h0, Or.inl h⟩) (fun h1 => by_if (fun h2 => by_if (fun h3 => bI_Q1 hQ ⟨h0, Or.inr ⟨h2, h3⟩⟩) (fun h3 => bI_Q0 hQ ?_)) (fun h2 => bI_Q0 hQ ?_))⟩)
  · rintro ⟨-, h | ⟨-, h⟩⟩
    · exact h1 h
    · exact h3 h
  · rintro ⟨-, h | ⟨h, -⟩⟩
    · exact h1 h
    · exact h2 h
def gapP (o : mO) : Prop := (ob o 2 = 0 ∨ hb o (ob o 2)) ∧ (ob o 1 = 3 → ob o 3 = 0 ∨ hb o (ob o 3))
theorem s_Op_namesOnlyBefore (hS : OSh w q) (hO : OpAt w q o) (hQ : Q (bI (gapP o)) w) : mC (d + 1) m_Op_namesOnlyBefore [.ref q] w Q := by
  have hO' := hO
  obtain ⟨-, -, ⟨-, k3, k4, k5, -⟩, -⟩ := hO
  have t := hS.2.1
  have last : ∀ y : Int32, (y = 0 ↔ ¬ (ob o 1 = 3 ∧ ob o 3 ≠ 0)) → (ob o 2 = 0 ∨ hb o (ob o 2)) → mG (d + 1) m_Op_namesOnlyBefore (0, 0) 39 [vR q, vI y] [] w Q := by
    intro y hy h2
    refine b_Op_namesOnlyBefore_39 ?_
    rw [k5]
    refine by_if (fun h => bI_Q1 hQ ⟨h2, fun e => ?_⟩) (fun h => ⟨t, s_Op_hasBefore hS hO' ?_⟩)
    · by_cases h3 : ob o 3 = 0
      · exact Or.inl h3
      · exact absurd ⟨e, h3⟩ (hy.mp h)
    · refine bI_ite (fun h4 => bI_Q0 hQ (fun z => ?_)) (fun h4 => bI_Q1 hQ ⟨h2, fun _ => Or.inr h4⟩)
      by_cases h5 : ob o 1 = 3 ∧ ob o 3 ≠ 0
      · rcases z.2 h5.1 with e | e
        · exact h5.2 e
        · exact h4 e
      · exact h (hy.mpr h5)
  have mid : ∀ y : Int32, (y = 0 ↔ ¬ (ob o 1 = 3 ∧ ob o 3 ≠ 0)) → mG (d + 1) m_Op_namesOnlyBefore (0, 0) 20 [vR q, vN] [.int y] w Q := by
    intro y hy
    refine b_Op_namesOnlyBefore_20 ⟨t, ?_⟩
    rw [k4]
    refine by_if (fun h => last y hy (Or.inl h)) (fun h => s_Op_hasBefore hS hO' ?_)
    refine bI_ite (fun h4 => bI_Q0 hQ (fun z => ?_)) (fun h4 => last y hy (Or.inr h4))
    rcases z.1 with e | e
    · exact h e
    · exact h4 e
  refine e_Op_namesOnlyBefore ⟨t, ?_⟩
  rw [k3, k5]
  refine by_if (fun h => by_if (fun h3 => mid 0 ?_) (fun h3 => mid 1 ?_)) (fun h => mid 0 ?_)
  · simp [h3]
  · simp [h, h3]
  · simp [h]
/-- BEFORE stands below x -/
def behP (o : mO) (x : Int32) : Prop := ∀ k, k < o.length - 6 → ob o (6 + k) < x
theorem s_Op_isBehindBefore (hS : OSh w q) (hO : OpAt w q o) (hQ : Q (bI (behP o (ob o 0))) w) : mC d m_Op_isBehindBefore [.ref q] w Q := by
  obtain ⟨n0, t1, p0, t2, l2⟩ := hS
  obtain ⟨o1, o3, ⟨k2, -⟩, o4⟩ := hO
  have loop : ∀ j k, k + j = o.length - 6 → (∀ i, i < k → ob o (6 + i) < ob o 0) → mG d m_Op_isBehindBefore (0, 0) 2 [vR q, vI (nI k)] [] w Q := by
    intro j
    induction j with
    | zero =>
      intro k hk hn
      refine b_Op_isBehindBefore_2 ⟨t1, ?_⟩
      rw [o3, if_pos (nI_le (by omega) (by omega))]
      exact bI_Q1 hQ (fun i hi => hn i (by omega))
    | succ j ih =>
      intro k hk hn
      refine b_Op_isBehindBefore_2 ⟨t1, ?_⟩
      rw [o3, if_neg (nI_ge (by omega) (by omega)), p0]
      refine ⟨by omega, t2, by rw [l2]; exact vp_in_nI (by omega) (by omega), ?_⟩
      rw [nI_clamp (by omega), o4 k (by omega), nI_1, k2]
      refine by_if (fun e => ih (k + 1) (by omega) (fun i hi => ?_)) (fun e => bI_Q0 hQ (fun z => e (z k (by omega))))
      by_cases hik : i = k
      · rw [hik]; exact e
      · exact hn i (by omega)
  have h0 := loop _ 0 (Nat.zero_add _) (fun i hi => by omega)
  rw [nI_0] at h0
  exact e_Op_isBehindBefore h0
def svP (k v : Int32) : Prop := ¬ v < 0 ∧ ¬ (if k = 0 ∨ k = 3 then (99 : Int32) else 0) < v
theorem s_Op_hasSoundValue (hS : OSh w q) (hO : OpAt w q o) (hQ : Q (bI (svP (ob o 1) (ob o 4))) w) : mC d m_Op_hasSoundValue [.ref q] w Q := by
  obtain ⟨-, -, ⟨-, k3, -, -, k6⟩, -⟩ := hO
  have t := hS.2.1
  have last : ∀ y : Int32, y = (if ob o 1 = 0 ∨ ob o 1 = 3 then (99 : Int32) else 0) → mG d m_Op_hasSoundValue (0, 0) 21 [vR q, vN] [.int y] w Q := by
    intro y hy
    refine b_Op_hasSoundValue_21 ⟨t, ?_⟩
    rw [k6]
    refine by_if (fun h => bI_Q0 hQ (fun z => z.1 h)) (fun h => by_if (fun h2 => bI_Q0 hQ (fun z => z.2 (by rw [← hy]; exact h2))) (fun h2 => bI_Q1 hQ ⟨h, by rw [← hy]; exact h2⟩))
  refine e_Op_hasSoundValue ⟨t, ?_⟩
  rw [k3]
  refine by_if (fun h => last 99 ?_) (fun h => by_if (fun h2 => last 99 ?_) (fun h2 => last 0 ?_))
  · simp [h]
  · simp [h2]
  · simp [h, h2]
/-- kind, target, slot and value can stand together -/
def spP (k t s v : Int32) : Prop := (wmP k ∧ (t = 0 ∨ isIdP t) ∧ isKy s ∧ svP k v) ∨ (k = 3 ∧ isIdP t ∧ (s = 0 ∨ isIdP s) ∧ svP k v) ∨ (k = 4 ∧ isIdP t ∧ s = 0 ∧ svP k v)
theorem wmP_ne3 {k : Int32} (h : wmP k) : k ≠ 3 ∧ k ≠ 4 := by
  rcases h with h | h | h | h <;> (subst h; decide)
theorem s_Op_hasSoundParts (hS : OSh w q) (hO : OpAt w q o) (hQ : Q (bI (spP (ob o 1) (ob o 2) (ob o 3) (ob o 4))) w) : mC (d + 2) m_Op_hasSoundParts [.ref q] w Q := by
  have hO' := hO
  obtain ⟨-, -, ⟨-, k3, k4, k5, k6⟩, -⟩ := hO
  have t := hS.2.1
  have c24 : wmP (ob o 1) → (ob o 2 = 0 ∨ isIdP (ob o 2)) → mG (d + 2) m_Op_hasSoundParts (0, 0) 24 [vR q] [] w Q := by
    intro h1 h2
    have hn := wmP_ne3 h1
    refine b_Op_hasSoundParts_24 ⟨t, s_Do_isKey ?_⟩
    rw [k5]
    refine bI_ite (fun h => bI_Q0 hQ ?_) (fun h => ⟨t, s_Op_hasSoundValue hS hO' (bI_ite (fun h3 => bI_Q0 hQ ?_) (fun h3 => bI_Q1 hQ (Or.inl ⟨h1, h2, h, h3⟩)))⟩)
    · rintro (z | z | z)
      · exact h z.2.2.1
      · exact hn.1 z.1
      · exact hn.2 z.1
    · rintro (z | z | z)
      · exact h3 z.2.2.2
      · exact hn.1 z.1
      · exact hn.2 z.1
  have c82 : ob o 1 = 3 → isIdP (ob o 2) → (ob o 3 = 0 ∨ isIdP (ob o 3)) → mG (d + 2) m_Op_hasSoundParts (0, 0) 82 [vR q] [] w Q := by
    intro h1 h2 h3
    refine b_Op_hasSoundParts_82 ⟨t, s_Op_hasSoundValue hS hO' (bI_ite (fun h => bI_Q0 hQ ?_) (fun h => bI_Q1 hQ (Or.inr (Or.inl ⟨h1, h2, h3, h⟩))))⟩
    rintro (z | z | z)
    · exact (wmP_ne3 z.1).1 h1
    · exact h z.2.2.2
    · rw [h1] at z; exact absurd z.1 (by decide)
  refine e_Op_hasSoundParts ⟨t, s_Op_writesToMap hS hO' (bI_ite (fun h0 => ?_) (fun h0 => ?_))⟩
  · rw [k3, k4]
    refine ⟨t, by_if (fun h1 => s_Do_isId ?_) (fun h1 => by_if (fun h2 => s_Do_isId ?_) (fun h2 => bI_Q0 hQ ?_))⟩
    · rw [k5]
      refine bI_ite (fun h => bI_Q0 hQ ?_) (fun h => ⟨t, by_if (fun h2 => c82 h1 h (Or.inl h2)) (fun h2 => s_Do_isId (bI_ite (fun h3 => bI_Q0 hQ ?_) (fun h3 => c82 h1 h (Or.inr h3))))⟩)
      · rintro (z | z | z)
        · exact h0 z.1
        · exact h z.2.1
        · exact h z.2.1
      · rintro (z | z | z)
        · exact h0 z.1
        · rcases z.2.2.1 with e | e
          · exact h2 e
          · exact h3 e
        · rw [h1] at z; exact absurd z.1 (by decide)
    · rw [k5]
      refine bI_ite (fun h => bI_Q0 hQ ?_) (fun h => ⟨t, by_if (fun h3 => s_Op_hasSoundValue hS hO' (bI_ite (fun h4 => bI_Q0 hQ ?_) (fun h4 => bI_Q1 hQ (Or.inr (Or.inr ⟨h2, h, h3, h4⟩))))) (fun h3 => bI_Q0 hQ ?_)⟩)
      · rintro (z | z | z)
        · exact h0 z.1
        · exact h1 z.1
        · exact h z.2.1
      · rintro (z | z | z)
        · exact h0 z.1
        · exact h1 z.1
        · exact h4 z.2.2.2
      · rintro (z | z | z)
        · exact h0 z.1
        · exact h1 z.1
        · exact h3 z.2.2.1
    · rintro (z | z | z)
      · exact h0 z.1
      · exact h1 z.1
      · exact h2 z.1
  · rw [k4]
    refine ⟨t, by_if (fun h1 => c24 h0 (Or.inl h1)) (fun h1 => s_Do_isId (bI_ite (fun h => bI_Q0 hQ ?_) (fun h => c24 h0 (Or.inr h))))⟩
    rintro (z | z | z)
    · rcases z.2.1 with e | e
      · exact h1 e
      · exact h e
    · exact (wmP_ne3 h0).1 z.1
    · exact (wmP_ne3 h0).2 z.1
theorem ob_ext {o o' : mO} (hl : o.length = o'.length) (h : ∀ k, k < o.length → ob o k = ob o' k) : o = o' := by
  apply List.ext_getElem? 
  intro k
  by_cases hk : k < o.length
  · have h1 := h k hk
    unfold ob at h1
    rw [List.getD_eq_getElem?_getD, List.getD_eq_getElem?_getD] at h1
    rw [List.getElem?_eq_getElem hk, List.getElem?_eq_getElem (by omega)] at h1 ⊢
    simpa using h1
  · rw [List.getElem?_eq_none (by omega), List.getElem?_eq_none (by omega)]
theorem s_Op_hasSameBytesAs {q' : Nat} {o' : mO} (hS : OSh w q) (hS' : OSh w q') (hO : OpAt w q o) (hO' : OpAt w q' o') (h5 : ob o 5 = nI (o.length - 6)) (h5' : ob o' 5 = nI (o'.length - 6)) (hQ : Q (bI (o = o')) w) : mC d m_Op_hasSameBytesAs [.ref q, .ref q'] w Q := by
  obtain ⟨n0, t1, p0, t2, l2⟩ := hS
  obtain ⟨n0', t1', p0', t2', l2'⟩ := hS'
  obtain ⟨o1, o3, ⟨k2, k3, k4, k5, k6⟩, o4⟩ := hO
  obtain ⟨o1', o3', ⟨k2', k3', k4', k5', k6'⟩, o4'⟩ := hO'
  have loop : ∀ j k, o.length = o'.length → k + j = o.length - 6 → (∀ i, i < 6 + k → ob o i = ob o' i) → mG d m_Op_hasSameBytesAs (0, 0) 70 [vR q, vR q', vI (nI k)] [] w Q := by
    intro j
    induction j with
    | zero =>
      intro k hl hk hn
      refine b_Op_hasSameBytesAs_70 ⟨t1, ?_⟩
      rw [o3, if_pos (nI_le (by omega) (by omega))]
      exact bI_Q1 hQ (ob_ext hl (fun i hi => hn i (by omega)))
    | succ j ih =>
      intro k hl hk hn
      refine b_Op_hasSameBytesAs_70 ⟨t1, ?_⟩
      rw [o3, if_neg (nI_ge (by omega) (by omega)), p0, p0']
      refine ⟨by omega, t2, by rw [l2]; exact vp_in_nI (by omega) (by omega), t1', by omega, t2', by rw [l2']; exact vp_in_nI (by omega) (by omega), ?_⟩
      rw [nI_clamp (by omega), o4 k (by omega), o4' k (by omega), nI_1]
      refine by_if (fun e => ih (k + 1) hl (by omega) (fun i hi => ?_)) (fun e => bI_Q0 hQ (fun z => e (by rw [z])))
      by_cases hik : i = 6 + k
      · rw [hik]; exact e
      · exact hn i (by omega)
  have no : ∀ i, ob o i ≠ ob o' i → Q 0 w := fun i hi => bI_Q0 hQ (fun z => hi (by rw [z]))
  refine e_Op_hasSameBytesAs ⟨t1, t1', ?_⟩
  rw [o3, o3', k2, k2', k3, k3', k4, k4', k5, k5', k6, k6']
  refine by_if (fun e0 => by_if (fun e1 => by_if (fun e2 => by_if (fun e3 => by_if (fun e4 => by_if (fun e5 => ?_) (fun e => no 5 (by rw [h5, h5']; exact e))) (no 4)) (no 3)) (no 2)) (no 1)) (no 0)
  have hl : o.length = o'.length := by
    have := (nI_eq (by omega) (by omega)).mp e5
    omega
  have h0 := loop _ 0 hl (Nat.zero_add _) (fun i hi => by
    have : i = 0 ∨ i = 1 ∨ i = 2 ∨ i = 3 ∨ i = 4 ∨ i = 5 := by omega
    rcases this with h | h | h | h | h | h <;> subst h
    · exact e0
    · exact e1
    · exact e2
    · exact e3
    · exact e4
    · rw [h5, h5']; exact e5)
  rw [nI_0] at h0
  exact h0
end SOP
