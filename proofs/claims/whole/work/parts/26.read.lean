/-! reading an operation off the wire -/
def ascP (l : List Int32) (i : Nat) : Prop := ∀ k, 6 ≤ k → k < i → isIdP (ob l k) ∧ ¬ ob l k ≤ (if k = 6 then 0 else ob l (k - 1))
def wfP (l : List Int32) : Prop := (6 ≤ l.length ∧ ¬ 6 < ob l 5 ∧ nI l.length = 6 + ob l 5) ∧ ascP l l.length ∧ isIdP (ob l 0) ∧ spP (ob l 1) (ob l 2) (ob l 3) (ob l 4)
theorem ascP_lt {l : List Int32} {i : Nat} (h : ascP l i) : ∀ k j, 6 ≤ k → k < j → j < i → ob l k < ob l j := by
  intro k j hk hkj hj
  induction j with
  | zero => omega
  | succ j ih =>
    have h1 := (h (j + 1) (by omega) hj).2
    rw [if_neg (by omega), Nat.add_sub_cancel] at h1
    have h2 := Int32.not_le.mp h1
    by_cases e : k = j
    · rw [e]; exact h2
    · have h3 := ih (by omega) (by omega)
      rw [Int32.lt_iff_toInt_lt] at h2 h3 ⊢
      omega
theorem mkO_drop {l : List Int32} (h6 : 6 ≤ l.length) (h5 : ob l 5 = nI (l.length - 6)) : mkO (ob l 0) (ob l 1) (ob l 2) (ob l 3) (ob l 4) (l.drop 6) = l := by
  apply ob_ext
  · rw [mkO_len, List.length_drop]; omega
  · intro k hk
    rw [mkO_len, List.length_drop] at hk
    by_cases hk6 : 6 ≤ k
    · obtain ⟨j, rfl⟩ : ∃ j, k = 6 + j := ⟨k - 6, by omega⟩
      rw [ob_mk6]
      unfold ob
      rw [List.getD_eq_getElem?_getD, List.getD_eq_getElem?_getD, List.getElem?_drop]
    · have : k = 0 ∨ k = 1 ∨ k = 2 ∨ k = 3 ∨ k = 4 ∨ k = 5 := by omega
      rcases this with h | h | h | h | h | h <;> subst h <;> try rfl
      rw [ob_mk5, List.length_drop, h5]
section SRD
variable {d : Nat} {w : mW} {Q : Int32 → mW → Prop} {a q : Nat} {l : List Int32}
theorem take_snoc {l : List Int32} {i : Nat} (h : 6 ≤ i) (hi : i < l.length) : (l.drop 6).take (i - 6) ++ [ob l i] = (l.drop 6).take (i + 1 - 6) := by
  have e : i + 1 - 6 = (i - 6) + 1 := by omega
  rw [e, List.take_succ]
  congr 1
  rw [List.getElem?_drop, show 6 + (i - 6) = i by omega, List.getElem?_eq_getElem hi]
  unfold ob
  rw [List.getD_eq_getElem?_getD, List.getElem?_eq_getElem hi]
  rfl
theorem s_Wi_readInto (hS : WSh w a) (hW : WiAt w a l) (hSq : OSh w q) (hne : a ≠ q ∧ a + 1 ≠ q ∧ a ≠ q + 1) (hQ : ∀ r w', mFr (fun z => z = q ∨ z = q + 1) w w' → (r = 0 ∧ ¬ wfP l) ∨ (r = 1 ∧ wfP l ∧ OpAt w' q l) → Q r w') : mC (d + 3) m_Wi_readInto [.ref a, .ref q] w Q := by
  have hS0 := hS
  have hW0 := hW
  obtain ⟨a0, t1, p0, t2, l2⟩ := hS
  obtain ⟨h1, h2, h3⟩ := hW
  have c0 : (0 : Int32).toNatClampNeg = 0 := by decide
  have c1 : (1 : Int32).toNatClampNeg = 1 := by decide
  have c2 : (2 : Int32).toNatClampNeg = 2 := by decide
  have c3 : (3 : Int32).toNatClampNeg = 3 := by decide
  have c4 : (4 : Int32).toNatClampNeg = 4 := by decide
  have c5 : (5 : Int32).toNatClampNeg = 5 := by decide
  have vin : ∀ k, k < 16 → vp_in (nI k) 16 := fun k hk => vp_in_nI hk (by omega)
  have no : ¬ wfP l → Q 0 w := fun z => hQ 0 w (mFr.rf _ w) (Or.inl ⟨rfl, z⟩)
  refine e_Wi_readInto ⟨t1, ?_⟩
  rw [h2]
  refine by_if (fun e => no (fun z => ?_)) (fun e => ?_)
  · have e' : nI l.length < nI 6 := e
    rw [nI_ltI (by omega) (by omega)] at e'
    have := z.1.1
    omega
  have e6 : 6 ≤ l.length := by
    have e' : ¬ nI l.length < nI 6 := e
    rw [nI_ltI (by omega) (by omega)] at e'
    omega
  rw [p0, c0, c1, c2, c3, c4, c5, h3 0 (by omega), h3 1 (by omega), h3 2 (by omega), h3 3 (by omega), h3 4 (by omega), h3 5 (by omega)]
  refine ⟨by omega, t2, by rw [l2]; exact vin 5 (by omega), by_if (fun g => no (fun z => z.1.2.1 g)) (fun gg6 => by_if (fun g2 => ?_) (fun g2 => no (fun z => g2 z.1.2.2)))⟩
  have h5 : ob l 5 = nI (l.length - 6) := by
    have e1 : nI l.length = nI 6 + nI (l.length - 6) := by rw [nI_add]; congr 1; omega
    have e2 : nI 6 + nI (l.length - 6) = nI 6 + ob l 5 := e1.symm.trans g2
    exact ((Int32.add_right_inj (nI 6)).mp e2).symm
  refine ⟨by rw [l2]; exact vin 0 (by omega), by rw [l2]; exact vin 1 (by omega), by rw [l2]; exact vin 2 (by omega), by rw [l2]; exact vin 3 (by omega), by rw [l2]; exact vin 4 (by omega), hSq.2.1, s_Op_begin hSq ?_⟩
  have loop : ∀ j i w1, i + j = l.length → 6 ≤ i → mFr (fun z => z = q ∨ z = q + 1) w w1 → ascP l i → OpAt w1 q (mkO (ob l 0) (ob l 1) (ob l 2) (ob l 3) (ob l 4) ((l.drop 6).take (i - 6))) → mG (d + 3) m_Wi_readInto (0, 0) 77 [vR a, vR q, vI (if i = 6 then 0 else ob l (i - 1)), vI (nI i)] [] w1 Q := by
    intro j
    induction j with
    | zero =>
      intro i w1 hi hi6 hf ha hO
      have ei : i = l.length := by omega
      subst ei
      have hl : (l.drop 6).take (l.length - 6) = l.drop 6 := by
        rw [List.take_of_length_le]; rw [List.length_drop]; omega
      rw [hl, mkO_drop e6 h5] at hO
      have q1 := hSq.of hf.1
      have w1a : mI w1 a = mI w a := hf.2 a (by omega)
      refine b_Wi_readInto_77 ?_
      rw [hf.1.T, w1a, h2, if_pos (nI_le (by omega) (by omega)), hO.2.2.1.1]
      refine ⟨t1, q1.2.1, s_Do_isId (bI_ite (fun g => hQ 0 w1 hf (Or.inl ⟨rfl, fun z => g z.2.2.1⟩)) (fun g => ⟨q1.2.1, s_Op_hasSoundParts q1 hO (bI_ite (fun g3 => hQ 0 w1 hf (Or.inl ⟨rfl, fun z => g3 z.2.2.2⟩)) (fun g3 => hQ 1 w1 hf (Or.inr ⟨rfl, ⟨⟨e6, gg6, g2⟩, ha, g, g3⟩, hO⟩)))⟩))⟩
    | succ j ih =>
      intro i w1 hi hi6 hf ha hO
      have q1 := hSq.of hf.1
      have w1a : mI w1 a = mI w a := hf.2 a (by omega)
      have w1b : mI w1 (a + 1) = mI w (a + 1) := hf.2 (a + 1) (by omega)
      refine b_Wi_readInto_77 ?_
      rw [hf.1.T, w1a, h2, if_neg (nI_ge (by omega) (by omega)), hf.1.P, p0, hf.1.T, hf.1.L, w1b, nI_clamp (by omega), h3 i (by omega), nI_1]
      have hbs : ((l.drop 6).take (i - 6)).length = i - 6 := by rw [List.length_take, List.length_drop]; omega
      refine ⟨t1, by omega, t2, by rw [l2]; exact vin i (by omega), s_Do_isId (bI_ite (fun g => hQ 0 w1 hf (Or.inl ⟨rfl, fun z => g (z.2.1 i hi6 (by omega)).1⟩)) (fun g => ?_))⟩
      rw [hf.1.T, hf.1.P, p0, hf.1.T, hf.1.L, w1b, h3 i (by omega)]
      refine ⟨t1, by omega, t2, by rw [l2]; exact vin i (by omega), ?_⟩
      refine by_if (fun g3 => hQ 0 w1 hf (Or.inl ⟨rfl, fun z => (z.2.1 i hi6 (by omega)).2 g3⟩)) (fun g3 => ⟨q1.2.1, s_Op_addBefore q1 hO (fun g4 => ?_) (fun p w2 g4 g5 g6 g7 g8 g9 => ?_)⟩)
      · rw [hbs] at g4
        exfalso
        have : ¬ nI 6 < ob l 5 := gg6
        rw [h5, nI_ltI (by omega) (by omega)] at this
        omega
      · rw [if_neg (by decide)]
        have hf2 : mFr (fun z => z = q ∨ z = q + 1) w w2 := hf.tr g8
        have w2b : mI w2 (a + 1) = mI w (a + 1) := hf2.2 (a + 1) (by omega)
        have ha1 : ascP l (i + 1) := by
          intro k hk1 hk2
          by_cases e : k = i
          · rw [e]; exact ⟨g, g3⟩
          · exact ha k hk1 (by omega)
        have hp : p = i - 6 := by
          rw [hbs] at g5 g7
          by_cases e : p = i - 6
          · exact e
          · have g7' := g7 p (Nat.le_refl _) (by omega)
            have e1 : ((l.drop 6).take (i - 6)).getD p 0 = ob l (6 + p) := by
              rw [List.getD_eq_getElem?_getD, List.getElem?_take_of_lt (by omega), List.getElem?_drop]
              unfold ob
              rw [List.getD_eq_getElem?_getD]
            rw [e1] at g7'
            have g10 := ascP_lt ha1 (6 + p) i (by omega) (by omega) (by omega)
            rw [Int32.lt_iff_toInt_lt] at g7' g10
            omega
        have hins : insP ((l.drop 6).take (i - 6)) p (ob l i) = (l.drop 6).take (i + 1 - 6) := by
          rw [← take_snoc hi6 (by omega)]
          generalize (l.drop 6).take (i - 6) = bs at hbs
          unfold insP
          rw [List.take_of_length_le (by omega), List.drop_eq_nil_of_le (by omega)]
        rw [hins] at g9
        rw [hf2.1.T, hf2.1.P, p0, hf2.1.T, hf2.1.L, w2b, h3 i (by omega)]
        refine ⟨t1, by omega, t2, by rw [l2]; exact vin i (by omega), ?_⟩
        have := ih (i + 1) w2 (by omega) (by omega) hf2 ha1 g9
        rw [if_neg (by omega), Nat.add_sub_cancel] at this
        exact this
  have h0 := loop (l.length - 6) 6 _ (by omega) (Nat.le_refl _) ((begW_fr w q (ob l 0) (ob l 1) (ob l 2) (ob l 3) (ob l 4)).to (fun z hz => Or.inl hz)) (fun k hk1 hk2 => by omega) (by
    rw [Nat.sub_self, List.take_zero]
    exact begW_op w q (ob l 0) (ob l 1) (ob l 2) (ob l 3) (ob l 4))
  rw [if_pos rfl] at h0
  exact h0
end SRD
