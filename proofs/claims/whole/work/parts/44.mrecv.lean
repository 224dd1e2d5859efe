/-! the model: well-formedness, receiving -/
/-- bytes of one row change -/
def mBw (B s : Nat) (w w' : mW) : Prop := mSh w w' ∧ ∀ a q, ¬ (a = B + 1 ∧ s ≤ q ∧ q < s + 12) → mI w' a q = mI w a q
theorem mBw.rf (B s : Nat) (w : mW) : mBw B s w w := ⟨mSh.rf w, fun _ _ _ => rfl⟩
theorem mBw.wr {B s : Nat} {w w1 : mW} (h : mBw B s w w1) {k : Nat} (v : Int32) (hk : s ≤ k ∧ k < s + 12) : mBw B s w (wrI w1 (B + 1) k v) := by
  refine ⟨h.1.tr (mSh.wrI _ _ _ _), fun a q hq => ?_⟩
  rw [mI_wrI, if_neg (by omega)]
  exact h.2 a q hq
theorem mBw.ow {B s r : Nat} {w w1 : mW} (h : mBw B s w w1) (hs : 192 * r ≤ s ∧ s + 12 ≤ 192 * r + 192) : mOw B r w w1 := by
  refine ⟨h.1, fun a ha => ?_, h.2 _ _ (by omega), fun a k g1 g2 g3 => h.2 _ _ (by unfold own at g3; omega)⟩
  funext k
  exact h.2 _ _ (by omega)
section SMR
variable {d : Nat} {w : mW} {Q : Int32 → mW → Prop} {B r n h : Nat} {o : Nat → mO} {pi ro : Nat → Nat} {x y z : Int32} {l : List Int32}
theorem MV.add {w' : mW} {c : mO} (hV : MV w B r n h o pi ro) (hh : h < 16) (hc : okO c) (hd : ∀ p, p < h → ob (o p) 0 ≠ ob c 0) (hS : mSh w w') (e2 : mI w' (B + 2) r = nI (h + 1)) (e5 : mI w' (B + 5) r = mI w (B + 5) r) (e1 : ∀ j, j < h → ∀ f, f < 12 → mI w' (B + 1) (12 * (16 * r + j) + f) = mI w (B + 1) (12 * (16 * r + j) + f)) (e1' : ∀ f, f < c.length → mI w' (B + 1) (12 * (16 * r + h) + f) = ob c f) (e3 : ∀ j, j < h → mI w' (B + 3) (16 * r + j) = mI w (B + 3) (16 * r + j)) (e3' : mI w' (B + 3) (16 * r + h) = 0) (e4 : ∀ p, p < n → mI w' (B + 4) (16 * r + p) = mI w (B + 4) (16 * r + p)) :
    MV w' B r n (h + 1) (kpO o h c) (fun i => if i = h then h else pi i) (fun i => if i = h then h else ro i) := by
  have nh := hV.nh
  refine ⟨hV.sh.of hS, hV.r3, by omega, by omega, fun j hj => ?_, fun p hp => ?_, e2, e5.trans hV.lg, fun j hj f hf => ?_, fun j hj => ?_, fun p hp => ?_, fun p hp => ?_, fun p p' hp hp' e => ?_⟩
  · by_cases e : j = h
    · simp only [if_pos e]
      exact ⟨by omega, by rw [if_pos trivial]; exact e.symm⟩
    · have := hV.pi j (by omega)
      simp only [if_neg e]
      exact ⟨by omega, by rw [if_neg (by omega)]; exact this.2⟩
  · by_cases e : p = h
    · simp only [if_pos e]
      exact ⟨by omega, by rw [if_pos trivial]; exact e.symm⟩
    · have := hV.ro p (by omega)
      simp only [if_neg e]
      exact ⟨by omega, by rw [if_neg (by omega)]; exact this.2⟩
  · by_cases e : j = h
    · simp only [if_pos e] at hf ⊢
      have ec : kpO o h c h = c := by unfold kpO; rw [if_pos rfl]
      rw [ec] at hf ⊢
      rw [e]
      exact e1' f hf
    · have := hV.pi j (by omega)
      simp only [if_neg e] at hf ⊢
      have ec : kpO o h c (pi j) = o (pi j) := by unfold kpO; rw [if_neg (by omega)]
      rw [ec] at hf ⊢
      have := hV.l6 (j := j) (by omega)
      rw [e1 j (by omega) f (by omega)]
      exact hV.bt j (by omega) f hf
  · by_cases e : j = h
    · simp only [if_pos e]
      rw [e, e3', bI_f (by omega)]
    · simp only [if_neg e]
      rw [e3 j (by omega)]
      exact hV.ap j (by omega)
  · simp only [if_neg (show ¬ p = h by omega)]
    rw [e4 p hp]
    exact hV.od p hp
  · unfold kpO
    by_cases e : p = h
    · rw [if_pos e]; exact hc
    · rw [if_neg e]; exact hV.ok p (by omega)
  · unfold kpO at e
    by_cases g : p = h
    · by_cases g' : p' = h
      · omega
      · rw [if_pos g, if_neg g'] at e
        exact absurd e.symm (hd p' (by omega))
    · by_cases g' : p' = h
      · rw [if_neg g, if_pos g'] at e
        exact absurd e (hd p (by omega))
      · rw [if_neg g, if_neg g'] at e
        exact hV.uq p p' (by omega) (by omega) e
theorem s_Mo_wellFormed (hS : MSh w B) (hL : MLn w B l) (hn : nnL l) (hQ : Q (bI (wfP l)) w) : mC (d + 1) m_Mo_wellFormed [.ref B] w Q := by
  obtain ⟨b0, t, ⟨-, -, -, -, -, p5⟩, -, -, -, -, -, -, ⟨t6, l6⟩, -⟩ := hS
  obtain ⟨h1, h2, h3⟩ := hL
  refine e_Mo_wellFormed ⟨t, ?_⟩
  rw [h2]
  refine by_if (fun e => bI_Q0 hQ (fun z => ?_)) (fun e => ?_)
  · have e' : nI l.length < nI 6 := e
    rw [nI_ltI (by omega) (by omega)] at e'
    have := z.1.1
    omega
  have hl6 : 6 ≤ l.length := by
    have e' : ¬ nI l.length < nI 6 := e
    rw [nI_ltI (by omega) (by omega)] at e'
    omega
  rw [p5, show (5 : Int32).toNatClampNeg = 5 from rfl, h3 5 (by omega)]
  refine ⟨by omega, t6, by rw [l6]; exact vp_in_nI (n := 5) (by omega) (by omega), by_if (fun e5 => bI_Q0 hQ (fun z => z.1.2.1 e5)) (fun e5 => by_if (fun e6 => ⟨by rw [l6]; exact vp_in_nI (n := 0) (by omega) (by omega), ?_⟩) (fun e6 => bI_Q0 hQ (fun z => e6 z.1.2.2)))⟩
  rw [show (0 : Int32).toNatClampNeg = 0 from rfl, h3 0 (by omega)]
  refine s_Mo_isId (bI_ite (fun e7 => bI_Q0 hQ (fun z => e7 z.2.2.1)) (fun e7 => ?_))
  rw [p5, show (1 : Int32).toNatClampNeg = 1 from rfl, h3 1 (by omega)]
  refine ⟨t, by omega, t6, by rw [l6]; exact vp_in_nI (n := 1) (by omega) (by omega), by_if (fun e8 => ?_) (fun e8 => bI_Q0 hQ (fun z => e8 ?_))⟩
  rotate_left
  · rcases z.2.2.2 with ⟨z, -⟩ | ⟨z, -⟩ | ⟨z, -⟩
    · rcases z with z | z | z | z <;> rw [z] <;> decide
    · rw [z]; decide
    · rw [z]; decide
  have fin : ascP l l.length → ∀ y0, y0 = (if ob l 1 = 0 ∨ ob l 1 = 3 then (99 : Int32) else 0) → mG (d + 1) m_Mo_wellFormed (0, 0) 152 [vR B, vI (ob l 1), vN] [.int y0, .int (ob l 4)] w Q := by
    intro ha y0 hy
    have q1 : spP (ob l 1) (ob l 2) (ob l 3) (ob l 4) → Q 1 w := fun z => bI_Q1 hQ ⟨⟨hl6, e5, e6⟩, ha, e7, z⟩
    have q0 : ¬ spP (ob l 1) (ob l 2) (ob l 3) (ob l 4) → Q 0 w := fun z => bI_Q0 hQ (fun g => z g.2.2.2)
    have v2 : vp_in (2 : Int32) 16 := vp_in_nI (n := 2) (by omega) (by omega)
    have v3 : vp_in (3 : Int32) 16 := vp_in_nI (n := 3) (by omega) (by omega)
    refine b_Mo_wellFormed_152 ?_
    rw [p5, show (2 : Int32).toNatClampNeg = 2 from rfl, show (3 : Int32).toNatClampNeg = 3 from rfl, h3 2 (by omega), h3 3 (by omega), l6]
    refine by_if (fun g => ?_) (fun g => q0 (fun z => ?_))
    · have sv : svP (ob l 1) (ob l 4) := ⟨nn_ob hn 4, by rw [← hy]; exact Int32.not_lt.mpr g⟩
      refine by_if (fun k3 => ⟨t, by omega, t6, v2, s_Mo_isId (bI_ite (fun g2 => q0 (fun z => ?_)) (fun g2 => ?_))⟩) (fun k3 => by_if (fun k4 => ⟨t, by omega, t6, v2, s_Mo_isId (bI_ite (fun g2 => q0 (fun z => ?_)) (fun g2 => ?_))⟩) (fun k4 => ⟨t, by omega, t6, v2, ?_⟩))
      · rcases z with ⟨z, -⟩ | ⟨-, z, -⟩ | ⟨-, z, -⟩
        · exact (wmP_ne3 z).1 k3
        · exact g2 z
        · exact g2 z
      · rw [p5, h3 3 (by omega), l6]
        refine ⟨t, by omega, t6, v3, by_if (fun g3 => q1 (Or.inr (Or.inl ⟨k3, g2, Or.inl g3, sv⟩))) (fun g3 => s_Mo_isId (bI_ite (fun g4 => q0 (fun z => ?_)) (fun g4 => q1 (Or.inr (Or.inl ⟨k3, g2, Or.inr g4, sv⟩)))))⟩
        rcases z with ⟨z, -⟩ | ⟨-, -, z, -⟩ | ⟨z, -⟩
        · exact (wmP_ne3 z).1 k3
        · exact z.elim g3 g4
        · rw [k3] at z; exact absurd z (by decide)
      · rcases z with ⟨z, -⟩ | ⟨-, z, -⟩ | ⟨-, z, -⟩
        · exact (wmP_ne3 z).2 k4
        · exact g2 z
        · exact g2 z
      · rw [p5, h3 3 (by omega), l6]
        refine ⟨t, by omega, t6, v3, by_if (fun g3 => q1 (Or.inr (Or.inr ⟨k4, g2, g3, sv⟩))) (fun g3 => q0 (fun z => ?_))⟩
        rcases z with ⟨z, -⟩ | ⟨z, -⟩ | ⟨-, -, z, -⟩
        · exact (wmP_ne3 z).2 k4
        · exact k3 z
        · exact g3 z
      · have wm : wmP (ob l 1) := by
          obtain ⟨j, hj, ej⟩ := nI_of (nn_ob hn 1)
          rw [ej] at e8 k3 k4 ⊢
          have e9 : nI j ≤ nI 5 := e8
          rw [nI_leI hj (by omega)] at e9
          have k3' : ¬ nI j = nI 3 := k3
          have k4' : ¬ nI j = nI 4 := k4
          rw [nI_eq hj (by omega)] at k3' k4'
          rcases (by omega : j = 0 ∨ j = 1 ∨ j = 2 ∨ j = 5) with rfl | rfl | rfl | rfl
          · exact Or.inl rfl
          · exact Or.inr (Or.inl rfl)
          · exact Or.inr (Or.inr (Or.inl rfl))
          · exact Or.inr (Or.inr (Or.inr rfl))
        have ky : ¬ (3 : Int32) < ob l 3 ↔ isKy (ob l 3) := by
          obtain ⟨j, hj, ej⟩ := nI_of (nn_ob hn 3)
          rw [ej]
          show ¬ nI 3 < nI j ↔ ¬ nI j < 0 ∧ ¬ nI 4 ≤ nI j
          rw [nI_ltI (by omega) hj, nI_leI (by omega) hj]
          exact ⟨fun z => ⟨nI_pos hj, by omega⟩, fun z => by omega⟩
        have last : (ob l 2 = 0 ∨ isIdP (ob l 2)) → if (3 : Int32) < ob l 3 then Q (0 : Int32) w else Q (1 : Int32) w := by
          intro ht
          refine by_if (fun g3 => q0 (fun z => ?_)) (fun g3 => q1 (Or.inl ⟨wm, ht, ky.mp g3, sv⟩))
          rcases z with ⟨-, -, z, -⟩ | ⟨z, -⟩ | ⟨z, -⟩
          · exact ky.mpr z g3
          · exact k3 z
          · exact k4 z
        refine by_if (fun g2 => ⟨v3, last (Or.inl g2)⟩) (fun g2 => s_Mo_isId (bI_ite (fun g3 => q0 (fun z => ?_)) (fun g3 => ?_)))
        · rcases z with ⟨-, z, -⟩ | ⟨z, -⟩ | ⟨z, -⟩
          · exact z.elim g2 g3
          · exact k3 z
          · exact k4 z
        · rw [p5, h3 3 (by omega), l6]
          exact ⟨t, by omega, t6, v3, last (Or.inr g3)⟩
    · have sv : svP (ob l 1) (ob l 4) := by rcases z with ⟨-, -, -, z⟩ | ⟨-, -, -, z⟩ | ⟨-, -, -, z⟩ <;> exact z
      have := sv.2
      rw [← hy] at this
      exact g (Int32.not_lt.mp this)
  have loop : ∀ c k, 6 + k + c = l.length → ascP l (6 + k) → mG (d + 1) m_Mo_wellFormed (0, 0) 63 [vR B, vI (nI (6 + k)), vN] [] w Q := by
    intro c
    induction c with
    | zero =>
      intro k hk ha
      have ha' : ascP l l.length := by rw [show l.length = 6 + k by omega]; exact ha
      have v4 : vp_in (4 : Int32) 16 := vp_in_nI (n := 4) (by omega) (by omega)
      refine b_Mo_wellFormed_63 ?_
      rw [h2, if_pos (nI_le (by omega) (by omega)), p5, show (1 : Int32).toNatClampNeg = 1 from rfl, show (4 : Int32).toNatClampNeg = 4 from rfl, h3 1 (by omega), h3 4 (by omega), l6]
      have b130 : (ob l 1 = 0 ∨ ob l 1 = 3) → mG (d + 1) m_Mo_wellFormed (0, 0) 130 [vR B, vI (ob l 1), vN] [] w Q := by
        intro g
        refine b_Mo_wellFormed_130 ?_
        rw [p5, show (4 : Int32).toNatClampNeg = 4 from rfl, h3 4 (by omega), l6]
        exact ⟨t, by omega, t6, v4, fin ha' 99 (by rw [if_pos g])⟩
      exact ⟨t, by omega, t6, vp_in_nI (n := 1) (by omega) (by omega), by_if (fun g => b130 (Or.inl g)) (fun g => by_if (fun g2 => b130 (Or.inr g2)) (fun g2 => ⟨v4, fin ha' 0 (by rw [if_neg (fun z => z.elim g g2)])⟩))⟩
    | succ c ih =>
      intro k hk ha
      refine b_Mo_wellFormed_63 ?_
      rw [h2, if_neg (nI_ge (by omega) (by omega)), p5, nI_clamp (by omega), h3 (6 + k) (by omega), nI_1]
      have step : isIdP (ob l (6 + k)) → ¬ ob l (6 + k) ≤ (if 6 + k = 6 then 0 else ob l (6 + k - 1)) → mG (d + 1) m_Mo_wellFormed (0, 0) 63 [vR B, vI (nI (6 + k + 1)), vN] [] w Q := by
        intro g1 g2
        refine ih (k + 1) (by omega) (fun q q1 q2 => ?_)
        by_cases e : q = 6 + k
        · rw [e]; exact ⟨g1, g2⟩
        · exact ha q q1 (by omega)
      refine ⟨t, by omega, t6, by rw [l6]; exact vp_in_nI (by omega) (by omega), s_Mo_isId (bI_ite (fun g => bI_Q0 hQ (fun z => g (z.2.1 (6 + k) (by omega) (by omega)).1)) (fun g => by_if (fun g2 => step g ?_) (fun g2 => ?_)))⟩
      · have g3 : nI (6 + k) ≤ nI 6 := g2
        rw [nI_leI (by omega) (by omega)] at g3
        rw [if_pos (by omega)]
        obtain ⟨m, em, m1, m2, -⟩ := isIdP_of g
        rw [em]
        exact nI_nle (by omega) (by omega)
      · have g3 : ¬ nI (6 + k) ≤ nI 6 := g2
        rw [nI_leI (by omega) (by omega)] at g3
        have em : nI (6 + k) - 1 = nI (6 + k - 1) := by
          have := nI_pred (6 + k - 1)
          rw [show 6 + k - 1 + 1 = 6 + k by omega] at this
          exact this
        rw [p5, em, nI_clamp (by omega), h3 (6 + k) (by omega), h3 (6 + k - 1) (by omega), l6]
        refine ⟨t, by omega, t6, vp_in_nI (by omega) (by omega), vp_in_nI (by omega) (by omega), by_if (fun g4 => step g ?_) (fun g4 => bI_Q0 hQ (fun z => ?_))⟩
        · rw [if_neg (by omega)]
          exact Int32.not_le.mpr g4
        · have := (z.2.1 (6 + k) (by omega) (by omega)).2
          rw [if_neg (by omega)] at this
          exact g4 (Int32.not_le.mp this)
  exact loop (l.length - 6) 0 (by omega) (fun q q1 q2 => by omega)
end SMR
