/-! the class and the model side by side -/
def JS (w : mW) (a N : Nat) (cs : Nat → Int32) : Prop := mT w a = 30 ∧ mL w a = N ∧ mI w a = cs
def JM (w : mW) (b : Nat) (K : Nat → mS) (l : List Int32) : Prop := (∀ r, r < 3 → ∃ pi ro, MV w (b + 120) r (K r).1 (K r).2.1 (K r).2.2.1 pi ro) ∧ MLn w (b + 120) l
def JR (w : mW) (b a N : Nat) (cs : Nat → Int32) : Prop := ∃ K l, a < b ∧ JS w a N cs ∧ DR w b K l ∧ nnL l ∧ JM w b K l
/-- below the model nothing changes -/
def mLo (b : Nat) (w w' : mW) : Prop := mSh w w' ∧ ∀ z, z < b + 120 → mI w' z = mI w z
section SJ
variable {d : Nat} {w w' : mW} {Q : Int32 → mW → Prop} {G F : mW → Prop} {b a N : Nat} {cs : Nat → Int32} {K : Nat → mS} {l : List Int32} {x y z k m u : Int32}
theorem mSc.lo (h : mSc (b + 120) w w') : mLo b w w' := ⟨h.1.1, fun z hz => h.1.2 z (by unfold scr; omega)⟩
theorem mOw.lo {r : Nat} (h : mOw (b + 120) r w w') : mLo b w w' := ⟨h.1, fun z hz => h.2.1 z (by omega)⟩
theorem mFr.lo (h : mFr (fun a => a = b + 120 ∨ a = b + 120 + 6) w w') : mLo b w w' := ⟨h.1, fun z hz => h.2 z (by omega)⟩
theorem DR.lo (hD : DR w b K l) (h : mLo b w w') : DR w' b K l := by
  have hf : mFr (fun z => b + 120 ≤ z) w w' := ⟨h.1, fun a ha => h.2 a (by omega)⟩
  refine ⟨hD.1.of h.1, fun r hr => ⟨CSt.ofX (hD.2.1 r hr).1 hf.x (fun z h1 h2 h3 => ?_), (hD.2.1 r hr).2⟩, hD.2.2.of (h.2 _ (by omega)) (h.2 _ (by omega))⟩
  unfold rp at h1 h2
  omega
theorem JS.lo (hS : JS w a N cs) (hab : a < b) (h : mLo b w w') : JS w' a N cs := ⟨by rw [h.1.T]; exact hS.1, by rw [h.1.L]; exact hS.2.1, by rw [h.2 a (by omega)]; exact hS.2.2⟩
theorem JS.fx (hS : JS w a N cs) (hab : a < b) (h : mFx (inD b) w w') : JS w' a N cs := ⟨by rw [h.T]; exact hS.1, by rw [h.L]; exact hS.2.1, by rw [(h.2 a (by unfold inD; omega)).1]; exact hS.2.2⟩
theorem JM.fx (hM : JM w b K l) (h : mFx (inD b) w w') : JM w' b K l := by
  have e : ∀ q, b + 120 ≤ q → mI w' q = mI w q ∧ mP w' q = mP w q := fun q hq => h.2 q (by unfold inD; omega)
  have hP : ∀ k, mP w' (b + 120) k = mP w (b + 120) k := fun k => by rw [(e _ (by omega)).2]
  refine ⟨fun r hr => ?_, hM.2.of (by rw [(e _ (by omega)).1]) (e _ (by omega)).1⟩
  obtain ⟨pi, ro, hV⟩ := hM.1 r hr
  refine ⟨pi, ro, ?_, hV.r3, hV.nh, hV.h16, hV.pi, hV.ro, ?_, ?_, ?_, ?_, ?_, hV.ok, hV.uq⟩
  · have hS := hV.sh
    unfold MSh at hS ⊢
    simp only [h.T, h.L, hP]
    exact hS
  · rw [(e _ (by omega)).1]; exact hV.hd
  · rw [(e _ (by omega)).1]; exact hV.lg
  · rw [(e _ (by omega)).1]; exact hV.bt
  · rw [(e _ (by omega)).1]; exact hV.ap
  · rw [(e _ (by omega)).1]; exact hV.od
theorem JM.sc (hM : JM w b K l) (h : mSc (b + 120) w w') : JM w' b K l := by
  refine ⟨fun r hr => ?_, hM.2.of h.2 (h.1.2 _ (by unfold scr; omega))⟩
  obtain ⟨pi, ro, hV⟩ := hM.1 r hr
  exact ⟨pi, ro, hV.of h.1⟩
theorem JM.t (hM : JM w b K l) : MSh w (b + 120) := by
  obtain ⟨pi, ro, hV⟩ := hM.1 0 (by omega)
  exact hV.sh
theorem JM.ln {l' : List Int32} (hM : JM w b K l) (h : mFr (fun a => a = b + 120 ∨ a = b + 120 + 6) w w') (hL : MLn w' (b + 120) l') : JM w' b K l' := by
  refine ⟨fun r hr => ?_, hL⟩
  obtain ⟨pi, ro, hV⟩ := hM.1 r hr
  exact ⟨pi, ro, hV.of5 h.1 (fun q h1 h2 => h.2 _ (by omega))⟩
/-- one replica goes on -/
theorem JM.ow {r n' h' : Nat} {o' : Nat → mO} {pm' : Nat → Int32} {ft' : Nat → Prop} {sg' pi' ro' : Nat → Nat} (hr : r < 3) (hM : JM w b K l) (h : mOw (b + 120) r w w') (hV' : MV w' (b + 120) r n' h' o' pi' ro') : JM w' b (upP K r (n', h', o', pm', ft', sg')) l := by
  refine ⟨fun q hq => ?_, hM.2.of h.2.2.1 (h.2.1 _ (by omega))⟩
  by_cases e : q = r
  · rw [e]
    have : upP K r (n', h', o', pm', ft', sg') r = (n', h', o', pm', ft', sg') := if_pos rfl
    rw [this]
    exact ⟨pi', ro', hV'⟩
  · have : upP K r (n', h', o', pm', ft', sg') q = K q := if_neg e
    rw [this]
    obtain ⟨pi, ro, hV⟩ := hM.1 q hq
    exact ⟨pi, ro, hV.ow hr e h⟩
/-- what a case of law needs after the class's call -/
def PF (d : Nat) (G F : mW → Prop) (b a N : Nat) (cs : Nat → Int32) (μ : mM) (as : List Value) (r1 : Int32) (w1 : mW) : Prop := JS w1 a N cs ∧ mT w1 (b + 120) = 6 ∧ mC (d + 6) μ (.ref (b + 120) :: as) w1 (fun r2 w2 => if r1 = r2 then G w2 else F w2)
theorem ok2 {r : Int32} (h : G w) : if r = r then G w else F w := by rw [if_pos rfl]; exact h
theorem j_held (h : JR w b a N cs) (hG : ∀ w', JR w' b a N cs → G w') : mC (d + 6) m_Do_held [.ref b, .int x] w (PF d G F b a N cs m_Mo_held [.int x]) := by
  have h0 := h
  obtain ⟨K, l, hab, hS, hD, hn, hM⟩ := h
  refine s_Do_held hD (fun e => ⟨hS, hM.t.2.1, e_Mo_held (s_Mo_isReplica (bI_ite (fun _ => ok2 (hG w h0)) (fun e2 => absurd e2 e)))⟩) (fun r hr hx => ?_)
  subst hx
  obtain ⟨pi, ro, hV⟩ := hM.1 r hr
  exact ⟨hS, hM.t.2.1, s_Mo_held hV (ok2 (hG w h0))⟩
theorem JR.sc {w1 : mW} (hab : a < b) (hS : JS w a N cs) (hD : DR w b K l) (hn : nnL l) (hM : JM w b K l) (h : mSc (b + 120) w w1) : JR w1 b a N cs := ⟨K, l, hab, hS.lo hab h.lo, hD.lo h.lo, hn, hM.sc h⟩
theorem j_heads (h : JR w b a N cs) (hG : ∀ w', JR w' b a N cs → G w') : mC (d + 6) m_Do_heads [.ref b, .int x] w (PF d G F b a N cs m_Mo_heads [.int x]) := by
  have h0 := h
  obtain ⟨K, l, hab, hS, hD, hn, hM⟩ := h
  refine s_Do_heads hD (fun e => ⟨hS, hM.t.2.1, e_Mo_heads (s_Mo_isReplica (bI_ite (fun _ => ok2 (hG w h0)) (fun e2 => absurd e2 e)))⟩) (fun r hr hx => ?_)
  subst hx
  obtain ⟨pi, ro, hV⟩ := hM.1 r hr
  exact ⟨hS, hM.t.2.1, s_Mo_heads hV (fun w1 s1 => ok2 (hG w1 (JR.sc hab hS hD hn hM s1)))⟩
theorem j_log (h : JR w b a N cs) (hG : ∀ w', JR w' b a N cs → G w') : mC (d + 6) m_Do_log [.ref b, .int x, .int k] w (PF d G F b a N cs m_Mo_log [.int x, .int k]) := by
  have h0 := h
  obtain ⟨K, l, hab, hS, hD, hn, hM⟩ := h
  refine s_Do_log hD (fun e => ⟨hS, hM.t.2.1, e_Mo_log (s_Mo_isReplica (bI_ite (fun _ => ok2 (hG w h0)) (fun e2 => absurd e2 e)))⟩) (fun r hr hx => ?_)
  subst hx
  obtain ⟨pi, ro, hV⟩ := hM.1 r hr
  exact ⟨hS, hM.t.2.1, s_Mo_log hV (fun w1 s1 => ok2 (hG w1 (JR.sc hab hS hD hn hM s1)))⟩
theorem j_value (h : JR w b a N cs) (hG : ∀ w', JR w' b a N cs → G w') : mC (d + 6) m_Do_value [.ref b, .int x, .int y] w (PF d G F b a N cs m_Mo_value [.int x, .int y]) := by
  have h0 := h
  obtain ⟨K, l, hab, hS, hD, hn, hM⟩ := h
  refine s_Do_value hD (fun e => ⟨hS, hM.t.2.1, e_Mo_value (s_Mo_isReplica (bI_ite (fun _ => ok2 (hG w h0)) (fun e2 => absurd e2 e)))⟩) (fun r hr hx v hv => ?_)
  subst hx
  obtain ⟨pi, ro, hV⟩ := hM.1 r hr
  exact ⟨hS, hM.t.2.1, s_Mo_value hV hv (fun w1 s1 => ok2 (hG w1 (JR.sc hab hS hD hn hM s1)))⟩
theorem j_past (h : JR w b a N cs) (hG : ∀ w', JR w' b a N cs → G w') : mC (d + 6) m_Do_past [.ref b, .int x, .int y, .int z] w (PF d G F b a N cs m_Mo_past [.int x, .int y, .int z]) := by
  have h0 := h
  obtain ⟨K, l, hab, hS, hD, hn, hM⟩ := h
  refine s_Do_past hD (fun e => ⟨hS, hM.t.2.1, e_Mo_past (s_Mo_isReplica (bI_ite (fun _ => ok2 (hG w h0)) (fun e2 => absurd e2 e)))⟩) (fun r hr hx => ?_)
  subst hx
  obtain ⟨pi, ro, hV⟩ := hM.1 r hr
  have hC := hD.2.1 r hr
  exact ⟨hS, hM.t.2.1, s_Mo_past hV hC.2.2.1 hC.1.2.1 hC.1.2.2.1 (fun w1 s1 => ok2 (hG w1 (JR.sc hab hS hD hn hM s1)))⟩
theorem j_depth (h : JR w b a N cs) (hG : ∀ w', JR w' b a N cs → G w') : mC (d + 6) m_Do_depth [.ref b, .int x, .int y] w (PF d G F b a N cs m_Mo_depth [.int x, .int y]) := by
  have h0 := h
  obtain ⟨K, l, hab, hS, hD, hn, hM⟩ := h
  refine s_Do_depth hD (fun e => ⟨hS, hM.t.2.1, e_Mo_depth (s_Mo_isReplica (bI_ite (fun _ => ok2 (hG w h0)) (fun e2 => absurd e2 e)))⟩) (fun r hr hx v hv => ?_)
  subst hx
  obtain ⟨pi, ro, hV⟩ := hM.1 r hr
  have hC := hD.2.1 r hr
  exact ⟨hS, hM.t.2.1, s_Mo_depth hV hC.2 hC.1.2.1 hC.1.2.2.1 hv (fun w1 s1 => ok2 (hG w1 (JR.sc hab hS hD hn hM s1)))⟩
theorem j_entry (h : JR w b a N cs) (hG : ∀ w', JR w' b a N cs → G w') : mC (d + 6) m_Do_entry [.ref b, .int x, .int m, .int y, .int k] w (PF d G F b a N cs m_Mo_entry [.int x, .int m, .int y, .int k]) := by
  have h0 := h
  obtain ⟨K, l, hab, hS, hD, hn, hM⟩ := h
  refine s_Do_entry hD (fun e => ⟨hS, hM.t.2.1, e_Mo_entry (s_Mo_isReplica (bI_ite (fun _ => ok2 (hG w h0)) (fun e2 => absurd e2 e)))⟩) (fun r hr hx => ?_)
  subst hx
  obtain ⟨pi, ro, hV⟩ := hM.1 r hr
  have hC := hD.2.1 r hr
  exact ⟨fun hc => ⟨hS, hM.t.2.1, s_Mo_entry hV hC.2.2.1 hC.1.2.1 hC.1.2.2.1 hC.1.2.2.2.1 (fun _ w1 s1 => ok2 (hG w1 (JR.sc hab hS hD hn hM s1))) (fun g => absurd g hc)⟩, fun hc => ⟨hS, hM.t.2.1, s_Mo_entry hV hC.2.2.1 hC.1.2.1 hC.1.2.2.1 hC.1.2.2.2.1 (fun g => absurd hc g) (fun _ w1 s1 => ok2 (hG w1 (JR.sc hab hS hD hn hM s1)))⟩⟩
theorem j_element (h : JR w b a N cs) (hG : ∀ w', JR w' b a N cs → G w') : mC (d + 6) m_Do_element [.ref b, .int x, .int m, .int k] w (PF d G F b a N cs m_Mo_element [.int x, .int m, .int k]) := by
  have h0 := h
  obtain ⟨K, l, hab, hS, hD, hn, hM⟩ := h
  refine s_Do_element hD (fun e => ⟨hS, hM.t.2.1, e_Mo_element (s_Mo_isReplica (bI_ite (fun _ => ok2 (hG w h0)) (fun e2 => absurd e2 e)))⟩) (fun r hr hx => ?_)
  subst hx
  have hC := hD.2.1 r hr
  refine ⟨fun hc => ?_, fun L w1 hL hf hD1 hc => ?_⟩
  · obtain ⟨pi, ro, hV⟩ := hM.1 r hr
    exact ⟨hS, hM.t.2.1, s_Mo_element hV hC.2.2.1 hC.1.2.1 hC.1.2.2.1 hC.1.2.2.2.1 (fun _ w1 s1 => ok2 (hG w1 (JR.sc hab hS hD hn hM s1))) (fun g => absurd g hc)⟩
  · have hM1 := hM.fx hf
    obtain ⟨pi, ro, hV⟩ := hM1.1 r hr
    exact ⟨hS.fx hab hf, hM1.t.2.1, s_Mo_element hV hC.2.2.1 hC.1.2.1 hC.1.2.2.1 hC.1.2.2.2.1 (fun g => absurd hc g) (fun _ => ⟨L, hL, fun w2 s1 => ok2 (hG w2 (JR.sc hab (hS.fx hab hf) hD1 hn hM1 s1))⟩)⟩
theorem j_sum (h : JR w b a N cs) (hG : ∀ w', JR w' b a N cs → G w') : mC (d + 6) m_Do_sum [.ref b, .int x] w (PF d G F b a N cs m_Mo_sum [.int x]) := by
  have h0 := h
  obtain ⟨K, l, hab, hS, hD, hn, hM⟩ := h
  refine s_Do_sum hD (fun e => ⟨hS, hM.t.2.1, e_Mo_sum (s_Mo_isReplica (bI_ite (fun _ => ok2 (hG w h0)) (fun e2 => absurd e2 e)))⟩) (fun r hr hx S w1 hSm hf hD1 => ?_)
  subst hx
  have hC := hD.2.1 r hr
  have hM1 := hM.fx hf
  obtain ⟨pi, ro, hV⟩ := hM1.1 r hr
  exact ⟨hS.fx hab hf, hM1.t.2.1, s_Mo_sum hV hC.2 hC.1.2.1 hC.1.2.2.1 hC.1.2.2.2.1 hSm (fun w2 s1 => ok2 (hG w2 (JR.sc hab (hS.fx hab hf) hD1 hn hM1 s1)))⟩
theorem j_level (h : JR w b a N cs) (hG : ∀ w', JR w' b a N cs → G w') : mC (d + 6) m_Do_level [.ref b, .int x, .int y] w (PF d G F b a N cs m_Mo_level [.int x, .int y]) := by
  have h0 := h
  obtain ⟨K, l, hab, hS, hD, hn, hM⟩ := h
  refine s_Do_level hD (fun e => ⟨hS, hM.t.2.1, e_Mo_level (s_Mo_isReplica (bI_ite (fun _ => ok2 (hG w h0)) (fun e2 => s_Mo_isReplica (bI_ite (fun _ => ok2 (hG w h0)) (fun e3 => absurd ⟨e2, e3⟩ e)))))⟩) (fun r s hr hs hx hy => ?_)
  subst hx
  subst hy
  obtain ⟨pi, ro, hV⟩ := hM.1 r hr
  obtain ⟨pi', ro', hV'⟩ := hM.1 s hs
  exact ⟨hS, hM.t.2.1, s_Mo_level hV hV' (ok2 (hG w h0))⟩
theorem j_wire (h : JR w b a N cs) (hG : ∀ w', JR w' b a N cs → G w') : mC (d + 6) m_Do_wire [.ref b, .int x] w (PF d G F b a N cs m_Mo_wire [.int x]) := by
  have h0 := h
  obtain ⟨K, l, hab, hS, hD, hn, hM⟩ := h
  exact s_Do_wire hD ⟨hS, hM.t.2.1, s_Mo_wire hM.t hM.2 (ok2 (hG w h0))⟩
theorem j_alter (h : JR w b a N cs) (hG : ∀ w', JR w' b a N cs → G w') : mC (d + 6) m_Do_alter [.ref b, .int x, .int y] w (PF d G F b a N cs m_Mo_alter [.int x, .int y]) := by
  have h0 := h
  obtain ⟨K, l, hab, hS, hD, hn, hM⟩ := h
  refine s_Do_alter hD (fun e => ⟨hS, hM.t.2.1, s_Mo_alter hM.t hM.2 (fun _ => ok2 (hG w h0)) (fun j w1 g => absurd g e)⟩) (fun j w1 g1 g2 g3 g4 hf hD1 => ?_)
  have hM1 := hM.fx hf
  refine ⟨hS.fx hab hf, hM1.t.2.1, s_Mo_alter hM1.t hM1.2 (fun e => absurd g1 e) (fun j' w2 q1 q2 q3 q4 q5 q6 => ?_)⟩
  have ej : j' = j := by
    rw [q2, nI_eq (by omega) (by omega)] at g2
    exact g2
  subst ej
  exact ok2 (hG w2 ⟨K, _, hab, (hS.fx hab hf).lo hab q5.lo, hD1.lo q5.lo, nn_ch hn g3 g1.2.2.2.1, hM1.ln q5 q6⟩)
theorem j_cut (h : JR w b a N cs) (hG : ∀ w', JR w' b a N cs → G w') : mC (d + 6) m_Do_cut [.ref b, .int x] w (PF d G F b a N cs m_Mo_cut [.int x]) := by
  have h0 := h
  obtain ⟨K, l, hab, hS, hD, hn, hM⟩ := h
  have hl := hM.2.1
  refine s_Do_cut hD (fun e => ⟨hS, hM.t.2.1, s_Mo_cut hM.t hM.2 (fun _ => ok2 (hG w h0)) (fun j w1 g1 g2 => absurd ⟨by rw [g1]; exact nI_pos (by omega), by rw [g1]; exact nI_le g2 (by omega)⟩ e)⟩) (fun j w1 g2 g3 hf hD1 => ?_)
  have hM1 := hM.fx hf
  refine ⟨hS.fx hab hf, hM1.t.2.1, s_Mo_cut hM1.t hM1.2 (fun e => absurd ⟨by rw [g2]; exact nI_pos (by omega), by rw [g2]; exact nI_le g3 (by omega)⟩ e) (fun j' w2 q2 q3 q5 q6 => ?_)⟩
  have ej : j' = j := by
    rw [q2, nI_eq (by omega) (by omega)] at g2
    exact g2
  subst ej
  exact ok2 (hG w2 ⟨K, _, hab, (hS.fx hab hf).lo hab q5.lo, hD1.lo q5.lo, nn_take hn, hM1.ln q5 q6⟩)
theorem j_emit (h : JR w b a N cs) (hG : ∀ w', JR w' b a N cs → G w') : mC (d + 6) m_Do_emit [.ref b, .int x, .int y] w (PF d G F b a N cs m_Mo_emit [.int x, .int y]) := by
  have h0 := h
  obtain ⟨K, l, hab, hS, hD, hn, hM⟩ := h
  refine s_Do_emit hD (fun e => ⟨hS, hM.t.2.1, e_Mo_emit (s_Mo_isReplica (bI_ite (fun _ => ok2 (hG w h0)) (fun e2 => absurd e2 e)))⟩) (fun r hr hx hno => ?_) (fun r p w1 hr hx hp he hf hD1 => ?_)
  · subst hx
    obtain ⟨pi, ro, hV⟩ := hM.1 r hr
    exact ⟨hS, hM.t.2.1, s_Mo_emit hV (fun _ w1 s1 => ok2 (hG w1 (JR.sc hab hS hD hn hM s1))) (fun p w1 g1 g2 => absurd g2 (hno p g1))⟩
  · subst hx
    have hM1 := hM.fx hf
    obtain ⟨pi, ro, hV⟩ := hM1.1 r hr
    refine ⟨hS.fx hab hf, hM1.t.2.1, s_Mo_emit hV (fun g => absurd he (g p hp)) (fun p' w2 g1 g2 g3 g4 => ?_)⟩
    have ep : p' = p := hV.uq p' p g1 hp (g2.trans he.symm)
    subst ep
    exact ok2 (hG w2 ⟨K, _, hab, (hS.fx hab hf).lo hab g3.lo, hD1.lo g3.lo, nn_ok (hV.ok p' g1), hM1.ln g3 g4⟩)
theorem j_edit {t s v : Int32} (h : JR w b a N cs) (hG : ∀ w', JR w' b a N cs → G w') : mC (d + 6) m_Do_edit [.ref b, .int x, .int k, .int t, .int s, .int v] w (PF d G F b a N cs m_Mo_edit [.int x, .int k, .int t, .int s, .int v]) := by
  have h0 := h
  obtain ⟨K, l, hab, hS, hD, hn, hM⟩ := h
  refine s_Do_edit hD (fun e => ⟨hS, hM.t.2.1, e_Mo_edit (s_Mo_isReplica (bI_ite (fun _ => ok2 (hG w h0)) (fun e2 => absurd e2 e)))⟩) (fun r w1 hr hx hf hD1 hbad => ?_) (fun r w1 hr hx hf hD1 hsp hfit hfull => ?_) (fun r bs kk o' pm' ft' sg' w1 hr hx hsp hfit h16 h40 hbf hch hf hD1 => ?_)
  · subst hx
    have hC := hD.2.1 r hr
    have hM1 := hM.fx hf
    obtain ⟨pi, ro, hV⟩ := hM1.1 r hr
    exact ⟨hS.fx hab hf, hM1.t.2.1, s_Mo_edit hV hC.2 hC.1.2.1 hC.1.2.2.1 hC.1.2.2.2.1 (fun w2 s1 _ => ok2 (hG w2 (JR.sc hab (hS.fx hab hf) hD1 hn hM1 s1))) (fun w2 s1 q1 q2 => absurd ⟨q1, q2⟩ hbad) (fun q1 q2 => absurd ⟨q1, q2⟩ hbad)⟩
  · subst hx
    have hC := hD.2.1 r hr
    have hM1 := hM.fx hf
    obtain ⟨pi, ro, hV⟩ := hM1.1 r hr
    refine ⟨hS.fx hab hf, hM1.t.2.1, s_Mo_edit hV hC.2 hC.1.2.1 hC.1.2.2.1 hC.1.2.2.2.1 (fun w2 s1 q => absurd ⟨hsp, hfit⟩ q) (fun w2 s1 _ _ _ => ok2 (hG w2 (JR.sc hab (hS.fx hab hf) hD1 hn hM1 s1))) (fun _ _ q1 q2 q3 => ?_)⟩
    rcases hfull with z | z | z
    · omega
    · exact absurd z q2
    · exact absurd z q3
  · subst hx
    have hC := hD.2.1 r hr
    have hM1 := hM.fx hf
    obtain ⟨pi, ro, hV⟩ := hM1.1 r hr
    refine ⟨hS.fx hab hf, hM1.t.2.1, s_Mo_edit hV hC.2 hC.1.2.1 hC.1.2.2.1 hC.1.2.2.2.1 (fun w2 s1 q => absurd ⟨hsp, hfit⟩ q) (fun w2 s1 _ _ q => ?_) (fun _ _ _ _ _ => ⟨bs, kk, o', hbf, hch, fun w2 pi' ro' q1 q2 => ?_⟩)⟩
    · rcases q with z | z | z
      · omega
      · exact absurd z h40
      · have h1 := hbf.2.1
        have h2 := hbf.2.2.1
        omega
    · exact ok2 (hG w2 ⟨_, l, hab, (hS.fx hab hf).lo hab q1.lo, hD1.lo q1.lo, hn, hM1.ow hr q1 q2⟩)
theorem j_receive (h : JR w b a N cs) (hG : ∀ w', JR w' b a N cs → G w') : mC (d + 6) m_Do_receive [.ref b, .int x] w (PF d G F b a N cs m_Mo_receive [.int x]) := by
  have h0 := h
  obtain ⟨K, l, hab, hS, hD, hn, hM⟩ := h
  refine s_Do_receive hD (fun e => ⟨hS, hM.t.2.1, e_Mo_receive (s_Mo_isReplica (bI_ite (fun _ => ok2 (hG w h0)) (fun e2 => absurd e2 e)))⟩) (fun r w1 hr hx hf hD1 hbad => ?_) (fun r w1 p hr hx hf hD1 hw hp he => ?_) (fun r w1 hr hx hf hD1 hw hno c hc => ?_) (fun r kk o' pm' ft' sg' w1 hr hx hw hno q1 q2 q3 q4 hch hf hD1 => ?_)
  · subst hx
    have hM1 := hM.fx hf
    obtain ⟨pi, ro, hV⟩ := hM1.1 r hr
    exact ⟨hS.fx hab hf, hM1.t.2.1, s_Mo_receive hV hM1.2 hn (fun _ => ok2 (hG w1 ⟨K, l, hab, hS.fx hab hf, hD1, hn, hM1⟩)) (fun p w2 g => absurd g hbad) (fun c w2 g => absurd g hbad) (fun g => absurd g hbad)⟩
  · subst hx
    have hM1 := hM.fx hf
    obtain ⟨pi, ro, hV⟩ := hM1.1 r hr
    refine ⟨hS.fx hab hf, hM1.t.2.1, s_Mo_receive hV hM1.2 hn (fun g => absurd hw g) (fun p' w2 _ g1 g2 s1 => ?_) (fun c w2 _ g => absurd he (g p hp)) (fun _ g => absurd he (g p hp))⟩
    have ep : p' = p := hV.uq p' p g1 hp (g2.trans he.symm)
    subst ep
    exact ok2 (hG w2 (JR.sc hab (hS.fx hab hf) hD1 hn hM1 s1))
  · subst hx
    have hM1 := hM.fx hf
    obtain ⟨pi, ro, hV⟩ := hM1.1 r hr
    refine ⟨hS.fx hab hf, hM1.t.2.1, s_Mo_receive hV hM1.2 hn (fun g => absurd hw g) (fun p' w2 _ g1 g2 s1 => absurd g2 (hno p' g1)) (fun c' w2 _ _ s1 g => ?_) (fun _ _ g1 g2 g3 g4 => ?_)⟩
    · have ec : c = c' := rfP_fn hc g
      subst ec
      exact ok2 (hG w2 (JR.sc hab (hS.fx hab hf) hD1 hn hM1 s1))
    · exfalso
      rcases hc with ⟨-, z⟩ | ⟨-, -, z⟩ | ⟨-, -, -, z⟩ | ⟨-, -, -, -, z⟩
      · exact g1 z
      · exact z g2
      · exact z g3
      · omega
  · subst hx
    have hM1 := hM.fx hf
    obtain ⟨pi, ro, hV⟩ := hM1.1 r hr
    refine ⟨hS.fx hab hf, hM1.t.2.1, s_Mo_receive hV hM1.2 hn (fun g => absurd hw g) (fun p' w2 _ g1 g2 s1 => absurd g2 (hno p' g1)) (fun c' w2 _ _ s1 g => ?_) (fun _ _ _ _ _ _ => ⟨kk, o', hch, fun w2 pi' ro' c1 c2 => ?_⟩)⟩
    · exfalso
      rcases g with ⟨-, z⟩ | ⟨-, -, z⟩ | ⟨-, -, -, z⟩ | ⟨-, -, -, -, z⟩
      · exact q1 z
      · exact z q2
      · exact z q3
      · omega
    · exact ok2 (hG w2 ⟨_, l, hab, (hS.fx hab hf).lo hab c1.lo, hD1.lo c1.lo, hn, hM1.ow hr c1 c2⟩)
end SJ
