/-! own names: fields, words -/
def mCop : String := "ReplicaDocument$Operation"
def mCre : String := "ReplicaDocument$Replica"
abbrev mIop : Nat := 1
abbrev mIre : Nat := 3
def mT0 : u_T := fun k => match k with
  | 0 => ("ReplicaDocument", "replicas", "[LReplicaDocument$Replica;", true)
  | 1 => ("ReplicaDocument", "contents", "LReplicaDocument$Contents;", true)
  | 2 => ("ReplicaDocument", "line", "LReplicaDocument$Wire;", true)
  | _ => ("ReplicaDocument", "draft", "LReplicaDocument$Operation;", true)
def mY0 : Nat → FieldType := fun k => match k with
  | 0 => .array (.object "ReplicaDocument$Replica")
  | 1 => .object "ReplicaDocument$Contents"
  | 2 => .object "ReplicaDocument$Wire"
  | _ => .object "ReplicaDocument$Operation"
def mT1 : u_T := fun k => match k with
  | 0 => ("ReplicaDocument$Operation", "before", "[I", true)
  | 1 => ("ReplicaDocument$Operation", "beforeCount", "I", false)
  | 2 => ("ReplicaDocument$Operation", "id", "I", false)
  | 3 => ("ReplicaDocument$Operation", "kind", "I", false)
  | 4 => ("ReplicaDocument$Operation", "target", "I", false)
  | 5 => ("ReplicaDocument$Operation", "slot", "I", false)
  | _ => ("ReplicaDocument$Operation", "value", "I", false)
def mY1 : Nat → FieldType := fun k => match k with
  | 0 => .array .int
  | 1 => .int
  | 2 => .int
  | 3 => .int
  | 4 => .int
  | 5 => .int
  | _ => .int
def mT2 : u_T := fun k => match k with
  | 0 => ("ReplicaDocument$Wire", "bytes", "[I", true)
  | _ => ("ReplicaDocument$Wire", "length", "I", false)
def mY2 : Nat → FieldType := fun k => match k with
  | 0 => .array .int
  | _ => .int
def mT3 : u_T := fun k => match k with
  | 0 => ("ReplicaDocument$Replica", "number", "I", true)
  | 1 => ("ReplicaDocument$Replica", "operations", "[LReplicaDocument$Operation;", true)
  | 2 => ("ReplicaDocument$Replica", "pasts", "[I", true)
  | 3 => ("ReplicaDocument$Replica", "fitting", "[Z", true)
  | 4 => ("ReplicaDocument$Replica", "byId", "[I", true)
  | 5 => ("ReplicaDocument$Replica", "appliedCount", "I", false)
  | _ => ("ReplicaDocument$Replica", "heldCount", "I", false)
def mY3 : Nat → FieldType := fun k => match k with
  | 0 => .int
  | 1 => .array (.object "ReplicaDocument$Operation")
  | 2 => .array .int
  | 3 => .array .boolean
  | 4 => .array .int
  | 5 => .int
  | _ => .int
def mT4 : u_T := fun k => match k with
  | 0 => ("ReplicaDocument$Contents", "arranged", "[I", true)
  | _ => ("ReplicaDocument$Contents", "sums", "[I", true)
def mY4 : Nat → FieldType := fun k => match k with
  | 0 => .array .int
  | _ => .array .int
def mT5 : u_T := fun k => match k with
  | 0 => ("ReplicaDocumentModel", "bytes", "[I", false)
  | 1 => ("ReplicaDocumentModel", "holds", "[I", false)
  | 2 => ("ReplicaDocumentModel", "applied", "[Z", false)
  | 3 => ("ReplicaDocumentModel", "order", "[I", false)
  | 4 => ("ReplicaDocumentModel", "logged", "[I", false)
  | 5 => ("ReplicaDocumentModel", "line", "[I", false)
  | 6 => ("ReplicaDocumentModel", "many", "I", false)
  | 7 => ("ReplicaDocumentModel", "me", "I", false)
  | 8 => ("ReplicaDocumentModel", "fit", "[Z", false)
  | 9 => ("ReplicaDocumentModel", "pasts", "[I", false)
  | 10 => ("ReplicaDocumentModel", "totals", "[I", false)
  | _ => ("ReplicaDocumentModel", "fresh", "[I", false)
def mY5 : Nat → FieldType := fun k => match k with
  | 0 => .array .int
  | 1 => .array .int
  | 2 => .array .boolean
  | 3 => .array .int
  | 4 => .array .int
  | 5 => .array .int
  | 6 => .int
  | 7 => .int
  | 8 => .array .boolean
  | 9 => .array .int
  | 10 => .array .int
  | _ => .array .int
abbrev mCls : List vw_C := [("ReplicaDocument", mT0, 4), ("ReplicaDocument$Operation", mT1, 7), ("ReplicaDocument$Wire", mT2, 2), ("ReplicaDocument$Replica", mT3, 7), ("ReplicaDocument$Contents", mT4, 2), ("ReplicaDocumentModel", mT5, 12)]
def mFT (c : Nat) : Nat → FieldType := match c with
  | 0 => mY0
  | 1 => mY1
  | 2 => mY2
  | 3 => mY3
  | 4 => mY4
  | _ => mY5
def mWd : List Cond := lw_tbl.filter goodWord
theorem mWd_good : ∀ w ∈ mWd, goodWord w = true := fun w h => (List.mem_filter.mp h).2
theorem mWd_tbl : ∀ w ∈ mWd, w ∈ lw_tbl := fun w h => (List.mem_filter.mp h).1
theorem tw_p {w : Cond} (i : Nat) (h : (k2_sels lw_privs)[i]? = some w) (g : goodWord w = true) : w ∈ mWd := List.mem_filter.mpr ⟨List.mem_append_left _ (List.mem_of_getElem? h), g⟩
theorem tw_1 {w : Cond} (i : Nat) (h : tables_1_1[i]? = some w) (g : goodWord w = true) : w ∈ mWd := List.mem_filter.mpr ⟨List.mem_append_right _ (List.mem_append_left _ (List.mem_of_getElem? h)), g⟩
theorem tw_2 {w : Cond} (i : Nat) (h : tables_1_2[i]? = some w) (g : goodWord w = true) : w ∈ mWd := List.mem_filter.mpr ⟨List.mem_append_right _ (List.mem_append_right _ (List.mem_append_left _ (List.mem_of_getElem? h))), g⟩
theorem tw_3 {w : Cond} (i : Nat) (h : tables_1_3[i]? = some w) (g : goodWord w = true) : w ∈ mWd := List.mem_filter.mpr ⟨List.mem_append_right _ (List.mem_append_right _ (List.mem_append_right _ (List.mem_of_getElem? h))), g⟩
def mNw : List (String × Nat × MethodName × String) := [("ReplicaDocument$Operation", 52, ⟨"ReplicaDocument","isId","(I)Z"⟩, "ReplicaDocument"), ("ReplicaDocument$Operation", 55, ⟨"ReplicaDocument","isKey","(I)Z"⟩, "ReplicaDocument"), ("ReplicaDocument$Wire", 58, ⟨"ReplicaDocument","isId","(I)Z"⟩, "ReplicaDocument")]
theorem mNw_tbl : ∀ q ∈ mNw, Cond.methodLinkNest q.1 q.2.1 q.2.2.1 q.2.2.2 ∈ lw_tbl := by decide +kernel
theorem mIn0 : ∀ w ∈ u_ws "ReplicaDocument" mT0 4, w ∈ lw_tbl := by decide +kernel
theorem mGd0 : ∀ w ∈ u_ws "ReplicaDocument" mT0 4, goodWord w = true := by decide +kernel
theorem mPf0 : ∀ k, k < 4 → parseFieldDescriptor (mT0 k).2.2.1 = some (mY0 k) := by decide +kernel
theorem mNm0 : ∀ a, a < 4 → ∀ b, b < 4 → a ≠ b → (mT0 a).2.1 ≠ (mT0 b).2.1 := by decide +kernel
theorem mRf0 : ∀ k, k < 4 → mY0 k = .int ∨ (mY0 k).isReference = true := by decide +kernel
theorem mIn1 : ∀ w ∈ u_ws "ReplicaDocument$Operation" mT1 7, w ∈ lw_tbl := by decide +kernel
theorem mGd1 : ∀ w ∈ u_ws "ReplicaDocument$Operation" mT1 7, goodWord w = true := by decide +kernel
theorem mPf1 : ∀ k, k < 7 → parseFieldDescriptor (mT1 k).2.2.1 = some (mY1 k) := by decide +kernel
theorem mNm1 : ∀ a, a < 7 → ∀ b, b < 7 → a ≠ b → (mT1 a).2.1 ≠ (mT1 b).2.1 := by decide +kernel
theorem mRf1 : ∀ k, k < 7 → mY1 k = .int ∨ (mY1 k).isReference = true := by decide +kernel
theorem mIn2 : ∀ w ∈ u_ws "ReplicaDocument$Wire" mT2 2, w ∈ lw_tbl := by decide +kernel
theorem mGd2 : ∀ w ∈ u_ws "ReplicaDocument$Wire" mT2 2, goodWord w = true := by decide +kernel
theorem mPf2 : ∀ k, k < 2 → parseFieldDescriptor (mT2 k).2.2.1 = some (mY2 k) := by decide +kernel
theorem mNm2 : ∀ a, a < 2 → ∀ b, b < 2 → a ≠ b → (mT2 a).2.1 ≠ (mT2 b).2.1 := by decide +kernel
theorem mRf2 : ∀ k, k < 2 → mY2 k = .int ∨ (mY2 k).isReference = true := by decide +kernel
theorem mIn3 : ∀ w ∈ u_ws "ReplicaDocument$Replica" mT3 7, w ∈ lw_tbl := by decide +kernel
theorem mGd3 : ∀ w ∈ u_ws "ReplicaDocument$Replica" mT3 7, goodWord w = true := by decide +kernel
theorem mPf3 : ∀ k, k < 7 → parseFieldDescriptor (mT3 k).2.2.1 = some (mY3 k) := by decide +kernel
theorem mNm3 : ∀ a, a < 7 → ∀ b, b < 7 → a ≠ b → (mT3 a).2.1 ≠ (mT3 b).2.1 := by decide +kernel
theorem mRf3 : ∀ k, k < 7 → mY3 k = .int ∨ (mY3 k).isReference = true := by decide +kernel
theorem mIn4 : ∀ w ∈ u_ws "ReplicaDocument$Contents" mT4 2, w ∈ lw_tbl := by decide +kernel
theorem mGd4 : ∀ w ∈ u_ws "ReplicaDocument$Contents" mT4 2, goodWord w = true := by decide +kernel
theorem mPf4 : ∀ k, k < 2 → parseFieldDescriptor (mT4 k).2.2.1 = some (mY4 k) := by decide +kernel
theorem mNm4 : ∀ a, a < 2 → ∀ b, b < 2 → a ≠ b → (mT4 a).2.1 ≠ (mT4 b).2.1 := by decide +kernel
theorem mRf4 : ∀ k, k < 2 → mY4 k = .int ∨ (mY4 k).isReference = true := by decide +kernel
theorem mIn5 : ∀ w ∈ u_ws "ReplicaDocumentModel" mT5 12, w ∈ lw_tbl := by decide +kernel
theorem mGd5 : ∀ w ∈ u_ws "ReplicaDocumentModel" mT5 12, goodWord w = true := by decide +kernel
theorem mPf5 : ∀ k, k < 12 → parseFieldDescriptor (mT5 k).2.2.1 = some (mY5 k) := by decide +kernel
theorem mNm5 : ∀ a, a < 12 → ∀ b, b < 12 → a ≠ b → (mT5 a).2.1 ≠ (mT5 b).2.1 := by decide +kernel
theorem mRf5 : ∀ k, k < 12 → mY5 k = .int ∨ (mY5 k).isReference = true := by decide +kernel
theorem mClsOk : ∀ (c : Nat) (q : vw_C), mCls[c]? = some q → (∀ w ∈ u_ws q.1 q.2.1 q.2.2, w ∈ mWd) ∧ (∀ k, k < q.2.2 → parseFieldDescriptor (q.2.1 k).2.2.1 = some (mFT c k)) ∧ (∀ a, a < q.2.2 → ∀ b, b < q.2.2 → a ≠ b → (q.2.1 a).2.1 ≠ (q.2.1 b).2.1) ∧ ∀ k, k < q.2.2 → mFT c k = .int ∨ (mFT c k).isReference = true := by
  intro c q hq
  match c, hq with
  | 0, hq => cases hq; exact ⟨fun w h => List.mem_filter.mpr ⟨mIn0 w h, mGd0 w h⟩, mPf0, mNm0, mRf0⟩
  | 1, hq => cases hq; exact ⟨fun w h => List.mem_filter.mpr ⟨mIn1 w h, mGd1 w h⟩, mPf1, mNm1, mRf1⟩
  | 2, hq => cases hq; exact ⟨fun w h => List.mem_filter.mpr ⟨mIn2 w h, mGd2 w h⟩, mPf2, mNm2, mRf2⟩
  | 3, hq => cases hq; exact ⟨fun w h => List.mem_filter.mpr ⟨mIn3 w h, mGd3 w h⟩, mPf3, mNm3, mRf3⟩
  | 4, hq => cases hq; exact ⟨fun w h => List.mem_filter.mpr ⟨mIn4 w h, mGd4 w h⟩, mPf4, mNm4, mRf4⟩
  | 5, hq => cases hq; exact ⟨fun w h => List.mem_filter.mpr ⟨mIn5 w h, mGd5 w h⟩, mPf5, mNm5, mRf5⟩
  | c + 6, hq => simp at hq
theorem mIop_ok : ∃ q : vw_C, mCls[mIop]? = some q ∧ q.1 = mCop := ⟨_, rfl, rfl⟩
theorem mIre_ok : ∃ q : vw_C, mCls[mIre]? = some q ∧ q.1 = mCre := ⟨_, rfl, rfl⟩
theorem mIop_lt : mIop < 19 := by decide
theorem mIre_lt : mIre < 19 := by decide
