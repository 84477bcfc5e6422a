/-- the pool, with kind and place of each number -/
def PQ (b : Nat → Nat) (n N : Nat) (kd pl : Nat → Nat) (u v : St) : Prop := u 8 0 = nI N ∧ v 9 0 = nI (N + 1) ∧ N ≤ 133 ∧ (∀ x, kd x < 13) ∧ (∀ x, kd x ≠ 0 → 1 ≤ x ∧ x ≤ N) ∧ (∀ x, 1 ≤ x → x ≤ N → u 25 x = nI (kd x) ∧ v 33 x = nI (kd x)) ∧ (∀ x, kd x ≠ 0 → u 26 x = nI (pl x) ∧ v 34 x = nI (pl x) ∧ pl x < 400) ∧ (∀ x, kd x = 1 → pl x + 3 + w2 b (pl x + 1) ≤ n ∧ v 35 x = nI (pl x + 3) ∧ v 36 x = nI (w2 b (pl x + 1))) ∧ (∀ x, kd x = 7 ∨ kd x = 8 → pl x + 3 ≤ n ∧ v 35 x = nI (w2 b (pl x + 1))) ∧ (∀ x, kd x = 10 ∨ kd x = 12 → pl x + 5 ≤ n ∧ v 35 x = nI (w2 b (pl x + 1)) ∧ v 36 x = nI (w2 b (pl x + 3)))
theorem PO.pq {b : Nat → Nat} {n N : Nat} {u v : St} (h : PO b n N u v) : ∃ kd pl, PQ b n N kd pl u v := by
  obtain ⟨h1, h2, h3, h4⟩ := h
  refine ⟨fun x => if 1 ≤ x ∧ x ≤ N then (u 25 x).toNatClampNeg else 0, fun x => (u 26 x).toNatClampNeg, h1, h2, h3, ?_, ?_, ?_, ?_, ?_, ?_, ?_⟩
  all_goals intro x
  all_goals by_cases q : 1 ≤ x ∧ x ≤ N
  all_goals simp only [q, if_true, if_false, and_self]
  · obtain ⟨t, p, e1, e2, e3, e4, e5, e6, e7⟩ := h4 x q.1 q.2
    rw [e1, cl_nI (by omega)]
    exact e3
  · omega
  · exact fun _ => trivial
  · exact fun z => absurd rfl z
  · intro a1 a2
    obtain ⟨t, p, e1, e2, e3, e4, e5, e6, e7⟩ := h4 x q.1 q.2
    rw [e1, cl_nI (by omega)]
    exact ⟨rfl, e2⟩
  · intro a1 a2
    exact absurd ⟨a1, a2⟩ q
  all_goals first
    | intro z
      obtain ⟨t, p, e1, e2, e3, e4, e5, e6, e7⟩ := h4 x q.1 q.2
      rw [e1, cl_nI (by omega)] at z
      obtain ⟨f1, f2, f3⟩ := e4 (by omega)
      rw [f1, cl_nI (by omega)]
      first
        | exact ⟨rfl, f2, f3⟩
        | exact e5 z
        | exact e6 z
        | exact e7 z
    | intro z; omega
/-- text of a number -/
def tE (b pl : Nat → Nat) (x : Nat) : Nat := pl x + 3 + w2 b (pl x + 1)
theorem X_kindOf {b : Nat → Nat} {n N : Nat} {kd pl : Nat → Nat} {u v : St} (h : PQ b n N kd pl u v) {x : Nat} (hx : x < 2 ^ 31) : f_X4_kindOf (nI x) u = some (nI (kd x)) := by
  obtain ⟨h1, h2, h3, h4, h5, h6, h7, h8, h9, h10⟩ := h
  unfold f_X4_kindOf f_X4_kindOf_j22 f_X4_kindOf_j23
  rw [h1]
  simp (disch := omega) only [L1, ltN]
  by_cases q : x < 1
  · rw [if_pos q]
    have : kd x = 0 := by
      by_cases z : kd x = 0
      · exact z
      · have := h5 x z; omega
    rw [this]; rfl
  · rw [if_neg q]
    by_cases q2 : N < x
    · rw [if_pos q2]
      have : kd x = 0 := by
        by_cases z : kd x = 0
        · exact z
        · have := h5 x z; omega
      rw [this]; rfl
    · rw [if_neg q2, chkN (by omega) (by omega), cl_nI (by omega), (h6 x (by omega) (by omega)).1]
theorem M_is {b : Nat → Nat} {n N : Nat} {kd pl : Nat → Nat} {u v : St} (h : PQ b n N kd pl u v) {x t : Nat} (hx : x < 2 ^ 31) (ht : t ≠ 0) (ht2 : t < 2 ^ 31) : f_X7_is (nI x) (nI t) v = some (bI (kd x = t)) := by
  obtain ⟨h1, h2, h3, h4, h5, h6, h7, h8, h9, h10⟩ := h
  unfold f_X7_is f_X7_is_j26 f_X7_is_j27
  rw [h2]
  simp (disch := omega) only [L0, leN]
  by_cases q : x ≤ 0
  · rw [if_pos q, ← L0, bchk_0, bI_f]
    intro z
    have := h5 x (by omega); omega
  · rw [if_neg q]
    by_cases q2 : N + 1 ≤ x
    · rw [if_pos q2, ← L0, bchk_0, bI_f]
      intro z
      have := h5 x (by omega); omega
    · have := h4 x
      rw [if_neg q2, chkN (by omega) (by omega), cl_nI (by omega), (h6 x (by omega) (by omega)).2]
      simp (disch := omega) only [eqN]
      by_cases q3 : kd x = t
      · rw [if_pos q3, bchk_1, bI_t q3]
      · rw [if_neg q3, ← L0, bchk_0, bI_f q3]
theorem X_first {b : Nat → Nat} {n N : Nat} {kd pl : Nat → Nat} {u v : St} (h : PQ b n N kd pl u v) (hB : BX u b n) {x : Nat} (hx : kd x = 1 ∨ kd x = 7 ∨ kd x = 8 ∨ kd x = 10 ∨ kd x = 12) : f_X4_first (nI x) u = some (nI (w2 b (pl x + 1))) := by
  obtain ⟨h1, h2, h3, h4, h5, h6, h7, h8, h9, h10⟩ := h
  obtain ⟨g1, g2⟩ := h5 x (by omega)
  obtain ⟨g3, g4, g5⟩ := h7 x (by omega)
  have hl : pl x + 1 + 1 < n := by
    rcases hx with z | z | z | z | z
    · have := h8 x z; omega
    · have := h9 x (Or.inl z); omega
    · have := h9 x (Or.inr z); omega
    · have := h10 x (Or.inl z); omega
    · have := h10 x (Or.inr z); omega
  unfold f_X4_first
  rw [chkN (by omega) (by omega), cl_nI (by omega), g3, nI_1, X_u2 hB hl]
  rfl
theorem X_second {b : Nat → Nat} {n N : Nat} {kd pl : Nat → Nat} {u v : St} (h : PQ b n N kd pl u v) (hB : BX u b n) {x : Nat} (hx : kd x = 10 ∨ kd x = 12) : f_X4_second (nI x) u = some (nI (w2 b (pl x + 3))) := by
  obtain ⟨h1, h2, h3, h4, h5, h6, h7, h8, h9, h10⟩ := h
  obtain ⟨g1, g2⟩ := h5 x (by omega)
  obtain ⟨g3, g4, g5⟩ := h7 x (by omega)
  have := h10 x hx
  unfold f_X4_second
  rw [chkN (by omega) (by omega), cl_nI (by omega), g3, L3, nI_add, X_u2 hB (by omega)]
  rfl
theorem X_textStart {b : Nat → Nat} {n N : Nat} {kd pl : Nat → Nat} {u v : St} (h : PQ b n N kd pl u v) {x : Nat} (hx : kd x = 1) : f_X4_textStart (nI x) u = some (nI (pl x + 3)) := by
  obtain ⟨h1, h2, h3, h4, h5, h6, h7, h8, h9, h10⟩ := h
  obtain ⟨g1, g2⟩ := h5 x (by omega)
  obtain ⟨g3, g4, g5⟩ := h7 x (by omega)
  unfold f_X4_textStart
  rw [chkN (by omega) (by omega), cl_nI (by omega), g3, L3, nI_add]
theorem X_textEnd {b : Nat → Nat} {n N : Nat} {kd pl : Nat → Nat} {u v : St} (h : PQ b n N kd pl u v) (hB : BX u b n) {x : Nat} (hx : kd x = 1) : f_X4_textEnd (nI x) u = some (nI (tE b pl x)) := by
  unfold f_X4_textEnd
  rw [bd_some (X_textStart h hx), bd_some (X_first h hB (Or.inl hx)), nI_add]
  rfl
theorem PQ.te {b : Nat → Nat} {n N : Nat} {kd pl : Nat → Nat} {u v : St} (h : PQ b n N kd pl u v) {x : Nat} (hx : kd x = 1) : tE b pl x ≤ n ∧ pl x + 3 ≤ tE b pl x := by
  have := h.2.2.2.2.2.2.2.1 x hx
  unfold tE
  omega
theorem PQ.tm {b : Nat → Nat} {n N : Nat} {kd pl : Nat → Nat} {u v : St} (h : PQ b n N kd pl u v) (hB : BM v b n) {x : Nat} (hx : kd x = 1) : TM v b n x (pl x + 3) (tE b pl x) := by
  obtain ⟨h1, h2, h3, h4, h5, h6, h7, h8, h9, h10⟩ := h
  obtain ⟨g1, g2⟩ := h5 x (by omega)
  obtain ⟨g3, g4, g5⟩ := h8 x hx
  unfold tE
  exact ⟨by omega, g4, by rw [show pl x + 3 + w2 b (pl x + 1) - (pl x + 3) = w2 b (pl x + 1) by omega]; exact g5, by omega, by omega, hB⟩
theorem X_pName {b : Nat → Nat} {n N : Nat} {kd pl : Nat → Nat} {u v : St} (h : PQ b n N kd pl u v) (hB : BX u b n) {x : Nat} (hx : x < 2 ^ 31) : f_X4_isMemberName (nI x) u = some (bI (kd x = 1 ∧ MN b (pl x + 3) (tE b pl x))) := by
  unfold f_X4_isMemberName f_X4_isMemberName_j36 f_X4_isMemberName_j37
  rw [bd_some (X_kindOf h hx)]
  have := h.2.2.2.1 x
  simp (disch := omega) only [L1, eqN]
  by_cases q : kd x = 1
  · obtain ⟨a1, a2⟩ := h.te q
    rw [if_pos q, bd_some (X_textStart h q), bd_some (X_textEnd h hB q), bd_some (X_isMemberName hB a2 a1)]
    by_cases z : MN b (pl x + 3) (tE b pl x)
    · rw [if_neg (fun w => bI_0.mp w z), ← L1, bchk_1, bI_t ⟨q, z⟩]
    · rw [if_pos (bI_0.mpr z), bchk_0, bI_f (fun w => z w.2)]
  · rw [if_neg q, bchk_0, bI_f (fun w => q w.1)]
theorem X_pMeth {b : Nat → Nat} {n N : Nat} {kd pl : Nat → Nat} {u v : St} (h : PQ b n N kd pl u v) (hB : BX u b n) {x : Nat} (hx : x < 2 ^ 31) : f_X4_isMethodType (nI x) u = some (bI (kd x = 1 ∧ MT b (pl x + 3) (tE b pl x))) := by
  unfold f_X4_isMethodType f_X4_isMethodType_j36 f_X4_isMethodType_j37
  rw [bd_some (X_kindOf h hx)]
  have := h.2.2.2.1 x
  simp (disch := omega) only [L1, eqN]
  by_cases q : kd x = 1
  · obtain ⟨a1, a2⟩ := h.te q
    rw [if_pos q, bd_some (X_textStart h q), bd_some (X_textEnd h hB q), bd_some (X_isMethodType hB a2 a1)]
    by_cases z : MT b (pl x + 3) (tE b pl x)
    · rw [if_neg (fun w => bI_0.mp w z), ← L1, bchk_1, bI_t ⟨q, z⟩]
    · rw [if_pos (bI_0.mpr z), bchk_0, bI_f (fun w => z w.2)]
  · rw [if_neg q, bchk_0, bI_f (fun w => q w.1)]
theorem X_pField {b : Nat → Nat} {n N : Nat} {kd pl : Nat → Nat} {u v : St} (h : PQ b n N kd pl u v) (hB : BX u b n) {x : Nat} (hx : x < 2 ^ 31) : f_X4_isFieldName (nI x) u = some (bI (kd x = 1 ∧ FN b (pl x + 3) (tE b pl x))) := by
  unfold f_X4_isFieldName f_X4_isFieldName_j36 f_X4_isFieldName_j37
  rw [bd_some (X_kindOf h hx)]
  have := h.2.2.2.1 x
  simp (disch := omega) only [L1, eqN]
  by_cases q : kd x = 1
  · obtain ⟨a1, a2⟩ := h.te q
    rw [if_pos q, bd_some (X_textStart h q), bd_some (X_textEnd h hB q), bd_some (X_isFieldName hB a2 a1)]
    by_cases z : FN b (pl x + 3) (tE b pl x)
    · rw [if_neg (fun w => bI_0.mp w z), ← L1, bchk_1, bI_t ⟨q, z⟩]
    · rw [if_pos (bI_0.mpr z), bchk_0, bI_f (fun w => z w.2)]
  · rw [if_neg q, bchk_0, bI_f (fun w => q w.1)]
theorem X_pType {b : Nat → Nat} {n N : Nat} {kd pl : Nat → Nat} {u v : St} (h : PQ b n N kd pl u v) (hB : BX u b n) {x : Nat} (hx : x < 2 ^ 31) : f_X4_isFieldType (nI x) u = some (bI (kd x = 1 ∧ tEnd b (pl x + 3) (tE b pl x) = some (tE b pl x))) := by
  unfold f_X4_isFieldType f_X4_isFieldType_j36 f_X4_isFieldType_j37
  rw [bd_some (X_kindOf h hx)]
  have := h.2.2.2.1 x
  simp (disch := omega) only [L1, eqN]
  by_cases q : kd x = 1
  · obtain ⟨a1, a2⟩ := h.te q
    rw [if_pos q, bd_some (X_textStart h q), bd_some (X_textEnd h hB q), bd_some (X_isFieldType hB a2 a1)]
    by_cases z : tEnd b (pl x + 3) (tE b pl x) = some (tE b pl x)
    · rw [if_neg (fun w => bI_0.mp w z), ← L1, bchk_1, bI_t ⟨q, z⟩]
    · rw [if_pos (bI_0.mpr z), bchk_0, bI_f (fun w => z w.2)]
  · rw [if_neg q, bchk_0, bI_f (fun w => q w.1)]
/-- references fit -/
def rOK (b kd pl : Nat → Nat) (x : Nat) : Prop := (kd x = 7 ∨ kd x = 8 → kd (w2 b (pl x + 1)) = 1) ∧ (kd x = 10 → kd (w2 b (pl x + 1)) = 7 ∧ kd (w2 b (pl x + 3)) = 12) ∧ (kd x = 12 → kd (w2 b (pl x + 1)) = 1 ∧ kd (w2 b (pl x + 3)) = 1)
theorem PQ.wl {b : Nat → Nat} {n N : Nat} {kd pl : Nat → Nat} {u v : St} (h : PQ b n N kd pl u v) (hb : ∀ j, j < n → b j < 256) {x : Nat} : (kd x = 7 ∨ kd x = 8 ∨ kd x = 10 ∨ kd x = 12 → w2 b (pl x + 1) < 65536) ∧ (kd x = 10 ∨ kd x = 12 → w2 b (pl x + 3) < 65536) := by
  obtain ⟨h1, h2, h3, h4, h5, h6, h7, h8, h9, h10⟩ := h
  refine ⟨fun z => w2_lt hb ?_, fun z => w2_lt hb ?_⟩
  · rcases z with z | z | z | z
    · have := h9 x (Or.inl z); omega
    · have := h9 x (Or.inr z); omega
    · have := h10 x (Or.inl z); omega
    · have := h10 x (Or.inr z); omega
  · have := h10 x z; omega
theorem X_refs {b : Nat → Nat} {n N : Nat} {kd pl : Nat → Nat} {u v : St} (h : PQ b n N kd pl u v) (hB : BX u b n) {x : Nat} (h1 : 1 ≤ x) (h2 : x ≤ N) : f_X4_referencesFit (nI x) u = some (bI (rOK b kd pl x)) := by
  have hk := h.2.2.2.1 x
  have hN := h.2.2.1
  have hw := h.wl (x := x) (fun j hj => (hB.2 j hj).2)
  unfold f_X4_referencesFit f_X4_referencesFit_j62 f_X4_referencesFit_j95 f_X4_referencesFit_j96 f_X4_referencesFit_j127 f_X4_referencesFit_j128
  rw [chkN (by omega) (by omega), cl_nI (by omega), (h.2.2.2.2.2.1 x h1 h2).1]
  simp (disch := omega) only [L0, L1, L7, L8, L10, L12, eqN]
  have b0 : ∀ {α : Type} {k : Option α}, bchk (nI 0) k = k := fun {α k} => bchk_0
  have b1 : ∀ {α : Type} {k : Option α}, bchk (nI 1) k = k := fun {α k} => bchk_1
  have l0 : ∀ {p : Prop}, ¬ p → bI p = nI 0 := fun z => bI_f z
  have l1 : ∀ {p : Prop}, p → bI p = nI 1 := fun z => bI_t z
  simp only [b0, b1]
  by_cases q1 : kd x = 7 ∨ kd x = 8
  · have hw1 := hw.1 (by omega)
    have k1 := h.2.2.2.1 (w2 b (pl x + 1))
    simp only [if_pos q1, X_first h hB (x := x) (by omega), Option.bind_some, X_kindOf h (show w2 b (pl x + 1) < 2 ^ 31 by omega)]
    simp (disch := omega) only [eqN]
    by_cases z : kd (w2 b (pl x + 1)) = 1
    · rw [if_pos z, l1]
      exact ⟨fun _ => z, fun w => by omega, fun w => by omega⟩
    · rw [if_neg z, l0]
      exact fun w => z (w.1 q1)
  · simp only [if_neg q1]
    by_cases q2 : kd x = 10
    · have hw1 := hw.1 (by omega)
      have hw2 := hw.2 (by omega)
      have k1 := h.2.2.2.1 (w2 b (pl x + 1))
      have k2 := h.2.2.2.1 (w2 b (pl x + 3))
      simp only [if_pos q2, X_first h hB (x := x) (by omega), X_second h hB (x := x) (by omega), Option.bind_some, X_kindOf h (show w2 b (pl x + 1) < 2 ^ 31 by omega), X_kindOf h (show w2 b (pl x + 3) < 2 ^ 31 by omega)]
      simp (disch := omega) only [eqN]
      by_cases z : kd (w2 b (pl x + 1)) = 7
      · by_cases z2 : kd (w2 b (pl x + 3)) = 12
        · rw [if_pos z, if_pos z2, l1]
          exact ⟨fun w => by omega, fun _ => ⟨z, z2⟩, fun w => by omega⟩
        · rw [if_pos z, if_neg z2, l0]
          exact fun w => z2 (w.2.1 q2).2
      · rw [if_neg z, l0]
        exact fun w => z (w.2.1 q2).1
    · simp only [if_neg q2]
      by_cases q3 : kd x = 12
      · have hw1 := hw.1 (by omega)
        have hw2 := hw.2 (by omega)
        have k1 := h.2.2.2.1 (w2 b (pl x + 1))
        have k2 := h.2.2.2.1 (w2 b (pl x + 3))
        simp only [if_pos q3, X_first h hB (x := x) (by omega), X_second h hB (x := x) (by omega), Option.bind_some, X_kindOf h (show w2 b (pl x + 1) < 2 ^ 31 by omega), X_kindOf h (show w2 b (pl x + 3) < 2 ^ 31 by omega)]
        simp (disch := omega) only [eqN]
        by_cases z : kd (w2 b (pl x + 1)) = 1
        · by_cases z2 : kd (w2 b (pl x + 3)) = 1
          · rw [if_pos z, if_pos z2, l1]
            exact ⟨fun w => by omega, fun w => by omega, fun _ => ⟨z, z2⟩⟩
          · rw [if_pos z, if_neg z2, l0]
            exact fun w => z2 (w.2.2 q3).2
        · rw [if_neg z, l0]
          exact fun w => z (w.2.2 q3).1
      · rw [if_neg q3, l1]
        exact ⟨fun w => absurd w q1, fun w => absurd w q2, fun w => absurd w q3⟩
theorem M_refs {b : Nat → Nat} {n N : Nat} {kd pl : Nat → Nat} {u v : St} (h : PQ b n N kd pl u v) (hb : ∀ j, j < n → b j < 256) {x : Nat} (h1 : 1 ≤ x) (h2 : x ≤ N) : f_X7_names (nI x) v = some (bI (rOK b kd pl x)) := by
  have hk := h.2.2.2.1 x
  have hN := h.2.2.1
  have hw := h.wl (x := x) hb
  obtain ⟨-, -, -, -, -, h6, h7, h8, h9, h10⟩ := id h
  unfold f_X7_names f_X7_names_j22 f_X7_names_j79 f_X7_names_j80 f_X7_names_j120 f_X7_names_j124 f_X7_names_j125
  rw [cl_nI (by omega), (h6 x h1 h2).2]
  simp (disch := omega) only [chkN, L0, L1, L7, L8, L10, L12, eqN]
  have b0 : ∀ {α : Type} {k : Option α}, bchk (nI 0) k = k := fun {α k} => bchk_0
  have b1 : ∀ {α : Type} {k : Option α}, bchk (nI 1) k = k := fun {α k} => bchk_1
  have l0 : ∀ {p : Prop}, ¬ p → bI p = nI 0 := fun z => bI_f z
  have l1 : ∀ {p : Prop}, p → bI p = nI 1 := fun z => bI_t z
  have zz : ∀ {p : Prop}, (bI p = nI 0) = ¬ p := fun {p} => propext bI_0
  simp only [b0, b1]
  by_cases q1 : kd x = 7 ∨ kd x = 8
  · have hw1 := hw.1 (by omega)
    have g := (h9 x q1).2
    simp only [g, M_is h (show w2 b (pl x + 1) < 2 ^ 31 by omega) (show 1 ≠ 0 by omega) (by omega), Option.bind_some, bchk_bI]
    have : (bI (kd (w2 b (pl x + 1)) = 1)) = bI (rOK b kd pl x) := bI_c ⟨fun z => ⟨fun _ => z, fun w => by omega, fun w => by omega⟩, fun w => w.1 q1⟩
    rw [this]
    rcases q1 with q1 | q1
    · rw [if_pos q1]
    · rw [if_neg (by omega), if_pos q1]
  · have q7 : ¬ kd x = 7 := fun z => q1 (Or.inl z)
    have q8 : ¬ kd x = 8 := fun z => q1 (Or.inr z)
    simp only [if_neg q7, if_neg q8]
    by_cases q2 : kd x = 10
    · have hw1 := hw.1 (by omega)
      have hw2 := hw.2 (by omega)
      obtain ⟨-, g1, g2⟩ := h10 x (Or.inl q2)
      simp only [if_pos q2, g1, g2, M_is h (show w2 b (pl x + 1) < 2 ^ 31 by omega) (show 7 ≠ 0 by omega) (by omega), M_is h (show w2 b (pl x + 3) < 2 ^ 31 by omega) (show 12 ≠ 0 by omega) (by omega), Option.bind_some, zz]
      by_cases z : kd (w2 b (pl x + 1)) = 7
      · by_cases z2 : kd (w2 b (pl x + 3)) = 12
        · rw [if_neg (fun w => w z), if_neg (fun w => w z2), l1]
          exact ⟨fun w => by omega, fun _ => ⟨z, z2⟩, fun w => by omega⟩
        · rw [if_neg (fun w => w z), if_pos z2, l0]
          exact fun w => z2 (w.2.1 q2).2
      · rw [if_pos z, l0]
        exact fun w => z (w.2.1 q2).1
    · simp only [if_neg q2]
      by_cases q3 : kd x = 12
      · have hw1 := hw.1 (by omega)
        have hw2 := hw.2 (by omega)
        obtain ⟨-, g1, g2⟩ := h10 x (Or.inr q3)
        simp only [if_pos q3, g1, g2, M_is h (show w2 b (pl x + 1) < 2 ^ 31 by omega) (show 1 ≠ 0 by omega) (by omega), M_is h (show w2 b (pl x + 3) < 2 ^ 31 by omega) (show 1 ≠ 0 by omega) (by omega), Option.bind_some, zz]
        by_cases z : kd (w2 b (pl x + 1)) = 1
        · by_cases z2 : kd (w2 b (pl x + 3)) = 1
          · rw [if_neg (fun w => w z), if_neg (fun w => w z2), l1]
            exact ⟨fun w => by omega, fun w => by omega, fun _ => ⟨z, z2⟩⟩
          · rw [if_neg (fun w => w z), if_pos z2, l0]
            exact fun w => z2 (w.2.2 q3).2
        · rw [if_pos z, l0]
          exact fun w => z (w.2.2 q3).1
      · rw [if_neg q3, l1]
        exact ⟨fun w => absurd w q1, fun w => absurd w q2, fun w => absurd w q3⟩
