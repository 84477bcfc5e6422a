/-- operands -/
def opOK (b kd : Nat → Nat) (B L p : Nat) : Prop := (b (B + p) = 18 → kd (b (B + p + 1)) = 3 ∨ kd (b (B + p + 1)) = 8) ∧ (b (B + p) = 21 ∨ b (B + p) = 54 ∨ b (B + p) = 132 → b (B + p + 1) < L) ∧ (b (B + p) = 184 → kd (w2 b (B + p + 1)) = 10) ∧ (b (B + p) = 196 → w2 b (B + p + 2) < L)
theorem szO_op {b : Nat → Nat} {B C p : Nat} (h0 : szO b B C p ≠ 0) (h : p + szO b B C p ≤ C) : (b (B + p) = 18 ∨ b (B + p) = 21 ∨ b (B + p) = 54 → p + 1 < C) ∧ (b (B + p) = 132 ∨ b (B + p) = 153 ∨ b (B + p) = 167 ∨ b (B + p) = 184 → p + 2 < C) ∧ (b (B + p) = 196 → p + 3 < C) ∧ (b (B + p) = 170 → ∃ d, tbd (nI (w4 b (B + tO p + 4))) (nI (w4 b (B + tO p + 8))) = some d ∧ tO p + 12 + 4 * (d + 1) ≤ C) := by
  unfold szO at h0 h
  refine ⟨fun z => ?_, fun z => ?_, fun z => ?_, fun z => ?_⟩
  · rw [if_neg (by omega), if_pos (by omega)] at h
    omega
  · rw [if_neg (by omega), if_neg (by omega), if_pos (by omega)] at h
    omega
  · rw [if_neg (by omega), if_neg (by omega), if_neg (by omega), if_neg (by omega), if_pos z] at h0 h
    by_cases q : p + 1 < C
    · rw [if_pos q] at h0 h
      by_cases q8 : b (B + p + 1) = 21 ∨ b (B + p + 1) = 54
      · rw [if_pos q8] at h; omega
      · rw [if_neg q8] at h0 h
        by_cases q9 : b (B + p + 1) = 132
        · rw [if_pos q9] at h; omega
        · rw [if_neg q9] at h0; exact absurd rfl h0
    · rw [if_neg q] at h0; exact absurd rfl h0
  · rw [if_neg (by omega), if_neg (by omega), if_neg (by omega), if_pos z] at h0 h
    by_cases q : tO p + 12 ≤ C
    · rw [if_pos q] at h0 h
      cases ht : tbd (nI (w4 b (B + tO p + 4))) (nI (w4 b (B + tO p + 8))) with
      | none => rw [ht] at h0; exact absurd rfl h0
      | some d =>
        rw [ht] at h
        have h : p + (tO p + 12 + 4 * (d + 1) - p) ≤ C := h
        have : p < tO p := by unfold tO; omega
        exact ⟨d, rfl, by omega⟩
    · rw [if_neg q] at h0; exact absurd rfl h0
theorem X_opers {b : Nat → Nat} {n N B C L H : Nat} {kd pl : Nat → Nat} {u v : St} (hP : PQ b n N kd pl u v) (h : CQ n B C L H u v) (hB : BX u b n) {p : Nat} (hp : p < C) (h0 : szO b B C p ≠ 0) (h1 : p + szO b B C p ≤ C) : f_X0_operandsFit (nI p) u = some (bI (opOK b kd B L p)) := by
  obtain ⟨g1, g2, g3, g4, -, -, -, -, -, g5, g6, g7, g8⟩ := h
  have hn := hB.1
  have hb : ∀ j, j < n → b j < 256 := fun j hj => (hB.2 j hj).2
  obtain ⟨e1, e2⟩ := hB.2 (B + p) (by omega)
  obtain ⟨s1, s2, s3, s4⟩ := szO_op h0 h1
  unfold f_X0_operandsFit f_X0_operandsFit_j121 f_X0_operandsFit_j126 f_X0_operandsFit_j148 f_X0_operandsFit_j174 f_X0_operandsFit_j197
  simp only [g1, g3, nI_add, nI_1, chkN (show B + p < 400 by omega) (show 400 < 2 ^ 31 by omega), cl_nI (show B + p < 2 ^ 31 by omega), e1, bchk_0, bchk_1]
  simp (disch := omega) only [L18, L21, L54, L132, L184, L196, eqN]
  by_cases q1 : b (B + p) = 18
  · obtain ⟨f1, f2⟩ := hB.2 (B + p + 1) (by have := s1 (Or.inl q1); omega)
    have hk := hP.2.2.2.1 (b (B + p + 1))
    have := s1 (Or.inl q1)
    simp only [if_pos q1, chkN (show B + p + 1 < 400 by omega) (show 400 < 2 ^ 31 by omega), cl_nI (show B + p + 1 < 2 ^ 31 by omega), f1, X_kindOf hP (show b (B + p + 1) < 2 ^ 31 by omega), Option.bind_some]
    simp (disch := omega) only [L3, L8, eqN]
    by_cases z1 : kd (b (B + p + 1)) = 3
    · rw [if_pos z1, bI_t]
      exact ⟨fun _ => Or.inl z1, fun y => by omega, fun y => by omega, fun y => by omega⟩
    · rw [if_neg z1]
      by_cases z2 : kd (b (B + p + 1)) = 8
      · rw [if_pos z2, bI_t]
        exact ⟨fun _ => Or.inr z2, fun y => by omega, fun y => by omega, fun y => by omega⟩
      · rw [if_neg z2, bI_f]
        intro y
        rcases y.1 q1 with y | y
        · exact z1 y
        · exact z2 y
  rw [if_neg q1]
  by_cases q2 : b (B + p) = 21 ∨ b (B + p) = 54 ∨ b (B + p) = 132
  · have hpC : p + 1 < C := by
      rcases q2 with z | z | z
      · exact s1 (Or.inr (Or.inl z))
      · exact s1 (Or.inr (Or.inr z))
      · have := s2 (Or.inl z); omega
    obtain ⟨f1, f2⟩ := hB.2 (B + p + 1) (by omega)
    simp only [if_pos q2, chkN (show B + p + 1 < 400 by omega) (show 400 < 2 ^ 31 by omega), cl_nI (show B + p + 1 < 2 ^ 31 by omega), f1]
    simp (disch := omega) only [leN]
    by_cases z : L ≤ b (B + p + 1)
    · rw [if_pos z, bI_f]
      intro y
      have := y.2.1 q2
      omega
    · rw [if_neg z, bI_t]
      exact ⟨fun y => absurd y q1, fun _ => by omega, fun y => by omega, fun y => by omega⟩
  rw [if_neg q2]
  by_cases q3 : b (B + p) = 184
  · have hpC := s2 (Or.inr (Or.inr (Or.inr q3)))
    have hw := w2_lt (i := B + p + 1) hb (by omega)
    have hk := hP.2.2.2.1 (w2 b (B + p + 1))
    simp only [if_pos q3, X_u2 hB (show B + p + 1 + 1 < n by omega), Option.bind_some, X_kindOf hP (show w2 b (B + p + 1) < 2 ^ 31 by omega)]
    simp (disch := omega) only [L10, eqN]
    by_cases z : kd (w2 b (B + p + 1)) = 10
    · rw [if_pos z, bI_t]
      exact ⟨fun y => absurd y q1, fun y => absurd y q2, fun _ => z, fun y => by omega⟩
    · rw [if_neg z, bI_f]
      exact fun y => z (y.2.2.1 q3)
  rw [if_neg q3]
  by_cases q4 : b (B + p) = 196
  · have hpC := s3 q4
    have hw := w2_lt (i := B + p + 2) hb (by omega)
    have eu : f_X1_u2 (nI (B + p + 1 + 1)) u = some (nI (w2 b (B + p + 2))) := X_u2 (i := B + p + 2) hB (by omega)
    simp only [if_pos q4, eu, Option.bind_some]
    simp (disch := omega) only [leN]
    by_cases z : L ≤ w2 b (B + p + 2)
    · rw [if_pos z, bI_f]
      intro y
      have := y.2.2.2 q4
      omega
    · rw [if_neg z, bI_t]
      exact ⟨fun y => absurd y q1, fun y => absurd y q2, fun y => absurd y q3, fun _ => by omega⟩
  · rw [if_neg q4, bI_t]
    exact ⟨fun y => absurd y q1, fun y => absurd y q2, fun y => absurd y q3, fun y => absurd y q4⟩
theorem M_opers {b : Nat → Nat} {n N B C L H : Nat} {kd pl : Nat → Nat} {u v : St} (hP : PQ b n N kd pl u v) (h : CQ n B C L H u v) (hB : BM v b n) {p : Nat} (hp : p < C) (h0 : szO b B C p ≠ 0) (h1 : p + szO b B C p ≤ C) : f_X7_operandFits (nI p) v = some (bI (opOK b kd B L p)) := by
  obtain ⟨-, -, -, -, -, -, g3, -, -, g5, g6, g7, g8⟩ := id h
  have hn := hB.1
  have hb : ∀ j, j < n → b j < 256 := fun j hj => (hB.2 j hj).2
  have e2 := (hB.2 (B + p) (by omega)).2
  obtain ⟨s1, s2, s3, s4⟩ := szO_op h0 h1
  unfold f_X7_operandFits f_X7_operandFits_j95 f_X7_operandFits_j100 f_X7_operandFits_j120 f_X7_operandFits_j154
  have ad2 : nI p + 2 = nI (p + 2) := nI_add p 2
  simp only [M_byteAt h hB hp, Option.bind_some, nI_1, ad2, g3, bchk_0, bchk_1]
  simp (disch := omega) only [L18, L21, L54, L132, L184, L196, eqN]
  by_cases q1 : b (B + p) = 18
  · have hpC := s1 (Or.inl q1)
    have f2 := (hB.2 (B + p + 1) (by omega)).2
    have eb : f_X7_byteAt (nI (p + 1)) v = some (nI (b (B + p + 1))) := M_byteAt h hB hpC
    have i3 : f_X7_is (nI (b (B + p + 1))) 3 v = some (bI (kd (b (B + p + 1)) = 3)) := M_is hP (t := 3) (by omega) (by omega) (by omega)
    have i8 : f_X7_is (nI (b (B + p + 1))) 8 v = some (bI (kd (b (B + p + 1)) = 8)) := M_is hP (t := 8) (by omega) (by omega) (by omega)
    simp only [if_pos q1, eb, i3, i8, Option.bind_some]
    by_cases z1 : kd (b (B + p + 1)) = 3
    · rw [if_neg (fun y => bI_0.mp y z1), bI_t (show opOK b kd B L p from ⟨fun _ => Or.inl z1, fun y => by omega, fun y => by omega, fun y => by omega⟩)]
    · rw [if_pos (bI_0.mpr z1)]
      by_cases z2 : kd (b (B + p + 1)) = 8
      · rw [if_neg (fun y => bI_0.mp y z2), bI_t (show opOK b kd B L p from ⟨fun _ => Or.inr z2, fun y => by omega, fun y => by omega, fun y => by omega⟩)]
      · rw [if_pos (bI_0.mpr z2), bI_f]
        intro y
        rcases y.1 q1 with y | y
        · exact z1 y
        · exact z2 y
  rw [if_neg q1]
  by_cases q2 : b (B + p) = 21 ∨ b (B + p) = 54 ∨ b (B + p) = 132
  · have hpC : p + 1 < C := by
      rcases q2 with z | z | z
      · exact s1 (Or.inr (Or.inl z))
      · exact s1 (Or.inr (Or.inr z))
      · have := s2 (Or.inl z); omega
    have f2 := (hB.2 (B + p + 1) (by omega)).2
    have eb : f_X7_byteAt (nI (p + 1)) v = some (nI (b (B + p + 1))) := M_byteAt h hB hpC
    simp only [if_pos q2, eb, Option.bind_some]
    simp (disch := omega) only [leN]
    by_cases z : L ≤ b (B + p + 1)
    · rw [if_pos z, bI_f]
      intro y
      have := y.2.1 q2
      omega
    · rw [if_neg z, bI_t]
      exact ⟨fun y => absurd y q1, fun _ => by omega, fun y => by omega, fun y => by omega⟩
  rw [if_neg q2]
  by_cases q3 : b (B + p) = 184
  · have hpC := s2 (Or.inr (Or.inr (Or.inr q3)))
    have hw := w2_lt (i := B + p + 1) hb (by omega)
    have eb : f_X7_shortAt (nI (p + 1)) v = some (nI (w2 b (B + p + 1))) := M_shortAt h hB (by omega)
    have i3 : f_X7_is (nI (w2 b (B + p + 1))) 10 v = some (bI (kd (w2 b (B + p + 1)) = 10)) := M_is hP (t := 10) (by omega) (by omega) (by omega)
    simp only [if_pos q3, eb, i3, Option.bind_some, bchk_bI]
    exact congrArg some (bI_c ⟨fun z => ⟨fun y => absurd y q1, fun y => absurd y q2, fun _ => z, fun y => by omega⟩, fun y => y.2.2.1 q3⟩)
  rw [if_neg q3]
  by_cases q4 : b (B + p) = 196
  · have hpC := s3 q4
    have hw := w2_lt (i := B + p + 2) hb (by omega)
    have eu : f_X7_shortAt (nI (p + 2)) v = some (nI (w2 b (B + p + 2))) := M_shortAt h hB (by omega)
    simp only [if_pos q4, eu, Option.bind_some]
    simp (disch := omega) only [leN]
    by_cases z : L ≤ w2 b (B + p + 2)
    · rw [if_pos z, bI_f]
      intro y
      have := y.2.2.2 q4
      omega
    · rw [if_neg z, bI_t]
      exact ⟨fun y => absurd y q1, fun y => absurd y q2, fun y => absurd y q3, fun _ => by omega⟩
  · rw [if_neg q4, bI_t]
    exact ⟨fun y => absurd y q1, fun y => absurd y q2, fun y => absurd y q3, fun y => absurd y q4⟩
