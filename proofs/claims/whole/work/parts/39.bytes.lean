/-- comparing longs -/
theorem lc_pos (a c : Int64) : 0 < lg_cmp a c ↔ c.toInt < a.toInt := by
  unfold lg_cmp
  rw [← Int64.lt_iff_toInt_lt]
  by_cases q : c < a
  · rw [if_pos q]; exact ⟨fun _ => q, fun _ => by decide⟩
  · rw [if_neg q]
    by_cases q2 : a = c
    · rw [if_pos q2]; exact ⟨fun z => absurd z (by decide), fun z => absurd z q⟩
    · rw [if_neg q2]; exact ⟨fun z => absurd z (by decide), fun z => absurd z q⟩
theorem lc_le (a c : Int64) : lg_cmp a c ≤ 0 ↔ a.toInt ≤ c.toInt := by
  have h := lc_pos a c
  constructor
  · intro z
    rcases Int.lt_or_le c.toInt a.toInt with y | y
    · exact absurd (h.mpr y) (Int32.not_lt.mpr z)
    · exact y
  · intro z
    exact Int32.not_lt.mp (fun y => by have := h.mp y; omega)
theorem lc_neg (a c : Int64) : lg_cmp a c < 0 ↔ a.toInt < c.toInt := by
  unfold lg_cmp
  by_cases q : c < a
  · rw [if_pos q]
    have := Int64.lt_iff_toInt_lt.mp q
    exact ⟨fun z => absurd z (by decide), fun z => by omega⟩
  · rw [if_neg q]
    by_cases q2 : a = c
    · rw [if_pos q2]; exact ⟨fun z => absurd z (by decide), fun z => by rw [q2] at z; omega⟩
    · rw [if_neg q2]
      have h1 : ¬ c.toInt < a.toInt := fun z => q (Int64.lt_iff_toInt_lt.mpr z)
      have h2 : ¬ a.toInt = c.toInt := fun z => q2 (Int64.toInt_inj.mp z)
      exact ⟨fun _ => by omega, fun _ => by decide⟩
theorem lc_nn (a c : Int64) : 0 ≤ lg_cmp a c ↔ c.toInt ≤ a.toInt := by
  have h := lc_neg a c
  constructor
  · intro z
    rcases Int.lt_or_le a.toInt c.toInt with y | y
    · exact absurd (h.mpr y) (Int32.not_lt.mpr z)
    · exact y
  · intro z
    exact Int32.not_lt.mp (fun y => by have := h.mp y; omega)
/-- how many jumps a table has, less one -/
def tbd (x y : Int32) : Option Nat := if x.toInt ≤ y.toInt ∧ y.toInt - x.toInt < 8 then some (y.toInt - x.toInt).toNat else none
theorem d64 (x y : Int32) : (y.toInt64 - x.toInt64).toInt = y.toInt - x.toInt := by
  have h1 := Int32.le_toInt x
  have h2 := Int32.toInt_lt x
  have h3 := Int32.le_toInt y
  have h4 := Int32.toInt_lt y
  rw [Int64.toInt_sub, Int32.toInt_toInt64, Int32.toInt_toInt64]
  exact Int.bmod_eq_of_le (by omega) (by omega)
theorem tb_d {x y : Int32} {d : Nat} (h : tbd x y = some d) : d < 8 ∧ y.toInt64 - x.toInt64 = lN d ∧ y - x = nI d := by
  unfold tbd at h
  by_cases q : x.toInt ≤ y.toInt ∧ y.toInt - x.toInt < 8
  · rw [if_pos q] at h
    cases h
    refine ⟨by omega, ?_, ?_⟩
    · rw [← Int64.toInt_inj, d64, pk_lT (by omega)]
      omega
    · have hh : ((y.toInt - x.toInt).toNat : Int) = y.toInt - x.toInt := by omega
      rw [← Int32.toInt_inj, nI_toInt (by omega), hh, Int32.toInt_sub]
      exact Int.bmod_eq_of_le (by omega) (by omega)
  · rw [if_neg q] at h
    cases h
theorem tb_X {α : Type} (x y : Int32) (A : α) (F : Int32 → α) : (if 0 < lg_cmp x.toInt64 y.toInt64 then A else if lg_cmp (y.toInt64 - x.toInt64) 8 < 0 then F ((y.toInt64 - x.toInt64 + 1).toInt32) else A) = match tbd x y with | none => A | some d => F (nI (d + 1)) := by
  have e1 : (0 < lg_cmp x.toInt64 y.toInt64) ↔ y.toInt < x.toInt := by rw [lc_pos, Int32.toInt_toInt64, Int32.toInt_toInt64]
  have e2 : (lg_cmp (y.toInt64 - x.toInt64) 8 < 0) ↔ y.toInt - x.toInt < 8 := by rw [lc_neg, d64]; exact Iff.rfl
  cases h : tbd x y with
  | none =>
    unfold tbd at h
    by_cases q : x.toInt ≤ y.toInt ∧ y.toInt - x.toInt < 8
    · rw [if_pos q] at h; cases h
    · by_cases z : y.toInt < x.toInt
      · rw [if_pos (e1.mpr z)]
      · rw [if_neg (fun t => z (e1.mp t)), if_neg (fun t => q ⟨by omega, e2.mp t⟩)]
  | some d =>
    have hd := tb_d h
    unfold tbd at h
    by_cases q : x.toInt ≤ y.toInt ∧ y.toInt - x.toInt < 8
    · rw [if_neg (fun t => by have := e1.mp t; omega), if_pos (e2.mpr q.2), hd.2.1, lN_1, lN_i]
    · rw [if_neg q] at h; cases h
theorem tb_M {α : Type} (x y : Int32) (A : α) (F : Int32 → α) : (if 0 < lg_cmp x.toInt64 y.toInt64 then A else if lg_cmp (y.toInt64 - x.toInt64) 7 ≤ 0 then F ((y.toInt64 - x.toInt64 + 1).toInt32) else A) = match tbd x y with | none => A | some d => F (nI (d + 1)) := by
  rw [← tb_X]
  have e2 : (lg_cmp (y.toInt64 - x.toInt64) 8 < 0) ↔ y.toInt - x.toInt < 8 := by rw [lc_neg, d64]; exact Iff.rfl
  have e3 : (lg_cmp (y.toInt64 - x.toInt64) 7 ≤ 0) ↔ y.toInt - x.toInt ≤ 7 := by rw [lc_le, d64]; exact Iff.rfl
  by_cases q : y.toInt - x.toInt < 8
  · rw [if_pos (e2.mpr q), if_pos (e3.mpr (by omega))]
  · rw [if_neg (show ¬ lg_cmp (y.toInt64 - x.toInt64) 8 < 0 from fun t => q (e2.mp t)), if_neg (show ¬ lg_cmp (y.toInt64 - x.toInt64) 7 ≤ 0 from fun t => q (by have := e3.mp t; omega))]
/-- a CODE -/
def CQ (n B C L H : Nat) (u v : St) : Prop := u 9 0 = nI B ∧ u 10 0 = nI C ∧ u 11 0 = nI L ∧ u 13 0 = nI H ∧ v 10 0 = nI B ∧ v 11 0 = nI C ∧ v 12 0 = nI L ∧ v 13 0 = nI (B + C + 2) ∧ v 14 0 = nI H ∧ 1 ≤ C ∧ C ≤ 64 ∧ L < 65536 ∧ B + C + 2 + 8 * H ≤ n
theorem M_byteAt {b : Nat → Nat} {n B C L H : Nat} {u v : St} (h : CQ n B C L H u v) (hB : BM v b n) {p : Nat} (hp : p < C) : f_X7_byteAt (nI p) v = some (nI (b (B + p))) := by
  obtain ⟨-, -, -, -, g1, g2, -, -, -, g5, g6, g7, g8⟩ := h
  have hn := hB.1
  unfold f_X7_byteAt f_X7_byteAt_j23
  rw [g1, g2, if_neg (nI_ge hp (by omega)), nI_add, chkN (by omega) (by omega), cl_nI (by omega), (hB.2 (B + p) (by omega)).1]
theorem M_byteAt0 {n B C L H : Nat} {u v : St} (h : CQ n B C L H u v) {p : Nat} (hp : C ≤ p) (hp2 : p < 2 ^ 31) : f_X7_byteAt (nI p) v = some 0 := by
  obtain ⟨-, -, -, -, g1, g2, -⟩ := h
  unfold f_X7_byteAt f_X7_byteAt_j23
  rw [g2, if_pos (nI_le hp hp2)]
theorem M_shortAt {b : Nat → Nat} {n B C L H : Nat} {u v : St} (h : CQ n B C L H u v) (hB : BM v b n) {p : Nat} (hp : p + 1 < C) : f_X7_shortAt (nI p) v = some (nI (w2 b (B + p))) := by
  unfold f_X7_shortAt
  rw [bd_some (M_byteAt h hB (by omega)), nI_1, bd_some (M_byteAt h hB hp), show (256 : Int32) = nI 256 from rfl, pk_mul, nI_add]
  rfl
theorem M_wordAt {b : Nat → Nat} {n B C L H : Nat} {u v : St} (h : CQ n B C L H u v) (hB : BM v b n) {p : Nat} (hp : p + 3 < C) : f_X7_wordAt (nI p) v = some (nI (w4 b (B + p))) := by
  have g8 := h.2.2.2.2.2.2.2.2.2.2.2.2
  have hw := w2_lt (b := b) (n := n) (i := B + p + 2) (fun j hj => (hB.2 j hj).2) (by omega)
  unfold f_X7_wordAt
  rw [bd_some (M_shortAt h hB (by omega)), L2, nI_add, bd_some (M_shortAt h hB (by omega)), L16, shl_nI _ (by omega)]
  show some (nI (w2 b (B + p) * 2 ^ 16) ||| nI (w2 b (B + p + 2))) = _
  rw [or_lo (by omega)]
  congr 2
  unfold w2 w4
  rw [show B + p + 2 + 1 = B + p + 3 from rfl]
  omega
def tO (p : Nat) : Nat := (p + 4) / 4 * 4
theorem X_tableOf {u : St} {p : Nat} (hp : p < 1000) : f_X0_tableOf (nI p) u = some (nI (tO p)) := by
  unfold f_X0_tableOf tO
  rw [L4, nI_add, pk_div (by omega) (by omega) (by omega), pk_mul]
theorem M_tableAt {v : St} {p : Nat} (hp : p < 1000) : f_X7_tableAt (nI p) v = some (nI (tO p)) := by
  unfold f_X7_tableAt tO
  rw [L4, nI_add, pk_rem (by omega) (by omega) (by omega), pk_sub (by omega)]
  congr 2
  omega
/-- the size of an instruction, 0 if there is none -/
def szO (b : Nat → Nat) (B C p : Nat) : Nat :=
  if b (B + p) = 0 ∨ b (B + p) = 1 ∨ b (B + p) = 3 ∨ b (B + p) = 87 ∨ b (B + p) = 96 ∨ b (B + p) = 172 ∨ b (B + p) = 177 ∨ b (B + p) = 191 then 1
  else if b (B + p) = 16 ∨ b (B + p) = 18 ∨ b (B + p) = 21 ∨ b (B + p) = 54 then 2
  else if b (B + p) = 17 ∨ b (B + p) = 132 ∨ b (B + p) = 153 ∨ b (B + p) = 167 ∨ b (B + p) = 184 then 3
  else if b (B + p) = 170 then (if tO p + 12 ≤ C then (match tbd (nI (w4 b (B + tO p + 4))) (nI (w4 b (B + tO p + 8))) with | none => 0 | some d => tO p + 12 + 4 * (d + 1) - p) else 0)
  else if b (B + p) = 196 then (if p + 1 < C then (if b (B + p + 1) = 21 ∨ b (B + p + 1) = 54 then 4 else if b (B + p + 1) = 132 then 6 else 0) else 0)
  else 0
theorem szO_lt {b : Nat → Nat} {B C p : Nat} (hp : p < 64) (hC : C ≤ 64) : szO b B C p < 1000 := by
  unfold szO
  have : tO p ≤ p + 4 := by unfold tO; omega
  split
  · omega
  · split
    · omega
    · split
      · omega
      · split
        · split
          · cases h : tbd (nI (w4 b (B + tO p + 4))) (nI (w4 b (B + tO p + 8))) with
            | none => show 0 < 1000; omega
            | some d => have := (tb_d h).1; show tO p + 12 + 4 * (d + 1) - p < 1000; omega
          · omega
        · split
          · split
            · split
              · omega
              · split <;> omega
            · omega
          · omega
theorem X_sizeOf {b : Nat → Nat} {n B C L H : Nat} {u v : St} (h : CQ n B C L H u v) (hB : BX u b n) {p : Nat} (hp : p < C) : f_X0_sizeOf (nI p) u = some (nI (szO b B C p)) := by
  obtain ⟨g1, g2, g3, g4, -, -, -, -, -, g5, g6, g7, g8⟩ := h
  have hn := hB.1
  obtain ⟨e1, e2⟩ := hB.2 (B + p) (by omega)
  have tO1 : tO p ≤ p + 4 := by unfold tO; omega
  have tO2 : p < tO p := by unfold tO; omega
  unfold f_X0_sizeOf f_X0_tableSize f_X0_tableSize_j72 f_X0_wideSize szO
  simp only [g1, g2, nI_add, chkN (show B + p < 400 by omega) (show 400 < 2 ^ 31 by omega), cl_nI (show B + p < 2 ^ 31 by omega), e1, X_tableOf (show p < 1000 by omega), Option.bind_some]
  simp (disch := omega) only [L0, L1, L3, L87, L96, L172, L177, L191, L16, L18, L21, L54, L17, L132, L153, L167, L184, L170, L196, L12, nI_add, eqN, leN, ltN]
  by_cases q1 : b (B + p) = 0 ∨ b (B + p) = 1 ∨ b (B + p) = 3 ∨ b (B + p) = 87 ∨ b (B + p) = 96 ∨ b (B + p) = 172 ∨ b (B + p) = 177 ∨ b (B + p) = 191
  · rw [if_pos q1, if_pos q1]
  rw [if_neg q1, if_neg q1]
  by_cases q2 : b (B + p) = 16 ∨ b (B + p) = 18 ∨ b (B + p) = 21 ∨ b (B + p) = 54
  · rw [if_pos q2, if_pos q2]; rfl
  rw [if_neg q2, if_neg q2]
  by_cases q3 : b (B + p) = 17 ∨ b (B + p) = 132 ∨ b (B + p) = 153 ∨ b (B + p) = 167 ∨ b (B + p) = 184
  · rw [if_pos q3, if_pos q3]
  rw [if_neg q3, if_neg q3]
  by_cases q4 : b (B + p) = 170
  · rw [if_pos q4, if_pos q4]
    by_cases q5 : tO p + 12 ≤ C
    · rw [if_pos q5, if_pos q5]
      have u4 : f_X1_u4 (nI (B + tO p) + 4) u = some (nI (w4 b (B + tO p + 4))) := by rw [L4, nI_add]; exact X_u4 hB (by omega)
      have u8 : f_X1_u4 (nI (B + tO p) + 8) u = some (nI (w4 b (B + tO p + 8))) := by rw [L8, nI_add]; exact X_u4 hB (by omega)
      rw [bd_some u4, bd_some u8]
      have key := tb_X (nI (w4 b (B + tO p + 4))) (nI (w4 b (B + tO p + 8))) (some (nI 0)) (fun z => some (nI (tO p + 12) + 4 * z - nI p))
      refine (congrArg (fun o => Option.bind o (fun q3 => some q3)) key).trans ?_
      cases ht : tbd (nI (w4 b (B + tO p + 4))) (nI (w4 b (B + tO p + 8))) with
      | none => rfl
      | some d =>
        show some (nI (tO p + 12) + 4 * nI (d + 1) - nI p) = some (nI (tO p + 12 + 4 * (d + 1) - p))
        rw [L4, pk_mul, nI_add, pk_sub (by omega)]
    · rw [if_neg q5, if_neg q5]; rfl
  rw [if_neg q4, if_neg q4]
  by_cases q6 : b (B + p) = 196
  · rw [if_pos q6, if_pos q6]
    by_cases q7 : p + 1 < C
    · obtain ⟨f1, f2⟩ := hB.2 (B + p + 1) (by omega)
      rw [if_pos q7, if_pos q7]
      simp only [chkN (show B + p + 1 < 400 by omega) (show 400 < 2 ^ 31 by omega), cl_nI (show B + p + 1 < 2 ^ 31 by omega), f1]
      simp (disch := omega) only [eqN]
      by_cases q8 : b (B + p + 1) = 21 ∨ b (B + p + 1) = 54
      · rw [if_pos q8, if_pos q8]; rfl
      · rw [if_neg q8, if_neg q8]
        by_cases q9 : b (B + p + 1) = 132
        · rw [if_pos q9, if_pos q9]; rfl
        · rw [if_neg q9, if_neg q9]; rfl
    · rw [if_neg q7, if_neg q7]; rfl
  · rw [if_neg q6, if_neg q6]
theorem M_size {b : Nat → Nat} {n B C L H : Nat} {u v : St} (h : CQ n B C L H u v) (hB : BM v b n) {p : Nat} (hp : p < C) : f_X7_size (nI p) v = some (if szO b B C p = 0 then -1 else nI (szO b B C p)) := by
  obtain ⟨-, -, -, -, -, g2, -, -, -, g5, g6, g7, g8⟩ := id h
  have hn := hB.1
  have e2 := (hB.2 (B + p) (by omega)).2
  have tO1 : tO p ≤ p + 4 := by unfold tO; omega
  have tO2 : p < tO p := by unfold tO; omega
  unfold f_X7_size f_X7_size_j304 f_X7_size_j283 f_X7_size_j223 f_X7_size_j206 szO
  simp only [M_byteAt h hB hp, M_tableAt (show p < 1000 by omega), Option.bind_some, g2]
  simp (disch := omega) only [L0, L1, L3, L87, L96, L172, L177, L191, L16, L18, L21, L54, L17, L132, L153, L167, L184, L170, L196, L12, nI_add, eqN, leN, ltN]
  by_cases q1 : b (B + p) = 0 ∨ b (B + p) = 1 ∨ b (B + p) = 3 ∨ b (B + p) = 87 ∨ b (B + p) = 96 ∨ b (B + p) = 172 ∨ b (B + p) = 177 ∨ b (B + p) = 191
  · rw [if_pos q1, if_pos q1, if_neg (by omega)]
  rw [if_neg q1, if_neg q1]
  by_cases q2 : b (B + p) = 16 ∨ b (B + p) = 18 ∨ b (B + p) = 21 ∨ b (B + p) = 54
  · rw [if_pos q2, if_pos q2, if_neg (by omega)]; rfl
  rw [if_neg q2, if_neg q2]
  by_cases q3 : b (B + p) = 17 ∨ b (B + p) = 132 ∨ b (B + p) = 153 ∨ b (B + p) = 167 ∨ b (B + p) = 184
  · rw [if_pos q3, if_pos q3, if_neg (by omega)]
  rw [if_neg q3, if_neg q3]
  by_cases q4 : b (B + p) = 170
  · rw [if_pos q4, if_pos q4]
    by_cases q5 : tO p + 12 ≤ C
    · rw [if_pos q5, if_pos q5]
      have u4 : f_X7_wordAt (nI (tO p) + 4) v = some (nI (w4 b (B + tO p + 4))) := by rw [L4, nI_add]; exact M_wordAt h hB (by omega)
      have u8 : f_X7_wordAt (nI (tO p) + 8) v = some (nI (w4 b (B + tO p + 8))) := by rw [L8, nI_add]; exact M_wordAt h hB (by omega)
      rw [bd_some u4, bd_some u8]
      have key := tb_M (nI (w4 b (B + tO p + 4))) (nI (w4 b (B + tO p + 8))) (some (-1 : Int32)) (fun z => some (nI (tO p + 12) + 4 * z - nI p))
      refine key.trans ?_
      cases ht : tbd (nI (w4 b (B + tO p + 4))) (nI (w4 b (B + tO p + 8))) with
      | none => rfl
      | some d =>
        show some (nI (tO p + 12) + 4 * nI (d + 1) - nI p) = some (if tO p + 12 + 4 * (d + 1) - p = 0 then -1 else nI (tO p + 12 + 4 * (d + 1) - p))
        rw [if_neg (by omega), L4, pk_mul, nI_add, pk_sub (by omega)]
    · rw [if_neg q5, if_neg q5, if_pos rfl]
  rw [if_neg q4, if_neg q4]
  by_cases q6 : b (B + p) = 196
  · rw [if_pos q6, if_pos q6]
    by_cases q7 : p + 1 < C
    · have f2 := (hB.2 (B + p + 1) (by omega)).2
      rw [if_pos q7, bd_some (M_byteAt h hB q7)]
      rw [if_pos q7, show B + (p + 1) = B + p + 1 by omega]
      simp (disch := omega) only [eqN]
      by_cases q8 : b (B + p + 1) = 21 ∨ b (B + p + 1) = 54
      · rw [if_pos q8]
        rcases q8 with q8 | q8
        · rw [if_pos q8]; rfl
        · rw [if_neg (by omega), if_pos q8]; rfl
      · rw [if_neg q8, if_neg (fun z => q8 (Or.inl z)), if_neg (fun z => q8 (Or.inr z))]
        by_cases q9 : b (B + p + 1) = 132
        · rw [if_pos q9, if_pos q9]; rfl
        · rw [if_neg q9, if_neg q9]; rfl
    · rw [bd_some (M_byteAt0 h (by omega) (by omega)), if_neg q7, if_neg q7]; rfl
  · rw [if_neg q6, if_neg q6]; rfl
