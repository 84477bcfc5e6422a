/-- a place where an instruction begins -/
def stP (C : Nat) (o : Nat → Nat) (K : Nat) (z : Int64) : Prop := ∃ j, j < C ∧ z = lN j ∧ ∃ i, i < K ∧ o i = j
theorem sp_cases {C : Nat} (hC : C ≤ 64) (z : Int64) : (z.toInt < 0 ∧ lg_cmp z 0 < 0) ∨ (¬ lg_cmp z 0 < 0 ∧ (C : Int) ≤ z.toInt ∧ 0 ≤ lg_cmp z (lN C)) ∨ (¬ lg_cmp z 0 < 0 ∧ ¬ 0 ≤ lg_cmp z (lN C) ∧ ∃ j, j < C ∧ z = lN j) := by
  have e0 : lg_cmp z 0 < 0 ↔ z.toInt < 0 := lc_neg z 0
  have e1 : 0 ≤ lg_cmp z (lN C) ↔ (C : Int) ≤ z.toInt := by rw [lc_nn, lN_toInt (by omega)]
  by_cases q : z.toInt < 0
  · exact Or.inl ⟨q, e0.mpr q⟩
  · right
    by_cases q2 : (C : Int) ≤ z.toInt
    · exact Or.inl ⟨fun y => q (e0.mp y), q2, e1.mpr q2⟩
    · refine Or.inr ⟨fun y => q (e0.mp y), fun y => q2 (e1.mp y), z.toInt.toNat, by omega, ?_⟩
      rw [← Int64.toInt_inj, pk_lT (by omega)]
      omega
theorem X_isI {u : St} {C K : Nat} {o : Nat → Nat} (hC : C ≤ 64) (h10 : u 10 0 = nI C) (h27 : ∀ q, q < C → u 27 q = bI (∃ i, i < K ∧ o i = q)) (z : Int64) : f_X0_isInstruction z u = some (bI (stP C o K z)) := by
  unfold f_X0_isInstruction f_X0_isInstruction_j30 f_X0_isInstruction_j31
  rw [h10, nI_l (by omega)]
  simp only [bchk_0, bchk_1]
  rcases sp_cases hC z with ⟨a, e⟩ | ⟨a, a2, e⟩ | ⟨a, a2, j, j1, j2⟩
  · rw [if_pos e, bI_f]
    rintro ⟨j, j1, j2, -⟩
    rw [j2, lN_toInt (by omega)] at a
    omega
  · rw [if_neg a, if_pos e, bI_f]
    rintro ⟨j, j1, j2, -⟩
    rw [j2, lN_toInt (by omega)] at a2
    omega
  · rw [if_neg a, if_neg a2, j2, lN_i, chkN (by omega) (by omega), cl_nI (by omega), h27 j j1]
    by_cases y : ∃ i, i < K ∧ o i = j
    · rw [if_neg (fun t => bI_0.mp t y), bI_t ⟨j, j1, rfl, y⟩]
    · rw [if_pos (bI_0.mpr y), bI_f]
      rintro ⟨j', j1', j2', i, i1, i2⟩
      have : j = j' := (lN_eq (by omega) (by omega)).mp j2'
      exact y ⟨i, i1, by omega⟩
theorem M_isS {v : St} {C K : Nat} {o : Nat → Nat} (hC : C ≤ 64) (h11 : v 11 0 = nI C) (h40 : ∀ q, q < C → v 40 q = bI (∃ i, i < K ∧ o i = q)) (z : Int64) : f_X7_isStart z v = some (bI (stP C o K z)) := by
  unfold f_X7_isStart f_X7_isStart_j30 f_X7_isStart_j31
  rw [h11, nI_l (by omega)]
  simp only [bchk_0, bchk_1]
  rcases sp_cases hC z with ⟨a, e⟩ | ⟨a, a2, e⟩ | ⟨a, a2, j, j1, j2⟩
  · rw [if_pos e, bI_f]
    rintro ⟨j, j1, j2, -⟩
    rw [j2, lN_toInt (by omega)] at a
    omega
  · rw [if_neg a, if_pos e, bI_f]
    rintro ⟨j, j1, j2, -⟩
    rw [j2, lN_toInt (by omega)] at a2
    omega
  · rw [if_neg a, if_neg a2, j2, lN_i, chkN (by omega) (by omega), cl_nI (by omega), h40 j j1]
    by_cases y : ∃ i, i < K ∧ o i = j
    · rw [if_neg (fun t => bI_0.mp t y), bI_t ⟨j, j1, rfl, y⟩]
    · rw [if_pos (bI_0.mpr y), bI_f]
      rintro ⟨j', j1', j2', i, i1, i2⟩
      have : j = j' := (lN_eq (by omega) (by omega)).mp j2'
      exact y ⟨i, i1, by omega⟩
/-- jumps -/
def jmpOK (b : Nat → Nat) (B C : Nat) (o : Nat → Nat) (K p : Nat) : Prop := (b (B + p) = 153 ∨ b (B + p) = 167 → stP C o K ((nI p + (nI (w2 b (B + p + 1))).toInt16.toInt32).toInt64)) ∧ (b (B + p) = 170 → stP C o K ((nI p).toInt64 + (nI (w4 b (B + tO p))).toInt64) ∧ ∀ d, tbd (nI (w4 b (B + tO p + 4))) (nI (w4 b (B + tO p + 8))) = some d → ∀ k, k < d + 1 → stP C o K ((nI p).toInt64 + (nI (w4 b (B + tO p + 12 + 4 * k))).toInt64))
theorem X_jumps {b : Nat → Nat} {n B C L H K p : Nat} {o : Nat → Nat} {u v : St} (h : CQ n B C L H u v) (hB : BX u b n) (h27 : ∀ q, q < C → u 27 q = bI (∃ i, i < K ∧ o i = q)) (hp : p < C) (h0 : szO b B C p ≠ 0) (h1 : p + szO b B C p ≤ C) : f_X0_jumpsFit (nI p) u = some (bI (jmpOK b B C o K p)) := by
  obtain ⟨g1, g2, g3, g4, -, -, -, -, -, g5, g6, g7, g8⟩ := id h
  have hn := hB.1
  obtain ⟨e1, e2⟩ := hB.2 (B + p) (by omega)
  obtain ⟨s1, s2, s3, s4⟩ := szO_op h0 h1
  have isI := X_isI (o := o) (K := K) g6 g2 h27
  unfold f_X0_jumpsFit f_X0_tableFits
  simp only [g1, nI_add, nI_1, chkN (show B + p < 400 by omega) (show 400 < 2 ^ 31 by omega), cl_nI (show B + p < 2 ^ 31 by omega), e1, X_tableOf (show p < 1000 by omega), Option.bind_some, isI]
  simp (disch := omega) only [L153, L167, L170, eqN]
  by_cases q1 : b (B + p) = 153 ∨ b (B + p) = 167
  · have hpC : p + 2 < C := by rcases q1 with z | z; exact s2 (Or.inr (Or.inl z)); exact s2 (Or.inr (Or.inr (Or.inl z)))
    rw [if_pos q1, bd_some (X_u2 hB (show B + p + 1 + 1 < n by omega)), bchk_bI]
    exact congrArg some (bI_c ⟨fun z => ⟨fun _ => z, fun y => by omega⟩, fun z => z.1 q1⟩)
  rw [if_neg q1]
  by_cases q2 : b (B + p) = 170
  rotate_left
  · rw [if_neg q2, bI_t (show jmpOK b B C o K p from ⟨fun z => absurd z q1, fun z => absurd z q2⟩)]
  obtain ⟨d, hd, hdC⟩ := s4 q2
  obtain ⟨d8, -, dI⟩ := tb_d hd
  have tO2 : p < tO p := by unfold tO; omega
  have u8 : f_X1_u4 (nI (B + tO p) + 8) u = some (nI (w4 b (B + tO p + 8))) := by rw [L8, nI_add]; exact X_u4 hB (by omega)
  have u4 : f_X1_u4 (nI (B + tO p) + 4) u = some (nI (w4 b (B + tO p + 4))) := by rw [L4, nI_add]; exact X_u4 hB (by omega)
  simp only [if_pos q2, X_u4 hB (show B + tO p + 3 < n by omega), Option.bind_some, u8, u4, dI, nI_1]
  by_cases c1 : stP C o K ((nI p).toInt64 + (nI (w4 b (B + tO p))).toInt64)
  rotate_left
  · rw [if_pos (bI_0.mpr c1)]
    show bchk 0 (some 0) = _
    rw [bchk_0, bI_f (show ¬ jmpOK b B C o K p from fun z => c1 (z.2 q2).1)]
  rw [if_neg (fun z => bI_0.mp z c1)]
  have key : ∀ k, 0 ≤ k → k < d + 1 → (stP C o K ((nI p).toInt64 + (nI (w4 b (B + tO p + 12 + 4 * k))).toInt64) ∧ f_X0_tableFits_b59 (nI p) (nI (B + tO p)) (nI (d + 1)) u (nI k) = some (.inr (nI (k + 1)))) ∨ (¬ stP C o K ((nI p).toInt64 + (nI (w4 b (B + tO p + 12 + 4 * k))).toInt64) ∧ f_X0_tableFits_b59 (nI p) (nI (B + tO p)) (nI (d + 1)) u (nI k) = some (.inl (.inl 0))) := by
    intro k _ k2
    have uk : f_X1_u4 (nI (B + tO p) + 12 + 4 * nI k) u = some (nI (w4 b (B + tO p + 12 + 4 * k))) := by rw [L12, L4, pk_mul, nI_add, nI_add]; exact X_u4 hB (by omega)
    unfold f_X0_tableFits_b59
    simp only [if_neg (nI_ge k2 (show d + 1 < 2 ^ 31 by omega)), uk, Option.bind_some, isI, nI_1]
    by_cases y : stP C o K ((nI p).toInt64 + (nI (w4 b (B + tO p + 12 + 4 * k))).toInt64)
    · exact Or.inl ⟨y, by rw [if_neg (fun t => bI_0.mp t y)]⟩
    · exact Or.inr ⟨y, by rw [if_pos (bI_0.mpr y)]⟩
  have he : f_X0_tableFits_b59 (nI p) (nI (B + tO p)) (nI (d + 1)) u (nI (d + 1)) = some (.inl (.inr ())) := by
    unfold f_X0_tableFits_b59
    rw [if_pos (nI_le (Nat.le_refl _) (by omega))]
  rcases loop_up (β := Int32 ⊕ Unit) (fun k => stP C o K ((nI p).toInt64 + (nI (w4 b (B + tO p + 12 + 4 * k))).toInt64)) (fun _ => .inl 0) (.inr ()) (Nat.zero_le (d + 1)) (by omega) key he with ⟨e, hh⟩ | ⟨k, k1, k2, k3, k4, e⟩
  · have e : loopF (f_X0_tableFits_b59 (nI p) (nI (B + tO p)) (nI (d + 1)) u) FU 0 = _ := e
    rw [e]
    show bchk 1 (some 1) = _
    rw [bchk_1, bI_t]
    refine ⟨fun z => absurd z q1, fun _ => ⟨c1, fun d2 hd2 k hk => ?_⟩⟩
    rw [hd] at hd2
    cases hd2
    exact hh k (Nat.zero_le _) hk
  · have e : loopF (f_X0_tableFits_b59 (nI p) (nI (B + tO p)) (nI (d + 1)) u) FU 0 = _ := e
    rw [e]
    show bchk 0 (some 0) = _
    rw [bchk_0, bI_f]
    exact fun z => k3 ((z.2 q2).2 d hd k k2)
theorem M_jumps {b : Nat → Nat} {n B C L H K p : Nat} {o : Nat → Nat} {u v : St} (h : CQ n B C L H u v) (hB : BM v b n) (h40 : ∀ q, q < C → v 40 q = bI (∃ i, i < K ∧ o i = q)) (hp : p < C) (h0 : szO b B C p ≠ 0) (h1 : p + szO b B C p ≤ C) : f_X7_jumpsFit (nI p) v = some (bI (jmpOK b B C o K p)) := by
  obtain ⟨-, -, -, -, -, g2, -, -, -, g5, g6, g7, g8⟩ := id h
  have hn := hB.1
  have e2 := (hB.2 (B + p) (by omega)).2
  obtain ⟨s1, s2, s3, s4⟩ := szO_op h0 h1
  have isI := M_isS (o := o) (K := K) g6 g2 h40
  unfold f_X7_jumpsFit f_X7_jumpsFit_j20
  simp only [M_byteAt h hB hp, Option.bind_some, nI_1, M_tableAt (show p < 1000 by omega), isI]
  simp (disch := omega) only [L153, L167, L170, eqN]
  by_cases q1 : b (B + p) = 153 ∨ b (B + p) = 167
  · have hpC : p + 2 < C := by rcases q1 with z | z; exact s2 (Or.inr (Or.inl z)); exact s2 (Or.inr (Or.inr (Or.inl z)))
    have es : f_X7_shortAt (nI (p + 1)) v = some (nI (w2 b (B + p + 1))) := M_shortAt h hB (by omega)
    simp only [es, Option.bind_some, bchk_bI]
    have : bI (stP C o K ((nI p + (nI (w2 b (B + p + 1))).toInt16.toInt32).toInt64)) = bI (jmpOK b B C o K p) := bI_c ⟨fun z => ⟨fun _ => z, fun y => by omega⟩, fun z => z.1 q1⟩
    rw [this]
    rcases q1 with z | z
    · rw [if_pos z]
    · rw [if_neg (by omega), if_pos z]
  rw [if_neg (fun z => q1 (Or.inl z)), if_neg (fun z => q1 (Or.inr z))]
  by_cases q2 : b (B + p) = 170
  rotate_left
  · rw [if_neg q2, bI_t (show jmpOK b B C o K p from ⟨fun z => absurd z q1, fun z => absurd z q2⟩)]
  obtain ⟨d, hd, hdC⟩ := s4 q2
  obtain ⟨d8, -, dI⟩ := tb_d hd
  have tO2 : p < tO p := by unfold tO; omega
  have u8 : f_X7_wordAt (nI (tO p) + 8) v = some (nI (w4 b (B + tO p + 8))) := by rw [L8, nI_add]; exact M_wordAt h hB (by omega)
  have u4 : f_X7_wordAt (nI (tO p) + 4) v = some (nI (w4 b (B + tO p + 4))) := by rw [L4, nI_add]; exact M_wordAt h hB (by omega)
  simp only [if_pos q2, M_wordAt h hB (show tO p + 3 < C by omega), Option.bind_some, u8, u4, dI, nI_1, isI]
  have main : ∀ m k N (f : Prop), k + m = d + 1 → m < N → loopF (f_X7_jumpsFit_b88 (nI p) (nI (tO p)) (nI (d + 1)) v) N (bI f, nI k) = some (.inr (bI (f ∧ ∀ j, k ≤ j → j < d + 1 → stP C o K ((nI p).toInt64 + (nI (w4 b (B + tO p + 12 + 4 * j))).toInt64)))) := by
    intro m
    induction m with
    | zero =>
      intro k N f a1 a2
      obtain ⟨N, rfl⟩ : ∃ z, N = z + 1 := ⟨N - 1, by omega⟩
      have e : f_X7_jumpsFit_b88 (nI p) (nI (tO p)) (nI (d + 1)) v (bI f, nI k) = some (.inl (.inr (bI f))) := by
        unfold f_X7_jumpsFit_b88
        rw [if_pos (show nI (d + 1) ≤ nI k from nI_le (by omega) (by omega))]
      rw [loopF_s e]
      show some (Sum.inr (bI f)) = _
      exact congrArg (fun z => some (Sum.inr z)) (bI_c ⟨fun z => ⟨z, fun j j1 j2 => by omega⟩, fun z => z.1⟩)
    | succ m ih =>
      intro k N f a1 a2
      obtain ⟨N, rfl⟩ : ∃ z, N = z + 1 := ⟨N - 1, by omega⟩
      have uk : f_X7_wordAt (nI (tO p) + 12 + 4 * nI k) v = some (nI (w4 b (B + tO p + 12 + 4 * k))) := by
        rw [L12, L4, pk_mul, nI_add, nI_add]
        have := M_wordAt h hB (p := tO p + 12 + 4 * k) (by omega)
        rw [show B + (tO p + 12 + 4 * k) = B + tO p + 12 + 4 * k by omega] at this
        exact this
      have e : f_X7_jumpsFit_b88 (nI p) (nI (tO p)) (nI (d + 1)) v (bI f, nI k) = some (.inr (bI (f ∧ stP C o K ((nI p).toInt64 + (nI (w4 b (B + tO p + 12 + 4 * k))).toInt64)), nI (k + 1))) := by
        unfold f_X7_jumpsFit_b88 f_X7_jumpsFit_j122_88
        simp only [if_neg (show ¬ nI (d + 1) ≤ nI k from nI_ge (by omega) (by omega)), uk, Option.bind_some, isI, nI_1]
        by_cases y : stP C o K ((nI p).toInt64 + (nI (w4 b (B + tO p + 12 + 4 * k))).toInt64)
        · rw [if_neg (fun t => bI_0.mp t y), bI_c (p := f ∧ stP C o K ((nI p).toInt64 + (nI (w4 b (B + tO p + 12 + 4 * k))).toInt64)) (q := f) ⟨fun z => z.1, fun z => ⟨z, y⟩⟩]
        · rw [if_pos (bI_0.mpr y), bI_f (p := f ∧ stP C o K ((nI p).toInt64 + (nI (w4 b (B + tO p + 12 + 4 * k))).toInt64)) (fun z => y z.2)]
      rw [loopF_s e]
      have := ih (k + 1) N (f ∧ stP C o K ((nI p).toInt64 + (nI (w4 b (B + tO p + 12 + 4 * k))).toInt64)) (by omega) (by omega)
      refine this.trans ?_
      refine congrArg (fun z => some (Sum.inr z)) (bI_c ⟨fun z => ⟨z.1.1, fun j j1 j2 => ?_⟩, fun z => ⟨⟨z.1, z.2 k (Nat.le_refl _) (by omega)⟩, fun j j1 j2 => z.2 j (by omega) j2⟩⟩)
      by_cases jk : j = k
      · rw [jk]; exact z.1.2
      · exact z.2 j (by omega) j2
  have e := main (d + 1) 0 FU (stP C o K ((nI p).toInt64 + (nI (w4 b (B + tO p))).toInt64)) (by omega) (by rw [FU_def]; omega)
  have e : loopF (f_X7_jumpsFit_b88 (nI p) (nI (tO p)) (nI (d + 1)) v) FU (bI (stP C o K ((nI p).toInt64 + (nI (w4 b (B + tO p))).toInt64)), 0) = _ := e
  rw [bd_some e]
  simp only [Sum.elim_inr, bchk_bI]
  refine congrArg some (bI_c ⟨fun z => ⟨fun y => absurd y q1, fun _ => ⟨z.1, fun d2 hd2 k hk => ?_⟩⟩, fun z => ⟨(z.2 q2).1, fun j _ j2 => (z.2 q2).2 d hd j j2⟩⟩)
  rw [hd] at hd2
  cases hd2
  exact z.2 k (Nat.zero_le _) hk
/-- handlers -/
def hdOK (b kd : Nat → Nat) (C : Nat) (o : Nat → Nat) (K q : Nat) : Prop := stP C o K (lN (w2 b q)) ∧ (w2 b (q + 2) = C ∨ stP C o K (lN (w2 b (q + 2)))) ∧ stP C o K (lN (w2 b (q + 4))) ∧ w2 b q < w2 b (q + 2) ∧ (w2 b (q + 6) = 0 ∨ kd (w2 b (q + 6)) = 7)
theorem X_handler {b : Nat → Nat} {n N B C L H K q : Nat} {kd pl o : Nat → Nat} {u v : St} (hP : PQ b n N kd pl u v) (h : CQ n B C L H u v) (hB : BX u b n) (h27 : ∀ q, q < C → u 27 q = bI (∃ i, i < K ∧ o i = q)) (hq : q + 8 ≤ n) : f_X0_handlerFits (nI q) u = some (bI (hdOK b kd C o K q)) := by
  obtain ⟨g1, g2, g3, g4, -, -, -, -, -, g5, g6, g7, g8⟩ := id h
  have hn := hB.1
  have hb : ∀ j, j < n → b j < 256 := fun j hj => (hB.2 j hj).2
  have isI := X_isI (o := o) (K := K) g6 g2 h27
  have w0 := w2_lt (i := q) hb (by omega)
  have wa := w2_lt (i := q + 2) hb (by omega)
  have wb := w2_lt (i := q + 4) hb (by omega)
  have wc := w2_lt (i := q + 6) hb (by omega)
  have hk := hP.2.2.2.1 (w2 b (q + 6))
  have ad2 : nI q + 2 = nI (q + 2) := nI_add q 2
  have ad4 : nI q + 4 = nI (q + 4) := nI_add q 4
  have ad6 : nI q + 6 = nI (q + 6) := nI_add q 6
  unfold f_X0_handlerFits f_X0_handlerFits_j59 f_X0_handlerFits_j101 f_X0_handlerFits_j105 f_X0_handlerFits_j106
  simp only [ad2, ad4, ad6, X_u2 hB (show q + 1 < n by omega), X_u2 hB (show q + 2 + 1 < n by omega), X_u2 hB (show q + 4 + 1 < n by omega), X_u2 hB (show q + 6 + 1 < n by omega), Option.bind_some, isI, nI_l (show w2 b q < 2 ^ 31 by omega), nI_l (show w2 b (q + 2) < 2 ^ 31 by omega), nI_l (show w2 b (q + 4) < 2 ^ 31 by omega), g2, X_kindOf hP (show w2 b (q + 6) < 2 ^ 31 by omega), bchk_0, bchk_1]
  have z6 : (nI (w2 b (q + 6)) = (0 : Int32)) = (w2 b (q + 6) = 0) := eqN (b := 0) (by omega) (by omega)
  have z7 : (nI (kd (w2 b (q + 6))) = (7 : Int32)) = (kd (w2 b (q + 6)) = 7) := eqN (b := 7) (by omega) (by omega)
  simp only [z6, z7]
  simp (disch := omega) only [eqN, leN]
  by_cases c1 : stP C o K (lN (w2 b q))
  rotate_left
  · rw [if_pos (bI_0.mpr c1), bI_f (fun z => c1 z.1)]
  rw [if_neg (fun z => bI_0.mp z c1)]
  have tail : (if bI (stP C o K (lN (w2 b (q + 4)))) = 0 then some (0 : Int32) else if w2 b (q + 2) ≤ w2 b q then some 0 else if w2 b (q + 6) = 0 then some 1 else if kd (w2 b (q + 6)) = 7 then some 1 else some 0) = some (bI (stP C o K (lN (w2 b (q + 4))) ∧ w2 b q < w2 b (q + 2) ∧ (w2 b (q + 6) = 0 ∨ kd (w2 b (q + 6)) = 7))) := by
    by_cases c3 : stP C o K (lN (w2 b (q + 4)))
    · rw [if_neg (fun z => bI_0.mp z c3)]
      by_cases c4 : w2 b (q + 2) ≤ w2 b q
      · rw [if_pos c4, bI_f (fun z => by have := z.2.1; omega)]
      · rw [if_neg c4]
        by_cases c5 : w2 b (q + 6) = 0
        · rw [if_pos c5, bI_t ⟨c3, by omega, Or.inl c5⟩]
        · rw [if_neg c5]
          by_cases c6 : kd (w2 b (q + 6)) = 7
          · rw [if_pos c6, bI_t ⟨c3, by omega, Or.inr c6⟩]
          · rw [if_neg c6, bI_f]
            rintro ⟨-, -, z | z⟩
            · exact c5 z
            · exact c6 z
    · rw [if_pos (bI_0.mpr c3), bI_f (fun z => c3 z.1)]
  rw [tail]
  by_cases c2 : w2 b (q + 2) = C
  · rw [if_pos c2]
    exact congrArg some (bI_c ⟨fun z => ⟨c1, Or.inl c2, z.1, z.2⟩, fun z => ⟨z.2.2.1, z.2.2.2⟩⟩)
  · rw [if_neg c2]
    by_cases c2' : stP C o K (lN (w2 b (q + 2)))
    · rw [if_neg (fun z => bI_0.mp z c2')]
      exact congrArg some (bI_c ⟨fun z => ⟨c1, Or.inr c2', z.1, z.2⟩, fun z => ⟨z.2.2.1, z.2.2.2⟩⟩)
    · rw [if_pos (bI_0.mpr c2'), bI_f]
      rintro ⟨-, z | z, -⟩
      · exact c2 z
      · exact c2' z
theorem M_handler {b : Nat → Nat} {n N B C L H K i q : Nat} {kd pl o : Nat → Nat} {u v : St} (hP : PQ b n N kd pl u v) (h : CQ n B C L H u v) (hB : BM v b n) (h40 : ∀ q, q < C → v 40 q = bI (∃ i, i < K ∧ o i = q)) (hq : q = B + C + 2 + 8 * i) (hq8 : q + 8 ≤ n) : f_X7_handlerFits (nI i) v = some (bI (hdOK b kd C o K q)) := by
  obtain ⟨-, -, -, -, -, g2, -, g13, -, g5, g6, g7, g8⟩ := id h
  have hn := hB.1
  have hb : ∀ j, j < n → b j < 256 := fun j hj => (hB.2 j hj).2
  have isI := M_isS (o := o) (K := K) g6 g2 h40
  have w0 := w2_lt (i := q) hb (by omega)
  have wa := w2_lt (i := q + 2) hb (by omega)
  have wb := w2_lt (i := q + 4) hb (by omega)
  have wc := w2_lt (i := q + 6) hb (by omega)
  have ea : v 13 0 + 8 * nI i = nI q := by rw [g13, show (8 : Int32) = nI 8 from rfl, pk_mul, nI_add, hq]
  have ad : ∀ k, k < 8 → chk 400 (nI (q + k)) = (id : Option Int32 → Option Int32) := fun k hk => by
    funext x
    exact chkN (by omega) (by omega)
  have by' : ∀ k, k < 8 → v 30 (Int32.toNatClampNeg (nI (q + k))) = nI (b (q + k)) := fun k hk => by rw [cl_nI (by omega)]; exact (hB.2 (q + k) (by omega)).1
  have a0 : nI q = nI (q + 0) := rfl
  have a1 : nI q + 1 = nI (q + 1) := nI_add q 1
  have a2 : nI q + 2 = nI (q + 2) := nI_add q 2
  have a3 : nI q + 3 = nI (q + 3) := nI_add q 3
  have a4 : nI q + 4 = nI (q + 4) := nI_add q 4
  have a5 : nI q + 5 = nI (q + 5) := nI_add q 5
  have a6 : nI q + 6 = nI (q + 6) := nI_add q 6
  have a7 : nI q + 7 = nI (q + 7) := nI_add q 7
  have ew : ∀ k, (256 : Int32) * nI (b (q + k)) + nI (b (q + k + 1)) = nI (w2 b (q + k)) := fun k => by
    rw [show (256 : Int32) = nI 256 from rfl, pk_mul, nI_add]
    rfl
  have f0 : v 30 (Int32.toNatClampNeg (nI q)) = nI (b q) := by' 0 (by omega)
  have c0 : chk 400 (nI q) = (id : Option Int32 → Option Int32) := ad 0 (by omega)
  have e0 : (256 : Int32) * nI (b q) + nI (b (q + 1)) = nI (w2 b q) := ew 0
  have e2 : (256 : Int32) * nI (b (q + 2)) + nI (b (q + 3)) = nI (w2 b (q + 2)) := ew 2
  have e4 : (256 : Int32) * nI (b (q + 4)) + nI (b (q + 5)) = nI (w2 b (q + 4)) := ew 4
  have e6 : (256 : Int32) * nI (b (q + 6)) + nI (b (q + 7)) = nI (w2 b (q + 6)) := ew 6
  have i7 : f_X7_is (nI (w2 b (q + 6))) 7 v = some (bI (kd (w2 b (q + 6)) = 7)) := M_is hP (t := 7) (by omega) (by omega) (by omega)
  unfold f_X7_handlerFits f_X7_handlerFits_j129 f_X7_handlerFits_j149 f_X7_handlerFits_j150 f_X7_handlerFits_j173 f_X7_handlerFits_j177 f_X7_handlerFits_j178
  simp only [ea, a1, a2, a3, a4, a5, a6, a7]
  simp only [c0, ad 1 (by omega), ad 2 (by omega), ad 3 (by omega), ad 4 (by omega), ad 5 (by omega), ad 6 (by omega), ad 7 (by omega), id, f0, by' 1 (by omega), by' 2 (by omega), by' 3 (by omega), by' 4 (by omega), by' 5 (by omega), by' 6 (by omega), by' 7 (by omega), e0, e2, e4, e6]
  have n10 : ¬ (1 : Int32) = 0 := by decide
  simp only [isI, Option.bind_some, nI_l (show w2 b q < 2 ^ 31 by omega), nI_l (show w2 b (q + 2) < 2 ^ 31 by omega), nI_l (show w2 b (q + 4) < 2 ^ 31 by omega), g2, i7, bchk_0, bchk_1, if_true, if_neg n10]
  have z6 : (nI (w2 b (q + 6)) = (0 : Int32)) = (w2 b (q + 6) = 0) := eqN (b := 0) (by omega) (by omega)
  simp only [z6]
  simp (disch := omega) only [eqN, leN]
  by_cases c1 : stP C o K (lN (w2 b q))
  rotate_left
  · rw [if_pos (bI_0.mpr c1), bI_f (fun z => c1 z.1)]
  rw [if_neg (fun z => bI_0.mp z c1)]
  have tail : (if bI (stP C o K (lN (w2 b (q + 4)))) = 0 then some (0 : Int32) else if w2 b (q + 2) ≤ w2 b q then some 0 else if w2 b (q + 6) = 0 then some 1 else if bI (kd (w2 b (q + 6)) = 7) = 0 then some 0 else some 1) = some (bI (stP C o K (lN (w2 b (q + 4))) ∧ w2 b q < w2 b (q + 2) ∧ (w2 b (q + 6) = 0 ∨ kd (w2 b (q + 6)) = 7))) := by
    by_cases c3 : stP C o K (lN (w2 b (q + 4)))
    · rw [if_neg (fun z => bI_0.mp z c3)]
      by_cases c4 : w2 b (q + 2) ≤ w2 b q
      · rw [if_pos c4, bI_f (fun z => by have := z.2.1; omega)]
      · rw [if_neg c4]
        by_cases c5 : w2 b (q + 6) = 0
        · rw [if_pos c5, bI_t ⟨c3, by omega, Or.inl c5⟩]
        · rw [if_neg c5]
          by_cases c6 : kd (w2 b (q + 6)) = 7
          · rw [if_neg (fun z => bI_0.mp z c6), bI_t (p := stP C o K (lN (w2 b (q + 4))) ∧ w2 b q < w2 b (q + 2) ∧ (w2 b (q + 6) = 0 ∨ kd (w2 b (q + 6)) = 7)) ⟨c3, by omega, Or.inr c6⟩]
          · rw [if_pos (bI_0.mpr c6), bI_f]
            rintro ⟨-, -, z | z⟩
            · exact c5 z
            · exact c6 z
    · rw [if_pos (bI_0.mpr c3), bI_f (fun z => c3 z.1)]
  rw [tail]
  by_cases c2 : w2 b (q + 2) = C
  · rw [if_pos c2]
    exact congrArg some (bI_c ⟨fun z => ⟨c1, Or.inl c2, z.1, z.2⟩, fun z => ⟨z.2.2.1, z.2.2.2⟩⟩)
  · rw [if_neg c2]
    by_cases c2' : stP C o K (lN (w2 b (q + 2)))
    · rw [if_neg (fun z => bI_0.mp z c2')]
      exact congrArg some (bI_c ⟨fun z => ⟨c1, Or.inr c2', z.1, z.2⟩, fun z => ⟨z.2.2.1, z.2.2.2⟩⟩)
    · rw [if_pos (bI_0.mpr c2'), bI_f]
      rintro ⟨-, z | z, -⟩
      · exact c2 z
      · exact c2' z
