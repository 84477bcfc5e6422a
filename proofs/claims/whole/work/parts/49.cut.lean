/-- whole arrays -/
theorem upA_s {u : St} {k : Nat} {f : Nat → Int32} : upA u k f k = f := by
  unfold upA
  rw [Nat.beq_refl k]
  rfl
theorem upA_o {u : St} {k k2 : Nat} {f : Nat → Int32} (h : ¬ k2 = k) : upA u k f k2 = u k2 := by
  unfold upA
  have : Nat.beq k2 k = false := by
    cases q : Nat.beq k2 k with
    | false => rfl
    | true => exact absurd (Nat.eq_of_beq_eq_true q) h
  rw [this]
  rfl
theorem cchkN {α : Type} {s d m N0 N1 : Nat} {k : Option α} (hs : s + m ≤ N0) (hd : d + m ≤ N1) (h0 : N0 < 2 ^ 31) (h1 : N1 < 2 ^ 31) : cchk (nI s) (nI d) (nI m) N0 N1 k = k := by
  unfold cchk
  rw [cl_nI (show s < 2 ^ 31 by omega), cl_nI (show d < 2 ^ 31 by omega), cl_nI (show m < 2 ^ 31 by omega), if_pos ⟨nI_pos (by omega), nI_pos (by omega), nI_pos (by omega), hs, hd⟩]
theorem X_close {u : St} {n a k : Nat} (hn : n ≤ 400) (h1 : u 1 0 = nI n) (hk : a + k ≤ n) : ∃ u1, f_X1_close (nI a) (nI k) u = some u1 ∧ (∀ j, j ≠ 1 → j ≠ 22 → u1 j = u j) ∧ u1 1 0 = nI (n - k) ∧ (∀ i, i < a → u1 22 i = u 22 i) ∧ ∀ i, a ≤ i → i < n - k → u1 22 i = u 22 (i + k) := by
  unfold f_X1_close
  rw [h1, nI_add, pk_sub (show a ≤ n by omega), pk_sub (show k ≤ n - a by omega), pk_sub (show k ≤ n by omega), cchkN (by omega) (by omega) (by omega) (by omega), cl_nI (show a + k < 2 ^ 31 by omega), cl_nI (show a < 2 ^ 31 by omega), cl_nI (show n - a - k < 2 ^ 31 by omega)]
  refine ⟨_, rfl, fun j j1 j2 => ?_, ?_, fun i hi => ?_, fun i h2 h3 => ?_⟩
  · rw [up_o j1, upA_o j2]
  · rw [up_s, upd_s]
  · rw [up_o (by omega), upA_s, pk_cpy_out (by omega)]
  · rw [up_o (by omega), upA_s, pk_cpy_in h2 (by omega)]
    congr 1
    omega
theorem X_gap {u : St} {n a k : Nat} (h1 : u 1 0 = nI n) (ha : a ≤ n) (hk : n + k ≤ 400) : ∃ u1, f_X1_open (nI a) (nI k) u = some u1 ∧ (∀ j, j ≠ 1 → j ≠ 22 → u1 j = u j) ∧ u1 1 0 = nI (n + k) ∧ (∀ i, i < a + k → u1 22 i = u 22 i) ∧ ∀ i, a + k ≤ i → i < n + k → u1 22 i = u 22 (i - k) := by
  unfold f_X1_open
  rw [h1, nI_add, pk_sub ha, nI_add, cchkN (by omega) (by omega) (by omega) (by omega), cl_nI (show a + k < 2 ^ 31 by omega), cl_nI (show a < 2 ^ 31 by omega), cl_nI (show n - a < 2 ^ 31 by omega)]
  refine ⟨_, rfl, fun j j1 j2 => ?_, ?_, fun i hi => ?_, fun i h2 h3 => ?_⟩
  · rw [up_o j1, upA_o j2]
  · rw [up_s, upd_s]
  · rw [up_o (by omega), upA_s, pk_cpy_out (by omega)]
  · rw [up_o (by omega), upA_s, pk_cpy_in h2 (by omega)]
    congr 1
    omega
/-- the reference's loops -/
theorem M_down (k L : Nat) (hL : L + k ≤ 400) : ∀ m i N (v : St), i + m = L → m < N → v 0 0 = nI L → ∃ v1, loopF (f_X7_take_b12 (nI k)) N (nI i, v) = some (.inr v1) ∧ (∀ j, j ≠ 30 → v1 j = v j) ∧ (∀ j, j < i → v1 30 j = v 30 j) ∧ ∀ j, i ≤ j → j < L → v1 30 j = v 30 (j + k) := by
  intro m
  induction m with
  | zero =>
    intro i N v h1 h2 h4
    obtain ⟨N, rfl⟩ : ∃ z, N = z + 1 := ⟨N - 1, by omega⟩
    have e : f_X7_take_b12 (nI k) (nI i, v) = some (.inl (.inr v)) := by
      unfold f_X7_take_b12
      show (if v 0 0 ≤ nI i then _ else _) = _
      rw [h4, if_pos (nI_le (by omega) (by omega))]
    exact ⟨v, by rw [loopF_s e]; rfl, fun _ _ => rfl, fun _ _ => rfl, fun j j1 j2 => by omega⟩
  | succ m ih =>
    intro i N v h1 h2 h4
    obtain ⟨N, rfl⟩ : ∃ z, N = z + 1 := ⟨N - 1, by omega⟩
    have e : f_X7_take_b12 (nI k) (nI i, v) = some (.inr (nI (i + 1), up v 30 i (v 30 (i + k)))) := by
      unfold f_X7_take_b12
      show (if v 0 0 ≤ nI i then _ else chk 400 (nI i + nI k) (chk 400 (nI i) (some (Sum.inr (nI i + 1, up v 30 (Int32.toNatClampNeg (nI i)) (v 30 (Int32.toNatClampNeg (nI i + nI k)))))))) = _
      rw [h4, if_neg (nI_ge (by omega) (by omega)), nI_add, chkN (by omega) (by omega), chkN (by omega) (by omega), cl_nI (by omega), cl_nI (by omega), nI_1]
    obtain ⟨v1, f1, f2, f3, f4⟩ := ih (i + 1) N (up v 30 i (v 30 (i + k))) (by omega) (by omega) h4
    refine ⟨v1, by rw [loopF_s e]; exact f1, fun j j1 => (f2 j j1).trans (up_o j1), fun j hj => ?_, fun j j1 j2 => ?_⟩
    · rw [f3 j (by omega)]
      simp (disch := omega) only [up_s, up_o, upd_s, upd_o]
    · by_cases z : j = i
      · subst z
        rw [f3 j (by omega)]
        simp (disch := omega) only [up_s, up_o, upd_s, upd_o]
      · rw [f4 j (by omega) j2]
        simp (disch := omega) only [up_s, up_o, upd_s, upd_o]
theorem M_take {v : St} {n a k : Nat} (hn : n ≤ 400) (h1 : v 0 0 = nI n) (hk : a + k ≤ n) : ∃ v1, f_X7_take (nI a) (nI k) v = some v1 ∧ (∀ j, j ≠ 0 → j ≠ 30 → v1 j = v j) ∧ v1 0 0 = nI (n - k) ∧ (∀ i, i < a → v1 30 i = v 30 i) ∧ ∀ i, a ≤ i → i < n - k → v1 30 i = v 30 (i + k) := by
  obtain ⟨v1, f1, f2, f3, f4⟩ := M_down k (n - k) (by omega) (n - k - a) a FU (up v 0 0 (nI (n - k))) (by omega) (by rw [FU_def]; omega) rfl
  unfold f_X7_take
  rw [h1, pk_sub (show k ≤ n by omega), bd_some f1]
  refine ⟨v1, rfl, fun j j1 j2 => (f2 j j2).trans (up_o j1), ?_, fun i hi => ?_, fun i i1 i2 => ?_⟩
  · rw [f2 0 (by omega), up_s, upd_s]
  · rw [f3 i hi, up_o (by omega)]
  · rw [f4 i i1 i2, up_o (by omega)]
theorem shM_p : ∀ m, shM (m + 1) + (-1) = shM m := by
  intro m
  cases m with
  | zero => decide
  | succ m => exact pk_m1 m
theorem M_up (c k : Nat) : ∀ m N (v : St), c + m + k ≤ 400 → m < N → ∃ v1, loopF (f_X7_without_b55 (nI c) (nI k)) N (shM (c + m), v) = some (.inr v1) ∧ (∀ j, j ≠ 30 → v1 j = v j) ∧ (∀ j, j < c + k → v1 30 j = v 30 j) ∧ (∀ j, c + k ≤ j → j < c + m + k → v1 30 j = v 30 (j - k)) ∧ (∀ j, c + m + k ≤ j → v1 30 j = v 30 j) := by
  intro m
  induction m with
  | zero =>
    intro N v h1 h2
    obtain ⟨N, rfl⟩ : ∃ z, N = z + 1 := ⟨N - 1, by omega⟩
    have e : f_X7_without_b55 (nI c) (nI k) (shM (c + 0), v) = some (.inl (.inr v)) := by
      unfold f_X7_without_b55
      have q : shM c < nI c := by
        cases c with
        | zero => decide
        | succ c => exact nI_lt (by omega) (by omega)
      exact if_pos q
    exact ⟨v, by rw [loopF_s e]; rfl, fun _ _ => rfl, fun _ _ => rfl, fun j j1 j2 => by omega, fun _ _ => rfl⟩
  | succ m ih =>
    intro N v h1 h2
    obtain ⟨N, rfl⟩ : ∃ z, N = z + 1 := ⟨N - 1, by omega⟩
    have e : f_X7_without_b55 (nI c) (nI k) (shM (c + (m + 1)), v) = some (.inr (shM (c + m), up v 30 (c + m + k) (v 30 (c + m)))) := by
      unfold f_X7_without_b55
      show (if nI (c + m) < nI c then _ else chk 400 (nI (c + m)) (chk 400 (nI (c + m) + nI k) (some (Sum.inr (shM (c + m + 1) + (-1), up v 30 (Int32.toNatClampNeg (nI (c + m) + nI k)) (v 30 (Int32.toNatClampNeg (nI (c + m))))))))) = _
      rw [if_neg (nI_nlt (by omega) (by omega)), nI_add, chkN (by omega) (by omega), chkN (by omega) (by omega), cl_nI (by omega), cl_nI (by omega), shM_p]
    obtain ⟨v1, f1, f2, f3, f4, f5⟩ := ih N (up v 30 (c + m + k) (v 30 (c + m))) (by omega) (by omega)
    refine ⟨v1, by rw [loopF_s e]; exact f1, fun j j1 => (f2 j j1).trans (up_o j1), fun j hj => ?_, fun j j1 j2 => ?_, fun j hj => ?_⟩
    · rw [f3 j (by omega)]
      simp (disch := omega) only [up_s, up_o, upd_s, upd_o]
    · by_cases z : j = c + m + k
      · subst z
        rw [f5 _ (by omega), show c + m + k - k = c + m by omega]
        simp (disch := omega) only [up_s, up_o, upd_s, upd_o]
      · rw [f4 j (by omega) (by omega)]
        simp (disch := omega) only [up_s, up_o, upd_s, upd_o]
    · rw [f5 j (by omega)]
      simp (disch := omega) only [up_s, up_o, upd_s, upd_o]
theorem M_dup (a k : Nat) (h : a + k + k ≤ 400) : ∀ m i N (v : St), i + m = k → m < N → ∃ v1, loopF (f_X7_twice_b62 (nI a) (nI k)) N (nI i, v) = some (.inr v1) ∧ (∀ j, j ≠ 30 → v1 j = v j) ∧ (∀ j, j < a + k + i → v1 30 j = v 30 j) ∧ (∀ j, a + k + i ≤ j → j < a + k + k → v1 30 j = v 30 (j - k)) ∧ (∀ j, a + k + k ≤ j → v1 30 j = v 30 j) := by
  intro m
  induction m with
  | zero =>
    intro i N v h1 h2
    obtain ⟨N, rfl⟩ : ∃ z, N = z + 1 := ⟨N - 1, by omega⟩
    have e : f_X7_twice_b62 (nI a) (nI k) (nI i, v) = some (.inl (.inr v)) := by
      unfold f_X7_twice_b62
      exact if_pos (show nI k ≤ nI i from nI_le (by omega) (by omega))
    exact ⟨v, by rw [loopF_s e]; rfl, fun _ _ => rfl, fun _ _ => rfl, fun j j1 j2 => by omega, fun _ _ => rfl⟩
  | succ m ih =>
    intro i N v h1 h2
    obtain ⟨N, rfl⟩ : ∃ z, N = z + 1 := ⟨N - 1, by omega⟩
    have e : f_X7_twice_b62 (nI a) (nI k) (nI i, v) = some (.inr (nI (i + 1), up v 30 (a + k + i) (v 30 (a + i)))) := by
      unfold f_X7_twice_b62
      show (if nI k ≤ nI i then _ else chk 400 (nI a + nI i) (chk 400 (nI a + nI k + nI i) (some (Sum.inr (nI i + 1, up v 30 (Int32.toNatClampNeg (nI a + nI k + nI i)) (v 30 (Int32.toNatClampNeg (nI a + nI i)))))))) = _
      rw [if_neg (nI_ge (by omega) (by omega)), nI_add, nI_add, nI_add, chkN (by omega) (by omega), chkN (by omega) (by omega), cl_nI (by omega), cl_nI (by omega), nI_1]
    obtain ⟨v1, f1, f2, f3, f4, f5⟩ := ih (i + 1) N (up v 30 (a + k + i) (v 30 (a + i))) (by omega) (by omega)
    refine ⟨v1, by rw [loopF_s e]; exact f1, fun j j1 => (f2 j j1).trans (up_o j1), fun j hj => ?_, fun j j1 j2 => ?_, fun j hj => ?_⟩
    · rw [f3 j (by omega)]
      simp (disch := omega) only [up_s, up_o, upd_s, upd_o]
    · by_cases z : j = a + k + i
      · subst z
        rw [f3 _ (by omega), show a + k + i - k = a + i by omega]
        simp (disch := omega) only [up_s, up_o, upd_s, upd_o]
      · rw [f4 j (by omega) (by omega)]
        simp (disch := omega) only [up_s, up_o, upd_s, upd_o]
    · rw [f5 j (by omega)]
      simp (disch := omega) only [up_s, up_o, upd_s, upd_o]
theorem span_cases (p0 p1 : Int32) {n : Nat} (hn : n ≤ 400) : ((p1 < 1 ∨ (¬ p1 < 1 ∧ ¬ (0 ≤ p0.toInt ∧ p1.toInt ≤ n - p0.toInt))) ∧ ¬ (0 ≤ p0.toInt ∧ 1 ≤ p1.toInt ∧ p0.toInt ≤ n - p1.toInt)) ∨ ∃ a k, 1 ≤ k ∧ a + k ≤ n ∧ p0 = nI a ∧ p1 = nI k ∧ ¬ p1 < 1 ∧ (0 ≤ p0.toInt ∧ p1.toInt ≤ n - p0.toInt) ∧ (0 ≤ p0.toInt ∧ 1 ≤ p1.toInt ∧ p0.toInt ≤ n - p1.toInt) := by
  by_cases q1 : p1 < 1
  · have : p1.toInt < 1 := Int32.lt_iff_toInt_lt.mp q1
    exact Or.inl ⟨Or.inl q1, fun z => by omega⟩
  have q1' : ¬ p1.toInt < 1 := fun z => q1 (Int32.lt_iff_toInt_lt.mpr z)
  by_cases c : 0 ≤ p0.toInt ∧ p1.toInt ≤ n - p0.toInt
  · obtain ⟨a, ha, rfl⟩ := nI_of (show ¬ p0 < 0 from fun z => by have : p0.toInt < 0 := Int32.lt_iff_toInt_lt.mp z; omega)
    obtain ⟨k, hk, rfl⟩ := nI_of (show ¬ p1 < 0 from fun z => by have : p1.toInt < 0 := Int32.lt_iff_toInt_lt.mp z; omega)
    have t := c
    rw [nI_toInt ha, nI_toInt hk] at t
    rw [nI_toInt hk] at q1'
    refine Or.inr ⟨a, k, by omega, by omega, rfl, rfl, q1, c, ?_⟩
    rw [nI_toInt ha, nI_toInt hk]
    omega
  · exact Or.inl ⟨Or.inr ⟨q1, c⟩, fun z => c (by omega)⟩
theorem op_cut {u v : St} (h : RR u v) (a0 a1 : Int32) : ∃ r u2 v2, f_X6_cut a0 a1 u = some (r, u2) ∧ f_X7_cut a0 a1 v = some (r, v2) ∧ RR u2 v2 := by
  obtain ⟨b, n, hE, h6, h7, h8, h9⟩ := id h
  obtain ⟨h1, h2, h3, h4, h5⟩ := id hE
  have hn := h1.1
  unfold f_X6_cut f_X6_cut_j17 f_X7_cut
  rw [bd_some (M_missing hn h5 a0 a1), bd_some (X_holds hn h4 a0 a1)]
  rcases span_cases a0 a1 hn with ⟨q, c⟩ | ⟨a, k, k1, k2, rfl, rfl, q, c, c2⟩
  · rw [if_neg (fun z => bI_0.mp z c)]
    rcases q with q | ⟨q, q2⟩
    · rw [if_pos q]
      exact ⟨_, _, _, rfl, rfl, h⟩
    · rw [if_neg q, if_pos (bI_0.mpr q2)]
      exact ⟨_, _, _, rfl, rfl, h⟩
  · rw [if_neg q, if_neg (fun z => bI_0.mp z c), if_pos (bI_0.mpr (fun z => z c2))]
    obtain ⟨u1, f1, f2, f3, f4, f5⟩ := X_close hn h4 k2
    obtain ⟨v1, g1, g2, g3, g4, g5⟩ := M_take hn h5 k2
    rw [bd_some f1, bd_some g1, f3, g3]
    refine ⟨_, _, _, rfl, rfl, h.new (b := b) (n := n) (b1 := fun i => if i < a then b i else b (i + k)) (fun k k1 k2 _ => f2 k k1 k2) (fun k k1 k2 _ => g2 k k1 k2) f3 g3 (by omega) (fun i hi => ?_)⟩
    by_cases z : i < a
    · simp only [if_pos z]
      rw [f4 i z, g4 i z]
      exact ⟨(h1.2 i (by omega)).1, (h2.2 i (by omega)).1, (h1.2 i (by omega)).2⟩
    · simp only [if_neg z]
      rw [f5 i (by omega) hi, g5 i (by omega) hi]
      exact ⟨(h1.2 _ (by omega)).1, (h2.2 _ (by omega)).1, (h1.2 _ (by omega)).2⟩
theorem op_twice {u v : St} (h : RR u v) (a0 a1 : Int32) : ∃ r u2 v2, f_X6_twice a0 a1 u = some (r, u2) ∧ f_X7_twice a0 a1 v = some (r, v2) ∧ RR u2 v2 := by
  obtain ⟨b, n, hE, h6, h7, h8, h9⟩ := id h
  obtain ⟨h1, h2, h3, h4, h5⟩ := id hE
  have hn := h1.1
  unfold f_X6_twice f_X6_twice_j17 f_X7_twice
  rw [bd_some (M_missing hn h5 a0 a1), bd_some (X_holds hn h4 a0 a1)]
  rcases span_cases a0 a1 hn with ⟨q, c⟩ | ⟨a, k, k1, k2, rfl, rfl, q, c, c2⟩
  · rw [if_neg (fun z => bI_0.mp z c)]
    rcases q with q | ⟨q, q2⟩
    · rw [if_pos q]
      exact ⟨_, _, _, rfl, rfl, h⟩
    · rw [if_neg q, if_pos (bI_0.mpr q2)]
      exact ⟨_, _, _, rfl, rfl, h⟩
  rw [if_neg q, if_neg (fun z => bI_0.mp z c), if_pos (bI_0.mpr (fun z => z c2)), bd_some (X_room hn h4 (show k < 2 ^ 31 by omega)), h5, nI_add]
  by_cases r : n + k ≤ 400
  rotate_left
  · rw [if_pos (bI_0.mpr r), if_neg (show ¬ nI (n + k) ≤ 400 from nI_ge (a := 400) (by omega) (by omega))]
    exact ⟨_, _, _, rfl, rfl, h⟩
  rw [if_neg (fun z => bI_0.mp z r), if_pos (show nI (n + k) ≤ 400 from nI_le (b := 400) r (by omega))]
  obtain ⟨u1, f1, f2, f3, f4, f5⟩ := X_gap (a := a) h4 (by omega) r
  obtain ⟨va, a1, a2, a3, a4, a5⟩ := M_up (a + k) k (n - (a + k)) FU v (by omega) (by rw [FU_def]; omega)
  obtain ⟨vb, b1, b2', b3, b4, b5⟩ := M_dup a k (by omega) k 0 FU va (by omega) (by rw [FU_def]; omega)
  have hs : nI n - 1 = shM (a + k + (n - (a + k))) := by
    rw [show a + k + (n - (a + k)) = n by omega, show (1 : Int32) = nI 1 from rfl, pk_sub (show 1 ≤ n by omega)]
    obtain ⟨m, rfl⟩ : ∃ m, n = m + 1 := ⟨n - 1, by omega⟩
    rfl
  have a1 : loopF (f_X7_twice_b33 (nI a) (nI k)) FU (nI n - 1, v) = some (.inr va) := by
    rw [hs]
    rw [← nI_add] at a1
    exact a1
  have b1 : loopF (f_X7_twice_b62 (nI a) (nI k)) FU (0, va) = some (.inr vb) := b1
  have v0 : vb 0 0 = nI n := by rw [b2' 0 (by omega), a2 0 (by omega)]; exact h5
  rw [bd_some f1, bd_some a1]
  simp only [Sum.elim_inr]
  rw [bd_some b1]
  simp only [Sum.elim_inr]
  rw [f3, v0, nI_add]
  refine ⟨_, _, _, rfl, rfl, h.new (b := b) (n := n) (b1 := fun i => if i < a + k then b i else b (i - k)) (fun k k1 k2 _ => f2 k k1 k2) (fun k k1 k2 _ => ?_) f3 rfl r (fun i hi => ?_)⟩
  · rw [up_o k1, b2' k k2, a2 k k2]
  · have hv : (up vb 0 0 (nI (n + k))) 30 i = vb 30 i := by rw [up_o (by omega)]
    rw [hv]
    by_cases z : i < a + k
    · simp only [if_pos z]
      rw [f4 i z, b3 i (by omega), a3 i (by omega)]
      exact ⟨(h1.2 i (by omega)).1, (h2.2 i (by omega)).1, (h1.2 i (by omega)).2⟩
    · simp only [if_neg z]
      rw [f5 i (by omega) hi]
      have : vb 30 i = v 30 (i - k) := by
        by_cases y : i < a + k + k
        · rw [b4 i (by omega) y, a3 _ (by omega)]
        · rw [b5 i (by omega), a4 i (by omega) (by omega)]
      rw [this]
      exact ⟨(h1.2 _ (by omega)).1, (h2.2 _ (by omega)).1, (h1.2 _ (by omega)).2⟩
