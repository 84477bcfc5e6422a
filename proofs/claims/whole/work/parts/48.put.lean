/-- bytes of numbers -/
theorem sar_lo {w : Nat} (X : BitVec w) (j : Nat) (h : j + 8 ≤ w) : (X.sshiftRight j).toNat % 256 = X.toNat / 2 ^ j % 256 := by
  have e : (X.sshiftRight j).setWidth 8 = (X >>> j).setWidth 8 := by
    apply BitVec.eq_of_getLsbD_eq
    intro i hi
    rw [BitVec.getLsbD_setWidth, BitVec.getLsbD_setWidth, BitVec.getLsbD_sshiftRight, BitVec.getLsbD_ushiftRight, if_pos (by omega), decide_eq_false (show ¬ w ≤ i by omega)]
    rfl
  have e2 := congrArg BitVec.toNat e
  rw [BitVec.toNat_setWidth, BitVec.toNat_setWidth, BitVec.toNat_ushiftRight, Nat.shiftRight_eq_div_pow] at e2
  exact e2
def byO (x : Int32) (k : Nat) : Nat := x.toBitVec.toNat / 2 ^ (8 * k) % 256
theorem byO_lt (x : Int32) (k : Nat) : byO x k < 256 := Nat.mod_lt _ (by omega)
theorem byX (x : Int32) {k : Nat} (hk : k < 4) : ((Int32.toUInt32 x >>> (Int32.toUInt32 (nI (8 * k)) &&& Int32.toUInt32 31)).toInt32) &&& 255 = nI (byO x k) := by
  have hs : ∀ k, k < 4 → (((nI (8 * k)).toUInt32 &&& Int32.toUInt32 31).toBitVec % 32).toNat = 8 * k := by decide +kernel
  rw [pk_and _ 8 (by decide), pk_ushr x (nI (8 * k)) (8 * k) (hs k hk)]
  rfl
theorem byM (x : Int32) {k : Nat} (hk : k < 4) : (x >>> ((8 * nI k : Int32) &&& 31)) &&& 255 = nI (byO x k) := by
  have hs : ∀ k, k < 4 → (((8 * nI k : Int32) &&& 31).toBitVec.smod 32).toNat = 8 * k := by decide +kernel
  rw [pk_and _ 8 (by decide), Int32.toBitVec_shiftRight, BitVec.sshiftRight_eq', hs k hk]
  congr 1
  exact sar_lo x.toBitVec (8 * k) (by omega)
def shX (m : Nat) : Int32 := match m with
  | 0 => -8
  | m + 1 => nI (8 * m)
def shM (m : Nat) : Int32 := match m with
  | 0 => -1
  | m + 1 => nI m
theorem shX_d : ∀ m, m < 4 → shX (m + 1) + (-8) = shX m := by decide +kernel
theorem shM_d : ∀ m, m < 4 → shM (m + 1) + (-1) = shM m := by decide +kernel
theorem X_app (x : Int32) : ∀ m N (u : St) (n : Nat), m ≤ 4 → m < N → n + m ≤ 400 → u 1 0 = nI n → ∃ u1, loopF (f_X1_append_b7 x) N (shX m, u) = some (.inr u1) ∧ (∀ k, k ≠ 1 → k ≠ 22 → u1 k = u k) ∧ u1 1 0 = nI (n + m) ∧ (∀ i, i < n → u1 22 i = u 22 i) ∧ ∀ i, i < m → u1 22 (n + i) = nI (byO x (m - 1 - i)) := by
  intro m
  induction m with
  | zero =>
    intro N u n h1 h2 h3 h4
    obtain ⟨N, rfl⟩ : ∃ z, N = z + 1 := ⟨N - 1, by omega⟩
    have e : f_X1_append_b7 x (shX 0, u) = some (.inl (.inr u)) := by
      unfold f_X1_append_b7
      rw [if_pos (show shX 0 < 0 by decide)]
    exact ⟨u, by rw [loopF_s e]; rfl, fun _ _ _ => rfl, h4, fun _ _ => rfl, fun i hi => by omega⟩
  | succ m ih =>
    intro N u n h1 h2 h3 h4
    obtain ⟨N, rfl⟩ : ∃ z, N = z + 1 := ⟨N - 1, by omega⟩
    have e : f_X1_append_b7 x (shX (m + 1), u) = some (.inr (shX m, up (up u 22 n (nI (byO x m))) 1 0 (nI (n + 1)))) := by
      unfold f_X1_append_b7
      rw [if_neg (show ¬ shX (m + 1) < 0 from nI_pos (n := 8 * m) (by omega))]
      show chk 400 (u 1 0) (some (Sum.inr (shX (m + 1) + -8, up (up u 22 (Int32.toNatClampNeg (u 1 0)) ((Int32.toUInt32 x >>> (Int32.toUInt32 (nI (8 * m)) &&& Int32.toUInt32 31)).toInt32 &&& 255)) 1 0 (u 1 0 + 1)))) = _
      rw [h4, chkN (by omega) (by omega), cl_nI (by omega), byX x (by omega), shX_d m (by omega), nI_1]
    obtain ⟨u1, f1, f2, f3, f4, f5⟩ := ih N (up (up u 22 n (nI (byO x m))) 1 0 (nI (n + 1))) (n + 1) (by omega) (by omega) (by omega) rfl
    refine ⟨u1, by rw [loopF_s e]; exact f1, fun k k1 k2 => ?_, ?_, fun i hi => ?_, fun i hi => ?_⟩
    · rw [f2 k k1 k2, up_o k1, up_o k2]
    · rw [f3]; congr 1; omega
    · rw [f4 i (by omega)]
      simp (disch := omega) only [up_s, up_o, upd_s, upd_o]
    · by_cases z : i = 0
      · subst z
        show u1 22 n = nI (byO x m)
        rw [f4 n (by omega)]
        simp (disch := omega) only [up_s, up_o, upd_s, upd_o]
      · have := f5 (i - 1) (by omega)
        rw [show n + 1 + (i - 1) = n + i by omega, show m - 1 - (i - 1) = m + 1 - 1 - i by omega] at this
        exact this
theorem X_append {u : St} (x : Int32) {w n : Nat} (h1 : 1 ≤ w) (hw : w ≤ 4) (h3 : n + w ≤ 400) (h4 : u 1 0 = nI n) : ∃ u1, f_X1_append (nI w) x u = some u1 ∧ (∀ k, k ≠ 1 → k ≠ 22 → u1 k = u k) ∧ u1 1 0 = nI (n + w) ∧ (∀ i, i < n → u1 22 i = u 22 i) ∧ ∀ i, i < w → u1 22 (n + i) = nI (byO x (w - 1 - i)) := by
  obtain ⟨u1, f1, f2⟩ := X_app x w FU u n hw (by rw [FU_def]; omega) h3 h4
  have hs : ∀ w, 1 ≤ w → w ≤ 4 → 8 * (nI w - 1) = shX w := by
    intro w a1 a2
    have : ∀ m, m < 4 → 8 * (nI (m + 1) - 1) = shX (m + 1) := by decide +kernel
    have t := this (w - 1) (by omega)
    rw [show w - 1 + 1 = w by omega] at t
    exact t
  refine ⟨u1, ?_, f2⟩
  unfold f_X1_append
  rw [hs w h1 hw, bd_some f1]
  rfl
theorem M_app (x : Int32) : ∀ m N (v : St) (n : Nat), m ≤ 4 → m < N → n + m ≤ 400 → v 0 0 = nI n → ∃ v1, loopF (f_X7_put_b36 x) N (shM m, v) = some (.inr v1) ∧ (∀ k, k ≠ 0 → k ≠ 30 → v1 k = v k) ∧ v1 0 0 = nI (n + m) ∧ (∀ i, i < n → v1 30 i = v 30 i) ∧ ∀ i, i < m → v1 30 (n + i) = nI (byO x (m - 1 - i)) := by
  intro m
  induction m with
  | zero =>
    intro N u n h1 h2 h3 h4
    obtain ⟨N, rfl⟩ : ∃ z, N = z + 1 := ⟨N - 1, by omega⟩
    have e : f_X7_put_b36 x (shM 0, u) = some (.inl (.inr u)) := by
      unfold f_X7_put_b36
      rw [if_pos (show shM 0 < 0 by decide)]
    exact ⟨u, by rw [loopF_s e]; rfl, fun _ _ _ => rfl, h4, fun _ _ => rfl, fun i hi => by omega⟩
  | succ m ih =>
    intro N u n h1 h2 h3 h4
    obtain ⟨N, rfl⟩ : ∃ z, N = z + 1 := ⟨N - 1, by omega⟩
    have e : f_X7_put_b36 x (shM (m + 1), u) = some (.inr (shM m, up (up u 30 n (nI (byO x m))) 0 0 (nI (n + 1)))) := by
      unfold f_X7_put_b36
      rw [if_neg (show ¬ shM (m + 1) < 0 from nI_pos (n := m) (by omega))]
      show chk 400 (u 0 0) (some (Sum.inr (shM (m + 1) + -1, up (up u 30 (Int32.toNatClampNeg (u 0 0)) ((x >>> ((8 * nI m : Int32) &&& 31)) &&& 255)) 0 0 (u 0 0 + 1)))) = _
      rw [h4, chkN (by omega) (by omega), cl_nI (by omega), byM x (by omega), shM_d m (by omega), nI_1]
    obtain ⟨u1, f1, f2, f3, f4, f5⟩ := ih N (up (up u 30 n (nI (byO x m))) 0 0 (nI (n + 1))) (n + 1) (by omega) (by omega) (by omega) rfl
    refine ⟨u1, by rw [loopF_s e]; exact f1, fun k k1 k2 => ?_, ?_, fun i hi => ?_, fun i hi => ?_⟩
    · rw [f2 k k1 k2, up_o k1, up_o k2]
    · rw [f3]; congr 1; omega
    · rw [f4 i (by omega)]
      simp (disch := omega) only [up_s, up_o, upd_s, upd_o]
    · by_cases z : i = 0
      · subst z
        show u1 30 n = nI (byO x m)
        rw [f4 n (by omega)]
        simp (disch := omega) only [up_s, up_o, upd_s, upd_o]
      · have := f5 (i - 1) (by omega)
        rw [show n + 1 + (i - 1) = n + i by omega, show m - 1 - (i - 1) = m + 1 - 1 - i by omega] at this
        exact this
/-- new bytes: related states with the same new bytes are related -/
theorem RR.new {u v u1 v1 : St} {b b1 : Nat → Nat} {n n1 : Nat} (h : RR u v) (hX : ∀ k, k ≠ 1 → k ≠ 22 → k ≠ 21 → u1 k = u k) (hM : ∀ k, k ≠ 0 → k ≠ 30 → k ≠ 45 → v1 k = v k) (h1 : u1 1 0 = nI n1) (h2 : v1 0 0 = nI n1) (hn : n1 ≤ 400) (h3 : ∀ i, i < n1 → u1 22 i = nI (b1 i) ∧ v1 30 i = nI (b1 i) ∧ b1 i < 256) : RR u1 v1 := by
  obtain ⟨b, n, ⟨g1, g2, g3, g4, g5⟩, g6, g7, g8, g9⟩ := h
  refine ⟨b1, n1, ⟨⟨hn, fun i hi => ⟨(h3 i hi).1, (h3 i hi).2.2⟩⟩, ⟨hn, fun i hi => ⟨(h3 i hi).2.1, (h3 i hi).2.2⟩⟩, ?_, h1, h2⟩, ?_, ?_, ?_, ?_⟩
  · unfold CM at g3 ⊢
    rw [hM 41 (by omega) (by omega) (by omega), hM 42 (by omega) (by omega) (by omega), hM 43 (by omega) (by omega) (by omega), hM 44 (by omega) (by omega) (by omega)]
    exact g3
  · rw [hX 0 (by omega) (by omega) (by omega), hM 1 (by omega) (by omega) (by omega)]; exact g6
  · rw [hX 20 (by omega) (by omega) (by omega), hM 31 (by omega) (by omega) (by omega)]; exact g7
  · rw [hX 23 (by omega) (by omega) (by omega), hM 32 (by omega) (by omega) (by omega)]; exact g8
  · rw [hX 2 (by omega) (by omega) (by omega), hX 3 (by omega) (by omega) (by omega), hM 7 (by omega) (by omega) (by omega), hM 8 (by omega) (by omega) (by omega), hM 2 (by omega) (by omega) (by omega)]; exact g9
theorem X_room {u : St} {n k : Nat} (hn : n ≤ 400) (h1 : u 1 0 = nI n) (hk : k < 2 ^ 31) : f_X1_hasRoomFor (nI k) u = some (bI (n + k ≤ 400)) := by
  unfold f_X1_hasRoomFor f_X1_hasRoomFor_j17
  rw [h1, show (400 : Int32) = nI 400 from rfl, pk_sub hn]
  simp (disch := omega) only [ltN]
  by_cases q : n + k ≤ 400
  · rw [if_neg (by omega), bchk_1, bI_t q]
  · rw [if_pos (by omega), bchk_0, bI_f q]
theorem op_put {u v : St} (h : RR u v) (a0 a1 : Int32) : ∃ r u2 v2, f_X6_put a0 a1 u = some (r, u2) ∧ f_X7_put a0 a1 v = some (r, v2) ∧ RR u2 v2 := by
  obtain ⟨b, n, hE, h6, h7, h8, h9⟩ := id h
  obtain ⟨h1, h2, h3, h4, h5⟩ := id hE
  have hn := h1.1
  have key : ∀ w, 1 ≤ w → w ≤ 4 → ∃ r u2 v2, f_X6_put_j17 (nI w) a1 u = some (r, u2) ∧ f_X7_put_j17 (nI w) a1 v = some (r, v2) ∧ RR u2 v2 := by
    intro w w1 w4
    unfold f_X6_put_j17 f_X7_put_j17
    rw [bd_some (X_room hn h4 (by omega)), h5, nI_add, show (400 : Int32) = nI 400 from rfl]
    simp (disch := omega) only [leN]
    by_cases q : n + w ≤ 400
    · obtain ⟨u1, f1, f2, f3, f4, f5⟩ := X_append (u := u) a1 w1 w4 q h4
      obtain ⟨v1, g1, g2, g3, g4, g5⟩ := M_app a1 w FU v n w4 (by rw [FU_def]; omega) q h5
      have hs : nI w - 1 = shM w := by
        rw [show (1 : Int32) = nI 1 from rfl, pk_sub w1]
        obtain ⟨m, rfl⟩ : ∃ m, w = m + 1 := ⟨w - 1, by omega⟩
        rfl
      rw [if_neg (fun z => bI_0.mp z q), if_pos q, bd_some f1, hs, bd_some g1]
      simp only [Sum.elim_inr, f3, g3]
      refine ⟨_, _, _, rfl, rfl, h.new (b := b) (n := n) (b1 := fun i => if i < n then b i else byO a1 (w - 1 - (i - n))) (fun k k1 k2 _ => f2 k k1 k2) (fun k k1 k2 _ => g2 k k1 k2) f3 g3 q (fun i hi => ?_)⟩
      by_cases z : i < n
      · simp only [if_pos z]
        rw [f4 i z, g4 i z]
        exact ⟨(h1.2 i z).1, (h2.2 i z).1, (h1.2 i z).2⟩
      · simp only [if_neg z]
        have a := f5 (i - n) (by omega)
        have c := g5 (i - n) (by omega)
        rw [show n + (i - n) = i by omega] at a c
        exact ⟨a, c, byO_lt _ _⟩
    · rw [if_pos (bI_0.mpr q), if_neg q]
      exact ⟨_, _, _, rfl, rfl, h⟩
  unfold f_X6_put f_X7_put
  by_cases c1 : a0 = 1
  · rw [if_pos c1, if_pos c1, c1]
    exact key 1 (by omega) (by omega)
  rw [if_neg c1, if_neg c1]
  by_cases c2 : a0 = 2
  · rw [if_pos c2, if_pos c2, c2]
    exact key 2 (by omega) (by omega)
  rw [if_neg c2, if_neg c2]
  by_cases c4 : a0 = 4
  · rw [if_pos c4, if_pos c4, c4]
    exact key 4 (by omega) (by omega)
  rw [if_neg c4, if_neg c4]
  exact ⟨_, _, _, rfl, rfl, h⟩
/-- letters of a long -/
def lbO (x : Int64) (i : Nat) : Nat := x.toBitVec.toNat / 2 ^ (8 * i) % 256
theorem i32_lo (y : Int64) : y.toInt32.toBitVec.toNat % 256 = y.toBitVec.toNat % 256 := by
  rw [Int64.toBitVec_toInt32, BitVec.signExtend_eq_setWidth_of_le _ (by omega), BitVec.toNat_setWidth]
  omega
theorem lbX (x : Int64) {i : Nat} (hi : i < 8) : byO (((x.toUInt64 >>> ((nI (8 * i)).toInt64.toUInt64 &&& Int64.toUInt64 63)).toInt64).toInt32) 0 = lbO x i := by
  have hs : ∀ i, i < 8 → (((nI (8 * i)).toInt64.toUInt64 &&& Int64.toUInt64 63).toBitVec % 64).toNat = 8 * i := by decide +kernel
  unfold byO lbO
  rw [show 2 ^ (8 * 0) = 1 from rfl, Nat.div_one, i32_lo]
  show (x.toUInt64 >>> ((nI (8 * i)).toInt64.toUInt64 &&& Int64.toUInt64 63)).toBitVec.toNat % 256 = _
  rw [UInt64.toBitVec_shiftRight, BitVec.ushiftRight_eq', BitVec.toNat_ushiftRight, hs i hi, Nat.shiftRight_eq_div_pow]
  rfl
theorem lbM (x : Int64) {i : Nat} (hi : i < 8) : ((x >>> ((nI (8 * i)).toInt64 &&& 63)).toInt32) &&& 255 = nI (lbO x i) := by
  have hs : ∀ i, i < 8 → (((nI (8 * i)).toInt64 &&& 63).toBitVec.smod 64).toNat = 8 * i := by decide +kernel
  rw [pk_and _ 8 (by decide)]
  congr 1
  rw [show 2 ^ 8 = 256 from rfl, i32_lo, Int64.toBitVec_shiftRight, BitVec.sshiftRight_eq', hs i hi]
  exact sar_lo x.toBitVec (8 * i) (by omega)
theorem X_letters (x : Int64) (k : Nat) (hk : k ≤ 8) : ∀ m i N (u : St) (n : Nat), i + m = k → m < N → n + m ≤ 400 → u 1 0 = nI n → ∃ u1, loopF (f_X6_text_b49 (nI k) x) N (nI i, u) = some (.inr u1) ∧ (∀ j, j ≠ 1 → j ≠ 22 → u1 j = u j) ∧ u1 1 0 = nI (n + m) ∧ (∀ j, j < n → u1 22 j = u 22 j) ∧ ∀ j, j < m → u1 22 (n + j) = nI (lbO x (i + j)) := by
  intro m
  induction m with
  | zero =>
    intro i N u n h1 h2 h3 h4
    obtain ⟨N, rfl⟩ : ∃ z, N = z + 1 := ⟨N - 1, by omega⟩
    have e : f_X6_text_b49 (nI k) x (nI i, u) = some (.inl (.inr u)) := by
      unfold f_X6_text_b49
      rw [if_pos (show nI k ≤ nI i from nI_le (by omega) (by omega))]
    exact ⟨u, by rw [loopF_s e]; rfl, fun _ _ _ => rfl, h4, fun _ _ => rfl, fun i hi => by omega⟩
  | succ m ih =>
    intro i N u n h1 h2 h3 h4
    obtain ⟨N, rfl⟩ : ∃ z, N = z + 1 := ⟨N - 1, by omega⟩
    obtain ⟨ua, a1, a2, a3, a4, a5⟩ := X_append (u := u) (((Int64.toUInt64 x >>> ((Int32.toInt64 (8 * nI i)).toUInt64 &&& Int64.toUInt64 63)).toInt64).toInt32) (w := 1) (n := n) (by omega) (by omega) (by omega) h4
    have e : f_X6_text_b49 (nI k) x (nI i, u) = some (.inr (nI (i + 1), ua)) := by
      unfold f_X6_text_b49
      rw [if_neg (show ¬ nI k ≤ nI i from nI_ge (by omega) (by omega))]
      have a1 : f_X1_append 1 (((Int64.toUInt64 x >>> ((Int32.toInt64 (8 * nI i)).toUInt64 &&& Int64.toUInt64 63)).toInt64).toInt32) u = some ua := a1
      show (f_X1_append 1 _ u).bind _ = _
      rw [bd_some a1]
      show some (Sum.inr (nI i + 1, ua)) = _
      rw [nI_1]
    obtain ⟨u1, f1, f2, f3, f4, f5⟩ := ih (i + 1) N ua (n + 1) (by omega) (by omega) (by omega) a3
    refine ⟨u1, by rw [loopF_s e]; exact f1, fun j k1 k2 => (f2 j k1 k2).trans (a2 j k1 k2), ?_, fun j hj => ?_, fun j hj => ?_⟩
    · rw [f3]; congr 1; omega
    · rw [f4 j (by omega), a4 j hj]
    · by_cases z : j = 0
      · subst z
        rw [f4 (n + 0) (by omega), a5 0 (by omega)]
        have : (8 : Int32) * nI i = nI (8 * i) := by rw [show (8 : Int32) = nI 8 from rfl, pk_mul]
        rw [this]
        exact congrArg nI (lbX x (by omega))
      · have := f5 (j - 1) (by omega)
        rw [show n + 1 + (j - 1) = n + j by omega, show i + 1 + (j - 1) = i + j by omega] at this
        exact this
theorem M_letters (x : Int64) (k n : Nat) (hk : k ≤ 8) (hn : n + 3 + k ≤ 400) : ∀ m i N (v : St), i + m = k → m < N → v 0 0 = nI n → ∃ v1, loopF (f_X7_text_b66 (nI k) x) N (nI i, v) = some (.inr v1) ∧ (∀ j, j ≠ 30 → v1 j = v j) ∧ (∀ j, j < n + 3 + i → v1 30 j = v 30 j) ∧ ∀ j, i ≤ j → j < k → v1 30 (n + 3 + j) = nI (lbO x j) := by
  intro m
  induction m with
  | zero =>
    intro i N u h1 h2 h4
    obtain ⟨N, rfl⟩ : ∃ z, N = z + 1 := ⟨N - 1, by omega⟩
    have e : f_X7_text_b66 (nI k) x (nI i, u) = some (.inl (.inr u)) := by
      unfold f_X7_text_b66
      rw [if_pos (show nI k ≤ nI i from nI_le (by omega) (by omega))]
    exact ⟨u, by rw [loopF_s e]; rfl, fun _ _ => rfl, fun _ _ => rfl, fun i hi => by omega⟩
  | succ m ih =>
    intro i N u h1 h2 h4
    obtain ⟨N, rfl⟩ : ∃ z, N = z + 1 := ⟨N - 1, by omega⟩
    have e : f_X7_text_b66 (nI k) x (nI i, u) = some (.inr (nI (i + 1), up u 30 (n + 3 + i) (nI (lbO x i)))) := by
      unfold f_X7_text_b66
      rw [if_neg (show ¬ nI k ≤ nI i from nI_ge (by omega) (by omega))]
      show chk 400 (u 0 0 + 3 + nI i) (some (Sum.inr (nI i + 1, up u 30 (Int32.toNatClampNeg (u 0 0 + 3 + nI i)) ((x >>> (Int32.toInt64 (8 * nI i) &&& 63)).toInt32 &&& 255)))) = _
      rw [h4, show (3 : Int32) = nI 3 from rfl, nI_add, nI_add, chkN (by omega) (by omega), cl_nI (by omega), nI_1, show (8 : Int32) * nI i = nI (8 * i) by rw [show (8 : Int32) = nI 8 from rfl, pk_mul], lbM x (by omega)]
    obtain ⟨u1, f1, f2, f4, f5⟩ := ih (i + 1) N (up u 30 (n + 3 + i) (nI (lbO x i))) (by omega) (by omega) h4
    refine ⟨u1, by rw [loopF_s e]; exact f1, fun j k1 => (f2 j k1).trans (up_o k1), fun j hj => ?_, fun j j1 j2 => ?_⟩
    · rw [f4 j (by omega)]
      simp (disch := omega) only [up_s, up_o, upd_s, upd_o]
    · by_cases z : j = i
      · subst z
        rw [f4 (n + 3 + j) (by omega)]
        simp (disch := omega) only [up_s, up_o, upd_s, upd_o]
      · exact f5 j (by omega) j2
theorem op_text {u v : St} (h : RR u v) (a0 : Int32) (a1 : Int64) : ∃ r u2 v2, f_X6_text a0 a1 u = some (r, u2) ∧ f_X7_text a0 a1 v = some (r, v2) ∧ RR u2 v2 := by
  obtain ⟨b, n, hE, h6, h7, h8, h9⟩ := id h
  obtain ⟨h1, h2, h3, h4, h5⟩ := id hE
  have hn := h1.1
  unfold f_X6_text f_X6_text_j10 f_X7_text f_X7_text_j10
  by_cases q : a0 < 0
  · rw [if_pos q, if_pos q]
    exact ⟨_, _, _, rfl, rfl, h⟩
  obtain ⟨k, hk, rfl⟩ := nI_of q
  rw [if_neg q, if_neg q]
  by_cases q8 : k ≤ 8
  rotate_left
  · rw [if_neg (show ¬ nI k ≤ 8 from nI_ge (a := 8) (by omega) hk), if_neg (show ¬ nI k ≤ 8 from nI_ge (a := 8) (by omega) hk)]
    exact ⟨_, _, _, rfl, rfl, h⟩
  rw [if_pos (show nI k ≤ 8 from nI_le (b := 8) q8 (by omega)), if_pos (show nI k ≤ 8 from nI_le (b := 8) q8 (by omega))]
  have e3 : (3 : Int32) + nI k = nI (3 + k) := nI_add 3 k
  have eM : v 0 0 + 3 + nI k = nI (n + 3 + k) := by rw [h5, show (3 : Int32) = nI 3 from rfl, nI_add, nI_add]
  rw [e3, bd_some (X_room hn h4 (show 3 + k < 2 ^ 31 by omega)), eM]
  by_cases qr : n + 3 + k ≤ 400
  rotate_left
  · rw [if_pos (bI_0.mpr (by omega)), if_neg (show ¬ nI (n + 3 + k) ≤ 400 from nI_ge (a := 400) (by omega) (by omega))]
    exact ⟨_, _, _, rfl, rfl, h⟩
  rw [if_neg (fun z => bI_0.mp z (by omega)), if_pos (show nI (n + 3 + k) ≤ 400 from nI_le (b := 400) qr (by omega))]
  -- the class
  obtain ⟨ua, a1', a2, a3, a4, a5⟩ := X_append (u := u) 1 (w := 1) (n := n) (by omega) (by omega) (by omega) h4
  obtain ⟨ub, b1, b2', b3, b4, b5⟩ := X_append (u := ua) (nI k) (w := 2) (n := n + 1) (by omega) (by omega) (by omega) a3
  obtain ⟨uc, c1, c2, c3, c4, c5⟩ := X_letters a1 k q8 k 0 FU ub (n + 1 + 2) (by omega) (by rw [FU_def]; omega) (by omega) b3
  have a1' : f_X1_append 1 1 u = some ua := a1'
  have b1 : f_X1_append 2 (nI k) ua = some ub := b1
  have c1 : loopF (f_X6_text_b49 (nI k) a1) FU (0, ub) = some (.inr uc) := c1
  rw [bd_some a1', bd_some b1, bd_some c1]
  -- the reference
  have d1 : v 0 0 + 1 = nI (n + 1) := by rw [h5, nI_1]
  have d2 : v 0 0 + 2 = nI (n + 2) := by rw [h5]; exact nI_add n 2
  rw [d1, d2, h5]
  obtain ⟨vc, g1, g2, g3, g4⟩ := M_letters a1 k n q8 qr k 0 FU (up (up (up v 30 n 1) 30 (n + 1) 0) 30 (n + 2) (nI k)) (by omega) (by rw [FU_def]; omega) h5
  have g1 : loopF (f_X7_text_b66 (nI k) a1) FU (0, up (up (up v 30 n 1) 30 (n + 1) 0) 30 (n + 2) (nI k)) = some (.inr vc) := g1
  simp only [chkN (show n < 400 by omega) (show 400 < 2 ^ 31 by omega), chkN (show n + 1 < 400 by omega) (show 400 < 2 ^ 31 by omega), chkN (show n + 2 < 400 by omega) (show 400 < 2 ^ 31 by omega), cl_nI (show n < 2 ^ 31 by omega), cl_nI (show n + 1 < 2 ^ 31 by omega), cl_nI (show n + 2 < 2 ^ 31 by omega)]
  rw [bd_some g1]
  have v0c : vc 0 0 = nI n := by rw [g2 0 (by omega)]; exact h5
  simp only [Sum.elim_inr, c3, v0c, nI_add]
  have eL : n + 1 + 2 + k = n + (3 + k) := by omega
  rw [eL]
  have by10 : byO 1 0 = 1 := by decide
  have byk0 : byO (nI k) 0 = k := by
    unfold byO
    rw [show (nI k).toBitVec.toNat = k from pk_tn (by omega)]
    omega
  have byk1 : byO (nI k) 1 = 0 := by
    unfold byO
    rw [show (nI k).toBitVec.toNat = k from pk_tn (by omega)]
    omega
  refine ⟨_, _, _, rfl, rfl, h.new (b := b) (n := n) (n1 := n + (3 + k)) (b1 := fun i => if i < n then b i else if i = n then 1 else if i = n + 1 then 0 else if i = n + 2 then k else lbO a1 (i - (n + 3))) (fun j k1 k2 _ => ((c2 j k1 k2).trans (b2' j k1 k2)).trans (a2 j k1 k2)) (fun j k1 k2 _ => ?_) (by rw [c3, eL]) rfl (by omega) (fun i hi => ?_)⟩
  · rw [up_o k1, g2 j k2, up_o k2, up_o k2, up_o k2]
  · have hv : (up vc 0 0 (nI (n + (3 + k)))) 30 i = vc 30 i := by rw [up_o (by omega)]
    rw [hv]
    by_cases z : i < n
    · simp only [if_pos z]
      rw [c4 i (by omega), b4 i (by omega), a4 i z, g3 i (by omega)]
      refine ⟨(h1.2 i z).1, ?_, (h1.2 i z).2⟩
      simp (disch := omega) only [up_s, up_o, upd_s, upd_o]
      exact (h2.2 i z).1
    simp only [if_neg z]
    by_cases z1 : i = n
    · subst z1
      have t := a5 0 (by omega)
      have t : ua 22 i = nI (byO 1 0) := t
      rw [c4 i (by omega), b4 i (by omega), t, by10, g3 i (by omega)]
      simp only [if_true]
      refine ⟨trivial, ?_, by omega⟩
      simp (disch := omega) only [up_s, up_o, upd_s, upd_o]
      rfl
    simp only [if_neg z1]
    by_cases z2 : i = n + 1
    · subst z2
      have t := b5 0 (by omega)
      have t : ub 22 (n + 1) = nI (byO (nI k) 1) := t
      rw [c4 (n + 1) (by omega), t, byk1, g3 (n + 1) (by omega)]
      simp only [if_true]
      refine ⟨trivial, ?_, by omega⟩
      simp (disch := omega) only [up_s, up_o, upd_s, upd_o]
      rfl
    simp only [if_neg z2]
    by_cases z3 : i = n + 2
    · subst z3
      have t := b5 1 (by omega)
      have t : ub 22 (n + 2) = nI (byO (nI k) 0) := t
      rw [c4 (n + 2) (by omega), t, byk0, g3 (n + 2) (by omega)]
      simp only [if_true]
      refine ⟨trivial, ?_, by omega⟩
      simp (disch := omega) only [up_s, up_o, upd_s, upd_o]
    simp only [if_neg z3]
    have t := c5 (i - (n + 3)) (by omega)
    rw [show n + 1 + 2 + (i - (n + 3)) = i by omega, show 0 + (i - (n + 3)) = i - (n + 3) by omega] at t
    have t2 := g4 (i - (n + 3)) (by omega) (by omega)
    rw [show n + 3 + (i - (n + 3)) = i by omega] at t2
    exact ⟨t, t2, Nat.mod_lt _ (by omega)⟩
