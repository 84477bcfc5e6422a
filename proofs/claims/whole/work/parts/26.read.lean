/-- reading numbers -/
def w2 (b : Nat → Nat) (i : Nat) : Nat := 256 * b i + b (i + 1)
def w4 (b : Nat → Nat) (i : Nat) : Nat := 16777216 * b i + 65536 * b (i + 1) + 256 * b (i + 2) + b (i + 3)
theorem nx_or (a c : Nat) : nI a ||| nI c = nI (a ||| c) := by
  unfold nI
  rw [← Int32.toBitVec_inj, Int32.toBitVec_or]
  show BitVec.ofNat 32 a ||| BitVec.ofNat 32 c = BitVec.ofNat 32 (a ||| c)
  exact BitVec.ofNat_or.symm
theorem or_lo {x y k : Nat} (h : y < 2 ^ k) : nI (x * 2 ^ k) ||| nI y = nI (x * 2 ^ k + y) := by
  rw [nx_or, ← Nat.shiftLeft_eq, ← Nat.shiftLeft_add_eq_or_of_lt h]
theorem shl_nI (x : Nat) {k : Nat} (hk : k < 32) : nI x <<< (nI k &&& 31) = nI (x * 2 ^ k) := by
  have h31 : nI k &&& 31 = nI k := by
    have := pk_andN (n := k) (by omega) (m := 31) 5 (by decide)
    rw [this]
    congr 1
    omega
  rw [h31]
  unfold nI
  rw [← Int32.toBitVec_inj, Int32.toBitVec_shiftLeft]
  show BitVec.ofNat 32 x <<< ((BitVec.ofNat 32 k).smod 32) = BitVec.ofNat 32 (x * 2 ^ k)
  apply BitVec.eq_of_toNat_eq
  have hs : ((BitVec.ofNat 32 k).smod 32).toNat = k := by
    have : ∀ k, k < 32 → ((BitVec.ofNat 32 k).smod 32).toNat = k := by decide +kernel
    exact this k hk
  rw [BitVec.shiftLeft_eq', BitVec.toNat_shiftLeft, hs, BitVec.toNat_ofNat, BitVec.toNat_ofNat, Nat.shiftLeft_eq, Nat.mod_mul_mod]
theorem w2_lt {b : Nat → Nat} {n i : Nat} (hb : ∀ j, j < n → b j < 256) (hi : i + 1 < n) : w2 b i < 65536 := by
  have h1 := hb i (by omega)
  have h2 := hb (i + 1) (by omega)
  unfold w2
  omega
theorem w4_lt {b : Nat → Nat} {n i : Nat} (hb : ∀ j, j < n → b j < 256) (hi : i + 3 < n) : w4 b i < 2 ^ 32 := by
  have h1 := hb i (by omega)
  have h2 := hb (i + 1) (by omega)
  have h3 := hb (i + 2) (by omega)
  have h4 := hb (i + 3) (by omega)
  unfold w4
  omega
theorem X_u2 {u : St} {b : Nat → Nat} {n i : Nat} (hB : BX u b n) (hi : i + 1 < n) : f_X1_u2 (nI i) u = some (nI (w2 b i)) := by
  have hn := hB.1
  obtain ⟨e1, e2⟩ := hB.2 i (by omega)
  obtain ⟨e3, e4⟩ := hB.2 (i + 1) (by omega)
  unfold f_X1_u2
  rw [nI_1, chkN (by omega) (by omega), chkN (by omega) (by omega), cl_nI (by omega), cl_nI (by omega), e1, e3, show (8 : Int32) = nI 8 from rfl, shl_nI _ (by omega), or_lo (by omega)]
  congr 2
  unfold w2
  omega
theorem X_u4 {u : St} {b : Nat → Nat} {n i : Nat} (hB : BX u b n) (hi : i + 3 < n) : f_X1_u4 (nI i) u = some (nI (w4 b i)) := by
  have hn := hB.1
  obtain ⟨e1, f1⟩ := hB.2 i (by omega)
  obtain ⟨e2, f2⟩ := hB.2 (i + 1) (by omega)
  obtain ⟨e3, f3⟩ := hB.2 (i + 2) (by omega)
  obtain ⟨e4, f4⟩ := hB.2 (i + 3) (by omega)
  unfold f_X1_u4
  rw [nI_1, show (2 : Int32) = nI 2 from rfl, show (3 : Int32) = nI 3 from rfl, nI_add, nI_add, chkN (by omega) (by omega), chkN (by omega) (by omega), chkN (by omega) (by omega), chkN (by omega) (by omega), cl_nI (by omega), cl_nI (by omega), cl_nI (by omega), cl_nI (by omega), e1, e2, e3, e4, show (8 : Int32) = nI 8 from rfl, show (16 : Int32) = nI 16 from rfl, show (24 : Int32) = nI 24 from rfl, shl_nI _ (by omega), shl_nI _ (by omega), shl_nI _ (by omega)]
  rw [show b i * 2 ^ 24 = (b i * 256) * 2 ^ 16 by omega, nx_or, show b i * 256 * 2 ^ 16 ||| b (i + 1) * 2 ^ 16 = (b i * 256 + b (i + 1)) * 2 ^ 16 from ?_, show (b i * 256 + b (i + 1)) * 2 ^ 16 = ((b i * 256 + b (i + 1)) * 256) * 2 ^ 8 by omega, nx_or, show (b i * 256 + b (i + 1)) * 256 * 2 ^ 8 ||| b (i + 2) * 2 ^ 8 = ((b i * 256 + b (i + 1)) * 256 + b (i + 2)) * 2 ^ 8 from ?_, or_lo (by omega)]
  · congr 2
    unfold w4
    omega
  · rw [← Nat.shiftLeft_eq, ← Nat.shiftLeft_eq (b (i + 2)), ← Nat.shiftLeft_or_distrib, Nat.shiftLeft_eq]
    congr 1
    have := Nat.shiftLeft_add_eq_or_of_lt (b := b (i + 2)) (i := 8) (by omega) (b i * 256 + b (i + 1))
    rw [Nat.shiftLeft_eq, show (2 : Nat) ^ 8 = 256 from rfl] at this
    exact this.symm
  · rw [← Nat.shiftLeft_eq, ← Nat.shiftLeft_eq (b (i + 1)), ← Nat.shiftLeft_or_distrib, Nat.shiftLeft_eq]
    congr 1
    have := Nat.shiftLeft_add_eq_or_of_lt (b := b (i + 1)) (i := 8) (by omega) (b i)
    rw [Nat.shiftLeft_eq, show (2 : Nat) ^ 8 = 256 from rfl] at this
    exact this.symm
theorem up_up (u : St) (k i : Nat) (x y : Int32) : up (up u k i x) k i y = up u k i y := by
  funext k2
  unfold up
  cases h : Nat.beq k2 k with
  | false => rfl
  | true =>
    have hk : k2 = k := Nat.eq_of_beq_eq_true h
    subst hk
    show upd (bif Nat.beq k2 k2 then _ else _) i y = upd (u k2) i y
    rw [h]
    show upd (upd (u k2) i x) i y = _
    funext j
    unfold upd
    by_cases q : j = i
    · rw [if_pos q, if_pos q]
    · rw [if_neg q, if_neg q, if_neg q]
/-- the reference fails -/
theorem M_fail {v : St} {r q : Int32} (h : v 7 0 = 0) : f_X7_fail r q v = some (0, up (up v 7 0 r) 8 0 q) := by
  unfold f_X7_fail f_X7_fail_j17
  rw [if_pos h]
theorem M_failN {v : St} {r q : Int32} (h : ¬ v 7 0 = 0) : f_X7_fail r q v = some (0, v) := by
  unfold f_X7_fail f_X7_fail_j17
  rw [if_neg h]
/-- nothing is read any more once a rule is broken -/
theorem M_uN {v : St} {c : Int32} (h : ¬ v 7 0 = 0) : f_X7_u c v = some (0, v) := by
  have e : f_X7_u_b5 c (0, 0, v) = some (.inl (.inr (0, v))) := by
    unfold f_X7_u_b5
    by_cases q : c ≤ 0
    · rw [if_pos q]
    · rw [if_neg q, if_neg h]
  unfold f_X7_u
  rw [show FU = 999999 + 1 from rfl, loopF_s e]
  show f_X7_u_j77 0 v = _
  unfold f_X7_u_j77 f_X7_u_j89
  rw [if_neg h]
theorem M_u2N {v : St} (h : ¬ v 7 0 = 0) : f_X7_u2 v = some (0, v) := by
  unfold f_X7_u2
  rw [bd_some (M_uN h)]
  rfl
theorem M_u1N {v : St} (h : ¬ v 7 0 = 0) : f_X7_u1 v = some (0, v) := by
  unfold f_X7_u1
  rw [bd_some (M_uN h)]
  rfl
theorem M_skipN {v : St} {c : Int64} (h : ¬ v 7 0 = 0) : f_X7_skip c v = some v := by
  unfold f_X7_skip f_X7_skip_j38 f_X7_skip_j56
  rw [if_neg h, if_neg h]
/-- the number of c bytes from i on -/
def wN (b : Nat → Nat) : Nat → Nat → Nat
  | 0, _ => 0
  | c + 1, i => 256 * wN b c i + b (i + c)
/-- the reference reads c bytes -/
theorem M_u {v : St} {b : Nat → Nat} {n pos lim lr ls c : Nat} (hB : BM v b n) (h3 : v 3 0 = nI pos) (h4 : v 4 0 = nI lim) (h5 : v 5 0 = nI lr) (h6 : v 6 0 = nI ls) (h7 : v 7 0 = 0) (hp : pos ≤ lim) (hl : lim ≤ n) (hr : lr ≠ 0) (hr2 : lr < 29) (hc : c ≤ 4) :
    (pos + c ≤ lim ∧ f_X7_u (nI c) v = some (lN (wN b c pos), if c = 0 then v else up v 3 0 (nI (pos + c)))) ∨ (lim < pos + c ∧ ∃ x, f_X7_u (nI c) v = some (0, up (up (if lim = pos then v else up v 3 0 x) 7 0 (nI lr)) 8 0 (nI ls))) := by
  have hn := hB.1
  have main : ∀ m k N, k + m = c → m < N → pos + k ≤ lim → 
      (pos + c ≤ lim ∧ loopF (f_X7_u_b5 (nI c)) N (lN (wN b k pos), nI k, if k = 0 then v else up v 3 0 (nI (pos + k))) = some (.inr (lN (wN b c pos), if c = 0 then v else up v 3 0 (nI (pos + c))))) ∨ (lim < pos + c ∧ ∃ x, loopF (f_X7_u_b5 (nI c)) N (lN (wN b k pos), nI k, if k = 0 then v else up v 3 0 (nI (pos + k))) = some (.inl (0, up (up (if lim = pos then v else up v 3 0 x) 7 0 (nI lr)) 8 0 (nI ls)))) := by
    intro m
    induction m with
    | zero =>
      intro k N a1 a2 a3
      obtain ⟨N, rfl⟩ : ∃ z, N = z + 1 := ⟨N - 1, by omega⟩
      have hk : k = c := by omega
      subst hk
      have e : f_X7_u_b5 (nI k) (lN (wN b k pos), nI k, if k = 0 then v else up v 3 0 (nI (pos + k))) = some (.inl (.inr (lN (wN b k pos), if k = 0 then v else up v 3 0 (nI (pos + k))))) := by
        unfold f_X7_u_b5
        rw [if_pos (nI_le (Nat.le_refl k) (by omega))]
      exact Or.inl ⟨a3, by rw [loopF_s e]; rfl⟩
    | succ m ih =>
      intro k N a1 a2 a3
      obtain ⟨N, rfl⟩ : ∃ z, N = z + 1 := ⟨N - 1, by omega⟩
      obtain ⟨vk, hvk⟩ : ∃ vk, vk = (if k = 0 then v else up v 3 0 (nI (pos + k))) := ⟨_, rfl⟩
      have g3 : vk 3 0 = nI (pos + k) := by
        rw [hvk]
        by_cases q : k = 0
        · rw [if_pos q, q, h3]; rfl
        · rw [if_neg q]; rfl
      have g4 : vk 4 0 = nI lim := by rw [hvk]; split <;> exact h4
      have g5 : vk 5 0 = nI lr := by rw [hvk]; split <;> exact h5
      have g6 : vk 6 0 = nI ls := by rw [hvk]; split <;> exact h6
      have g7 : vk 7 0 = 0 := by rw [hvk]; split <;> exact h7
      have g30 : vk 30 = v 30 := by rw [hvk]; split <;> rfl
      rw [← hvk]
      by_cases q : pos + k < lim
      · have e : f_X7_u_b5 (nI c) (lN (wN b k pos), nI k, vk) = some (.inr (lN (wN b (k + 1) pos), nI (k + 1), up v 3 0 (nI (pos + (k + 1))))) := by
          obtain ⟨f1, f2⟩ := hB.2 (pos + k) (by omega)
          unfold f_X7_u_b5
          rw [if_neg (show ¬ nI c ≤ nI k from nI_ge (by omega) (by omega)), if_pos (show vk 7 0 = 0 from g7), if_pos (show vk 3 0 < vk 4 0 by rw [g3, g4]; exact nI_lt q (by omega))]
          show chk 400 (vk 3 0) (some (Sum.inr (256 * lN (wN b k pos) + ((vk 30) (Int32.toNatClampNeg (vk 3 0))).toInt64, nI k + 1, up vk 3 0 (vk 3 0 + 1)))) = _
          rw [g3, chkN (by omega) (by omega), cl_nI (by omega), g30, f1, nI_1, nI_1, nI_l (by omega), show (256 : Int64) = lN 256 from rfl, lN_mul, lN_add, show pos + k + 1 = pos + (k + 1) by omega]
          have : up vk 3 0 (nI (pos + (k + 1))) = up v 3 0 (nI (pos + (k + 1))) := by
            rw [hvk]
            by_cases z : k = 0
            · rw [if_pos z]
            · rw [if_neg z, up_up]
          rw [this]
          rfl
        rw [loopF_s e]
        have z := ih (k + 1) N (by omega) (by omega) (by omega)
        rw [if_neg (show ¬ k + 1 = 0 by omega)] at z
        exact z
      · have hq : lim = pos + k := by omega
        have e : f_X7_u_b5 (nI c) (lN (wN b k pos), nI k, vk) = some (.inl (.inl (0, up (up vk 7 0 (nI lr)) 8 0 (nI ls)))) := by
          unfold f_X7_u_b5
          rw [if_neg (show ¬ nI c ≤ nI k from nI_ge (by omega) (by omega)), if_pos (show vk 7 0 = 0 from g7), if_neg (show ¬ vk 3 0 < vk 4 0 by rw [g3, g4]; exact nI_nlt (by omega) (by omega))]
          rw [bd_some (M_fail (show vk 7 0 = 0 from g7))]
          show some (Sum.inl (Sum.inl (0, up (up vk 7 0 (vk 5 0)) 8 0 (vk 6 0)))) = _
          rw [g5, g6]
        refine Or.inr ⟨by omega, nI (pos + k), ?_⟩
        rw [loopF_s e]
        have : vk = (if lim = pos then v else up v 3 0 (nI (pos + k))) := by
          rw [hvk]
          by_cases z : k = 0
          · rw [if_pos z, if_pos (by omega)]
          · rw [if_neg z, if_neg (by omega)]
        rw [this]
        rfl
  have z := main c 0 FU (by omega) (by rw [FU_def]; omega) (by omega)
  rw [if_pos (show 0 = 0 from rfl)] at z
  rcases z with ⟨a, z⟩ | ⟨a, x, z⟩
  · left
    refine ⟨a, ?_⟩
    unfold f_X7_u
    rw [show ((0 : Int64), (0 : Int32), v) = (lN (wN b 0 pos), nI 0, v) from rfl, bd_some z]
    show f_X7_u_j77 _ _ = _
    unfold f_X7_u_j77 f_X7_u_j89
    rw [if_pos (by split <;> exact h7)]
  · right
    refine ⟨a, x, ?_⟩
    unfold f_X7_u
    rw [show ((0 : Int64), (0 : Int32), v) = (lN (wN b 0 pos), nI 0, v) from rfl, bd_some z]
    rfl
