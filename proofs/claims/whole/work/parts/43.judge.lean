/-- jumps, last, handlers -/
theorem st_jlh {u0 v0 u v : St} {b : Nat → Nat} {n N pos B C L H K : Nat} {kd pl o : Nat → Nat} (hE : EV u0 v0 b n) (h : JS True u0 v0 n pos n 1 n u v) (hP : PQ b n N kd pl u v) (hC : CQ n B C L H u v) (hW : WK b B C o K C u v) (hK : 1 ≤ K) :
    ∃ v1, ((loopF f_X7_judgeCode_b6 FU (0, v)).bind fun q90 => Sum.elim (fun q9 => some q9) (fun q9 => f_X7_judgeCode_j57 q9) q90) = some v1 ∧
      ((f_X0_judgeJumps u = some (1, u) ∧ f_X0_judgeLast u = some (1, u) ∧ f_X0_judgeHandlers u = some (1, u) ∧ v1 = v) ∨
       (∃ u1, EE True u0 v0 u1 v1 ∧ (f_X0_judgeJumps u = some (0, u1) ∨ (f_X0_judgeJumps u = some (1, u) ∧ f_X0_judgeLast u = some (0, u1)) ∨ (f_X0_judgeJumps u = some (1, u) ∧ f_X0_judgeLast u = some (1, u) ∧ f_X0_judgeHandlers u = some (0, u1))))) := by
  have hn := hE.1.1
  obtain ⟨g1, g2, g3, g4, m1, m2, m3, m4, m5, c10, c11, c12, c13⟩ := id hC
  obtain ⟨k1, k2, k3, k4, k5, k6, k7, k8, k9⟩ := id hW
  have hBX := hE.bx h.1
  have hBM := hE.bm h.2.1
  have h27 : ∀ q, q < C → u 27 q = bI (∃ i, i < K ∧ o i = q) := fun q hq => (k8 q hq).1
  have h40 : ∀ q, q < C → v 40 q = bI (∃ i, i < K ∧ o i = q) := fun q hq => (k8 q hq).2
  -- jumps
  have kx : ∀ i, 0 ≤ i → i < K → (jmpOK b B C o K (o i) ∧ f_X0_judgeJumps_b2 (nI i, u) = some (.inr (nI (i + 1), u))) ∨ (¬ jmpOK b B C o K (o i) ∧ (f_X0_judgeJumps_b2 (nI i, u) = some (.inl (.inl (0, up (up u 2 0 25) 3 0 (nI (B + o i))))) ∨ ∃ a', f_X0_judgeJumps_b2 (nI i, u) = some (.inr a') ∧ f_X0_judgeJumps_b2 a' = some (.inl (.inl (0, up (up u 2 0 25) 3 0 (nI (B + o i))))))) := by
    intro i _ i2
    obtain ⟨f1, f2, f3, f4⟩ := k6 i i2
    unfold f_X0_judgeJumps_b2
    simp only [k1, if_neg (nI_ge i2 (show K < 2 ^ 31 by omega)), chkN (show i < 64 by omega) (show 64 < 2 ^ 31 by omega), cl_nI (show i < 2 ^ 31 by omega), f1, X_jumps hC hBX h27 f2 f3 f4, Option.bind_some, X_broken, bchk_0, g1, nI_add, nI_1]
    by_cases y : jmpOK b B C o K (o i)
    · rw [if_neg (fun t => bI_0.mp t y)]
      exact Or.inl ⟨y, rfl⟩
    · rw [if_pos (bI_0.mpr y)]
      exact Or.inr ⟨y, Or.inl rfl⟩
  have kxe : f_X0_judgeJumps_b2 (nI K, u) = some (.inl (.inr u)) := by
    unfold f_X0_judgeJumps_b2
    rw [if_pos (show u 12 0 ≤ nI K by rw [k1]; exact nI_le (Nat.le_refl _) (by omega))]
  have lx := loop_seq (β := (Int32 × St) ⊕ St) (fun i => (nI i, u)) (fun i => jmpOK b B C o K (o i)) (fun i => .inl (0, up (up u 2 0 25) 3 0 (nI (B + o i)))) (.inr u) (Nat.zero_le K) (by omega) kx kxe
  have km : ∀ p, 0 ≤ p → p < C → (((∃ i, i < K ∧ o i = p) → jmpOK b B C o K p) ∧ f_X7_judgeCode_b6 (nI p, v) = some (.inr (nI (p + 1), v))) ∨ (¬ ((∃ i, i < K ∧ o i = p) → jmpOK b B C o K p) ∧ (f_X7_judgeCode_b6 (nI p, v) = some (.inl (.inr (up (up v 7 0 25) 8 0 (nI (B + p))))) ∨ ∃ a', f_X7_judgeCode_b6 (nI p, v) = some (.inr a') ∧ f_X7_judgeCode_b6 a' = some (.inl (.inr (up (up v 7 0 25) 8 0 (nI (B + p))))))) := by
    intro p _ p2
    have ex : f_X7_judgeCode_b6 (nI (p + 1), up (up v 7 0 25) 8 0 (nI (B + p))) = some (.inl (.inr (up (up v 7 0 25) 8 0 (nI (B + p))))) := by
      unfold f_X7_judgeCode_b6
      simp only [if_neg (show ¬ (up (up v 7 0 25) 8 0 (nI (B + p))) 7 0 = 0 from show ¬ (25 : Int32) = 0 by decide), ite_self]
    by_cases s : ∃ i, i < K ∧ o i = p
    · obtain ⟨i, i2, rfl⟩ := id s
      obtain ⟨f1, f2, f3, f4⟩ := k6 i i2
      have eM : f_X7_judgeCode_b6 (nI (o i), v) = if bI (jmpOK b B C o K (o i)) = 0 then some (.inr (nI (o i + 1), up (up v 7 0 25) 8 0 (nI (B + o i)))) else some (.inr (nI (o i + 1), v)) := by
        unfold f_X7_judgeCode_b6 f_X7_judgeCode_j51_6
        simp only [m2, if_neg (nI_ge p2 (show C < 2 ^ 31 by omega)), h.r0, if_true, chkN (show o i < 65 by omega) (show 65 < 2 ^ 31 by omega), cl_nI (show o i < 2 ^ 31 by omega), h40 (o i) p2, if_neg (fun t => bI_0.mp t s), M_jumps hC hBM h40 f2 f3 f4, Option.bind_some, M_fail h.z, m1, nI_add, nI_1]
      rw [eM]
      by_cases y : jmpOK b B C o K (o i)
      · rw [if_neg (fun t => bI_0.mp t y)]
        exact Or.inl ⟨fun _ => y, rfl⟩
      · rw [if_pos (bI_0.mpr y)]
        exact Or.inr ⟨fun t => y (t s), Or.inr ⟨_, rfl, ex⟩⟩
    · refine Or.inl ⟨fun t => absurd t s, ?_⟩
      unfold f_X7_judgeCode_b6 f_X7_judgeCode_j51_6
      simp only [m2, if_neg (nI_ge p2 (show C < 2 ^ 31 by omega)), h.r0, if_true, chkN (show p < 65 by omega) (show 65 < 2 ^ 31 by omega), cl_nI (show p < 2 ^ 31 by omega), h40 p p2, if_pos (bI_0.mpr s), nI_1]
  have kme : f_X7_judgeCode_b6 (nI C, v) = some (.inl (.inr v)) := by
    unfold f_X7_judgeCode_b6
    rw [if_pos (show v 11 0 ≤ nI C by rw [m2]; exact nI_le (Nat.le_refl _) (by omega))]
  have lm := loop_seq (β := St ⊕ St) (fun p => (nI p, v)) (fun p => (∃ i, i < K ∧ o i = p) → jmpOK b B C o K p) (fun p => .inr (up (up v 7 0 25) 8 0 (nI (B + p)))) (.inr v) (Nat.zero_le C) (by omega) km kme
  rcases lx with ⟨x1, x2⟩ | ⟨j, j1, j2, j3, j4, x1⟩
  rotate_left
  · have x1 : loopF f_X0_judgeJumps_b2 FU (0, u) = _ := x1
    have eX : f_X0_judgeJumps u = some (0, up (up u 2 0 25) 3 0 (nI (B + o j))) := by
      unfold f_X0_judgeJumps
      rw [bd_some x1]
      rfl
    rcases lm with ⟨y1, y2⟩ | ⟨p, p1, p2, p3, p4, y1⟩
    · exact absurd (y2 (o j) (Nat.zero_le _) (k6 j j2).2.1 ⟨j, j2, rfl⟩) j3
    · have hpj : p = o j := by
        have s : ∃ i, i < K ∧ o i = p := by
          by_cases z : ∃ i, i < K ∧ o i = p
          · exact z
          · exact absurd (fun t => absurd t z) p3
        obtain ⟨i, i1, i2⟩ := s
        have bad : ¬ jmpOK b B C o K (o i) := fun t => p3 (fun _ => i2 ▸ t)
        rcases Nat.lt_trichotomy i j with z | z | z
        · exact absurd (j4 i (Nat.zero_le _) z) bad
        · rw [← i2, z]
        · have := k7 j i z i1
          exact absurd (p4 (o j) (Nat.zero_le _) (by omega) ⟨j, j2, rfl⟩) j3
      subst hpj
      have y1 : loopF f_X7_judgeCode_b6 FU (0, v) = _ := y1
      have hEE := h.err (r := 25) (by omega) (by omega) (nI (B + o j))
      refine ⟨up (up v 7 0 25) 8 0 (nI (B + o j)), ?_, Or.inr ⟨_, hEE, Or.inl eX⟩⟩
      rw [bd_some y1]
      show f_X7_judgeCode_j57 _ = _
      unfold f_X7_judgeCode_j57
      rw [if_neg (show ¬ (up (up v 7 0 25) 8 0 (nI (B + o j))) 7 0 = 0 from hEE.n)]
  have x1 : loopF f_X0_judgeJumps_b2 FU (0, u) = _ := x1
  have eX : f_X0_judgeJumps u = some (1, u) := by
    unfold f_X0_judgeJumps
    rw [bd_some x1]
    rfl
  rcases lm with ⟨y1, y2⟩ | ⟨p, p1, p2, p3, p4, y1⟩
  rotate_left
  · refine absurd (fun t => ?_) p3
    obtain ⟨i, i1, i2⟩ := t
    rw [← i2]
    exact x2 i (Nat.zero_le _) i1
  have y1 : loopF f_X7_judgeCode_b6 FU (0, v) = _ := y1
  rw [bd_some y1]
  simp only [Sum.elim_inr]
  -- the last instruction
  obtain ⟨f1, f2, f3, f4⟩ := k6 (K - 1) (by omega)
  obtain ⟨e1, e2⟩ := hBX.2 (B + o (K - 1)) (by omega)
  have eL : f_X0_judgeLast u = if b (B + o (K - 1)) = 167 ∨ b (B + o (K - 1)) = 170 ∨ b (B + o (K - 1)) = 172 ∨ b (B + o (K - 1)) = 177 ∨ b (B + o (K - 1)) = 191 then some (1, u) else some (0, up (up u 2 0 26) 3 0 (nI (B + o (K - 1)))) := by
    unfold f_X0_judgeLast
    have e12 : u 12 0 - 1 = nI (K - 1) := by rw [k1]; exact pk_sub (b := 1) hK
    simp only [e12, chkN (show K - 1 < 64 by omega) (show 64 < 2 ^ 31 by omega), cl_nI (show K - 1 < 2 ^ 31 by omega), f1, g1, nI_add, chkN (show B + o (K - 1) < 400 by omega) (show 400 < 2 ^ 31 by omega), cl_nI (show B + o (K - 1) < 2 ^ 31 by omega), e1, X_broken, Option.bind_some, bchk_0]
    simp (disch := omega) only [L167, L170, L172, L177, L191, eqN]
  have m16 := k9 (by omega)
  have eLM : f_X7_judgeCode_j57 v = if b (B + o (K - 1)) = 167 ∨ b (B + o (K - 1)) = 170 ∨ b (B + o (K - 1)) = 172 ∨ b (B + o (K - 1)) = 177 ∨ b (B + o (K - 1)) = 191 then f_X7_judgeCode_j125 v else f_X7_judgeCode_j125 (up (up v 7 0 26) 8 0 (nI (B + o (K - 1)))) := by
    unfold f_X7_judgeCode_j57
    simp only [h.r0, if_true, m16, M_byteAt hC hBM f2, Option.bind_some, M_fail h.z, m1, nI_add]
    simp (disch := omega) only [L167, L170, L172, L177, L191, eqN]
    grind
  rw [eLM]
  by_cases c : b (B + o (K - 1)) = 167 ∨ b (B + o (K - 1)) = 170 ∨ b (B + o (K - 1)) = 172 ∨ b (B + o (K - 1)) = 177 ∨ b (B + o (K - 1)) = 191
  rotate_left
  · rw [if_neg c] at eL ⊢
    have hEE := h.err (r := 26) (by omega) (by omega) (nI (B + o (K - 1)))
    refine ⟨up (up v 7 0 26) 8 0 (nI (B + o (K - 1))), ?_, Or.inr ⟨_, hEE, Or.inr (Or.inl ⟨eX, eL⟩)⟩⟩
    unfold f_X7_judgeCode_j125
    have e : f_X7_judgeCode_b127 (0, up (up v 7 0 26) 8 0 (nI (B + o (K - 1)))) = some (.inl (.inr (up (up v 7 0 26) 8 0 (nI (B + o (K - 1)))))) := by
      unfold f_X7_judgeCode_b127
      simp only [if_neg (show ¬ (up (up v 7 0 26) 8 0 (nI (B + o (K - 1)))) 7 0 = 0 from show ¬ (26 : Int32) = 0 by decide), ite_self]
    rw [show FU = 999999 + 1 from rfl, loopF_s e]
    rfl
  rw [if_pos c] at eL ⊢
  -- handlers
  have hx : ∀ i, 0 ≤ i → i < H → (hdOK b kd C o K (B + C + 2 + 8 * i) ∧ f_X0_judgeHandlers_b2 (nI i, u) = some (.inr (nI (i + 1), u))) ∨ (¬ hdOK b kd C o K (B + C + 2 + 8 * i) ∧ (f_X0_judgeHandlers_b2 (nI i, u) = some (.inl (.inl (0, up (up u 2 0 27) 3 0 (nI (B + C + 2 + 8 * i))))) ∨ ∃ a', f_X0_judgeHandlers_b2 (nI i, u) = some (.inr a') ∧ f_X0_judgeHandlers_b2 a' = some (.inl (.inl (0, up (up u 2 0 27) 3 0 (nI (B + C + 2 + 8 * i))))))) := by
    intro i _ i2
    have ea : u 9 0 + u 10 0 + 2 + nI i * 8 = nI (B + C + 2 + 8 * i) := by rw [g1, g2, nI_add, show (8 : Int32) = nI 8 from rfl, show (2 : Int32) = nI 2 from rfl, pk_mul, nI_add, nI_add, Nat.mul_comm]
    unfold f_X0_judgeHandlers_b2
    simp only [g4, if_neg (nI_ge i2 (show H < 2 ^ 31 by omega)), ea, X_handler hP hC hBX h27 (show B + C + 2 + 8 * i + 8 ≤ n by omega), Option.bind_some, X_broken, bchk_0, nI_1]
    by_cases y : hdOK b kd C o K (B + C + 2 + 8 * i)
    · rw [if_neg (fun t => bI_0.mp t y)]
      exact Or.inl ⟨y, rfl⟩
    · rw [if_pos (bI_0.mpr y)]
      exact Or.inr ⟨y, Or.inl rfl⟩
  have hxe : f_X0_judgeHandlers_b2 (nI H, u) = some (.inl (.inr u)) := by
    unfold f_X0_judgeHandlers_b2
    rw [if_pos (show u 13 0 ≤ nI H by rw [g4]; exact nI_le (Nat.le_refl _) (by omega))]
  have hm : ∀ i, 0 ≤ i → i < H → (hdOK b kd C o K (B + C + 2 + 8 * i) ∧ f_X7_judgeCode_b127 (nI i, v) = some (.inr (nI (i + 1), v))) ∨ (¬ hdOK b kd C o K (B + C + 2 + 8 * i) ∧ (f_X7_judgeCode_b127 (nI i, v) = some (.inl (.inr (up (up v 7 0 27) 8 0 (nI (B + C + 2 + 8 * i))))) ∨ ∃ a', f_X7_judgeCode_b127 (nI i, v) = some (.inr a') ∧ f_X7_judgeCode_b127 a' = some (.inl (.inr (up (up v 7 0 27) 8 0 (nI (B + C + 2 + 8 * i))))))) := by
    intro i _ i2
    have ea : v 13 0 + 8 * nI i = nI (B + C + 2 + 8 * i) := by rw [m4, show (8 : Int32) = nI 8 from rfl, pk_mul, nI_add]
    have ex : f_X7_judgeCode_b127 (nI (i + 1), up (up v 7 0 27) 8 0 (nI (B + C + 2 + 8 * i))) = some (.inl (.inr (up (up v 7 0 27) 8 0 (nI (B + C + 2 + 8 * i))))) := by
      unfold f_X7_judgeCode_b127
      simp only [if_neg (show ¬ (up (up v 7 0 27) 8 0 (nI (B + C + 2 + 8 * i))) 7 0 = 0 from show ¬ (27 : Int32) = 0 by decide), ite_self]
    have eM : f_X7_judgeCode_b127 (nI i, v) = if bI (hdOK b kd C o K (B + C + 2 + 8 * i)) = 0 then some (.inr (nI (i + 1), up (up v 7 0 27) 8 0 (nI (B + C + 2 + 8 * i)))) else some (.inr (nI (i + 1), v)) := by
      unfold f_X7_judgeCode_b127 f_X7_judgeCode_j166_127
      simp only [m5, if_neg (nI_ge i2 (show H < 2 ^ 31 by omega)), h.r0, if_true, M_handler hP hC hBM h40 rfl (show B + C + 2 + 8 * i + 8 ≤ n by omega), Option.bind_some, M_fail h.z, ea, nI_1]
    rw [eM]
    by_cases y : hdOK b kd C o K (B + C + 2 + 8 * i)
    · rw [if_neg (fun t => bI_0.mp t y)]
      exact Or.inl ⟨y, rfl⟩
    · rw [if_pos (bI_0.mpr y)]
      exact Or.inr ⟨y, Or.inr ⟨_, rfl, ex⟩⟩
  have hme : f_X7_judgeCode_b127 (nI H, v) = some (.inl (.inr v)) := by
    unfold f_X7_judgeCode_b127
    rw [if_pos (show v 14 0 ≤ nI H by rw [m5]; exact nI_le (Nat.le_refl _) (by omega))]
  have hlx := loop_seq (β := (Int32 × St) ⊕ St) (fun i => (nI i, u)) (fun i => hdOK b kd C o K (B + C + 2 + 8 * i)) (fun i => .inl (0, up (up u 2 0 27) 3 0 (nI (B + C + 2 + 8 * i)))) (.inr u) (Nat.zero_le H) (by omega) hx hxe
  have hlm := loop_seq (β := St ⊕ St) (fun i => (nI i, v)) (fun i => hdOK b kd C o K (B + C + 2 + 8 * i)) (fun i => .inr (up (up v 7 0 27) 8 0 (nI (B + C + 2 + 8 * i)))) (.inr v) (Nat.zero_le H) (by omega) hm hme
  unfold f_X7_judgeCode_j125 f_X7_judgeCode_j172
  rcases hlx with ⟨x3, x4⟩ | ⟨j, j1, j2, j3, j4, x3⟩
  · rcases hlm with ⟨y3, y4⟩ | ⟨p, p1, p2, p3, p4, y3⟩
    · have x3 : loopF f_X0_judgeHandlers_b2 FU (0, u) = _ := x3
      have y3 : loopF f_X7_judgeCode_b127 FU (0, v) = _ := y3
      refine ⟨v, by rw [bd_some y3]; rfl, Or.inl ⟨eX, eL, ?_, rfl⟩⟩
      unfold f_X0_judgeHandlers
      rw [bd_some x3]
      rfl
    · exact absurd (x4 p p1 p2) p3
  · rcases hlm with ⟨y3, y4⟩ | ⟨p, p1, p2, p3, p4, y3⟩
    · exact absurd (y4 j j1 j2) j3
    · have : p = j := by
        rcases Nat.lt_trichotomy p j with z | z | z
        · exact absurd (j4 p p1 z) p3
        · exact z
        · exact absurd (p4 j j1 z) j3
      subst this
      have x3 : loopF f_X0_judgeHandlers_b2 FU (0, u) = _ := x3
      have y3 : loopF f_X7_judgeCode_b127 FU (0, v) = _ := y3
      have hEE := h.err (r := 27) (by omega) (by omega) (nI (B + C + 2 + 8 * p))
      refine ⟨up (up v 7 0 27) 8 0 (nI (B + C + 2 + 8 * p)), by rw [bd_some y3]; rfl, Or.inr ⟨_, hEE, Or.inr (Or.inr ⟨eX, eL, ?_⟩)⟩⟩
      unfold f_X0_judgeHandlers
      rw [bd_some x3]
      rfl
/-- a CODE is judged -/
theorem st_code {u0 v0 u v : St} {b : Nat → Nat} {n N pos B C L H : Nat} {kd pl : Nat → Nat} (hE : EV u0 v0 b n) (h : JS True u0 v0 n pos n 1 n u v) (hP : PQ b n N kd pl u v) (hC : CQ n B C L H u v) (h12 : u 12 0 = 0) (A D : St → Option (Int32 × St)) :
    ∃ v1, f_X7_judgeCode v = some v1 ∧
      ((∃ u1, ((f_X0_judgeInstructions u).bind fun q18 => if q18.1 = 0 then A q18.2 else (f_X0_judgeJumps q18.2).bind fun q20 => if q20.1 = 0 then A q20.2 else (f_X0_judgeLast q20.2).bind fun q22 => if q22.1 = 0 then A q22.2 else (f_X0_judgeHandlers q22.2).bind fun q24 => if q24.1 = 0 then A q24.2 else D q24.2) = D u1 ∧ KX u u1 ∧ KM v v1 ∧ u1 12 0 = v1 15 0) ∨
       (∃ u1, ((f_X0_judgeInstructions u).bind fun q18 => if q18.1 = 0 then A q18.2 else (f_X0_judgeJumps q18.2).bind fun q20 => if q20.1 = 0 then A q20.2 else (f_X0_judgeLast q20.2).bind fun q22 => if q22.1 = 0 then A q22.2 else (f_X0_judgeHandlers q22.2).bind fun q24 => if q24.1 = 0 then A q24.2 else D q24.2) = A u1 ∧ EE True u0 v0 u1 v1)) := by
  have n10 : ¬ (1 : Int32) = 0 := by decide
  unfold f_X7_judgeCode
  rcases st_walk hE h hP hC h12 with ⟨u1, v1, o, K, e1, e2, hX, hM, hW, hK⟩ | ⟨u1, v1, e1, e2, hEE⟩
  · obtain ⟨v2, f1, f2⟩ := st_jlh hE (h.k hX hM) (hP.k hX hM) (hC.k hX hM) hW hK
    refine ⟨v2, by rw [bd_some e2]; exact f1, ?_⟩
    simp only [e1, Option.bind_some, if_neg n10]
    rcases f2 with ⟨t1, t2, t3, rfl⟩ | ⟨u2, t0, t1 | ⟨t1, t2⟩ | ⟨t1, t2, t3⟩⟩
    · left
      simp only [t1, t2, t3, Option.bind_some, if_neg n10]
      exact ⟨u1, rfl, hX, hM, by rw [hW.1, hW.2.1]⟩
    · right
      simp only [t1, Option.bind_some, if_true]
      exact ⟨u2, rfl, t0⟩
    · right
      simp only [t1, t2, Option.bind_some, if_neg n10, if_true]
      exact ⟨u2, rfl, t0⟩
    · right
      simp only [t1, t2, t3, Option.bind_some, if_neg n10, if_true]
      exact ⟨u2, rfl, t0⟩
  · have e3 : f_X7_judgeCode_b6 (0, v1) = some (.inl (.inr v1)) := by
      unfold f_X7_judgeCode_b6
      simp only [if_neg hEE.n, ite_self]
    refine ⟨v1, ?_, Or.inr ⟨u1, ?_, hEE⟩⟩
    · rw [bd_some e2, show FU = 999999 + 1 from rfl, loopF_s e3]
      show f_X7_judgeCode_j57 v1 = _
      unfold f_X7_judgeCode_j57
      rw [if_neg hEE.n]
    · simp only [e1, Option.bind_some, if_true]
