/-- what looking at instructions changes -/
def KX (u u1 : St) : Prop := ∀ k, k ≠ 12 → k ≠ 27 → k ≠ 28 → u1 k = u k
def KM (v v1 : St) : Prop := ∀ k, k ≠ 15 → k ≠ 16 → k ≠ 40 → v1 k = v k
theorem KX.trans {u u1 u2 : St} (h : KX u u1) (h2 : KX u1 u2) : KX u u2 := fun k a b c => (h2 k a b c).trans (h k a b c)
theorem KM.trans {u u1 u2 : St} (h : KM u u1) (h2 : KM u1 u2) : KM u u2 := fun k a b c => (h2 k a b c).trans (h k a b c)
theorem JS.k {u0 v0 u v u1 v1 : St} {n pos lim lr ls : Nat} (h : JS True u0 v0 n pos lim lr ls u v) (hX : KX u u1) (hM : KM v v1) : JS True u0 v0 n pos lim lr ls u1 v1 := by
  unfold JS FX FM RD TA at h ⊢
  rw [hX 0 (by omega) (by omega) (by omega), hX 1 (by omega) (by omega) (by omega), hX 20 (by omega) (by omega) (by omega), hX 21 (by omega) (by omega) (by omega), hX 22 (by omega) (by omega) (by omega), hX 4 (by omega) (by omega) (by omega), hX 5 (by omega) (by omega) (by omega), hX 6 (by omega) (by omega) (by omega), hX 7 (by omega) (by omega) (by omega), hX 2 (by omega) (by omega) (by omega), hX 23 (by omega) (by omega) (by omega), hX 8 (by omega) (by omega) (by omega)]
  rw [hM 0 (by omega) (by omega) (by omega), hM 1 (by omega) (by omega) (by omega), hM 2 (by omega) (by omega) (by omega), hM 30 (by omega) (by omega) (by omega), hM 31 (by omega) (by omega) (by omega), hM 41 (by omega) (by omega) (by omega), hM 42 (by omega) (by omega) (by omega), hM 43 (by omega) (by omega) (by omega), hM 44 (by omega) (by omega) (by omega), hM 45 (by omega) (by omega) (by omega), hM 3 (by omega) (by omega) (by omega), hM 4 (by omega) (by omega) (by omega), hM 5 (by omega) (by omega) (by omega), hM 6 (by omega) (by omega) (by omega), hM 7 (by omega) (by omega) (by omega), hM 32 (by omega) (by omega) (by omega)]
  exact h
theorem PQ.k {b : Nat → Nat} {n N : Nat} {kd pl : Nat → Nat} {u v u1 v1 : St} (h : PQ b n N kd pl u v) (hX : KX u u1) (hM : KM v v1) : PQ b n N kd pl u1 v1 :=
  h.fr (hX 8 (by omega) (by omega) (by omega)) (hX 25 (by omega) (by omega) (by omega)) (hX 26 (by omega) (by omega) (by omega)) (hM 9 (by omega) (by omega) (by omega)) (hM 33 (by omega) (by omega) (by omega)) (hM 34 (by omega) (by omega) (by omega)) (hM 35 (by omega) (by omega) (by omega)) (hM 36 (by omega) (by omega) (by omega))
theorem CQ.k {n B C L H : Nat} {u v u1 v1 : St} (h : CQ n B C L H u v) (hX : KX u u1) (hM : KM v v1) : CQ n B C L H u1 v1 := by
  unfold CQ at h ⊢
  rw [hX 9 (by omega) (by omega) (by omega), hX 10 (by omega) (by omega) (by omega), hX 11 (by omega) (by omega) (by omega), hX 13 (by omega) (by omega) (by omega), hM 10 (by omega) (by omega) (by omega), hM 11 (by omega) (by omega) (by omega), hM 12 (by omega) (by omega) (by omega), hM 13 (by omega) (by omega) (by omega), hM 14 (by omega) (by omega) (by omega)]
  exact h
/-- the instructions so far -/
def WK (b : Nat → Nat) (B C : Nat) (o : Nat → Nat) (k p : Nat) (u v : St) : Prop := u 12 0 = nI k ∧ v 15 0 = nI k ∧ k ≤ p ∧ p ≤ C ∧ (k = 0 → p = 0) ∧ (∀ i, i < k → u 28 i = nI (o i) ∧ o i < p ∧ szO b B C (o i) ≠ 0 ∧ o i + szO b B C (o i) ≤ C) ∧ (∀ i j, i < j → j < k → o i < o j) ∧ (∀ q, q < C → u 27 q = bI (∃ i, i < k ∧ o i = q) ∧ v 40 q = bI (∃ i, i < k ∧ o i = q)) ∧ (0 < k → v 16 0 = nI (o (k - 1)))
theorem X_zero {u : St} {C : Nat} (hC : C ≤ 64) (h10 : u 10 0 = nI C) : ∃ u1, loopF f_X0_judgeInstructions_b2 FU (0, u) = some (.inr u1) ∧ (∀ k, k ≠ 27 → u1 k = u k) ∧ ∀ q, q < C → u1 27 q = 0 := by
  have key := loopF_rule (body := f_X0_judgeInstructions_b2) (fun a => ∃ i u1, a = (nI i, u1) ∧ i ≤ C ∧ (∀ k, k ≠ 27 → u1 k = u k) ∧ ∀ q, q < i → u1 27 q = 0) (fun a => C - a.1.toNatClampNeg) (fun p => ∃ u1, p = .inr u1 ∧ (∀ k, k ≠ 27 → u1 k = u k) ∧ ∀ q, q < C → u1 27 q = 0) ?_ FU (0, u) ⟨0, u, rfl, by omega, fun _ _ => rfl, fun q hq => by omega⟩ (by rw [FU_def]; show C - _ < _; omega)
  · obtain ⟨q, e, u1, rfl, h1, h2⟩ := key
    exact ⟨u1, e, h1, h2⟩
  · rintro a ⟨i, u1, rfl, hi, h1, h2⟩
    have e10 : u1 10 0 = nI C := by rw [h1 10 (by omega)]; exact h10
    unfold f_X0_judgeInstructions_b2
    by_cases q : C ≤ i
    · left
      refine ⟨.inr u1, ?_, u1, rfl, h1, fun q hq => h2 q (by omega)⟩
      rw [if_pos (show u1 10 0 ≤ nI i by rw [e10]; exact nI_le q (by omega))]
    · right
      refine ⟨(nI (i + 1), up u1 27 i 0), ?_, ⟨i + 1, up u1 27 i 0, rfl, by omega, fun k hk => by rw [up_o hk]; exact h1 k hk, fun q hq => ?_⟩, ?_⟩
      · rw [if_neg (show ¬ u1 10 0 ≤ nI i by rw [e10]; exact nI_ge (by omega) (by omega))]
        show chk 64 (nI i) _ = _
        rw [chkN (by omega) (by omega), cl_nI (by omega), nI_1]
        rfl
      · by_cases z : q = i
        · rw [z]; simp (disch := omega) only [up_s, up_o, upd_s, upd_o]
        · simp (disch := omega) only [up_s, up_o, upd_s, upd_o]
          exact h2 q (by omega)
      · show C - (nI (i + 1)).toNatClampNeg < C - (nI i).toNatClampNeg
        rw [cl_nI (by omega), cl_nI (by omega)]
        omega
theorem M_zero {v : St} : ∃ v1, loopF f_X7_walk_b2 FU (0, v) = some (.inr v1) ∧ (∀ k, k ≠ 40 → v1 k = v k) ∧ ∀ q, q < 65 → v1 40 q = 0 := by
  have key := loopF_rule (body := f_X7_walk_b2) (fun a => ∃ i u1, a = (nI i, u1) ∧ i ≤ 65 ∧ (∀ k, k ≠ 40 → u1 k = v k) ∧ ∀ q, q < i → u1 40 q = 0) (fun a => 65 - a.1.toNatClampNeg) (fun p => ∃ u1, p = .inr u1 ∧ (∀ k, k ≠ 40 → u1 k = v k) ∧ ∀ q, q < 65 → u1 40 q = 0) ?_ FU (0, v) ⟨0, v, rfl, by omega, fun _ _ => rfl, fun q hq => by omega⟩ (by rw [FU_def]; show 65 - _ < _; omega)
  · obtain ⟨q, e, u1, rfl, h1, h2⟩ := key
    exact ⟨u1, e, h1, h2⟩
  · rintro a ⟨i, u1, rfl, hi, h1, h2⟩
    unfold f_X7_walk_b2
    by_cases q : 65 ≤ i
    · left
      refine ⟨.inr u1, ?_, u1, rfl, h1, fun q hq => h2 q (by omega)⟩
      rw [if_pos (show (65 : Int32) ≤ nI i from nI_le (a := 65) q (by omega))]
    · right
      refine ⟨(nI (i + 1), up u1 40 i 0), ?_, ⟨i + 1, up u1 40 i 0, rfl, by omega, fun k hk => by rw [up_o hk]; exact h1 k hk, fun q hq => ?_⟩, ?_⟩
      · rw [if_neg (show ¬ (65 : Int32) ≤ nI i from nI_ge (b := 65) (by omega) (by omega))]
        show chk 65 (nI i) _ = _
        rw [chkN (by omega) (by omega), cl_nI (by omega), nI_1]
        rfl
      · by_cases z : q = i
        · rw [z]; simp (disch := omega) only [up_s, up_o, upd_s, upd_o]
        · simp (disch := omega) only [up_s, up_o, upd_s, upd_o]
          exact h2 q (by omega)
      · show 65 - (nI (i + 1)).toNatClampNeg < 65 - (nI i).toNatClampNeg
        rw [cl_nI (by omega), cl_nI (by omega)]
        omega
theorem st_walk {u0 v0 u v : St} {b : Nat → Nat} {n N pos B C L H : Nat} {kd pl : Nat → Nat} (hE : EV u0 v0 b n) (h : JS True u0 v0 n pos n 1 n u v) (hP : PQ b n N kd pl u v) (hC : CQ n B C L H u v) (h12 : u 12 0 = 0) :
    (∃ u1 v1 o K, f_X0_judgeInstructions u = some (1, u1) ∧ f_X7_walk v = some v1 ∧ KX u u1 ∧ KM v v1 ∧ WK b B C o K C u1 v1 ∧ 1 ≤ K) ∨
    (∃ u1 v1, f_X0_judgeInstructions u = some (0, u1) ∧ f_X7_walk v = some v1 ∧ EE True u0 v0 u1 v1) := by
  have hn := hE.1.1
  obtain ⟨c1, c2, c3, c4, c5, c6, c7, c8, c9, c10, c11, c12, c13⟩ := id hC
  obtain ⟨ua, xa1, xa2, xa3⟩ := X_zero c11 c2
  obtain ⟨va, ma1, ma2, ma3⟩ := M_zero (v := v)
  unfold f_X0_judgeInstructions f_X7_walk f_X7_walk_j129
  rw [bd_some xa1, bd_some ma1]
  simp only [Sum.elim_inr]
  have key := loop2 (bx := f_X0_judgeInstructions_b25) (bm := f_X7_walk_b28)
    (fun k x y => ∃ u2 v2 o p, x = (nI p, u2) ∧ y = (nI p, v2) ∧ KX u u2 ∧ KM v v2 ∧ WK b B C o k p u2 v2)
    (fun p q => (∃ u1 v1 o K, p = .inr u1 ∧ q = .inr v1 ∧ KX u u1 ∧ KM v v1 ∧ WK b B C o K C u1 v1 ∧ 1 ≤ K) ∨ (∃ u1 v1, p = .inl (0, u1) ∧ q = .inr v1 ∧ EE True u0 v0 u1 v1)) 400 (by omega) ?_ (x := (nI 0, ua)) (y := (nI 0, up va 15 0 0)) ⟨ua, up va 15 0 0, fun _ => 0, 0, rfl, rfl, fun k _ k2 _ => xa2 k k2, fun k k1 _ k3 => by rw [up_o k1]; exact ma2 k k3, by rw [xa2 12 (by omega)]; exact h12, by simp (disch := omega) only [up_s, up_o, upd_s, upd_o]; rfl, by omega, by omega, fun _ => rfl, fun i hi => by omega, fun i j _ hj => by omega, fun q hq => ⟨by rw [xa3 q hq, bI_f (fun z => by obtain ⟨i, hi, -⟩ := z; omega)], by simp (disch := omega) only [up_s, up_o, upd_s, upd_o]; rw [ma3 q (by omega), bI_f (fun z => by obtain ⟨i, hi, -⟩ := z; omega)]⟩, fun z => by omega⟩
  · obtain ⟨p, q, e3, e4, hr⟩ := key
    have e3 : loopF f_X0_judgeInstructions_b25 FU (0, ua) = some p := e3
    have e4 : loopF f_X7_walk_b28 FU (0, up va 15 0 0) = some q := e4
    rw [bd_some e3, bd_some e4]
    rcases hr with ⟨u1, v1, o, K, rfl, rfl, t1, t2, t3, t4⟩ | ⟨u1, v1, rfl, rfl, t1⟩
    · exact Or.inl ⟨u1, v1, o, K, rfl, rfl, t1, t2, t3, t4⟩
    · exact Or.inr ⟨u1, v1, rfl, rfl, t1⟩
  rintro k x y ⟨u2, v2, o, p, rfl, rfl, hX, hM, hW⟩
  have h2 := h.k hX hM
  have hP2 := hP.k hX hM
  have hC2 := hC.k hX hM
  obtain ⟨k1, k2, k3, k4, k5, k6, k7, k8, k9⟩ := id hW
  refine ⟨by omega, ?_⟩
  have x10 : u2 10 0 = nI C := hC2.2.1
  have x9 : u2 9 0 = nI B := hC2.1
  have m11 : v2 11 0 = nI C := hC2.2.2.2.2.2.1
  have m10 : v2 10 0 = nI B := hC2.2.2.2.2.1
  unfold f_X0_judgeInstructions_b25 f_X7_walk_b28
  by_cases q : C ≤ p
  · left
    have hpC : p = C := by omega
    have q' : nI C ≤ nI p := nI_le q (by omega)
    simp only [x10, m11, if_pos q']
    exact ⟨_, _, rfl, rfl, Or.inl ⟨u2, v2, o, k, rfl, rfl, hX, hM, hpC ▸ hW, by omega⟩⟩
  have q' : ¬ nI C ≤ nI p := nI_ge (by omega) (by omega)
  have hBX := hE.bx h2.1
  have hBM := hE.bm h2.2.1
  have hEx : ∀ (x : Int32) (v1 : St), ¬ v1 7 0 = 0 → (if v1 11 0 ≤ x then some (.inl (.inr v1)) else if v1 7 0 = 0 then (f_X7_size x v1).bind (fun q6 => if q6 < 0 then f_X7_walk_j63_28 x q6 v1 else if x + q6 ≤ v1 11 0 then (f_X7_operandFits x v1).bind (fun q11 => if q11 = 0 then (f_X7_fail 24 (v1 10 0 + x) v1).bind (fun q13 => f_X7_walk_j100_28 x q6 q13.2) else f_X7_walk_j100_28 x q6 v1) else f_X7_walk_j63_28 x q6 v1) else some (.inl (.inr v1)) : Option ((St ⊕ St) ⊕ (Int32 × St))) = some (.inl (.inr v1)) := by
    intro x v1 hv
    simp only [if_neg hv, ite_self]
  have sl := szO_lt (b := b) (B := B) (C := C) (p := p) (by omega) c11
  have j100 : ∀ (x2 : Int32) (v1 : St), f_X7_walk_j100_28 (nI p) x2 v1 = some (.inr (nI p + x2, up (up (up v1 40 p 1) 16 0 (nI p)) 15 0 (v1 15 0 + 1))) := by
    intro x2 v1
    unfold f_X7_walk_j100_28
    rw [chkN (by omega) (by omega), cl_nI (by omega)]
    rfl
  have bad : ∀ r, r ≠ 0 → r < 29 → EE True u0 v0 (up (up u2 2 0 (nI r)) 3 0 (nI (B + p))) (up (up (up (up (up v2 7 0 (nI r)) 8 0 (nI (B + p))) 40 p 1) 16 0 (nI p)) 15 0 ((up (up v2 7 0 (nI r)) 8 0 (nI (B + p))) 15 0 + 1)) := fun r r1 r2 => h2.err r1 r2 (nI (B + p))
  simp only [x10, m11, if_neg q', h2.r0, if_true, X_sizeOf hC2 hBX (show p < C by omega), M_size hC2 hBM (show p < C by omega), Option.bind_some, x9, m10, nI_add]
  have b23 := bad 23 (by omega) (by omega)
  have b24 := bad 24 (by omega) (by omega)
  have n10 : ¬ (1 : Int32) = 0 := by decide
  by_cases s0 : szO b B C p = 0
  · right; right
    have z1 : nI 0 < (1 : Int32) := by decide
    have z2 : (-1 : Int32) < 0 := by decide
    simp only [s0, if_pos z1, if_true, if_pos z2]
    unfold f_X0_judgeInstructions_j54_25 f_X7_walk_j63_28
    simp only [x9, m10, nI_add, X_broken, Option.bind_some, bchk_0, M_fail h2.z, j100]
    exact ⟨_, _, _, rfl, rfl, hEx _ _ b23.n, Or.inr ⟨_, _, rfl, rfl, b23⟩⟩
  have z1 : ¬ nI (szO b B C p) < (1 : Int32) := nI_nlt (b := 1) (by omega) (by omega)
  have z2 : ¬ nI (szO b B C p) < (0 : Int32) := nI_pos (by omega)
  simp only [if_neg s0, if_neg z1, if_neg z2, pk_sub (show p ≤ C by omega), nI_add]
  simp (disch := omega) only [leN]
  by_cases s1 : p + szO b B C p ≤ C
  rotate_left
  · right; right
    simp only [if_neg s1, if_neg (show ¬ szO b B C p ≤ C - p by omega)]
    unfold f_X0_judgeInstructions_j54_25 f_X7_walk_j63_28
    simp only [x9, m10, nI_add, X_broken, Option.bind_some, bchk_0, M_fail h2.z, j100]
    exact ⟨_, _, _, rfl, rfl, hEx _ _ b23.n, Or.inr ⟨_, _, rfl, rfl, b23⟩⟩
  simp only [if_pos s1, if_pos (show szO b B C p ≤ C - p by omega), X_opers hP2 hC2 hBX (show p < C by omega) s0 s1, M_opers hP2 hC2 hBM (show p < C by omega) s0 s1, Option.bind_some, X_broken, bchk_0, M_fail h2.z, j100, nI_add]
  by_cases s2 : opOK b kd B L p
  rotate_left
  · right; right
    simp only [if_pos (bI_0.mpr s2)]
    exact ⟨_, _, _, rfl, rfl, hEx _ _ b24.n, Or.inr ⟨_, _, rfl, rfl, b24⟩⟩
  right; left
  have s2' : ¬ bI (opOK b kd B L p) = 0 := fun y => bI_0.mp y s2
  simp only [if_neg s2', k1, k2, nI_1, chkN (show p < 64 by omega) (show 64 < 2 ^ 31 by omega), chkN (show k < 64 by omega) (show 64 < 2 ^ 31 by omega), cl_nI (show p < 2 ^ 31 by omega), cl_nI (show k < 2 ^ 31 by omega)]
  refine ⟨_, _, rfl, rfl, _, _, fun i => if i = k then p else o i, _, rfl, rfl, fun i i1 i2 i3 => ?_, fun i i1 i2 i3 => ?_, rfl, rfl, by omega, s1, fun z => by omega, ?_, ?_, ?_, ?_⟩
  · rw [up_o i1, up_o i3, up_o i2]; exact hX i i1 i2 i3
  · rw [up_o i1, up_o i2, up_o i3]; exact hM i i1 i2 i3
  · intro i hi
    by_cases ik : i = k
    · subst ik
      simp only [if_true]
      exact ⟨by simp (disch := omega) only [up_s, up_o, upd_s, upd_o], by omega, s0, s1⟩
    · simp only [if_neg ik]
      obtain ⟨f1, f2, f3, f4⟩ := k6 i (by omega)
      exact ⟨by simp (disch := omega) only [up_s, up_o, upd_s, upd_o]; exact f1, by omega, f3, f4⟩
  · intro i j ij jk
    show (if i = k then p else o i) < (if j = k then p else o j)
    by_cases jk' : j = k
    · rw [if_pos jk', if_neg (by omega)]
      exact (k6 i (by omega)).2.1
    · rw [if_neg jk', if_neg (by omega)]
      exact k7 i j ij (by omega)
  · intro q hq
    have hiff : (∃ i, i < k + 1 ∧ (if i = k then p else o i) = q) ↔ (q = p ∨ ∃ i, i < k ∧ o i = q) := by
      constructor
      · rintro ⟨i, i1, i2⟩
        by_cases ik : i = k
        · rw [if_pos ik] at i2; exact Or.inl i2.symm
        · rw [if_neg ik] at i2; exact Or.inr ⟨i, by omega, i2⟩
      · rintro (z | ⟨i, i1, i2⟩)
        · exact ⟨k, by omega, by rw [if_pos rfl, z]⟩
        · exact ⟨i, by omega, by rw [if_neg (by omega)]; exact i2⟩
    rw [bI_c hiff]
    by_cases qp : q = p
    · rw [bI_t (Or.inl qp), qp]
      refine ⟨?_, ?_⟩
      · simp (disch := omega) only [up_s, up_o, upd_s, upd_o]
        rfl
      · simp (disch := omega) only [up_s, up_o, upd_s, upd_o]
    · have e : bI (q = p ∨ ∃ i, i < k ∧ o i = q) = bI (∃ i, i < k ∧ o i = q) := bI_c ⟨fun z => z.resolve_left qp, Or.inr⟩
      rw [e]
      refine ⟨?_, ?_⟩
      · simp (disch := omega) only [up_s, up_o, upd_s, upd_o]
        exact (k8 q hq).1
      · simp (disch := omega) only [up_s, up_o, upd_s, upd_o]
        exact (k8 q hq).2
  · intro _
    show _ = nI (if k = k then p else o k)
    rw [if_pos rfl]
    simp (disch := omega) only [up_s, up_o, upd_s, upd_o]
