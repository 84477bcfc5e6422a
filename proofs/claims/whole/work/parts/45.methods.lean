/-- a method's attributes -/
theorem st_mattrs {u0 v0 u v : St} {b : Nat → Nat} {n N pos : Nat} {kd pl : Nat → Nat} (x1 x2 : Int32) (hE : EV u0 v0 b n) (h : JS True u0 v0 n pos n 1 n u v) (hP : PQ b n N kd pl u v) (h14 : u 14 0 = 0) :
    ∃ c q1 p cd v1, f_X2_readNumber u = some (c, q1) ∧ loopF (f_X2_readMethods_b36 x1 x2 c) FU (0, q1) = some p ∧ f_X7_methodAttributes v = some (cd, v1) ∧
      ((¬ c = -1 ∧ ∃ u1 pos2, p = .inr u1 ∧ pos + 2 ≤ pos2 ∧ JS True u0 v0 n pos2 n 1 n u1 v1 ∧ PQ b n N kd pl u1 v1 ∧ u1 24 = u 24 ∧ v1 38 = v 38 ∧ v1 39 = v 39 ∧ u1 14 0 = cd ∧ (cd = 0 ∨ cd = 1)) ∨
       (c = -1 ∧ ∃ u1, p = .inr u1 ∧ EE True u0 v0 u1 v1) ∨ (∃ u1, p = .inl (0, u1) ∧ EE True u0 v0 u1 v1)) := by
  have hn := hE.1.1
  have n10 : ¬ (1 : Int32) = 0 := by decide
  have c5 : ∀ {α : Type} {x : Option α}, chk 7 5 x = x := fun {α x} => chkN (k := 5) (by omega) (by omega)
  have c3 : ∀ {α : Type} {x : Option α}, chk 7 3 x = x := fun {α x} => chkN (k := 3) (by omega) (by omega)
  have c4 : ∀ {α : Type} {x : Option α}, chk 7 4 x = x := fun {α x} => chkN (k := 4) (by omega) (by omega)
  have cz5 : Int32.toNatClampNeg 5 = 5 := rfl
  have cz3 : Int32.toNatClampNeg 3 = 3 := rfl
  have cz4 : Int32.toNatClampNeg 4 = 4 := rfl
  have bc : ∀ {cd : Int32} {o : Option (Int32 × St)}, cd = 0 ∨ cd = 1 → bchk cd o = o := fun {cd o} z => by
    rcases z with rfl | rfl
    · exact bchk_0
    · exact bchk_1
  unfold f_X7_methodAttributes f_X7_methodAttributes_j150
  rcases st_num hE h with ⟨a1, w, e1, e2, h1⟩ | ⟨u1, v1, e1, e2, h1⟩
  rotate_left
  · have e3 : f_X2_readMethods_b36 x1 x2 (-1) (0, u1) = some (.inl (.inr u1)) := by
      unfold f_X2_readMethods_b36
      rw [if_pos (show (-1 : Int32) ≤ 0 by decide)]
    have e4 : f_X7_methodAttributes_b9 0 (0, 0, v1) = some (.inl (.inr (0, v1))) := by
      unfold f_X7_methodAttributes_b9
      rw [if_pos (show (0 : Int32) ≤ 0 by decide)]
    refine ⟨-1, u1, .inr u1, 0, v1, e1, ?_, ?_, Or.inr (Or.inl ⟨rfl, u1, rfl, h1⟩)⟩
    · rw [show FU = 999999 + 1 from rfl, loopF_s e3]
      rfl
    · simp only [e2, Option.bind_some]
      rw [show FU = 999999 + 1 from rfl, loopF_s e4]
      exact bchk_0
  obtain ⟨cnt, hcnt⟩ : ∃ cnt, cnt = w2 b pos := ⟨_, rfl⟩
  rw [← hcnt] at e1 e2 w
  have hne : ¬ nI cnt = (-1 : Int32) := fun z => by
    have := nI_pos (n := cnt) (by omega)
    rw [z] at this
    exact this (by decide)
  have key := loop2 (bx := f_X2_readMethods_b36 x1 x2 (nI cnt)) (bm := f_X7_methodAttributes_b9 (nI cnt))
    (fun k x y => ∃ u2 v2 p2 cd, x = (nI k, u2) ∧ y = (cd, nI k, v2) ∧ pos + 2 + 6 * k ≤ p2 ∧ JS True u0 v0 n p2 n 1 n u2 v2 ∧ PQ b n N kd pl u2 v2 ∧ u2 24 = u 24 ∧ v2 38 = v 38 ∧ v2 39 = v 39 ∧ u2 14 0 = cd ∧ (cd = 0 ∨ cd = 1))
    (fun p q => (∃ u1 v1 pos2 cd, p = .inr u1 ∧ q = .inr (cd, v1) ∧ pos + 2 ≤ pos2 ∧ JS True u0 v0 n pos2 n 1 n u1 v1 ∧ PQ b n N kd pl u1 v1 ∧ u1 24 = u 24 ∧ v1 38 = v 38 ∧ v1 39 = v 39 ∧ u1 14 0 = cd ∧ (cd = 0 ∨ cd = 1)) ∨ (∃ u1 v1 cd, p = .inl (0, u1) ∧ q = .inr (cd, v1) ∧ (cd = 0 ∨ cd = 1) ∧ EE True u0 v0 u1 v1)) 400 (by omega) ?_ (x := (nI 0, up u 4 0 (nI (pos + 2)))) (y := (0, nI 0, up v 3 0 (nI (pos + 2)))) ⟨_, _, _, 0, rfl, rfl, by omega, h1, hP, rfl, rfl, rfl, h14, Or.inl rfl⟩
  · obtain ⟨p, q, e3, e4, hr⟩ := key
    have e4 : loopF (f_X7_methodAttributes_b9 (nI cnt)) FU (0, 0, up v 3 0 (nI (pos + 2))) = some q := e4
    rcases hr with ⟨u1, v1, pos2, cd, rfl, rfl, t1, t2, t3, t4, t5, t6, t7, t8⟩ | ⟨u1, v1, cd, rfl, rfl, t8, hEE⟩
    · refine ⟨nI cnt, _, _, cd, v1, e1, e3, ?_, Or.inl ⟨hne, u1, pos2, rfl, t1, t2, t3, t4, t5, t6, t7, t8⟩⟩
      simp only [e2, Option.bind_some]
      rw [bd_some e4]
      exact bc t8
    · refine ⟨nI cnt, _, _, cd, v1, e1, e3, ?_, Or.inr (Or.inr ⟨u1, rfl, hEE⟩)⟩
      simp only [e2, Option.bind_some]
      rw [bd_some e4]
      exact bc t8
  clear h1 e1 e2 h hP h14
  intro j x y hI
  obtain ⟨u2, v2, p2, cd, rfl, rfl, hp2, h, hP, f24, f38, f39, h14, hcd⟩ := hI
  have hpn := h.2.2.1.2.2.2.2.2.2.2.2.2.2.1
  refine ⟨by omega, ?_⟩
  by_cases q : cnt ≤ j
  · left
    have q' : nI cnt ≤ nI j := nI_le q (by omega)
    refine ⟨.inr u2, .inr (cd, v2), ?_, ?_, Or.inl ⟨u2, v2, p2, cd, rfl, rfl, by omega, h, hP, f24, f38, f39, h14, hcd⟩⟩
    · unfold f_X2_readMethods_b36
      rw [if_pos q']
    · unfold f_X7_methodAttributes_b9
      rw [if_pos q']
  have q' : ¬ nI cnt ≤ nI j := nI_ge (by omega) (by omega)
  have hEx : ∀ (c : Int32) (v1 : St), ¬ v1 7 0 = 0 → f_X7_methodAttributes_b9 (nI cnt) (c, nI (j + 1), v1) = some (.inl (.inr (c, v1))) := by
    intro c v1 hv
    unfold f_X7_methodAttributes_b9
    simp only [if_neg hv, ite_self]
  have j127N : ∀ (c : Int32) (v1 : St), ¬ v1 7 0 = 0 → f_X7_methodAttributes_j127_9 c (nI cnt) (nI j) v1 = some (.inr (c, nI (j + 1), v1)) := by
    intro c v1 hv
    unfold f_X7_methodAttributes_j127_9 f_X7_methodAttributes_j144_9
    rw [if_neg hv, nI_1]
  have r1 := h.2.2.1.1
  have r5 := h.2.2.1.2.2.2.2.1
  unfold f_X2_readMethods_b36 f_X2_readMethodAttribute f_X7_methodAttributes_b9
  simp only [if_neg q', h.r0, if_true, r1, r5, nI_1]
  rcases st_name hE h hP with ⟨a2, k1, w1, e3, e4⟩ | ⟨u3, v3, x, e3, e4, h3⟩
  rotate_left
  · right; right
    simp only [e3, e4, Option.bind_some, if_true, h3.nz, if_false]
    unfold f_X7_methodAttributes_j57_9 f_X7_methodAttributes_j58_9 f_X7_methodAttributes_j78_9 f_X7_methodAttributes_j120_9
    simp only [if_true, M_lengthAtN h3.n, Option.bind_some, M_skipN h3.n, h3.nz, if_false, j127N _ _ h3.n]
    exact ⟨_, _, _, rfl, rfl, hEx _ _ h3.n, Or.inr ⟨_, _, _, rfl, rfl, hcd, h3⟩⟩
  have h3 := h.adv (p2 + 2) a2
  have hP3 : PQ b n N kd pl (up u2 4 0 (nI (p2 + 2))) (up v2 3 0 (nI (p2 + 2))) := hP
  have hBX3 := hE.bx h3.1
  have hBM3 := hE.bm h3.2.1
  have e14 : (up u2 4 0 (nI (p2 + 2))) 14 0 = cd := h14
  simp only [e3, e4, Option.bind_some, if_neg n10, h3.r0, if_true, X_u2 hBX3 (show p2 + 1 < n by omega), X_pword3 hP3 hBX3 k1, M_spells_3 (hE.cm h3.2.1) (hP3.tm hBM3 k1), e14]
  by_cases c1 : WD b (pl (w2 b p2) + 3) (tE b pl (w2 b p2)) 3
  rotate_left
  · -- no CODE
    have b0 : bI (WD b (pl (w2 b p2) + 3) (tE b pl (w2 b p2)) 3) = 0 := bI_0.mpr c1
    simp only [b0, if_true]
    unfold f_X2_readMethodAttribute_j57 f_X7_methodAttributes_j57_9 f_X7_methodAttributes_j58_9 f_X7_methodAttributes_j78_9 f_X7_methodAttributes_j120_9
    simp only [if_true]
    rcases st_len hE h3 with ⟨a3, e5, e6, e7, h4⟩ | ⟨u4, L, v4, v5, e5, e6, e7, h4⟩
    rotate_left
    · right; right
      simp only [e5, e6, e7, Option.bind_some, if_true, h4.nz, if_false, j127N _ _ h4.n]
      exact ⟨_, _, _, rfl, rfl, hEx _ _ h4.n, Or.inr ⟨_, _, _, rfl, rfl, hcd, h4⟩⟩
    right; left
    obtain ⟨U, hU⟩ : ∃ U, U = up (up (up u2 4 0 (nI (p2 + 2))) 4 0 (nI (p2 + 2 + 4))) 4 0 (nI (p2 + 2 + 4 + w4 b (p2 + 2))) := ⟨_, rfl⟩
    obtain ⟨V, hV⟩ : ∃ V, V = up (up (up v2 3 0 (nI (p2 + 2))) 3 0 (nI (p2 + 2 + 4))) 3 0 (nI (p2 + 2 + 4 + w4 b (p2 + 2))) := ⟨_, rfl⟩
    simp only [e5, e6, e7, Option.bind_some, if_neg n10, h4.r0, if_true]
    rw [← hU, ← hV]
    rw [← hU, ← hV] at h4
    have h5 := h4.tal 5 (by omega) (U 23 5 + 1) (V 32 5 + 1) (by rw [h4.2.2.2.1 5 (by omega) (by omega)])
    unfold f_X2_readMethodAttribute_j167 f_X7_methodAttributes_j127_9 f_X7_methodAttributes_j144_9
    simp only [c5, cz5, h4.r0, if_true, Option.bind_some, if_neg n10, nI_1]
    refine ⟨_, _, rfl, rfl, _, _, _, _, rfl, rfl, ?_, h5, ?_, ?_, ?_, ?_, ?_, hcd⟩
    · omega
    · rw [hU, hV]; exact hP
    · rw [hU]; exact f24
    · rw [hV]; exact f38
    · rw [hV]; exact f39
    · rw [hU]; exact h14
  have b1 : bI (WD b (pl (w2 b p2) + 3) (tE b pl (w2 b p2)) 3) = 1 := bI_t c1
  simp only [b1, if_neg n10]
  unfold f_X7_methodAttributes_j58_9
  simp only [if_neg n10]
  by_cases cd0 : cd = 0
  rotate_left
  · -- a second CODE
    right; right
    have h4 := h3.err (r := 19) (by omega) (by omega) (nI p2)
    have h4n : ¬ (up (up (up v2 3 0 (nI (p2 + 2))) 7 0 19) 8 0 (nI p2)) 7 0 = 0 := h4.n
    unfold f_X7_methodAttributes_j78_9 f_X7_methodAttributes_j120_9
    simp only [if_neg cd0, X_broken, Option.bind_some, bchk_0, if_true, M_fail h3.z, M_lengthAtN h4n, M_skipN h4n, if_neg h4n, if_neg n10, j127N _ _ h4n]
    exact ⟨_, _, _, rfl, rfl, hEx _ _ h4n, Or.inr ⟨_, _, _, rfl, rfl, Or.inr rfl, h4⟩⟩
  -- the CODE
  simp only [if_pos cd0]
  unfold f_X2_readMethodAttribute_j57 f_X7_methodAttributes_j78_9 f_X7_methodAttributes_j120_9
  simp only [if_neg n10]
  rcases st_len hE h3 with ⟨a3, e5, e6, e7, h4⟩ | ⟨u4, L, v4, v5, e5, e6, e7, h4⟩
  rotate_left
  · right; right
    simp only [e5, e6, e7, Option.bind_some, if_true, h4.nz, if_false, j127N _ _ h4.n]
    exact ⟨_, _, _, rfl, rfl, hEx _ _ h4.n, Or.inr ⟨_, _, _, rfl, rfl, Or.inr rfl, h4⟩⟩
  obtain ⟨U, hU⟩ : ∃ U, U = up (up (up (up u2 4 0 (nI (p2 + 2))) 4 0 (nI (p2 + 2 + 4))) 4 0 (nI (p2 + 2 + 4 + w4 b (p2 + 2)))) 14 0 1 := ⟨_, rfl⟩
  obtain ⟨V, hV⟩ : ∃ V, V = up (up (up v2 3 0 (nI (p2 + 2))) 3 0 (nI (p2 + 2 + 4))) 3 0 (nI (p2 + 2 + 4 + w4 b (p2 + 2))) := ⟨_, rfl⟩
  have e30 : (up (up v2 3 0 (nI (p2 + 2))) 3 0 (nI (p2 + 2 + 4))) 3 0 = nI (p2 + 6) := rfl
  have e31 : (up (up (up v2 3 0 (nI (p2 + 2))) 3 0 (nI (p2 + 2 + 4))) 3 0 (nI (p2 + 2 + 4 + w4 b (p2 + 2)))) 3 0 = nI (p2 + 6 + w4 b (p2 + 2)) := rfl
  simp only [e5, e6, e7, Option.bind_some, if_neg n10, h4.r0, if_true, e30, e31]
  rw [← hU, ← hV]
  have hJ : JS True u0 v0 n (p2 + 6 + w4 b (p2 + 2)) n 1 n U V := by rw [hU, hV]; exact h4
  have hQ : PQ b n N kd pl U V := by rw [hU, hV]; exact hP
  have f24 : U 24 = u 24 := by rw [hU]; exact f24
  have f38 : V 38 = v 38 := by rw [hV]; exact f38
  have f39 : V 39 = v 39 := by rw [hV]; exact f39
  have f14 : U 14 0 = 1 := by rw [hU]; rfl
  clear hU hV h4 e5 e6 e7 e30 e31 e3 e4
  unfold f_X2_readMethodAttribute_j127
  rcases st_readCode hE hJ hQ (show p2 + 6 ≤ p2 + 6 + w4 b (p2 + 2) by omega) with ⟨u5, v5, B, C, L, H, t1, t2, t3, t4, t5, t6, t7, t8, t9, t10⟩ | ⟨u5, v5, t1, t2, t3⟩
  rotate_left
  · right; right
    unfold f_X2_readMethodAttribute_j128
    simp only [t1, t2, Option.bind_some, if_true, j127N _ _ t3.n]
    exact ⟨_, _, _, rfl, rfl, hEx _ _ t3.n, Or.inr ⟨_, _, _, rfl, rfl, Or.inr rfl, t3⟩⟩
  simp only [t1, t2, Option.bind_some, if_neg n10]
  obtain ⟨v6, g1, g2⟩ := st_code hE t3 t4 t5 t6 (fun z => f_X2_readMethodAttribute_j128 0 z) (fun z => f_X2_readMethodAttribute_j128 1 z)
  rcases g2 with ⟨u6, g2, hX, hM, g12⟩ | ⟨u6, g2, g3⟩
  rotate_left
  · right; right
    simp only [g2, g1, Option.bind_some]
    have h6n := g3.n
    unfold f_X2_readMethodAttribute_j128 f_X7_readCode_j188
    simp only [if_true, Option.bind_some, if_neg h6n, j127N _ _ h6n]
    exact ⟨_, _, _, rfl, rfl, hEx _ _ h6n, Or.inr ⟨_, _, _, rfl, rfl, Or.inr rfl, g3⟩⟩
  right; left
  simp only [g2, g1, Option.bind_some]
  have h6 := t3.k hX hM
  have q6 := t4.k hX hM
  have cq6 := t5.k hX hM
  have e13 : u6 13 0 = v6 14 0 := by rw [cq6.2.2.2.1, cq6.2.2.2.2.2.2.2.2.1]
  have h7 := h6.tal 3 (by omega) (u6 23 3 + u6 12 0) (v6 32 3 + v6 15 0) (by rw [h6.2.2.2.1 3 (by omega) (by omega), g12])
  have h8 := h7.tal 4 (by omega) ((up u6 23 3 (u6 23 3 + u6 12 0)) 23 4 + u6 13 0) ((up v6 32 3 (v6 32 3 + v6 15 0)) 32 4 + v6 14 0) (by rw [h7.2.2.2.1 4 (by omega) (by omega), e13])
  obtain ⟨U8, hU8⟩ : ∃ U8, U8 = up (up u6 23 3 (u6 23 3 + u6 12 0)) 23 4 ((up u6 23 3 (u6 23 3 + u6 12 0)) 23 4 + u6 13 0) := ⟨_, rfl⟩
  obtain ⟨V8, hV8⟩ : ∃ V8, V8 = up (up v6 32 3 (v6 32 3 + v6 15 0)) 32 4 ((up v6 32 3 (v6 32 3 + v6 15 0)) 32 4 + v6 14 0) := ⟨_, rfl⟩
  rw [← hU8, ← hV8] at h8
  have h9 := h8.tal 5 (by omega) (U8 23 5 + 1) (V8 32 5 + 1) (by rw [h8.2.2.2.1 5 (by omega) (by omega)])
  unfold f_X2_readMethodAttribute_j128 f_X2_readMethodAttribute_j167 f_X7_readCode_j188
  simp only [if_neg n10, c3, c4, cz3, cz4, h6.r0, if_true, Option.bind_some]
  rw [← hU8, ← hV8]
  unfold f_X7_methodAttributes_j127_9 f_X7_methodAttributes_j144_9
  simp only [c5, cz5, h8.r0, if_true, Option.bind_some, if_neg n10, nI_1]
  refine ⟨_, _, rfl, rfl, _, _, _, _, rfl, rfl, ?_, h9, ?_, ?_, ?_, ?_, ?_, Or.inr rfl⟩
  · omega
  · rw [hU8, hV8]; exact q6
  · rw [hU8]; show u6 24 = _; rw [hX 24 (by omega) (by omega) (by omega), t7]; exact f24
  · rw [hV8]; show v6 38 = _; rw [hM 38 (by omega) (by omega) (by omega), t9]; exact f38
  · rw [hV8]; show v6 39 = _; rw [hM 39 (by omega) (by omega) (by omega), t10]; exact f39
  · rw [hU8]; show u6 14 0 = _; rw [hX 14 (by omega) (by omega) (by omega), t8]; exact f14
/-- methods -/
theorem st_methods {u0 v0 u v : St} {b : Nat → Nat} {n N pos : Nat} {kd pl : Nat → Nat} (hE : EV u0 v0 b n) (h : JS True u0 v0 n pos n 1 n u v) (hP : PQ b n N kd pl u v) (hp : 8 ≤ pos) : ∃ r u1 v1, f_X2_readMethods u = some (r, u1) ∧ f_X7_methods v = some v1 ∧ ((r = 1 ∧ ∃ pos2, pos + 2 ≤ pos2 ∧ JS True u0 v0 n pos2 n 1 n u1 v1 ∧ PQ b n N kd pl u1 v1) ∨ (r = 0 ∧ EE True u0 v0 u1 v1)) := by
  have hn := hE.1.1
  have n10 : ¬ (1 : Int32) = 0 := by decide
  have c2 : ∀ {α : Type} {x : Option α}, chk 7 2 x = x := fun {α x} => chkN (k := 2) (by omega) (by omega)
  have cz : Int32.toNatClampNeg 2 = 2 := rfl
  unfold f_X2_readMethods f_X2_readMethods_j142 f_X7_methods f_X7_methods_j126
  simp only [bchk_0, bchk_1]
  rcases st_num hE h with ⟨a1, w, e1, e2, h1⟩ | ⟨u1, v1, e1, e2, h1⟩
  rotate_left
  · have e3 : f_X2_readMethods_b7 (-1) (0, u1) = some (.inl (.inr u1)) := by
      unfold f_X2_readMethods_b7
      rw [if_pos (show (-1 : Int32) ≤ 0 by decide)]
    have e4 : f_X7_methods_b7 0 (0, v1) = some (.inl (.inr v1)) := by
      unfold f_X7_methods_b7
      rw [if_pos (show (0 : Int32) ≤ 0 by decide)]
    simp only [e1, e2, Option.bind_some]
    rw [show FU = 999999 + 1 from rfl, loopF_s e3, loopF_s e4]
    simp only [Sum.elim_inl, Sum.elim_inr, Option.bind_some, if_true]
    exact ⟨0, _, _, rfl, rfl, Or.inr ⟨rfl, h1⟩⟩
  obtain ⟨cnt, hcnt⟩ : ∃ cnt, cnt = w2 b pos := ⟨_, rfl⟩
  rw [← hcnt] at e1 e2 w
  have hne : ¬ nI cnt = (-1 : Int32) := fun z => by
    have := nI_pos (n := cnt) (by omega)
    rw [z] at this
    exact this (by decide)
  simp only [e1, e2, Option.bind_some, if_neg hne]
  have key := loop2 (bx := f_X2_readMethods_b7 (nI cnt)) (bm := f_X7_methods_b7 (nI cnt))
    (fun k x y => ∃ u2 v2 p2, x = (nI k, u2) ∧ y = (nI k, v2) ∧ pos + 2 + 8 * k ≤ p2 ∧ JS True u0 v0 n p2 n 1 n u2 v2 ∧ PQ b n N kd pl u2 v2 ∧ MB b kd n k u2 v2)
    (fun p q => (∃ u1 v1 pos2, p = .inr u1 ∧ q = .inr v1 ∧ pos + 2 ≤ pos2 ∧ JS True u0 v0 n pos2 n 1 n u1 v1 ∧ PQ b n N kd pl u1 v1) ∨ (∃ u1 v1, p = .inl (0, u1) ∧ (q = .inr v1 ∨ q = .inl v1) ∧ EE True u0 v0 u1 v1)) 400 (by omega) ?_ (x := (nI 0, up u 4 0 (nI (pos + 2)))) (y := (nI 0, up v 3 0 (nI (pos + 2)))) ⟨_, _, _, rfl, rfl, by omega, h1, hP, fun i hi => by omega⟩
  · obtain ⟨p, q, e3, e4, hr⟩ := key
    have e3 : loopF (f_X2_readMethods_b7 (nI cnt)) FU (0, up u 4 0 (nI (pos + 2))) = some p := e3
    have e4 : loopF (f_X7_methods_b7 (nI cnt)) FU (0, up v 3 0 (nI (pos + 2))) = some q := e4
    rw [bd_some e3, bd_some e4]
    rcases hr with ⟨u1, v1, pos2, rfl, rfl, hp2, hJ, hQ⟩ | ⟨u1, v1, rfl, hq, hEE⟩
    · exact ⟨1, u1, v1, rfl, rfl, Or.inl ⟨rfl, pos2, hp2, hJ, hQ⟩⟩
    · refine ⟨0, u1, v1, rfl, ?_, Or.inr ⟨rfl, hEE⟩⟩
      rcases hq with rfl | rfl <;> rfl
  clear h1 e1 e2 h hP
  intro k x y hI
  obtain ⟨u, v, p2, rfl, rfl, hp2, h, hP, hM⟩ := hI
  have hpn := h.2.2.1.2.2.2.2.2.2.2.2.2.2.1
  refine ⟨by omega, ?_⟩
  by_cases q : cnt ≤ k
  · left
    have q' : nI cnt ≤ nI k := nI_le q (by omega)
    refine ⟨.inr u, .inr v, ?_, ?_, Or.inl ⟨u, v, p2, rfl, rfl, by omega, h, hP⟩⟩
    · unfold f_X2_readMethods_b7
      rw [if_pos q']
    · unfold f_X7_methods_b7
      rw [if_pos q']
  have q' : ¬ nI cnt ≤ nI k := nI_ge (by omega) (by omega)
  have hEx : ∀ (v1 : St), ¬ v1 7 0 = 0 → f_X7_methods_b7 (nI cnt) (nI (k + 1), v1) = some (.inl (.inr v1)) := by
    intro v1 hv
    unfold f_X7_methods_b7
    simp only [if_neg hv, ite_self]
  have j45N : ∀ (x3 z : Int32) (v1 : St), ¬ v1 7 0 = 0 → f_X7_methods_j45_7 (nI cnt) (nI k) x3 z v1 = some (.inl (.inl v1)) := by
    intro x3 z v1 hv
    unfold f_X7_methods_j45_7
    rw [if_neg hv]
  unfold f_X2_readMethods_b7 f_X7_methods_b7 f_X7_methods_j44_7
  simp only [if_neg q', h.r0, if_true]
  rcases st_member true hE h hP hM (by omega) with ⟨u1, v1, e3, e4, h1, hP1, hM1, g1, g2, g3⟩ | ⟨u1, v1, e3, e4, h1⟩
  rotate_left
  · left
    have e3 : f_X2_readMemberHead (nI k) 1 u = _ := e3
    have e4 : f_X7_member (nI k) 1 v = _ := e4
    simp only [e3, e4, Option.bind_some, if_true, h1.nz, if_false, j45N _ _ v1 h1.n]
    exact ⟨_, _, rfl, rfl, Or.inr ⟨_, _, rfl, Or.inr rfl, h1⟩⟩
  have e3 : f_X2_readMemberHead (nI k) 1 u = _ := e3
  have e4 : f_X7_member (nI k) 1 v = _ := e4
  have hpn1 := h1.2.2.1.2.2.2.2.2.2.2.2.2.2.1
  simp only [e3, e4, Option.bind_some, if_neg n10, h1.r0, if_true]
  have h1' : JS True u0 v0 n (p2 + 6) n 1 n (up u1 14 0 0) v1 := h1
  have hP1' : PQ b n N kd pl (up u1 14 0 0) v1 := hP1
  obtain ⟨c, q1, p, cd, v2, f1, f2, f3, hr⟩ := st_mattrs (nI cnt) (nI k) hE h1' hP1' rfl
  simp only [f1, f3, Option.bind_some]
  rw [bd_some f2]
  have eM : (if cd = 0 then f_X7_methods_j45_7 (nI cnt) (nI k) (nI p2) 0 v2 else f_X7_methods_j45_7 (nI cnt) (nI k) (nI p2) 1 v2) = if cd = 0 then f_X7_methods_j45_7 (nI cnt) (nI k) (nI p2) 0 v2 else f_X7_methods_j45_7 (nI cnt) (nI k) (nI p2) 1 v2 := rfl
  rcases hr with ⟨hc, u2, pos2, rfl, hp3, hJ, hQ, f24, f38, f39, f14, hcd⟩ | ⟨hc, u2, rfl, hEE⟩ | ⟨u2, rfl, hEE⟩
  rotate_left
  · left
    simp only [Sum.elim_inr, if_pos hc, j45N _ _ v2 hEE.n, ite_self]
    exact ⟨_, _, rfl, rfl, Or.inr ⟨_, _, rfl, Or.inr rfl, hEE⟩⟩
  · left
    simp only [Sum.elim_inl, j45N _ _ v2 hEE.n, ite_self]
    exact ⟨_, _, rfl, rfl, Or.inr ⟨_, _, rfl, Or.inr rfl, hEE⟩⟩
  have f24' : u2 24 = u1 24 := f24
  have e24 : u2 24 k = nI p2 := by rw [f24']; exact g1
  have hBX := hE.bx hJ.1
  have hBM := hE.bm hJ.2.1
  have hMB : MB b kd n (k + 1) u2 v2 := hM1.fr f24' f38 f39
  have eMc : (if cd = 0 then f_X7_methods_j45_7 (nI cnt) (nI k) (nI p2) 0 v2 else f_X7_methods_j45_7 (nI cnt) (nI k) (nI p2) 1 v2) = f_X7_methods_j45_7 (nI cnt) (nI k) (nI p2) cd v2 := by
    rcases hcd with z | z
    · rw [z, if_pos rfl]
    · rw [z, if_neg n10]
  rw [eMc]
  obtain ⟨b1, b2'⟩ := hBM.2 p2 (by omega)
  obtain ⟨b3, b4⟩ := hBM.2 (p2 + 1) (by omega)
  have ew : (256 : Int32) * nI (b p2) + nI (b (p2 + 1)) = nI (w2 b p2) := by
    rw [show (256 : Int32) = nI 256 from rfl, pk_mul, nI_add]
    rfl
  unfold f_X7_methods_j45_7
  simp only [Sum.elim_inr, if_neg hc, chkN (show k < 51 by omega) (show 51 < 2 ^ 31 by omega), cl_nI (show k < 2 ^ 31 by omega), e24, X_u2 hBX (show p2 + 1 < n by omega), Option.bind_some, hJ.r0, if_true, chkN (show p2 < 400 by omega) (show 400 < 2 ^ 31 by omega), nI_1, chkN (show p2 + 1 < 400 by omega) (show 400 < 2 ^ 31 by omega), cl_nI (show p2 < 2 ^ 31 by omega), cl_nI (show p2 + 1 < 2 ^ 31 by omega), b1, b3, ew]
  -- the flags against the CODE
  have fin : ∀ z : Int32, (z = 0 ∨ z = 1) → ((∃ p q, f_X2_readMethods_j89_7 (nI cnt) (nI k) z u2 = some (.inl p) ∧ f_X7_methods_j92_7 (nI cnt) (nI k) (nI p2) cd z v2 = some (.inl q) ∧ ((∃ u1 v1 pos2, p = .inr u1 ∧ q = .inr v1 ∧ pos + 2 ≤ pos2 ∧ JS True u0 v0 n pos2 n 1 n u1 v1 ∧ PQ b n N kd pl u1 v1) ∨ (∃ u1 v1, p = .inl (0, u1) ∧ (q = .inr v1 ∨ q = .inl v1) ∧ EE True u0 v0 u1 v1))) ∨ (∃ x2 y2, f_X2_readMethods_j89_7 (nI cnt) (nI k) z u2 = some (.inr x2) ∧ f_X7_methods_j92_7 (nI cnt) (nI k) (nI p2) cd z v2 = some (.inr y2) ∧ ∃ u2 v2 p2, x2 = (nI (k + 1), u2) ∧ y2 = (nI (k + 1), v2) ∧ pos + 2 + 8 * (k + 1) ≤ p2 ∧ JS True u0 v0 n p2 n 1 n u2 v2 ∧ PQ b n N kd pl u2 v2 ∧ MB b kd n (k + 1) u2 v2) ∨ (∃ p y2 q, f_X2_readMethods_j89_7 (nI cnt) (nI k) z u2 = some (.inl p) ∧ f_X7_methods_j92_7 (nI cnt) (nI k) (nI p2) cd z v2 = some (.inr y2) ∧ f_X7_methods_b7 (nI cnt) y2 = some (.inl q) ∧ ((∃ u1 v1 pos2, p = .inr u1 ∧ q = .inr v1 ∧ pos + 2 ≤ pos2 ∧ JS True u0 v0 n pos2 n 1 n u1 v1 ∧ PQ b n N kd pl u1 v1) ∨ (∃ u1 v1, p = .inl (0, u1) ∧ (q = .inr v1 ∨ q = .inl v1) ∧ EE True u0 v0 u1 v1)))) := by
    intro z _
    unfold f_X2_readMethods_j89_7 f_X7_methods_j92_7 f_X7_methods_j103_7 f_X7_methods_j120_7
    simp only [f14, chkN (show k < 51 by omega) (show 51 < 2 ^ 31 by omega), cl_nI (show k < 2 ^ 31 by omega), e24, X_broken, Option.bind_some, bchk_0, c2, cz, nI_1]
    by_cases y : z = cd
    · right; right
      have h5 := hJ.err (r := 21) (by omega) (by omega) (nI p2)
      have h5n : ¬ (up (up v2 7 0 21) 8 0 (nI p2)) 7 0 = 0 := h5.n
      simp only [if_pos y, if_pos y.symm, M_fail hJ.z, Option.bind_some, if_neg h5n]
      exact ⟨_, _, _, rfl, rfl, hEx _ h5n, Or.inr ⟨_, _, rfl, Or.inl rfl, h5⟩⟩
    · right; left
      have y' : ¬ cd = z := fun t => y t.symm
      have h5 := hJ.tal 2 (by omega) (u2 23 2 + 1) (v2 32 2 + 1) (by rw [hJ.2.2.2.1 2 (by omega) (by omega)])
      simp only [if_neg y, if_neg y', hJ.r0, if_true]
      exact ⟨_, _, rfl, rfl, _, _, pos2, rfl, rfl, by omega, h5, hQ, hMB⟩
  by_cases fl : nI (w2 b p2) &&& 1280 = 0
  · simp only [if_pos fl]
    exact fin 0 (Or.inl rfl)
  · simp only [if_neg fl]
    exact fin 1 (Or.inr rfl)
