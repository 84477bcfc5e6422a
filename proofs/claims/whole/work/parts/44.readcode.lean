theorem M_attributesN {v : St} (h : ¬ v 7 0 = 0) : f_X7_attributes v = some v := by
  unfold f_X7_attributes f_X7_attributes_j55
  have e : f_X7_attributes_b7 0 (0, v) = some (.inl (.inr v)) := by
    unfold f_X7_attributes_b7
    rw [if_pos (show (0 : Int32) ≤ 0 by decide)]
  simp only [M_u2N h, Option.bind_some]
  rw [show FU = 999999 + 1 from rfl, loopF_s e]
  rfl
theorem M_j156N {v : St} (h : ¬ v 7 0 = 0) : f_X7_readCode_j156 v = some (up (up (up v 4 0 (v 0 0)) 5 0 1) 6 0 (v 0 0)) := by
  unfold f_X7_readCode_j156 f_X7_readCode_j188
  rw [if_neg h, if_neg (show ¬ (up (up (up v 4 0 (v 0 0)) 5 0 1) 6 0 (v 0 0)) 7 0 = 0 from h)]
/-- the rest of a CODE's reading once a rule is broken -/
theorem M_restN {v : St} (h : ¬ v 7 0 = 0) (x2 x3 : Int32) : ∃ v1, ((f_X7_u2 v).bind fun q6 => (f_X7_skip (8 * q6.1.toInt64) (up (up q6.2 14 0 q6.1) 13 0 (q6.2 3 0))).bind fun q7 => (f_X7_attributes q7).bind fun q8 => if q8 7 0 = 0 then (if q8 3 0 = x2 then f_X7_readCode_j156 q8 else (f_X7_fail 20 x3 q8).bind fun q18 => f_X7_readCode_j156 q18.2) else f_X7_readCode_j156 q8) = some v1 ∧ ∀ τ u0 v0 u1, EE τ u0 v0 u1 v → EE τ u0 v0 u1 v1 := by
  have h2 : ¬ (up (up v 14 0 0) 13 0 (v 3 0)) 7 0 = 0 := h
  simp only [M_u2N h, Option.bind_some, M_skipN h2, M_attributesN h2, if_neg h2, M_j156N h2]
  exact ⟨_, rfl, fun τ u0 v0 u1 hE => hE⟩
theorem M_j79N {v : St} (h : ¬ v 7 0 = 0) (x2 x3 : Int32) (x5 : Int64) : ∃ v1, f_X7_readCode_j79 x2 x3 x5 v = some v1 ∧ ∀ τ u0 v0 u1, EE τ u0 v0 u1 v → EE τ u0 v0 u1 v1 := by
  unfold f_X7_readCode_j79
  have h2 : ¬ (up (up v 11 0 x5.toInt32) 10 0 (v 3 0)) 7 0 = 0 := h
  obtain ⟨v1, e, hh⟩ := M_restN h2 x2 x3
  simp only [M_skipN h2, Option.bind_some]
  exact ⟨v1, e, fun τ u0 v0 u1 hE => hh τ u0 v0 u1 hE⟩
theorem nI_lt1 {w : Nat} (h : w < 2 ^ 32) : (nI w < (1 : Int32)) ↔ (w = 0 ∨ 2 ^ 31 ≤ w) := by
  by_cases q : 2 ^ 31 ≤ w
  · exact ⟨fun _ => Or.inr q, fun _ => Int32.lt_of_lt_of_le (nI_neg q h) (by decide)⟩
  · have := nI_ltI (a := w) (b := 1) (by omega) (by omega)
    exact ⟨fun z => Or.inl (by have := this.mp z; omega), fun z => this.mpr (by omega)⟩
theorem st_readCode {u0 v0 u v : St} {b : Nat → Nat} {n N e name : Nat} {kd pl : Nat → Nat} (hE : EV u0 v0 b n) (h : JS True u0 v0 n e n 1 n u v) (hP : PQ b n N kd pl u v) (hne : name + 6 ≤ e) :
    (∃ u1 v1 B C L H, f_X2_readCode (nI name) u = some (1, u1) ∧ f_X7_readCode (nI (name + 6)) (nI e) (nI name) v = (f_X7_judgeCode v1).bind (fun q16 => f_X7_readCode_j188 q16) ∧ JS True u0 v0 n e n 1 n u1 v1 ∧ PQ b n N kd pl u1 v1 ∧ CQ n B C L H u1 v1 ∧ u1 12 0 = 0 ∧ u1 24 = u 24 ∧ u1 14 = u 14 ∧ v1 38 = v 38 ∧ v1 39 = v 39) ∨
    (∃ u1 v1, f_X2_readCode (nI name) u = some (0, u1) ∧ f_X7_readCode (nI (name + 6)) (nI e) (nI name) v = some v1 ∧ EE True u0 v0 u1 v1) := by
  have hn := hE.1.1
  have n10 : ¬ (1 : Int32) = 0 := by decide
  obtain ⟨s, hs⟩ : ∃ s, s = name + 6 := ⟨_, rfl⟩
  have as6 : nI name + 6 = nI s := by rw [hs]; exact nI_add name 6
  have hen := h.2.2.1.2.2.2.2.2.2.2.2.2.2.1
  have he4 : u 4 0 = nI e := h.2.2.1.1
  unfold f_X2_readCode f_X2_readCode_j76 f_X5_confine f_X5_release f_X7_readCode
  simp only [as6, he4, Option.bind_some, ← hs, X_broken, bchk_0]
  obtain ⟨U, hU⟩ : ∃ U, U = up (up (up (up u 4 0 (nI s)) 5 0 (nI e)) 6 0 20) 7 0 (nI name) := ⟨_, rfl⟩
  obtain ⟨V, hV⟩ : ∃ V, V = up (up (up (up v 4 0 (nI e)) 5 0 20) 6 0 (nI name)) 3 0 (nI s) := ⟨_, rfl⟩
  rw [← hU, ← hV]
  have hJ : JS True u0 v0 n s e 20 name U V := by
    rw [hU, hV]
    obtain ⟨j1, j2, j3, j4⟩ := h
    exact ⟨j1, j2, ⟨rfl, rfl, rfl, rfl, rfl, rfl, rfl, rfl, j3.2.2.2.2.2.2.2.2.1, j3.2.2.2.2.2.2.2.2.2.1, by omega, hen, by omega, by omega⟩, j4⟩
  have hQ : PQ b n N kd pl U V := by rw [hU, hV]; exact hP
  have f24 : U 24 = u 24 := by rw [hU]; rfl
  have f14 : U 14 = u 14 := by rw [hU]; rfl
  have f38 : V 38 = v 38 := by rw [hV]; rfl
  have f39 : V 39 = v 39 := by rw [hV]; rfl
  clear hU hV h
  have gX4 : ∀ x, GX U (up U 4 0 x) := fun x => GX.u4 U x
  unfold f_X2_stepInstructions f_X2_stepInstructions_j36
  simp only [X_broken, Option.bind_some, bchk_0]
  have as4 : nI s + 4 = nI (s + 4) := nI_add s 4
  simp only [as4]
  -- the first eight bytes
  rcases X_stepC hJ hn 8 (by omega) with ⟨a8, s8⟩ | ⟨a8, s8⟩
  rotate_left
  · right
    have s8 : f_X5_step 8 U = _ := s8
    simp only [s8, Option.bind_some, if_true]
    rcases rd2 hE hJ with ⟨a1, -, e2, h1, -⟩ | ⟨a1, -, v1, e2, h1⟩
    · rcases rd2 hE h1 with ⟨a2, -, e4, h2, -⟩ | ⟨a2, -, v1, e4, h2⟩
      · have h2' : JS True u0 v0 n (s + 2 + 2) e 20 name (up (up U 4 0 (nI (s + 2))) 4 0 (nI (s + 2 + 2))) (up (up (up V 3 0 (nI (s + 2))) 3 0 (nI (s + 2 + 2))) 12 0 (nI (w2 b (s + 2)))) := h2
        rcases rd4 hE h2' with ⟨a3, -⟩ | ⟨a3, -, v1, e6, h3⟩
        · omega
        · obtain ⟨v2, t1, t2⟩ := M_j79N h3.n (nI e) (nI name) 0
          simp only [e2, e4, e6, Option.bind_some, h3.nz, if_false, t1]
          exact ⟨_, _, rfl, rfl, t2 _ _ _ _ h3⟩
      · have h2n : ¬ (up v1 12 0 0) 7 0 = 0 := h2.n
        obtain ⟨v2, t1, t2⟩ := M_j79N h2n (nI e) (nI name) 0
        simp only [e2, e4, Option.bind_some, M_uN h2n, if_neg h2n, t1]
        exact ⟨_, _, rfl, rfl, t2 _ _ _ _ h2⟩
    · have h2n : ¬ (up v1 12 0 0) 7 0 = 0 := h1.n
      obtain ⟨v2, t1, t2⟩ := M_j79N h2n (nI e) (nI name) 0
      simp only [e2, Option.bind_some, M_u2N h1.n, M_uN h2n, if_neg h2n, t1]
      exact ⟨_, _, rfl, rfl, t2 _ _ _ _ h1⟩
  have s8 : f_X5_step 8 U = _ := s8
  rcases rd2 hE hJ with ⟨a1, -, e2, h1, -⟩ | ⟨a1, -⟩
  rotate_left
  · omega
  rcases rd2 hE h1 with ⟨a2, -, e4, h2, wL, -⟩ | ⟨a2, -⟩
  rotate_left
  · omega
  have h2' : JS True u0 v0 n (s + 2 + 2) e 20 name (up (up U 4 0 (nI (s + 2))) 4 0 (nI (s + 2 + 2))) (up (up (up V 3 0 (nI (s + 2))) 3 0 (nI (s + 2 + 2))) 12 0 (nI (w2 b (s + 2)))) := h2
  rcases rd4 hE h2' with ⟨a3, -, e6, h3, w4l, -⟩ | ⟨a3, -⟩
  rotate_left
  · omega
  obtain ⟨V3, hV3⟩ : ∃ V3, V3 = up (up (up (up V 3 0 (nI (s + 2))) 3 0 (nI (s + 2 + 2))) 12 0 (nI (w2 b (s + 2)))) 3 0 (nI (s + 2 + 2 + 4)) := ⟨_, rfl⟩
  obtain ⟨U3, hU3⟩ : ∃ U3, U3 = up U 4 0 (nI (s + 8)) := ⟨_, rfl⟩
  have h3 : JS True u0 v0 n (s + 8) e 20 name U3 V3 := by rw [hV3, hU3]; exact h3
  have e6 : f_X7_u 4 (up (up (up V 3 0 (nI (s + 2))) 3 0 (nI (s + 2 + 2))) 12 0 (nI (w2 b (s + 2)))) = some (lN (w4 b (s + 4)), V3) := by rw [hV3]; exact e6
  have w4l : w4 b (s + 4) < 2 ^ 32 := w4l
  have e20 : (up (up V 3 0 (nI (s + 2))) 3 0 (nI (s + 2 + 2))) 3 0 = nI (s + 4) := rfl
  have eu4 : f_X1_u4 (nI (s + 4)) U3 = some (nI (w4 b (s + 4))) := X_u4 (hE.bx h3.1) (by omega)
  have q3 : PQ b n N kd pl U3 V3 := by rw [hV3, hU3]; exact hQ
  have f24 : U3 24 = u 24 := by rw [hU3]; exact f24
  have f14 : U3 14 = u 14 := by rw [hU3]; exact f14
  have f38 : V3 38 = v 38 := by rw [hV3]; exact f38
  have f39 : V3 39 = v 39 := by rw [hV3]; exact f39
  have v12 : V3 12 0 = nI (w2 b (s + 2)) := by rw [hV3]; rfl
  simp only [s8, e2, e4, e6, Option.bind_some, if_neg n10, h3.r0, if_true, e20]
  rw [← hU3]
  simp only [eu4, Option.bind_some]
  clear hV3 hU3 e2 e4 e6 s8 h2 h2' h1 hJ hQ eu4 gX4
  have l1 : (lg_cmp (lN (w4 b (s + 4))) 1 < 0) = (w4 b (s + 4) < 1) := propext (lg_lt (c := 1) (by omega) (by omega))
  have l64 : (lg_cmp (lN (w4 b (s + 4))) 64 ≤ 0) = (w4 b (s + 4) ≤ 64) := propext (lg_le (c := 64) (by omega) (by omega))
  simp only [l1, l64]
  by_cases gd : 1 ≤ w4 b (s + 4) ∧ w4 b (s + 4) ≤ 64
  rotate_left
  · right
    have h4 := h3.err (r := 22) (by omega) (by omega) (nI (s + 4))
    have h4n : ¬ (up (up V3 7 0 22) 8 0 (nI (s + 4))) 7 0 = 0 := h4.n
    obtain ⟨v2, t1, t2⟩ := M_j79N h4n (nI e) (nI name) (lN (w4 b (s + 4)))
    have eM : (if w4 b (s + 4) < 1 then f_X7_readCode_j70 (nI e) (nI name) (nI (s + 4)) (lN (w4 b (s + 4))) V3 else if w4 b (s + 4) ≤ 64 then f_X7_readCode_j79 (nI e) (nI name) (lN (w4 b (s + 4))) V3 else f_X7_readCode_j70 (nI e) (nI name) (nI (s + 4)) (lN (w4 b (s + 4))) V3) = some v2 := by
      unfold f_X7_readCode_j70
      simp only [M_fail h3.z, Option.bind_some, t1]
      by_cases z : w4 b (s + 4) < 1
      · rw [if_pos z]
      · rw [if_neg z, if_neg (by omega)]
    rw [eM]
    by_cases z : w4 b (s + 4) = 0 ∨ 2 ^ 31 ≤ w4 b (s + 4)
    · simp only [if_pos ((nI_lt1 w4l).mpr z), Option.bind_some, if_true]
      exact ⟨_, _, rfl, rfl, t2 _ _ _ _ h4⟩
    · have z' : ¬ nI (w4 b (s + 4)) < (1 : Int32) := fun y => z ((nI_lt1 w4l).mp y)
      have z2 : ¬ nI (w4 b (s + 4)) ≤ (64 : Int32) := nI_ge (a := 64) (by omega) (by omega)
      simp only [if_neg z', if_neg z2, Option.bind_some, if_true]
      exact ⟨_, _, rfl, rfl, t2 _ _ _ _ h4⟩
  have z1 : ¬ nI (w4 b (s + 4)) < (1 : Int32) := nI_nlt (b := 1) (by omega) (by omega)
  have z2 : nI (w4 b (s + 4)) ≤ (64 : Int32) := nI_le (b := 64) (by omega) (by omega)
  obtain ⟨C, hC⟩ : ∃ C, C = w4 b (s + 4) := ⟨_, rfl⟩
  rw [← hC] at gd
  simp only [if_neg z1, if_pos z2, if_neg (show ¬ w4 b (s + 4) < 1 by omega), if_pos (show w4 b (s + 4) ≤ 64 by omega)]
  unfold f_X7_readCode_j79
  rw [← hC]
  have r3 : V3 3 0 = nI (s + 8) := h3.2.2.1.2.2.2.2.1
  simp only [lN_i, r3]
  obtain ⟨V4, hV4⟩ : ∃ V4, V4 = up (up V3 11 0 (nI C)) 10 0 (nI (s + 8)) := ⟨_, rfl⟩
  rw [← hV4]
  have h4 : JS True u0 v0 n (s + 8) e 20 name U3 V4 := by rw [hV4]; exact h3
  have q4 : PQ b n N kd pl U3 V4 := by rw [hV4]; exact q3
  have f38 : V4 38 = v 38 := by rw [hV4]; exact f38
  have f39 : V4 39 = v 39 := by rw [hV4]; exact f39
  have v12 : V4 12 0 = nI (w2 b (s + 2)) := by rw [hV4]; exact v12
  have v11 : V4 11 0 = nI C := by rw [hV4]; rfl
  have v10 : V4 10 0 = nI (s + 8) := by rw [hV4]; rfl
  clear hV4 h3 q3
  rcases skC hn h4 C (by omega) with ⟨a4, t1, t2, h5⟩ | ⟨a4, t1, t2, h5⟩
  rotate_left
  · right
    obtain ⟨v2, y1, y2⟩ := M_restN h5.n (nI e) (nI name)
    simp only [t1, t2, Option.bind_some, bchk_0, if_true, y1]
    exact ⟨_, _, rfl, rfl, y2 _ _ _ _ h5⟩
  simp only [t1, t2, Option.bind_some, bchk_1, if_neg n10]
  rcases st_num hE h5 with ⟨a5, wH, e1, e2, h6⟩ | ⟨u1, v1, e1, e2, h6⟩
  rotate_left
  · right
    have h6n : ¬ (up (up v1 14 0 0) 13 0 (v1 3 0)) 7 0 = 0 := h6.n
    simp only [e1, e2, Option.bind_some, if_true, M_skipN h6n, M_attributesN h6n, if_neg h6n, M_j156N h6n]
    exact ⟨_, _, rfl, rfl, h6⟩
  obtain ⟨H, hH⟩ : ∃ H, H = w2 b (s + 8 + C) := ⟨_, rfl⟩
  rw [← hH] at e1 e2 wH
  have hm1 : ¬ nI H = (-1 : Int32) := fun z => by
    have := nI_pos (n := H) (by omega)
    rw [z] at this
    exact this (by decide)
  have eH8 : nI H * 8 = nI (8 * H) := by rw [show (8 : Int32) = nI 8 from rfl, pk_mul, Nat.mul_comm]
  have eL8 : 8 * (nI H).toInt64 = lN (8 * H) := by rw [nI_l (by omega), show (8 : Int64) = lN 8 from rfl, lN_mul]
  have e30 : ∀ x, (up V4 3 0 (nI (s + 8 + C))) 3 0 = nI (s + 8 + C) → (up (up V4 3 0 (nI (s + 8 + C))) 3 0 (nI x)) 3 0 = nI x := fun x _ => rfl
  simp only [e1, e2, Option.bind_some, if_neg hm1, eH8, eL8]
  obtain ⟨V6, hV6⟩ : ∃ V6, V6 = up (up (up (up V4 3 0 (nI (s + 8 + C))) 3 0 (nI (s + 8 + C + 2))) 14 0 (nI H)) 13 0 ((up (up V4 3 0 (nI (s + 8 + C))) 3 0 (nI (s + 8 + C + 2))) 3 0) := ⟨_, rfl⟩
  obtain ⟨U6, hU6⟩ : ∃ U6, U6 = up (up U3 4 0 (nI (s + 8 + C))) 4 0 (nI (s + 8 + C + 2)) := ⟨_, rfl⟩
  rw [← hV6, ← hU6]
  have h7 : JS True u0 v0 n (s + 8 + C + 2) e 20 name U6 V6 := by rw [hV6, hU6]; exact h6
  have q7 : PQ b n N kd pl U6 V6 := by rw [hV6, hU6]; exact q4
  have f24 : U6 24 = u 24 := by rw [hU6]; exact f24
  have f14 : U6 14 = u 14 := by rw [hU6]; exact f14
  have f38 : V6 38 = v 38 := by rw [hV6]; exact f38
  have f39 : V6 39 = v 39 := by rw [hV6]; exact f39
  have v12 : V6 12 0 = nI (w2 b (s + 2)) := by rw [hV6]; exact v12
  have v11 : V6 11 0 = nI C := by rw [hV6]; exact v11
  have v10 : V6 10 0 = nI (s + 8) := by rw [hV6]; exact v10
  have v14 : V6 14 0 = nI H := by rw [hV6]; rfl
  have v13 : V6 13 0 = nI (s + 8 + C + 2) := by rw [hV6]; rfl
  clear hV6 hU6 h6 h5 q4 h4 e1 e2 t1 t2 e30
  rcases skC hn h7 (8 * H) (by omega) with ⟨a6, t1, t2, h8⟩ | ⟨a6, t1, t2, h8⟩
  rotate_left
  · right
    have h8n := h8.n
    simp only [t1, t2, Option.bind_some, if_true, M_attributesN h8n, if_neg h8n, M_j156N h8n]
    exact ⟨_, _, rfl, rfl, h8⟩
  simp only [t1, t2, Option.bind_some, if_neg n10]
  obtain ⟨r, u9, v9, e1, e2, hr⟩ := st_attrs hE h8 (show PQ b n N kd pl (up U6 4 0 (nI (s + 8 + C + 2 + 8 * H))) (up V6 3 0 (nI (s + 8 + C + 2 + 8 * H))) from q7)
  simp only [e1, e2, Option.bind_some]
  rcases hr with ⟨rfl, pos2, hp2, h9, gX, gM⟩ | ⟨rfl, h9⟩
  rotate_left
  · right
    simp only [if_true, h9.nz, if_false, M_j156N h9.n]
    exact ⟨_, _, rfl, rfl, h9⟩
  have r4 : u9 4 0 = nI pos2 := h9.2.2.1.1
  have r3 : v9 3 0 = nI pos2 := h9.2.2.1.2.2.2.2.1
  have hpe := h9.2.2.1.2.2.2.2.2.2.2.2.2.2.1
  simp only [if_neg n10, h9.r0, if_true, r4, r3]
  simp (disch := omega) only [eqN]
  by_cases qe : pos2 = e
  rotate_left
  · right
    have h10 := h9.err (r := 20) (by omega) (by omega) (nI name)
    have h10n : ¬ (up (up v9 7 0 20) 8 0 (nI name)) 7 0 = 0 := h10.n
    simp only [if_neg qe, M_fail h9.z, Option.bind_some, M_j156N h10n]
    exact ⟨_, _, rfl, rfl, h10⟩
  left
  subst qe
  have q9 := q7.g ((GX.u4 U6 _).trans gX) ((GM.u3 V6 _).trans gM)
  have fX : ∀ k, k ≠ 2 → k ≠ 3 → k ≠ 4 → k ≠ 23 → u9 k = U6 k := (GX.u4 U6 _).trans gX
  have fM : ∀ k, k ≠ 3 → k ≠ 7 → k ≠ 8 → k ≠ 32 → v9 k = V6 k := (GM.u3 V6 _).trans gM
  have u91 : u9 1 0 = nI n := by rw [h9.1.2.1]; exact hE.2.2.2.1
  have v90 : v9 0 0 = nI n := by rw [h9.2.1.1]; exact hE.2.2.2.2
  have hBX := hE.bx h9.1
  simp only [if_true, u91]
  unfold f_X0_lookAt f_X7_readCode_j156
  have as2 : nI s + 2 = nI (s + 2) := nI_add s 2
  have as8 : nI s + 8 = nI (s + 8) := nI_add s 8
  have lx1 : f_X1_u2 (nI (s + 2)) (up (up (up u9 5 0 (nI n)) 6 0 1) 7 0 (nI n)) = some (nI (w2 b (s + 2))) := X_u2 (hE.bx (show FX u0 (up (up (up u9 5 0 (nI n)) 6 0 1) 7 0 (nI n)) from h9.1)) (by omega)
  have lx2 : ∀ x, f_X1_u4 (nI (s + 4)) (up (up (up (up u9 5 0 (nI n)) 6 0 1) 7 0 (nI n)) 11 0 x) = some (nI C) := fun x => by rw [hC]; exact X_u4 (hE.bx (show FX u0 (up (up (up (up u9 5 0 (nI n)) 6 0 1) 7 0 (nI n)) 11 0 x) from h9.1)) (by omega)
  have lx3 : ∀ x y z, f_X1_u2 (nI (s + 8 + C)) (up (up (up (up (up (up u9 5 0 (nI n)) 6 0 1) 7 0 (nI n)) 11 0 x) 10 0 y) 9 0 z) = some (nI H) := fun x y z => by rw [hH]; exact X_u2 (hE.bx (show FX u0 (up (up (up (up (up (up u9 5 0 (nI n)) 6 0 1) 7 0 (nI n)) 11 0 x) 10 0 y) 9 0 z) from h9.1)) (by omega)
  simp only [as2, as4, as8, nI_add, lx1, lx2, lx3, Option.bind_some, h9.r0, if_true, v90]
  obtain ⟨j1, j2, ⟨i1, i2, i3, i4, i5, i6, i7, i8, i9, i10, i11, i12, i13, i14⟩, j4⟩ := h9
  refine ⟨_, _, s + 8, C, w2 b (s + 2), H, rfl, rfl, ⟨j1, j2, ⟨i1, rfl, rfl, rfl, i5, rfl, rfl, rfl, i9, i10, by omega, by omega, by omega, by omega⟩, j4⟩, q9, ⟨rfl, rfl, rfl, rfl, ?_, ?_, ?_, ?_, ?_, gd.1, gd.2, wL, by omega⟩, rfl, ?_, ?_, ?_, ?_⟩
  · show v9 10 0 = _
    rw [fM 10 (by omega) (by omega) (by omega) (by omega)]; exact v10
  · show v9 11 0 = _
    rw [fM 11 (by omega) (by omega) (by omega) (by omega)]; exact v11
  · show v9 12 0 = _
    rw [fM 12 (by omega) (by omega) (by omega) (by omega)]; exact v12
  · show v9 13 0 = _
    rw [fM 13 (by omega) (by omega) (by omega) (by omega)]; exact v13
  · show v9 14 0 = _
    rw [fM 14 (by omega) (by omega) (by omega) (by omega)]; exact v14
  · show u9 24 = _
    rw [fX 24 (by omega) (by omega) (by omega) (by omega)]; exact f24
  · show u9 14 = _
    rw [fX 14 (by omega) (by omega) (by omega) (by omega)]; exact f14
  · show v9 38 = _
    rw [fM 38 (by omega) (by omega) (by omega) (by omega)]; exact f38
  · show v9 39 = _
    rw [fM 39 (by omega) (by omega) (by omega) (by omega)]; exact f39
