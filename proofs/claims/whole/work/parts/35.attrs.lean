/-- an attribute's name -/
theorem st_name {u0 v0 u v : St} {b : Nat → Nat} {n N pos lim lr ls : Nat} {kd pl : Nat → Nat} (hE : EV u0 v0 b n) (h : JS True u0 v0 n pos lim lr ls u v) (hP : PQ b n N kd pl u v) : (pos + 2 ≤ lim ∧ kd (w2 b pos) = 1 ∧ w2 b pos < 65536 ∧ f_X2_readAttributeName u = some (1, up u 4 0 (nI (pos + 2))) ∧ f_X7_textAt v = some (nI (w2 b pos), up v 3 0 (nI (pos + 2)))) ∨ (∃ u1 v1 x, f_X2_readAttributeName u = some (0, u1) ∧ f_X7_textAt v = some (x, v1) ∧ EE True u0 v0 u1 v1) := by
  have n10 : ¬ (1 : Int32) = 0 := by decide
  unfold f_X2_readAttributeName f_X2_readAttributeName_j53 f_X2_readAttributeName_j58 f_X7_textAt f_X7_textAt_j34
  simp only [X_broken, Option.bind_some, bchk_0, bchk_1, if_true]
  rcases rd2 hE h with ⟨a1, e1, e2, h1, w, e3⟩ | ⟨a1, e1, v1, e2, h1⟩
  rotate_left
  · simp only [e1, e2, Option.bind_some, if_true, h1.nz, if_false]
    exact Or.inr ⟨_, _, _, rfl, rfl, h1⟩
  have hP1 : PQ b n N kd pl (up u 4 0 (nI (pos + 2))) (up v 3 0 (nI (pos + 2))) := hP
  have hk := hP.2.2.2.1 (w2 b pos)
  have ei := M_is hP1 (x := w2 b pos) (t := 1) (by omega) (by omega) (by omega)
  have ei : f_X7_is (nI (w2 b pos)) 1 (up v 3 0 (nI (pos + 2))) = some (bI (kd (w2 b pos) = 1)) := ei
  simp only [e1, e2, Option.bind_some, if_neg n10, h.2.2.1.1, h.2.2.1.2.2.2.2.1, e3, h1.r0, if_true, X_kindOf hP1 (show w2 b pos < 2 ^ 31 by omega), ei]
  have l7 : (nI (kd (w2 b pos)) = (1 : Int32)) = (kd (w2 b pos) = 1) := eqN (b := 1) (by omega) (by omega)
  simp only [l7]
  by_cases q : kd (w2 b pos) = 1
  · rw [if_pos q, if_neg (fun z => bI_0.mp z q)]
    exact Or.inl ⟨a1, q, w, rfl, rfl⟩
  · rw [if_neg q, if_pos (bI_0.mpr q), bd_some (M_fail h1.z)]
    exact Or.inr ⟨_, _, _, rfl, rfl, h1.err (r := 15) (by omega) (by omega) _⟩
theorem M_lengthAtN {v : St} (h : ¬ v 7 0 = 0) : f_X7_lengthAt v = some (0, v) := by
  unfold f_X7_lengthAt f_X7_lengthAt_j34
  simp only [M_uN h, Option.bind_some, if_neg h]
theorem nI_neg {x : Nat} (h : 2 ^ 31 ≤ x) (h2 : x < 2 ^ 32) : nI x < 0 := by
  rw [Int32.lt_iff_toInt_lt]
  show (nI x).toBitVec.toInt < 0
  rw [BitVec.toInt_eq_toNat_cond, pk_tn h2]
  split <;> omega
/-- an attribute's bytes -/
theorem st_len {u0 v0 u v : St} {b : Nat → Nat} {n pos lim lr ls : Nat} (hE : EV u0 v0 b n) (h : JS True u0 v0 n pos lim lr ls u v) : (pos + 4 + w4 b pos ≤ lim ∧ f_X2_stepAttributeBytes u = some (1, up (up u 4 0 (nI (pos + 4))) 4 0 (nI (pos + 4 + w4 b pos))) ∧ f_X7_lengthAt v = some (lN (w4 b pos), up v 3 0 (nI (pos + 4))) ∧ f_X7_skip (lN (w4 b pos)) (up v 3 0 (nI (pos + 4))) = some (up (up v 3 0 (nI (pos + 4))) 3 0 (nI (pos + 4 + w4 b pos))) ∧ JS True u0 v0 n (pos + 4 + w4 b pos) lim lr ls (up (up u 4 0 (nI (pos + 4))) 4 0 (nI (pos + 4 + w4 b pos))) (up (up v 3 0 (nI (pos + 4))) 3 0 (nI (pos + 4 + w4 b pos)))) ∨ (∃ u1 L v1 v2, f_X2_stepAttributeBytes u = some (0, u1) ∧ f_X7_lengthAt v = some (L, v1) ∧ f_X7_skip L v1 = some v2 ∧ EE True u0 v0 u1 v2) := by
  have hn := hE.1.1
  have n10 : ¬ (1 : Int32) = 0 := by decide
  have r14 := h.2.2.1.2.2.2.2.2.2.2.2.2.2.2.2
  unfold f_X2_stepAttributeBytes f_X2_stepAttributeBytes_j41 f_X2_stepAttributeBytes_j42 f_X7_lengthAt f_X7_lengthAt_j34
  simp only [bchk_0, bchk_1]
  rcases rd4 hE h with ⟨a1, e1, e2, h1, w, e3⟩ | ⟨a1, e1, v1, e2, h1⟩
  rotate_left
  · simp only [e1, e2, Option.bind_some, if_true, h1.nz, if_false]
    exact Or.inr ⟨_, _, _, _, rfl, rfl, M_skipN h1.n, h1⟩
  simp only [e1, e2, Option.bind_some, if_neg n10, h.2.2.1.1, e3, h1.r0, if_true]
  have l31 : (lg_cmp (lN (w4 b pos)) 2147483648 < 0) = (w4 b pos < 2147483648) := propext (lg_lt (c := 2147483648) (by omega) (by omega))
  simp only [l31]
  by_cases q : w4 b pos < 2147483648
  · simp only [if_pos q]
    rcases skC hn h1 (w4 b pos) q with ⟨a2, s1, s2, h2⟩ | ⟨a2, s1, s2, h2⟩
    · simp only [s1, Option.bind_some, if_neg n10]
      exact Or.inl ⟨a2, trivial, trivial, s2, h2⟩
    · simp only [s1, Option.bind_some, if_true]
      exact Or.inr ⟨_, _, _, _, rfl, rfl, s2, h2⟩
  · have hs : f_X5_step (nI (w4 b pos)) (up u 4 0 (nI (pos + 4))) = some (0, up (up (up u 4 0 (nI (pos + 4))) 2 0 (nI lr)) 3 0 (nI ls)) := by
      unfold f_X5_step f_X5_step_j17
      rw [if_pos (nI_neg (by omega) w)]
      show some (0, up (up (up u 4 0 (nI (pos + 4))) 2 0 (u 6 0)) 3 0 (u 7 0)) = _
      rw [h.2.2.1.2.2.1, h.2.2.1.2.2.2.1]
    have h2 := h1.err (r := lr) r14.1 r14.2 (nI ls)
    have e5 : (up v 3 0 (nI (pos + 4))) 5 0 = nI lr := h1.2.2.1.2.2.2.2.2.2.1
    have e6 : (up v 3 0 (nI (pos + 4))) 6 0 = nI ls := h1.2.2.1.2.2.2.2.2.2.2.1
    simp only [if_neg q, hs, Option.bind_some, if_true, M_fail h1.z, e5, e6]
    exact Or.inr ⟨_, _, _, _, rfl, rfl, M_skipN h2.n, h2⟩
/-- a tally goes up -/
theorem JS.tal {u0 v0 u v : St} {n pos lim lr ls : Nat} (h : JS True u0 v0 n pos lim lr ls u v) (i : Nat) (hi : 1 ≤ i) (x y : Int32) (hx : x = y) : JS True u0 v0 n pos lim lr ls (up u 23 i x) (up v 32 i y) := by
  obtain ⟨h1, h2, h3, h4, h5⟩ := h
  refine ⟨h1, h2, h3, fun j j1 j2 => ?_, fun _ => ?_⟩
  · by_cases q : j = i
    · rw [q]; simp (disch := omega) only [up_s, up_o, upd_s, upd_o]; exact hx
    · simp (disch := omega) only [up_s, up_o, upd_s, upd_o]
      exact h4 j j1 j2
  · have := h5 trivial
    simp (disch := omega) only [up_s, up_o, upd_s, upd_o]
    exact this
/-- attributes that are passed over -/
theorem st_attrs {u0 v0 u v : St} {b : Nat → Nat} {n N pos lim lr ls : Nat} {kd pl : Nat → Nat} (hE : EV u0 v0 b n) (h : JS True u0 v0 n pos lim lr ls u v) (hP : PQ b n N kd pl u v) : ∃ r u1 v1, f_X2_passAttributes u = some (r, u1) ∧ f_X7_attributes v = some v1 ∧ ((r = 1 ∧ ∃ pos2, pos + 2 ≤ pos2 ∧ JS True u0 v0 n pos2 lim lr ls u1 v1 ∧ GX u u1 ∧ GM v v1) ∨ (r = 0 ∧ EE True u0 v0 u1 v1)) := by
  have hn := hE.1.1
  have n10 : ¬ (1 : Int32) = 0 := by decide
  have c5 : ∀ {α : Type} {x : Option α}, chk 7 5 x = x := fun {α x} => chkN (k := 5) (by omega) (by omega)
  have cz : Int32.toNatClampNeg 5 = 5 := rfl
  unfold f_X2_passAttributes f_X2_passAttributes_j54 f_X7_attributes f_X7_attributes_j55
  simp only [bchk_0, bchk_1]
  rcases st_num hE h with ⟨a1, w, e1, e2, h1⟩ | ⟨u1, v1, e1, e2, h1⟩
  rotate_left
  · have e3 : f_X2_passAttributes_b7 (-1) (0, u1) = some (.inl (.inr u1)) := by
      unfold f_X2_passAttributes_b7
      rw [if_pos (show (-1 : Int32) ≤ 0 by decide)]
    have e4 : f_X7_attributes_b7 0 (0, v1) = some (.inl (.inr v1)) := by
      unfold f_X7_attributes_b7
      rw [if_pos (show (0 : Int32) ≤ 0 by decide)]
    simp only [e1, e2, Option.bind_some]
    rw [show FU = 999999 + 1 from rfl, loopF_s e3, loopF_s e4]
    simp only [Sum.elim_inl, Sum.elim_inr, Option.bind_some, if_true]
    exact ⟨0, _, _, rfl, rfl, Or.inr ⟨rfl, h1⟩⟩
  obtain ⟨cnt, hcnt⟩ : ∃ cnt, cnt = w2 b pos := ⟨_, rfl⟩
  rw [← hcnt] at e1 e2 w
  have hne : ¬ nI cnt = (-1 : Int32) := fun z => by
    have := nI_pos (n := cnt) (by omega)
    rw [z] at this
    exact this (by decide)
  simp only [e1, e2, Option.bind_some, if_neg hne]
  have key := loop2 (bx := f_X2_passAttributes_b7 (nI cnt)) (bm := f_X7_attributes_b7 (nI cnt))
    (fun k x y => ∃ u2 v2 p2, x = (nI k, u2) ∧ y = (nI k, v2) ∧ pos + 2 + 6 * k ≤ p2 ∧ JS True u0 v0 n p2 lim lr ls u2 v2 ∧ GX u u2 ∧ GM v v2)
    (fun p q => (∃ u1 v1 pos2, p = .inr u1 ∧ q = .inr v1 ∧ pos + 2 ≤ pos2 ∧ JS True u0 v0 n pos2 lim lr ls u1 v1 ∧ GX u u1 ∧ GM v v1) ∨ (∃ u1 v1, p = .inl (0, u1) ∧ q = .inr v1 ∧ EE True u0 v0 u1 v1)) 400 (by omega) ?_ (x := (nI 0, up u 4 0 (nI (pos + 2)))) (y := (nI 0, up v 3 0 (nI (pos + 2)))) ⟨_, _, _, rfl, rfl, by omega, h1, GX.u4 _ _, GM.u3 _ _⟩
  · obtain ⟨p, q, e3, e4, hr⟩ := key
    have e3 : loopF (f_X2_passAttributes_b7 (nI cnt)) FU (0, up u 4 0 (nI (pos + 2))) = some p := e3
    have e4 : loopF (f_X7_attributes_b7 (nI cnt)) FU (0, up v 3 0 (nI (pos + 2))) = some q := e4
    rw [bd_some e3, bd_some e4]
    rcases hr with ⟨u1, v1, pos2, rfl, rfl, hp2, hJ, hX, hM⟩ | ⟨u1, v1, rfl, rfl, hEE⟩
    · exact ⟨1, u1, v1, rfl, rfl, Or.inl ⟨rfl, pos2, hp2, hJ, hX, hM⟩⟩
    · exact ⟨0, u1, v1, rfl, rfl, Or.inr ⟨rfl, hEE⟩⟩
  clear h1 e1 e2 h
  intro k x y hI
  obtain ⟨u2, v2, p2, rfl, rfl, hp2, h, hX, hM⟩ := hI
  have hpn := h.2.2.1.2.2.2.2.2.2.2.2.2.2.1
  have hln := h.2.2.1.2.2.2.2.2.2.2.2.2.2.2.1
  refine ⟨by omega, ?_⟩
  by_cases q : cnt ≤ k
  · left
    have q' : nI cnt ≤ nI k := nI_le q (by omega)
    refine ⟨.inr u2, .inr v2, ?_, ?_, Or.inl ⟨u2, v2, p2, rfl, rfl, by omega, h, hX, hM⟩⟩
    · unfold f_X2_passAttributes_b7
      rw [if_pos q']
    · unfold f_X7_attributes_b7
      rw [if_pos q']
  have q' : ¬ nI cnt ≤ nI k := nI_ge (by omega) (by omega)
  have hEx : ∀ (v1 : St), ¬ v1 7 0 = 0 → f_X7_attributes_b7 (nI cnt) (nI (k + 1), v1) = some (.inl (.inr v1)) := by
    intro v1 hv
    unfold f_X7_attributes_b7
    simp only [if_neg hv, ite_self]
  have hP2 := hP.g hX hM
  have eX : ∀ {o : Option (((Int32 × St) ⊕ St) ⊕ (Int32 × St))}, f_X2_passAttributes_b7 (nI cnt) (nI k, u2) = o ↔ (f_X2_readAttributeName u2).bind (fun q3 => if q3.1 = 0 then some (.inl (.inl (0, q3.2))) else (f_X2_stepAttributeBytes q3.2).bind fun q5 => if q5.1 = 0 then some (.inl (.inl (0, q5.2))) else some (.inr (nI (k + 1), up q5.2 23 5 (q5.2 23 5 + 1)))) = o := by
    intro o
    unfold f_X2_passAttributes_b7 f_X2_passAttributes_j26_7
    simp only [if_neg q', c5, cz, nI_1]
  have eM : ∀ {o : Option ((St ⊕ St) ⊕ (Int32 × St))}, f_X7_attributes_b7 (nI cnt) (nI k, v2) = o ↔ (f_X7_textAt v2).bind (fun q4 => (f_X7_lengthAt q4.2).bind fun q5 => (f_X7_skip q5.1 q5.2).bind fun q6 => if q6 7 0 = 0 then some (.inr (nI (k + 1), up q6 32 5 (q6 32 5 + 1))) else some (.inr (nI (k + 1), q6))) = o := by
    intro o
    unfold f_X7_attributes_b7 f_X7_attributes_j49_7
    simp only [if_neg q', c5, cz, nI_1, h.r0, if_true]
  simp only [eX, eM]
  rcases st_name hE h hP2 with ⟨a2, k1, w1, e3, e4⟩ | ⟨u3, v3, x, e3, e4, h3⟩
  rotate_left
  · right; right
    simp only [e3, e4, Option.bind_some, if_true, M_lengthAtN h3.n, M_skipN h3.n, h3.nz, if_false]
    exact ⟨_, _, _, rfl, rfl, hEx _ h3.n, Or.inr ⟨_, _, rfl, rfl, h3⟩⟩
  have h3 := h.adv (p2 + 2) a2
  rcases st_len hE h3 with ⟨a3, e5, e6, e7, h4⟩ | ⟨u4, L, v4, v5, e5, e6, e7, h4⟩
  rotate_left
  · right; right
    simp only [e3, e4, e5, e6, e7, Option.bind_some, if_neg n10, if_true, h4.nz, if_false]
    exact ⟨_, _, _, rfl, rfl, hEx _ h4.n, Or.inr ⟨_, _, rfl, rfl, h4⟩⟩
  right; left
  simp only [e3, e4, e5, e6, e7, Option.bind_some, if_neg n10, if_true, h4.r0]
  have h5 := h4.tal 5 (by omega) ((up (up (up u2 4 0 (nI (p2 + 2))) 4 0 (nI (p2 + 2 + 4))) 4 0 (nI (p2 + 2 + 4 + w4 b (p2 + 2)))) 23 5 + 1) ((up (up (up v2 3 0 (nI (p2 + 2))) 3 0 (nI (p2 + 2 + 4))) 3 0 (nI (p2 + 2 + 4 + w4 b (p2 + 2)))) 32 5 + 1) (by rw [h4.2.2.2.1 5 (by omega) (by omega)])
  exact ⟨_, _, rfl, rfl, _, _, _, rfl, rfl, by omega, h5, ((((hX.trans (GX.u4 _ _)).trans (GX.u4 _ _)).trans (GX.u4 _ _)).trans (GX.u23 _ _ _)), ((((hM.trans (GM.u3 _ _)).trans (GM.u3 _ _)).trans (GM.u3 _ _)).trans (GM.u32 _ _ _))⟩
