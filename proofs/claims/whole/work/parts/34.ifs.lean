/-- interfaces -/
theorem st_ifs {u0 v0 u v : St} {b : Nat → Nat} {n N pos : Nat} {kd pl : Nat → Nat} (hE : EV u0 v0 b n) (h : JS True u0 v0 n pos n 1 n u v) (hP : PQ b n N kd pl u v) : ∃ r u1 v1, f_X2_readInterfaces u = some (r, u1) ∧ f_X7_interfaces v = some v1 ∧ ((r = 1 ∧ ∃ pos2, pos + 2 ≤ pos2 ∧ JS True u0 v0 n pos2 n 1 n u1 v1 ∧ PQ b n N kd pl u1 v1) ∨ (r = 0 ∧ EE True u0 v0 u1 v1)) := by
  have hn := hE.1.1
  have n10 : ¬ (1 : Int32) = 0 := by decide
  unfold f_X2_readInterfaces f_X2_readInterfaces_j103 f_X7_interfaces f_X7_interfaces_j119
  simp only [bchk_0, bchk_1]
  rcases st_num hE h with ⟨a1, w, e1, e2, h1⟩ | ⟨u1, v1, e1, e2, h1⟩
  rotate_left
  · have e3 : f_X2_readInterfaces_b15 (-1) (u1 4 0) (0, u1) = some (.inl (.inr u1)) := by
      unfold f_X2_readInterfaces_b15
      rw [if_pos (show (-1 : Int32) ≤ 0 by decide)]
    have e4 : f_X7_interfaces_b7 0 (0, v1) = some (.inl (.inr v1)) := by
      unfold f_X7_interfaces_b7
      rw [if_pos (show (0 : Int32) ≤ 0 by decide)]
    simp only [e1, e2, Option.bind_some]
    rw [show FU = 999999 + 1 from rfl, loopF_s e3, loopF_s e4]
    simp only [Sum.elim_inl, Sum.elim_inr, Option.bind_some, if_true]
    exact ⟨0, _, _, rfl, rfl, Or.inr ⟨rfl, h1⟩⟩
  obtain ⟨cnt, hcnt⟩ : ∃ cnt, cnt = w2 b pos := ⟨_, rfl⟩
  rw [← hcnt] at e1 e2 w
  obtain ⟨st, hst⟩ : ∃ st, st = pos + 2 := ⟨_, rfl⟩
  rw [← hst] at e1 e2 h1
  have hne : ¬ nI cnt = (-1 : Int32) := fun z => by
    have := nI_pos (n := cnt) (by omega)
    rw [z] at this
    exact this (by decide)
  simp only [e1, e2, Option.bind_some, show (up u 4 0 (nI st)) 4 0 = nI st from rfl, if_neg hne]
  have key := loop2 (bx := f_X2_readInterfaces_b15 (nI cnt) (nI st)) (bm := f_X7_interfaces_b7 (nI cnt))
    (fun k x y => ∃ u v, x = (nI k, u) ∧ y = (nI k, v) ∧ JS True u0 v0 n (st + 2 * k) n 1 n u v ∧ PQ b n N kd pl u v ∧ k ≤ cnt ∧ ∀ i, i < k → v 37 i = nI (w2 b (st + 2 * i)))
    (fun p q => (∃ u1 v1 pos2, p = .inr u1 ∧ q = .inr v1 ∧ st ≤ pos2 ∧ JS True u0 v0 n pos2 n 1 n u1 v1 ∧ PQ b n N kd pl u1 v1) ∨ (∃ u1 v1, p = .inl (0, u1) ∧ q = .inr v1 ∧ EE True u0 v0 u1 v1)) 400 (by omega) ?_ (x := (nI 0, up u 4 0 (nI st))) (y := (nI 0, up v 3 0 (nI st))) ⟨_, _, rfl, rfl, h1, hP, by omega, fun i hi => by omega⟩
  · obtain ⟨p, q, e3, e4, hr⟩ := key
    have e3 : loopF (f_X2_readInterfaces_b15 (nI cnt) (nI st)) FU (0, up u 4 0 (nI st)) = some p := e3
    have e4 : loopF (f_X7_interfaces_b7 (nI cnt)) FU (0, up v 3 0 (nI st)) = some q := e4
    rw [bd_some e3, bd_some e4]
    rcases hr with ⟨u1, v1, pos2, rfl, rfl, hp2, hJ, hQ⟩ | ⟨u1, v1, rfl, rfl, hEE⟩
    · exact ⟨1, u1, v1, rfl, rfl, Or.inl ⟨rfl, pos2, by omega, hJ, hQ⟩⟩
    · exact ⟨0, u1, v1, rfl, rfl, Or.inr ⟨rfl, hEE⟩⟩
  clear h1 hP e1 e2 h
  intro k x y hI
  obtain ⟨u, v, rfl, rfl, h, hP, hk, hL⟩ := hI
  have hpn := h.2.2.1.2.2.2.2.2.2.2.2.2.2.1
  refine ⟨by omega, ?_⟩
  by_cases q : cnt ≤ k
  · left
    have q' : nI cnt ≤ nI k := nI_le q (by omega)
    refine ⟨.inr u, .inr v, ?_, ?_, Or.inl ⟨u, v, _, rfl, rfl, by omega, h, hP⟩⟩
    · unfold f_X2_readInterfaces_b15
      rw [if_pos q']
    · unfold f_X7_interfaces_b7
      rw [if_pos q']
  have q' : ¬ nI cnt ≤ nI k := nI_ge (by omega) (by omega)
  have h7 := h.z
  have hEx : ∀ (v1 : St), ¬ v1 7 0 = 0 → f_X7_interfaces_b7 (nI cnt) (nI (k + 1), v1) = some (.inl (.inr v1)) := by
    intro v1 hv
    unfold f_X7_interfaces_b7
    simp only [if_neg hv, ite_self]
  have hIn : ∀ (x3 x4 : Int32) (v1 : St), ¬ v1 7 0 = 0 → k < 200 → f_X7_interfaces_j56_7 (nI cnt) (nI k) x3 x4 v1 = some (.inr (nI (k + 1), up v1 37 k x4)) := by
    intro x3 x4 v1 hv hk2
    have e : f_X7_interfaces_b59 (nI cnt) (nI k) x3 x4 (0, v1) = some (.inl (.inr v1)) := by
      unfold f_X7_interfaces_b59
      simp only [if_neg hv, ite_self]
    unfold f_X7_interfaces_j56_7
    rw [show FU = 999999 + 1 from rfl, loopF_s e]
    show f_X7_interfaces_j98_7 _ _ _ _ = _
    unfold f_X7_interfaces_j98_7 f_X7_interfaces_j113_7
    rw [if_neg (show ¬ (200 : Int32) ≤ nI k from nI_ge (b := 200) hk2 (by omega)), chkN hk2 (by omega), cl_nI (by omega), nI_1]
  unfold f_X2_readInterfaces_b15 f_X2_readClassNumber f_X2_readClassNumber_j54 f_X2_readClassNumber_j59
  simp only [if_neg q', X_broken, Option.bind_some, bchk_0, bchk_1, if_true]
  rcases rd2 hE h with ⟨a1, e1, e2, h1, w1, e3⟩ | ⟨a1, e1, v1, e2, h1⟩
  rotate_left
  · right; right
    by_cases hk2 : k < 200
    · simp only [e1, Option.bind_some, if_true]
      refine ⟨_, (nI (k + 1), up v1 37 k 0), .inr (up v1 37 k 0), rfl, ?_, hEx (up v1 37 k 0) h1.n, Or.inr ⟨_, _, rfl, rfl, h1⟩⟩
      unfold f_X7_interfaces_b7
      simp only [if_neg q', h7, if_true, e2, Option.bind_some, h1.nz, if_false, hIn _ _ v1 h1.n hk2]
    · omega
  have hP1 : PQ b n N kd pl (up u 4 0 (nI (st + 2 * k + 2))) (up v 3 0 (nI (st + 2 * k + 2))) := hP
  have hkd := hP.2.2.2.1 (w2 b (st + 2 * k))
  have ei := M_is hP1 (x := w2 b (st + 2 * k)) (t := 7) (by omega) (by omega) (by omega)
  have ei : f_X7_is (nI (w2 b (st + 2 * k))) 7 (up v 3 0 (nI (st + 2 * k + 2))) = some (bI (kd (w2 b (st + 2 * k)) = 7)) := ei
  have l7 : (nI (kd (w2 b (st + 2 * k))) = (7 : Int32)) = (kd (w2 b (st + 2 * k)) = 7) := eqN (b := 7) (by omega) (by omega)
  simp only [e1, Option.bind_some, if_neg n10, h.2.2.1.1, e3, X_kindOf hP1 (show w2 b (st + 2 * k) < 2 ^ 31 by omega), l7]
  have eM : f_X7_interfaces_b7 (nI cnt) (nI k, v) = if kd (w2 b (st + 2 * k)) = 7 then f_X7_interfaces_j56_7 (nI cnt) (nI k) (nI (st + 2 * k)) (nI (w2 b (st + 2 * k))) (up v 3 0 (nI (st + 2 * k + 2))) else f_X7_interfaces_j56_7 (nI cnt) (nI k) (nI (st + 2 * k)) (nI (w2 b (st + 2 * k))) (up (up (up v 3 0 (nI (st + 2 * k + 2))) 7 0 12) 8 0 (nI (st + 2 * k))) := by
    unfold f_X7_interfaces_b7
    simp only [if_neg q', h7, if_true, e2, Option.bind_some, h1.r0, ei, M_fail h1.z, h.2.2.1.2.2.2.2.1]
    by_cases z : kd (w2 b (st + 2 * k)) = 7
    · rw [if_neg (fun y => bI_0.mp y z), if_pos z]
    · rw [if_pos (bI_0.mpr z), if_neg z]
  rw [eM]
  have hk2 : k < 200 := by omega
  by_cases z : kd (w2 b (st + 2 * k)) = 7
  rotate_left
  · right; right
    have h2 := h1.err (r := 12) (by omega) (by omega) (nI (st + 2 * k))
    simp only [if_neg z, if_true]
    refine ⟨_, _, _, rfl, hIn _ _ _ h2.n hk2, hEx _ h2.n, Or.inr ⟨_, _, rfl, rfl, h2⟩⟩
  simp only [if_pos z, if_neg n10]
  obtain ⟨U, hU⟩ : ∃ U, U = up u 4 0 (nI (st + 2 * k + 2)) := ⟨_, rfl⟩
  obtain ⟨V, hV⟩ : ∃ V, V = up v 3 0 (nI (st + 2 * k + 2)) := ⟨_, rfl⟩
  have hJ : JS True u0 v0 n (st + 2 * k + 2) n 1 n U V := by rw [hU, hV]; exact h1
  have hQ : PQ b n N kd pl U V := by rw [hU, hV]; exact hP
  have hLV : ∀ i, i < k → V 37 i = nI (w2 b (st + 2 * i)) := by rw [hV]; exact hL
  rw [← hU, ← hV]
  clear hU hV
  have hBX := hE.bx hJ.1
  have wi : ∀ i, i < k → w2 b (st + 2 * i) < 65536 := fun i hi => w2_lt hE.by (by omega)
  have kx : ∀ i, 0 ≤ i → i < k → (¬ w2 b (st + 2 * i) = w2 b (st + 2 * k) ∧ f_X2_readInterfaces_b41 (nI cnt) (nI st) (nI k) (nI (st + 2 * k)) (nI (st + 2 * i), U) = some (.inr (nI (st + 2 * (i + 1)), U))) ∨ (¬ ¬ w2 b (st + 2 * i) = w2 b (st + 2 * k) ∧ (f_X2_readInterfaces_b41 (nI cnt) (nI st) (nI k) (nI (st + 2 * k)) (nI (st + 2 * i), U) = some (.inl (.inl (0, up (up U 2 0 13) 3 0 (nI (st + 2 * k))))) ∨ ∃ a', f_X2_readInterfaces_b41 (nI cnt) (nI st) (nI k) (nI (st + 2 * k)) (nI (st + 2 * i), U) = some (.inr a') ∧ f_X2_readInterfaces_b41 (nI cnt) (nI st) (nI k) (nI (st + 2 * k)) a' = some (.inl (.inl (0, up (up U 2 0 13) 3 0 (nI (st + 2 * k))))))) := by
    intro i _ i2
    have := wi i i2
    unfold f_X2_readInterfaces_b41
    simp only [if_neg (nI_ge (show st + 2 * i < st + 2 * k by omega) (show st + 2 * k < 2 ^ 31 by omega)), X_u2 hBX (show st + 2 * i + 1 < n by omega), X_u2 hBX (show st + 2 * k + 1 < n by omega), Option.bind_some, X_broken, bchk_0, L2, nI_add]
    simp (disch := omega) only [eqN]
    by_cases y : w2 b (st + 2 * i) = w2 b (st + 2 * k)
    · exact Or.inr ⟨fun t => t y, Or.inl (by rw [if_pos y])⟩
    · exact Or.inl ⟨y, by rw [if_neg y]; rfl⟩
  have kxe : f_X2_readInterfaces_b41 (nI cnt) (nI st) (nI k) (nI (st + 2 * k)) (nI (st + 2 * k), U) = some (.inl (.inr U)) := by
    unfold f_X2_readInterfaces_b41
    rw [if_pos (show nI (st + 2 * k) ≤ nI (st + 2 * k) from nI_le (Nat.le_refl _) (by omega))]
  have km : ∀ i, 0 ≤ i → i < k → (¬ w2 b (st + 2 * i) = w2 b (st + 2 * k) ∧ f_X7_interfaces_b59 (nI cnt) (nI k) (nI (st + 2 * k)) (nI (w2 b (st + 2 * k))) (nI i, V) = some (.inr (nI (i + 1), V))) ∨ (¬ ¬ w2 b (st + 2 * i) = w2 b (st + 2 * k) ∧ (f_X7_interfaces_b59 (nI cnt) (nI k) (nI (st + 2 * k)) (nI (w2 b (st + 2 * k))) (nI i, V) = some (.inl (.inr (up (up V 7 0 13) 8 0 (nI (st + 2 * k))))) ∨ ∃ a', f_X7_interfaces_b59 (nI cnt) (nI k) (nI (st + 2 * k)) (nI (w2 b (st + 2 * k))) (nI i, V) = some (.inr a') ∧ f_X7_interfaces_b59 (nI cnt) (nI k) (nI (st + 2 * k)) (nI (w2 b (st + 2 * k))) a' = some (.inl (.inr (up (up V 7 0 13) 8 0 (nI (st + 2 * k))))))) := by
    intro i _ i2
    have := wi i i2
    have e : f_X7_interfaces_b59 (nI cnt) (nI k) (nI (st + 2 * k)) (nI (w2 b (st + 2 * k))) (nI i, V) = if w2 b (st + 2 * i) = w2 b (st + 2 * k) then some (.inr (nI (i + 1), up (up V 7 0 13) 8 0 (nI (st + 2 * k)))) else some (.inr (nI (i + 1), V)) := by
      unfold f_X7_interfaces_b59 f_X7_interfaces_j92_59
      simp only [if_neg (nI_ge i2 (show k < 2 ^ 31 by omega)), hJ.r0, if_true, chkN (show i < 200 by omega) (show 200 < 2 ^ 31 by omega), cl_nI (show i < 2 ^ 31 by omega), hLV i i2, M_fail hJ.z, Option.bind_some, nI_1]
      simp (disch := omega) only [eqN]
    rw [e]
    by_cases y : w2 b (st + 2 * i) = w2 b (st + 2 * k)
    · refine Or.inr ⟨fun t => t y, Or.inr ⟨(nI (i + 1), up (up V 7 0 13) 8 0 (nI (st + 2 * k))), by rw [if_pos y], ?_⟩⟩
      unfold f_X7_interfaces_b59
      simp only [if_neg (show ¬ (up (up V 7 0 13) 8 0 (nI (st + 2 * k))) 7 0 = 0 from show ¬ (13 : Int32) = 0 by decide), ite_self]
    · exact Or.inl ⟨y, by rw [if_neg y]⟩
  have kme : f_X7_interfaces_b59 (nI cnt) (nI k) (nI (st + 2 * k)) (nI (w2 b (st + 2 * k))) (nI k, V) = some (.inl (.inr V)) := by
    unfold f_X7_interfaces_b59
    rw [if_pos (show nI k ≤ nI k from nI_le (Nat.le_refl _) (by omega))]
  have lx := loop_seq (β := (Int32 × St) ⊕ St) (fun i => (nI (st + 2 * i), U)) (fun i => ¬ w2 b (st + 2 * i) = w2 b (st + 2 * k)) (fun _ => .inl (0, up (up U 2 0 13) 3 0 (nI (st + 2 * k)))) (.inr U) (Nat.zero_le k) (by omega) kx kxe
  have lm := loop_seq (β := St ⊕ St) (fun i => (nI i, V)) (fun i => ¬ w2 b (st + 2 * i) = w2 b (st + 2 * k)) (fun _ => .inr (up (up V 7 0 13) 8 0 (nI (st + 2 * k)))) (.inr V) (Nat.zero_le k) (by omega) km kme
  unfold f_X7_interfaces_j56_7 f_X7_interfaces_j98_7 f_X7_interfaces_j113_7
  simp only [if_neg (show ¬ (200 : Int32) ≤ nI k from nI_ge (b := 200) hk2 (by omega)), chkN hk2 (show 200 < 2 ^ 31 by omega), cl_nI (show k < 2 ^ 31 by omega), nI_1]
  rcases lx with ⟨x1, x2⟩ | ⟨j, j1, j2, j3, j4, x1⟩
  · rcases lm with ⟨m1, m2⟩ | ⟨i, i1, i2, i3, i4, m1⟩
    · have x1 : loopF (f_X2_readInterfaces_b41 (nI cnt) (nI st) (nI k) (nI (st + 2 * k))) FU (nI st, U) = _ := x1
      have m1 : loopF (f_X7_interfaces_b59 (nI cnt) (nI k) (nI (st + 2 * k)) (nI (w2 b (st + 2 * k)))) FU (0, V) = _ := m1
      simp only [Option.bind_some, if_neg n10]
      rw [bd_some x1, bd_some m1]
      simp only [Sum.elim_inr]
      right; left
      refine ⟨_, _, rfl, rfl, U, up V 37 k (nI (w2 b (st + 2 * k))), rfl, rfl, hJ, hQ, by omega, fun i hi => ?_⟩
      by_cases hik : i = k
      · rw [hik]; simp (disch := omega) only [up_s, up_o, upd_s, upd_o]
      · simp (disch := omega) only [up_s, up_o, upd_s, upd_o]
        exact hLV i (by omega)
    · exact absurd (x2 i i1 i2) i3
  · rcases lm with ⟨m1, m2⟩ | ⟨i, i1, i2, i3, i4, m1⟩
    · exact absurd (m2 j j1 j2) j3
    · have x1 : loopF (f_X2_readInterfaces_b41 (nI cnt) (nI st) (nI k) (nI (st + 2 * k))) FU (nI st, U) = _ := x1
      have m1 : loopF (f_X7_interfaces_b59 (nI cnt) (nI k) (nI (st + 2 * k)) (nI (w2 b (st + 2 * k)))) FU (0, V) = _ := m1
      simp only [Option.bind_some, if_neg n10]
      rw [bd_some x1, bd_some m1]
      simp only [Sum.elim_inr, Sum.elim_inl]
      right; right
      have h2 := hJ.err (r := 13) (by omega) (by omega) (nI (st + 2 * k))
      refine ⟨_, _, _, rfl, rfl, hEx (up (up (up V 7 0 13) 8 0 (nI (st + 2 * k))) 37 k (nI (w2 b (st + 2 * k)))) h2.n, Or.inr ⟨_, _, rfl, rfl, h2⟩⟩
