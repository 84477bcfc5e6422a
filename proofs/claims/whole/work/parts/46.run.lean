theorem X_zt {u : St} : ∃ u1, loopF f_X2_run_b16 FU (0, u) = some (.inr u1) ∧ (∀ k, k ≠ 23 → u1 k = u k) ∧ ∀ q, q < 7 → u1 23 q = 0 := by
  have key := loopF_rule (body := f_X2_run_b16) (fun a => ∃ i u1, a = (nI i, u1) ∧ i ≤ 7 ∧ (∀ k, k ≠ 23 → u1 k = u k) ∧ ∀ q, q < i → u1 23 q = 0) (fun a => 7 - a.1.toNatClampNeg) (fun p => ∃ u1, p = .inr u1 ∧ (∀ k, k ≠ 23 → u1 k = u k) ∧ ∀ q, q < 7 → u1 23 q = 0) ?_ FU (0, u) ⟨0, u, rfl, by omega, fun _ _ => rfl, fun q hq => by omega⟩ (by rw [FU_def]; show 7 - _ < _; omega)
  · obtain ⟨q, e, u1, rfl, h1, h2⟩ := key
    exact ⟨u1, e, h1, h2⟩
  · rintro a ⟨i, u1, rfl, hi, h1, h2⟩
    unfold f_X2_run_b16
    by_cases q : 7 ≤ i
    · left
      refine ⟨.inr u1, ?_, u1, rfl, h1, fun q hq => h2 q (by omega)⟩
      rw [if_pos (show (7 : Int32) ≤ nI i from nI_le (a := 7) q (by omega))]
    · right
      refine ⟨(nI (i + 1), up u1 23 i 0), ?_, ⟨i + 1, up u1 23 i 0, rfl, by omega, fun k hk => by rw [up_o hk]; exact h1 k hk, fun q hq => ?_⟩, ?_⟩
      · rw [if_neg (show ¬ (7 : Int32) ≤ nI i from nI_ge (b := 7) (by omega) (by omega))]
        show chk 7 (nI i) _ = _
        rw [chkN (by omega) (by omega), cl_nI (by omega), nI_1]
      · by_cases z : q = i
        · rw [z]; simp (disch := omega) only [up_s, up_o, upd_s, upd_o]
        · simp (disch := omega) only [up_s, up_o, upd_s, upd_o]
          exact h2 q (by omega)
      · show 7 - (nI (i + 1)).toNatClampNeg < 7 - (nI i).toNatClampNeg
        rw [cl_nI (by omega), cl_nI (by omega)]
        omega
theorem M_zt {u : St} : ∃ u1, loopF f_X7_run_b43 FU (0, u) = some (.inr u1) ∧ (∀ k, k ≠ 32 → u1 k = u k) ∧ ∀ q, q < 7 → u1 32 q = 0 := by
  have key := loopF_rule (body := f_X7_run_b43) (fun a => ∃ i u1, a = (nI i, u1) ∧ i ≤ 7 ∧ (∀ k, k ≠ 32 → u1 k = u k) ∧ ∀ q, q < i → u1 32 q = 0) (fun a => 7 - a.1.toNatClampNeg) (fun p => ∃ u1, p = .inr u1 ∧ (∀ k, k ≠ 32 → u1 k = u k) ∧ ∀ q, q < 7 → u1 32 q = 0) ?_ FU (0, u) ⟨0, u, rfl, by omega, fun _ _ => rfl, fun q hq => by omega⟩ (by rw [FU_def]; show 7 - _ < _; omega)
  · obtain ⟨q, e, u1, rfl, h1, h2⟩ := key
    exact ⟨u1, e, h1, h2⟩
  · rintro a ⟨i, u1, rfl, hi, h1, h2⟩
    unfold f_X7_run_b43
    by_cases q : 7 ≤ i
    · left
      refine ⟨.inr u1, ?_, u1, rfl, h1, fun q hq => h2 q (by omega)⟩
      rw [if_pos (show (7 : Int32) ≤ nI i from nI_le (a := 7) q (by omega))]
    · right
      refine ⟨(nI (i + 1), up u1 32 i 0), ?_, ⟨i + 1, up u1 32 i 0, rfl, by omega, fun k hk => by rw [up_o hk]; exact h1 k hk, fun q hq => ?_⟩, ?_⟩
      · rw [if_neg (show ¬ (7 : Int32) ≤ nI i from nI_ge (b := 7) (by omega) (by omega))]
        show chk 7 (nI i) _ = _
        rw [chkN (by omega) (by omega), cl_nI (by omega), nI_1]
      · by_cases z : q = i
        · rw [z]; simp (disch := omega) only [up_s, up_o, upd_s, upd_o]
        · simp (disch := omega) only [up_s, up_o, upd_s, upd_o]
          exact h2 q (by omega)
      · show 7 - (nI (i + 1)).toNatClampNeg < 7 - (nI i).toNatClampNeg
        rw [cl_nI (by omega), cl_nI (by omega)]
        omega
theorem M_runN {v : St} (h : ¬ v 7 0 = 0) : f_X7_run_j132 v = some (v 7 0, v) ∧ f_X7_run_j121 v = some (v 7 0, v) ∧ f_X7_run_j110 v = some (v 7 0, v) ∧ f_X7_run_j99 v = some (v 7 0, v) ∧ f_X7_run_j88 v = some (v 7 0, v) ∧ f_X7_run_j77 v = some (v 7 0, v) := by
  unfold f_X7_run_j77 f_X7_run_j88 f_X7_run_j99 f_X7_run_j110 f_X7_run_j121 f_X7_run_j132 f_X7_run_j161
  simp only [if_neg h, and_self]
/-- what a judging leaves -/
def RES (u v u1 v1 : St) (r : Nat) : Prop := r < 29 ∧ u1 2 0 = nI r ∧ v1 7 0 = nI r ∧ (r ≠ 0 → u1 3 0 = v1 8 0) ∧ FX u u1 ∧ FM (up v 2 0 1) v1 ∧ ∀ i, i < 7 → u1 23 i = v1 32 i
theorem st_run {u v : St} {b : Nat → Nat} {n : Nat} (hE : EV u v b n) : ∃ r u1 v1, f_X2_run u = some (nI r, u1) ∧ f_X7_run v = some (nI r, v1) ∧ RES u v u1 v1 r := by
  have n10 : ¬ (1 : Int32) = 0 := by decide
  have c0 : ∀ {α : Type} {x : Option α}, chk 7 0 x = x := fun {α x} => chkN (k := 0) (by omega) (by omega)
  have cz : Int32.toNatClampNeg 0 = 0 := rfl
  have hEv : EV u (up v 2 0 1) b n := hE
  obtain ⟨u2, x1, x2, x3⟩ := X_zt (u := up (up (up (up (up (up (up u 2 0 0) 3 0 0) 4 0 0) 5 0 (u 1 0)) 6 0 1) 7 0 (u 1 0)) 8 0 0)
  obtain ⟨v2, m1, m2, m3⟩ := M_zt (u := up (up (up (up (up (up (up v 2 0 1) 7 0 0) 3 0 0) 4 0 (v 0 0)) 5 0 1) 6 0 (v 0 0)) 9 0 0)
  have h0 : JS True u (up v 2 0 1) n 0 n 1 n u2 v2 := by
    refine ⟨⟨?_, ?_, ?_, ?_, ?_⟩, ⟨?_, ?_, ?_, ?_, ?_, ?_, ?_, ?_, ?_, ?_⟩, ⟨?_, ?_, ?_, ?_, ?_, ?_, ?_, ?_, ?_, ?_, by omega, by omega, by omega, by omega⟩, fun i i1 i2 => ?_, fun _ => ?_⟩
    · rw [x2 0 (by omega)]; rfl
    · rw [x2 1 (by omega)]; rfl
    · rw [x2 20 (by omega)]; rfl
    · rw [x2 21 (by omega)]; rfl
    · rw [x2 22 (by omega)]; rfl
    · rw [m2 0 (by omega)]; rfl
    · rw [m2 1 (by omega)]; rfl
    · rw [m2 2 (by omega)]; rfl
    · rw [m2 30 (by omega)]; rfl
    · rw [m2 31 (by omega)]; rfl
    · rw [m2 41 (by omega)]; rfl
    · rw [m2 42 (by omega)]; rfl
    · rw [m2 43 (by omega)]; rfl
    · rw [m2 44 (by omega)]; rfl
    · rw [m2 45 (by omega)]; rfl
    · rw [x2 4 (by omega)]; rfl
    · rw [x2 5 (by omega)]; exact hE.2.2.2.1
    · rw [x2 6 (by omega)]; rfl
    · rw [x2 7 (by omega)]; exact hE.2.2.2.1
    · rw [m2 3 (by omega)]; rfl
    · rw [m2 4 (by omega)]; exact hE.2.2.2.2
    · rw [m2 5 (by omega)]; rfl
    · rw [m2 6 (by omega)]; exact hE.2.2.2.2
    · rw [m2 7 (by omega)]; rfl
    · rw [x2 2 (by omega)]; rfl
    · rw [x3 i i2, m3 i i2]
    · rw [m3 0 (by omega), x2 8 (by omega)]; rfl
  have h8 : u2 8 0 = 0 := by rw [x2 8 (by omega)]; rfl
  have errX : ∀ {u1 v1 : St}, EE True u (up v 2 0 1) u1 v1 → f_X2_run_j111 u1 = some (v1 7 0, up u1 23 0 (u1 8 0)) := by
    intro u1 v1 h
    unfold f_X2_run_j111 f_X2_run_j112 f_X2_run_j164
    rw [c0, if_pos rfl, cz]
    show some (u1 2 0, _) = _
    rw [h.2.2.2.1]
  have errR : ∀ {u1 v1 : St}, EE True u (up v 2 0 1) u1 v1 → ∃ r, v1 7 0 = nI r ∧ RES u v (up u1 23 0 (u1 8 0)) v1 r := by
    intro u1 v1 h
    obtain ⟨r, r1, r2⟩ := h.2.2.2.2.2.2
    refine ⟨r, r2, r1, h.2.2.2.1.trans r2, r2, fun _ => h.2.2.2.2.1, h.1, h.2.1, fun i hi => ?_⟩
    by_cases z : i = 0
    · rw [z]; simp (disch := omega) only [up_s, up_o, upd_s, upd_o]; exact (h.2.2.2.2.2.1.2 trivial).symm
    · simp (disch := omega) only [up_s, up_o, upd_s, upd_o]
      exact h.2.2.2.2.2.1.1 i (by omega) hi
  have fin : ∀ {u1 v1 : St}, EE True u (up v 2 0 1) u1 v1 → ∀ {X M : Option (Int32 × St)}, X = f_X2_run_j111 u1 → M = some (v1 7 0, v1) → ∃ r u1 v1, X = some (nI r, u1) ∧ M = some (nI r, v1) ∧ RES u v u1 v1 r := by
    intro u1 v1 h X M hX hM
    obtain ⟨r, r1, r2⟩ := errR h
    exact ⟨r, _, _, by rw [hX, errX h, r1], by rw [hM, r1], r2⟩
  unfold f_X2_run f_X5_restart f_X5_release f_X4_forget f_X7_run
  simp only [Option.bind_some]
  have x1' : loopF f_X2_run_b16 FU (0, up (up (up (up (up (up (up u 2 0 0) 3 0 0) 4 0 0) 5 0 ((up (up (up u 2 0 0) 3 0 0) 4 0 0) 1 0)) 6 0 1) 7 0 ((up (up (up u 2 0 0) 3 0 0) 4 0 0) 1 0)) 8 0 0) = some (.inr u2) := x1
  rw [bd_some x1', bd_some m1]
  simp only [Sum.elim_inr]
  obtain ⟨r, u3, v3, e1, e2, hr⟩ := st_head hEv h0
  rcases hr with ⟨rfl, h3, h38⟩ | ⟨rfl, h3⟩
  rotate_left
  · have hN := M_runN h3.n
    refine fin h3 ?_ ?_
    · simp only [e1, Option.bind_some, if_true]
    · simp only [e2, Option.bind_some, h3.nz, if_false, hN.2.2.2.2.2]
  rw [h8] at h38
  obtain ⟨r, u4, v4, e3, e4, hr⟩ := st_pool hEv h3 h38
  rcases hr with ⟨rfl, N, pos, h4, hPO, hp10⟩ | ⟨rfl, h4⟩
  rotate_left
  · have hN := M_runN h4.n
    refine fin h4 ?_ ?_
    · simp only [e1, e3, Option.bind_some, if_neg n10, if_true]
    · simp only [e2, e4, Option.bind_some, h3.r0, if_true, hN.2.2.2.2.2]
  obtain ⟨kd, pl, hP4⟩ := hPO.pq
  obtain ⟨v5, e5, hr⟩ := st_check hEv h4 hP4
  rcases hr with ⟨e6, e7, rfl⟩ | ⟨e6, u5, e7, h5⟩ | ⟨u5, e6, h5⟩
  rotate_left
  · have hN := M_runN h5.n
    refine fin h5 ?_ ?_
    · simp only [e1, e3, e6, e7, Option.bind_some, if_neg n10, if_true]
    · unfold f_X7_run_j77
      simp only [e2, e4, e5, Option.bind_some, h3.r0, h4.r0, if_true, hN.2.2.2.2.1]
  · have hN := M_runN h5.n
    refine fin h5 ?_ ?_
    · simp only [e1, e3, e6, Option.bind_some, if_neg n10, if_true]
    · unfold f_X7_run_j77
      simp only [e2, e4, e5, Option.bind_some, h3.r0, h4.r0, if_true, hN.2.2.2.2.1]
  rcases st_class hEv h4 hP4 with ⟨u6, v6, e8, e9, h6, hP6⟩ | ⟨u6, v6, e8, e9, h6⟩
  rotate_left
  · have hN := M_runN h6.n
    refine fin h6 ?_ ?_
    · simp only [e1, e3, e6, e7, e8, Option.bind_some, if_neg n10, if_true]
    · unfold f_X7_run_j77 f_X7_run_j88
      simp only [e2, e4, e5, e9, Option.bind_some, h3.r0, h4.r0, if_true, hN.2.2.2.1]
  obtain ⟨r, u7, v7, e10, e11, hr⟩ := st_ifs hEv h6 hP6
  rw [e11] at e9
  rcases hr with ⟨rfl, pos7, hp7, h7, hP7⟩ | ⟨rfl, h7⟩
  rotate_left
  · have hN := M_runN h7.n
    refine fin h7 ?_ ?_
    · simp only [e1, e3, e6, e7, e8, e10, Option.bind_some, if_neg n10, if_true]
    · unfold f_X7_run_j77 f_X7_run_j88
      simp only [e2, e4, e5, e9, Option.bind_some, h3.r0, h4.r0, if_true, hN.2.2.2.1]
  obtain ⟨r, u8, v8, e12, e13, hr⟩ := st_fields hEv h7 hP7 (by omega)
  rcases hr with ⟨rfl, pos8, hp8, h8', hP8⟩ | ⟨rfl, h8'⟩
  rotate_left
  · have hN := M_runN h8'.n
    refine fin h8' ?_ ?_
    · simp only [e1, e3, e6, e7, e8, e10, e12, Option.bind_some, if_neg n10, if_true]
    · unfold f_X7_run_j77 f_X7_run_j88 f_X7_run_j99
      simp only [e2, e4, e5, e9, e13, Option.bind_some, h3.r0, h4.r0, h7.r0, if_true, hN.2.2.1]
  obtain ⟨r, u9, v9, e14, e15, hr⟩ := st_methods hEv h8' hP8 (by omega)
  rcases hr with ⟨rfl, pos9, hp9, h9, hP9⟩ | ⟨rfl, h9⟩
  rotate_left
  · have hN := M_runN h9.n
    refine fin h9 ?_ ?_
    · simp only [e1, e3, e6, e7, e8, e10, e12, e14, Option.bind_some, if_neg n10, if_true]
    · unfold f_X7_run_j77 f_X7_run_j88 f_X7_run_j99 f_X7_run_j110
      simp only [e2, e4, e5, e9, e13, e15, Option.bind_some, h3.r0, h4.r0, h7.r0, h8'.r0, if_true, hN.2.1]
  obtain ⟨r, ua, va, e16, e17, hr⟩ := st_attrs hEv h9 hP9
  rcases hr with ⟨rfl, posa, hpa, ha, -, -⟩ | ⟨rfl, ha⟩
  rotate_left
  · have hN := M_runN ha.n
    refine fin ha ?_ ?_
    · simp only [e1, e3, e6, e7, e8, e10, e12, e14, e16, Option.bind_some, if_neg n10, if_true]
    · unfold f_X7_run_j77 f_X7_run_j88 f_X7_run_j99 f_X7_run_j110 f_X7_run_j121
      simp only [e2, e4, e5, e9, e13, e15, e17, Option.bind_some, h3.r0, h4.r0, h7.r0, h8'.r0, h9.r0, if_true, hN.1]
  -- the end
  unfold f_X7_run_j77 f_X7_run_j88 f_X7_run_j99 f_X7_run_j110 f_X7_run_j121 f_X7_run_j132 f_X7_run_j161 f_X2_run_j112 f_X2_run_j164
  simp only [e1, e3, e6, e7, e8, e10, e12, e14, e16, e2, e4, e5, e9, e13, e15, e17, Option.bind_some, h3.r0, h4.r0, h7.r0, h8'.r0, h9.r0, ha.r0, if_true, if_neg n10, c0, cz, X_broken, M_fail ha.z]
  have u1n : ua 1 0 = nI n := by rw [ha.1.2.1]; exact hE.2.2.2.1
  have v0n : va 0 0 = nI n := by rw [ha.2.1.1]; exact hE.2.2.2.2
  have u4 := ha.2.2.1.1
  have v3' := ha.2.2.1.2.2.2.2.1
  have hpn := ha.2.2.1.2.2.2.2.2.2.2.2.2.2.1
  have hn := hE.1.1
  have tl : ∀ i, i < 7 → (up ua 23 0 (ua 8 0)) 23 i = va 32 i := by
    intro i hi
    by_cases z : i = 0
    · rw [z]; simp (disch := omega) only [up_s, up_o, upd_s, upd_o]; exact (ha.2.2.2.2 trivial).symm
    · simp (disch := omega) only [up_s, up_o, upd_s, upd_o]
      exact ha.2.2.2.1 i (by omega) hi
  simp only [u1n, v0n, u4, v3']
  simp (disch := omega) only [leN]
  by_cases q : n ≤ posa
  · simp only [if_pos q]
    exact ⟨0, up ua 23 0 (ua 8 0), va, by rw [show (up ua 23 0 (ua 8 0)) 2 0 = ua 2 0 from rfl, ha.2.2.1.2.2.2.2.2.2.2.2.2.1]; rfl, by rw [ha.z]; rfl, by omega, ha.2.2.1.2.2.2.2.2.2.2.2.2.1, ha.z, fun z => absurd rfl z, ha.1, ha.2.1, tl⟩
  · simp only [if_neg q]
    exact ⟨28, _, _, rfl, rfl, by omega, rfl, rfl, fun _ => rfl, ha.1, ha.2.1, tl⟩
