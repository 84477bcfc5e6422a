/-- the states of class and reference between two calls -/
def RR (u v : St) : Prop := ∃ b n, EV u v b n ∧ u 0 0 = v 1 0 ∧ (∀ i, i < 29 → u 20 i = v 31 i) ∧ (∀ i, i < 7 → u 23 i = v 32 i) ∧ ∃ r, r < 29 ∧ u 2 0 = nI r ∧ v 7 0 = nI r ∧ (r ≠ 0 → u 3 0 = v 8 0 ∧ ¬ v 2 0 = 0)
theorem op_place {u v : St} (h : RR u v) : ∃ r, f_X6_place u = some r ∧ f_X7_place v = some r := by
  obtain ⟨b, n, -, -, -, -, r, h1, h2, h3, h4⟩ := h
  unfold f_X6_place f_X6_place_j27 f_X7_place f_X7_place_j14 f_X7_place_j22
  rw [h2, h3]
  by_cases q : r = 0
  · subst q
    rw [if_pos (show nI 0 = 0 from rfl)]
    exact ⟨-1, rfl, by rw [if_pos (show nI 0 = 0 from rfl), ite_self]⟩
  · obtain ⟨h5, h6⟩ := h4 q
    rw [if_neg (nI_nz q (by omega)), if_neg h6, if_neg (nI_nz q (by omega)), h5]
    exact ⟨_, rfl, rfl⟩
theorem op_clear {u v : St} (h : RR u v) : ∃ r u2 v2, f_X6_clear u = some (r, u2) ∧ f_X7_clear v = some (r, v2) ∧ RR u2 v2 := by
  obtain ⟨b, n, ⟨h1, h2, h3, h4, h5⟩, h6, h7, h8, h9⟩ := h
  unfold f_X6_clear f_X7_clear
  rw [h4, h5]
  exact ⟨nI n, _, _, rfl, rfl, b, 0, ⟨⟨by omega, fun i hi => by omega⟩, ⟨by omega, fun i hi => by omega⟩, h3, rfl, rfl⟩, h6, h7, h8, h9⟩
theorem RES.rr {u v u1 v1 : St} {r n : Nat} {b : Nat → Nat} (hE : EV u v b n) (h0 : u 0 0 = v 1 0) (h1 : ∀ i, i < 29 → u 20 i = v 31 i) (h : RES u v u1 v1 r) : RR u1 v1 := by
  obtain ⟨g1, g2, g3, g4, g5, g6, g7⟩ := h
  have hEv : EV u (up v 2 0 1) b n := hE
  refine ⟨b, n, ⟨hEv.bx g5, hEv.bm g6, hEv.cm g6, by rw [g5.2.1]; exact hE.2.2.2.1, by rw [g6.1]; exact hE.2.2.2.2⟩, ?_, fun i hi => ?_, g7, r, g1, g2, g3, fun z => ⟨g4 z, ?_⟩⟩
  · rw [g5.1, g6.2.1]; exact h0
  · rw [g5.2.2.1, g6.2.2.2.2.1]; exact h1 i hi
  · rw [g6.2.2.1]
    show ¬ (1 : Int32) = 0
    decide
/-- a judging from related states -/
theorem op_run {u v : St} (h : RR u v) : ∃ r u1 v1, r < 29 ∧ f_X2_run u = some (nI r, u1) ∧ f_X7_run v = some (nI r, v1) ∧ RR u1 v1 ∧ u1 1 = u 1 ∧ v1 0 = v 0 ∧ u1 22 = u 22 ∧ v1 30 = v 30 ∧ u1 21 = u 21 ∧ v1 45 = v 45 := by
  obtain ⟨b, n, hE, h1, h2, h3, h4⟩ := h
  obtain ⟨r, u1, v1, e1, e2, hr⟩ := st_run hE
  exact ⟨r, u1, v1, hr.1, e1, e2, hr.rr hE h1 h2, hr.2.2.2.2.1.2.1, hr.2.2.2.2.2.1.1, hr.2.2.2.2.1.2.2.2.2, hr.2.2.2.2.2.1.2.2.2.1, hr.2.2.2.2.1.2.2.2.1, hr.2.2.2.2.2.1.2.2.2.2.2.2.2.2.2⟩
theorem op_judge {u v : St} (h : RR u v) : ∃ r u2 v2, f_X6_judge u = some (r, u2) ∧ f_X7_judge v = some (r, v2) ∧ RR u2 v2 := by
  obtain ⟨r, u1, v1, hr, e1, e2, h1, -⟩ := op_run h
  unfold f_X6_judge f_X7_judge
  simp only [e1, e2, Option.bind_some, chkN hr (show 29 < 2 ^ 31 by omega), cl_nI (show r < 2 ^ 31 by omega)]
  refine ⟨_, _, _, rfl, rfl, ?_⟩
  obtain ⟨b, n, hE, g1, g2, g3, g4⟩ := h1
  refine ⟨b, n, hE, ?_, fun i hi => ?_, g3, g4⟩
  · show u1 0 0 + 1 = v1 1 0 + 1
    rw [g1]
  · by_cases z : i = r
    · rw [z]
      simp (disch := omega) only [up_s, up_o, upd_s, upd_o]
      rw [g2 r hr]
    · simp (disch := omega) only [up_s, up_o, upd_s, upd_o]
      exact g2 i hi
theorem sub_ti {a j : Nat} (ha : a ≤ 400) (hj : j < 2 ^ 31) : (nI a - nI j).toInt = (a : Int) - j := by
  rw [Int32.toInt_sub, nI_toInt (by omega), nI_toInt hj]
  exact Int.bmod_eq_of_le (by omega) (by omega)
/-- bytes that are there -/
theorem X_holds {u : St} {n : Nat} (hn : n ≤ 400) (h1 : u 1 0 = nI n) (p0 p1 : Int32) : f_X1_holds p0 p1 u = some (bI (0 ≤ p0.toInt ∧ p1.toInt ≤ n - p0.toInt)) := by
  unfold f_X1_holds f_X1_holds_j18 f_X1_holds_j19
  rw [h1]
  simp only [bchk_0, bchk_1]
  by_cases q : p0 < 0
  · have : p0.toInt < 0 := Int32.lt_iff_toInt_lt.mp q
    rw [if_pos q, bI_f (fun z => by omega)]
  · have q' : ¬ p0.toInt < 0 := fun z => q (Int32.lt_iff_toInt_lt.mpr z)
    obtain ⟨j, hj, rfl⟩ := nI_of q
    rw [if_neg q]
    have e : (nI n - nI j < p1) ↔ (n : Int) - j < p1.toInt := by
      rw [Int32.lt_iff_toInt_lt, sub_ti hn hj]
    rw [nI_toInt hj] at q' ⊢
    by_cases z : (n : Int) - j < p1.toInt
    · rw [if_pos (e.mpr z), bI_f (fun y => by omega)]
    · rw [if_neg (fun y => z (e.mp y)), bI_t ⟨by omega, by omega⟩]
theorem M_missing {v : St} {n : Nat} (hn : n ≤ 400) (h1 : v 0 0 = nI n) (p0 p1 : Int32) : f_X7_missing p0 p1 v = some (bI (¬ (0 ≤ p0.toInt ∧ 1 ≤ p1.toInt ∧ p0.toInt ≤ n - p1.toInt))) := by
  unfold f_X7_missing f_X7_missing_j19 f_X7_missing_j24
  rw [h1]
  simp only [bchk_0, bchk_1]
  by_cases q : p0 < 0
  · have : p0.toInt < 0 := Int32.lt_iff_toInt_lt.mp q
    rw [if_pos q, bI_t (fun z => by omega)]
  · have q' : ¬ p0.toInt < 0 := fun z => q (Int32.lt_iff_toInt_lt.mpr z)
    rw [if_neg q]
    by_cases q1 : p1 < 1
    · have : p1.toInt < 1 := Int32.lt_iff_toInt_lt.mp q1
      rw [if_pos q1, bI_t (fun z => by omega)]
    · have q1' : ¬ p1.toInt < 1 := fun z => q1 (Int32.lt_iff_toInt_lt.mpr z)
      obtain ⟨j, hj, rfl⟩ := nI_of (show ¬ p1 < 0 from fun z => by have : p1.toInt < 0 := Int32.lt_iff_toInt_lt.mp z; omega)
      rw [if_neg q1]
      have e : (p0 ≤ nI n - nI j) ↔ p0.toInt ≤ (n : Int) - j := by
        rw [Int32.le_iff_toInt_le, sub_ti hn hj]
      rw [nI_toInt hj] at q1' ⊢
      by_cases z : p0.toInt ≤ (n : Int) - j
      · rw [if_pos (e.mpr z), bI_f (fun y => y ⟨by omega, by omega, z⟩)]
      · rw [if_neg (fun y => z (e.mp y)), bI_t (fun y => z y.2.2)]
theorem ix_cases (p0 : Int32) {n : Nat} (hn : n ≤ 400) : (p0 < 0 ∧ ¬ (0 ≤ p0.toInt ∧ (1 : Int) ≤ n - p0.toInt)) ∨ (¬ p0 < 0 ∧ ¬ p0 < nI n ∧ ¬ (0 ≤ p0.toInt ∧ (1 : Int) ≤ n - p0.toInt)) ∨ (∃ j, j < n ∧ p0 = nI j ∧ ¬ p0 < 0 ∧ p0 < nI n ∧ (0 ≤ p0.toInt ∧ (1 : Int) ≤ n - p0.toInt)) := by
  by_cases q : p0 < 0
  · have : p0.toInt < 0 := Int32.lt_iff_toInt_lt.mp q
    exact Or.inl ⟨q, fun z => by omega⟩
  · obtain ⟨j, hj, rfl⟩ := nI_of q
    have e := nI_ltI (a := j) (b := n) hj (by omega)
    rw [nI_toInt hj]
    by_cases z : j < n
    · exact Or.inr (Or.inr ⟨j, z, rfl, q, e.mpr z, by omega, by omega⟩)
    · exact Or.inr (Or.inl ⟨q, fun y => z (e.mp y), fun y => by omega⟩)
theorem op_at {u v : St} (h : RR u v) (a0 : Int32) : ∃ r, f_X6_at a0 u = some r ∧ f_X7_at a0 v = some r := by
  obtain ⟨b, n, ⟨h1, h2, h3, h4, h5⟩, -⟩ := h
  have hn := h1.1
  unfold f_X6_at f_X6_at_j25 f_X7_at f_X7_at_j12 f_X7_at_j22
  rw [h5, bd_some (X_holds hn h4 a0 1)]
  rcases ix_cases a0 hn with ⟨q, c⟩ | ⟨q, q2, c⟩ | ⟨j, hj, rfl, q, q2, c⟩
  · have c' : ¬ (0 ≤ a0.toInt ∧ (1 : Int32).toInt ≤ n - a0.toInt) := c
    rw [if_pos (bI_0.mpr c'), if_pos q]
    exact ⟨_, rfl, rfl⟩
  · have c' : ¬ (0 ≤ a0.toInt ∧ (1 : Int32).toInt ≤ n - a0.toInt) := c
    rw [if_pos (bI_0.mpr c'), if_neg q, if_neg q2]
    exact ⟨_, rfl, rfl⟩
  · have c' : 0 ≤ (nI j).toInt ∧ (1 : Int32).toInt ≤ n - (nI j).toInt := c
    rw [if_neg (fun z => bI_0.mp z c'), if_neg q, if_pos q2, chkN (by omega) (by omega), chkN (by omega) (by omega), cl_nI (by omega), (h1.2 j hj).1, (h2.2 j hj).1]
    exact ⟨_, rfl, rfl⟩
theorem and255 (x : Int32) : ∃ k, k < 256 ∧ x &&& 255 = nI k := pk_andE x 8 (by decide)
/-- one byte is another one -/
theorem EV.set {u v : St} {b : Nat → Nat} {n j k : Nat} (h : EV u v b n) (hk : k < 256) : EV (up u 22 j (nI k)) (up v 30 j (nI k)) (fun i => if i = j then k else b i) n := by
  obtain ⟨h1, h2, h3, h4, h5⟩ := h
  refine ⟨⟨h1.1, fun i hi => ?_⟩, ⟨h2.1, fun i hi => ?_⟩, h3, h4, h5⟩
  · by_cases z : i = j
    · rw [z]
      simp only [if_true]
      exact ⟨by simp (disch := omega) only [up_s, up_o, upd_s, upd_o], hk⟩
    · simp only [if_neg z]
      exact ⟨by simp (disch := omega) only [up_s, up_o, upd_s, upd_o]; exact (h1.2 i hi).1, (h1.2 i hi).2⟩
  · by_cases z : i = j
    · rw [z]
      simp only [if_true]
      exact ⟨by simp (disch := omega) only [up_s, up_o, upd_s, upd_o], hk⟩
    · simp only [if_neg z]
      exact ⟨by simp (disch := omega) only [up_s, up_o, upd_s, upd_o]; exact (h2.2 i hi).1, (h2.2 i hi).2⟩
theorem op_patch {u v : St} (h : RR u v) (a0 a1 : Int32) : ∃ r u2 v2, f_X6_patch a0 a1 u = some (r, u2) ∧ f_X7_patch a0 a1 v = some (r, v2) ∧ RR u2 v2 := by
  obtain ⟨b, n, hE, h6, h7, h8, h9⟩ := id h
  obtain ⟨h1, h2, h3, h4, h5⟩ := id hE
  have hn := h1.1
  unfold f_X6_patch f_X7_patch f_X7_patch_j12
  rw [h5, bd_some (X_holds hn h4 a0 1)]
  rcases ix_cases a0 hn with ⟨q, c⟩ | ⟨q, q2, c⟩ | ⟨j, hj, rfl, q, q2, c⟩
  · have c' : ¬ (0 ≤ a0.toInt ∧ (1 : Int32).toInt ≤ n - a0.toInt) := c
    rw [if_pos (bI_0.mpr c'), if_pos q]
    exact ⟨_, _, _, rfl, rfl, h⟩
  · have c' : ¬ (0 ≤ a0.toInt ∧ (1 : Int32).toInt ≤ n - a0.toInt) := c
    rw [if_pos (bI_0.mpr c'), if_neg q, if_neg q2]
    exact ⟨_, _, _, rfl, rfl, h⟩
  · have c' : 0 ≤ (nI j).toInt ∧ (1 : Int32).toInt ≤ n - (nI j).toInt := c
    obtain ⟨k, k1, k2⟩ := and255 a1
    rw [if_neg (fun z => bI_0.mp z c'), if_neg q, if_pos q2, k2]
    simp only [chkN (show j < 400 by omega) (show 400 < 2 ^ 31 by omega), cl_nI (show j < 2 ^ 31 by omega), (h1.2 j hj).1, (h2.2 j hj).1]
    exact ⟨_, _, _, rfl, rfl, _, n, hE.set k1, h6, h7, h8, h9⟩
theorem op_read {u v : St} (h : RR u v) (a0 : Int32) : ∃ r, f_X6_read a0 u = some r ∧ f_X7_read a0 v = some r := by
  obtain ⟨b, n, -, -, -, h8, -⟩ := h
  unfold f_X6_read f_X6_read_j10 f_X7_read f_X7_read_j10 f_X7_read_j20
  by_cases q : a0 < 0
  · rw [if_pos q, if_pos q]
    exact ⟨_, rfl, rfl⟩
  · obtain ⟨j, hj, rfl⟩ := nI_of q
    rw [if_neg q, if_neg q]
    by_cases z : j < 7
    · rw [if_pos (show nI j < 7 from nI_lt (b := 7) z (by omega)), if_pos (show nI j ≤ 6 from nI_le (b := 6) (by omega) (by omega)), chkN z (by omega), chkN z (by omega), cl_nI (by omega), h8 j z]
      exact ⟨_, rfl, rfl⟩
    · rw [if_neg (show ¬ nI j < 7 from nI_nlt (b := 7) (by omega) hj), if_neg (show ¬ nI j ≤ 6 from nI_ge (a := 6) (by omega) hj)]
      exact ⟨_, rfl, rfl⟩
theorem op_found {u v : St} (h : RR u v) (a0 : Int32) : ∃ r, f_X6_found a0 u = some r ∧ f_X7_found a0 v = some r := by
  obtain ⟨b, n, -, -, h7, -⟩ := h
  unfold f_X6_found f_X6_found_j10 f_X6_found_j20 f_X7_found f_X7_found_j10 f_X7_found_j20
  by_cases q : a0 < 0
  · rw [if_pos q, if_pos q]
    exact ⟨_, rfl, rfl⟩
  · obtain ⟨j, hj, rfl⟩ := nI_of q
    rw [if_neg q, if_neg q]
    by_cases z : j < 29
    · rw [if_pos (show nI j ≤ 28 from nI_le (b := 28) (by omega) (by omega)), if_pos (show nI j ≤ 28 from nI_le (b := 28) (by omega) (by omega)), chkN z (by omega), chkN z (by omega), cl_nI (by omega), h7 j z]
      exact ⟨_, rfl, rfl⟩
    · rw [if_neg (show ¬ nI j ≤ 28 from nI_ge (a := 28) (by omega) hj), if_neg (show ¬ nI j ≤ 28 from nI_ge (a := 28) (by omega) hj)]
      exact ⟨_, rfl, rfl⟩
theorem op_count {u v : St} (h : RR u v) (a0 : Int32) : ∃ r, f_X6_count a0 u = some r ∧ f_X7_count a0 v = some r := by
  obtain ⟨b, n, ⟨-, -, -, h4, h5⟩, h6, h7, -⟩ := h
  unfold f_X6_count f_X6_rulesFound f_X7_count
  by_cases q0 : a0 = 0
  · rw [if_pos q0, if_pos q0, h4, h5]
    exact ⟨_, rfl, rfl⟩
  rw [if_neg q0, if_neg q0]
  by_cases q1 : a0 = 1
  · have q2 : ¬ a0 = 2 := by rw [q1]; decide
    rw [if_pos q1, if_neg q2, if_pos q1]
    obtain ⟨p, q, e1, e2, hr⟩ := loop2 (bx := f_X6_rulesFound_b4 u) (bm := f_X7_count_b30 v) (fun k x y => x = y ∧ x.2 = nI (k + 1) ∧ k ≤ 28) (fun p q => ∃ c, p = .inr c ∧ q = .inr c) 28 (by omega) (by
      rintro k ⟨c, i⟩ y ⟨rfl, hi, hk⟩
      have hi : i = nI (k + 1) := hi
      subst hi
      refine ⟨hk, ?_⟩
      unfold f_X6_rulesFound_b4 f_X6_rulesFound_j22_4 f_X7_count_b30 f_X7_count_j48_30
      by_cases z : k = 28
      · subst z
        left
        refine ⟨.inr c, .inr c, ?_, ?_, c, rfl, rfl⟩
        · rw [if_pos (show (28 : Int32) < nI (28 + 1) by decide)]
        · rw [if_pos (show (29 : Int32) ≤ nI (28 + 1) by decide)]
      · right; left
        have e1 : ¬ (28 : Int32) < nI (k + 1) := nI_nlt (a := 28) (by omega) (by omega)
        have e2 : ¬ (29 : Int32) ≤ nI (k + 1) := nI_ge (b := 29) (by omega) (by omega)
        simp only [if_neg e1, if_neg e2, chkN (show k + 1 < 29 by omega) (show 29 < 2 ^ 31 by omega), cl_nI (show k + 1 < 2 ^ 31 by omega), h7 (k + 1) (by omega), nI_1]
        by_cases y : v 31 (k + 1) ≤ 0
        · rw [if_pos y]
          exact ⟨_, _, rfl, rfl, rfl, rfl, by omega⟩
        · rw [if_neg y]
          exact ⟨_, _, rfl, rfl, rfl, rfl, by omega⟩) (x := (0, 1)) (y := (0, 1)) ⟨rfl, rfl, by omega⟩
    obtain ⟨c, rfl, rfl⟩ := hr
    rw [bd_some e1, bd_some e2]
    exact ⟨c, rfl, rfl⟩
  · rw [if_neg q1]
    by_cases q2 : a0 = 2
    · rw [if_pos q2, if_pos q2, h6]
      exact ⟨_, rfl, rfl⟩
    · rw [if_neg q2, if_neg q2, if_neg q1]
      exact ⟨_, rfl, rfl⟩
