theorem shM_s (m : Nat) : nI m - 1 = shM m := by
  cases m with
  | zero => decide
  | succ m => exact pk_sub (a := m + 1) (b := 1) (by omega)
theorem M_keep (a k : Nat) (x3 : Int32) (hk : k ≤ 32) (ha : a + k ≤ 400) : ∀ m i N (v : St), i + m = k → m < N → ∃ v1, loopF (f_X7_without_b3 (nI a) (nI k) x3) N (nI i, v) = some (.inr v1) ∧ (∀ j, j ≠ 45 → v1 j = v j) ∧ (∀ j, j < i → v1 45 j = v 45 j) ∧ ∀ j, i ≤ j → j < k → v1 45 j = v 30 (a + j) := by
  intro m
  induction m with
  | zero =>
    intro i N v h1 h2
    obtain ⟨N, rfl⟩ : ∃ z, N = z + 1 := ⟨N - 1, by omega⟩
    have e : f_X7_without_b3 (nI a) (nI k) x3 (nI i, v) = some (.inl (.inr v)) := by
      unfold f_X7_without_b3
      exact if_pos (show nI k ≤ nI i from nI_le (by omega) (by omega))
    exact ⟨v, by rw [loopF_s e]; rfl, fun _ _ => rfl, fun _ _ => rfl, fun j j1 j2 => by omega⟩
  | succ m ih =>
    intro i N v h1 h2
    obtain ⟨N, rfl⟩ : ∃ z, N = z + 1 := ⟨N - 1, by omega⟩
    have e : f_X7_without_b3 (nI a) (nI k) x3 (nI i, v) = some (.inr (nI (i + 1), up v 45 i (v 30 (a + i)))) := by
      unfold f_X7_without_b3
      show (if nI k ≤ nI i then _ else chk 400 (nI a + nI i) (chk 32 (nI i) (some (Sum.inr (nI i + 1, up v 45 (Int32.toNatClampNeg (nI i)) (v 30 (Int32.toNatClampNeg (nI a + nI i)))))))) = _
      rw [if_neg (nI_ge (by omega) (by omega)), nI_add, chkN (by omega) (by omega), chkN (by omega) (by omega), cl_nI (by omega), cl_nI (by omega), nI_1]
    obtain ⟨v1, f1, f2, f3, f4⟩ := ih (i + 1) N (up v 45 i (v 30 (a + i))) (by omega) (by omega)
    refine ⟨v1, by rw [loopF_s e]; exact f1, fun j j1 => (f2 j j1).trans (up_o j1), fun j hj => ?_, fun j j1 j2 => ?_⟩
    · rw [f3 j (by omega)]
      simp (disch := omega) only [up_s, up_o, upd_s, upd_o]
    · by_cases z : j = i
      · subst z
        rw [f3 j (by omega)]
        simp (disch := omega) only [up_s, up_o, upd_s, upd_o]
      · rw [f4 j (by omega) j2]
        simp (disch := omega) only [up_s, up_o, upd_s, upd_o]
theorem M_back (a k : Nat) (hk : k ≤ 32) (ha : a + k ≤ 400) : ∀ m i N (v : St), i + m = k → m < N → ∃ v1, loopF (f_X7_without_b86 (nI a) (nI k)) N (nI i, v) = some (.inr v1) ∧ (∀ j, j ≠ 30 → v1 j = v j) ∧ (∀ j, j < a + i → v1 30 j = v 30 j) ∧ (∀ j, a + i ≤ j → j < a + k → v1 30 j = v 45 (j - a)) ∧ ∀ j, a + k ≤ j → v1 30 j = v 30 j := by
  intro m
  induction m with
  | zero =>
    intro i N v h1 h2
    obtain ⟨N, rfl⟩ : ∃ z, N = z + 1 := ⟨N - 1, by omega⟩
    have e : f_X7_without_b86 (nI a) (nI k) (nI i, v) = some (.inl (.inr v)) := by
      unfold f_X7_without_b86
      exact if_pos (show nI k ≤ nI i from nI_le (by omega) (by omega))
    exact ⟨v, by rw [loopF_s e]; rfl, fun _ _ => rfl, fun _ _ => rfl, fun j j1 j2 => by omega, fun _ _ => rfl⟩
  | succ m ih =>
    intro i N v h1 h2
    obtain ⟨N, rfl⟩ : ∃ z, N = z + 1 := ⟨N - 1, by omega⟩
    have e : f_X7_without_b86 (nI a) (nI k) (nI i, v) = some (.inr (nI (i + 1), up v 30 (a + i) (v 45 i))) := by
      unfold f_X7_without_b86
      show (if nI k ≤ nI i then _ else chk 32 (nI i) (chk 400 (nI a + nI i) (some (Sum.inr (nI i + 1, up v 30 (Int32.toNatClampNeg (nI a + nI i)) (v 45 (Int32.toNatClampNeg (nI i)))))))) = _
      rw [if_neg (nI_ge (by omega) (by omega)), nI_add, chkN (by omega) (by omega), chkN (by omega) (by omega), cl_nI (by omega), cl_nI (by omega), nI_1]
    obtain ⟨v1, f1, f2, f3, f4, f5⟩ := ih (i + 1) N (up v 30 (a + i) (v 45 i)) (by omega) (by omega)
    refine ⟨v1, by rw [loopF_s e]; exact f1, fun j j1 => (f2 j j1).trans (up_o j1), fun j hj => ?_, fun j j1 j2 => ?_, fun j hj => ?_⟩
    · rw [f3 j (by omega)]
      simp (disch := omega) only [up_s, up_o, upd_s, upd_o]
    · by_cases z : j = a + i
      · subst z
        rw [f3 _ (by omega), show a + i - a = i by omega]
        simp (disch := omega) only [up_s, up_o, upd_s, upd_o]
      · rw [f4 j (by omega) j2]
        simp (disch := omega) only [up_s, up_o, upd_s, upd_o]
    · rw [f5 j (by omega)]
      simp (disch := omega) only [up_s, up_o, upd_s, upd_o]
theorem cchk_a {α : Type} {a s : Nat} {k : Option α} (h : a + s ≤ 400) (hs : s ≤ 32) : cchk (nI a) 0 (nI s) 400 32 k = k := cchkN (d := 0) h (by omega) (by omega) (by omega)
theorem cchk_b {α : Type} {a s : Nat} {k : Option α} (h : a + s ≤ 400) (hs : s ≤ 32) : cchk 0 (nI a) (nI s) 32 400 k = k := cchkN (s := 0) (by omega) h (by omega) (by omega)
/-- one span is taken out, and put back if another rule is broken -/
theorem st_try {u v : St} (h : RR u v) {n a s : Nat} (hn : n ≤ 400) (hu : u 1 0 = nI n) (hv : v 0 0 = nI n) (hs : s ≤ 32) (ha : a + s ≤ n) (x1 y1 x2 : Int32) : ∃ u2 v2, f_X6_shrink_b41 x1 x2 (nI s) (nI a, u) = some (.inr (nI a + (-1), u2)) ∧ f_X7_shrink_b31 y1 x2 (nI s) (nI a, v) = some (.inr (nI a + (-1), v2)) ∧ RR u2 v2 := by
  obtain ⟨b, n', hE, -⟩ := id h
  obtain ⟨h1, h2, -, h4, h5⟩ := id hE
  have en : n' = n := by
    have : nI n' = nI n := h4.symm.trans hu
    exact (nI_eq (by have := h1.1; omega) (by omega)).mp this
  subst en
  -- taken out
  obtain ⟨ua, a1, a2, a3, a4, a5⟩ := X_close (u := upA u 21 (va_cpy (u 22) (u 21) a 0 s)) (a := a) (k := s) hn hu ha
  obtain ⟨vk, k1, k2, k3, k4⟩ := M_keep a s x2 hs (by omega) s 0 FU v (by omega) (by rw [FU_def]; omega)
  have k1 : loopF (f_X7_without_b3 (nI a) (nI s) x2) FU (0, v) = some (.inr vk) := k1
  have vk0 : vk 0 0 = nI n' := by rw [k2 0 (by omega)]; exact hv
  obtain ⟨va, g1, g2, g3, g4, g5⟩ := M_take (v := vk) (a := a) (k := s) hn vk0 ha
  have hra : RR ua va := by
    refine h.new (b := b) (n := n') (b1 := fun i => if i < a then b i else b (i + s)) (fun j j1 j2 j3 => ?_) (fun j j1 j2 j3 => ?_) a3 g3 (by omega) (fun i hi => ?_)
    · rw [a2 j j1 j2, upA_o j3]
    · rw [g2 j j1 j2, k2 j j3]
    · by_cases z : i < a
      · simp only [if_pos z]
        rw [a4 i z, g4 i z, upA_o (by omega), k2 30 (by omega)]
        exact ⟨(h1.2 i (by omega)).1, (h2.2 i (by omega)).1, (h1.2 i (by omega)).2⟩
      · simp only [if_neg z]
        rw [a5 i (by omega) hi, g5 i (by omega) hi, upA_o (by omega), k2 30 (by omega)]
        exact ⟨(h1.2 _ (by omega)).1, (h2.2 _ (by omega)).1, (h1.2 _ (by omega)).2⟩
  -- judged
  obtain ⟨r, u1, v1, -, e1, e2, hr, r1, r2, r3, r4, r5, r6⟩ := op_run hra
  -- put back
  have u10 : u1 1 0 = nI (n' - s) := by rw [r1]; exact a3
  have v10 : v1 0 0 = nI (n' - s) := by rw [r2]; exact g3
  obtain ⟨ub, b1, b2', b3, b4, b5⟩ := X_gap (u := u1) (a := a) (k := s) u10 (by omega) (by omega)
  obtain ⟨vc, c1, c2, c3, c4, -⟩ := M_up a s (n' - s - a) FU v1 (by omega) (by rw [FU_def]; omega)
  obtain ⟨vd, d1, d2, d3, d4, d5⟩ := M_back a s hs (by omega) s 0 FU vc (by omega) (by rw [FU_def]; omega)
  have c1 : loopF (f_X7_without_b55 (nI a) (nI s)) FU (v1 0 0 - 1, v1) = some (.inr vc) := by
    rw [v10, shM_s, show n' - s = a + (n' - s - a) by omega]
    exact c1
  have d1 : loopF (f_X7_without_b86 (nI a) (nI s)) FU (0, vc) = some (.inr vd) := d1
  have vd0 : vd 0 0 + nI s = nI n' := by
    rw [d2 0 (by omega), c2 0 (by omega), v10, nI_add]
    congr 1
    omega
  have hX : f_X6_shrink_b41 x1 x2 (nI s) (nI a, u) = if nI r = x2 then some (.inr (nI a + (-1), u1)) else some (.inr (nI a + (-1), upA ub 22 (va_cpy (ub 21) (ub 22) 0 a s))) := by
    have c0 : Int32.toNatClampNeg 0 = 0 := rfl
    have hc : 0 ≤ (nI a).toInt ∧ (nI s).toInt ≤ n' - (nI a).toInt := by
      rw [nI_toInt (by omega), nI_toInt (by omega)]
      omega
    unfold f_X6_shrink_b41 f_X6_shrink_j129_41
    simp only [if_neg (nI_pos (show a < 2 ^ 31 by omega)), X_holds hn hu (nI a) (nI s), Option.bind_some, if_neg (fun z => bI_0.mp z hc), cchk_a (show a + s ≤ 400 by omega) hs, cchk_b (show a + s ≤ 400 by omega) hs, cl_nI (show a < 2 ^ 31 by omega), cl_nI (show s < 2 ^ 31 by omega), c0, a1, e1, b1]
  have hM : f_X7_shrink_b31 y1 x2 (nI s) (nI a, v) = if nI r = x2 then some (.inr (nI a + (-1), v1)) else some (.inr (nI a + (-1), up vd 0 0 (nI n'))) := by
    unfold f_X7_shrink_b31 f_X7_shrink_j56_31 f_X7_without
    simp only [if_neg (nI_pos (show a < 2 ^ 31 by omega)), hv, nI_add, if_neg (nI_nlt (show a + s ≤ n' from ha) (show n' < 2 ^ 31 by omega)), k1, g1, e2, Option.bind_some, Sum.elim_inr, c1, d1, vd0]
    by_cases q : nI r = x2
    · simp only [if_pos q, Option.bind_some]
    · simp only [if_neg q, Option.bind_some]
  rw [hX, hM]
  by_cases q : nI r = x2
  · rw [if_pos q, if_pos q]
    exact ⟨u1, v1, rfl, rfl, hr⟩
  · rw [if_neg q, if_neg q]
    refine ⟨_, _, rfl, rfl, hr.new (b := b) (n := n') (b1 := b) (n1 := n') (fun j j1 j2 _ => ?_) (fun j j1 j2 _ => ?_) ?_ rfl hn (fun i hi => ?_)⟩
    · rw [upA_o j2, b2' j j1 j2]
    · rw [up_o j1, d2 j j2, c2 j j2]
    · rw [upA_o (by omega), b3]
      congr 1
      omega
    · rw [upA_s, up_o (by omega)]
      refine ⟨?_, ?_, (h1.2 i hi).2⟩
      · by_cases z : i < a
        · rw [pk_cpy_out (by omega), b4 i (by omega), r3, a4 i z, upA_o (by omega)]
          exact (h1.2 i hi).1
        · by_cases y : i < a + s
          · rw [pk_cpy_in (by omega) y, b2' 21 (by omega) (by omega), r5, a2 21 (by omega) (by omega), upA_s, pk_cpy_in (by omega) (by omega), show a + (0 + (i - a) - 0) = i by omega]
            exact (h1.2 i hi).1
          · rw [pk_cpy_out (by omega), b5 i (by omega) (by omega), r3, a5 _ (by omega) (by omega), upA_o (by omega), show i - s + s = i by omega]
            exact (h1.2 i hi).1
      · by_cases z : i < a
        · rw [d3 i (by omega), c3 i (by omega), r4, g4 i z, k2 30 (by omega)]
          exact (h2.2 i hi).1
        · by_cases y : i < a + s
          · rw [d4 i (by omega) y, c2 45 (by omega), r6, g2 45 (by omega) (by omega), k4 _ (by omega) (by omega), show a + (i - a) = i by omega]
            exact (h2.2 i hi).1
          · rw [d5 i (by omega), c4 i (by omega) (by omega), r4, g5 _ (by omega) (by omega), k2 30 (by omega), show i - s + s = i by omega]
            exact (h2.2 i hi).1
theorem RR.len {u v : St} (h : RR u v) : ∃ n, n ≤ 400 ∧ u 1 0 = nI n ∧ v 0 0 = nI n := by
  obtain ⟨b, n, ⟨h1, -, -, h4, h5⟩, -⟩ := h
  exact ⟨n, h1.1, h4, h5⟩
/-- all spans of one size -/
theorem st_size {u v : St} (h : RR u v) {s : Nat} (h1 : 1 ≤ s) (hs : s ≤ 32) (x1 y1 x2 : Int32) : ∃ u2 v2, loopF (f_X6_shrink_b41 x1 x2 (nI s)) FU (u 1 0 - nI s, u) = some (.inr u2) ∧ loopF (f_X7_shrink_b31 y1 x2 (nI s)) FU (v 0 0 - nI s, v) = some (.inr v2) ∧ RR u2 v2 := by
  obtain ⟨n, hn, hu, hv⟩ := h.len
  have h0 : (∃ a, u 1 0 - nI s = nI a ∧ a + 0 ≤ 400) ∨ (u 1 0 - nI s < 0 ∧ 0 ≤ 401) := by
    rw [hu]
    by_cases q : s ≤ n
    · exact Or.inl ⟨n - s, pk_sub q, by omega⟩
    · exact Or.inr ⟨pk_sneg (by omega) (by omega), by omega⟩
  obtain ⟨p, q, e1, e2, u2, v2, rfl, rfl, h2⟩ := loop2 (bx := f_X6_shrink_b41 x1 x2 (nI s)) (bm := f_X7_shrink_b31 y1 x2 (nI s)) (fun k x y => x.1 = y.1 ∧ RR x.2 y.2 ∧ ((∃ a, x.1 = nI a ∧ a + k ≤ 400) ∨ (x.1 < 0 ∧ k ≤ 401))) (fun p q => ∃ u2 v2, p = .inr u2 ∧ q = .inr v2 ∧ RR u2 v2) 401 (by omega) (by
    rintro k ⟨z, u⟩ ⟨z', v⟩ ⟨ez, hr, hk⟩
    have ez : z = z' := ez
    subst ez
    have hr : RR u v := hr
    rcases hk with ⟨a, ea, hk⟩ | ⟨ea, hk⟩
    · have ea : z = nI a := ea
      subst ea
      refine ⟨by omega, Or.inr (Or.inl ?_)⟩
      have nx : (∃ a', nI a + (-1) = nI a' ∧ a' + (k + 1) ≤ 400) ∨ (nI a + (-1) < 0 ∧ k + 1 ≤ 401) := by
        cases a with
        | zero => exact Or.inr ⟨by decide, by omega⟩
        | succ a => exact Or.inl ⟨a, pk_m1 a, by omega⟩
      obtain ⟨n, hn, hu, hv⟩ := RR.len (u := u) (v := v) hr
      by_cases q : a + s ≤ n
      · obtain ⟨u2, v2, e1, e2, h2⟩ := st_try hr hn hu hv hs q x1 y1 x2
        exact ⟨_, _, e1, e2, rfl, h2, nx⟩
      · have hc : ¬ (0 ≤ (nI a).toInt ∧ (nI s).toInt ≤ n - (nI a).toInt) := by
          rw [nI_toInt (by omega), nI_toInt (by omega)]
          omega
        have e1 : f_X6_shrink_b41 x1 x2 (nI s) (nI a, u) = some (.inr (nI a + (-1), u)) := by
          unfold f_X6_shrink_b41 f_X6_shrink_j129_41
          simp only [if_neg (nI_pos (show a < 2 ^ 31 by omega)), X_holds hn hu (nI a) (nI s), Option.bind_some, if_pos (bI_0.mpr hc)]
        have e2 : f_X7_shrink_b31 y1 x2 (nI s) (nI a, v) = some (.inr (nI a + (-1), v)) := by
          unfold f_X7_shrink_b31 f_X7_shrink_j56_31
          simp only [if_neg (nI_pos (show a < 2 ^ 31 by omega)), hv, nI_add, if_pos (nI_lt (show n < a + s by omega) (show a + s < 2 ^ 31 by omega))]
        exact ⟨_, _, e1, e2, rfl, hr, nx⟩
    · have ea : z < 0 := ea
      refine ⟨hk, Or.inl ⟨.inr u, .inr v, ?_, ?_, u, v, rfl, rfl, hr⟩⟩
      · unfold f_X6_shrink_b41
        exact if_pos ea
      · unfold f_X7_shrink_b31
        exact if_pos ea) (x := (u 1 0 - nI s, u)) (y := (v 0 0 - nI s, v)) ⟨by rw [hu, hv], h, h0⟩
  exact ⟨u2, v2, e1, e2, h2⟩
theorem op_shrink {u v : St} (h : RR u v) : ∃ r u2 v2, f_X6_shrink u = some (r, u2) ∧ f_X7_shrink v = some (r, v2) ∧ RR u2 v2 := by
  obtain ⟨n, hn, hu, hv⟩ := h.len
  obtain ⟨r, u1, v1, hr29, e1, e2, hr, -⟩ := op_run h
  unfold f_X6_shrink f_X7_shrink
  rw [bd_some e1, bd_some e2]
  by_cases q : nI r = 0
  · rw [if_pos (show (nI r, u1).1 = 0 from q), if_pos (show (nI r, v1).1 = 0 from q)]
    exact ⟨_, _, _, rfl, rfl, hr⟩
  rw [if_neg (show ¬ (nI r, u1).1 = 0 from q), if_neg (show ¬ (nI r, v1).1 = 0 from q)]
  obtain ⟨p, q, f1, f2, u2, v2, rfl, rfl, h2⟩ := loop2 (bx := f_X6_shrink_b25 (u 1 0) (nI r)) (bm := f_X7_shrink_b19 (v 0 0) (nI r)) (fun k x y => x.1 = y.1 ∧ RR x.2 y.2 ∧ ∃ t, x.1 = nI t ∧ t + k ≤ 32) (fun p q => ∃ u2 v2, p = .inr u2 ∧ q = .inr v2 ∧ RR u2 v2) 32 (by omega) (by
    rintro k ⟨z, ua⟩ ⟨z', va⟩ ⟨ez, hra, t, et, ht⟩
    have ez : z = z' := ez
    subst ez
    have et : z = nI t := et
    subst et
    have hra : RR ua va := hra
    refine ⟨by omega, ?_⟩
    by_cases y : t = 0
    · subst y
      refine Or.inl ⟨.inr ua, .inr va, ?_, ?_, ua, va, rfl, rfl, hra⟩
      · unfold f_X6_shrink_b25
        exact if_pos (show nI 0 < 1 by decide)
      · unfold f_X7_shrink_b19
        exact if_pos (show nI 0 ≤ 0 by decide)
    · obtain ⟨ub, vb, g1, g2, hrb⟩ := st_size hra (s := t) (by omega) (by omega) (u 1 0) (v 0 0) (nI r)
      have e2 : nI t / 2 = nI (t / 2) := pk_div (d := 2) (by omega) (by omega) (by omega)
      refine Or.inr (Or.inl ⟨(nI (t / 2), ub), (nI (t / 2), vb), ?_, ?_, rfl, hrb, t / 2, rfl, by omega⟩)
      · unfold f_X6_shrink_b25
        simp only [if_neg (show ¬ nI t < 1 from nI_nlt (b := 1) (by omega) (by omega)), g1, Option.bind_some, Sum.elim_inr, e2]
      · unfold f_X7_shrink_b19
        simp only [if_neg (show ¬ nI t ≤ 0 from nI_ge (a := 0) (by omega) (by omega)), g2, Option.bind_some, Sum.elim_inr, e2]) (x := (32, u1)) (y := (32, v1)) ⟨rfl, hr, 32, rfl, by omega⟩
  obtain ⟨r', u3, v3, -, g1, g2, h3, -⟩ := op_run h2
  obtain ⟨n3, -, hu3, hv3⟩ := h3.len
  simp only [f1, f2, Option.bind_some, Sum.elim_inr]
  simp only [g1, g2, Option.bind_some, hu, hv, hu3, hv3]
  exact ⟨_, _, _, rfl, rfl, h3⟩
