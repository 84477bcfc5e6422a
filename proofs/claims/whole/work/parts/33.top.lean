/-- loops over a row of states -/
theorem loop_seq {α β : Type} {body : α → Option (β ⊕ α)} {s t : Nat} (a : Nat → α) (P : Nat → Prop) (r : Nat → β) (e : β) (hst : s ≤ t) (ht : t < 65600)
    (hb : ∀ k, s ≤ k → k < t → (P k ∧ body (a k) = some (.inr (a (k + 1)))) ∨ (¬ P k ∧ (body (a k) = some (.inl (r k)) ∨ ∃ a', body (a k) = some (.inr a') ∧ body a' = some (.inl (r k)))))
    (he : body (a t) = some (.inl e)) :
    (loopF body FU (a s) = some e ∧ ∀ j, s ≤ j → j < t → P j) ∨ ∃ k, s ≤ k ∧ k < t ∧ ¬ P k ∧ (∀ j, s ≤ j → j < k → P j) ∧ loopF body FU (a s) = some (r k) := by
  have main : ∀ n k, s ≤ k → k ≤ t → t - k + 1 < n → (∀ j, s ≤ j → j < k → P j) → (loopF body n (a k) = some e ∧ ∀ j, s ≤ j → j < t → P j) ∨ ∃ k2, s ≤ k2 ∧ k2 < t ∧ ¬ P k2 ∧ (∀ j, s ≤ j → j < k2 → P j) ∧ loopF body n (a k) = some (r k2) := by
    intro n
    induction n with
    | zero => intro k _ _ h; exact absurd h (Nat.not_lt_zero _)
    | succ n ih =>
      intro k h1 h2 h3 h4
      by_cases hk : k = t
      · subst hk
        exact Or.inl ⟨by rw [loopF_s he]; rfl, h4⟩
      · rcases hb k h1 (by omega) with ⟨hp, eb⟩ | ⟨hp, eb | ⟨a', eb, eb2⟩⟩
        · rw [loopF_s eb]
          exact ih (k + 1) (by omega) (by omega) (by omega) (fun j a1 a2 => by
            by_cases hj : j = k
            · subst hj; exact hp
            · exact h4 j a1 (by omega))
        · exact Or.inr ⟨k, h1, by omega, hp, h4, by rw [loopF_s eb]; rfl⟩
        · refine Or.inr ⟨k, h1, by omega, hp, h4, ?_⟩
          obtain ⟨n, rfl⟩ : ∃ z, n = z + 1 := ⟨n - 1, by omega⟩
          rw [loopF_s eb]
          show loopF body (n + 1) a' = _
          rw [loopF_s eb2]
          rfl
  exact main FU s (Nat.le_refl s) hst (by rw [FU_def]; omega) (fun j h1 h2 => absurd h1 (by omega))
/-- two loops side by side -/
theorem loop2 {αX βX αM βM : Type} {bx : αX → Option (βX ⊕ αX)} {bm : αM → Option (βM ⊕ αM)} (I : Nat → αX → αM → Prop) (R : βX → βM → Prop) (T : Nat) (hT : T < 65600)
    (hs : ∀ k x y, I k x y → k ≤ T ∧ ((∃ p q, bx x = some (.inl p) ∧ bm y = some (.inl q) ∧ R p q) ∨ (∃ x2 y2, bx x = some (.inr x2) ∧ bm y = some (.inr y2) ∧ I (k + 1) x2 y2) ∨ (∃ p y2 q, bx x = some (.inl p) ∧ bm y = some (.inr y2) ∧ bm y2 = some (.inl q) ∧ R p q)))
    {x : αX} {y : αM} (h0 : I 0 x y) : ∃ p q, loopF bx FU x = some p ∧ loopF bm FU y = some q ∧ R p q := by
  have main : ∀ n k x y, I k x y → T + 1 < k + n → ∃ p q, loopF bx (n + 1) x = some p ∧ loopF bm (n + 1) y = some q ∧ R p q := by
    intro n
    induction n with
    | zero =>
      intro k x y h1 h2
      have := (hs k x y h1).1
      omega
    | succ n ih =>
      intro k x y h1 h2
      rcases (hs k x y h1).2 with ⟨p, q, e1, e2, hr⟩ | ⟨x2, y2, e1, e2, h3⟩ | ⟨p, y2, q, e1, e2, e3, hr⟩
      · exact ⟨p, q, by rw [loopF_s e1]; rfl, by rw [loopF_s e2]; rfl, hr⟩
      · obtain ⟨p, q, f1, f2, hr⟩ := ih (k + 1) x2 y2 h3 (by omega)
        exact ⟨p, q, by rw [loopF_s e1]; exact f1, by rw [loopF_s e2]; exact f2, hr⟩
      · exact ⟨p, q, by rw [loopF_s e1]; rfl, by rw [loopF_s e2]; show loopF bm (n + 1) y2 = _; rw [loopF_s e3]; rfl, hr⟩
  exact main 999999 0 x y h0 (by omega)
/-- what reading changes -/
def GX (u u1 : St) : Prop := ∀ k, k ≠ 2 → k ≠ 3 → k ≠ 4 → k ≠ 23 → u1 k = u k
def GM (v v1 : St) : Prop := ∀ k, k ≠ 3 → k ≠ 7 → k ≠ 8 → k ≠ 32 → v1 k = v k
theorem GX.refl (u : St) : GX u u := fun _ _ _ _ _ => rfl
theorem GM.refl (v : St) : GM v v := fun _ _ _ _ _ => rfl
theorem GX.trans {u u1 u2 : St} (h : GX u u1) (h2 : GX u1 u2) : GX u u2 := fun k a b c d => (h2 k a b c d).trans (h k a b c d)
theorem GM.trans {u u1 u2 : St} (h : GM u u1) (h2 : GM u1 u2) : GM u u2 := fun k a b c d => (h2 k a b c d).trans (h k a b c d)
theorem GX.u4 (u : St) (x : Int32) : GX u (up u 4 0 x) := fun k _ _ c _ => up_o c
theorem GX.u23 (u : St) (i : Nat) (x : Int32) : GX u (up u 23 i x) := fun k _ _ _ d => up_o d
theorem GM.u3 (v : St) (x : Int32) : GM v (up v 3 0 x) := fun k a _ _ _ => up_o a
theorem GM.u32 (v : St) (i : Nat) (x : Int32) : GM v (up v 32 i x) := fun k _ _ _ d => up_o d
theorem PQ.fr {b : Nat → Nat} {n N : Nat} {kd pl : Nat → Nat} {u v u1 v1 : St} (h : PQ b n N kd pl u v) (h1 : u1 8 = u 8) (h2 : u1 25 = u 25) (h3 : u1 26 = u 26) (g1 : v1 9 = v 9) (g2 : v1 33 = v 33) (g3 : v1 34 = v 34) (g4 : v1 35 = v 35) (g5 : v1 36 = v 36) : PQ b n N kd pl u1 v1 := by
  unfold PQ
  rw [h1, h2, h3, g1, g2, g3, g4, g5]
  exact h
theorem PQ.g {b : Nat → Nat} {n N : Nat} {kd pl : Nat → Nat} {u v u1 v1 : St} (h : PQ b n N kd pl u v) (hX : GX u u1) (hM : GM v v1) : PQ b n N kd pl u1 v1 :=
  h.fr (hX 8 (by omega) (by omega) (by omega) (by omega)) (hX 25 (by omega) (by omega) (by omega) (by omega)) (hX 26 (by omega) (by omega) (by omega) (by omega)) (hM 9 (by omega) (by omega) (by omega) (by omega)) (hM 33 (by omega) (by omega) (by omega) (by omega)) (hM 34 (by omega) (by omega) (by omega) (by omega)) (hM 35 (by omega) (by omega) (by omega) (by omega)) (hM 36 (by omega) (by omega) (by omega) (by omega))
/-- a class's number -/
theorem st_classAt {u0 v0 u v : St} {b : Nat → Nat} {n N pos lim lr ls : Nat} {kd pl : Nat → Nat} (hE : EV u0 v0 b n) (h : JS True u0 v0 n pos lim lr ls u v) (hP : PQ b n N kd pl u v) : (pos + 2 ≤ lim ∧ kd (w2 b pos) = 7 ∧ w2 b pos < 65536 ∧ f_X2_readClassNumber u = some (1, up u 4 0 (nI (pos + 2))) ∧ f_X7_classAt v = some (up v 3 0 (nI (pos + 2)))) ∨ (∃ u1 v1, f_X2_readClassNumber u = some (0, u1) ∧ f_X7_classAt v = some v1 ∧ EE True u0 v0 u1 v1) := by
  have n10 : ¬ (1 : Int32) = 0 := by decide
  unfold f_X2_readClassNumber f_X2_readClassNumber_j54 f_X2_readClassNumber_j59 f_X7_classAt f_X7_classAt_j35
  simp only [X_broken, Option.bind_some, bchk_0, bchk_1, if_true]
  rcases rd2 hE h with ⟨a1, e1, e2, h1, w, e3⟩ | ⟨a1, e1, v1, e2, h1⟩
  rotate_left
  · simp only [e1, e2, Option.bind_some, if_true, h1.nz, if_false]
    exact Or.inr ⟨_, _, rfl, rfl, h1⟩
  have hP1 : PQ b n N kd pl (up u 4 0 (nI (pos + 2))) (up v 3 0 (nI (pos + 2))) := hP
  have hk := hP.2.2.2.1 (w2 b pos)
  have ei := M_is hP1 (x := w2 b pos) (t := 7) (by omega) (by omega) (by omega)
  have ei : f_X7_is (nI (w2 b pos)) 7 (up v 3 0 (nI (pos + 2))) = some (bI (kd (w2 b pos) = 7)) := ei
  simp only [e1, e2, Option.bind_some, if_neg n10, h.2.2.1.1, h.2.2.1.2.2.2.2.1, e3, h1.r0, if_true, X_kindOf hP1 (show w2 b pos < 2 ^ 31 by omega), ei]
  have l7 : (nI (kd (w2 b pos)) = (7 : Int32)) = (kd (w2 b pos) = 7) := eqN (b := 7) (by omega) (by omega)
  simp only [l7]
  by_cases q : kd (w2 b pos) = 7
  · rw [if_pos q, if_neg (fun z => bI_0.mp z q)]
    exact Or.inl ⟨a1, q, w, rfl, rfl⟩
  · rw [if_neg q, if_pos (bI_0.mpr q), bd_some (M_fail h1.z)]
    exact Or.inr ⟨_, _, rfl, rfl, h1.err (r := 12) (by omega) (by omega) _⟩
theorem M_classAtN {v : St} (h : ¬ v 7 0 = 0) : f_X7_classAt v = some v := by
  unfold f_X7_classAt f_X7_classAt_j35
  simp only [M_u2N h, Option.bind_some, if_neg h]
theorem M_interfacesN {v : St} (h : ¬ v 7 0 = 0) : f_X7_interfaces v = some v := by
  unfold f_X7_interfaces f_X7_interfaces_j119
  have e : f_X7_interfaces_b7 0 (0, v) = some (.inl (.inr v)) := by
    unfold f_X7_interfaces_b7
    rw [if_pos (show (0 : Int32) ≤ 0 by decide)]
  simp only [M_u2N h, Option.bind_some]
  rw [show FU = 999999 + 1 from rfl, loopF_s e]
  rfl
/-- a number of things -/
theorem st_num {u0 v0 u v : St} {b : Nat → Nat} {n pos lim lr ls : Nat} (hE : EV u0 v0 b n) (h : JS True u0 v0 n pos lim lr ls u v) : (pos + 2 ≤ lim ∧ w2 b pos < 65536 ∧ f_X2_readNumber u = some (nI (w2 b pos), up u 4 0 (nI (pos + 2))) ∧ f_X7_u2 v = some (nI (w2 b pos), up v 3 0 (nI (pos + 2))) ∧ JS True u0 v0 n (pos + 2) lim lr ls (up u 4 0 (nI (pos + 2))) (up v 3 0 (nI (pos + 2)))) ∨ (∃ u1 v1, f_X2_readNumber u = some (-1, u1) ∧ f_X7_u2 v = some (0, v1) ∧ EE True u0 v0 u1 v1) := by
  have n10 : ¬ (1 : Int32) = 0 := by decide
  unfold f_X2_readNumber f_X2_readNumber_j31
  rcases rd2 hE h with ⟨a1, e1, e2, h1, w, e3⟩ | ⟨a1, e1, v1, e2, h1⟩
  · simp only [e1, e2, Option.bind_some, if_neg n10, h.2.2.1.1, e3]
    exact Or.inl ⟨a1, w, trivial, trivial, h1⟩
  · simp only [e1, e2, Option.bind_some, if_true]
    exact Or.inr ⟨_, _, rfl, rfl, h1⟩
/-- the class's head -/
theorem st_class {u0 v0 u v : St} {b : Nat → Nat} {n N pos : Nat} {kd pl : Nat → Nat} (hE : EV u0 v0 b n) (h : JS True u0 v0 n pos n 1 n u v) (hP : PQ b n N kd pl u v) : (∃ u1 v1, f_X2_readClass u = some (1, u1) ∧ f_X7_top v = f_X7_interfaces v1 ∧ JS True u0 v0 n (pos + 6) n 1 n u1 v1 ∧ PQ b n N kd pl u1 v1) ∨ (∃ u1 v1, f_X2_readClass u = some (0, u1) ∧ f_X7_top v = some v1 ∧ EE True u0 v0 u1 v1) := by
  have n10 : ¬ (1 : Int32) = 0 := by decide
  have bi : ∀ o : Option St, o.bind (fun q => some q) = o := fun o => by cases o <;> rfl
  unfold f_X2_readClass f_X2_readClass_j64 f_X2_readClass_j65 f_X7_top
  simp only [X_broken, Option.bind_some, bchk_0, bchk_1]
  have j73N : ∀ v1 : St, ¬ v1 7 0 = 0 → f_X7_top_j73 v1 = some v1 := by
    intro v1 hv
    unfold f_X7_top_j73
    simp only [M_classAtN hv, Option.bind_some, M_interfacesN hv]
  rcases rd2 hE h with ⟨a1, e1, e2, h1, w, e3⟩ | ⟨a1, e1, v1, e2, h1⟩
  rotate_left
  · have z1 : (0 : Int32) &&& 512 = 0 := by decide
    have z2 : (0 : Int32) &&& 1024 = 0 := by decide
    simp only [e1, e2, Option.bind_some, if_true, if_pos z1]
    unfold f_X7_top_j33 f_X7_top_j52 f_X7_top_j53
    simp only [if_pos z2, h1.nz, if_false, j73N v1 h1.n]
    exact Or.inr ⟨_, _, rfl, rfl, h1⟩
  simp only [e1, e2, Option.bind_some, if_neg n10, h.2.2.1.1, h.2.2.1.2.2.2.2.1, e3]
  have hP1 : PQ b n N kd pl (up u 4 0 (nI (pos + 2))) (up v 3 0 (nI (pos + 2))) := hP
  -- the flags
  obtain ⟨odd, ho1, ho2⟩ : ∃ odd : Prop, f_X2_classFlagsFit (nI (w2 b pos)) (up u 4 0 (nI (pos + 2))) = some (bI (¬ odd)) ∧ (if nI (w2 b pos) &&& 512 = 0 then f_X7_top_j33 (nI pos) (nI (w2 b pos)) (up v 3 0 (nI (pos + 2))) else if nI (w2 b pos) &&& 1024 = 0 then f_X7_top_j48 (nI pos) (up v 3 0 (nI (pos + 2))) else if nI (w2 b pos) &&& 16 = 0 then f_X7_top_j33 (nI pos) (nI (w2 b pos)) (up v 3 0 (nI (pos + 2))) else f_X7_top_j48 (nI pos) (up v 3 0 (nI (pos + 2)))) = @ite _ odd (Classical.propDecidable _) (f_X7_top_j48 (nI pos) (up v 3 0 (nI (pos + 2)))) (f_X7_top_j52 (nI pos) (up v 3 0 (nI (pos + 2)))) := by
    unfold f_X2_classFlagsFit f_X2_classFlagsFit_j13 f_X2_classFlagsFit_j26 f_X2_classFlagsFit_j41 f_X2_classFlagsFit_j49 f_X2_classFlagsFit_j54 f_X7_top_j33
    simp only [bchk_0, bchk_1, if_true, if_neg n10]
    refine ⟨(¬ nI (w2 b pos) &&& 512 = 0 ∧ nI (w2 b pos) &&& 1024 = 0) ∨ (¬ nI (w2 b pos) &&& 1024 = 0 ∧ ¬ nI (w2 b pos) &&& 16 = 0), ?_, ?_⟩
    · by_cases c1 : nI (w2 b pos) &&& 512 = 0 <;> by_cases c2 : nI (w2 b pos) &&& 1024 = 0 <;> by_cases c3 : nI (w2 b pos) &&& 16 = 0 <;> simp only [c1, c2, c3, if_true, if_false, not_true_eq_false, not_false_eq_true, and_true, and_false, and_self, or_self, or_true, true_or, or_false, false_or] <;> first | exact congrArg some (bI_t trivial).symm | exact congrArg some (bI_f id).symm | exact congrArg some (bI_t (fun z => z)).symm | exact congrArg some (bI_f (fun z => z trivial)).symm
    · by_cases c1 : nI (w2 b pos) &&& 512 = 0 <;> by_cases c2 : nI (w2 b pos) &&& 1024 = 0 <;> by_cases c3 : nI (w2 b pos) &&& 16 = 0 <;> simp only [c1, c2, c3, if_true, if_false, not_true_eq_false, not_false_eq_true, and_true, and_false, and_self, or_self, or_true, true_or, or_false, false_or]
  rw [ho2]
  simp only [ho1, Option.bind_some]
  by_cases q : odd
  · have h2 := h1.err (r := 11) (by omega) (by omega) (nI pos)
    rw [if_pos (bI_0.mpr (fun z => z q)), if_pos q]
    unfold f_X7_top_j48 f_X7_top_j53
    have e4 : f_X7_top_j73 (up (up (up v 3 0 (nI (pos + 2))) 7 0 11) 8 0 (nI pos)) = _ := j73N _ h2.n
    simp only [h1.r0, if_true, if_neg n10, M_fail h1.z, Option.bind_some, e4]
    exact Or.inr ⟨_, _, rfl, rfl, h2⟩
  · rw [if_neg (fun z => bI_0.mp z q), if_neg q]
    unfold f_X7_top_j52 f_X7_top_j53 f_X7_top_j73
    simp only [h1.r0, if_true]
    rcases st_classAt hE h1 hP1 with ⟨a2, k1, w1, e4, e5⟩ | ⟨u1, v1, e4, e5, h2⟩
    rotate_left
    · simp only [e4, e5, Option.bind_some, if_true, M_classAtN h2.n, M_interfacesN h2.n]
      exact Or.inr ⟨_, _, rfl, rfl, h2⟩
    have h2 := h1.adv (pos + 2 + 2) a2
    have hP2 : PQ b n N kd pl (up (up u 4 0 (nI (pos + 2))) 4 0 (nI (pos + 2 + 2))) (up (up v 3 0 (nI (pos + 2))) 3 0 (nI (pos + 2 + 2))) := hP
    rcases st_classAt hE h2 hP2 with ⟨a3, k2, w2', e6, e7⟩ | ⟨u1, v1, e6, e7, h3⟩
    · simp only [e4, e5, e6, e7, Option.bind_some, if_neg n10, bi]
      exact Or.inl ⟨_, _, rfl, rfl, h2.adv (pos + 2 + 2 + 2) a3, hP⟩
    · simp only [e4, e5, e6, e7, Option.bind_some, if_neg n10, if_true, M_interfacesN h3.n]
      exact Or.inr ⟨_, _, rfl, rfl, h3⟩
