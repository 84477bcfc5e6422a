/-- a counting loop over a state that stays -/
theorem loop_upP {β : Type} {body : Int32 × St → Option (β ⊕ (Int32 × St))} {u : St} {s t : Nat} (P : Nat → Prop) (r : Nat → β) (e : β) (hst : s ≤ t) (ht : t < 65600)
    (hb : ∀ k, s ≤ k → k < t → (P k ∧ body (nI k, u) = some (.inr (nI (k + 1), u))) ∨ (¬ P k ∧ body (nI k, u) = some (.inl (r k))))
    (he : body (nI t, u) = some (.inl e)) :
    (loopF body FU (nI s, u) = some e ∧ ∀ j, s ≤ j → j < t → P j) ∨ ∃ k, s ≤ k ∧ k < t ∧ ¬ P k ∧ (∀ j, s ≤ j → j < k → P j) ∧ loopF body FU (nI s, u) = some (r k) := by
  have main : ∀ n k, s ≤ k → k ≤ t → t - k < n → (∀ j, s ≤ j → j < k → P j) → (loopF body n (nI k, u) = some e ∧ ∀ j, s ≤ j → j < t → P j) ∨ ∃ k2, s ≤ k2 ∧ k2 < t ∧ ¬ P k2 ∧ (∀ j, s ≤ j → j < k2 → P j) ∧ loopF body n (nI k, u) = some (r k2) := by
    intro n
    induction n with
    | zero => intro k _ _ h; exact absurd h (Nat.not_lt_zero _)
    | succ n ih =>
      intro k h1 h2 h3 h4
      by_cases hk : k = t
      · subst hk
        exact Or.inl ⟨by rw [loopF_s he]; rfl, h4⟩
      · rcases hb k h1 (by omega) with ⟨hp, eb⟩ | ⟨hp, eb⟩
        · rw [loopF_s eb]
          exact ih (k + 1) (by omega) (by omega) (by omega) (fun j a1 a2 => by
            by_cases hj : j = k
            · subst hj; exact hp
            · exact h4 j a1 (by omega))
        · exact Or.inr ⟨k, h1, by omega, hp, h4, by rw [loopF_s eb]; rfl⟩
  exact main FU s (Nat.le_refl s) hst (by rw [FU_def]; omega) (fun j h1 h2 => absurd h1 (by omega))
/-- the class: references, texts -/
theorem X_judgeReferences {b : Nat → Nat} {n N : Nat} {kd pl : Nat → Nat} {u v : St} (h : PQ b n N kd pl u v) (hB : BX u b n) : (f_X4_judgeReferences u = some (1, u) ∧ ∀ j, 1 ≤ j → j ≤ N → rOK b kd pl j) ∨ ∃ k, 1 ≤ k ∧ k ≤ N ∧ ¬ rOK b kd pl k ∧ (∀ j, 1 ≤ j → j < k → rOK b kd pl j) ∧ f_X4_judgeReferences u = some (0, up (up u 2 0 8) 3 0 (nI (pl k))) := by
  have hN := h.2.2.1
  have key : ∀ k, 1 ≤ k → k < N + 1 → (rOK b kd pl k ∧ f_X4_judgeReferences_b2 (nI k, u) = some (.inr (nI (k + 1), u))) ∨ (¬ rOK b kd pl k ∧ f_X4_judgeReferences_b2 (nI k, u) = some (.inl (.inl (0, up (up u 2 0 8) 3 0 (nI (pl k)))))) := by
    intro k k1 k2
    unfold f_X4_judgeReferences_b2
    simp only [h.1, if_neg (nI_nlt (show k ≤ N by omega) (show N < 2 ^ 31 by omega)), X_refs h hB k1 (by omega), Option.bind_some, X_broken, bchk_0, nI_1]
    by_cases q : rOK b kd pl k
    · rw [if_neg (fun w => bI_0.mp w q)]
      exact Or.inl ⟨q, rfl⟩
    · have hz : kd k ≠ 0 := fun z => q ⟨fun w => by omega, fun w => by omega, fun w => by omega⟩
      rw [if_pos (bI_0.mpr q), chkN (by omega) (by omega), cl_nI (by omega), (h.2.2.2.2.2.2.1 k hz).1]
      exact Or.inr ⟨q, rfl⟩
  have he : f_X4_judgeReferences_b2 (nI (N + 1), u) = some (.inl (.inr u)) := by
    unfold f_X4_judgeReferences_b2
    simp only [h.1, if_pos (nI_lt (show N < N + 1 by omega) (show N + 1 < 2 ^ 31 by omega))]
  unfold f_X4_judgeReferences
  rcases loop_upP (β := (Int32 × St) ⊕ St) (fun k => rOK b kd pl k) (fun k => .inl (0, up (up u 2 0 8) 3 0 (nI (pl k)))) (.inr u) (by omega) (by omega) key he with ⟨e, hh⟩ | ⟨k, a1, a2, a3, a4, e⟩
  · left
    refine ⟨?_, fun j j1 j2 => hh j j1 (by omega)⟩
    rw [show (1 : Int32) = nI 1 from rfl, bd_some e]
    rfl
  · right
    refine ⟨k, a1, by omega, a3, a4, ?_⟩
    rw [show (1 : Int32) = nI 1 from rfl, bd_some e]
    rfl
noncomputable def txR (b kd pl : Nat → Nat) (x : Nat) : Nat := if kd x = 7 then (if cn b (tE b pl (w2 b (pl x + 1)) - (pl (w2 b (pl x + 1)) + 3)) (pl (w2 b (pl x + 1)) + 3) false = true then 0 else 9) else if kd x = 12 then (@ite _ (MN b (pl (w2 b (pl x + 1)) + 3) (tE b pl (w2 b (pl x + 1)))) (Classical.propDecidable _) (@ite _ (MT b (pl (w2 b (pl x + 3)) + 3) (tE b pl (w2 b (pl x + 3)))) (Classical.propDecidable _) 0 10) 9) else 0
theorem txR_c {b kd pl : Nat → Nat} {x : Nat} : txR b kd pl x = 0 ∨ txR b kd pl x = 9 ∨ txR b kd pl x = 10 := by
  unfold txR
  split
  · split <;> omega
  · split
    · split
      · split <;> omega
      · omega
    · omega
theorem X_textRule {b : Nat → Nat} {n N : Nat} {kd pl : Nat → Nat} {u v : St} (h : PQ b n N kd pl u v) (hB : BX u b n) (hR : ∀ j, 1 ≤ j → j ≤ N → rOK b kd pl j) {x : Nat} (h1 : 1 ≤ x) (h2 : x ≤ N) : f_X4_textRule (nI x) u = some (nI (txR b kd pl x)) := by
  have hk := h.2.2.2.1 x
  have hN := h.2.2.1
  have hw := h.wl (x := x) (fun j hj => (hB.2 j hj).2)
  have hr := hR x h1 h2
  have zz : ∀ {p : Prop}, (bI p = 0) = ¬ p := fun {p} => propext bI_0
  unfold f_X4_textRule f_X4_textRule_j93 f_X4_textRule_j46 txR
  rw [cl_nI (by omega), (h.2.2.2.2.2.1 x h1 h2).1]
  simp (disch := omega) only [chkN, L7, L9, L10, L12, eqN]
  by_cases q1 : kd x = 7
  · have hw1 := hw.1 (by omega)
    have ht := hr.1 (Or.inl q1)
    obtain ⟨a1, a2⟩ := h.te ht
    simp only [if_pos q1, X_first h hB (x := x) (by omega), Option.bind_some, X_textStart h ht, X_textEnd h hB ht, X_isClassName hB a2 a1, zz]
    by_cases z : cn b (tE b pl (w2 b (pl x + 1)) - (pl (w2 b (pl x + 1)) + 3)) (pl (w2 b (pl x + 1)) + 3) false = true
    · rw [if_neg (fun w => w z), if_pos z]
      rfl
    · rw [if_pos z, if_neg z]
  · simp only [if_neg q1]
    by_cases q2 : kd x = 12
    · have hw1 := hw.1 (by omega)
      have hw2 := hw.2 (by omega)
      obtain ⟨t1, t2⟩ := hr.2.2 q2
      simp only [if_pos q2, X_first h hB (x := x) (by omega), X_second h hB (x := x) (by omega), Option.bind_some, X_pName h hB (show w2 b (pl x + 1) < 2 ^ 31 by omega), X_pMeth h hB (show w2 b (pl x + 3) < 2 ^ 31 by omega), zz, t1, t2, true_and]
      by_cases z : MN b (pl (w2 b (pl x + 1)) + 3) (tE b pl (w2 b (pl x + 1)))
      · rw [if_neg (fun w => bI_0.mp w z), if_pos z]
        by_cases z2 : MT b (pl (w2 b (pl x + 3)) + 3) (tE b pl (w2 b (pl x + 3)))
        · rw [if_neg (fun w => bI_0.mp w z2), if_pos z2]
          rfl
        · rw [if_pos (bI_0.mpr z2), if_neg z2]
      · rw [if_pos (bI_0.mpr z), if_neg z]
    · simp only [if_neg q2]
      rfl
theorem X_judgeTexts {b : Nat → Nat} {n N : Nat} {kd pl : Nat → Nat} {u v : St} (h : PQ b n N kd pl u v) (hB : BX u b n) (hR : ∀ j, 1 ≤ j → j ≤ N → rOK b kd pl j) : (f_X4_judgeTexts u = some (1, u) ∧ ∀ j, 1 ≤ j → j < N + 1 → txR b kd pl j = 0) ∨ ∃ k, 1 ≤ k ∧ k < N + 1 ∧ ¬ txR b kd pl k = 0 ∧ (∀ j, 1 ≤ j → j < k → txR b kd pl j = 0) ∧ f_X4_judgeTexts u = some (0, up (up u 2 0 (nI (txR b kd pl k))) 3 0 (nI (pl k))) := by
  have hN := h.2.2.1
  have key : ∀ k, 1 ≤ k → k < N + 1 → (txR b kd pl k = 0 ∧ f_X4_judgeTexts_b2 (nI k, u) = some (.inr (nI (k + 1), u))) ∨ (¬ txR b kd pl k = 0 ∧ f_X4_judgeTexts_b2 (nI k, u) = some (.inl (.inl (0, up (up u 2 0 (nI (txR b kd pl k))) 3 0 (nI (pl k)))))) := by
    intro k k1 k2
    have hc := txR_c (b := b) (kd := kd) (pl := pl) (x := k)
    unfold f_X4_judgeTexts_b2
    simp only [h.1, if_neg (nI_nlt (show k ≤ N by omega) (show N < 2 ^ 31 by omega)), X_textRule h hB hR k1 (show k ≤ N by omega), Option.bind_some, X_broken, bchk_0, nI_1]
    by_cases q : txR b kd pl k = 0
    · rw [q, if_pos (show nI 0 = 0 from rfl)]
      exact Or.inl ⟨rfl, rfl⟩
    · have hz : kd k ≠ 0 := fun z => q (by unfold txR; rw [if_neg (by omega), if_neg (by omega)])
      rw [if_neg (nI_nz q (by omega)), chkN (by omega) (by omega), cl_nI (by omega), (h.2.2.2.2.2.2.1 k hz).1]
      exact Or.inr ⟨q, rfl⟩
  have he : f_X4_judgeTexts_b2 (nI (N + 1), u) = some (.inl (.inr u)) := by
    unfold f_X4_judgeTexts_b2
    simp only [h.1, if_pos (nI_lt (show N < N + 1 by omega) (show N + 1 < 2 ^ 31 by omega))]
  unfold f_X4_judgeTexts
  rcases loop_upP (β := (Int32 × St) ⊕ St) (fun k => txR b kd pl k = 0) (fun k => .inl (0, up (up u 2 0 (nI (txR b kd pl k))) 3 0 (nI (pl k)))) (.inr u) (by omega) (by omega) key he with ⟨e, hh⟩ | ⟨k, a1, a2, a3, a4, e⟩
  · left
    refine ⟨?_, hh⟩
    rw [show (1 : Int32) = nI 1 from rfl, bd_some e]
    rfl
  · right
    refine ⟨k, a1, a2, a3, a4, ?_⟩
    rw [show (1 : Int32) = nI 1 from rfl, bd_some e]
    rfl
/-- the reference: references -/
theorem M_refloop {b : Nat → Nat} {n N : Nat} {kd pl : Nat → Nat} {u v : St} (h : PQ b n N kd pl u v) (hb : ∀ j, j < n → b j < 256) (h7 : v 7 0 = 0) : ∀ m k N1, k + m = N + 1 → m < N1 → 1 ≤ k → (loopF f_X7_checkPool_b2 N1 (nI k, v) = some (.inr v) ∧ ∀ j, k ≤ j → j ≤ N → rOK b kd pl j) ∨ ∃ j, k ≤ j ∧ j ≤ N ∧ ¬ rOK b kd pl j ∧ (∀ i, k ≤ i → i < j → rOK b kd pl i) ∧ loopF f_X7_checkPool_b2 N1 (nI k, v) = some (.inr (up (up v 7 0 8) 8 0 (nI (pl j)))) := by
  have hN := h.2.2.1
  have bad : ∀ q : Int32, ∀ m k N1, k + m = N + 1 → m < N1 → 1 ≤ k → loopF f_X7_checkPool_b2 N1 (nI k, up (up v 7 0 8) 8 0 q) = some (.inr (up (up v 7 0 8) 8 0 q)) := by
    intro qq m
    have hF : PQ b n N kd pl u (up (up v 7 0 8) 8 0 qq) := h
    have hFn : ¬ (up (up v 7 0 8) 8 0 qq) 7 0 = 0 := show ¬ (8 : Int32) = 0 by decide
    have h9 : (up (up v 7 0 8) 8 0 qq) 9 0 = nI (N + 1) := h.2.1
    induction m with
    | zero =>
      intro k N1 h1 h2 h3
      obtain ⟨N1, rfl⟩ : ∃ z, N1 = z + 1 := ⟨N1 - 1, by omega⟩
      have e : f_X7_checkPool_b2 (nI k, up (up v 7 0 8) 8 0 qq) = some (.inl (.inr (up (up v 7 0 8) 8 0 qq))) := by
        unfold f_X7_checkPool_b2
        simp only [h9, if_pos (nI_le (show N + 1 ≤ k by omega) (show k < 2 ^ 31 by omega))]
      rw [loopF_s e]; rfl
    | succ m ih =>
      intro k N1 h1 h2 h3
      obtain ⟨N1, rfl⟩ : ∃ z, N1 = z + 1 := ⟨N1 - 1, by omega⟩
      have e : f_X7_checkPool_b2 (nI k, up (up v 7 0 8) 8 0 qq) = some (.inr (nI (k + 1), up (up v 7 0 8) 8 0 qq)) := by
        unfold f_X7_checkPool_b2 f_X7_checkPool_j31_2
        simp only [h9, if_neg (nI_ge (show k < N + 1 by omega) (show N + 1 < 2 ^ 31 by omega)), M_refs hF hb h3 (show k ≤ N by omega), Option.bind_some, M_failN hFn, nI_1, chkN (show k < 420 by omega) (show 420 < 2 ^ 31 by omega), ite_self]
      rw [loopF_s e]
      exact ih (k + 1) N1 (by omega) (by omega) (by omega)
  intro m
  induction m with
  | zero =>
    intro k N1 h1 h2 h3
    obtain ⟨N1, rfl⟩ : ∃ z, N1 = z + 1 := ⟨N1 - 1, by omega⟩
    have e : f_X7_checkPool_b2 (nI k, v) = some (.inl (.inr v)) := by
      unfold f_X7_checkPool_b2
      simp only [h.2.1, if_pos (nI_le (show N + 1 ≤ k by omega) (show k < 2 ^ 31 by omega))]
    rw [loopF_s e]
    exact Or.inl ⟨rfl, fun j j1 j2 => by omega⟩
  | succ m ih =>
    intro k N1 h1 h2 h3
    obtain ⟨N1, rfl⟩ : ∃ z, N1 = z + 1 := ⟨N1 - 1, by omega⟩
    by_cases q : rOK b kd pl k
    · have e : f_X7_checkPool_b2 (nI k, v) = some (.inr (nI (k + 1), v)) := by
        unfold f_X7_checkPool_b2 f_X7_checkPool_j31_2
        simp only [h.2.1, if_neg (nI_ge (show k < N + 1 by omega) (show N + 1 < 2 ^ 31 by omega)), M_refs h hb h3 (show k ≤ N by omega), Option.bind_some, nI_1, if_neg (fun w => bI_0.mp w q)]
      rw [loopF_s e]
      rcases ih (k + 1) N1 (by omega) (by omega) (by omega) with ⟨a, a2⟩ | ⟨j, a1, a2, a3, a4, a5⟩
      · exact Or.inl ⟨a, fun j j1 j2 => by
          by_cases hj : j = k
          · rw [hj]; exact q
          · exact a2 j (by omega) j2⟩
      · exact Or.inr ⟨j, by omega, a2, a3, fun i i1 i2 => by
          by_cases hi : i = k
          · rw [hi]; exact q
          · exact a4 i (by omega) i2, a5⟩
    · have hz : kd k ≠ 0 := fun z => q ⟨fun w => by omega, fun w => by omega, fun w => by omega⟩
      have e : f_X7_checkPool_b2 (nI k, v) = some (.inr (nI (k + 1), up (up v 7 0 8) 8 0 (nI (pl k)))) := by
        unfold f_X7_checkPool_b2 f_X7_checkPool_j31_2
        simp only [h.2.1, if_neg (nI_ge (show k < N + 1 by omega) (show N + 1 < 2 ^ 31 by omega)), M_refs h hb h3 (show k ≤ N by omega), Option.bind_some, nI_1, if_pos (bI_0.mpr q), chkN (show k < 420 by omega) (show 420 < 2 ^ 31 by omega), cl_nI (show k < 2 ^ 31 by omega), M_fail h7, (h.2.2.2.2.2.2.1 k hz).2.1]
      rw [loopF_s e]
      exact Or.inr ⟨k, Nat.le_refl _, by omega, q, fun i i1 i2 => by omega, bad _ m (k + 1) N1 (by omega) (by omega) (by omega)⟩
/-- the reference: texts -/
theorem M_txtstep {b : Nat → Nat} {n N : Nat} {kd pl : Nat → Nat} {u v : St} (h : PQ b n N kd pl u v) (hB : BM v b n) (hC : CM v) (h7 : v 7 0 = 0) (hR : ∀ j, 1 ≤ j → j ≤ N → rOK b kd pl j) {k : Nat} (k1 : 1 ≤ k) (k2 : k ≤ N) : f_X7_checkPool_b39 (nI k, v) = some (.inr (nI (k + 1), if txR b kd pl k = 0 then v else up (up v 7 0 (nI (txR b kd pl k))) 8 0 (nI (pl k)))) := by
  have hk := h.2.2.2.1 k
  have hN := h.2.2.1
  have hw := h.wl (x := k) (fun j hj => (hB.2 j hj).2)
  have hr := hR k k1 k2
  have zz : ∀ {p : Prop}, (bI p = 0) = ¬ p := fun {p} => propext bI_0
  obtain ⟨-, -, -, -, -, h6, h7', h8, h9, h10⟩ := id h
  have ck : ∀ {α : Type} {x : Option α}, chk 420 (nI k) x = x := fun {α x} => chkN (by omega) (by omega)
  have e33 := (h6 k k1 k2).2
  unfold f_X7_checkPool_b39
  simp only [h.2.1, if_neg (nI_ge (show k < N + 1 by omega) (show N + 1 < 2 ^ 31 by omega)), h7, if_true, ck, cl_nI (show k < 2 ^ 31 by omega), e33]
  by_cases q1 : kd k = 7
  · have hw1 := hw.1 (by omega)
    have ht := hr.1 (Or.inl q1)
    obtain ⟨a1, a2⟩ := h.te ht
    have hT := h.tm hB ht
    have e34 := (h7' k (by omega)).2.1
    have e35 := (h9 k (Or.inl q1)).2
    have e36 := (h8 _ ht).2.2
    have hx := (h.2.2.2.2.1 _ (show kd (w2 b (pl k + 1)) ≠ 0 by omega))
    have d7 : nI (kd k) = 7 := by rw [q1]; rfl
    have dN : ¬ (7 : Int32) = 12 := by decide
    have ec := M_className (f := 0) (g := w2 b (pl (w2 b (pl k + 1)) + 1)) hT (by omega) (by unfold tE at a1; omega)
    have ec : f_X7_className (nI (w2 b (pl k + 1))) 0 (nI (w2 b (pl (w2 b (pl k + 1)) + 1))) v = some (bI (cn b (w2 b (pl (w2 b (pl k + 1)) + 1)) (pl (w2 b (pl k + 1)) + 3) false = true)) := ec
    have et : tE b pl (w2 b (pl k + 1)) - (pl (w2 b (pl k + 1)) + 3) = w2 b (pl (w2 b (pl k + 1)) + 1) := by unfold tE; omega
    simp only [if_pos d7, e35, cl_nI (show w2 b (pl k + 1) < 2 ^ 31 by omega), e36, chkN (show w2 b (pl k + 1) < 420 by omega) (show 420 < 2 ^ 31 by omega), ec, Option.bind_some, zz, M_fail h7, e34]
    have fin : ∀ w : St, w 33 k = nI (kd k) → f_X7_checkPool_j103_39 (nI k) w = some (.inr (nI (k + 1), w)) := by
      intro w hw33
      unfold f_X7_checkPool_j103_39 f_X7_checkPool_j140_39 f_X7_checkPool_j177_39
      simp only [ck, cl_nI (show k < 2 ^ 31 by omega), hw33, d7, if_neg dN, nI_1]
    unfold txR
    rw [if_pos q1, et]
    by_cases z : cn b (w2 b (pl (w2 b (pl k + 1)) + 1)) (pl (w2 b (pl k + 1)) + 3) false = true
    · rw [if_neg (fun w => w z), if_pos z, if_pos rfl, fin v e33]
    · rw [if_pos z, if_neg z, if_neg (by omega)]
      exact fin _ e33
  · have d7 : ¬ nI (kd k) = 7 := fun z => q1 ((nI_eq (b := 7) (by omega) (by omega)).mp z)
    simp only [if_neg d7]
    unfold f_X7_checkPool_j103_39
    simp only [ck, cl_nI (show k < 2 ^ 31 by omega), e33]
    by_cases q2 : kd k = 12
    · have hw1 := hw.1 (by omega)
      have hw2 := hw.2 (by omega)
      obtain ⟨t1, t2⟩ := hr.2.2 q2
      have hT1 := h.tm hB t1
      have hT2 := h.tm hB t2
      have e34 := (h7' k (by omega)).2.1
      obtain ⟨-, e35, e36⟩ := h10 k (Or.inr q2)
      have d12 : nI (kd k) = 12 := by rw [q2]; rfl
      simp only [if_pos d12, e35, M_memberName hC hT1, Option.bind_some, zz, M_fail h7, e34]
      unfold txR
      rw [if_neg q1, if_pos q2]
      have fin : ∀ w : St, w 33 k = nI (kd k) → w 36 k = nI (w2 b (pl k + 3)) → w 34 k = nI (pl k) → TM w b n (w2 b (pl k + 3)) (pl (w2 b (pl k + 3)) + 3) (tE b pl (w2 b (pl k + 3))) → f_X7_checkPool_j140_39 (nI k) w = some (.inr (nI (k + 1), @ite _ (MT b (pl (w2 b (pl k + 3)) + 3) (tE b pl (w2 b (pl k + 3))) ∨ ¬ w 7 0 = 0) (Classical.propDecidable _) w (up (up w 7 0 10) 8 0 (nI (pl k))))) := by
        intro w w33 w36 w34 wT
        unfold f_X7_checkPool_j140_39 f_X7_checkPool_j177_39
        simp only [ck, cl_nI (show k < 2 ^ 31 by omega), w33, if_pos d12, w36, M_methodType wT, Option.bind_some, zz, nI_1, w34]
        by_cases z : MT b (pl (w2 b (pl k + 3)) + 3) (tE b pl (w2 b (pl k + 3)))
        · rw [if_neg (fun w => bI_0.mp w z), if_pos (Or.inl z)]
        · rw [if_pos (bI_0.mpr z)]
          by_cases z7 : w 7 0 = 0
          · rw [if_neg (by rintro (y | y); exact z y; exact y z7), bd_some (M_fail z7)]
          · rw [if_pos (Or.inr z7), bd_some (M_failN z7)]
      by_cases z : MN b (pl (w2 b (pl k + 1)) + 3) (tE b pl (w2 b (pl k + 1)))
      · rw [if_neg (fun w => bI_0.mp w z), if_pos z, fin v e33 e36 e34 hT2]
        by_cases z2 : MT b (pl (w2 b (pl k + 3)) + 3) (tE b pl (w2 b (pl k + 3)))
        · rw [if_pos (Or.inl z2), if_pos z2, if_pos rfl]
        · rw [if_neg (by rintro (y | y); exact z2 y; exact y h7), if_neg z2, if_neg (by omega)]
          rfl
      · rw [if_pos (bI_0.mpr z), if_neg z, if_neg (by omega), fin (up (up v 7 0 9) 8 0 (nI (pl k))) e33 e36 e34 hT2, if_pos (show MT b (pl (w2 b (pl k + 3)) + 3) (tE b pl (w2 b (pl k + 3))) ∨ ¬ (up (up v 7 0 9) 8 0 (nI (pl k))) 7 0 = 0 from Or.inr (show ¬ (9 : Int32) = 0 by decide))]
        rfl
    · have d12 : ¬ nI (kd k) = 12 := fun z => q2 ((nI_eq (b := 12) (by omega) (by omega)).mp z)
      unfold f_X7_checkPool_j140_39 f_X7_checkPool_j177_39 txR
      simp only [if_neg d12, ck, cl_nI (show k < 2 ^ 31 by omega), e33, nI_1, if_neg q1, if_neg q2, if_true]
theorem M_txtloop {b : Nat → Nat} {n N : Nat} {kd pl : Nat → Nat} {u v : St} (h : PQ b n N kd pl u v) (hB : BM v b n) (hC : CM v) (h7 : v 7 0 = 0) (hR : ∀ j, 1 ≤ j → j ≤ N → rOK b kd pl j) : ∀ m k N1, k + m = N + 1 → m < N1 → 1 ≤ k → (loopF f_X7_checkPool_b39 N1 (nI k, v) = some (.inr v) ∧ ∀ j, k ≤ j → j < N + 1 → txR b kd pl j = 0) ∨ ∃ j, k ≤ j ∧ j < N + 1 ∧ ¬ txR b kd pl j = 0 ∧ (∀ i, k ≤ i → i < j → txR b kd pl i = 0) ∧ loopF f_X7_checkPool_b39 N1 (nI k, v) = some (.inr (up (up v 7 0 (nI (txR b kd pl j))) 8 0 (nI (pl j)))) := by
  have hN := h.2.2.1
  intro m
  induction m with
  | zero =>
    intro k N1 h1 h2 h3
    obtain ⟨N1, rfl⟩ : ∃ z, N1 = z + 1 := ⟨N1 - 1, by omega⟩
    have e : f_X7_checkPool_b39 (nI k, v) = some (.inl (.inr v)) := by
      unfold f_X7_checkPool_b39
      simp only [h.2.1, if_pos (nI_le (show N + 1 ≤ k by omega) (show k < 2 ^ 31 by omega))]
    rw [loopF_s e]
    exact Or.inl ⟨rfl, fun j j1 j2 => by omega⟩
  | succ m ih =>
    intro k N1 h1 h2 h3
    obtain ⟨N1, rfl⟩ : ∃ z, N1 = z + 1 := ⟨N1 - 1, by omega⟩
    have e := M_txtstep h hB hC h7 hR h3 (show k ≤ N by omega)
    rw [loopF_s e]
    by_cases q : txR b kd pl k = 0
    · rw [if_pos q]
      rcases ih (k + 1) N1 (by omega) (by omega) (by omega) with ⟨a, a2⟩ | ⟨j, a1, a2, a3, a4, a5⟩
      · exact Or.inl ⟨a, fun j j1 j2 => by
          by_cases hj : j = k
          · rw [hj]; exact q
          · exact a2 j (by omega) j2⟩
      · exact Or.inr ⟨j, by omega, a2, a3, fun i i1 i2 => by
          by_cases hi : i = k
          · rw [hi]; exact q
          · exact a4 i (by omega) i2, a5⟩
    · rw [if_neg q]
      have hc := txR_c (b := b) (kd := kd) (pl := pl) (x := k)
      refine Or.inr ⟨k, Nat.le_refl _, by omega, q, fun i i1 i2 => by omega, ?_⟩
      obtain ⟨N1, rfl⟩ : ∃ z, N1 = z + 1 := ⟨N1 - 1, by omega⟩
      have hF : ¬ (up (up v 7 0 (nI (txR b kd pl k))) 8 0 (nI (pl k))) 7 0 = 0 := nI_nz q (by omega)
      have e2 : f_X7_checkPool_b39 (nI (k + 1), up (up v 7 0 (nI (txR b kd pl k))) 8 0 (nI (pl k))) = some (.inl (.inr (up (up v 7 0 (nI (txR b kd pl k))) 8 0 (nI (pl k))))) := by
        unfold f_X7_checkPool_b39
        simp only [if_neg hF, ite_self]
      show loopF _ (N1 + 1) _ = _
      rw [loopF_s e2]
      rfl
theorem st_check {u0 v0 u v : St} {b : Nat → Nat} {n N pos : Nat} {kd pl : Nat → Nat} (hE : EV u0 v0 b n) (h : JS True u0 v0 n pos n 1 n u v) (hP : PQ b n N kd pl u v) : ∃ v1, f_X7_checkPool v = some v1 ∧ ((f_X4_judgeReferences u = some (1, u) ∧ f_X4_judgeTexts u = some (1, u) ∧ v1 = v) ∨ (f_X4_judgeReferences u = some (1, u) ∧ ∃ u1, f_X4_judgeTexts u = some (0, u1) ∧ EE True u0 v0 u1 v1) ∨ (∃ u1, f_X4_judgeReferences u = some (0, u1) ∧ EE True u0 v0 u1 v1)) := by
  have hBX := hE.bx h.1
  have hBM := hE.bm h.2.1
  have hN := hP.2.2.1
  unfold f_X7_checkPool f_X7_checkPool_j183
  rw [show (1 : Int32) = nI 1 from rfl]
  rcases M_refloop hP hE.by h.z N 1 FU (by omega) (by rw [FU_def]; omega) (by omega) with ⟨e1, e2⟩ | ⟨j, j1, j2, j3, j4, e1⟩
  · rcases X_judgeReferences hP hBX with ⟨x1, x2⟩ | ⟨k, k1, k2, k3, -⟩
    rotate_left
    · exact absurd (e2 k k1 k2) k3
    rw [bd_some e1]
    simp only [Sum.elim_inr]
    rcases M_txtloop hP hBM (hE.cm h.2.1) h.z x2 N 1 FU (by omega) (by rw [FU_def]; omega) (by omega) with ⟨e3, e4⟩ | ⟨j, j1, j2, j3, j4, e3⟩
    · rcases X_judgeTexts hP hBX x2 with ⟨y1, y2⟩ | ⟨k, k1, k2, k3, -⟩
      · rw [bd_some e3]
        exact ⟨v, rfl, Or.inl ⟨x1, y1, rfl⟩⟩
      · exact absurd (e4 k k1 k2) k3
    · rcases X_judgeTexts hP hBX x2 with ⟨y1, y2⟩ | ⟨k, k1, k2, k3, k4, y1⟩
      · exact absurd (y2 j j1 j2) j3
      · have : j = k := by
          rcases Nat.lt_trichotomy j k with z | z | z
          · exact absurd (k4 j j1 z) j3
          · exact z
          · exact absurd (j4 k k1 z) k3
        subst this
        have hc := txR_c (b := b) (kd := kd) (pl := pl) (x := j)
        rw [bd_some e3]
        exact ⟨_, rfl, Or.inr (Or.inl ⟨x1, _, y1, h.err j3 (by omega) _⟩)⟩
  · rcases X_judgeReferences hP hBX with ⟨x1, x2⟩ | ⟨k, k1, k2, k3, k4, x1⟩
    · exact absurd (x2 j j1 j2) j3
    · have : j = k := by
        rcases Nat.lt_trichotomy j k with z | z | z
        · exact absurd (k4 j j1 z) j3
        · exact z
        · exact absurd (j4 k k1 z) k3
      subst this
      have hF : ¬ (up (up v 7 0 8) 8 0 (nI (pl j))) 7 0 = 0 := show ¬ (8 : Int32) = 0 by decide
      have e2 : f_X7_checkPool_b39 (nI 1, up (up v 7 0 8) 8 0 (nI (pl j))) = some (.inl (.inr (up (up v 7 0 8) 8 0 (nI (pl j))))) := by
        unfold f_X7_checkPool_b39
        simp only [if_neg hF, ite_self]
      rw [bd_some e1]
      simp only [Sum.elim_inr]
      rw [show FU = 999999 + 1 from rfl, loopF_s e2]
      exact ⟨_, rfl, Or.inr (Or.inr ⟨_, x1, h.err (r := 8) (by omega) (by omega) _⟩)⟩
