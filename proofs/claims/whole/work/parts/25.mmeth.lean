theorem M_methodType {v : St} {b : Nat → Nat} {n x s t : Nat} (hT : TM v b n x s t) : f_X7_methodType (nI x) v = some (bI (MT b s t)) := by
  have hL := @M_letter v b n x s t
  obtain ⟨hx, e1, e2, h1, h2, hB⟩ := id hT
  have hn := hB.1
  have main : ∀ m k N, t < s + k + m → s + k ≤ t → t + 1 < s + k + N → loopF (f_X7_methodType_b26 (nI x) (nI (t - s)) v) N (nI k) = some (.inr (match prm b t m (s + k) with | none => -1 | some e => nI (e - s))) := by
    intro m
    induction m with
    | zero => intro k N a1 a2 a3; omega
    | succ m ih =>
      intro k N a1 a2 a3
      obtain ⟨N, rfl⟩ : ∃ z, N = z + 1 := ⟨N - 1, by omega⟩
      unfold prm
      by_cases q : t ≤ s + k ∨ b (s + k) = 41
      · rw [if_pos q]
        have e : f_X7_methodType_b26 (nI x) (nI (t - s)) v (nI k) = some (.inl (.inr (nI k))) := by
          unfold f_X7_methodType_b26
          rw [if_neg (nI_pos (by omega))]
          by_cases q1 : t - s ≤ k
          · rw [if_pos (nI_le q1 (by omega))]
          · have e3 := (hB.2 (s + k) (by omega)).2
            rw [if_neg (nI_ge (by omega) (by omega)), bd_some (hL hT (by omega)), if_pos (by rw [L41, nI_eq (by omega) (by omega)]; omega)]
        rw [loopF_s e]
        show some (Sum.inr (nI k)) = some (Sum.inr (nI (s + k - s)))
        rw [show s + k - s = k by omega]
      · rw [if_neg q]
        have e3 := (hB.2 (s + k) (by omega)).2
        have e : f_X7_methodType_b26 (nI x) (nI (t - s)) v (nI k) = some (.inr (tI (tEnd b (s + k) t) s)) := by
          unfold f_X7_methodType_b26
          rw [if_neg (nI_pos (by omega)), if_neg (nI_ge (by omega) (by omega)), bd_some (hL hT (by omega)), if_neg (by rw [L41, nI_eq (by omega) (by omega)]; omega), bd_some (M_typeEnd hT (by omega))]
        rw [loopF_s e]
        cases h5 : tEnd b (s + k) t with
        | none =>
          obtain ⟨N, rfl⟩ : ∃ z, N = z + 1 := ⟨N - 1, by omega⟩
          have e6 : f_X7_methodType_b26 (nI x) (nI (t - s)) v (-1) = some (.inl (.inr (-1))) := by
            unfold f_X7_methodType_b26
            rw [if_pos (by decide)]
          show loopF (f_X7_methodType_b26 (nI x) (nI (t - s)) v) (N + 1) (-1) = some (.inr (-1))
          rw [loopF_s e6]
          rfl
        | some e5 =>
          have h6 := tEnd_lt h5
          have z := ih (e5 - s) N (by omega) (by omega) (by omega)
          rw [show s + (e5 - s) = e5 by omega] at z
          exact z
  unfold f_X7_methodType f_X7_methodType_j22
  simp (disch := omega) only [cl_nI, e2, chkN]
  rw [L0]
  simp (disch := omega) only [eqN]
  by_cases q0 : t - s = 0
  · rw [if_pos q0, bI_f (fun z => by have := z.1; omega)]; rfl
  have e3 := (hB.2 s (by omega)).2
  rw [if_neg q0, bd_some (hL hT (k := 0) (by omega)), Nat.add_zero]
  simp (disch := omega) only [L40, eqN]
  by_cases q1 : b s = 40
  rotate_left
  · rw [if_neg q1, bI_f (fun z => q1 z.2.1)]; rfl
  rw [if_pos q1, L1, bd_some (main (t + 1) 1 FU (by omega) (by omega) (by rw [FU_def]; omega))]
  simp only [Sum.elim_inr]
  cases h7 : prm b t (t + 1) (s + 1) with
  | none =>
    show f_X7_methodType_j56 (nI x) (nI (t - s)) (-1) v = _
    unfold f_X7_methodType_j56 f_X7_methodType_j65
    rw [if_pos (by decide), bI_f (fun z => by obtain ⟨_, _, k, z, _⟩ := z; rw [h7] at z; cases z)]
  | some k =>
    have h8 := prm_le _ _ _ h7 (by omega)
    show f_X7_methodType_j56 (nI x) (nI (t - s)) (nI (k - s)) v = _
    have hMT : MT b s t ↔ (k < t ∧ ((k + 1 = t - 1 ∧ b (k + 1) = 86) ∨ tEnd b (k + 1) t = some t)) := ⟨fun z => by obtain ⟨_, _, k2, z, w⟩ := z; rw [h7] at z; cases z; exact w, fun z => ⟨by omega, q1, k, h7, z⟩⟩
    rw [bI_c hMT]
    unfold f_X7_methodType_j56 f_X7_methodType_j65 f_X7_methodType_j90 f_X7_methodType_j105
    rw [if_neg (nI_pos (by omega)), bchk_0, bchk_1]
    by_cases q2 : k < t
    rotate_left
    · rw [if_neg (nI_nlt (by omega) (by omega)), bI_f (fun w => q2 w.1)]
    rw [if_pos (nI_lt (by omega) (by omega)), nI_1, show (nI (t - s) - 1 : Int32) = nI (t - s - 1) from pk_sub (b := 1) (by omega), bd_some (M_typeEnd hT (f := k - s + 1) (by omega)), show s + (k - s + 1) = k + 1 by omega]
    have z9 := tI_eq (b := b) (r := k + 1) (t := t) (s := s) (by omega) (by omega) (by omega)
    by_cases q3 : k + 1 = t - 1
    · have e4 := (hB.2 (k + 1) (by omega)).2
      rw [if_pos (by rw [show k - s + 1 = t - s - 1 by omega]), bd_some (hL hT (k := k - s + 1) (by omega)), show s + (k - s + 1) = k + 1 by omega]
      simp (disch := omega) only [L86, eqN]
      by_cases q4 : b (k + 1) = 86
      · rw [if_pos q4, bI_t ⟨q2, Or.inl ⟨q3, q4⟩⟩]
      · rw [if_neg q4]
        by_cases q5 : tEnd b (k + 1) t = some t
        · rw [if_pos (z9.mpr q5), bI_t ⟨q2, Or.inr q5⟩]
        · rw [if_neg (fun w => q5 (z9.mp w)), bI_f (fun w => w.2.elim (fun w => q4 w.2) q5)]
    · rw [if_neg (fun w => q3 (by have := (nI_eq (by omega) (by omega)).mp w; omega))]
      by_cases q5 : tEnd b (k + 1) t = some t
      · rw [if_pos (z9.mpr q5), bI_t ⟨q2, Or.inr q5⟩]
      · rw [if_neg (fun w => q5 (z9.mp w)), bI_f (fun w => w.2.elim (fun w => q3 w.1) q5)]
/-- characters -/
def csz (c : Nat) : Nat := if 1 ≤ c ∧ c ≤ 127 then 1 else if 192 ≤ c ∧ c ≤ 223 then 2 else if 224 ≤ c ∧ c ≤ 239 then 3 else 0
def cgood (b : Nat → Nat) (i t : Nat) : Prop := csz (b i) ≠ 0 ∧ i + csz (b i) ≤ t ∧ ∀ j, i < j → j < i + csz (b i) → 128 ≤ b j ∧ b j ≤ 191
noncomputable def cbad (b : Nat → Nat) (t : Nat) : Nat → Nat → Option Nat
  | 0, _ => none
  | m + 1, i => @ite _ (t ≤ i) (Classical.propDecidable _) none (@ite _ (cgood b i t) (Classical.propDecidable _) (cbad b t m (i + csz (b i))) (some i))
theorem csz_le (c : Nat) : csz c ≤ 3 := by unfold csz; split <;> (try split) <;> (try split) <;> omega
theorem X_characterSize {u : St} {c : Nat} (hc : c < 256) : f_X3_characterSize (nI c) u = some (nI (csz c)) := by
  unfold f_X3_characterSize f_X3_characterSize_j13 f_X3_characterSize_j29 f_X3_characterSize_j47 f_X3_characterSize_j48 csz
  simp (disch := omega) only [L0, L1, L2, L3, L4, L5, L6, L7, L8, L9, L10, L11, L12, L13, L14, L15, L16, L17, L18, L20, L21, L22, L23, L24, L25, L26, L27, L28, L29, L32, L34, L40, L41, L45, L46, L47, L51, L54, L59, L60, L61, L62, L64, L65, L66, L67, L68, L69, L70, L73, L74, L76, L80, L83, L86, L87, L90, L91, L96, L97, L99, L100, L101, L105, L108, L110, L111, L115, L116, L117, L118, L127, L128, L132, L135, L153, L167, L170, L172, L177, L184, L191, L192, L196, L200, L223, L224, L239, L240, L255, L256, L400, L512, L1024, L1280, eqN, leN, ltN, chkN, cl_nI, nI_add]
  grind
theorem X_firstNoCharacter {u : St} {b : Nat → Nat} {n s t : Nat} (hB : BX u b n) (hst : s ≤ t) (ht : t ≤ n) : f_X3_firstNoCharacter (nI s) (nI t) u = some (match cbad b t (t + 1) s with | none => -1 | some i => nI i) := by
  have hn := hB.1
  have main : ∀ m i N, t < i + m → i ≤ t → t < i + N → loopF (f_X3_firstNoCharacter_b2 (nI t) u) N (nI i) = some (match cbad b t m i with | none => .inr () | some j => .inl (nI j)) := by
    intro m
    induction m with
    | zero => intro i N h1 h2 h3; omega
    | succ m ih =>
      intro i N h1 h2 h3
      obtain ⟨N, rfl⟩ : ∃ z, N = z + 1 := ⟨N - 1, by omega⟩
      unfold cbad
      by_cases q : t ≤ i
      · have e : f_X3_firstNoCharacter_b2 (nI t) u (nI i) = some (.inl (.inr ())) := by
          unfold f_X3_firstNoCharacter_b2
          rw [if_pos (nI_le q (by omega))]
        rw [if_pos q, loopF_s e]
        rfl
      rw [if_neg q]
      obtain ⟨e1, e2⟩ := hB.2 i (by omega)
      have hc := csz_le (b i)
      by_cases q2 : csz (b i) ≠ 0 ∧ i + csz (b i) ≤ t
      rotate_left
      · have e : f_X3_firstNoCharacter_b2 (nI t) u (nI i) = some (.inl (.inl (nI i))) := by
          unfold f_X3_firstNoCharacter_b2 f_X3_firstNoCharacter_j28_2
          rw [if_neg (nI_ge (by omega) (by omega)), chkN (by omega) (by omega), cl_nI (by omega), e1, bd_some (X_characterSize e2), pk_sub h2]
          simp (disch := omega) only [L0, eqN, leN]
          by_cases q3 : csz (b i) = 0
          · rw [if_pos q3]
          · rw [if_neg q3, if_neg (by omega)]
        rw [if_neg (fun z => q2 ⟨z.1, z.2.1⟩), loopF_s e]
        rfl
      have key : ∀ k, i + 1 ≤ k → k < i + csz (b i) → ((128 ≤ b k ∧ b k ≤ 191) ∧ f_X3_firstNoCharacter_b35 (nI t) (nI i) (nI (csz (b i))) u (nI k) = some (.inr (nI (k + 1)))) ∨ (¬ (128 ≤ b k ∧ b k ≤ 191) ∧ f_X3_firstNoCharacter_b35 (nI t) (nI i) (nI (csz (b i))) u (nI k) = some (.inl (.inl (nI i)))) := by
        intro k a1 a2
        obtain ⟨e3, e4⟩ := hB.2 k (by omega)
        unfold f_X3_firstNoCharacter_b35 f_X3_firstNoCharacter_j64_35
        simp (disch := omega) only [L0, L1, L2, L3, L4, L5, L6, L7, L8, L9, L10, L11, L12, L13, L14, L15, L16, L17, L18, L20, L21, L22, L23, L24, L25, L26, L27, L28, L29, L32, L34, L40, L41, L45, L46, L47, L51, L54, L59, L60, L61, L62, L64, L65, L66, L67, L68, L69, L70, L73, L74, L76, L80, L83, L86, L87, L90, L91, L96, L97, L99, L100, L101, L105, L108, L110, L111, L115, L116, L117, L118, L127, L128, L132, L135, L153, L167, L170, L172, L177, L184, L191, L192, L196, L200, L223, L224, L239, L240, L255, L256, L400, L512, L1024, L1280, eqN, leN, ltN, chkN, cl_nI, nI_add]
        simp only [e3]
        simp (disch := omega) only [L0, L1, L2, L3, L4, L5, L6, L7, L8, L9, L10, L11, L12, L13, L14, L15, L16, L17, L18, L20, L21, L22, L23, L24, L25, L26, L27, L28, L29, L32, L34, L40, L41, L45, L46, L47, L51, L54, L59, L60, L61, L62, L64, L65, L66, L67, L68, L69, L70, L73, L74, L76, L80, L83, L86, L87, L90, L91, L96, L97, L99, L100, L101, L105, L108, L110, L111, L115, L116, L117, L118, L127, L128, L132, L135, L153, L167, L170, L172, L177, L184, L191, L192, L196, L200, L223, L224, L239, L240, L255, L256, L400, L512, L1024, L1280, eqN, leN, ltN, chkN, cl_nI, nI_add]
        grind
      have he : f_X3_firstNoCharacter_b35 (nI t) (nI i) (nI (csz (b i))) u (nI (i + csz (b i))) = some (.inl (.inr ())) := by
        unfold f_X3_firstNoCharacter_b35
        simp (disch := omega) only [L0, L1, L2, L3, L4, L5, L6, L7, L8, L9, L10, L11, L12, L13, L14, L15, L16, L17, L18, L20, L21, L22, L23, L24, L25, L26, L27, L28, L29, L32, L34, L40, L41, L45, L46, L47, L51, L54, L59, L60, L61, L62, L64, L65, L66, L67, L68, L69, L70, L73, L74, L76, L80, L83, L86, L87, L90, L91, L96, L97, L99, L100, L101, L105, L108, L110, L111, L115, L116, L117, L118, L127, L128, L132, L135, L153, L167, L170, L172, L177, L184, L191, L192, L196, L200, L223, L224, L239, L240, L255, L256, L400, L512, L1024, L1280, eqN, leN, ltN, chkN, cl_nI, nI_add]
        grind
      have e0 : f_X3_firstNoCharacter_b2 (nI t) u (nI i) = (loopF (f_X3_firstNoCharacter_b35 (nI t) (nI i) (nI (csz (b i))) u) FU (nI (i + 1))).bind fun q110 => Sum.elim (fun q11 => some (.inl (.inl q11))) (fun _ => some (.inr (nI (i + csz (b i))))) q110 := by
        unfold f_X3_firstNoCharacter_b2
        rw [if_neg (nI_ge (by omega) (by omega)), chkN (by omega) (by omega), cl_nI (by omega), e1, bd_some (X_characterSize e2), pk_sub h2]
        simp (disch := omega) only [L0, eqN, leN]
        rw [if_neg q2.1, if_pos (by omega), nI_1, nI_add]
      rcases loop_up (β := Int32 ⊕ Unit) (fun k => 128 ≤ b k ∧ b k ≤ 191) (fun _ => .inl (nI i)) (.inr ()) (by omega) (by omega) key he with ⟨e, h⟩ | ⟨k, a1, a2, a3, a4, e⟩
      · rw [bd_some e] at e0
        rw [if_pos ⟨q2.1, q2.2, fun j b1 b2 => h j (by omega) b2⟩, loopF_s e0]
        exact ih _ N (by omega) (by omega) (by omega)
      · rw [bd_some e] at e0
        rw [if_neg (fun z => a3 (z.2.2 k (by omega) a2)), loopF_s e0]
        rfl
  unfold f_X3_firstNoCharacter
  rw [bd_some (main (t + 1) s FU (by omega) hst (by rw [FU_def]; omega))]
  cases cbad b t (t + 1) s <;> rfl
