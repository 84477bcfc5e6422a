/-- names -/
def FNc (c : Nat) : Prop := c ≠ 46 ∧ c ≠ 59 ∧ c ≠ 91 ∧ c ≠ 47
def FN (b : Nat → Nat) (s t : Nat) : Prop := s < t ∧ ∀ i, s ≤ i → i < t → FNc (b i)
theorem X_isFieldName {u : St} {b : Nat → Nat} {n s t : Nat} (hB : BX u b n) (hst : s ≤ t) (ht : t ≤ n) : f_X3_isFieldName (nI s) (nI t) u = some (bI (FN b s t)) := by
  have hn := hB.1
  have key : ∀ k, s ≤ k → k < t → (FNc (b k) ∧ f_X3_isFieldName_b2 (nI s) (nI t) u (nI k) = some (.inr (nI (k + 1)))) ∨ (¬ FNc (b k) ∧ f_X3_isFieldName_b2 (nI s) (nI t) u (nI k) = some (.inl (.inl 0))) := by
    intro k h1 h2
    obtain ⟨e1, e2⟩ := hB.2 k (by omega)
    unfold f_X3_isFieldName_b2 f_X3_isFieldName_j39_2
    simp (disch := omega) only [L0, L1, L2, L3, L4, L5, L6, L7, L8, L9, L10, L11, L12, L13, L14, L15, L16, L17, L18, L20, L21, L22, L23, L24, L25, L26, L27, L28, L29, L32, L34, L40, L41, L45, L46, L47, L51, L54, L59, L60, L61, L62, L64, L65, L66, L67, L68, L69, L70, L73, L74, L76, L80, L83, L86, L87, L90, L91, L96, L97, L99, L100, L101, L105, L108, L110, L111, L115, L116, L117, L118, L127, L128, L132, L135, L153, L167, L170, L172, L177, L184, L191, L192, L196, L200, L223, L224, L239, L240, L255, L256, L400, L512, L1024, L1280, eqN, leN, ltN, chkN, cl_nI, nI_add]
    simp only [e1]
    simp (disch := omega) only [L0, L1, L2, L3, L4, L5, L6, L7, L8, L9, L10, L11, L12, L13, L14, L15, L16, L17, L18, L20, L21, L22, L23, L24, L25, L26, L27, L28, L29, L32, L34, L40, L41, L45, L46, L47, L51, L54, L59, L60, L61, L62, L64, L65, L66, L67, L68, L69, L70, L73, L74, L76, L80, L83, L86, L87, L90, L91, L96, L97, L99, L100, L101, L105, L108, L110, L111, L115, L116, L117, L118, L127, L128, L132, L135, L153, L167, L170, L172, L177, L184, L191, L192, L196, L200, L223, L224, L239, L240, L255, L256, L400, L512, L1024, L1280, eqN, leN, ltN, chkN, cl_nI, nI_add]
    grind [FNc]
  have he : f_X3_isFieldName_b2 (nI s) (nI t) u (nI t) = some (.inl (.inr ())) := by
    unfold f_X3_isFieldName_b2
    simp (disch := omega) only [L0, L1, L2, L3, L4, L5, L6, L7, L8, L9, L10, L11, L12, L13, L14, L15, L16, L17, L18, L20, L21, L22, L23, L24, L25, L26, L27, L28, L29, L32, L34, L40, L41, L45, L46, L47, L51, L54, L59, L60, L61, L62, L64, L65, L66, L67, L68, L69, L70, L73, L74, L76, L80, L83, L86, L87, L90, L91, L96, L97, L99, L100, L101, L105, L108, L110, L111, L115, L116, L117, L118, L127, L128, L132, L135, L153, L167, L170, L172, L177, L184, L191, L192, L196, L200, L223, L224, L239, L240, L255, L256, L400, L512, L1024, L1280, eqN, leN, ltN, chkN, cl_nI, nI_add]
    grind
  unfold f_X3_isFieldName f_X3_isFieldName_j57
  rcases loop_up (β := Int32 ⊕ Unit) (fun k => FNc (b k)) (fun _ => .inl 0) (.inr ()) hst (by omega) key he with ⟨e, h⟩ | ⟨k, h1, h2, h3, h4, e⟩
  · rw [bd_some e]
    show (if nI t ≤ nI s then _ else _) = _
    by_cases q : s < t
    · rw [if_ff (nI_ge q (by omega)), bchk_1, bI_t ⟨q, h⟩]
    · rw [if_tt (nI_le (by omega) (by omega)), bchk_0, bI_f (fun z => q z.1)]
  · rw [bd_some e]
    show some 0 = _
    rw [bI_f (fun z => h3 (z.2 k h1 h2))]
/-- the reference's bytes, and a text of it -/
def BM (v : St) (b : Nat → Nat) (n : Nat) : Prop := n ≤ 400 ∧ ∀ i, i < n → v 30 i = nI (b i) ∧ b i < 256
def TM (v : St) (b : Nat → Nat) (n x s t : Nat) : Prop := x < 420 ∧ v 35 x = nI s ∧ v 36 x = nI (t - s) ∧ s ≤ t ∧ t ≤ n ∧ BM v b n
theorem M_letter {v : St} {b : Nat → Nat} {n x s t k : Nat} (hT : TM v b n x s t) (hk : s + k < n) : f_X7_letter (nI x) (nI k) v = some (nI (b (s + k))) := by
  obtain ⟨hx, e1, e2, h1, h2, hB⟩ := hT
  have hn := hB.1
  unfold f_X7_letter
  simp (disch := omega) only [cl_nI, e1, nI_add, chkN, (hB.2 (s + k) hk).1]
theorem M_fieldName {v : St} {b : Nat → Nat} {n x s t : Nat} (hT : TM v b n x s t) : f_X7_fieldName (nI x) v = some (bI (FN b s t)) := by
  have hL := @M_letter v b n x s t
  obtain ⟨hx, e1, e2, h1, h2, hB⟩ := id hT
  have hn := hB.1
  have key : ∀ k, 0 ≤ k → k < t - s → (FNc (b (s + k)) ∧ f_X7_fieldName_b2 (nI x) v (nI k) = some (.inr (nI (k + 1)))) ∨ (¬ FNc (b (s + k)) ∧ f_X7_fieldName_b2 (nI x) v (nI k) = some (.inl (.inl 0))) := by
    intro k a1 a2
    have e3 := hB.2 (s + k) (by omega)
    unfold f_X7_fieldName_b2 f_X7_fieldName_j43_2
    rw [hL hT (by omega)]
    simp only [Option.bind_some]
    simp (disch := omega) only [cl_nI, e2, chkN]
    simp (disch := omega) only [L0, L1, L2, L3, L4, L5, L6, L7, L8, L9, L10, L11, L12, L13, L14, L15, L16, L17, L18, L20, L21, L22, L23, L24, L25, L26, L27, L28, L29, L32, L34, L40, L41, L45, L46, L47, L51, L54, L59, L60, L61, L62, L64, L65, L66, L67, L68, L69, L70, L73, L74, L76, L80, L83, L86, L87, L90, L91, L96, L97, L99, L100, L101, L105, L108, L110, L111, L115, L116, L117, L118, L127, L128, L132, L135, L153, L167, L170, L172, L177, L184, L191, L192, L196, L200, L223, L224, L239, L240, L255, L256, L400, L512, L1024, L1280, eqN, leN, ltN, chkN, cl_nI, nI_add]
    grind [FNc]
  have he : f_X7_fieldName_b2 (nI x) v (nI (t - s)) = some (.inl (.inr ())) := by
    unfold f_X7_fieldName_b2
    simp (disch := omega) only [cl_nI, e2, chkN]
    simp (disch := omega) only [L0, L1, L2, L3, L4, L5, L6, L7, L8, L9, L10, L11, L12, L13, L14, L15, L16, L17, L18, L20, L21, L22, L23, L24, L25, L26, L27, L28, L29, L32, L34, L40, L41, L45, L46, L47, L51, L54, L59, L60, L61, L62, L64, L65, L66, L67, L68, L69, L70, L73, L74, L76, L80, L83, L86, L87, L90, L91, L96, L97, L99, L100, L101, L105, L108, L110, L111, L115, L116, L117, L118, L127, L128, L132, L135, L153, L167, L170, L172, L177, L184, L191, L192, L196, L200, L223, L224, L239, L240, L255, L256, L400, L512, L1024, L1280, eqN, leN, ltN, chkN, cl_nI, nI_add]
    grind
  unfold f_X7_fieldName f_X7_fieldName_j65
  rw [L0]
  rcases loop_up (β := Int32 ⊕ Unit) (fun k => FNc (b (s + k))) (fun _ => .inl 0) (.inr ()) (Nat.zero_le _) (by omega) key he with ⟨e, h⟩ | ⟨k, a1, a2, a3, a4, e⟩
  · rw [bd_some e]
    simp only [Sum.elim_inr]
    simp (disch := omega) only [cl_nI, e2, chkN, leN]
    by_cases q : s < t
    · rw [if_neg (by omega), bchk_1, bI_t ⟨q, fun i b1 b2 => by have := h (i - s) (by omega) (by omega); rwa [show s + (i - s) = i by omega] at this⟩]
    · rw [if_pos (by omega), ← L0, bchk_0, bI_f (fun z => q z.1)]
  · rw [bd_some e]
    show some 0 = _
    rw [bI_f (fun z => a3 (z.2 (s + k) (by omega) (by omega)))]
