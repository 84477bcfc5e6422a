/-- class names, from place i on, m bytes; p: the part has bytes -/
def cn (b : Nat → Nat) : Nat → Nat → Bool → Bool
  | 0, _, p => p
  | m + 1, i, p => if b i = 46 ∨ b i = 59 ∨ b i = 91 ∨ (b i = 47 ∧ p = false) then false else cn b m (i + 1) (decide (b i ≠ 47))
def b2 (p : Bool) : Int32 := nI p.toNat
theorem b2_bI {p : Bool} : b2 p = bI (p = true) := by
  cases p
  · rw [bI_f (by decide)]; rfl
  · rw [bI_t rfl]; rfl
theorem X_isClassName {u : St} {b : Nat → Nat} {n s t : Nat} (hB : BX u b n) (hst : s ≤ t) (ht : t ≤ n) : f_X3_isClassName (nI s) (nI t) u = some (bI (cn b (t - s) s false = true)) := by
  have hn := hB.1
  have main : ∀ m k (p : Bool) N, k + m = t → m < N → (loopF (f_X3_isClassName_b5 (nI t) u) N (b2 p, nI k)).bind (fun q130 => Sum.elim (fun q13 => some q13) (fun q13 => bchk q13 (some q13)) q130) = some (b2 (cn b m k p)) := by
    intro m
    induction m with
    | zero =>
      intro k p N h1 h2
      obtain ⟨N, rfl⟩ : ∃ z, N = z + 1 := ⟨N - 1, by omega⟩
      have e : f_X3_isClassName_b5 (nI t) u (b2 p, nI k) = some (.inl (.inr (b2 p))) := by
        unfold f_X3_isClassName_b5
        rw [if_pos (nI_le (by omega) (by omega))]
      rw [loopF_s e]
      show bchk (b2 p) _ = _
      rw [b2_bI, bchk_bI, ← b2_bI]
      rfl
    | succ m ih =>
      intro k p N h1 h2
      obtain ⟨N, rfl⟩ : ∃ z, N = z + 1 := ⟨N - 1, by omega⟩
      obtain ⟨e1, e2⟩ := hB.2 k (by omega)
      by_cases q : b k = 46 ∨ b k = 59 ∨ b k = 91 ∨ (b k = 47 ∧ p = false)
      · have e : f_X3_isClassName_b5 (nI t) u (b2 p, nI k) = some (.inl (.inl 0)) := by
          unfold f_X3_isClassName_b5 f_X3_isClassName_j25_5 f_X3_isClassName_j63_5 f_X3_isClassName_j65_5 f_X3_isClassName_j75_5
          cases p
          · simp only [b2, Bool.toNat_true, Bool.toNat_false]
            simp (disch := omega) only [L0, L1, L2, L3, L4, L5, L6, L7, L8, L9, L10, L11, L12, L13, L14, L15, L16, L17, L18, L20, L21, L22, L23, L24, L25, L26, L27, L28, L29, L32, L34, L40, L41, L45, L46, L47, L51, L54, L59, L60, L61, L62, L64, L65, L66, L67, L68, L69, L70, L73, L74, L76, L80, L83, L86, L87, L90, L91, L96, L97, L99, L100, L101, L105, L108, L110, L111, L115, L116, L117, L118, L127, L128, L132, L135, L153, L167, L170, L172, L177, L184, L191, L192, L196, L200, L223, L224, L239, L240, L255, L256, L400, L512, L1024, L1280, eqN, leN, ltN, chkN, cl_nI, nI_add]
            simp only [e1]
            simp (disch := omega) only [L0, L1, L2, L3, L4, L5, L6, L7, L8, L9, L10, L11, L12, L13, L14, L15, L16, L17, L18, L20, L21, L22, L23, L24, L25, L26, L27, L28, L29, L32, L34, L40, L41, L45, L46, L47, L51, L54, L59, L60, L61, L62, L64, L65, L66, L67, L68, L69, L70, L73, L74, L76, L80, L83, L86, L87, L90, L91, L96, L97, L99, L100, L101, L105, L108, L110, L111, L115, L116, L117, L118, L127, L128, L132, L135, L153, L167, L170, L172, L177, L184, L191, L192, L196, L200, L223, L224, L239, L240, L255, L256, L400, L512, L1024, L1280, eqN, leN, ltN, chkN, cl_nI, nI_add]
            grind
          · simp only [b2, Bool.toNat_true, Bool.toNat_false]
            simp (disch := omega) only [L0, L1, L2, L3, L4, L5, L6, L7, L8, L9, L10, L11, L12, L13, L14, L15, L16, L17, L18, L20, L21, L22, L23, L24, L25, L26, L27, L28, L29, L32, L34, L40, L41, L45, L46, L47, L51, L54, L59, L60, L61, L62, L64, L65, L66, L67, L68, L69, L70, L73, L74, L76, L80, L83, L86, L87, L90, L91, L96, L97, L99, L100, L101, L105, L108, L110, L111, L115, L116, L117, L118, L127, L128, L132, L135, L153, L167, L170, L172, L177, L184, L191, L192, L196, L200, L223, L224, L239, L240, L255, L256, L400, L512, L1024, L1280, eqN, leN, ltN, chkN, cl_nI, nI_add]
            simp only [e1]
            simp (disch := omega) only [L0, L1, L2, L3, L4, L5, L6, L7, L8, L9, L10, L11, L12, L13, L14, L15, L16, L17, L18, L20, L21, L22, L23, L24, L25, L26, L27, L28, L29, L32, L34, L40, L41, L45, L46, L47, L51, L54, L59, L60, L61, L62, L64, L65, L66, L67, L68, L69, L70, L73, L74, L76, L80, L83, L86, L87, L90, L91, L96, L97, L99, L100, L101, L105, L108, L110, L111, L115, L116, L117, L118, L127, L128, L132, L135, L153, L167, L170, L172, L177, L184, L191, L192, L196, L200, L223, L224, L239, L240, L255, L256, L400, L512, L1024, L1280, eqN, leN, ltN, chkN, cl_nI, nI_add]
            grind
        rw [loopF_s e]
        unfold cn
        rw [if_pos q]
        rfl
      · have e : f_X3_isClassName_b5 (nI t) u (b2 p, nI k) = some (.inr (b2 (decide (b k ≠ 47)), nI (k + 1))) := by
          unfold f_X3_isClassName_b5 f_X3_isClassName_j25_5 f_X3_isClassName_j63_5 f_X3_isClassName_j65_5 f_X3_isClassName_j75_5
          by_cases w : b k = 47
          · rw [show decide (b k ≠ 47) = false from decide_eq_false (fun z => z w)]
            cases p
            · exact absurd (Or.inr (Or.inr (Or.inr ⟨w, rfl⟩))) q
            · simp only [b2, Bool.toNat_true, Bool.toNat_false]
              simp (disch := omega) only [L0, L1, L2, L3, L4, L5, L6, L7, L8, L9, L10, L11, L12, L13, L14, L15, L16, L17, L18, L20, L21, L22, L23, L24, L25, L26, L27, L28, L29, L32, L34, L40, L41, L45, L46, L47, L51, L54, L59, L60, L61, L62, L64, L65, L66, L67, L68, L69, L70, L73, L74, L76, L80, L83, L86, L87, L90, L91, L96, L97, L99, L100, L101, L105, L108, L110, L111, L115, L116, L117, L118, L127, L128, L132, L135, L153, L167, L170, L172, L177, L184, L191, L192, L196, L200, L223, L224, L239, L240, L255, L256, L400, L512, L1024, L1280, eqN, leN, ltN, chkN, cl_nI, nI_add]
              simp only [e1]
              simp (disch := omega) only [L0, L1, L2, L3, L4, L5, L6, L7, L8, L9, L10, L11, L12, L13, L14, L15, L16, L17, L18, L20, L21, L22, L23, L24, L25, L26, L27, L28, L29, L32, L34, L40, L41, L45, L46, L47, L51, L54, L59, L60, L61, L62, L64, L65, L66, L67, L68, L69, L70, L73, L74, L76, L80, L83, L86, L87, L90, L91, L96, L97, L99, L100, L101, L105, L108, L110, L111, L115, L116, L117, L118, L127, L128, L132, L135, L153, L167, L170, L172, L177, L184, L191, L192, L196, L200, L223, L224, L239, L240, L255, L256, L400, L512, L1024, L1280, eqN, leN, ltN, chkN, cl_nI, nI_add]
              grind
          · rw [show decide (b k ≠ 47) = true from decide_eq_true w]
            cases p
            · simp only [b2, Bool.toNat_true, Bool.toNat_false]
              simp (disch := omega) only [L0, L1, L2, L3, L4, L5, L6, L7, L8, L9, L10, L11, L12, L13, L14, L15, L16, L17, L18, L20, L21, L22, L23, L24, L25, L26, L27, L28, L29, L32, L34, L40, L41, L45, L46, L47, L51, L54, L59, L60, L61, L62, L64, L65, L66, L67, L68, L69, L70, L73, L74, L76, L80, L83, L86, L87, L90, L91, L96, L97, L99, L100, L101, L105, L108, L110, L111, L115, L116, L117, L118, L127, L128, L132, L135, L153, L167, L170, L172, L177, L184, L191, L192, L196, L200, L223, L224, L239, L240, L255, L256, L400, L512, L1024, L1280, eqN, leN, ltN, chkN, cl_nI, nI_add]
              simp only [e1]
              simp (disch := omega) only [L0, L1, L2, L3, L4, L5, L6, L7, L8, L9, L10, L11, L12, L13, L14, L15, L16, L17, L18, L20, L21, L22, L23, L24, L25, L26, L27, L28, L29, L32, L34, L40, L41, L45, L46, L47, L51, L54, L59, L60, L61, L62, L64, L65, L66, L67, L68, L69, L70, L73, L74, L76, L80, L83, L86, L87, L90, L91, L96, L97, L99, L100, L101, L105, L108, L110, L111, L115, L116, L117, L118, L127, L128, L132, L135, L153, L167, L170, L172, L177, L184, L191, L192, L196, L200, L223, L224, L239, L240, L255, L256, L400, L512, L1024, L1280, eqN, leN, ltN, chkN, cl_nI, nI_add]
              grind
            · simp only [b2, Bool.toNat_true, Bool.toNat_false]
              simp (disch := omega) only [L0, L1, L2, L3, L4, L5, L6, L7, L8, L9, L10, L11, L12, L13, L14, L15, L16, L17, L18, L20, L21, L22, L23, L24, L25, L26, L27, L28, L29, L32, L34, L40, L41, L45, L46, L47, L51, L54, L59, L60, L61, L62, L64, L65, L66, L67, L68, L69, L70, L73, L74, L76, L80, L83, L86, L87, L90, L91, L96, L97, L99, L100, L101, L105, L108, L110, L111, L115, L116, L117, L118, L127, L128, L132, L135, L153, L167, L170, L172, L177, L184, L191, L192, L196, L200, L223, L224, L239, L240, L255, L256, L400, L512, L1024, L1280, eqN, leN, ltN, chkN, cl_nI, nI_add]
              simp only [e1]
              simp (disch := omega) only [L0, L1, L2, L3, L4, L5, L6, L7, L8, L9, L10, L11, L12, L13, L14, L15, L16, L17, L18, L20, L21, L22, L23, L24, L25, L26, L27, L28, L29, L32, L34, L40, L41, L45, L46, L47, L51, L54, L59, L60, L61, L62, L64, L65, L66, L67, L68, L69, L70, L73, L74, L76, L80, L83, L86, L87, L90, L91, L96, L97, L99, L100, L101, L105, L108, L110, L111, L115, L116, L117, L118, L127, L128, L132, L135, L153, L167, L170, L172, L177, L184, L191, L192, L196, L200, L223, L224, L239, L240, L255, L256, L400, L512, L1024, L1280, eqN, leN, ltN, chkN, cl_nI, nI_add]
              grind
        rw [loopF_s e]
        unfold cn
        rw [if_neg q]
        exact ih (k + 1) _ N (by omega) (by omega)
  unfold f_X3_isClassName
  rw [← b2_bI]
  exact main (t - s) s false FU (by omega) (by rw [FU_def]; omega)
theorem M_className {v : St} {b : Nat → Nat} {n x s t f g : Nat} (hT : TM v b n x s t) (hfg : f ≤ g) (hg : s + g ≤ n) : f_X7_className (nI x) (nI f) (nI g) v = some (bI (cn b (g - f) (s + f) false = true)) := by
  have hL := @M_letter v b n x s t
  obtain ⟨hx, e1, e2, h1, h2, hB⟩ := id hT
  have hn := hB.1
  have main : ∀ m k (c : Nat) N, k + m = g → c ≤ k → m < N → (loopF (f_X7_className_b6 (nI x) (nI g) v) N (nI c, nI k)).bind (fun q90 => Sum.elim (fun q9 => some q9) (fun q9 => if q9 ≤ 0 then f_X7_className_j89 0 v else f_X7_className_j89 1 v) q90) = some (b2 (cn b m (s + k) (decide (0 < c)))) := by
    intro m
    induction m with
    | zero =>
      intro k c N a1 a0 a2
      obtain ⟨N, rfl⟩ : ∃ z, N = z + 1 := ⟨N - 1, by omega⟩
      have e : f_X7_className_b6 (nI x) (nI g) v (nI c, nI k) = some (.inl (.inr (nI c))) := by
        unfold f_X7_className_b6
        rw [if_pos (nI_le (by omega) (by omega))]
      rw [loopF_s e]
      show (if nI c ≤ 0 then _ else _) = _
      unfold f_X7_className_j89 cn
      rw [bchk_0, bchk_1]
      simp (disch := omega) only [L0, leN]
      by_cases q : 0 < c
      · rw [if_neg (by omega), decide_eq_true q]; rfl
      · rw [if_pos (by omega), decide_eq_false q]; rfl
    | succ m ih =>
      intro k c N a1 a0 a2
      obtain ⟨N, rfl⟩ : ∃ z, N = z + 1 := ⟨N - 1, by omega⟩
      have e3 := (hB.2 (s + k) (by omega)).2
      by_cases q : b (s + k) = 46 ∨ b (s + k) = 59 ∨ b (s + k) = 91 ∨ (b (s + k) = 47 ∧ (decide (0 < c)) = false)
      · have e : f_X7_className_b6 (nI x) (nI g) v (nI c, nI k) = some (.inl (.inl 0)) := by
          unfold f_X7_className_b6 f_X7_className_j54_6 f_X7_className_j56_6 f_X7_className_j71_6
          rw [show ((nI c, nI k) : Int32 × Int32).2 = nI k from rfl, hL hT (by omega)]
          simp only [Option.bind_some]
          simp (disch := omega) only [L0, L1, L2, L3, L4, L5, L6, L7, L8, L9, L10, L11, L12, L13, L14, L15, L16, L17, L18, L20, L21, L22, L23, L24, L25, L26, L27, L28, L29, L32, L34, L40, L41, L45, L46, L47, L51, L54, L59, L60, L61, L62, L64, L65, L66, L67, L68, L69, L70, L73, L74, L76, L80, L83, L86, L87, L90, L91, L96, L97, L99, L100, L101, L105, L108, L110, L111, L115, L116, L117, L118, L127, L128, L132, L135, L153, L167, L170, L172, L177, L184, L191, L192, L196, L200, L223, L224, L239, L240, L255, L256, L400, L512, L1024, L1280, eqN, leN, ltN, chkN, cl_nI, nI_add]
          grind
        rw [loopF_s e]
        unfold cn
        rw [if_pos q]
        rfl
      · have e : f_X7_className_b6 (nI x) (nI g) v (nI c, nI k) = some (.inr (nI (if b (s + k) = 47 then 0 else c + 1), nI (k + 1))) := by
          unfold f_X7_className_b6 f_X7_className_j54_6 f_X7_className_j56_6 f_X7_className_j71_6
          rw [show ((nI c, nI k) : Int32 × Int32).2 = nI k from rfl, hL hT (by omega)]
          simp only [Option.bind_some]
          simp (disch := omega) only [L0, L1, L2, L3, L4, L5, L6, L7, L8, L9, L10, L11, L12, L13, L14, L15, L16, L17, L18, L20, L21, L22, L23, L24, L25, L26, L27, L28, L29, L32, L34, L40, L41, L45, L46, L47, L51, L54, L59, L60, L61, L62, L64, L65, L66, L67, L68, L69, L70, L73, L74, L76, L80, L83, L86, L87, L90, L91, L96, L97, L99, L100, L101, L105, L108, L110, L111, L115, L116, L117, L118, L127, L128, L132, L135, L153, L167, L170, L172, L177, L184, L191, L192, L196, L200, L223, L224, L239, L240, L255, L256, L400, L512, L1024, L1280, eqN, leN, ltN, chkN, cl_nI, nI_add]
          grind
        rw [loopF_s e]
        unfold cn
        rw [if_neg q]
        have z := ih (k + 1) (if b (s + k) = 47 then 0 else c + 1) N (by omega) (by split <;> omega) (by omega)
        rw [show s + (k + 1) = s + k + 1 by omega] at z
        have z2 : decide (0 < (if b (s + k) = 47 then 0 else c + 1)) = decide (b (s + k) ≠ 47) := by
          by_cases w : b (s + k) = 47
          · rw [if_pos w]; simp [w]
          · rw [if_neg w]; simp [w]
        rw [z2] at z
        exact z
  unfold f_X7_className
  rw [← b2_bI]
  exact main (g - f) f 0 FU (by omega) (Nat.zero_le _) (by rw [FU_def]; omega)
/-- the place behind the FIELD TYPE at s -/
def plainT (c : Nat) : Prop := c = 66 ∨ c = 67 ∨ c = 68 ∨ c = 70 ∨ c = 73 ∨ c = 74 ∨ c = 83 ∨ c = 90
noncomputable def brE (b : Nat → Nat) (s t : Nat) : Nat := fstN (fun k => b k = 91) (t - s) s
noncomputable def scE (b : Nat → Nat) (s t : Nat) : Nat := fstN (fun k => ¬ b k = 59) (t - s) s
noncomputable def tEnd (b : Nat → Nat) (s t : Nat) : Option Nat :=
  @ite _ (t ≤ brE b s t ∨ 255 < brE b s t - s) (Classical.propDecidable _) none
    (@ite _ (plainT (b (brE b s t))) (Classical.propDecidable _) (some (brE b s t + 1))
      (@ite _ (b (brE b s t) = 76 ∧ scE b (brE b s t + 1) t < t ∧ cn b (scE b (brE b s t + 1) t - (brE b s t + 1)) (brE b s t + 1) false = true) (Classical.propDecidable _) (some (scE b (brE b s t + 1) t + 1)) none))
def tI (o : Option Nat) (s : Nat) : Int32 := match o with
  | none => -1
  | some e => nI (e - s)
theorem brE_spec {b : Nat → Nat} {s t : Nat} (h : s ≤ t) : s ≤ brE b s t ∧ brE b s t ≤ t := by
  have := fstN_spec (P := fun k => b k = 91) (t - s) s
  unfold brE
  omega
theorem scE_spec {b : Nat → Nat} {s t : Nat} (h : s ≤ t) : s ≤ scE b s t ∧ scE b s t ≤ t := by
  have := fstN_spec (P := fun k => ¬ b k = 59) (t - s) s
  unfold scE
  omega
theorem brE_ge {b : Nat → Nat} {s t : Nat} (h : t ≤ s) : brE b s t = s := by
  unfold brE
  rw [show t - s = 0 by omega]
  rfl
theorem tEnd_lt {b : Nat → Nat} {s t e : Nat} (h : tEnd b s t = some e) : s < e ∧ e ≤ t := by
  unfold tEnd at h
  by_cases q1 : t ≤ brE b s t ∨ 255 < brE b s t - s
  · rw [if_pos q1] at h; cases h
  rw [if_neg q1] at h
  have hst : s ≤ t := by
    rcases Nat.lt_or_ge t s with z | z
    · exact absurd (Or.inl (by rw [brE_ge (by omega)]; omega)) q1
    · exact z
  have h1 := brE_spec (b := b) hst
  have h2 := scE_spec (b := b) (s := brE b s t + 1) (t := t) (by omega)
  by_cases q2 : plainT (b (brE b s t))
  · rw [if_pos q2] at h; cases h; omega
  rw [if_neg q2] at h
  by_cases q3 : b (brE b s t) = 76 ∧ scE b (brE b s t + 1) t < t ∧ cn b (scE b (brE b s t + 1) t - (brE b s t + 1)) (brE b s t + 1) false = true
  · rw [if_pos q3] at h; cases h; omega
  · rw [if_neg q3] at h; cases h
theorem X_brackets {u : St} {b : Nat → Nat} {n s t : Nat} (hB : BX u b n) (hs : s ≤ 402) (ht : t ≤ n) : f_X3_brackets (nI s) (nI t) u = some (nI (brE b s t - s)) := by
  have hn := hB.1
  unfold f_X3_brackets f_X3_brackets_j21
  by_cases hst : s ≤ t
  · have key : ∀ k, s ≤ k → k < t → (b k = 91 ∧ f_X3_brackets_b2 (nI s) (nI t) u (nI k) = some (.inr (nI (k + 1)))) ∨ (¬ b k = 91 ∧ f_X3_brackets_b2 (nI s) (nI t) u (nI k) = some (.inl (.inr (nI k)))) := by
      intro k h1 h2
      obtain ⟨e1, e2⟩ := hB.2 k (by omega)
      unfold f_X3_brackets_b2
      simp (disch := omega) only [L0, L1, L2, L3, L4, L5, L6, L7, L8, L9, L10, L11, L12, L13, L14, L15, L16, L17, L18, L20, L21, L22, L23, L24, L25, L26, L27, L28, L29, L32, L34, L40, L41, L45, L46, L47, L51, L54, L59, L60, L61, L62, L64, L65, L66, L67, L68, L69, L70, L73, L74, L76, L80, L83, L86, L87, L90, L91, L96, L97, L99, L100, L101, L105, L108, L110, L111, L115, L116, L117, L118, L127, L128, L132, L135, L153, L167, L170, L172, L177, L184, L191, L192, L196, L200, L223, L224, L239, L240, L255, L256, L400, L512, L1024, L1280, eqN, leN, ltN, chkN, cl_nI, nI_add]
      simp only [e1]
      simp (disch := omega) only [L0, L1, L2, L3, L4, L5, L6, L7, L8, L9, L10, L11, L12, L13, L14, L15, L16, L17, L18, L20, L21, L22, L23, L24, L25, L26, L27, L28, L29, L32, L34, L40, L41, L45, L46, L47, L51, L54, L59, L60, L61, L62, L64, L65, L66, L67, L68, L69, L70, L73, L74, L76, L80, L83, L86, L87, L90, L91, L96, L97, L99, L100, L101, L105, L108, L110, L111, L115, L116, L117, L118, L127, L128, L132, L135, L153, L167, L170, L172, L177, L184, L191, L192, L196, L200, L223, L224, L239, L240, L255, L256, L400, L512, L1024, L1280, eqN, leN, ltN, chkN, cl_nI, nI_add]
      grind
    have he : f_X3_brackets_b2 (nI s) (nI t) u (nI t) = some (.inl (.inr (nI t))) := by
      unfold f_X3_brackets_b2
      simp (disch := omega) only [L0, L1, L2, L3, L4, L5, L6, L7, L8, L9, L10, L11, L12, L13, L14, L15, L16, L17, L18, L20, L21, L22, L23, L24, L25, L26, L27, L28, L29, L32, L34, L40, L41, L45, L46, L47, L51, L54, L59, L60, L61, L62, L64, L65, L66, L67, L68, L69, L70, L73, L74, L76, L80, L83, L86, L87, L90, L91, L96, L97, L99, L100, L101, L105, L108, L110, L111, L115, L116, L117, L118, L127, L128, L132, L135, L153, L167, L170, L172, L177, L184, L191, L192, L196, L200, L223, L224, L239, L240, L255, L256, L400, L512, L1024, L1280, eqN, leN, ltN, chkN, cl_nI, nI_add]
      grind
    rw [bd_some (loop_fst (β := Int32 ⊕ Int32) (fun k => b k = 91) (fun k => .inr (nI k)) hst (by omega) key he)]
    show some (nI (brE b s t) - nI s) = _
    rw [pk_sub (brE_spec hst).1]
  · have e : f_X3_brackets_b2 (nI s) (nI t) u (nI s) = some (.inl (.inr (nI s))) := by
      unfold f_X3_brackets_b2
      rw [if_pos (nI_le (by omega) (by omega))]
    rw [show FU = 999999 + 1 from rfl, loopF_s e, brE_ge (by omega)]
    show some (nI s - nI s) = _
    rw [pk_sub (Nat.le_refl s)]
theorem X_isPlainType {u : St} {c : Nat} (hc : c < 256) : f_X3_isPlainType (nI c) u = some (bI (plainT c)) := by
  unfold f_X3_isPlainType
  simp (disch := omega) only [L0, L1, L2, L3, L4, L5, L6, L7, L8, L9, L10, L11, L12, L13, L14, L15, L16, L17, L18, L20, L21, L22, L23, L24, L25, L26, L27, L28, L29, L32, L34, L40, L41, L45, L46, L47, L51, L54, L59, L60, L61, L62, L64, L65, L66, L67, L68, L69, L70, L73, L74, L76, L80, L83, L86, L87, L90, L91, L96, L97, L99, L100, L101, L105, L108, L110, L111, L115, L116, L117, L118, L127, L128, L132, L135, L153, L167, L170, L172, L177, L184, L191, L192, L196, L200, L223, L224, L239, L240, L255, L256, L400, L512, L1024, L1280, eqN, leN, ltN, chkN, cl_nI, nI_add]
  by_cases q : plainT c
  · have q' := q; unfold plainT at q'; rw [if_pos q', bI_t q]; rfl
  · have q' := q; unfold plainT at q'; rw [if_neg q', bI_f q]; rfl
theorem M_base {v : St} {c : Nat} (hc : c < 256) : f_X7_base (nI c) v = some (bI (plainT c)) := by
  unfold f_X7_base f_X7_base_j48 f_X7_base_j53
  rw [bchk_0, bchk_1]
  simp (disch := omega) only [L0, L1, L2, L3, L4, L5, L6, L7, L8, L9, L10, L11, L12, L13, L14, L15, L16, L17, L18, L20, L21, L22, L23, L24, L25, L26, L27, L28, L29, L32, L34, L40, L41, L45, L46, L47, L51, L54, L59, L60, L61, L62, L64, L65, L66, L67, L68, L69, L70, L73, L74, L76, L80, L83, L86, L87, L90, L91, L96, L97, L99, L100, L101, L105, L108, L110, L111, L115, L116, L117, L118, L127, L128, L132, L135, L153, L167, L170, L172, L177, L184, L191, L192, L196, L200, L223, L224, L239, L240, L255, L256, L400, L512, L1024, L1280, eqN, leN, ltN, chkN, cl_nI, nI_add]
  by_cases q : plainT c
  · rw [bI_t q, L1]; unfold plainT at q; grind
  · rw [bI_f q, L0]; unfold plainT at q; grind
theorem X_fieldTypeEnd {u : St} {b : Nat → Nat} {n s t : Nat} (hB : BX u b n) (hs : s ≤ 402) (ht : t ≤ n) : f_X3_fieldTypeEnd (nI s) (nI t) u = some (tI (tEnd b s t) 0) := by
  have hn := hB.1
  unfold f_X3_fieldTypeEnd f_X3_fieldTypeEnd_j23 f_X3_fieldTypeEnd_j49
  rw [bd_some (X_brackets hB hs ht)]
  by_cases hst : s ≤ t
  · have h1 := brE_spec (b := b) hst
    rw [nI_add, show s + (brE b s t - s) = brE b s t by omega]
    unfold tEnd
    by_cases q1 : t ≤ brE b s t
    · rw [if_pos (nI_le q1 (by omega)), if_pos (Or.inl q1)]; rfl
    rw [if_neg (nI_ge (by omega) (by omega)), pk_sub h1.1]
    simp (disch := omega) only [L255, leN]
    by_cases q2 : 255 < brE b s t - s
    · rw [if_neg (by omega), if_pos (Or.inr q2)]; rfl
    rw [if_pos (show brE b s t - s ≤ 255 by omega), if_neg (show ¬ (t ≤ brE b s t ∨ 255 < brE b s t - s) by omega), chkN (by omega) (by omega), chkN (by omega) (by omega), cl_nI (by omega)]
    obtain ⟨e1, e2⟩ := hB.2 (brE b s t) (by omega)
    rw [e1]
    simp (disch := omega) only [L76, eqN]
    by_cases q3 : b (brE b s t) = 76
    · rw [if_pos q3, if_neg (by rw [q3]; unfold plainT; omega)]
      have key : ∀ k, brE b s t + 1 ≤ k → k < t → (¬ b k = 59 ∧ f_X3_fieldTypeEnd_b55 (nI t) (nI (brE b s t)) u (nI k) = some (.inr (nI (k + 1)))) ∨ (¬ ¬ b k = 59 ∧ f_X3_fieldTypeEnd_b55 (nI t) (nI (brE b s t)) u (nI k) = some (.inl (.inr (nI k)))) := by
        intro k h1 h2
        obtain ⟨e1, e2⟩ := hB.2 k (by omega)
        unfold f_X3_fieldTypeEnd_b55
        simp (disch := omega) only [L0, L1, L2, L3, L4, L5, L6, L7, L8, L9, L10, L11, L12, L13, L14, L15, L16, L17, L18, L20, L21, L22, L23, L24, L25, L26, L27, L28, L29, L32, L34, L40, L41, L45, L46, L47, L51, L54, L59, L60, L61, L62, L64, L65, L66, L67, L68, L69, L70, L73, L74, L76, L80, L83, L86, L87, L90, L91, L96, L97, L99, L100, L101, L105, L108, L110, L111, L115, L116, L117, L118, L127, L128, L132, L135, L153, L167, L170, L172, L177, L184, L191, L192, L196, L200, L223, L224, L239, L240, L255, L256, L400, L512, L1024, L1280, eqN, leN, ltN, chkN, cl_nI, nI_add]
        simp only [e1]
        simp (disch := omega) only [L0, L1, L2, L3, L4, L5, L6, L7, L8, L9, L10, L11, L12, L13, L14, L15, L16, L17, L18, L20, L21, L22, L23, L24, L25, L26, L27, L28, L29, L32, L34, L40, L41, L45, L46, L47, L51, L54, L59, L60, L61, L62, L64, L65, L66, L67, L68, L69, L70, L73, L74, L76, L80, L83, L86, L87, L90, L91, L96, L97, L99, L100, L101, L105, L108, L110, L111, L115, L116, L117, L118, L127, L128, L132, L135, L153, L167, L170, L172, L177, L184, L191, L192, L196, L200, L223, L224, L239, L240, L255, L256, L400, L512, L1024, L1280, eqN, leN, ltN, chkN, cl_nI, nI_add]
        grind
      have he : f_X3_fieldTypeEnd_b55 (nI t) (nI (brE b s t)) u (nI t) = some (.inl (.inr (nI t))) := by
        unfold f_X3_fieldTypeEnd_b55
        simp (disch := omega) only [L0, L1, L2, L3, L4, L5, L6, L7, L8, L9, L10, L11, L12, L13, L14, L15, L16, L17, L18, L20, L21, L22, L23, L24, L25, L26, L27, L28, L29, L32, L34, L40, L41, L45, L46, L47, L51, L54, L59, L60, L61, L62, L64, L65, L66, L67, L68, L69, L70, L73, L74, L76, L80, L83, L86, L87, L90, L91, L96, L97, L99, L100, L101, L105, L108, L110, L111, L115, L116, L117, L118, L127, L128, L132, L135, L153, L167, L170, L172, L177, L184, L191, L192, L196, L200, L223, L224, L239, L240, L255, L256, L400, L512, L1024, L1280, eqN, leN, ltN, chkN, cl_nI, nI_add]
        grind
      rw [nI_1, bd_some (loop_fst (β := Int32 ⊕ Int32) (fun k => ¬ b k = 59) (fun k => .inr (nI k)) (by omega) (by omega) key he)]
      show f_X3_fieldTypeEnd_j76 (nI t) (nI (brE b s t)) (nI (scE b (brE b s t + 1) t)) u = _
      have h2 := scE_spec (b := b) (s := brE b s t + 1) (t := t) (by omega)
      unfold f_X3_fieldTypeEnd_j76 f_X3_fieldTypeEnd_j101 f_X3_fieldTypeEnd_j102
      by_cases q4 : scE b (brE b s t + 1) t < t
      · rw [if_neg (nI_ge q4 (by omega)), nI_1, nI_1, bd_some (X_isClassName hB h2.1 (by omega))]
        by_cases q5 : cn b (scE b (brE b s t + 1) t - (brE b s t + 1)) (brE b s t + 1) false = true
        · rw [if_neg (by rw [bI_0]; exact fun z => z q5), if_pos ⟨q3, q4, q5⟩]; rfl
        · rw [if_pos (bI_0.mpr q5), if_neg (fun z => q5 z.2.2)]; rfl
      · rw [if_pos (nI_le (by omega) (by omega)), if_neg (fun z => q4 z.2.1)]; rfl
    · rw [if_neg q3, bd_some (X_isPlainType e2)]
      by_cases q4 : plainT (b (brE b s t))
      · rw [if_neg (by rw [bI_0]; exact fun z => z q4), if_pos q4, nI_1]; rfl
      · rw [if_pos (bI_0.mpr q4), if_neg q4, if_neg (fun z => q3 z.1)]; rfl
  · rw [brE_ge (by omega), nI_add, show s + (s - s) = s by omega, if_pos (nI_le (by omega) (by omega))]
    unfold tEnd
    rw [if_pos (Or.inl (by rw [brE_ge (by omega)]; omega))]
    rfl
