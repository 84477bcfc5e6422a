/-- the four words -/
def WDl : List (List Nat) := [[60, 105, 110, 105, 116, 62], [60, 99, 108, 105, 110, 105, 116, 62], [67, 111, 110, 115, 116, 97, 110, 116, 86, 97, 108, 117, 101], [67, 111, 100, 101]]
def WD (b : Nat → Nat) (s t i : Nat) : Prop := t - s = (WDl.getD i []).length ∧ ∀ k, k < (WDl.getD i []).length → b (s + k) = (WDl.getD i []).getD k 0
theorem sch_all : ∀ i, i < 4 → ∀ k, k < (WDl.getD i []).length → SCH i (nI k) = nI ((WDl.getD i []).getD k 0) ∧ (WDl.getD i []).getD k 0 < 256 := by decide +kernel
/-- the reference's constant rows -/
def CM (v : St) : Prop := (∀ k, k < 6 → v 41 k = nI ((WDl.getD 0 []).getD k 0)) ∧ (∀ k, k < 8 → v 42 k = nI ((WDl.getD 1 []).getD k 0)) ∧ (∀ k, k < 4 → v 43 k = nI ((WDl.getD 3 []).getD k 0)) ∧ (∀ k, k < 13 → v 44 k = nI ((WDl.getD 2 []).getD k 0))
theorem X_isWord_s0 {u : St} {b : Nat → Nat} {n s t : Nat} (hB : BX u b n) (hst : s ≤ t) (ht : t ≤ n) : f_X3_isWord_s0 (nI s) (nI t) u = some (bI (WD b s t 0)) := by
  have hn := hB.1
  unfold f_X3_isWord_s0
  rw [pk_sub hst, L6, L0]
  by_cases q : t - s = 6
  · rw [if_pos (by rw [q])]
    have key : ∀ k, 0 ≤ k → k < 6 → (b (s + k) = (WDl.getD 0 []).getD k 0 ∧ f_X3_isWord_s0_b15 (nI s) u (nI k) = some (.inr (nI (k + 1)))) ∨ (¬ b (s + k) = (WDl.getD 0 []).getD k 0 ∧ f_X3_isWord_s0_b15 (nI s) u (nI k) = some (.inl (.inl (nI 0)))) := by
      intro k a1 a2
      obtain ⟨e1, e2⟩ := hB.2 (s + k) (by omega)
      obtain ⟨e3, e4⟩ := sch_all 0 (by decide) k a2
      unfold f_X3_isWord_s0_b15
      simp (disch := omega) only [L0, L1, L2, L3, L4, L5, L6, L7, L8, L9, L10, L11, L12, L13, L14, L15, L16, L17, L18, L20, L21, L22, L23, L24, L25, L26, L27, L28, L29, L32, L34, L40, L41, L45, L46, L47, L51, L54, L59, L60, L61, L62, L64, L65, L66, L67, L68, L69, L70, L73, L74, L76, L80, L83, L86, L87, L90, L91, L96, L97, L99, L100, L101, L105, L108, L110, L111, L115, L116, L117, L118, L127, L128, L132, L135, L153, L167, L170, L172, L177, L184, L191, L192, L196, L200, L223, L224, L239, L240, L255, L256, L400, L512, L1024, L1280, eqN, leN, ltN, chkN, cl_nI, nI_add]
      simp only [e1, e3]
      simp (disch := omega) only [eqN]
      grind
    have he : f_X3_isWord_s0_b15 (nI s) u (nI 6) = some (.inl (.inr ())) := by
      unfold f_X3_isWord_s0_b15
      simp (disch := omega) only [L0, L1, L2, L3, L4, L5, L6, L7, L8, L9, L10, L11, L12, L13, L14, L15, L16, L17, L18, L20, L21, L22, L23, L24, L25, L26, L27, L28, L29, L32, L34, L40, L41, L45, L46, L47, L51, L54, L59, L60, L61, L62, L64, L65, L66, L67, L68, L69, L70, L73, L74, L76, L80, L83, L86, L87, L90, L91, L96, L97, L99, L100, L101, L105, L108, L110, L111, L115, L116, L117, L118, L127, L128, L132, L135, L153, L167, L170, L172, L177, L184, L191, L192, L196, L200, L223, L224, L239, L240, L255, L256, L400, L512, L1024, L1280, eqN, leN, ltN, chkN, cl_nI, nI_add]
      grind
    rcases loop_up (β := Int32 ⊕ Unit) (fun k => b (s + k) = (WDl.getD 0 []).getD k 0) (fun _ => .inl (nI 0)) (.inr ()) (Nat.zero_le 6) (by omega) key he with ⟨e, h⟩ | ⟨k, a1, a2, a3, a4, e⟩
    · rw [bd_some e]
      show some 1 = _
      rw [bI_t ⟨q, fun k hk => h k (Nat.zero_le _) hk⟩]
    · rw [bd_some e]
      show some 0 = _
      rw [bI_f (fun z => a3 (z.2 k a2))]
  · rw [if_neg (by rw [nI_eq (by omega) (by omega)]; exact q), bI_f (fun z => q z.1)]
    rfl
theorem X_isWord_s1 {u : St} {b : Nat → Nat} {n s t : Nat} (hB : BX u b n) (hst : s ≤ t) (ht : t ≤ n) : f_X3_isWord_s1 (nI s) (nI t) u = some (bI (WD b s t 1)) := by
  have hn := hB.1
  unfold f_X3_isWord_s1
  rw [pk_sub hst, L8, L0]
  by_cases q : t - s = 8
  · rw [if_pos (by rw [q])]
    have key : ∀ k, 0 ≤ k → k < 8 → (b (s + k) = (WDl.getD 1 []).getD k 0 ∧ f_X3_isWord_s1_b15 (nI s) u (nI k) = some (.inr (nI (k + 1)))) ∨ (¬ b (s + k) = (WDl.getD 1 []).getD k 0 ∧ f_X3_isWord_s1_b15 (nI s) u (nI k) = some (.inl (.inl (nI 0)))) := by
      intro k a1 a2
      obtain ⟨e1, e2⟩ := hB.2 (s + k) (by omega)
      obtain ⟨e3, e4⟩ := sch_all 1 (by decide) k a2
      unfold f_X3_isWord_s1_b15
      simp (disch := omega) only [L0, L1, L2, L3, L4, L5, L6, L7, L8, L9, L10, L11, L12, L13, L14, L15, L16, L17, L18, L20, L21, L22, L23, L24, L25, L26, L27, L28, L29, L32, L34, L40, L41, L45, L46, L47, L51, L54, L59, L60, L61, L62, L64, L65, L66, L67, L68, L69, L70, L73, L74, L76, L80, L83, L86, L87, L90, L91, L96, L97, L99, L100, L101, L105, L108, L110, L111, L115, L116, L117, L118, L127, L128, L132, L135, L153, L167, L170, L172, L177, L184, L191, L192, L196, L200, L223, L224, L239, L240, L255, L256, L400, L512, L1024, L1280, eqN, leN, ltN, chkN, cl_nI, nI_add]
      simp only [e1, e3]
      simp (disch := omega) only [eqN]
      grind
    have he : f_X3_isWord_s1_b15 (nI s) u (nI 8) = some (.inl (.inr ())) := by
      unfold f_X3_isWord_s1_b15
      simp (disch := omega) only [L0, L1, L2, L3, L4, L5, L6, L7, L8, L9, L10, L11, L12, L13, L14, L15, L16, L17, L18, L20, L21, L22, L23, L24, L25, L26, L27, L28, L29, L32, L34, L40, L41, L45, L46, L47, L51, L54, L59, L60, L61, L62, L64, L65, L66, L67, L68, L69, L70, L73, L74, L76, L80, L83, L86, L87, L90, L91, L96, L97, L99, L100, L101, L105, L108, L110, L111, L115, L116, L117, L118, L127, L128, L132, L135, L153, L167, L170, L172, L177, L184, L191, L192, L196, L200, L223, L224, L239, L240, L255, L256, L400, L512, L1024, L1280, eqN, leN, ltN, chkN, cl_nI, nI_add]
      grind
    rcases loop_up (β := Int32 ⊕ Unit) (fun k => b (s + k) = (WDl.getD 1 []).getD k 0) (fun _ => .inl (nI 0)) (.inr ()) (Nat.zero_le 8) (by omega) key he with ⟨e, h⟩ | ⟨k, a1, a2, a3, a4, e⟩
    · rw [bd_some e]
      show some 1 = _
      rw [bI_t ⟨q, fun k hk => h k (Nat.zero_le _) hk⟩]
    · rw [bd_some e]
      show some 0 = _
      rw [bI_f (fun z => a3 (z.2 k a2))]
  · rw [if_neg (by rw [nI_eq (by omega) (by omega)]; exact q), bI_f (fun z => q z.1)]
    rfl
theorem X_isWord_s2 {u : St} {b : Nat → Nat} {n s t : Nat} (hB : BX u b n) (hst : s ≤ t) (ht : t ≤ n) : f_X3_isWord_s2 (nI s) (nI t) u = some (bI (WD b s t 2)) := by
  have hn := hB.1
  unfold f_X3_isWord_s2
  rw [pk_sub hst, L13, L0]
  by_cases q : t - s = 13
  · rw [if_pos (by rw [q])]
    have key : ∀ k, 0 ≤ k → k < 13 → (b (s + k) = (WDl.getD 2 []).getD k 0 ∧ f_X3_isWord_s2_b15 (nI s) u (nI k) = some (.inr (nI (k + 1)))) ∨ (¬ b (s + k) = (WDl.getD 2 []).getD k 0 ∧ f_X3_isWord_s2_b15 (nI s) u (nI k) = some (.inl (.inl (nI 0)))) := by
      intro k a1 a2
      obtain ⟨e1, e2⟩ := hB.2 (s + k) (by omega)
      obtain ⟨e3, e4⟩ := sch_all 2 (by decide) k a2
      unfold f_X3_isWord_s2_b15
      simp (disch := omega) only [L0, L1, L2, L3, L4, L5, L6, L7, L8, L9, L10, L11, L12, L13, L14, L15, L16, L17, L18, L20, L21, L22, L23, L24, L25, L26, L27, L28, L29, L32, L34, L40, L41, L45, L46, L47, L51, L54, L59, L60, L61, L62, L64, L65, L66, L67, L68, L69, L70, L73, L74, L76, L80, L83, L86, L87, L90, L91, L96, L97, L99, L100, L101, L105, L108, L110, L111, L115, L116, L117, L118, L127, L128, L132, L135, L153, L167, L170, L172, L177, L184, L191, L192, L196, L200, L223, L224, L239, L240, L255, L256, L400, L512, L1024, L1280, eqN, leN, ltN, chkN, cl_nI, nI_add]
      simp only [e1, e3]
      simp (disch := omega) only [eqN]
      grind
    have he : f_X3_isWord_s2_b15 (nI s) u (nI 13) = some (.inl (.inr ())) := by
      unfold f_X3_isWord_s2_b15
      simp (disch := omega) only [L0, L1, L2, L3, L4, L5, L6, L7, L8, L9, L10, L11, L12, L13, L14, L15, L16, L17, L18, L20, L21, L22, L23, L24, L25, L26, L27, L28, L29, L32, L34, L40, L41, L45, L46, L47, L51, L54, L59, L60, L61, L62, L64, L65, L66, L67, L68, L69, L70, L73, L74, L76, L80, L83, L86, L87, L90, L91, L96, L97, L99, L100, L101, L105, L108, L110, L111, L115, L116, L117, L118, L127, L128, L132, L135, L153, L167, L170, L172, L177, L184, L191, L192, L196, L200, L223, L224, L239, L240, L255, L256, L400, L512, L1024, L1280, eqN, leN, ltN, chkN, cl_nI, nI_add]
      grind
    rcases loop_up (β := Int32 ⊕ Unit) (fun k => b (s + k) = (WDl.getD 2 []).getD k 0) (fun _ => .inl (nI 0)) (.inr ()) (Nat.zero_le 13) (by omega) key he with ⟨e, h⟩ | ⟨k, a1, a2, a3, a4, e⟩
    · rw [bd_some e]
      show some 1 = _
      rw [bI_t ⟨q, fun k hk => h k (Nat.zero_le _) hk⟩]
    · rw [bd_some e]
      show some 0 = _
      rw [bI_f (fun z => a3 (z.2 k a2))]
  · rw [if_neg (by rw [nI_eq (by omega) (by omega)]; exact q), bI_f (fun z => q z.1)]
    rfl
theorem X_isWord_s3 {u : St} {b : Nat → Nat} {n s t : Nat} (hB : BX u b n) (hst : s ≤ t) (ht : t ≤ n) : f_X3_isWord_s3 (nI s) (nI t) u = some (bI (WD b s t 3)) := by
  have hn := hB.1
  unfold f_X3_isWord_s3
  rw [pk_sub hst, L4, L0]
  by_cases q : t - s = 4
  · rw [if_pos (by rw [q])]
    have key : ∀ k, 0 ≤ k → k < 4 → (b (s + k) = (WDl.getD 3 []).getD k 0 ∧ f_X3_isWord_s3_b15 (nI s) u (nI k) = some (.inr (nI (k + 1)))) ∨ (¬ b (s + k) = (WDl.getD 3 []).getD k 0 ∧ f_X3_isWord_s3_b15 (nI s) u (nI k) = some (.inl (.inl (nI 0)))) := by
      intro k a1 a2
      obtain ⟨e1, e2⟩ := hB.2 (s + k) (by omega)
      obtain ⟨e3, e4⟩ := sch_all 3 (by decide) k a2
      unfold f_X3_isWord_s3_b15
      simp (disch := omega) only [L0, L1, L2, L3, L4, L5, L6, L7, L8, L9, L10, L11, L12, L13, L14, L15, L16, L17, L18, L20, L21, L22, L23, L24, L25, L26, L27, L28, L29, L32, L34, L40, L41, L45, L46, L47, L51, L54, L59, L60, L61, L62, L64, L65, L66, L67, L68, L69, L70, L73, L74, L76, L80, L83, L86, L87, L90, L91, L96, L97, L99, L100, L101, L105, L108, L110, L111, L115, L116, L117, L118, L127, L128, L132, L135, L153, L167, L170, L172, L177, L184, L191, L192, L196, L200, L223, L224, L239, L240, L255, L256, L400, L512, L1024, L1280, eqN, leN, ltN, chkN, cl_nI, nI_add]
      simp only [e1, e3]
      simp (disch := omega) only [eqN]
      grind
    have he : f_X3_isWord_s3_b15 (nI s) u (nI 4) = some (.inl (.inr ())) := by
      unfold f_X3_isWord_s3_b15
      simp (disch := omega) only [L0, L1, L2, L3, L4, L5, L6, L7, L8, L9, L10, L11, L12, L13, L14, L15, L16, L17, L18, L20, L21, L22, L23, L24, L25, L26, L27, L28, L29, L32, L34, L40, L41, L45, L46, L47, L51, L54, L59, L60, L61, L62, L64, L65, L66, L67, L68, L69, L70, L73, L74, L76, L80, L83, L86, L87, L90, L91, L96, L97, L99, L100, L101, L105, L108, L110, L111, L115, L116, L117, L118, L127, L128, L132, L135, L153, L167, L170, L172, L177, L184, L191, L192, L196, L200, L223, L224, L239, L240, L255, L256, L400, L512, L1024, L1280, eqN, leN, ltN, chkN, cl_nI, nI_add]
      grind
    rcases loop_up (β := Int32 ⊕ Unit) (fun k => b (s + k) = (WDl.getD 3 []).getD k 0) (fun _ => .inl (nI 0)) (.inr ()) (Nat.zero_le 4) (by omega) key he with ⟨e, h⟩ | ⟨k, a1, a2, a3, a4, e⟩
    · rw [bd_some e]
      show some 1 = _
      rw [bI_t ⟨q, fun k hk => h k (Nat.zero_le _) hk⟩]
    · rw [bd_some e]
      show some 0 = _
      rw [bI_f (fun z => a3 (z.2 k a2))]
  · rw [if_neg (by rw [nI_eq (by omega) (by omega)]; exact q), bI_f (fun z => q z.1)]
    rfl
theorem M_spells_0 {v : St} {b : Nat → Nat} {n x s t : Nat} (hC : CM v) (hT : TM v b n x s t) : f_X7_spells_a12 (nI x) v = some (bI (WD b s t 0)) := by
  have hL := @M_letter v b n x s t
  obtain ⟨hx, e1, e2, h1, h2, hB⟩ := id hT
  have hn := hB.1
  unfold f_X7_spells_a12
  simp (disch := omega) only [cl_nI, chkN, e2]
  rw [L6, L0]
  by_cases q : t - s = 6
  · rw [if_pos (by rw [q])]
    have key : ∀ k, 0 ≤ k → k < 6 → (b (s + k) = (WDl.getD 0 []).getD k 0 ∧ f_X7_spells_a12_b15 (nI x) v (nI k) = some (.inr (nI (k + 1)))) ∨ (¬ b (s + k) = (WDl.getD 0 []).getD k 0 ∧ f_X7_spells_a12_b15 (nI x) v (nI k) = some (.inl (.inl (nI 0)))) := by
      intro k a1 a2
      have e3 := (hB.2 (s + k) (by omega)).2
      have e4 := (sch_all 0 (by decide) k a2).2
      have e5 := hC.1 k a2
      unfold f_X7_spells_a12_b15
      rw [hL hT (by omega)]
      simp only [Option.bind_some]
      simp (disch := omega) only [L0, L1, L2, L3, L4, L5, L6, L7, L8, L9, L10, L11, L12, L13, L14, L15, L16, L17, L18, L20, L21, L22, L23, L24, L25, L26, L27, L28, L29, L32, L34, L40, L41, L45, L46, L47, L51, L54, L59, L60, L61, L62, L64, L65, L66, L67, L68, L69, L70, L73, L74, L76, L80, L83, L86, L87, L90, L91, L96, L97, L99, L100, L101, L105, L108, L110, L111, L115, L116, L117, L118, L127, L128, L132, L135, L153, L167, L170, L172, L177, L184, L191, L192, L196, L200, L223, L224, L239, L240, L255, L256, L400, L512, L1024, L1280, eqN, leN, ltN, chkN, cl_nI, nI_add]
      simp only [e5]
      simp (disch := omega) only [eqN]
      grind
    have he : f_X7_spells_a12_b15 (nI x) v (nI 6) = some (.inl (.inr ())) := by
      unfold f_X7_spells_a12_b15
      simp (disch := omega) only [L0, L1, L2, L3, L4, L5, L6, L7, L8, L9, L10, L11, L12, L13, L14, L15, L16, L17, L18, L20, L21, L22, L23, L24, L25, L26, L27, L28, L29, L32, L34, L40, L41, L45, L46, L47, L51, L54, L59, L60, L61, L62, L64, L65, L66, L67, L68, L69, L70, L73, L74, L76, L80, L83, L86, L87, L90, L91, L96, L97, L99, L100, L101, L105, L108, L110, L111, L115, L116, L117, L118, L127, L128, L132, L135, L153, L167, L170, L172, L177, L184, L191, L192, L196, L200, L223, L224, L239, L240, L255, L256, L400, L512, L1024, L1280, eqN, leN, ltN, chkN, cl_nI, nI_add]
      grind
    rcases loop_up (β := Int32 ⊕ Unit) (fun k => b (s + k) = (WDl.getD 0 []).getD k 0) (fun _ => .inl (nI 0)) (.inr ()) (Nat.zero_le 6) (by omega) key he with ⟨e, h⟩ | ⟨k, a1, a2, a3, a4, e⟩
    · rw [bd_some e]
      show some 1 = _
      rw [bI_t ⟨q, fun k hk => h k (Nat.zero_le _) hk⟩]
    · rw [bd_some e]
      show some 0 = _
      rw [bI_f (fun z => a3 (z.2 k a2))]
  · rw [if_neg (by rw [nI_eq (by omega) (by omega)]; exact q), bI_f (fun z => q z.1)]
    rfl
theorem M_spells_1 {v : St} {b : Nat → Nat} {n x s t : Nat} (hC : CM v) (hT : TM v b n x s t) : f_X7_spells_a13 (nI x) v = some (bI (WD b s t 1)) := by
  have hL := @M_letter v b n x s t
  obtain ⟨hx, e1, e2, h1, h2, hB⟩ := id hT
  have hn := hB.1
  unfold f_X7_spells_a13
  simp (disch := omega) only [cl_nI, chkN, e2]
  rw [L8, L0]
  by_cases q : t - s = 8
  · rw [if_pos (by rw [q])]
    have key : ∀ k, 0 ≤ k → k < 8 → (b (s + k) = (WDl.getD 1 []).getD k 0 ∧ f_X7_spells_a13_b15 (nI x) v (nI k) = some (.inr (nI (k + 1)))) ∨ (¬ b (s + k) = (WDl.getD 1 []).getD k 0 ∧ f_X7_spells_a13_b15 (nI x) v (nI k) = some (.inl (.inl (nI 0)))) := by
      intro k a1 a2
      have e3 := (hB.2 (s + k) (by omega)).2
      have e4 := (sch_all 1 (by decide) k a2).2
      have e5 := hC.2.1 k a2
      unfold f_X7_spells_a13_b15
      rw [hL hT (by omega)]
      simp only [Option.bind_some]
      simp (disch := omega) only [L0, L1, L2, L3, L4, L5, L6, L7, L8, L9, L10, L11, L12, L13, L14, L15, L16, L17, L18, L20, L21, L22, L23, L24, L25, L26, L27, L28, L29, L32, L34, L40, L41, L45, L46, L47, L51, L54, L59, L60, L61, L62, L64, L65, L66, L67, L68, L69, L70, L73, L74, L76, L80, L83, L86, L87, L90, L91, L96, L97, L99, L100, L101, L105, L108, L110, L111, L115, L116, L117, L118, L127, L128, L132, L135, L153, L167, L170, L172, L177, L184, L191, L192, L196, L200, L223, L224, L239, L240, L255, L256, L400, L512, L1024, L1280, eqN, leN, ltN, chkN, cl_nI, nI_add]
      simp only [e5]
      simp (disch := omega) only [eqN]
      grind
    have he : f_X7_spells_a13_b15 (nI x) v (nI 8) = some (.inl (.inr ())) := by
      unfold f_X7_spells_a13_b15
      simp (disch := omega) only [L0, L1, L2, L3, L4, L5, L6, L7, L8, L9, L10, L11, L12, L13, L14, L15, L16, L17, L18, L20, L21, L22, L23, L24, L25, L26, L27, L28, L29, L32, L34, L40, L41, L45, L46, L47, L51, L54, L59, L60, L61, L62, L64, L65, L66, L67, L68, L69, L70, L73, L74, L76, L80, L83, L86, L87, L90, L91, L96, L97, L99, L100, L101, L105, L108, L110, L111, L115, L116, L117, L118, L127, L128, L132, L135, L153, L167, L170, L172, L177, L184, L191, L192, L196, L200, L223, L224, L239, L240, L255, L256, L400, L512, L1024, L1280, eqN, leN, ltN, chkN, cl_nI, nI_add]
      grind
    rcases loop_up (β := Int32 ⊕ Unit) (fun k => b (s + k) = (WDl.getD 1 []).getD k 0) (fun _ => .inl (nI 0)) (.inr ()) (Nat.zero_le 8) (by omega) key he with ⟨e, h⟩ | ⟨k, a1, a2, a3, a4, e⟩
    · rw [bd_some e]
      show some 1 = _
      rw [bI_t ⟨q, fun k hk => h k (Nat.zero_le _) hk⟩]
    · rw [bd_some e]
      show some 0 = _
      rw [bI_f (fun z => a3 (z.2 k a2))]
  · rw [if_neg (by rw [nI_eq (by omega) (by omega)]; exact q), bI_f (fun z => q z.1)]
    rfl
theorem M_spells_3 {v : St} {b : Nat → Nat} {n x s t : Nat} (hC : CM v) (hT : TM v b n x s t) : f_X7_spells_a14 (nI x) v = some (bI (WD b s t 3)) := by
  have hL := @M_letter v b n x s t
  obtain ⟨hx, e1, e2, h1, h2, hB⟩ := id hT
  have hn := hB.1
  unfold f_X7_spells_a14
  simp (disch := omega) only [cl_nI, chkN, e2]
  rw [L4, L0]
  by_cases q : t - s = 4
  · rw [if_pos (by rw [q])]
    have key : ∀ k, 0 ≤ k → k < 4 → (b (s + k) = (WDl.getD 3 []).getD k 0 ∧ f_X7_spells_a14_b15 (nI x) v (nI k) = some (.inr (nI (k + 1)))) ∨ (¬ b (s + k) = (WDl.getD 3 []).getD k 0 ∧ f_X7_spells_a14_b15 (nI x) v (nI k) = some (.inl (.inl (nI 0)))) := by
      intro k a1 a2
      have e3 := (hB.2 (s + k) (by omega)).2
      have e4 := (sch_all 3 (by decide) k a2).2
      have e5 := hC.2.2.1 k a2
      unfold f_X7_spells_a14_b15
      rw [hL hT (by omega)]
      simp only [Option.bind_some]
      simp (disch := omega) only [L0, L1, L2, L3, L4, L5, L6, L7, L8, L9, L10, L11, L12, L13, L14, L15, L16, L17, L18, L20, L21, L22, L23, L24, L25, L26, L27, L28, L29, L32, L34, L40, L41, L45, L46, L47, L51, L54, L59, L60, L61, L62, L64, L65, L66, L67, L68, L69, L70, L73, L74, L76, L80, L83, L86, L87, L90, L91, L96, L97, L99, L100, L101, L105, L108, L110, L111, L115, L116, L117, L118, L127, L128, L132, L135, L153, L167, L170, L172, L177, L184, L191, L192, L196, L200, L223, L224, L239, L240, L255, L256, L400, L512, L1024, L1280, eqN, leN, ltN, chkN, cl_nI, nI_add]
      simp only [e5]
      simp (disch := omega) only [eqN]
      grind
    have he : f_X7_spells_a14_b15 (nI x) v (nI 4) = some (.inl (.inr ())) := by
      unfold f_X7_spells_a14_b15
      simp (disch := omega) only [L0, L1, L2, L3, L4, L5, L6, L7, L8, L9, L10, L11, L12, L13, L14, L15, L16, L17, L18, L20, L21, L22, L23, L24, L25, L26, L27, L28, L29, L32, L34, L40, L41, L45, L46, L47, L51, L54, L59, L60, L61, L62, L64, L65, L66, L67, L68, L69, L70, L73, L74, L76, L80, L83, L86, L87, L90, L91, L96, L97, L99, L100, L101, L105, L108, L110, L111, L115, L116, L117, L118, L127, L128, L132, L135, L153, L167, L170, L172, L177, L184, L191, L192, L196, L200, L223, L224, L239, L240, L255, L256, L400, L512, L1024, L1280, eqN, leN, ltN, chkN, cl_nI, nI_add]
      grind
    rcases loop_up (β := Int32 ⊕ Unit) (fun k => b (s + k) = (WDl.getD 3 []).getD k 0) (fun _ => .inl (nI 0)) (.inr ()) (Nat.zero_le 4) (by omega) key he with ⟨e, h⟩ | ⟨k, a1, a2, a3, a4, e⟩
    · rw [bd_some e]
      show some 1 = _
      rw [bI_t ⟨q, fun k hk => h k (Nat.zero_le _) hk⟩]
    · rw [bd_some e]
      show some 0 = _
      rw [bI_f (fun z => a3 (z.2 k a2))]
  · rw [if_neg (by rw [nI_eq (by omega) (by omega)]; exact q), bI_f (fun z => q z.1)]
    rfl
theorem M_spells_2 {v : St} {b : Nat → Nat} {n x s t : Nat} (hC : CM v) (hT : TM v b n x s t) : f_X7_spells_a15 (nI x) v = some (bI (WD b s t 2)) := by
  have hL := @M_letter v b n x s t
  obtain ⟨hx, e1, e2, h1, h2, hB⟩ := id hT
  have hn := hB.1
  unfold f_X7_spells_a15
  simp (disch := omega) only [cl_nI, chkN, e2]
  rw [L13, L0]
  by_cases q : t - s = 13
  · rw [if_pos (by rw [q])]
    have key : ∀ k, 0 ≤ k → k < 13 → (b (s + k) = (WDl.getD 2 []).getD k 0 ∧ f_X7_spells_a15_b15 (nI x) v (nI k) = some (.inr (nI (k + 1)))) ∨ (¬ b (s + k) = (WDl.getD 2 []).getD k 0 ∧ f_X7_spells_a15_b15 (nI x) v (nI k) = some (.inl (.inl (nI 0)))) := by
      intro k a1 a2
      have e3 := (hB.2 (s + k) (by omega)).2
      have e4 := (sch_all 2 (by decide) k a2).2
      have e5 := hC.2.2.2 k a2
      unfold f_X7_spells_a15_b15
      rw [hL hT (by omega)]
      simp only [Option.bind_some]
      simp (disch := omega) only [L0, L1, L2, L3, L4, L5, L6, L7, L8, L9, L10, L11, L12, L13, L14, L15, L16, L17, L18, L20, L21, L22, L23, L24, L25, L26, L27, L28, L29, L32, L34, L40, L41, L45, L46, L47, L51, L54, L59, L60, L61, L62, L64, L65, L66, L67, L68, L69, L70, L73, L74, L76, L80, L83, L86, L87, L90, L91, L96, L97, L99, L100, L101, L105, L108, L110, L111, L115, L116, L117, L118, L127, L128, L132, L135, L153, L167, L170, L172, L177, L184, L191, L192, L196, L200, L223, L224, L239, L240, L255, L256, L400, L512, L1024, L1280, eqN, leN, ltN, chkN, cl_nI, nI_add]
      simp only [e5]
      simp (disch := omega) only [eqN]
      grind
    have he : f_X7_spells_a15_b15 (nI x) v (nI 13) = some (.inl (.inr ())) := by
      unfold f_X7_spells_a15_b15
      simp (disch := omega) only [L0, L1, L2, L3, L4, L5, L6, L7, L8, L9, L10, L11, L12, L13, L14, L15, L16, L17, L18, L20, L21, L22, L23, L24, L25, L26, L27, L28, L29, L32, L34, L40, L41, L45, L46, L47, L51, L54, L59, L60, L61, L62, L64, L65, L66, L67, L68, L69, L70, L73, L74, L76, L80, L83, L86, L87, L90, L91, L96, L97, L99, L100, L101, L105, L108, L110, L111, L115, L116, L117, L118, L127, L128, L132, L135, L153, L167, L170, L172, L177, L184, L191, L192, L196, L200, L223, L224, L239, L240, L255, L256, L400, L512, L1024, L1280, eqN, leN, ltN, chkN, cl_nI, nI_add]
      grind
    rcases loop_up (β := Int32 ⊕ Unit) (fun k => b (s + k) = (WDl.getD 2 []).getD k 0) (fun _ => .inl (nI 0)) (.inr ()) (Nat.zero_le 13) (by omega) key he with ⟨e, h⟩ | ⟨k, a1, a2, a3, a4, e⟩
    · rw [bd_some e]
      show some 1 = _
      rw [bI_t ⟨q, fun k hk => h k (Nat.zero_le _) hk⟩]
    · rw [bd_some e]
      show some 0 = _
      rw [bI_f (fun z => a3 (z.2 k a2))]
  · rw [if_neg (by rw [nI_eq (by omega) (by omega)]; exact q), bI_f (fun z => q z.1)]
    rfl
/-- member names -/
def MN (b : Nat → Nat) (s t : Nat) : Prop := WD b s t 0 ∨ WD b s t 1 ∨ (FN b s t ∧ ∀ i, s ≤ i → i < t → b i ≠ 60 ∧ b i ≠ 62)
theorem X_isMemberName {u : St} {b : Nat → Nat} {n s t : Nat} (hB : BX u b n) (hst : s ≤ t) (ht : t ≤ n) : f_X3_isMemberName (nI s) (nI t) u = some (bI (MN b s t)) := by
  have hn := hB.1
  unfold f_X3_isMemberName f_X3_isMemberName_j22
  rw [bd_some (X_isWord_s0 hB hst ht)]
  by_cases q0 : WD b s t 0
  · rw [if_neg (by rw [bI_0]; exact fun z => z q0), bI_t (show MN b s t from Or.inl q0)]
  rw [if_pos (bI_0.mpr q0), bd_some (X_isWord_s1 hB hst ht)]
  by_cases q1 : WD b s t 1
  · rw [if_neg (by rw [bI_0]; exact fun z => z q1), bI_t (show MN b s t from Or.inr (Or.inl q1))]
  rw [if_pos (bI_0.mpr q1)]
  have key : ∀ k, s ≤ k → k < t → ((b k ≠ 60 ∧ b k ≠ 62) ∧ f_X3_isMemberName_b26 (nI s) (nI t) u (nI k) = some (.inr (nI (k + 1)))) ∨ (¬ (b k ≠ 60 ∧ b k ≠ 62) ∧ f_X3_isMemberName_b26 (nI s) (nI t) u (nI k) = some (.inl (.inl (nI 0)))) := by
    intro k h1 h2
    obtain ⟨e1, e2⟩ := hB.2 k (by omega)
    unfold f_X3_isMemberName_b26 f_X3_isMemberName_j47_26
    simp (disch := omega) only [L0, L1, L2, L3, L4, L5, L6, L7, L8, L9, L10, L11, L12, L13, L14, L15, L16, L17, L18, L20, L21, L22, L23, L24, L25, L26, L27, L28, L29, L32, L34, L40, L41, L45, L46, L47, L51, L54, L59, L60, L61, L62, L64, L65, L66, L67, L68, L69, L70, L73, L74, L76, L80, L83, L86, L87, L90, L91, L96, L97, L99, L100, L101, L105, L108, L110, L111, L115, L116, L117, L118, L127, L128, L132, L135, L153, L167, L170, L172, L177, L184, L191, L192, L196, L200, L223, L224, L239, L240, L255, L256, L400, L512, L1024, L1280, eqN, leN, ltN, chkN, cl_nI, nI_add]
    simp only [e1]
    simp (disch := omega) only [L0, L1, L2, L3, L4, L5, L6, L7, L8, L9, L10, L11, L12, L13, L14, L15, L16, L17, L18, L20, L21, L22, L23, L24, L25, L26, L27, L28, L29, L32, L34, L40, L41, L45, L46, L47, L51, L54, L59, L60, L61, L62, L64, L65, L66, L67, L68, L69, L70, L73, L74, L76, L80, L83, L86, L87, L90, L91, L96, L97, L99, L100, L101, L105, L108, L110, L111, L115, L116, L117, L118, L127, L128, L132, L135, L153, L167, L170, L172, L177, L184, L191, L192, L196, L200, L223, L224, L239, L240, L255, L256, L400, L512, L1024, L1280, eqN, leN, ltN, chkN, cl_nI, nI_add]
    grind
  have he : f_X3_isMemberName_b26 (nI s) (nI t) u (nI t) = some (.inl (.inr ())) := by
    unfold f_X3_isMemberName_b26
    simp (disch := omega) only [L0, L1, L2, L3, L4, L5, L6, L7, L8, L9, L10, L11, L12, L13, L14, L15, L16, L17, L18, L20, L21, L22, L23, L24, L25, L26, L27, L28, L29, L32, L34, L40, L41, L45, L46, L47, L51, L54, L59, L60, L61, L62, L64, L65, L66, L67, L68, L69, L70, L73, L74, L76, L80, L83, L86, L87, L90, L91, L96, L97, L99, L100, L101, L105, L108, L110, L111, L115, L116, L117, L118, L127, L128, L132, L135, L153, L167, L170, L172, L177, L184, L191, L192, L196, L200, L223, L224, L239, L240, L255, L256, L400, L512, L1024, L1280, eqN, leN, ltN, chkN, cl_nI, nI_add]
    grind
  rcases loop_up (β := Int32 ⊕ Unit) (fun k => b k ≠ 60 ∧ b k ≠ 62) (fun _ => .inl (nI 0)) (.inr ()) hst (by omega) key he with ⟨e, h⟩ | ⟨k, h1, h2, h3, h4, e⟩
  · rw [bd_some e]
    simp only [Sum.elim_inr]
    rw [bd_some (X_isFieldName hB hst ht), bchk_bI]
    exact congrArg some (bI_c ⟨fun z => Or.inr (Or.inr ⟨z, h⟩), fun z => by rcases z with z | z | z; exact absurd z q0; exact absurd z q1; exact z.1⟩)
  · rw [bd_some e]
    show some 0 = _
    rw [bI_f (fun z => by rcases z with z | z | z; exact q0 z; exact q1 z; exact h3 (z.2 k h1 h2))]
theorem M_memberName {v : St} {b : Nat → Nat} {n x s t : Nat} (hC : CM v) (hT : TM v b n x s t) : f_X7_memberName (nI x) v = some (bI (MN b s t)) := by
  have hL := @M_letter v b n x s t
  obtain ⟨hx, e1, e2, h1, h2, hB⟩ := id hT
  have hn := hB.1
  unfold f_X7_memberName f_X7_memberName_j24
  rw [bd_some (M_spells_0 hC hT)]
  by_cases q0 : WD b s t 0
  · rw [if_neg (by rw [bI_0]; exact fun z => z q0), bI_t (show MN b s t from Or.inl q0)]
  rw [if_pos (bI_0.mpr q0), bd_some (M_spells_1 hC hT)]
  by_cases q1 : WD b s t 1
  · rw [if_neg (by rw [bI_0]; exact fun z => z q1), bI_t (show MN b s t from Or.inr (Or.inl q1))]
  rw [if_pos (bI_0.mpr q1), L0]
  have key : ∀ k, 0 ≤ k → k < t - s → ((b (s + k) ≠ 60 ∧ b (s + k) ≠ 62) ∧ f_X7_memberName_b28 (nI x) v (nI k) = some (.inr (nI (k + 1)))) ∨ (¬ (b (s + k) ≠ 60 ∧ b (s + k) ≠ 62) ∧ f_X7_memberName_b28 (nI x) v (nI k) = some (.inl (.inl (nI 0)))) := by
    intro k a1 a2
    have e3 := (hB.2 (s + k) (by omega)).2
    unfold f_X7_memberName_b28 f_X7_memberName_j60_28
    rw [hL hT (by omega)]
    simp only [Option.bind_some]
    simp (disch := omega) only [cl_nI, e2, chkN]
    simp (disch := omega) only [L0, L1, L2, L3, L4, L5, L6, L7, L8, L9, L10, L11, L12, L13, L14, L15, L16, L17, L18, L20, L21, L22, L23, L24, L25, L26, L27, L28, L29, L32, L34, L40, L41, L45, L46, L47, L51, L54, L59, L60, L61, L62, L64, L65, L66, L67, L68, L69, L70, L73, L74, L76, L80, L83, L86, L87, L90, L91, L96, L97, L99, L100, L101, L105, L108, L110, L111, L115, L116, L117, L118, L127, L128, L132, L135, L153, L167, L170, L172, L177, L184, L191, L192, L196, L200, L223, L224, L239, L240, L255, L256, L400, L512, L1024, L1280, eqN, leN, ltN, chkN, cl_nI, nI_add]
    grind
  have he : f_X7_memberName_b28 (nI x) v (nI (t - s)) = some (.inl (.inr ())) := by
    unfold f_X7_memberName_b28
    simp (disch := omega) only [cl_nI, e2, chkN]
    simp (disch := omega) only [L0, L1, L2, L3, L4, L5, L6, L7, L8, L9, L10, L11, L12, L13, L14, L15, L16, L17, L18, L20, L21, L22, L23, L24, L25, L26, L27, L28, L29, L32, L34, L40, L41, L45, L46, L47, L51, L54, L59, L60, L61, L62, L64, L65, L66, L67, L68, L69, L70, L73, L74, L76, L80, L83, L86, L87, L90, L91, L96, L97, L99, L100, L101, L105, L108, L110, L111, L115, L116, L117, L118, L127, L128, L132, L135, L153, L167, L170, L172, L177, L184, L191, L192, L196, L200, L223, L224, L239, L240, L255, L256, L400, L512, L1024, L1280, eqN, leN, ltN, chkN, cl_nI, nI_add]
    grind
  rcases loop_up (β := Int32 ⊕ Unit) (fun k => b (s + k) ≠ 60 ∧ b (s + k) ≠ 62) (fun _ => .inl (nI 0)) (.inr ()) (Nat.zero_le _) (by omega) key he with ⟨e, h⟩ | ⟨k, a1, a2, a3, a4, e⟩
  · rw [bd_some e]
    simp only [Sum.elim_inr]
    rw [bd_some (M_fieldName hT), bchk_bI]
    exact congrArg some (bI_c ⟨fun z => Or.inr (Or.inr ⟨z, fun i b1 b2 => by have := h (i - s) (by omega) (by omega); rwa [show s + (i - s) = i by omega] at this⟩), fun z => by rcases z with z | z | z; exact absurd z q0; exact absurd z q1; exact z.1⟩)
  · rw [bd_some e]
    show some 0 = _
    rw [bI_f (fun z => by rcases z with z | z | z; exact q0 z; exact q1 z; exact a3 (z.2 (s + k) (by omega) (by omega)))]
