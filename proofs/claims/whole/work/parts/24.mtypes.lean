theorem M_brackets {v : St} {b : Nat → Nat} {n x s t f : Nat} (hT : TM v b n x s t) (hf : s + f ≤ t) : f_X7_brackets (nI x) (nI f) v = some (nI (brE b (s + f) t - (s + f))) := by
  have hL := @M_letter v b n x s t
  obtain ⟨hx, e1, e2, h1, h2, hB⟩ := id hT
  have hn := hB.1
  have key : ∀ k, f ≤ k → k < t - s → (b (s + k) = 91 ∧ f_X7_brackets_b2 (nI x) (nI f) v (nI k) = some (.inr (nI (k + 1)))) ∨ (¬ b (s + k) = 91 ∧ f_X7_brackets_b2 (nI x) (nI f) v (nI k) = some (.inl (.inr (nI k)))) := by
    intro k a1 a2
    have e3 := (hB.2 (s + k) (by omega)).2
    unfold f_X7_brackets_b2
    rw [hL hT (by omega)]
    simp only [Option.bind_some]
    simp (disch := omega) only [cl_nI, e2, chkN]
    simp (disch := omega) only [L0, L1, L2, L3, L4, L5, L6, L7, L8, L9, L10, L11, L12, L13, L14, L15, L16, L17, L18, L20, L21, L22, L23, L24, L25, L26, L27, L28, L29, L32, L34, L40, L41, L45, L46, L47, L51, L54, L59, L60, L61, L62, L64, L65, L66, L67, L68, L69, L70, L73, L74, L76, L80, L83, L86, L87, L90, L91, L96, L97, L99, L100, L101, L105, L108, L110, L111, L115, L116, L117, L118, L127, L128, L132, L135, L153, L167, L170, L172, L177, L184, L191, L192, L196, L200, L223, L224, L239, L240, L255, L256, L400, L512, L1024, L1280, eqN, leN, ltN, chkN, cl_nI, nI_add]
    grind
  have he : f_X7_brackets_b2 (nI x) (nI f) v (nI (t - s)) = some (.inl (.inr (nI (t - s)))) := by
    unfold f_X7_brackets_b2
    simp (disch := omega) only [cl_nI, e2, chkN]
    simp (disch := omega) only [L0, L1, L2, L3, L4, L5, L6, L7, L8, L9, L10, L11, L12, L13, L14, L15, L16, L17, L18, L20, L21, L22, L23, L24, L25, L26, L27, L28, L29, L32, L34, L40, L41, L45, L46, L47, L51, L54, L59, L60, L61, L62, L64, L65, L66, L67, L68, L69, L70, L73, L74, L76, L80, L83, L86, L87, L90, L91, L96, L97, L99, L100, L101, L105, L108, L110, L111, L115, L116, L117, L118, L127, L128, L132, L135, L153, L167, L170, L172, L177, L184, L191, L192, L196, L200, L223, L224, L239, L240, L255, L256, L400, L512, L1024, L1280, eqN, leN, ltN, chkN, cl_nI, nI_add]
    grind
  unfold f_X7_brackets f_X7_brackets_j29
  rw [bd_some (loop_fst (β := Int32 ⊕ Int32) (fun k => b (s + k) = 91) (fun k => .inr (nI k)) (by omega) (by omega) key he)]
  simp only [Sum.elim_inr]
  have z := fstN_spec (P := fun k => b (s + k) = 91) (t - s - f) f
  rw [pk_sub z.1]
  unfold brE
  rw [fstN_shift, show t - (s + f) = t - s - f by omega]
  congr 2
  omega
theorem M_typeEnd {v : St} {b : Nat → Nat} {n x s t f : Nat} (hT : TM v b n x s t) (hf : s + f ≤ t) : f_X7_typeEnd (nI x) (nI f) v = some (tI (tEnd b (s + f) t) s) := by
  have hL := @M_letter v b n x s t
  obtain ⟨hx, e1, e2, h1, h2, hB⟩ := id hT
  have hn := hB.1
  unfold f_X7_typeEnd f_X7_typeEnd_j35
  rw [bd_some (M_brackets hT hf)]
  simp (disch := omega) only [cl_nI, e2, chkN]
  have hb := brE_spec (b := b) hf
  obtain ⟨d, hd⟩ : ∃ d, d = brE b (s + f) t - (s + f) := ⟨_, rfl⟩
  have hd2 : brE b (s + f) t = s + f + d := by omega
  unfold tEnd
  rw [← hd, hd2]
  simp (disch := omega) only [L255, ltN, nI_add]
  by_cases q2 : 255 < d
  · rw [if_pos q2, if_pos (Or.inr (by omega))]; rfl
  rw [if_neg q2]
  by_cases q1 : f + d < t - s
  rotate_left
  · rw [if_neg q1, if_pos (Or.inl (by omega))]; rfl
  rw [if_pos q1, if_neg (show ¬ (t ≤ s + f + d ∨ 255 < d) by omega), bd_some (hL hT (by omega))]
  have e3 := (hB.2 (s + (f + d)) (by omega)).2
  rw [bd_some (M_base e3), bd_some (hL hT (by omega)), show s + (f + d) = s + f + d by omega]
  rw [show s + (f + d) = s + f + d by omega] at e3
  by_cases q3 : plainT (b (s + f + d))
  · rw [if_neg (by rw [bI_0]; exact fun z => z q3), if_pos q3, nI_1]
    show _ = some (nI (s + f + d + 1 - s))
    rw [show s + f + d + 1 - s = f + d + 1 by omega]
  rw [if_pos (bI_0.mpr q3), if_neg q3]
  simp (disch := omega) only [L76, eqN]
  by_cases q4 : b (s + f + d) = 76
  rotate_left
  · rw [if_neg q4, if_neg (fun z => q4 z.1)]; rfl
  rw [if_pos q4]
  have key : ∀ k, f + d + 1 ≤ k → k < t - s → (¬ b (s + k) = 59 ∧ f_X7_typeEnd_b75 (nI x) (nI (t - s)) (nI (f + d)) v (nI k) = some (.inr (nI (k + 1)))) ∨ (¬ ¬ b (s + k) = 59 ∧ f_X7_typeEnd_b75 (nI x) (nI (t - s)) (nI (f + d)) v (nI k) = some (.inl (.inr (nI k)))) := by
    intro k a1 a2
    have e3 := (hB.2 (s + k) (by omega)).2
    unfold f_X7_typeEnd_b75
    rw [hL hT (by omega)]
    simp only [Option.bind_some]
    simp (disch := omega) only [L0, L1, L2, L3, L4, L5, L6, L7, L8, L9, L10, L11, L12, L13, L14, L15, L16, L17, L18, L20, L21, L22, L23, L24, L25, L26, L27, L28, L29, L32, L34, L40, L41, L45, L46, L47, L51, L54, L59, L60, L61, L62, L64, L65, L66, L67, L68, L69, L70, L73, L74, L76, L80, L83, L86, L87, L90, L91, L96, L97, L99, L100, L101, L105, L108, L110, L111, L115, L116, L117, L118, L127, L128, L132, L135, L153, L167, L170, L172, L177, L184, L191, L192, L196, L200, L223, L224, L239, L240, L255, L256, L400, L512, L1024, L1280, eqN, leN, ltN, chkN, cl_nI, nI_add]
    grind
  have he : f_X7_typeEnd_b75 (nI x) (nI (t - s)) (nI (f + d)) v (nI (t - s)) = some (.inl (.inr (nI (t - s)))) := by
    unfold f_X7_typeEnd_b75
    simp (disch := omega) only [L0, L1, L2, L3, L4, L5, L6, L7, L8, L9, L10, L11, L12, L13, L14, L15, L16, L17, L18, L20, L21, L22, L23, L24, L25, L26, L27, L28, L29, L32, L34, L40, L41, L45, L46, L47, L51, L54, L59, L60, L61, L62, L64, L65, L66, L67, L68, L69, L70, L73, L74, L76, L80, L83, L86, L87, L90, L91, L96, L97, L99, L100, L101, L105, L108, L110, L111, L115, L116, L117, L118, L127, L128, L132, L135, L153, L167, L170, L172, L177, L184, L191, L192, L196, L200, L223, L224, L239, L240, L255, L256, L400, L512, L1024, L1280, eqN, leN, ltN, chkN, cl_nI, nI_add]
    grind
  rw [nI_1, bd_some (loop_fst (β := Int32 ⊕ Int32) (fun k => ¬ b (s + k) = 59) (fun k => .inr (nI k)) (by omega) (by omega) key he)]
  simp only [Sum.elim_inr]
  obtain ⟨c, hc⟩ : ∃ c, c = fstN (fun k => ¬ b (s + k) = 59) (t - s - (f + d + 1)) (f + d + 1) := ⟨_, rfl⟩
  have hc2 : scE b (s + f + d + 1) t = s + c := by
    unfold scE
    rw [show s + f + d + 1 = s + (f + d + 1) by omega, fstN_shift, hc, show t - (s + (f + d + 1)) = t - s - (f + d + 1) by omega]
  have hc3 := scE_spec (b := b) (s := s + f + d + 1) (t := t) (by omega)
  rw [← hc, hc2]
  rw [hc2] at hc3
  unfold f_X7_typeEnd_j99 f_X7_typeEnd_j126 f_X7_typeEnd_j127
  by_cases q5 : s + c < t
  · rw [if_neg (nI_ge (by omega) (by omega)), nI_1, nI_1, bd_some (M_className hT (by omega) (by omega)), show s + (f + d + 1) = s + f + d + 1 by omega, show c - (f + d + 1) = s + c - (s + f + d + 1) by omega]
    by_cases q6 : cn b (s + c - (s + f + d + 1)) (s + f + d + 1) false = true
    · rw [if_neg (by rw [bI_0]; exact fun z => z q6), if_pos ⟨q4, q5, q6⟩]
      show _ = some (nI (s + c + 1 - s))
      rw [show s + c + 1 - s = c + 1 by omega]
    · rw [if_pos (bI_0.mpr q6), if_neg (fun z => q6 z.2.2)]; rfl
  · rw [if_pos (nI_le (by omega) (by omega)), if_neg (fun z => q5 z.2.1)]; rfl
theorem tI_eq {b : Nat → Nat} {r t s : Nat} (hs : s ≤ r) (hr : r ≤ t) (ht : t < 65600) : tI (tEnd b r t) s = nI (t - s) ↔ tEnd b r t = some t := by
  cases h : tEnd b r t with
  | none => exact ⟨fun z => absurd z (fun z => nI_pos (n := t - s) (by omega) (by rw [← z]; show (-1 : Int32) < 0; decide)), fun z => by cases z⟩
  | some e =>
    have := tEnd_lt h
    show nI (e - s) = nI (t - s) ↔ _
    rw [nI_eq (by omega) (by omega)]
    exact ⟨fun z => congrArg some (by omega), fun z => by cases z; rfl⟩
theorem X_isFieldType {u : St} {b : Nat → Nat} {n s t : Nat} (hB : BX u b n) (hst : s ≤ t) (ht : t ≤ n) : f_X3_isFieldType (nI s) (nI t) u = some (bI (tEnd b s t = some t)) := by
  have hn := hB.1
  unfold f_X3_isFieldType f_X3_isFieldType_j15
  rw [bd_some (X_fieldTypeEnd hB (by omega) ht), bchk_0, bchk_1]
  have z := tI_eq (b := b) (r := s) (t := t) (s := 0) (Nat.zero_le _) hst (by omega)
  rw [Nat.sub_zero] at z
  by_cases q : tEnd b s t = some t
  · rw [if_pos (z.mpr q), bI_t q]
  · rw [if_neg (fun w => q (z.mp w)), bI_f q]
theorem M_fieldType {v : St} {b : Nat → Nat} {n x s t : Nat} (hT : TM v b n x s t) : f_X7_fieldType (nI x) v = some (bI (tEnd b s t = some t)) := by
  obtain ⟨hx, e1, e2, h1, h2, hB⟩ := id hT
  have hn := hB.1
  unfold f_X7_fieldType f_X7_fieldType_j20
  rw [L0, bd_some (M_typeEnd hT (f := 0) (by omega)), ← L0, bchk_0, bchk_1]
  simp (disch := omega) only [cl_nI, e2, chkN]
  rw [Nat.add_zero]
  have z := tI_eq (b := b) (r := s) (t := t) (s := s) (Nat.le_refl _) h1 (by omega)
  by_cases q : tEnd b s t = some t
  · rw [if_pos (z.mpr q), bI_t q]
  · rw [if_neg (fun w => q (z.mp w)), bI_f q]
/-- over the parameters: where ) stands, or the end -/
noncomputable def prm (b : Nat → Nat) (t : Nat) : Nat → Nat → Option Nat
  | 0, k => some k
  | m + 1, k => @ite _ (t ≤ k ∨ b k = 41) (Classical.propDecidable _) (some k) (match tEnd b k t with
    | none => none
    | some e => prm b t m e)
def MT (b : Nat → Nat) (s t : Nat) : Prop := s < t ∧ b s = 40 ∧ ∃ k, prm b t (t + 1) (s + 1) = some k ∧ k < t ∧ ((k + 1 = t - 1 ∧ b (k + 1) = 86) ∨ tEnd b (k + 1) t = some t)
theorem prm_le {b : Nat → Nat} {t : Nat} : ∀ m k e, prm b t m k = some e → k ≤ t → k ≤ e ∧ e ≤ t := by
  intro m
  induction m with
  | zero => intro k e h hk; cases h; omega
  | succ m ih =>
    intro k e h hk
    unfold prm at h
    by_cases q : t ≤ k ∨ b k = 41
    · rw [if_pos q] at h; cases h; omega
    · rw [if_neg q] at h
      cases h2 : tEnd b k t with
      | none => rw [h2] at h; cases h
      | some e2 =>
        rw [h2] at h
        have h3 := tEnd_lt h2
        have h4 := ih e2 e h (by omega)
        omega
theorem X_isMethodType {u : St} {b : Nat → Nat} {n s t : Nat} (hB : BX u b n) (hst : s ≤ t) (ht : t ≤ n) : f_X3_isMethodType (nI s) (nI t) u = some (bI (MT b s t)) := by
  have hn := hB.1
  have main : ∀ m k N, t < k + m → k ≤ t → t < k + N → loopF (f_X3_isMethodType_b19 (nI t) u) N (nI k) = some (match prm b t m k with | none => .inl 0 | some e => .inr (nI e)) := by
    intro m
    induction m with
    | zero => intro k N h1 h2 h3; omega
    | succ m ih =>
      intro k N h1 h2 h3
      obtain ⟨N, rfl⟩ : ∃ z, N = z + 1 := ⟨N - 1, by omega⟩
      unfold prm
      by_cases q : t ≤ k ∨ b k = 41
      · rw [if_pos q]
        have e : f_X3_isMethodType_b19 (nI t) u (nI k) = some (.inl (.inr (nI k))) := by
          unfold f_X3_isMethodType_b19
          by_cases q1 : t ≤ k
          · rw [if_pos (nI_le q1 (by omega))]
          · obtain ⟨e1, e2⟩ := hB.2 k (by omega)
            rw [if_neg (nI_ge (by omega) (by omega)), chkN (by omega) (by omega), cl_nI (by omega), e1, if_pos (by rw [L41, nI_eq (by omega) (by omega)]; omega)]
        rw [loopF_s e]
        rfl
      · rw [if_neg q]
        obtain ⟨e1, e2⟩ := hB.2 k (by omega)
        have e : f_X3_isMethodType_b19 (nI t) u (nI k) = some (match tEnd b k t with | none => .inl (.inl 0) | some e => .inr (nI e)) := by
          unfold f_X3_isMethodType_b19
          rw [if_neg (nI_ge (by omega) (by omega)), chkN (by omega) (by omega), cl_nI (by omega), e1, if_neg (by rw [L41, nI_eq (by omega) (by omega)]; omega), bd_some (X_fieldTypeEnd hB (by omega) ht)]
          cases h5 : tEnd b k t with
          | none =>
            show (if nI k < -1 then _ else _) = _
            rw [if_neg (fun z => by rw [Int32.lt_iff_toInt_lt, nI_toInt (by omega)] at z; have : (-1 : Int32).toInt = -1 := rfl; omega)]
          | some e5 =>
            have h6 := tEnd_lt h5
            show (if nI k < nI (e5 - 0) then _ else _) = _
            rw [Nat.sub_zero, if_pos (nI_lt h6.1 (by omega))]
            show some (Sum.inr (nI (e5 - 0))) = some (Sum.inr (nI e5))
            rw [Nat.sub_zero]
        cases h5 : tEnd b k t with
        | none => rw [h5] at e; rw [loopF_s e]; rfl
        | some e5 =>
          rw [h5] at e
          have h6 := tEnd_lt h5
          rw [loopF_s e]
          exact ih e5 N (by omega) (by omega) (by omega)
  unfold f_X3_isMethodType f_X3_isMethodType_j13
  by_cases q0 : s < t
  rotate_left
  · rw [if_pos (nI_le (by omega) (by omega)), bI_f (fun z => q0 z.1)]
  obtain ⟨e1, e2⟩ := hB.2 s (by omega)
  rw [if_neg (nI_ge q0 (by omega)), chkN (by omega) (by omega), cl_nI (by omega), e1]
  simp (disch := omega) only [L40, eqN]
  by_cases q1 : b s = 40
  rotate_left
  · rw [if_neg q1, bI_f (fun z => q1 z.2.1)]
  rw [if_pos q1, nI_1, bd_some (main (t + 1) (s + 1) FU (by omega) (by omega) (by rw [FU_def]; omega))]
  cases h7 : prm b t (t + 1) (s + 1) with
  | none =>
    show some 0 = _
    rw [bI_f (fun z => by obtain ⟨_, _, k, z, _⟩ := z; rw [h7] at z; cases z)]
  | some k =>
    have h8 := prm_le _ _ _ h7 (by omega)
    show f_X3_isMethodType_j54 (nI t) (nI k) u = _
    have hMT : MT b s t ↔ (k < t ∧ ((k + 1 = t - 1 ∧ b (k + 1) = 86) ∨ tEnd b (k + 1) t = some t)) := ⟨fun z => by obtain ⟨_, _, k2, z, w⟩ := z; rw [h7] at z; cases z; exact w, fun z => ⟨q0, q1, k, h7, z⟩⟩
    unfold f_X3_isMethodType_j54 f_X3_isMethodType_j80 f_X3_isMethodType_j81 f_X3_isMethodType_j99 f_X3_isMethodType_j104
    rw [bchk_0, bchk_1, nI_1, show (nI t - 1 : Int32) = nI (t - 1) from pk_sub (b := 1) (by omega), bd_some (X_fieldTypeEnd hB (by omega) ht)]
    have z9 : k + 1 ≤ t → (tI (tEnd b (k + 1) t) 0 = nI t ↔ tEnd b (k + 1) t = some t) := fun w => by
      have z := tI_eq (b := b) (r := k + 1) (t := t) (s := 0) (Nat.zero_le _) w (by omega)
      rwa [Nat.sub_zero] at z
    rw [bI_c hMT]
    by_cases q2 : k < t
    · by_cases q3 : k + 1 = t - 1
      · obtain ⟨e3, e4⟩ := hB.2 (k + 1) (by omega)
        rw [if_pos (by rw [q3]), chkN (by omega) (by omega), cl_nI (by omega), e3]
        simp (disch := omega) only [L86, eqN]
        by_cases q4 : b (k + 1) = 86
        · rw [if_pos q4, if_neg (by decide), bI_t ⟨q2, Or.inl ⟨q3, q4⟩⟩]
        · rw [if_neg q4, if_pos trivial]
          by_cases q5 : tEnd b (k + 1) t = some t
          · rw [if_pos ((z9 (by omega)).mpr q5), bI_t ⟨q2, Or.inr q5⟩]
          · rw [if_neg (fun w => q5 ((z9 (by omega)).mp w)), bI_f (fun w => w.2.elim (fun w => q4 w.2) q5)]
      · rw [if_neg (fun w => q3 ((nI_eq (by omega) (by omega)).mp w)), if_pos rfl]
        by_cases q5 : tEnd b (k + 1) t = some t
        · rw [if_pos ((z9 (by omega)).mpr q5), bI_t ⟨q2, Or.inr q5⟩]
        · rw [if_neg (fun w => q5 ((z9 (by omega)).mp w)), bI_f (fun w => w.2.elim (fun w => q3 w.1) q5)]
    · have q6 : tEnd b (k + 1) t = none := by
        cases h9 : tEnd b (k + 1) t with
        | none => rfl
        | some e9 => have := tEnd_lt h9; omega
      rw [if_neg (fun w => by rw [nI_eq (by omega) (by omega)] at w; omega), if_pos rfl, q6, bI_f (fun w => q2 w.1)]
      show (if (-1 : Int32) = nI t then _ else _) = _
      rw [if_neg (fun w => nI_pos (n := t) (by omega) (by rw [← w]; decide))]
