/-- the characters in the reference -/
def okB (b : Nat → Nat) : Nat → Nat → Bool → Bool
  | 0, _, p => p
  | m + 1, j, p => if p = true then okB b m (j + 1) (decide (128 ≤ b j ∧ b j ≤ 191)) else false
theorem okB_f (b : Nat → Nat) (m j : Nat) : okB b m j false = false := by cases m <;> rfl
theorem okB_t (b : Nat → Nat) : ∀ m j, okB b m j true = true ↔ ∀ i, j ≤ i → i < j + m → 128 ≤ b i ∧ b i ≤ 191 := by
  intro m
  induction m with
  | zero => intro j; exact ⟨fun _ i h1 h2 => absurd h2 (by omega), fun _ => rfl⟩
  | succ m ih =>
    intro j
    unfold okB
    rw [if_pos rfl]
    by_cases q : 128 ≤ b j ∧ b j ≤ 191
    · rw [decide_eq_true q, ih (j + 1)]
      exact ⟨fun h i h1 h2 => by
        by_cases hi : i = j
        · rw [hi]; exact q
        · exact h i (by omega) (by omega), fun h i h1 h2 => h i (by omega) (by omega)⟩
    · rw [decide_eq_false q, okB_f]
      exact ⟨fun z => absurd z (by decide), fun h => absurd (h j (Nat.le_refl _) (by omega)) q⟩
theorem M_inner {v : St} {b : Nat → Nat} {n k mo : Nat} {x1 x2 : Int32} (hB : BM v b n) (hk : k + mo < n) (hm : mo ≤ 2) : ∀ m i (p : Bool) N, i + m = mo + 1 → m < N → loopF (f_X7_characters_b106 x1 x2 (nI k) (nI mo)) N (b2 p, nI i, v) = some (.inr (b2 (okB b m (k + i) p), v)) := by
  have hn := hB.1
  intro m
  induction m with
  | zero =>
    intro i p N a1 a2
    obtain ⟨N, rfl⟩ : ∃ z, N = z + 1 := ⟨N - 1, by omega⟩
    have e : f_X7_characters_b106 x1 x2 (nI k) (nI mo) (b2 p, nI i, v) = some (.inl (.inr (b2 p, v))) := by
      unfold f_X7_characters_b106
      rw [if_pos (show nI mo < nI i from nI_lt (by omega) (by omega))]
    rw [loopF_s e]
    rfl
  | succ m ih =>
    intro i p N a1 a2
    obtain ⟨N, rfl⟩ : ∃ z, N = z + 1 := ⟨N - 1, by omega⟩
    obtain ⟨e1, e2⟩ := hB.2 (k + i) (by omega)
    cases p with
    | false =>
      have e : f_X7_characters_b106 x1 x2 (nI k) (nI mo) (b2 false, nI i, v) = some (.inl (.inr (b2 false, v))) := by
        unfold f_X7_characters_b106
        rw [if_neg (show ¬ nI mo < nI i from nI_nlt (by omega) (by omega)), if_pos (show b2 false = 0 from rfl)]
      rw [loopF_s e, okB_f]
      rfl
    | true =>
      have e : f_X7_characters_b106 x1 x2 (nI k) (nI mo) (b2 true, nI i, v) = some (.inr (b2 (decide (128 ≤ b (k + i) ∧ b (k + i) ≤ 191)), nI (i + 1), v)) := by
        unfold f_X7_characters_b106 f_X7_characters_j152_106 f_X7_characters_j153_106
        rw [if_neg (show ¬ nI mo < nI i from nI_nlt (by omega) (by omega)), if_neg (show ¬ b2 true = 0 by decide)]
        simp (disch := omega) only [L0, L1, L2, L3, L4, L5, L6, L7, L8, L9, L10, L11, L12, L13, L14, L15, L16, L17, L18, L20, L21, L22, L23, L24, L25, L26, L27, L28, L29, L32, L34, L40, L41, L45, L46, L47, L51, L54, L59, L60, L61, L62, L64, L65, L66, L67, L68, L69, L70, L73, L74, L76, L80, L83, L86, L87, L90, L91, L96, L97, L99, L100, L101, L105, L108, L110, L111, L115, L116, L117, L118, L127, L128, L132, L135, L153, L167, L170, L172, L177, L184, L191, L192, L196, L200, L223, L224, L239, L240, L255, L256, L400, L512, L1024, L1280, eqN, leN, ltN, chkN, cl_nI, nI_add]
        simp only [e1]
        simp (disch := omega) only [L0, L1, L2, L3, L4, L5, L6, L7, L8, L9, L10, L11, L12, L13, L14, L15, L16, L17, L18, L20, L21, L22, L23, L24, L25, L26, L27, L28, L29, L32, L34, L40, L41, L45, L46, L47, L51, L54, L59, L60, L61, L62, L64, L65, L66, L67, L68, L69, L70, L73, L74, L76, L80, L83, L86, L87, L90, L91, L96, L97, L99, L100, L101, L105, L108, L110, L111, L115, L116, L117, L118, L127, L128, L132, L135, L153, L167, L170, L172, L177, L184, L191, L192, L196, L200, L223, L224, L239, L240, L255, L256, L400, L512, L1024, L1280, eqN, leN, ltN, chkN, cl_nI, nI_add]
        by_cases q : 128 ≤ b (k + i) ∧ b (k + i) ≤ 191
        · rw [decide_eq_true q]
          simp only [b2, Bool.toNat_true]
          grind
        · rw [decide_eq_false q]
          simp only [b2, Bool.toNat_false]
          grind
      rw [loopF_s e]
      unfold okB
      rw [if_pos rfl]
      exact ih (i + 1) _ N (by omega) (by omega)
theorem M_characters {v : St} {b : Nat → Nat} {n s t : Nat} (hB : BM v b n) (h7 : v 7 0 = 0) (hst : s ≤ t) (ht : t ≤ n) : f_X7_characters (nI s) (nI (t - s)) v = some (match cbad b t (t + 1) s with | none => v | some i => up (up v 7 0 6) 8 0 (nI i)) := by
  have hn := hB.1
  have main : ∀ m i N, t < i + m → s ≤ i → i ≤ t → t < i + N → (loopF (f_X7_characters_b2 (nI s) (nI (t - s))) N (nI i, v)).bind (fun q200 => Sum.elim (fun q20 => some q20) (fun q20 => some q20) q200) = some (match cbad b t m i with | none => v | some j => up (up v 7 0 6) 8 0 (nI j)) := by
    intro m
    induction m with
    | zero => intro i N h1 h2 h3 h4; omega
    | succ m ih =>
      intro i N h1 h2 h3 h4
      obtain ⟨N, rfl⟩ : ∃ z, N = z + 1 := ⟨N - 1, by omega⟩
      have hst2 : nI s + nI (t - s) = nI t := by rw [nI_add]; congr 1; omega
      unfold cbad
      by_cases q : t ≤ i
      · have e : f_X7_characters_b2 (nI s) (nI (t - s)) (nI i, v) = some (.inl (.inr v)) := by
          unfold f_X7_characters_b2
          rw [hst2, if_pos (show nI t ≤ nI i from nI_le q (by omega))]
        rw [if_pos q, loopF_s e]
        rfl
      rw [if_neg q]
      obtain ⟨e1, e2⟩ := hB.2 i (by omega)
      -- the step, by the size of the character
      have st : ∀ mo (p : Bool), mo ≤ 2 → (p = true → i + mo < t) → (p = false → mo ≤ 2 → i + mo < n ∨ True) → f_X7_characters_j101_2 (nI s) (nI (t - s)) (nI i) (nI mo) (b2 p) v = some (if p = true ∧ okB b mo (i + 1) true = true then .inr (nI (i + 1 + mo), v) else .inl (.inl (up (up v 7 0 6) 8 0 (nI i)))) := by
        intro mo p hm hp _
        unfold f_X7_characters_j101_2
        cases p with
        | false =>
          have e : f_X7_characters_b106 (nI s) (nI (t - s)) (nI i) (nI mo) (b2 false, 1, v) = some (.inl (.inr (b2 false, v))) := by
            unfold f_X7_characters_b106
            by_cases z : nI mo < 1
            · rw [if_pos z]
            · rw [if_neg z, if_pos (show b2 false = 0 from rfl)]
          rw [show FU = 999999 + 1 from rfl, loopF_s e]
          show f_X7_characters_j161_2 (nI s) (nI (t - s)) (nI i) (nI mo) (b2 false) v = _
          unfold f_X7_characters_j161_2
          rw [if_pos (show b2 false = 0 from rfl), bd_some (M_fail h7), if_neg (fun z => absurd z.1 (by decide))]
        | true =>
          have hp := hp rfl
          rw [show (1 : Int32) = nI 1 from rfl, bd_some (M_inner hB (k := i) (mo := mo) (by omega) hm mo 1 true FU (by omega) (by rw [FU_def]; omega))]
          show f_X7_characters_j161_2 (nI s) (nI (t - s)) (nI i) (nI mo) (b2 (okB b mo (i + 1) true)) v = _
          unfold f_X7_characters_j161_2
          cases h9 : okB b mo (i + 1) true with
          | false => rw [if_pos (show b2 false = 0 from rfl), bd_some (M_fail h7), if_neg (fun z => absurd z.2 (by decide))]
          | true => rw [if_neg (show ¬ b2 true = 0 by decide), if_pos ⟨rfl, rfl⟩, show (1 : Int32) = nI 1 from rfl, nI_add, nI_add, show i + (1 + mo) = i + 1 + mo by omega]
      have st9 : f_X7_characters_j101_2 (nI s) (nI (t - s)) (nI i) 9 0 v = some (.inl (.inl (up (up v 7 0 6) 8 0 (nI i)))) := by
        unfold f_X7_characters_j101_2
        have e : f_X7_characters_b106 (nI s) (nI (t - s)) (nI i) 9 (0, 1, v) = some (.inl (.inr (0, v))) := by
          unfold f_X7_characters_b106
          rw [if_neg (show ¬ (9 : Int32) < 1 by decide), if_pos rfl]
        rw [show FU = 999999 + 1 from rfl, loopF_s e]
        show f_X7_characters_j161_2 (nI s) (nI (t - s)) (nI i) 9 0 v = _
        unfold f_X7_characters_j161_2
        rw [if_pos rfl, bd_some (M_fail h7)]
      have j77 : ∀ mo, mo ≤ 2 → f_X7_characters_j77_2 (nI s) (nI (t - s)) (nI i) (nI mo) v = some (if i + 1 + mo ≤ t ∧ okB b mo (i + 1) true = true then .inr (nI (i + 1 + mo), v) else .inl (.inl (up (up v 7 0 6) 8 0 (nI i)))) := by
        intro mo hm
        unfold f_X7_characters_j77_2 f_X7_characters_j100_2
        rw [if_neg (show ¬ (9 : Int32) ≤ nI mo by rw [show (9 : Int32) = nI 9 from rfl]; exact nI_ge (by omega) (by omega)), hst2, nI_add]
        by_cases z : t ≤ i + mo
        · rw [if_pos (nI_le z (by omega)), if_neg (by omega)]
          have w := st mo false hm (fun h => absurd h (by decide)) (fun _ _ => Or.inr trivial)
          rw [if_neg (fun z => absurd z.1 (by decide))] at w
          exact w
        · rw [if_neg (nI_ge (by omega) (by omega))]
          have w := st mo true hm (fun _ => by omega) (fun h => absurd h (by decide))
          have w2 : f_X7_characters_j101_2 (nI s) (nI (t - s)) (nI i) (nI mo) 1 v = _ := w
          rw [w2]
          by_cases y : okB b mo (i + 1) true = true
          · rw [if_pos ⟨rfl, y⟩, if_pos ⟨by omega, y⟩]
          · rw [if_neg (fun z => y z.2), if_neg (fun z => y z.2)]
      have j75 : f_X7_characters_j75_2 (nI s) (nI (t - s)) (nI i) v = some (.inl (.inl (up (up v 7 0 6) 8 0 (nI i)))) := by
        unfold f_X7_characters_j75_2 f_X7_characters_j77_2 f_X7_characters_j100_2
        rw [if_pos (by decide)]
        exact st9
      have bd0 : f_X7_characters_b2 (nI s) (nI (t - s)) (nI i, v) = if b i < 1 then f_X7_characters_j35_2 (nI s) (nI (t - s)) (nI i) (nI (b i)) v else if 128 ≤ b i then f_X7_characters_j35_2 (nI s) (nI (t - s)) (nI i) (nI (b i)) v else f_X7_characters_j77_2 (nI s) (nI (t - s)) (nI i) (nI 0) v := by
        unfold f_X7_characters_b2
        rw [hst2, if_neg (show ¬ nI t ≤ nI i from nI_ge (by omega) (by omega))]
        show chk 400 (nI i) (if v 30 (Int32.toNatClampNeg (nI i)) < 1 then _ else _) = _
        rw [chkN (by omega) (by omega), cl_nI (by omega)]
        simp only [e1]
        simp (disch := omega) only [L0, L1, L128, ltN, leN]
      have bd1 : f_X7_characters_j35_2 (nI s) (nI (t - s)) (nI i) (nI (b i)) v = if 192 ≤ b i ∧ b i ≤ 223 then f_X7_characters_j77_2 (nI s) (nI (t - s)) (nI i) (nI 1) v else if 224 ≤ b i ∧ b i ≤ 239 then f_X7_characters_j77_2 (nI s) (nI (t - s)) (nI i) (nI 2) v else some (.inl (.inl (up (up v 7 0 6) 8 0 (nI i)))) := by
        unfold f_X7_characters_j35_2 f_X7_characters_j55_2
        rw [j75]
        simp (disch := omega) only [L1, L2, L192, L224, L240, ltN, leN]
        grind
      have body : ∀ mo, csz (b i) = mo + 1 → f_X7_characters_b2 (nI s) (nI (t - s)) (nI i, v) = f_X7_characters_j77_2 (nI s) (nI (t - s)) (nI i) (nI mo) v := by
        intro mo hmo
        rw [bd0, bd1]
        unfold csz at hmo
        grind
      have body0 : csz (b i) = 0 → f_X7_characters_b2 (nI s) (nI (t - s)) (nI i, v) = some (.inl (.inl (up (up v 7 0 6) 8 0 (nI i)))) := by
        intro hmo
        rw [bd0, bd1]
        unfold csz at hmo
        grind
      have hc3 := csz_le (b i)
      by_cases g : cgood b i t
      · have g1 := g.1
        have g2 := g.2.1
        have gb := body (csz (b i) - 1) (by omega)
        rw [j77 (csz (b i) - 1) (by omega), if_pos ⟨by omega, (okB_t b _ _).mpr (fun k a1 a2 => g.2.2 k (by omega) (by omega))⟩, show i + 1 + (csz (b i) - 1) = i + csz (b i) by omega] at gb
        rw [if_pos g, loopF_s gb]
        exact ih _ N (by omega) (by omega) (by omega) (by omega)
      · rw [if_neg g]
        by_cases z : csz (b i) = 0
        · rw [loopF_s (body0 z)]
          rfl
        · have gb := body (csz (b i) - 1) (by omega)
          rw [j77 (csz (b i) - 1) (by omega), if_neg (fun w => g ⟨z, by omega, fun k a1 a2 => (okB_t b _ _).mp w.2 k (by omega) (by omega)⟩)] at gb
          rw [loopF_s gb]
          rfl
  unfold f_X7_characters
  exact main (t + 1) s FU (by omega) (Nat.le_refl _) hst (by rw [FU_def]; omega)
