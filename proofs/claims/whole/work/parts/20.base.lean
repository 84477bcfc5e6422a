/-- a truth value as the machine has it -/
noncomputable def bI (p : Prop) : Int32 := @ite _ p (Classical.propDecidable p) 1 0
theorem bI_t {p : Prop} (h : p) : bI p = 1 := by unfold bI; rw [if_pos h]
theorem bI_f {p : Prop} (h : ¬ p) : bI p = 0 := by unfold bI; rw [if_neg h]
theorem bI_0 {p : Prop} : bI p = 0 ↔ ¬ p := by
  by_cases h : p
  · rw [bI_t h]; exact ⟨fun q => absurd q (by decide), fun q => absurd h q⟩
  · rw [bI_f h]; exact ⟨fun _ => h, fun _ => rfl⟩
theorem bI_c {p q : Prop} (h : p ↔ q) : bI p = bI q := by
  by_cases hp : p
  · rw [bI_t hp, bI_t (h.mp hp)]
  · rw [bI_f hp, bI_f (fun z => hp (h.mpr z))]
theorem bchk_bI {α : Type} {p : Prop} {k : Option α} : bchk (bI p) k = k := by
  unfold bchk
  by_cases h : p
  · rw [bI_t h, if_pos (Or.inr rfl)]
  · rw [bI_f h, if_pos (Or.inl rfl)]
theorem bchk_0 {α : Type} {k : Option α} : bchk 0 k = k := by unfold bchk; rw [if_pos (Or.inl rfl)]
theorem bchk_1 {α : Type} {k : Option α} : bchk 1 k = k := by unfold bchk; rw [if_pos (Or.inr rfl)]
theorem chkN {α : Type} {N k : Nat} {x : Option α} (h : k < N) (hN : N < 2 ^ 31) : chk N (nI k) x = x := by
  unfold chk
  rw [if_neg (nI_in h hN)]
theorem cl_nI {k : Nat} (h : k < 2 ^ 31) : Int32.toNatClampNeg (nI k) = k := nI_clamp h
theorem FU_def : FU = 1000000 := rfl
theorem loopF_s {α β : Type} {body : α → Option (β ⊕ α)} {n : Nat} {a : α} {r : β ⊕ α} (h : body a = some r) : loopF body (n + 1) a = Sum.elim (fun q => some q) (fun q => loopF body n q) r := by
  rw [loopF, h]
  cases r <;> rfl
/-- total rule for loops -/
theorem loopF_rule {α β : Type} {body : α → Option (β ⊕ α)} (I : α → Prop) (μ : α → Nat) (P : β → Prop) (h : ∀ a, I a → (∃ q, body a = some (.inl q) ∧ P q) ∨ (∃ q, body a = some (.inr q) ∧ I q ∧ μ q < μ a)) : ∀ n a, I a → μ a < n → ∃ q, loopF body n a = some q ∧ P q := by
  intro n
  induction n with
  | zero => intro a _ h2; exact absurd h2 (Nat.not_lt_zero _)
  | succ n ih =>
    intro a h1 h2
    rcases h a h1 with ⟨q, e, hq⟩ | ⟨q, e, hq, hm⟩
    · exact ⟨q, by rw [loopF_s e]; rfl, hq⟩
    · obtain ⟨q2, e2, h3⟩ := ih q hq (by omega)
      exact ⟨q2, by rw [loopF_s e]; exact e2, h3⟩
/-- a counting loop that stops at the first place where P fails -/
theorem loop_up {β : Type} {body : Int32 → Option (β ⊕ Int32)} {s t : Nat} (P : Nat → Prop) (r : Nat → β) (e : β) (hst : s ≤ t) (ht : t < 65600)
    (hb : ∀ k, s ≤ k → k < t → (P k ∧ body (nI k) = some (.inr (nI (k + 1)))) ∨ (¬ P k ∧ body (nI k) = some (.inl (r k))))
    (he : body (nI t) = some (.inl e)) :
    (loopF body FU (nI s) = some e ∧ ∀ j, s ≤ j → j < t → P j) ∨ ∃ k, s ≤ k ∧ k < t ∧ ¬ P k ∧ (∀ j, s ≤ j → j < k → P j) ∧ loopF body FU (nI s) = some (r k) := by
  have main : ∀ n k, s ≤ k → k ≤ t → t - k < n → (∀ j, s ≤ j → j < k → P j) → (loopF body n (nI k) = some e ∧ ∀ j, s ≤ j → j < t → P j) ∨ ∃ k2, s ≤ k2 ∧ k2 < t ∧ ¬ P k2 ∧ (∀ j, s ≤ j → j < k2 → P j) ∧ loopF body n (nI k) = some (r k2) := by
    intro n
    induction n with
    | zero => intro k _ _ h; exact absurd h (Nat.not_lt_zero _)
    | succ n ih =>
      intro k h1 h2 h3 h4
      by_cases hk : k = t
      · subst hk
        exact Or.inl ⟨by rw [loopF_s he]; rfl, h4⟩
      · rcases hb k h1 (by omega) with ⟨hp, eb⟩ | ⟨hp, eb⟩
        · rw [loopF_s eb]
          exact ih (k + 1) (by omega) (by omega) (by omega) (fun j a1 a2 => by
            by_cases hj : j = k
            · subst hj; exact hp
            · exact h4 j a1 (by omega))
        · exact Or.inr ⟨k, h1, by omega, hp, h4, by rw [loopF_s eb]; rfl⟩
  exact main FU s (Nat.le_refl s) hst (by rw [FU_def]; omega) (fun j h1 h2 => absurd h1 (by omega))
/-- reading of a bind -/
theorem bd_some {α β : Type} {o : Option α} {q : α} {k : α → Option β} (h : o = some q) : o.bind k = k q := by rw [h]; rfl
/-- the class's bytes -/
def BX (u : St) (b : Nat → Nat) (n : Nat) : Prop := n ≤ 400 ∧ ∀ i, i < n → u 22 i = nI (b i) ∧ b i < 256
theorem eqN {a b : Nat} (ha : a < 2 ^ 31) (hb : b < 2 ^ 31) : (nI a = nI b) = (a = b) := propext (nI_eq ha hb)
theorem leN {a b : Nat} (ha : a < 2 ^ 31) (hb : b < 2 ^ 31) : (nI a ≤ nI b) = (a ≤ b) := propext (nI_leI ha hb)
theorem ltN {a b : Nat} (ha : a < 2 ^ 31) (hb : b < 2 ^ 31) : (nI a < nI b) = (a < b) := propext (nI_ltI ha hb)
theorem eqL {x : Nat} {c : Int32} (k : Nat) (hc : c = nI k) (hx : x < 2 ^ 31) (hk : k < 2 ^ 31) : nI x = c ↔ x = k := by rw [hc]; exact nI_eq hx hk
theorem if_tt {α : Type} {c : Prop} {i : Decidable c} {a b : α} (h : c) : (@ite _ c i a b) = a := if_pos h
theorem if_ff {α : Type} {c : Prop} {i : Decidable c} {a b : α} (h : ¬ c) : (@ite _ c i a b) = b := if_neg h
theorem L0 : (0 : Int32) = nI 0 := rfl
theorem L1 : (1 : Int32) = nI 1 := rfl
theorem L2 : (2 : Int32) = nI 2 := rfl
theorem L3 : (3 : Int32) = nI 3 := rfl
theorem L4 : (4 : Int32) = nI 4 := rfl
theorem L5 : (5 : Int32) = nI 5 := rfl
theorem L6 : (6 : Int32) = nI 6 := rfl
theorem L7 : (7 : Int32) = nI 7 := rfl
theorem L8 : (8 : Int32) = nI 8 := rfl
theorem L9 : (9 : Int32) = nI 9 := rfl
theorem L10 : (10 : Int32) = nI 10 := rfl
theorem L11 : (11 : Int32) = nI 11 := rfl
theorem L12 : (12 : Int32) = nI 12 := rfl
theorem L13 : (13 : Int32) = nI 13 := rfl
theorem L14 : (14 : Int32) = nI 14 := rfl
theorem L15 : (15 : Int32) = nI 15 := rfl
theorem L16 : (16 : Int32) = nI 16 := rfl
theorem L17 : (17 : Int32) = nI 17 := rfl
theorem L18 : (18 : Int32) = nI 18 := rfl
theorem L20 : (20 : Int32) = nI 20 := rfl
theorem L21 : (21 : Int32) = nI 21 := rfl
theorem L22 : (22 : Int32) = nI 22 := rfl
theorem L23 : (23 : Int32) = nI 23 := rfl
theorem L24 : (24 : Int32) = nI 24 := rfl
theorem L25 : (25 : Int32) = nI 25 := rfl
theorem L26 : (26 : Int32) = nI 26 := rfl
theorem L27 : (27 : Int32) = nI 27 := rfl
theorem L28 : (28 : Int32) = nI 28 := rfl
theorem L29 : (29 : Int32) = nI 29 := rfl
theorem L32 : (32 : Int32) = nI 32 := rfl
theorem L34 : (34 : Int32) = nI 34 := rfl
theorem L40 : (40 : Int32) = nI 40 := rfl
theorem L41 : (41 : Int32) = nI 41 := rfl
theorem L45 : (45 : Int32) = nI 45 := rfl
theorem L46 : (46 : Int32) = nI 46 := rfl
theorem L47 : (47 : Int32) = nI 47 := rfl
theorem L51 : (51 : Int32) = nI 51 := rfl
theorem L54 : (54 : Int32) = nI 54 := rfl
theorem L59 : (59 : Int32) = nI 59 := rfl
theorem L60 : (60 : Int32) = nI 60 := rfl
theorem L61 : (61 : Int32) = nI 61 := rfl
theorem L62 : (62 : Int32) = nI 62 := rfl
theorem L64 : (64 : Int32) = nI 64 := rfl
theorem L65 : (65 : Int32) = nI 65 := rfl
theorem L66 : (66 : Int32) = nI 66 := rfl
theorem L67 : (67 : Int32) = nI 67 := rfl
theorem L68 : (68 : Int32) = nI 68 := rfl
theorem L69 : (69 : Int32) = nI 69 := rfl
theorem L70 : (70 : Int32) = nI 70 := rfl
theorem L73 : (73 : Int32) = nI 73 := rfl
theorem L74 : (74 : Int32) = nI 74 := rfl
theorem L76 : (76 : Int32) = nI 76 := rfl
theorem L80 : (80 : Int32) = nI 80 := rfl
theorem L83 : (83 : Int32) = nI 83 := rfl
theorem L86 : (86 : Int32) = nI 86 := rfl
theorem L87 : (87 : Int32) = nI 87 := rfl
theorem L90 : (90 : Int32) = nI 90 := rfl
theorem L91 : (91 : Int32) = nI 91 := rfl
theorem L96 : (96 : Int32) = nI 96 := rfl
theorem L97 : (97 : Int32) = nI 97 := rfl
theorem L99 : (99 : Int32) = nI 99 := rfl
theorem L100 : (100 : Int32) = nI 100 := rfl
theorem L101 : (101 : Int32) = nI 101 := rfl
theorem L105 : (105 : Int32) = nI 105 := rfl
theorem L108 : (108 : Int32) = nI 108 := rfl
theorem L110 : (110 : Int32) = nI 110 := rfl
theorem L111 : (111 : Int32) = nI 111 := rfl
theorem L115 : (115 : Int32) = nI 115 := rfl
theorem L116 : (116 : Int32) = nI 116 := rfl
theorem L117 : (117 : Int32) = nI 117 := rfl
theorem L118 : (118 : Int32) = nI 118 := rfl
theorem L127 : (127 : Int32) = nI 127 := rfl
theorem L128 : (128 : Int32) = nI 128 := rfl
theorem L132 : (132 : Int32) = nI 132 := rfl
theorem L135 : (135 : Int32) = nI 135 := rfl
theorem L153 : (153 : Int32) = nI 153 := rfl
theorem L167 : (167 : Int32) = nI 167 := rfl
theorem L170 : (170 : Int32) = nI 170 := rfl
theorem L172 : (172 : Int32) = nI 172 := rfl
theorem L177 : (177 : Int32) = nI 177 := rfl
theorem L184 : (184 : Int32) = nI 184 := rfl
theorem L191 : (191 : Int32) = nI 191 := rfl
theorem L192 : (192 : Int32) = nI 192 := rfl
theorem L196 : (196 : Int32) = nI 196 := rfl
theorem L200 : (200 : Int32) = nI 200 := rfl
theorem L223 : (223 : Int32) = nI 223 := rfl
theorem L224 : (224 : Int32) = nI 224 := rfl
theorem L239 : (239 : Int32) = nI 239 := rfl
theorem L240 : (240 : Int32) = nI 240 := rfl
theorem L255 : (255 : Int32) = nI 255 := rfl
theorem L256 : (256 : Int32) = nI 256 := rfl
theorem L400 : (400 : Int32) = nI 400 := rfl
theorem L512 : (512 : Int32) = nI 512 := rfl
theorem L1024 : (1024 : Int32) = nI 1024 := rfl
theorem L1280 : (1280 : Int32) = nI 1280 := rfl
/-- the first place from s on, at most m further, where P fails (else s + m) -/
noncomputable def fstN (P : Nat → Prop) : Nat → Nat → Nat
  | 0, s => s
  | m + 1, s => @ite _ (P s) (Classical.propDecidable _) (fstN P m (s + 1)) s
theorem fstN_spec {P : Nat → Prop} : ∀ (m s : Nat), s ≤ fstN P m s ∧ fstN P m s ≤ s + m ∧ (∀ j, s ≤ j → j < fstN P m s → P j) ∧ (fstN P m s < s + m → ¬ P (fstN P m s)) := by
  intro m
  induction m with
  | zero => intro s; exact ⟨Nat.le_refl _, Nat.le_refl _, fun j h1 h2 => absurd h2 (by simp only [fstN]; omega), fun h => absurd h (by simp only [fstN]; omega)⟩
  | succ m ih =>
    intro s
    unfold fstN
    by_cases h : P s
    · rw [if_pos h]
      obtain ⟨h1, h2, h3, h4⟩ := ih (s + 1)
      refine ⟨by omega, by omega, fun j a1 a2 => ?_, fun a => h4 (by omega)⟩
      by_cases hj : j = s
      · rw [hj]; exact h
      · exact h3 j (by omega) a2
    · rw [if_neg h]
      exact ⟨Nat.le_refl _, by omega, fun j a1 a2 => absurd a1 (by omega), fun _ => h⟩
theorem fstN_uniq {P : Nat → Prop} {m s k : Nat} (h1 : s ≤ k) (h2 : k ≤ s + m) (h3 : ∀ j, s ≤ j → j < k → P j) (h4 : k < s + m → ¬ P k) : fstN P m s = k := by
  obtain ⟨g1, g2, g3, g4⟩ := fstN_spec (P := P) m s
  rcases Nat.lt_trichotomy (fstN P m s) k with h | h | h
  · exact absurd (h3 _ g1 h) (g4 (by omega))
  · exact h
  · exact absurd (g3 k h1 h) (h4 (by omega))
theorem fstN_shift {P : Nat → Prop} {m f s : Nat} : fstN P m (s + f) = s + fstN (fun k => P (s + k)) m f := by
  obtain ⟨g1, g2, g3, g4⟩ := fstN_spec (P := fun k => P (s + k)) m f
  refine fstN_uniq (by omega) (by omega) (fun j a1 a2 => ?_) (fun a => g4 (by omega))
  have := g3 (j - s) (by omega) (by omega)
  rwa [show s + (j - s) = j by omega] at this
theorem loop_fst {β : Type} {body : Int32 → Option (β ⊕ Int32)} {s t : Nat} (P : Nat → Prop) (R : Nat → β) (hst : s ≤ t) (ht : t < 65600)
    (hb : ∀ k, s ≤ k → k < t → (P k ∧ body (nI k) = some (.inr (nI (k + 1)))) ∨ (¬ P k ∧ body (nI k) = some (.inl (R k))))
    (he : body (nI t) = some (.inl (R t))) : loopF body FU (nI s) = some (R (fstN P (t - s) s)) := by
  rcases loop_up P R (R t) hst ht hb he with ⟨e, h⟩ | ⟨k, h1, h2, h3, h4, e⟩
  · rw [e, fstN_uniq (k := t) hst (by omega) h (fun a => absurd a (by omega))]
  · rw [e, fstN_uniq (k := k) h1 (by omega) h4 (fun _ => h3)]
