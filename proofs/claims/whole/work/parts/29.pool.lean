theorem up_s {u : St} {k i : Nat} {x : Int32} : up u k i x k = upd (u k) i x := by
  unfold up
  rw [Nat.beq_refl k]
  rfl
theorem up_o {u : St} {k k2 i : Nat} {x : Int32} (h : ¬ k2 = k) : up u k i x k2 = u k2 := by
  unfold up
  have : Nat.beq k2 k = false := by
    cases q : Nat.beq k2 k with
    | false => rfl
    | true => exact absurd (Nat.eq_of_beq_eq_true q) h
  rw [this]
  rfl
theorem upd_s {f : Nat → Int32} {i : Nat} {x : Int32} : upd f i x i = x := by
  unfold upd
  rw [if_pos rfl]
theorem upd_o {f : Nat → Int32} {i j : Nat} {x : Int32} (h : ¬ j = i) : upd f i x j = f j := by
  unfold upd
  rw [if_neg h]
theorem lg_le {a c : Nat} (ha : a < 2 ^ 63) (hc : c < 2 ^ 63) : lg_cmp (lN a) (lN c) ≤ 0 ↔ a ≤ c := by
  unfold lg_cmp
  by_cases q1 : lN c < lN a
  · rw [if_pos q1]
    have := (pk_lLT hc ha).mp q1
    exact ⟨fun z => absurd z (by decide), fun z => by omega⟩
  · rw [if_neg q1]
    have w1 : ¬ c < a := fun z => q1 ((pk_lLT hc ha).mpr z)
    by_cases q2 : lN a = lN c
    · rw [if_pos q2]
      exact ⟨fun _ => by omega, fun _ => by decide⟩
    · rw [if_neg q2]
      exact ⟨fun _ => by omega, fun _ => by decide⟩
theorem lg_lt {a c : Nat} (ha : a < 2 ^ 63) (hc : c < 2 ^ 63) : lg_cmp (lN a) (lN c) < 0 ↔ a < c := by
  unfold lg_cmp
  by_cases q1 : lN c < lN a
  · rw [if_pos q1]
    have := (pk_lLT hc ha).mp q1
    exact ⟨fun z => absurd z (by decide), fun z => by omega⟩
  · rw [if_neg q1]
    have w1 : ¬ c < a := fun z => q1 ((pk_lLT hc ha).mpr z)
    by_cases q2 : lN a = lN c
    · rw [if_pos q2]
      have := (pk_lEQ ha hc).mp q2
      exact ⟨fun z => absurd z (by decide), fun z => by omega⟩
    · rw [if_neg q2]
      have : ¬ a = c := fun z => q2 (by rw [z])
      exact ⟨fun _ => by omega, fun _ => by decide⟩
/-- both go over c bytes -/
theorem skC {τ : Prop} {u0 v0 u v : St} {n pos lim lr ls : Nat} (hn : n ≤ 400) (h : JS τ u0 v0 n pos lim lr ls u v) (c : Nat) (hc : c < 2 ^ 31) :
    (pos + c ≤ lim ∧ f_X5_step (nI c) u = some (1, up u 4 0 (nI (pos + c))) ∧ f_X7_skip (lN c) v = some (up v 3 0 (nI (pos + c))) ∧ JS τ u0 v0 n (pos + c) lim lr ls (up u 4 0 (nI (pos + c))) (up v 3 0 (nI (pos + c)))) ∨
    (lim < pos + c ∧ f_X5_step (nI c) u = some (0, up (up u 2 0 (nI lr)) 3 0 (nI ls)) ∧ f_X7_skip (lN c) v = some (up (up v 7 0 (nI lr)) 8 0 (nI ls)) ∧ EE τ u0 v0 (up (up u 2 0 (nI lr)) 3 0 (nI ls)) (up (up v 7 0 (nI lr)) 8 0 (nI ls))) := by
  obtain ⟨-, -, -, -, r5, r6, r7, r8, r9, -, r11, r12, r13, r14⟩ := h.2.2.1
  have hl : ((v 4 0 - v 3 0).toInt64) = lN (lim - pos) := by rw [r5, r6, pk_sub r11, nI_l (by omega)]
  rcases X_stepC h hn c hc with ⟨a, e⟩ | ⟨a, e⟩
  · refine Or.inl ⟨a, e, ?_, h.adv _ a⟩
    unfold f_X7_skip f_X7_skip_j38 f_X7_skip_j56
    have q : lg_cmp (lN c) (lN (lim - pos)) ≤ 0 := (lg_le (by omega) (by omega)).mpr (by omega)
    simp only [r9, if_true, hl, if_pos q]
    simp only [r5, lN_i, nI_add]
  · refine Or.inr ⟨a, e, ?_, h.err r13 r14 _⟩
    unfold f_X7_skip f_X7_skip_j56
    have q : ¬ lg_cmp (lN c) (lN (lim - pos)) ≤ 0 := fun z => absurd ((lg_le (by omega) (by omega)).mp z) (by omega)
    simp only [r9, if_true, hl, if_neg q, M_fail r9, r7, r8, Option.bind_some]
/-- an entry of the pool -/
def EN (b : Nat → Nat) (n : Nat) (u v : St) (k : Nat) : Prop := ∃ t pl, u 25 k = nI t ∧ v 33 k = nI t ∧ t < 13 ∧ (t ≠ 0 → u 26 k = nI pl ∧ v 34 k = nI pl ∧ pl < 400) ∧ (t = 1 → pl + 3 + w2 b (pl + 1) ≤ n ∧ v 35 k = nI (pl + 3) ∧ v 36 k = nI (w2 b (pl + 1))) ∧ (t = 7 ∨ t = 8 → pl + 3 ≤ n ∧ v 35 k = nI (w2 b (pl + 1))) ∧ (t = 10 ∨ t = 12 → pl + 5 ≤ n ∧ v 35 k = nI (w2 b (pl + 1)) ∧ v 36 k = nI (w2 b (pl + 3)))
def SB (i : Nat) (u v u1 v1 : St) : Prop := ∀ j, j < i → u1 25 j = u 25 j ∧ u1 26 j = u 26 j ∧ v1 33 j = v 33 j ∧ v1 34 j = v 34 j ∧ v1 35 j = v 35 j ∧ v1 36 j = v 36 j
theorem EN.sb {b : Nat → Nat} {n i : Nat} {u v u1 v1 : St} (hS : SB i u v u1 v1) {k : Nat} (hk : k < i) (h : EN b n u v k) : EN b n u1 v1 k := by
  obtain ⟨e1, e2, e3, e4, e5, e6⟩ := hS k hk
  unfold EN
  rw [e1, e2, e3, e4, e5, e6]
  exact h
theorem cbad_lt {b : Nat → Nat} {t : Nat} : ∀ m i j, cbad b t m i = some j → j < t := by
  intro m
  induction m with
  | zero => intro i j h; unfold cbad at h; cases h
  | succ m ih =>
    intro i j h
    unfold cbad at h
    by_cases q : t ≤ i
    · rw [if_pos q] at h; cases h
    · rw [if_neg q] at h
      by_cases g : cgood b i t
      · rw [if_pos g] at h; exact ih _ _ h
      · rw [if_neg g] at h; cases h; omega
theorem st_entry {u0 v0 u v : St} {b : Nat → Nat} {n pos i c : Nat} (hE : EV u0 v0 b n) (h : JS False u0 v0 n pos n 1 n u v) (hi : 1 ≤ i) (hic : i < c) (hc : c < 65536) (hp : 3 * i + 7 ≤ pos) :
    ∃ r k u1 v1, f_X4_readEntry (nI i) (nI c) u = some (r, u1) ∧ f_X7_entry (nI i) (nI c) v = some (nI k, v1) ∧
      ((r = 1 ∧ u1 8 0 = u 8 0 ∧ (∃ pos2, JS False u0 v0 n pos2 n 1 n u1 v1 ∧ pos + 3 * k ≤ pos2) ∧ ((k = 1 ∧ EN b n u1 v1 i ∧ ¬ u1 25 i = 5) ∨ (k = 2 ∧ u1 25 i = 5 ∧ EN b n u1 v1 i ∧ EN b n u1 v1 (i + 1) ∧ i + 1 < c)) ∧ SB i u v u1 v1) ∨
       (r = 0 ∧ EE False u0 v0 u1 v1 ∧ (u1 2 0 = 7 → u1 8 0 = nI i) ∧ (¬ u1 2 0 = 7 → u1 8 0 = u 8 0))) := by
  have hn := hE.1.1
  have n10 : ¬ (1 : Int32) = 0 := by decide
  have h17 : ¬ nI 1 = (7 : Int32) := by decide
  obtain ⟨r1, -, -, -, r5, -⟩ := id h.2.2.1
  unfold f_X4_readEntry f_X4_readEntry_j110 f_X4_readEntry_j115 f_X7_entry f_X7_entry_j150 f_X7_entry_j194 f_X7_entry_j210 f_X7_u1
  simp only [X_broken, Option.bind_some, bchk_0, bchk_1]
  rcases rdC hE h 1 (by omega) (by omega) with ⟨a1, e1, e2, h1⟩ | ⟨a1, e1, v1, e2, h1⟩
  rotate_left
  · have e1 : f_X5_step 1 u = _ := e1
    have e2 : f_X7_u 1 v = _ := e2
    refine ⟨0, 1, _, v1, by simp only [e1, Option.bind_some, if_true], by simp only [e2, Option.bind_some, h1.nz, if_false]; rfl, Or.inr ⟨rfl, h1, fun z => absurd z h17, fun _ => rfl⟩⟩
  have e1 : f_X5_step 1 u = _ := e1
  have e2 : f_X7_u 1 v = _ := e2
  rw [wN1] at e2
  obtain ⟨g1, g2⟩ := (hE.bx h1.1).2 pos (by omega)
  simp only [e1, e2, Option.bind_some, h1.r0, if_true, if_neg n10, r1, r5, lN_i, cl_nI (show pos < 2 ^ 31 by omega), cl_nI (show i < 2 ^ 31 by omega), g1]
  simp (disch := omega) only [chkN, nI_1]
  obtain ⟨U, hU⟩ : ∃ U, U = up u 4 0 (nI (pos + 1)) := ⟨_, rfl⟩
  obtain ⟨V, hV⟩ : ∃ V, V = up (up (up v 3 0 (nI (pos + 1))) 33 i (nI (b pos))) 34 i (nI pos) := ⟨_, rfl⟩
  have hT : JS False u0 v0 n (pos + 1) n 1 n U V := by rw [hU, hV]; exact h1
  have hS0 : ∀ x, SB i u v (up (up (up U 4 0 x) 25 i (nI (b pos))) 26 i (nI pos)) V := by
    intro x j hj
    rw [hU, hV]
    exact ⟨by simp (disch := omega) only [up_s, up_o, upd_s, upd_o], by simp (disch := omega) only [up_s, up_o, upd_s, upd_o], by simp (disch := omega) only [up_s, up_o, upd_s, upd_o], by simp (disch := omega) only [up_s, up_o, upd_s, upd_o], by simp (disch := omega) only [up_s, up_o, upd_s, upd_o], by simp (disch := omega) only [up_s, up_o, upd_s, upd_o]⟩
  have u8 : U 8 0 = u 8 0 := by rw [hU]; rfl
  have hV33 : V 33 i = nI (b pos) := by rw [hV]; simp (disch := omega) only [up_s, up_o, upd_s, upd_o]
  have hV34 : V 34 i = nI pos := by rw [hV]; simp (disch := omega) only [up_s, up_o, upd_s, upd_o]
  have hU2 : ∀ x y, (up (up U 2 0 x) 3 0 y) 8 0 = u 8 0 := fun x y => by rw [hU]; rfl
  rw [← hU, ← hV]
  clear hU hV
  have b13 : b pos = 1 ∨ b pos = 3 ∨ b pos = 5 ∨ b pos = 7 ∨ b pos = 8 ∨ b pos = 10 ∨ b pos = 12 ∨ (b pos ≠ 1 ∧ b pos ≠ 3 ∧ b pos ≠ 5 ∧ b pos ≠ 7 ∧ b pos ≠ 8 ∧ b pos ≠ 10 ∧ b pos ≠ 12) := by omega
  rcases b13 with q | q | q | q | q | q | q | q
  · -- text
    have ef : f_X4_fixedSize (nI (b pos)) U = some 2 := by rw [q]; rfl
    have d0 : ¬ (2 : Int32) = 0 := by decide
    have d1 : nI (b pos) = 1 := by rw [q]; rfl
    rcases rd2 hE hT with ⟨a2, e3, e4, h2, w, e5⟩ | ⟨a2, e3, v1, e4, h2⟩
    rotate_left
    · have h2n : ¬ (up (up v1 35 i (v1 3 0)) 36 i 0) 7 0 = 0 := h2.n
      simp only [ef, e3, e4, Option.bind_some, if_neg d0, if_pos d1, if_true, M_skipN h2n, if_neg h2n]
      exact ⟨0, 1, _, _, rfl, rfl, Or.inr ⟨rfl, h2, fun z => absurd z h17, fun _ => hU2 _ _⟩⟩
    obtain ⟨UK, hUK⟩ : ∃ UK, UK = up (up (up U 4 0 (nI (pos + 1 + 2))) 25 i (nI (b pos))) 26 i (nI pos) := ⟨_, rfl⟩
    obtain ⟨VK, hVK⟩ : ∃ VK, VK = up (up (up V 3 0 (nI (pos + 1 + 2))) 35 i (nI (pos + 1 + 2))) 36 i (nI (w2 b (pos + 1))) := ⟨_, rfl⟩
    have hJ : JS False u0 v0 n (pos + 1 + 2) n 1 n UK VK := by rw [hUK, hVK]; exact h2
    have e6 : f_X1_u2 (nI (pos + 1)) UK = some (nI (w2 b (pos + 1))) := X_u2 (hE.bx hJ.1) (by omega)
    have ev3 : (up V 3 0 (nI (pos + 1 + 2))) 3 0 = nI (pos + 1 + 2) := rfl
    have e35 : ∀ x, (up VK 3 0 x) 35 i = nI (pos + 1 + 2) := fun x => by rw [hVK]; simp (disch := omega) only [up_s, up_o, upd_s, upd_o]
    simp only [ef, e3, e4, Option.bind_some, if_neg d0, if_pos d1, if_neg n10, ev3, nI_l (show w2 b (pos + 1) < 2 ^ 31 by omega)]
    rw [← hUK, ← hVK]
    unfold f_X4_readLetters f_X4_readLetters_j60 f_X4_readLetters_j65
    simp only [nI_1, L3, nI_add, e6, Option.bind_some, bchk_0, bchk_1, X_broken]
    have hS1 : SB i u v UK VK := by
      intro j hj
      obtain ⟨f1, f2, f3, f4, f5, f6⟩ := hS0 (nI (pos + 1 + 2)) j hj
      rw [hUK, hVK]
      exact ⟨f1, f2, f3, f4, by rw [← f5]; simp (disch := omega) only [up_s, up_o, upd_s, upd_o], by rw [← f6]; simp (disch := omega) only [up_s, up_o, upd_s, upd_o]⟩
    have hEN : ∀ x y, pos + 3 + w2 b (pos + 1) ≤ n → EN b n (up UK 4 0 x) (up VK 3 0 y) i := by
      intro x y hh
      rw [hUK, hVK]
      exact ⟨b pos, pos, by simp (disch := omega) only [up_s, up_o, upd_s, upd_o], by simp (disch := omega) only [up_s, up_o, upd_s, upd_o]; exact hV33, by omega, fun _ => ⟨by simp (disch := omega) only [up_s, up_o, upd_s, upd_o], by simp (disch := omega) only [up_s, up_o, upd_s, upd_o]; exact hV34, by omega⟩, fun z => ⟨by omega, by simp (disch := omega) only [up_s, up_o, upd_s, upd_o], by simp (disch := omega) only [up_s, up_o, upd_s, upd_o]⟩, fun z => by omega, fun z => by omega⟩
    have hk8 : UK 8 0 = u 8 0 := by rw [hUK]; exact u8
    have hk25 : UK 25 i = nI (b pos) := by rw [hUK]; simp (disch := omega) only [up_s, up_o, upd_s, upd_o]
    clear hUK hVK
    rcases skC hn hJ (w2 b (pos + 1)) (by omega) with ⟨a3, s1, s2, h3⟩ | ⟨a3, s1, s2, h3⟩
    rotate_left
    · simp only [s1, s2, Option.bind_some, if_true, bchk_0, h3.nz, if_false]
      exact ⟨0, 1, _, _, rfl, rfl, Or.inr ⟨rfl, h3, fun z => absurd z h17, fun _ => hk8⟩⟩
    have c1 := X_firstNoCharacter (hE.bx h3.1) (s := pos + 3) (t := pos + 1 + 2 + w2 b (pos + 1)) (by omega) a3
    have c2 := M_characters (hE.bm h3.2.1) h3.z (s := pos + 1 + 2) (t := pos + 1 + 2 + w2 b (pos + 1)) (by omega) a3
    rw [show pos + 1 + 2 + w2 b (pos + 1) - (pos + 1 + 2) = w2 b (pos + 1) by omega] at c2
    have ek4 : (up UK 4 0 (nI (pos + 1 + 2 + w2 b (pos + 1)))) 4 0 = nI (pos + 1 + 2 + w2 b (pos + 1)) := rfl
    simp only [s1, s2, Option.bind_some, if_neg n10, ek4, c1, h3.r0, if_true, e35, c2]
    cases hcb : cbad b (pos + 1 + 2 + w2 b (pos + 1)) (pos + 1 + 2 + w2 b (pos + 1) + 1) (pos + 3) with
    | none =>
      have m1 : (-1 : Int32) < 0 := by decide
      simp only [show pos + 1 + 2 = pos + 3 from rfl] at hcb ⊢
      simp only [hcb, if_pos m1, Option.bind_some, bchk_1]
      exact ⟨1, 1, _, _, rfl, rfl, Or.inl ⟨rfl, hk8, ⟨_, h3, by omega⟩, Or.inl ⟨rfl, hEN _ _ (by omega), by simp (disch := omega) only [up_s, up_o, upd_s, upd_o]; rw [hk25, q]; decide⟩, hS1⟩⟩
    | some j =>
      simp only [show pos + 1 + 2 = pos + 3 from rfl] at hcb ⊢
      have hj2 : j < 2 ^ 31 := by have := cbad_lt _ _ _ hcb; omega
      simp only [hcb, if_neg (nI_pos hj2), Option.bind_some, bchk_0, if_true]
      exact ⟨0, 1, _, _, rfl, rfl, Or.inr ⟨rfl, h3.err (r := 6) (by omega) (by omega) (nI j), fun z => absurd z (show ¬ (6 : Int32) = 7 by decide), fun _ => hk8⟩⟩
  · -- int
    have ef : f_X4_fixedSize (nI (b pos)) U = some 4 := by rw [q]; rfl
    have d0 : ¬ (4 : Int32) = 0 := by decide
    have d1 : ¬ nI (b pos) = 1 := by rw [q]; decide
    have d5 : ¬ nI (b pos) = 5 := by rw [q]; decide
    have d3 : nI (b pos) = 3 := by rw [q]; rfl
    rcases rd4 hE hT with ⟨a2, e3, e4, h2, -⟩ | ⟨a2, e3, v1, e4, h2⟩
    · simp only [ef, e3, e4, Option.bind_some, if_neg d0, if_neg d1, if_neg d5, if_neg n10, if_pos d3]
      refine ⟨1, 1, _, _, rfl, rfl, Or.inl ⟨rfl, u8, ⟨_, h2, by omega⟩, Or.inl ⟨rfl, ⟨b pos, pos, by simp (disch := omega) only [up_s, up_o, upd_s, upd_o], by simp (disch := omega) only [up_s, up_o, upd_s, upd_o]; exact hV33, by omega, fun _ => ⟨by simp (disch := omega) only [up_s, up_o, upd_s, upd_o], by simp (disch := omega) only [up_s, up_o, upd_s, upd_o]; exact hV34, by omega⟩, fun z => by omega, fun z => by omega, fun z => by omega⟩, by simp (disch := omega) only [up_s, up_o, upd_s, upd_o]; exact d5⟩, hS0 _⟩⟩
    · simp only [ef, e3, e4, Option.bind_some, if_neg d0, if_neg d1, if_neg d5, if_true, if_pos d3]
      exact ⟨0, 1, _, _, rfl, rfl, Or.inr ⟨rfl, h2, fun z => absurd z h17, fun _ => hU2 _ _⟩⟩
  · -- long
    have ef : f_X4_fixedSize (nI (b pos)) U = some 8 := by rw [q]; rfl
    have d0 : ¬ (8 : Int32) = 0 := by decide
    have d1 : ¬ nI (b pos) = 1 := by rw [q]; decide
    have d5 : nI (b pos) = 5 := by rw [q]; rfl
    have d3 : ¬ nI (b pos) = 3 := by rw [q]; decide
    rcases X_stepC hT hn 8 (by omega) with ⟨a4, s4⟩ | ⟨a4, s4⟩
    rotate_left
    · have s4 : f_X5_step 8 U = _ := s4
      rcases rd4 hE hT with ⟨a2, -, e4, h2, -⟩ | ⟨a2, e3, v1, e4, h2⟩
      · rcases rd4 hE h2 with ⟨a3, -⟩ | ⟨a3, e3, v1, e5, h3⟩
        · omega
        · simp only [ef, s4, e4, e5, Option.bind_some, if_neg d0, if_neg d1, if_true, if_pos d5, if_neg d3, h3.nz, if_false]
          exact ⟨0, 2, _, _, rfl, rfl, Or.inr ⟨rfl, h3, fun z => absurd z h17, fun _ => hU2 _ _⟩⟩
      · simp only [ef, s4, e4, Option.bind_some, if_neg d0, if_neg d1, if_true, if_pos d5, if_neg d3, M_uN h2.n, h2.nz, if_false]
        exact ⟨0, 2, _, _, rfl, rfl, Or.inr ⟨rfl, h2, fun z => absurd z h17, fun _ => hU2 _ _⟩⟩
    have s4 : f_X5_step 8 U = _ := s4
    rcases rd4 hE hT with ⟨a2, -, e4, h2, -⟩ | ⟨a2, -⟩
    rotate_left
    · omega
    rcases rd4 hE h2 with ⟨a3, -, e5, h3, -⟩ | ⟨a3, -⟩
    rotate_left
    · omega
    simp only [ef, s4, e4, e5, Option.bind_some, if_neg d0, if_neg d1, if_neg n10, if_pos d5, if_neg d3, h3.r0, if_true]
    unfold f_X4_takeSecondNumber
    simp (disch := omega) only [nI_1, chkN, ltN, cl_nI]
    by_cases q2 : i + 1 < c
    · simp only [if_pos q2, Option.bind_some, if_neg n10]
      refine ⟨1, 2, _, _, rfl, rfl, Or.inl ⟨rfl, u8, ⟨_, h3, by omega⟩, Or.inr ⟨rfl, by simp (disch := omega) only [up_s, up_o, upd_s, upd_o]; exact d5, ⟨b pos, pos, by simp (disch := omega) only [up_s, up_o, upd_s, upd_o], by simp (disch := omega) only [up_s, up_o, upd_s, upd_o]; exact hV33, by omega, fun _ => ⟨by simp (disch := omega) only [up_s, up_o, upd_s, upd_o], by simp (disch := omega) only [up_s, up_o, upd_s, upd_o]; exact hV34, by omega⟩, fun z => by omega, fun z => by omega, fun z => by omega⟩, ⟨0, 0, by simp (disch := omega) only [up_s, up_o, upd_s, upd_o]; rfl, by simp (disch := omega) only [up_s, up_o, upd_s, upd_o]; rfl, by omega, fun z => absurd rfl z, fun z => by omega, fun z => by omega, fun z => by omega⟩, q2⟩, ?_⟩⟩
      intro j hj
      obtain ⟨f1, f2, f3, f4, f5, f6⟩ := hS0 (nI (pos + 1 + 8)) j hj
      exact ⟨by rw [← f1]; simp (disch := omega) only [up_s, up_o, upd_s, upd_o], by rw [← f2]; simp (disch := omega) only [up_s, up_o, upd_s, upd_o], by rw [← f3]; simp (disch := omega) only [up_s, up_o, upd_s, upd_o], f4, f5, f6⟩
    · simp only [if_neg q2, X_broken, Option.bind_some, bchk_0, M_fail h3.z]
      have e9 : (nI 7 : Int32) = 7 := rfl
      have h4 := h3.err (r := 7) (by omega) (by omega) (nI pos)
      have h4z : ¬ (up (up (up (up V 3 0 (nI (pos + 1 + 4))) 3 0 (nI (pos + 1 + 4 + 4))) 7 0 7) 8 0 (nI pos)) 7 0 = 0 := h4.n
      simp only [if_neg h4z]
      refine ⟨0, 2, _, _, rfl, rfl, Or.inr ⟨rfl, ?_, fun _ => rfl, fun z => absurd rfl z⟩⟩
      have e10 : (up (up (up (up U 4 0 (nI (pos + 1 + 8))) 25 i (nI (b pos))) 26 i (nI pos)) 8 0 (nI i)) 26 i = nI pos := by simp (disch := omega) only [up_s, up_o, upd_s, upd_o]
      exact ⟨h4.1, h4.2.1, h4z, rfl, by simp (disch := omega) only [up_s, up_o, upd_s, upd_o], ⟨h4.2.2.2.2.2.1.1, fun z => z.elim⟩, 7, by omega, rfl⟩
  · -- class, string
    have ef : f_X4_fixedSize (nI (b pos)) U = some 2 := by rw [q]; rfl
    have d0 : ¬ (2 : Int32) = 0 := by decide
    have d1 : ¬ nI (b pos) = 1 := by rw [q]; decide
    have d5 : ¬ nI (b pos) = 5 := by rw [q]; decide
    have d3 : ¬ nI (b pos) = 3 := by rw [q]; decide
    have d7 : nI (b pos) = 7 ∨ nI (b pos) = 8 := Or.inl (by rw [q]; rfl)
    rcases rd2 hE hT with ⟨a2, e3, e4, h2, w, e5⟩ | ⟨a2, e3, v1, e4, h2⟩
    · simp only [ef, e3, e4, Option.bind_some, if_neg d0, if_neg d1, if_neg d5, if_neg n10, if_neg d3, if_pos d7]
      refine ⟨1, 1, _, _, rfl, rfl, Or.inl ⟨rfl, u8, ⟨_, h2, by omega⟩, Or.inl ⟨rfl, ⟨b pos, pos, by simp (disch := omega) only [up_s, up_o, upd_s, upd_o], by simp (disch := omega) only [up_s, up_o, upd_s, upd_o]; exact hV33, by omega, fun _ => ⟨by simp (disch := omega) only [up_s, up_o, upd_s, upd_o], by simp (disch := omega) only [up_s, up_o, upd_s, upd_o]; exact hV34, by omega⟩, fun z => by omega, fun z => ⟨by omega, by simp (disch := omega) only [up_s, up_o, upd_s, upd_o]⟩, fun z => by omega⟩, by simp (disch := omega) only [up_s, up_o, upd_s, upd_o]; exact d5⟩, ?_⟩⟩
      intro j hj
      obtain ⟨f1, f2, f3, f4, f5, f6⟩ := hS0 (nI (pos + 1 + 2)) j hj
      exact ⟨f1, f2, f3, f4, by rw [← f5]; simp (disch := omega) only [up_s, up_o, upd_s, upd_o], f6⟩
    · simp only [ef, e3, e4, Option.bind_some, if_neg d0, if_neg d1, if_neg d5, if_true, if_neg d3, if_pos d7]
      exact ⟨0, 1, _, _, rfl, rfl, Or.inr ⟨rfl, h2, fun z => absurd z h17, fun _ => hU2 _ _⟩⟩
  · -- class, string
    have ef : f_X4_fixedSize (nI (b pos)) U = some 2 := by rw [q]; rfl
    have d0 : ¬ (2 : Int32) = 0 := by decide
    have d1 : ¬ nI (b pos) = 1 := by rw [q]; decide
    have d5 : ¬ nI (b pos) = 5 := by rw [q]; decide
    have d3 : ¬ nI (b pos) = 3 := by rw [q]; decide
    have d7 : nI (b pos) = 7 ∨ nI (b pos) = 8 := Or.inr (by rw [q]; rfl)
    rcases rd2 hE hT with ⟨a2, e3, e4, h2, w, e5⟩ | ⟨a2, e3, v1, e4, h2⟩
    · simp only [ef, e3, e4, Option.bind_some, if_neg d0, if_neg d1, if_neg d5, if_neg n10, if_neg d3, if_pos d7]
      refine ⟨1, 1, _, _, rfl, rfl, Or.inl ⟨rfl, u8, ⟨_, h2, by omega⟩, Or.inl ⟨rfl, ⟨b pos, pos, by simp (disch := omega) only [up_s, up_o, upd_s, upd_o], by simp (disch := omega) only [up_s, up_o, upd_s, upd_o]; exact hV33, by omega, fun _ => ⟨by simp (disch := omega) only [up_s, up_o, upd_s, upd_o], by simp (disch := omega) only [up_s, up_o, upd_s, upd_o]; exact hV34, by omega⟩, fun z => by omega, fun z => ⟨by omega, by simp (disch := omega) only [up_s, up_o, upd_s, upd_o]⟩, fun z => by omega⟩, by simp (disch := omega) only [up_s, up_o, upd_s, upd_o]; exact d5⟩, ?_⟩⟩
      intro j hj
      obtain ⟨f1, f2, f3, f4, f5, f6⟩ := hS0 (nI (pos + 1 + 2)) j hj
      exact ⟨f1, f2, f3, f4, by rw [← f5]; simp (disch := omega) only [up_s, up_o, upd_s, upd_o], f6⟩
    · simp only [ef, e3, e4, Option.bind_some, if_neg d0, if_neg d1, if_neg d5, if_true, if_neg d3, if_pos d7]
      exact ⟨0, 1, _, _, rfl, rfl, Or.inr ⟨rfl, h2, fun z => absurd z h17, fun _ => hU2 _ _⟩⟩
  · -- method, pair
    have ef : f_X4_fixedSize (nI (b pos)) U = some 4 := by rw [q]; rfl
    have d0 : ¬ (4 : Int32) = 0 := by decide
    have d1 : ¬ nI (b pos) = 1 := by rw [q]; decide
    have d5 : ¬ nI (b pos) = 5 := by rw [q]; decide
    have d3 : ¬ nI (b pos) = 3 := by rw [q]; decide
    have d7 : ¬ (nI (b pos) = 7 ∨ nI (b pos) = 8) := by rw [q]; decide
    have d9 : nI (b pos) = 10 ∨ nI (b pos) = 12 := Or.inl (by rw [q]; rfl)
    rcases X_stepC hT hn 4 (by omega) with ⟨a4, s4⟩ | ⟨a4, s4⟩
    rotate_left
    · have s4 : f_X5_step 4 U = _ := s4
      rcases rd2 hE hT with ⟨a2, -, e4, h2, -⟩ | ⟨a2, e3, v1, e4, h2⟩
      · have h2' : JS False u0 v0 n (pos + 1 + 2) n 1 n (up U 4 0 (nI (pos + 1 + 2))) (up (up V 3 0 (nI (pos + 1 + 2))) 35 i (nI (w2 b (pos + 1)))) := h2
        rcases rd2 hE h2' with ⟨a3, -⟩ | ⟨a3, e3, v1, e5, h3⟩
        · omega
        · simp only [ef, s4, e4, e5, Option.bind_some, if_neg d0, if_neg d1, if_true, if_neg d5, if_neg d3, if_neg d7, if_pos d9]
          exact ⟨0, 1, _, _, rfl, rfl, Or.inr ⟨rfl, h3, fun z => absurd z h17, fun _ => hU2 _ _⟩⟩
      · have h2n : ¬ (up v1 35 i 0) 7 0 = 0 := h2.n
        simp only [ef, s4, e4, Option.bind_some, if_neg d0, if_neg d1, if_true, if_neg d5, if_neg d3, if_neg d7, if_pos d9, M_u2N h2n]
        exact ⟨0, 1, _, _, rfl, rfl, Or.inr ⟨rfl, h2, fun z => absurd z h17, fun _ => hU2 _ _⟩⟩
    have s4 : f_X5_step 4 U = _ := s4
    rcases rd2 hE hT with ⟨a2, -, e4, h2, -⟩ | ⟨a2, -⟩
    rotate_left
    · omega
    have h2' : JS False u0 v0 n (pos + 1 + 2) n 1 n (up U 4 0 (nI (pos + 1 + 2))) (up (up V 3 0 (nI (pos + 1 + 2))) 35 i (nI (w2 b (pos + 1)))) := h2
    rcases rd2 hE h2' with ⟨a3, -, e5, h3, -⟩ | ⟨a3, -⟩
    rotate_left
    · omega
    simp only [ef, s4, e4, e5, Option.bind_some, if_neg d0, if_neg d1, if_neg n10, if_neg d5, if_neg d3, if_neg d7, if_pos d9]
    refine ⟨1, 1, _, _, rfl, rfl, Or.inl ⟨rfl, u8, ⟨_, h3, by omega⟩, Or.inl ⟨rfl, ⟨b pos, pos, by simp (disch := omega) only [up_s, up_o, upd_s, upd_o], by simp (disch := omega) only [up_s, up_o, upd_s, upd_o]; exact hV33, by omega, fun _ => ⟨by simp (disch := omega) only [up_s, up_o, upd_s, upd_o], by simp (disch := omega) only [up_s, up_o, upd_s, upd_o]; exact hV34, by omega⟩, fun z => by omega, fun z => by omega, fun z => ⟨by omega, by simp (disch := omega) only [up_s, up_o, upd_s, upd_o], by simp (disch := omega) only [up_s, up_o, upd_s, upd_o]⟩⟩, by simp (disch := omega) only [up_s, up_o, upd_s, upd_o]; exact d5⟩, ?_⟩⟩
    intro j hj
    obtain ⟨f1, f2, f3, f4, f5, f6⟩ := hS0 (nI (pos + 1 + 4)) j hj
    exact ⟨f1, f2, f3, f4, by rw [← f5]; simp (disch := omega) only [up_s, up_o, upd_s, upd_o], by rw [← f6]; simp (disch := omega) only [up_s, up_o, upd_s, upd_o]⟩
  · -- method, pair
    have ef : f_X4_fixedSize (nI (b pos)) U = some 4 := by rw [q]; rfl
    have d0 : ¬ (4 : Int32) = 0 := by decide
    have d1 : ¬ nI (b pos) = 1 := by rw [q]; decide
    have d5 : ¬ nI (b pos) = 5 := by rw [q]; decide
    have d3 : ¬ nI (b pos) = 3 := by rw [q]; decide
    have d7 : ¬ (nI (b pos) = 7 ∨ nI (b pos) = 8) := by rw [q]; decide
    have d9 : nI (b pos) = 10 ∨ nI (b pos) = 12 := Or.inr (by rw [q]; rfl)
    rcases X_stepC hT hn 4 (by omega) with ⟨a4, s4⟩ | ⟨a4, s4⟩
    rotate_left
    · have s4 : f_X5_step 4 U = _ := s4
      rcases rd2 hE hT with ⟨a2, -, e4, h2, -⟩ | ⟨a2, e3, v1, e4, h2⟩
      · have h2' : JS False u0 v0 n (pos + 1 + 2) n 1 n (up U 4 0 (nI (pos + 1 + 2))) (up (up V 3 0 (nI (pos + 1 + 2))) 35 i (nI (w2 b (pos + 1)))) := h2
        rcases rd2 hE h2' with ⟨a3, -⟩ | ⟨a3, e3, v1, e5, h3⟩
        · omega
        · simp only [ef, s4, e4, e5, Option.bind_some, if_neg d0, if_neg d1, if_true, if_neg d5, if_neg d3, if_neg d7, if_pos d9]
          exact ⟨0, 1, _, _, rfl, rfl, Or.inr ⟨rfl, h3, fun z => absurd z h17, fun _ => hU2 _ _⟩⟩
      · have h2n : ¬ (up v1 35 i 0) 7 0 = 0 := h2.n
        simp only [ef, s4, e4, Option.bind_some, if_neg d0, if_neg d1, if_true, if_neg d5, if_neg d3, if_neg d7, if_pos d9, M_u2N h2n]
        exact ⟨0, 1, _, _, rfl, rfl, Or.inr ⟨rfl, h2, fun z => absurd z h17, fun _ => hU2 _ _⟩⟩
    have s4 : f_X5_step 4 U = _ := s4
    rcases rd2 hE hT with ⟨a2, -, e4, h2, -⟩ | ⟨a2, -⟩
    rotate_left
    · omega
    have h2' : JS False u0 v0 n (pos + 1 + 2) n 1 n (up U 4 0 (nI (pos + 1 + 2))) (up (up V 3 0 (nI (pos + 1 + 2))) 35 i (nI (w2 b (pos + 1)))) := h2
    rcases rd2 hE h2' with ⟨a3, -, e5, h3, -⟩ | ⟨a3, -⟩
    rotate_left
    · omega
    simp only [ef, s4, e4, e5, Option.bind_some, if_neg d0, if_neg d1, if_neg n10, if_neg d5, if_neg d3, if_neg d7, if_pos d9]
    refine ⟨1, 1, _, _, rfl, rfl, Or.inl ⟨rfl, u8, ⟨_, h3, by omega⟩, Or.inl ⟨rfl, ⟨b pos, pos, by simp (disch := omega) only [up_s, up_o, upd_s, upd_o], by simp (disch := omega) only [up_s, up_o, upd_s, upd_o]; exact hV33, by omega, fun _ => ⟨by simp (disch := omega) only [up_s, up_o, upd_s, upd_o], by simp (disch := omega) only [up_s, up_o, upd_s, upd_o]; exact hV34, by omega⟩, fun z => by omega, fun z => by omega, fun z => ⟨by omega, by simp (disch := omega) only [up_s, up_o, upd_s, upd_o], by simp (disch := omega) only [up_s, up_o, upd_s, upd_o]⟩⟩, by simp (disch := omega) only [up_s, up_o, upd_s, upd_o]; exact d5⟩, ?_⟩⟩
    intro j hj
    obtain ⟨f1, f2, f3, f4, f5, f6⟩ := hS0 (nI (pos + 1 + 4)) j hj
    exact ⟨f1, f2, f3, f4, by rw [← f5]; simp (disch := omega) only [up_s, up_o, upd_s, upd_o], by rw [← f6]; simp (disch := omega) only [up_s, up_o, upd_s, upd_o]⟩
  · -- no tag
    have dd : ∀ k, k < 2 ^ 31 → b pos ≠ k → ¬ nI (b pos) = nI k := fun k hk hq z => hq ((nI_eq (by omega) hk).mp z)
    have d1 : ¬ nI (b pos) = 1 := dd 1 (by omega) q.1
    have d3 : ¬ nI (b pos) = 3 := dd 3 (by omega) q.2.1
    have d5 : ¬ nI (b pos) = 5 := dd 5 (by omega) q.2.2.1
    have d7 : ¬ nI (b pos) = 7 := dd 7 (by omega) q.2.2.2.1
    have d8 : ¬ nI (b pos) = 8 := dd 8 (by omega) q.2.2.2.2.1
    have d10 : ¬ nI (b pos) = 10 := dd 10 (by omega) q.2.2.2.2.2.1
    have d12 : ¬ nI (b pos) = 12 := dd 12 (by omega) q.2.2.2.2.2.2
    have ef : f_X4_fixedSize (nI (b pos)) U = some 0 := by
      unfold f_X4_fixedSize
      rw [if_neg (by simp only [d1, d7, d8, or_self, not_false_eq_true]), if_neg (by simp only [d3, d10, d12, or_self, not_false_eq_true]), if_neg d5]
    simp only [ef, Option.bind_some, if_true, if_neg d1, if_neg d3, if_neg d5, d7, d8, d10, d12, or_self, if_false, M_fail hT.z]
    exact ⟨0, 1, _, _, rfl, rfl, Or.inr ⟨rfl, hT.err (r := 5) (by omega) (by omega) (nI pos), fun z => absurd z (show ¬ (5 : Int32) = 7 by decide), fun _ => hU2 _ _⟩⟩
