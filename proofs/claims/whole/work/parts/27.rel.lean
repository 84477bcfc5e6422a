/-- what a judging leaves as it was -/
def FX (u0 u : St) : Prop := u 0 = u0 0 ∧ u 1 = u0 1 ∧ u 20 = u0 20 ∧ u 21 = u0 21 ∧ u 22 = u0 22
def FM (v0 v : St) : Prop := v 0 = v0 0 ∧ v 1 = v0 1 ∧ v 2 = v0 2 ∧ v 30 = v0 30 ∧ v 31 = v0 31 ∧ v 41 = v0 41 ∧ v 42 = v0 42 ∧ v 43 = v0 43 ∧ v 44 = v0 44 ∧ v 45 = v0 45
def EV (u0 v0 : St) (b : Nat → Nat) (n : Nat) : Prop := BX u0 b n ∧ BM v0 b n ∧ CM v0 ∧ u0 1 0 = nI n ∧ v0 0 0 = nI n
def TA (τ : Prop) (u v : St) : Prop := (∀ i, 1 ≤ i → i < 7 → u 23 i = v 32 i) ∧ (τ → v 32 0 = u 8 0)
def RD (n pos lim lr ls : Nat) (u v : St) : Prop := u 4 0 = nI pos ∧ u 5 0 = nI lim ∧ u 6 0 = nI lr ∧ u 7 0 = nI ls ∧ v 3 0 = nI pos ∧ v 4 0 = nI lim ∧ v 5 0 = nI lr ∧ v 6 0 = nI ls ∧ v 7 0 = 0 ∧ u 2 0 = 0 ∧ pos ≤ lim ∧ lim ≤ n ∧ lr ≠ 0 ∧ lr < 29
/-- both go on reading at pos -/
def JS (τ : Prop) (u0 v0 : St) (n pos lim lr ls : Nat) (u v : St) : Prop := FX u0 u ∧ FM v0 v ∧ RD n pos lim lr ls u v ∧ TA τ u v
/-- both have ended with the same broken rule -/
def EE (τ : Prop) (u0 v0 : St) (u v : St) : Prop := FX u0 u ∧ FM v0 v ∧ ¬ v 7 0 = 0 ∧ u 2 0 = v 7 0 ∧ u 3 0 = v 8 0 ∧ TA τ u v ∧ ∃ r, r < 29 ∧ v 7 0 = nI r
theorem EV.bx {u0 v0 : St} {b : Nat → Nat} {n : Nat} (h : EV u0 v0 b n) {u : St} (hF : FX u0 u) : BX u b n := ⟨h.1.1, fun i hi => by rw [hF.2.2.2.2]; exact h.1.2 i hi⟩
theorem EV.bm {u0 v0 : St} {b : Nat → Nat} {n : Nat} (h : EV u0 v0 b n) {v : St} (hF : FM v0 v) : BM v b n := ⟨h.2.1.1, fun i hi => by rw [hF.2.2.2.1]; exact h.2.1.2 i hi⟩
theorem EV.cm {u0 v0 : St} {b : Nat → Nat} {n : Nat} (h : EV u0 v0 b n) {v : St} (hF : FM v0 v) : CM v := by
  obtain ⟨h1, h2, h3, h4⟩ := h.2.2.1
  obtain ⟨-, -, -, -, -, g1, g2, g3, g4, -⟩ := hF
  exact ⟨fun k hk => by rw [g1]; exact h1 k hk, fun k hk => by rw [g2]; exact h2 k hk, fun k hk => by rw [g3]; exact h3 k hk, fun k hk => by rw [g4]; exact h4 k hk⟩
theorem EV.by {u0 v0 : St} {b : Nat → Nat} {n : Nat} (h : EV u0 v0 b n) : ∀ j, j < n → b j < 256 := fun j hj => (h.1.2 j hj).2
theorem JS.adv {τ : Prop} {u0 v0 u v : St} {n pos lim lr ls : Nat} (p2 : Nat) (h : JS τ u0 v0 n pos lim lr ls u v) (hp : p2 ≤ lim) : JS τ u0 v0 n p2 lim lr ls (up u 4 0 (nI p2)) (up v 3 0 (nI p2)) := by
  obtain ⟨h1, h2, ⟨-, r2, r3, r4, -, r6, r7, r8, r9, r10, -, r12⟩, h4⟩ := h
  exact ⟨h1, h2, ⟨rfl, r2, r3, r4, rfl, r6, r7, r8, r9, r10, hp, r12⟩, h4⟩
theorem nI_nz {r : Nat} (h : r ≠ 0) (h2 : r < 2 ^ 31) : ¬ nI r = 0 := nI_ne0 (by omega) h2
theorem JS.err {τ : Prop} {u0 v0 u v : St} {n pos lim lr ls : Nat} (h : JS τ u0 v0 n pos lim lr ls u v) {r : Nat} (hr : r ≠ 0) (hr2 : r < 29) (q : Int32) : EE τ u0 v0 (up (up u 2 0 (nI r)) 3 0 q) (up (up v 7 0 (nI r)) 8 0 q) := by
  obtain ⟨h1, h2, -, h4⟩ := h
  exact ⟨h1, h2, nI_nz hr (by omega), rfl, rfl, h4, r, hr2, rfl⟩
theorem X_step {u : St} {pos lim c : Nat} (h4 : u 4 0 = nI pos) (h5 : u 5 0 = nI lim) (hp : pos ≤ lim) (hl : lim < 65600) (hc : c < 2 ^ 31) : f_X5_step (nI c) u = if pos + c ≤ lim then some (1, up u 4 0 (nI (pos + c))) else some (0, up (up u 2 0 (u 6 0)) 3 0 (u 7 0)) := by
  unfold f_X5_step f_X5_step_j17
  rw [if_neg (nI_pos hc), h4, h5, pk_sub hp, nI_add]
  simp (disch := omega) only [leN]
  by_cases q : pos + c ≤ lim
  · rw [if_pos q, if_pos (by omega)]
  · rw [if_neg q, if_neg (by omega)]
/-- both read a number of c bytes: 1, 2 or 4 -/
theorem rdC {τ : Prop} {u0 v0 u v : St} {b : Nat → Nat} {n pos lim lr ls : Nat} (hE : EV u0 v0 b n) (h : JS τ u0 v0 n pos lim lr ls u v) (c : Nat) (hc : 1 ≤ c) (hc4 : c ≤ 4) :
    (pos + c ≤ lim ∧ f_X5_step (nI c) u = some (1, up u 4 0 (nI (pos + c))) ∧ f_X7_u (nI c) v = some (lN (wN b c pos), up v 3 0 (nI (pos + c))) ∧ JS τ u0 v0 n (pos + c) lim lr ls (up u 4 0 (nI (pos + c))) (up v 3 0 (nI (pos + c)))) ∨
    (lim < pos + c ∧ f_X5_step (nI c) u = some (0, up (up u 2 0 (nI lr)) 3 0 (nI ls)) ∧ ∃ v1, f_X7_u (nI c) v = some (0, v1) ∧ EE τ u0 v0 (up (up u 2 0 (nI lr)) 3 0 (nI ls)) v1) := by
  have hB := hE.bm h.2.1
  have hn := hB.1
  obtain ⟨h1, h2, ⟨r1, r2, r3, r4, r5, r6, r7, r8, r9, r10, r11, r12, r13, r14⟩, h4⟩ := id h
  have hs := X_step (c := c) r1 r2 r11 (by omega) (by omega)
  rcases M_u (c := c) hB r5 r6 r7 r8 r9 r11 r12 r13 r14 hc4 with ⟨a, e⟩ | ⟨a, x, e⟩
  · left
    rw [if_pos a] at hs
    rw [if_neg (by omega)] at e
    exact ⟨a, hs, e, h.adv (pos + c) a⟩
  · right
    rw [if_neg (by omega), r3, r4] at hs
    refine ⟨a, hs, _, e, ?_⟩
    by_cases q : lim = pos
    · rw [if_pos q]
      exact h.err r13 r14 _
    · rw [if_neg q]
      exact ⟨h1, h2, nI_nz r13 (by omega), rfl, rfl, h4, lr, r14, rfl⟩
theorem wN1 (b : Nat → Nat) (i : Nat) : wN b 1 i = b i := by
  show 256 * 0 + b (i + 0) = b i
  rw [Nat.add_zero, Nat.mul_zero, Nat.zero_add]
theorem wN2 (b : Nat → Nat) (i : Nat) : wN b 2 i = w2 b i := by
  show 256 * wN b 1 i + b (i + 1) = _
  rw [wN1]; rfl
theorem wN4 (b : Nat → Nat) (i : Nat) : wN b 4 i = w4 b i := by
  show 256 * (256 * wN b 2 i + b (i + 2)) + b (i + 3) = _
  rw [wN2]
  unfold w2 w4
  omega
theorem rd2 {τ : Prop} {u0 v0 u v : St} {b : Nat → Nat} {n pos lim lr ls : Nat} (hE : EV u0 v0 b n) (h : JS τ u0 v0 n pos lim lr ls u v) :
    (pos + 2 ≤ lim ∧ f_X5_step 2 u = some (1, up u 4 0 (nI (pos + 2))) ∧ f_X7_u2 v = some (nI (w2 b pos), up v 3 0 (nI (pos + 2))) ∧ JS τ u0 v0 n (pos + 2) lim lr ls (up u 4 0 (nI (pos + 2))) (up v 3 0 (nI (pos + 2))) ∧ w2 b pos < 65536 ∧ f_X1_u2 (nI pos) (up u 4 0 (nI (pos + 2))) = some (nI (w2 b pos))) ∨
    (lim < pos + 2 ∧ f_X5_step 2 u = some (0, up (up u 2 0 (nI lr)) 3 0 (nI ls)) ∧ ∃ v1, f_X7_u2 v = some (0, v1) ∧ EE τ u0 v0 (up (up u 2 0 (nI lr)) 3 0 (nI ls)) v1) := by
  have r12 := h.2.2.1.2.2.2.2.2.2.2.2.2.2.2.1
  rcases rdC hE h 2 (by omega) (by omega) with ⟨a, e1, e2, e3⟩ | ⟨a, e1, v1, e2, e3⟩
  · left
    refine ⟨a, e1, ?_, e3, w2_lt hE.by (by omega), X_u2 (hE.bx e3.1) (by omega)⟩
    unfold f_X7_u2
    rw [show (2 : Int32) = nI 2 from rfl, bd_some e2, wN2]
    show some ((lN (w2 b pos)).toInt32, _) = _
    rw [lN_i]
  · right
    refine ⟨a, e1, v1, ?_, e3⟩
    unfold f_X7_u2
    rw [show (2 : Int32) = nI 2 from rfl, bd_some e2]
    rfl
theorem X_broken {u : St} {r q : Int32} : f_X5_broken r q u = some (0, up (up u 2 0 r) 3 0 q) := rfl
theorem Lx (k : Nat) : nI k = nI k := rfl
theorem lg0 {a c : Nat} (ha : a < 2 ^ 63) (hc : c < 2 ^ 63) : lg_cmp (lN a) (lN c) = 0 ↔ a = c := by
  unfold lg_cmp
  by_cases q1 : lN c < lN a
  · rw [if_pos q1]
    have := (pk_lLT hc ha).mp q1
    exact ⟨fun z => absurd z (by decide), fun z => by omega⟩
  · rw [if_neg q1]
    have w1 : ¬ c < a := fun z => q1 ((pk_lLT hc ha).mpr z)
    by_cases q2 : lN a = lN c
    · rw [if_pos q2]
      exact ⟨fun _ => (pk_lEQ ha hc).mp q2, fun _ => rfl⟩
    · rw [if_neg q2]
      exact ⟨fun z => absurd z (by decide), fun z => absurd (by rw [z]) q2⟩
theorem magic {x : Nat} (h : x < 2 ^ 32) : nI x = -889275714 ↔ x = 3405691582 := by
  constructor
  · intro z
    have h1 : (nI x).toBitVec.toNat = x := pk_tn h
    rw [z] at h1
    rw [← h1]
    decide
  · intro z
    rw [z]
    decide
theorem JS.r0 {τ : Prop} {u0 v0 u v : St} {n pos lim lr ls : Nat} (h : JS τ u0 v0 n pos lim lr ls u v) : (v 7 0 = 0) = True := eq_true h.2.2.1.2.2.2.2.2.2.2.2.1
theorem JS.z {τ : Prop} {u0 v0 u v : St} {n pos lim lr ls : Nat} (h : JS τ u0 v0 n pos lim lr ls u v) : v 7 0 = 0 := h.2.2.1.2.2.2.2.2.2.2.2.1
theorem EE.nz {τ : Prop} {u0 v0 u v : St} (h : EE τ u0 v0 u v) : (v 7 0 = 0) = False := eq_false h.2.2.1
theorem EE.n {τ : Prop} {u0 v0 u v : St} (h : EE τ u0 v0 u v) : ¬ v 7 0 = 0 := h.2.2.1
theorem rd4 {τ : Prop} {u0 v0 u v : St} {b : Nat → Nat} {n pos lim lr ls : Nat} (hE : EV u0 v0 b n) (h : JS τ u0 v0 n pos lim lr ls u v) :
    (pos + 4 ≤ lim ∧ f_X5_step 4 u = some (1, up u 4 0 (nI (pos + 4))) ∧ f_X7_u 4 v = some (lN (w4 b pos), up v 3 0 (nI (pos + 4))) ∧ JS τ u0 v0 n (pos + 4) lim lr ls (up u 4 0 (nI (pos + 4))) (up v 3 0 (nI (pos + 4))) ∧ w4 b pos < 2 ^ 32 ∧ f_X1_u4 (nI pos) (up u 4 0 (nI (pos + 4))) = some (nI (w4 b pos))) ∨
    (lim < pos + 4 ∧ f_X5_step 4 u = some (0, up (up u 2 0 (nI lr)) 3 0 (nI ls)) ∧ ∃ v1, f_X7_u 4 v = some (0, v1) ∧ EE τ u0 v0 (up (up u 2 0 (nI lr)) 3 0 (nI ls)) v1) := by
  have r12 := h.2.2.1.2.2.2.2.2.2.2.2.2.2.2.1
  rcases rdC hE h 4 (by omega) (by omega) with ⟨a, e1, e2, e3⟩ | ⟨a, e1, v1, e2, e3⟩
  · rw [wN4] at e2
    exact Or.inl ⟨a, e1, e2, e3, w4_lt hE.by (by omega), X_u4 (hE.bx e3.1) (by omega)⟩
  · exact Or.inr ⟨a, e1, v1, e2, e3⟩
theorem X_stepC {τ : Prop} {u0 v0 u v : St} {n pos lim lr ls : Nat} (h : JS τ u0 v0 n pos lim lr ls u v) (hn : n ≤ 400) (c : Nat) (hc : c < 2 ^ 31) : (pos + c ≤ lim ∧ f_X5_step (nI c) u = some (1, up u 4 0 (nI (pos + c)))) ∨ (lim < pos + c ∧ f_X5_step (nI c) u = some (0, up (up u 2 0 (nI lr)) 3 0 (nI ls))) := by
  obtain ⟨r1, r2, r3, r4, -, -, -, -, -, -, r11, r12, -⟩ := h.2.2.1
  have hs := X_step (c := c) r1 r2 r11 (by omega) hc
  by_cases q : pos + c ≤ lim
  · rw [if_pos q] at hs; exact Or.inl ⟨q, hs⟩
  · rw [if_neg q, r3, r4] at hs; exact Or.inr ⟨by omega, hs⟩
/-- the header -/
theorem st_head {τ : Prop} {u0 v0 u v : St} {b : Nat → Nat} {n : Nat} (hE : EV u0 v0 b n) (h : JS τ u0 v0 n 0 n 1 n u v) : ∃ r u1 v1, f_X2_readHead u = some (r, u1) ∧ f_X7_header v = some v1 ∧ ((r = 1 ∧ JS τ u0 v0 n 8 n 1 n u1 v1 ∧ u1 8 0 = u 8 0) ∨ (r = 0 ∧ EE τ u0 v0 u1 v1)) := by
  have hn := hE.1.1
  unfold f_X2_readHead f_X2_readHead_j71 f_X2_readHead_j84 f_X2_readHead_j89 f_X7_header f_X7_header_j19 f_X7_header_j48 f_X7_header_j56
  simp only [X_broken, Option.bind_some, bchk_0, bchk_1]
  rcases rd4 hE h with ⟨a1, e1, e2, h1, w, e3⟩ | ⟨a1, e1, v1, e2, h1⟩
  rotate_left
  · have z0 : ¬ lg_cmp 0 3405691582 = 0 := by decide
    refine ⟨0, _, v1, by simp only [e1, Option.bind_some, if_true], ?_, Or.inr ⟨rfl, h1⟩⟩
    simp only [e2, Option.bind_some, if_neg z0, M_failN h1.n, M_u2N h1.n, h1.nz, if_false]
  have e3 : f_X1_u4 0 (up u 4 0 (nI (0 + 4))) = some (nI (w4 b 0)) := e3
  have n10 : ¬ (1 : Int32) = 0 := by decide
  by_cases q1 : w4 b 0 = 3405691582
  rotate_left
  · have q1' : ¬ nI (w4 b 0) = -889275714 := fun z => q1 ((magic w).mp z)
    have q1'' : ¬ lg_cmp (lN (w4 b 0)) 3405691582 = 0 := fun z => q1 ((lg0 (c := 3405691582) (by omega) (by omega)).mp z)
    have h2 := h1.err (r := 2) (by omega) (by omega) 0
    refine ⟨0, _, _, by simp only [e1, Option.bind_some, if_neg n10, e3, if_neg q1']; rfl, ?_, Or.inr ⟨rfl, h2⟩⟩
    simp only [e2, Option.bind_some, if_neg q1'', M_fail h1.z]
    show (f_X7_u2 (up (up (up v 3 0 (nI (0 + 4))) 7 0 (nI 2)) 8 0 0)).bind _ = _
    simp only [M_u2N h2.n, Option.bind_some, h2.nz, if_false]
  have q1' : nI (w4 b 0) = -889275714 := (magic w).mpr q1
  have q1'' : lg_cmp (lN (w4 b 0)) 3405691582 = 0 := (lg0 (c := 3405691582) (by omega) (by omega)).mpr q1
  simp only [e1, e2, Option.bind_some, if_neg n10, e3, if_pos q1', if_pos q1'']
  rcases X_stepC h1 hn 4 (by omega) with ⟨a4, s4⟩ | ⟨a4, s4⟩
  rotate_left
  · have s4 : f_X5_step 4 (up u 4 0 (nI (0 + 4))) = some (0, up (up (up u 4 0 (nI (0 + 4))) 2 0 (nI 1)) 3 0 (nI n)) := s4
    rcases rd2 hE h1 with ⟨a2, -, e4, h2, -⟩ | ⟨a2, -, v2, e4, h2⟩
    · rcases rd2 hE h2 with ⟨a3, -⟩ | ⟨a3, -, v3, e5, h3⟩
      · omega
      · refine ⟨0, up (up (up u 4 0 (nI (0 + 4))) 2 0 (nI 1)) 3 0 (nI n), v3, by simp only [s4, Option.bind_some, if_true], ?_, Or.inr ⟨rfl, h3.1, h3.2.1, h3.2.2.1, h3.2.2.2.1, h3.2.2.2.2.1, h3.2.2.2.2.2⟩⟩
        simp only [e4, e5, Option.bind_some, h3.nz, if_false]
    · refine ⟨0, _, v2, by simp only [s4, Option.bind_some, if_true], ?_, Or.inr ⟨rfl, h2⟩⟩
      simp only [e4, Option.bind_some, M_u2N h2.n, h2.nz, if_false]
  have s4 : f_X5_step 4 (up u 4 0 (nI (0 + 4))) = some (1, up (up u 4 0 (nI (0 + 4))) 4 0 (nI (0 + 4 + 4))) := s4
  rcases rd2 hE h1 with ⟨a2, -, e4, h2, -⟩ | ⟨a2, -⟩
  rotate_left
  · omega
  rcases rd2 hE h2 with ⟨a3, -, e5, h3, w3, e6⟩ | ⟨a3, -⟩
  rotate_left
  · omega
  have e7 : f_X1_u2 6 (up (up u 4 0 (nI (0 + 4))) 4 0 (nI (0 + 4 + 4))) = some (nI (w2 b 6)) := X_u2 (i := 6) (hE.bx (show FX u0 (up (up u 4 0 (nI (0 + 4))) 4 0 (nI (0 + 4 + 4))) from h3.1)) (by omega)
  have w3 : w2 b 6 < 65536 := w3
  have e5 : f_X7_u2 (up (up v 3 0 (nI (0 + 4))) 3 0 (nI (0 + 4 + 2))) = some (nI (w2 b 6), up (up (up v 3 0 (nI (0 + 4))) 3 0 (nI (0 + 4 + 2))) 3 0 (nI (0 + 4 + 2 + 2))) := e5
  have J8 : JS τ u0 v0 n 8 n 1 n (up (up u 4 0 (nI (0 + 4))) 4 0 (nI (0 + 4 + 4))) (up (up (up v 3 0 (nI (0 + 4))) 3 0 (nI (0 + 4 + 2))) 3 0 (nI (0 + 4 + 2 + 2))) := h3
  simp only [s4, e4, e5, e7, Option.bind_some, J8.r0, if_true, if_neg n10, M_fail J8.z]
  simp (disch := omega) only [L45, L69, ltN, leN]
  by_cases q2 : w2 b 6 < 45
  · simp only [if_pos q2]
    exact ⟨0, _, _, rfl, rfl, Or.inr ⟨rfl, J8.err (r := 3) (by omega) (by omega) 6⟩⟩
  simp only [if_neg q2]
  by_cases q3 : w2 b 6 ≤ 69
  · simp only [if_pos q3]
    exact ⟨1, _, _, rfl, rfl, Or.inl ⟨rfl, J8, rfl⟩⟩
  · simp only [if_neg q3]
    exact ⟨0, _, _, rfl, rfl, Or.inr ⟨rfl, J8.err (r := 3) (by omega) (by omega) 6⟩⟩
