/-- the pool as it was read -/
def PO (b : Nat → Nat) (n N : Nat) (u v : St) : Prop := u 8 0 = nI N ∧ v 9 0 = nI (N + 1) ∧ N ≤ 133 ∧ ∀ k, 1 ≤ k → k ≤ N → EN b n u v k
theorem pool_loop {u0 v0 : St} {b : Nat → Nat} {n c : Nat} (hE : EV u0 v0 b n) (hc : c < 65536) : ∀ m i pos u v N1 N2, n < pos + m → m ≤ N1 → m + 1 ≤ N2 → 1 ≤ i → 3 * i + 7 ≤ pos → JS False u0 v0 n pos n 1 n u v → u 8 0 = nI (i - 1) → (∀ k, 1 ≤ k → k < i → EN b n u v k) →
    ∃ x i2 v1, loopF (f_X4_readEntries_b46 (nI c)) N1 (nI i, u) = some x ∧ loopF (f_X7_readPool_b26 (nI c)) N2 (nI i, v) = some (.inr (nI i2, v1)) ∧ 1 ≤ i2 ∧
      ((∃ u1 pos2, x = .inr u1 ∧ JS False u0 v0 n pos2 n 1 n u1 v1 ∧ u1 8 0 = nI (i2 - 1) ∧ 3 * i2 + 7 ≤ pos2 ∧ ∀ k, 1 ≤ k → k < i2 → EN b n u1 v1 k) ∨
       (∃ u1, x = .inl (0, u1) ∧ EE False u0 v0 u1 v1 ∧ (u1 2 0 = 7 → u1 8 0 = nI i2) ∧ (¬ u1 2 0 = 7 → u1 8 0 = nI (i2 - 1)))) := by
  have hn := hE.1.1
  have n10 : ¬ (1 : Int32) = 0 := by decide
  intro m
  induction m with
  | zero =>
    intro i pos u v N1 N2 h1 h2 h3 h4 h5 h6 h7 h8
    have := h6.2.2.1.2.2.2.2.2.2.2.2.2.2.1
    omega
  | succ m ih =>
    intro i pos u v N1 N2 h1 h2 h3 h4 h5 h6 h7 h8
    have hpn := h6.2.2.1.2.2.2.2.2.2.2.2.2.2.1
    obtain ⟨N1, rfl⟩ : ∃ z, N1 = z + 1 := ⟨N1 - 1, by omega⟩
    obtain ⟨N2, rfl⟩ : ∃ z, N2 = z + 1 := ⟨N2 - 1, by omega⟩
    by_cases q : c ≤ i
    · have e1 : f_X4_readEntries_b46 (nI c) (nI i, u) = some (.inl (.inr u)) := by
        unfold f_X4_readEntries_b46
        rw [if_pos (show nI c ≤ nI i from nI_le q (by omega))]
      have e2 : f_X7_readPool_b26 (nI c) (nI i, v) = some (.inl (.inr (nI i, v))) := by
        unfold f_X7_readPool_b26
        rw [if_pos (show nI c ≤ nI i from nI_le q (by omega))]
      exact ⟨.inr u, i, v, by rw [loopF_s e1]; rfl, by rw [loopF_s e2]; rfl, h4, Or.inl ⟨u, pos, rfl, h6, h7, h5, h8⟩⟩
    · have q' : ¬ nI c ≤ nI i := nI_ge (by omega) (by omega)
      have q7 : v 7 0 = 0 := h6.z
      obtain ⟨r, k, u1, v1, e1, e2, h⟩ := st_entry hE h6 h4 (by omega) hc h5
      rcases h with ⟨hr, hu8, ⟨pos2, hJ, hp2⟩, hk, hS⟩ | ⟨hr, hEE, h71, h72⟩
      · subst hr
        have hi135 : i < 135 := by have := hJ.2.2.1.2.2.2.2.2.2.2.2.2.2.1; rcases hk with ⟨hk, -⟩ | ⟨hk, -⟩ <;> omega
        have s1 : f_X4_readEntries_b46 (nI c) (nI i, u) = some (.inr (nI (i + k), up u1 8 0 (nI (i + k - 1)))) := by
          unfold f_X4_readEntries_b46 f_X4_readEntries_j78_46
          simp only [if_neg q', e1, Option.bind_some, if_neg n10, cl_nI (show i < 2 ^ 31 by omega), chkN hi135 (show 135 < 2 ^ 31 by omega)]
          rcases hk with ⟨hk, -, h5⟩ | ⟨hk, h5, -⟩
          · simp only [if_neg h5, hk, L1, nI_add, pk_sub (show 1 ≤ i + 1 by omega)]
          · simp only [if_pos h5, hk, L1, L2, nI_add, pk_sub (show 1 ≤ i + 2 by omega)]
        have s2 : f_X7_readPool_b26 (nI c) (nI i, v) = some (.inr (nI (i + k), v1)) := by
          unfold f_X7_readPool_b26 f_X7_readPool_j56_26
          simp only [if_neg q', q7, if_true, e2, Option.bind_some, hJ.r0, nI_add]
        rw [loopF_s s1, loopF_s s2]
        have hk1 : 1 ≤ k := by rcases hk with ⟨hk, -⟩ | ⟨hk, -⟩ <;> omega
        refine ih (i + k) pos2 (up u1 8 0 (nI (i + k - 1))) v1 N1 N2 (by omega) (by omega) (by omega) (by omega) (by omega) ⟨hJ.1, hJ.2.1, hJ.2.2.1, hJ.2.2.2.1, fun z => z.elim⟩ rfl ?_
        intro j j1 j2
        by_cases ji : j < i
        · exact (h8 j j1 ji).sb hS ji
        · rcases hk with ⟨hk, hN, -⟩ | ⟨hk, -, hN, hN2, -⟩
          · have : j = i := by omega
            rw [this]; exact hN
          · by_cases jj : j = i
            · rw [jj]; exact hN
            · have : j = i + 1 := by omega
              rw [this]; exact hN2
      · subst hr
        obtain ⟨N2, rfl⟩ : ∃ z, N2 = z + 1 := ⟨N2 - 1, by omega⟩
        have s1 : f_X4_readEntries_b46 (nI c) (nI i, u) = some (.inl (.inl (0, u1))) := by
          unfold f_X4_readEntries_b46
          simp only [if_neg q', e1, Option.bind_some, if_true]
        have s2 : f_X7_readPool_b26 (nI c) (nI i, v) = some (.inr (nI i, v1)) := by
          unfold f_X7_readPool_b26 f_X7_readPool_j56_26
          simp only [if_neg q', q7, if_true, e2, Option.bind_some, hEE.nz, if_false]
        have s3 : f_X7_readPool_b26 (nI c) (nI i, v1) = some (.inl (.inr (nI i, v1))) := by
          unfold f_X7_readPool_b26
          simp only [if_neg q', hEE.nz, if_false]
        refine ⟨.inl (0, u1), i, v1, by rw [loopF_s s1]; rfl, by rw [loopF_s s2]; show loopF _ (N2 + 1) _ = _; rw [loopF_s s3]; rfl, h4, Or.inr ⟨u1, rfl, hEE, h71, fun z => by rw [h72 z, h7]⟩⟩
theorem st_pool {u0 v0 u v : St} {b : Nat → Nat} {n : Nat} (hE : EV u0 v0 b n) (h : JS True u0 v0 n 8 n 1 n u v) (h8 : u 8 0 = 0) : ∃ r u1 v1, f_X4_readEntries u = some (r, u1) ∧ f_X7_readPool v = some v1 ∧ ((r = 1 ∧ ∃ N pos, JS True u0 v0 n pos n 1 n u1 v1 ∧ PO b n N u1 v1 ∧ 10 ≤ pos) ∨ (r = 0 ∧ EE True u0 v0 u1 v1)) := by
  have hn := hE.1.1
  have n10 : ¬ (1 : Int32) = 0 := by decide
  have r1 := h.2.2.1.1
  unfold f_X4_readEntries f_X7_readPool f_X7_readPool_j24
  rcases rd2 hE h with ⟨a1, e1, e2, h1, w, e3⟩ | ⟨a1, e1, v1, e2, h1⟩
  rotate_left
  · have e4 : f_X7_readPool_b26 0 (1, v1) = some (.inl (.inr (1, v1))) := by
      unfold f_X7_readPool_b26
      by_cases z : (0 : Int32) ≤ 1
      · rw [if_pos z]
      · simp only [if_neg z, h1.nz, if_false]
    simp only [e1, e2, Option.bind_some, if_true, h1.nz, if_false]
    rw [show FU = 999999 + 1 from rfl, loopF_s e4]
    show ∃ r u1 v2, _ ∧ f_X7_readPool_j59 0 1 v1 = some v2 ∧ _
    unfold f_X7_readPool_j59 f_X7_readPool_j85
    rw [if_pos (by decide)]
    exact ⟨0, _, _, rfl, rfl, Or.inr ⟨rfl, h1⟩⟩
  simp only [e1, e2, Option.bind_some, if_neg n10, h1.r0, if_true, r1, e3]
  by_cases q : w2 b 8 = 0
  · have h2 := h1.err (r := 4) (by omega) (by omega) (nI 8)
    have h2n : ¬ (up (up (up v 3 0 (nI (8 + 2))) 7 0 4) 8 0 8) 7 0 = 0 := h2.n
    have e4 : ∀ v1 : St, ¬ v1 7 0 = 0 → f_X7_readPool_b26 (nI 0) (1, v1) = some (.inl (.inr (1, v1))) := by
      intro v1 hv
      unfold f_X7_readPool_b26
      by_cases z : (nI 0 : Int32) ≤ 1
      · rw [if_pos z]
      · simp only [if_neg z, hv, if_false]
    simp only [q, show nI 0 = 0 from rfl, if_true, M_fail h1.z, X_broken, Option.bind_some, bchk_0]
    rw [show FU = 999999 + 1 from rfl, show (0 : Int32) = nI 0 from rfl, loopF_s (e4 _ h2n)]
    show ∃ r u1 v2, _ ∧ f_X7_readPool_j59 0 1 _ = some v2 ∧ _
    unfold f_X7_readPool_j59 f_X7_readPool_j85
    rw [if_pos (by decide)]
    exact ⟨0, _, _, rfl, rfl, Or.inr ⟨rfl, h2⟩⟩
  have q' : ¬ nI (w2 b 8) = 0 := nI_nz q (by omega)
  simp only [if_neg q']
  obtain ⟨x, i2, v1, e4, e5, hi2, hx⟩ := pool_loop (c := w2 b 8) hE w 500 1 (8 + 2) (up u 4 0 (nI (8 + 2))) (up v 3 0 (nI (8 + 2))) FU FU (by omega) (by rw [FU_def]; omega) (by rw [FU_def]; omega) (by omega) (by omega) ⟨h1.1, h1.2.1, h1.2.2.1, h1.2.2.2.1, fun z => z.elim⟩ h8 (fun k k1 k2 => by omega)
  have e4 : loopF (f_X4_readEntries_b46 (nI (w2 b 8))) FU (1, up u 4 0 (nI (8 + 2))) = some x := e4
  have e5 : loopF (f_X7_readPool_b26 (nI (w2 b 8))) FU (1, up v 3 0 (nI (8 + 2))) = _ := e5
  have q0 : ¬ nI (w2 b 8) ≤ 0 := nI_nle (by omega) (by omega)
  rw [bd_some e4, bd_some e5]
  simp only [Sum.elim_inr]
  unfold f_X7_readPool_j59 f_X7_readPool_j84 f_X7_readPool_j85
  simp only [if_neg q0, L1, pk_sub hi2]
  have ck : ∀ {α : Type} {x : Option α}, chk 7 0 x = x := fun {α x} => chkN (k := 0) (by omega) (by omega)
  have cz : Int32.toNatClampNeg 0 = 0 := rfl
  simp only [ck, cz]
  rcases hx with ⟨u1, pos2, rfl, hJ, hu8, hp, hN⟩ | ⟨u1, rfl, hEE, h71, h72⟩
  · have z7 : ¬ v1 7 0 = 7 := by rw [hJ.z]; decide
    have hpn := hJ.2.2.1.2.2.2.2.2.2.2.2.2.2.1
    simp only [if_neg z7, Sum.elim_inr]
    refine ⟨1, _, _, rfl, rfl, Or.inl ⟨rfl, i2 - 1, pos2, ⟨hJ.1, hJ.2.1, hJ.2.2.1, fun i i1 i3 => ?_, fun _ => ?_⟩, ⟨hu8, ?_, by omega, fun k k1 k2 => hN k k1 (by omega)⟩, by omega⟩⟩
    · simp (disch := omega) only [up_s, up_o, upd_s, upd_o]
      exact hJ.2.2.2.1 i i1 i3
    · simp (disch := omega) only [up_s, up_o, upd_s, upd_o]
      exact hu8.symm
    · show nI i2 = _
      rw [show i2 - 1 + 1 = i2 by omega]
  · simp only [Sum.elim_inl]
    have t1 : ∀ x y : Int32, x = u1 8 0 → TA True u1 (up (up v1 32 0 x) 9 0 y) := by
      intro x y hx
      refine ⟨fun i i1 i3 => ?_, fun _ => ?_⟩
      · simp (disch := omega) only [up_s, up_o, upd_s, upd_o]
        exact hEE.2.2.2.2.2.1.1 i i1 i3
      · simp (disch := omega) only [up_s, up_o, upd_s, upd_o]
        exact hx
    by_cases z7 : v1 7 0 = 7
    · simp only [if_pos z7]
      exact ⟨0, _, _, rfl, rfl, Or.inr ⟨rfl, hEE.1, hEE.2.1, hEE.2.2.1, hEE.2.2.2.1, hEE.2.2.2.2.1, t1 _ _ (h71 (by rw [hEE.2.2.2.1]; exact z7)).symm, hEE.2.2.2.2.2.2⟩⟩
    · simp only [if_neg z7]
      exact ⟨0, _, _, rfl, rfl, Or.inr ⟨rfl, hEE.1, hEE.2.1, hEE.2.2.1, hEE.2.2.2.1, hEE.2.2.2.2.1, t1 _ _ (h72 (by rw [hEE.2.2.2.1]; exact z7)).symm, hEE.2.2.2.2.2.2⟩⟩
