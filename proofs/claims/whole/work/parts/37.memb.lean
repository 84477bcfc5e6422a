/-- the members so far -/
def MB (b kd : Nat → Nat) (n k : Nat) (u v : St) : Prop := ∀ i, i < k → ∃ hd, u 24 i = nI hd ∧ hd + 6 ≤ n ∧ v 38 i = nI (w2 b (hd + 2)) ∧ v 39 i = nI (w2 b (hd + 4)) ∧ kd (w2 b (hd + 2)) = 1 ∧ kd (w2 b (hd + 4)) = 1
theorem MB.fr {b kd : Nat → Nat} {n k : Nat} {u v u1 v1 : St} (h : MB b kd n k u v) (h1 : u1 24 = u 24) (h2 : v1 38 = v 38) (h3 : v1 39 = v 39) : MB b kd n k u1 v1 := by
  unfold MB
  rw [h1, h2, h3]
  exact h
theorem M_flags {V : St} (m : Bool) {w : Nat} (hw : w < 65536) (x1 x3 : Int32) : ((f_X7_several (nI w) V).bind fun q2 => if q2 = 0 then (if b2 m = 0 then (if nI w &&& 80 = 80 then f_X7_member_j53 x1 (b2 m) x3 V else f_X7_member_j57 x1 (b2 m) x3 V) else (if nI w &&& 1024 = 0 then f_X7_member_j57 x1 (b2 m) x3 V else (if nI w &&& 26 = 0 then f_X7_member_j57 x1 (b2 m) x3 V else f_X7_member_j53 x1 (b2 m) x3 V))) else f_X7_member_j53 x1 (b2 m) x3 V) = @ite _ (fOK m w) (Classical.propDecidable _) (f_X7_member_j57 x1 (b2 m) x3 V) (f_X7_member_j53 x1 (b2 m) x3 V) := by
  rw [bd_some (M_several hw)]
  by_cases q : acc w
  rotate_left
  · rw [if_neg (fun z => bI_0.mp z q), if_neg (fun z => q z.1)]
  rw [if_pos (bI_0.mpr (fun z => z q))]
  cases m with
  | false =>
    rw [if_pos (show b2 false = 0 from rfl)]
    by_cases z : nI w &&& 80 = 80
    · rw [if_pos z, if_neg]
      intro y
      have := (fl80 hw).mp z
      rcases y.2 with y | y
      · exact this.1 y
      · exact this.2 y
    · rw [if_neg z, if_pos]
      refine ⟨q, ?_⟩
      show nI w &&& 16 = 0 ∨ nI w &&& 64 = 0
      by_cases c1 : nI w &&& 16 = 0
      · exact Or.inl c1
      · by_cases c2 : nI w &&& 64 = 0
        · exact Or.inr c2
        · exact absurd ((fl80 hw).mpr ⟨c1, c2⟩) z
  | true =>
    rw [if_neg (show ¬ b2 true = 0 by decide)]
    by_cases c1 : nI w &&& 1024 = 0
    · rw [if_pos c1, if_pos ⟨q, Or.inl c1⟩]
    · rw [if_neg c1]
      by_cases c2 : nI w &&& 26 = 0
      · rw [if_pos c2, if_pos ⟨q, Or.inr c2⟩]
      · rw [if_neg c2, if_neg]
        intro y
        rcases y.2 with y | y
        · exact c1 y
        · exact c2 y
/-- the brackets of a field's type -/
theorem st_brk {u0 v0 u v : St} {b : Nat → Nat} {n N pos lim lr ls x : Nat} {kd pl : Nat → Nat} (m : Bool) (hE : EV u0 v0 b n) (h : JS True u0 v0 n pos lim lr ls u v) (hP : PQ b n N kd pl u v) (hx : kd x = 1) (x1 x3 y1 y3 y6 y7 : Int32) : ∃ u1 v1, f_X2_readMemberHead_j203 x1 (b2 m) x3 (nI x) u = f_X2_readMemberHead_j213 x1 x3 u1 ∧ f_X7_member_j206 y1 (b2 m) y3 y6 y7 (nI x) v = f_X7_member_j250 y1 y3 y6 y7 (nI x) v1 ∧ JS True u0 v0 n pos lim lr ls u1 v1 ∧ PQ b n N kd pl u1 v1 ∧ u1 24 = u 24 ∧ v1 38 = v 38 ∧ v1 39 = v 39 := by
  have hn := hE.1.1
  have c6 : ∀ {α : Type} {x : Option α}, chk 7 6 x = x := fun {α x} => chkN (k := 6) (by omega) (by omega)
  have cz : Int32.toNatClampNeg 6 = 6 := rfl
  unfold f_X2_readMemberHead_j203 f_X7_member_j206
  cases m with
  | true =>
    have z : ¬ b2 true = 0 := by decide
    simp only [h.r0, if_true, if_neg z]
    exact ⟨u, v, rfl, rfl, h, hP, rfl, rfl, rfl⟩
  | false =>
    have z : b2 false = 0 := rfl
    obtain ⟨a1, a2⟩ := hP.te hx
    have hT := hP.tm (hE.bm h.2.1) hx
    have eb : f_X7_brackets (nI x) 0 v = some (nI (brE b (pl x + 3) (tE b pl x) - (pl x + 3))) := M_brackets (f := 0) hT a2
    have pl4 := (hP.2.2.2.2.2.2.1 x (by omega)).2.2
    simp only [h.r0, if_true, if_pos z, eb, Option.bind_some, c6, cz]
    unfold f_X2_countBrackets
    simp only [X_textStart hP hx, X_textEnd hP (hE.bx h.1) hx, X_brackets (hE.bx h.1) (show pl x + 3 ≤ 402 by omega) a1, Option.bind_some, c6, cz]
    have e6 := h.2.2.2.1 6 (by omega) (by omega)
    by_cases q : nI (brE b (pl x + 3) (tE b pl x) - (pl x + 3)) ≤ v 32 6
    · rw [if_pos q, if_neg (by rw [e6]; exact Int32.not_lt.mpr q)]
      refine ⟨_, v, rfl, rfl, ?_, hP, rfl, rfl, rfl⟩
      obtain ⟨h1, h2, h3, h4, h5⟩ := h
      refine ⟨h1, h2, h3, fun j j1 j2 => ?_, fun t => ?_⟩
      · by_cases q : j = 6
        · rw [q]; simp (disch := omega) only [up_s, up_o, upd_s, upd_o]; exact e6
        · simp (disch := omega) only [up_s, up_o, upd_s, upd_o]
          exact h4 j j1 j2
      · have := h5 t
        simp (disch := omega) only [up_s, up_o, upd_s, upd_o]
        exact this
    · rw [if_neg q, if_pos (by rw [e6]; exact Int32.not_le.mp q)]
      exact ⟨_, _, rfl, rfl, h.tal 6 (by omega) _ _ rfl, hP, rfl, rfl, rfl⟩
/-- the member is new -/
theorem st_add {u0 v0 u v : St} {b : Nat → Nat} {n N pos k x y : Nat} {kd pl : Nat → Nat} (hE : EV u0 v0 b n) (h : JS True u0 v0 n (pos + 6) n 1 n u v) (hP : PQ b n N kd pl u v) (hM : MB b kd n k u v) (hk : 8 * k + 8 ≤ pos) (hx : x = w2 b (pos + 2)) (hy : y = w2 b (pos + 4)) (kx : kd x = 1) (ky : kd y = 1) :
    (∃ u1 v1, f_X2_readMemberHead_j213 (nI k) (nI pos) u = some (1, u1) ∧ f_X7_member_j250 (nI k) (nI pos) (nI (pos + 2)) (nI x) (nI y) v = some (nI pos, v1) ∧ JS True u0 v0 n (pos + 6) n 1 n u1 v1 ∧ PQ b n N kd pl u1 v1 ∧ MB b kd n (k + 1) u1 v1 ∧ u1 24 k = nI pos ∧ v1 39 k = nI y) ∨
    (∃ u1 v1, f_X2_readMemberHead_j213 (nI k) (nI pos) u = some (0, u1) ∧ f_X7_member_j250 (nI k) (nI pos) (nI (pos + 2)) (nI x) (nI y) v = some (nI pos, v1) ∧ EE True u0 v0 u1 v1) := by
  have hn := hE.1.1
  have hpn := h.2.2.1.2.2.2.2.2.2.2.2.2.2.1
  have hBX := hE.bx h.1
  have hBM := hE.bm h.2.1
  have k48 : k < 51 := by omega
  let P : Nat → Prop := fun i => ∀ hd, u 24 i = nI hd → hd + 6 ≤ n → ¬ (eqT b pl (w2 b (hd + 2)) x ∧ eqT b pl (w2 b (hd + 4)) y)
  have key : ∀ i, 0 ≤ i → i < k → (P i ∧ f_X2_addMember_b2 (nI k) (nI pos) (nI i, u) = some (.inr (nI (i + 1), u))) ∨ (¬ P i ∧ (f_X2_addMember_b2 (nI k) (nI pos) (nI i, u) = some (.inl (.inl (0, up (up u 2 0 17) 3 0 (nI (pos + 2))))) ∨ ∃ a', f_X2_addMember_b2 (nI k) (nI pos) (nI i, u) = some (.inr a') ∧ f_X2_addMember_b2 (nI k) (nI pos) a' = some (.inl (.inl (0, up (up u 2 0 17) 3 0 (nI (pos + 2))))))) := by
    intro i _ i2
    obtain ⟨hd, g1, g2, g3, g4, g5, g6⟩ := hM i i2
    have hu : ∀ hd2, u 24 i = nI hd2 → hd2 + 6 ≤ n → hd2 = hd := fun hd2 z1 z2 => (nI_eq (by omega) (by omega)).mp (z1.symm.trans g1)
    unfold f_X2_addMember_b2 f_X2_addMember_j90_2
    simp only [if_neg (nI_ge i2 (show k < 2 ^ 31 by omega)), chkN (show i < 51 by omega) (show 51 < 2 ^ 31 by omega), cl_nI (show i < 2 ^ 31 by omega), g1, L2, L4, nI_add, X_u2 hBX (show hd + 2 + 1 < n by omega), X_u2 hBX (show hd + 4 + 1 < n by omega), X_u2 hBX (show pos + 2 + 1 < n by omega), X_u2 hBX (show pos + 4 + 1 < n by omega), Option.bind_some, ← hx, ← hy, X_same hP hBX g5 kx, X_same hP hBX g6 ky, X_broken, bchk_0, nI_1]
    by_cases c1 : eqT b pl (w2 b (hd + 2)) x
    · rw [if_neg (fun z => bI_0.mp z c1)]
      by_cases c2 : eqT b pl (w2 b (hd + 4)) y
      · rw [if_neg (fun z => bI_0.mp z c2)]
        exact Or.inr ⟨fun z => z hd g1 g2 ⟨c1, c2⟩, Or.inl rfl⟩
      · rw [if_pos (bI_0.mpr c2)]
        exact Or.inl ⟨fun hd2 z1 z2 z3 => c2 (hu hd2 z1 z2 ▸ z3.2), rfl⟩
    · rw [if_pos (bI_0.mpr c1)]
      exact Or.inl ⟨fun hd2 z1 z2 z3 => c1 (hu hd2 z1 z2 ▸ z3.1), rfl⟩
  have kxe : f_X2_addMember_b2 (nI k) (nI pos) (nI k, u) = some (.inl (.inr u)) := by
    unfold f_X2_addMember_b2
    rw [if_pos (show nI k ≤ nI k from nI_le (Nat.le_refl _) (by omega))]
  have km : ∀ i, 0 ≤ i → i < k → (P i ∧ f_X7_member_b253 (nI k) (nI pos) (nI (pos + 2)) (nI x) (nI y) (nI i, v) = some (.inr (nI (i + 1), v))) ∨ (¬ P i ∧ (f_X7_member_b253 (nI k) (nI pos) (nI (pos + 2)) (nI x) (nI y) (nI i, v) = some (.inl (.inr (up (up v 7 0 17) 8 0 (nI (pos + 2))))) ∨ ∃ a', f_X7_member_b253 (nI k) (nI pos) (nI (pos + 2)) (nI x) (nI y) (nI i, v) = some (.inr a') ∧ f_X7_member_b253 (nI k) (nI pos) (nI (pos + 2)) (nI x) (nI y) a' = some (.inl (.inr (up (up v 7 0 17) 8 0 (nI (pos + 2))))))) := by
    intro i _ i2
    obtain ⟨hd, g1, g2, g3, g4, g5, g6⟩ := hM i i2
    have hu : ∀ hd2, u 24 i = nI hd2 → hd2 + 6 ≤ n → hd2 = hd := fun hd2 z1 z2 => (nI_eq (by omega) (by omega)).mp (z1.symm.trans g1)
    have ex : f_X7_member_b253 (nI k) (nI pos) (nI (pos + 2)) (nI x) (nI y) (nI (i + 1), up (up v 7 0 17) 8 0 (nI (pos + 2))) = some (.inl (.inr (up (up v 7 0 17) 8 0 (nI (pos + 2))))) := by
      unfold f_X7_member_b253
      simp only [if_neg (show ¬ (up (up v 7 0 17) 8 0 (nI (pos + 2))) 7 0 = 0 from show ¬ (17 : Int32) = 0 by decide), ite_self]
    have eM : f_X7_member_b253 (nI k) (nI pos) (nI (pos + 2)) (nI x) (nI y) (nI i, v) = if bI (eqT b pl (w2 b (hd + 2)) x) = 0 then some (.inr (nI (i + 1), v)) else if bI (eqT b pl (w2 b (hd + 4)) y) = 0 then some (.inr (nI (i + 1), v)) else some (.inr (nI (i + 1), up (up v 7 0 17) 8 0 (nI (pos + 2)))) := by
      unfold f_X7_member_b253 f_X7_member_j307_253
      simp only [if_neg (nI_ge i2 (show k < 2 ^ 31 by omega)), h.r0, if_true, chkN (show i < 60 by omega) (show 60 < 2 ^ 31 by omega), cl_nI (show i < 2 ^ 31 by omega), g3, g4, M_same hP hBM g5 kx, M_same hP hBM g6 ky, Option.bind_some, M_fail h.z, nI_1]
    rw [eM]
    by_cases c1 : eqT b pl (w2 b (hd + 2)) x
    · rw [if_neg (fun z => bI_0.mp z c1)]
      by_cases c2 : eqT b pl (w2 b (hd + 4)) y
      · rw [if_neg (fun z => bI_0.mp z c2)]
        exact Or.inr ⟨fun z => z hd g1 g2 ⟨c1, c2⟩, Or.inr ⟨_, rfl, ex⟩⟩
      · rw [if_pos (bI_0.mpr c2)]
        exact Or.inl ⟨fun hd2 z1 z2 z3 => c2 (hu hd2 z1 z2 ▸ z3.2), rfl⟩
    · rw [if_pos (bI_0.mpr c1)]
      exact Or.inl ⟨fun hd2 z1 z2 z3 => c1 (hu hd2 z1 z2 ▸ z3.1), rfl⟩
  have kme : f_X7_member_b253 (nI k) (nI pos) (nI (pos + 2)) (nI x) (nI y) (nI k, v) = some (.inl (.inr v)) := by
    unfold f_X7_member_b253
    rw [if_pos (show nI k ≤ nI k from nI_le (Nat.le_refl _) (by omega))]
  have lx := loop_seq (β := (Int32 × St) ⊕ St) (fun i => (nI i, u)) P (fun _ => .inl (0, up (up u 2 0 17) 3 0 (nI (pos + 2)))) (.inr u) (Nat.zero_le k) (by omega) key kxe
  have lm := loop_seq (β := (Int32 × St) ⊕ St) (fun i => (nI i, v)) P (fun _ => .inr (up (up v 7 0 17) 8 0 (nI (pos + 2)))) (.inr v) (Nat.zero_le k) (by omega) km kme
  unfold f_X2_readMemberHead_j213 f_X2_addMember f_X7_member_j250 f_X7_member_j313 f_X7_member_j335
  simp only [if_neg (show ¬ (60 : Int32) ≤ nI k from nI_ge (b := 60) (by omega) (by omega)), chkN (show k < 60 by omega) (show 60 < 2 ^ 31 by omega), chkN (show k < 51 by omega) (show 51 < 2 ^ 31 by omega), cl_nI (show k < 2 ^ 31 by omega)]
  rcases lx with ⟨x1, x2⟩ | ⟨j, j1, j2, j3, j4, x1⟩
  · rcases lm with ⟨m1, m2⟩ | ⟨i, i1, i2, i3, i4, m1⟩
    · have x1 : loopF (f_X2_addMember_b2 (nI k) (nI pos)) FU (0, u) = _ := x1
      have m1 : loopF (f_X7_member_b253 (nI k) (nI pos) (nI (pos + 2)) (nI x) (nI y)) FU (0, v) = _ := m1
      rw [bd_some x1, bd_some m1]
      simp only [Sum.elim_inr, Option.bind_some, bchk_1]
      refine Or.inl ⟨_, _, rfl, rfl, h, hP, fun i hi => ?_, by simp (disch := omega) only [up_s, up_o, upd_s, upd_o], by simp (disch := omega) only [up_s, up_o, upd_s, upd_o]⟩
      by_cases hik : i = k
      · subst hik
        exact ⟨pos, by simp (disch := omega) only [up_s, up_o, upd_s, upd_o], by omega, by simp (disch := omega) only [up_s, up_o, upd_s, upd_o]; rw [hx], by simp (disch := omega) only [up_s, up_o, upd_s, upd_o]; rw [hy], by rw [← hx]; exact kx, by rw [← hy]; exact ky⟩
      · obtain ⟨hd, g1, g2, g3, g4, g5, g6⟩ := hM i (by omega)
        exact ⟨hd, by simp (disch := omega) only [up_s, up_o, upd_s, upd_o]; exact g1, g2, by simp (disch := omega) only [up_s, up_o, upd_s, upd_o]; exact g3, by simp (disch := omega) only [up_s, up_o, upd_s, upd_o]; exact g4, g5, g6⟩
    · exact absurd (x2 i i1 i2) i3
  · rcases lm with ⟨m1, m2⟩ | ⟨i, i1, i2, i3, i4, m1⟩
    · exact absurd (m2 j j1 j2) j3
    · have x1 : loopF (f_X2_addMember_b2 (nI k) (nI pos)) FU (0, u) = _ := x1
      have m1 : loopF (f_X7_member_b253 (nI k) (nI pos) (nI (pos + 2)) (nI x) (nI y)) FU (0, v) = _ := m1
      rw [bd_some x1, bd_some m1]
      simp only [Sum.elim_inr, Sum.elim_inl, Option.bind_some, bchk_0]
      exact Or.inr ⟨_, _, rfl, rfl, h.err (r := 17) (by omega) (by omega) (nI (pos + 2))⟩
theorem st_member {u0 v0 u v : St} {b : Nat → Nat} {n N pos k : Nat} {kd pl : Nat → Nat} (m : Bool) (hE : EV u0 v0 b n) (h : JS True u0 v0 n pos n 1 n u v) (hP : PQ b n N kd pl u v) (hM : MB b kd n k u v) (hk : 8 * k + 8 ≤ pos) :
    (∃ u1 v1, f_X2_readMemberHead (nI k) (b2 m) u = some (1, u1) ∧ f_X7_member (nI k) (b2 m) v = some (nI pos, v1) ∧ JS True u0 v0 n (pos + 6) n 1 n u1 v1 ∧ PQ b n N kd pl u1 v1 ∧ MB b kd n (k + 1) u1 v1 ∧ u1 24 k = nI pos ∧ v1 39 k = nI (w2 b (pos + 4)) ∧ tyP b kd pl m (w2 b (pos + 4))) ∨
    (∃ u1 v1, f_X2_readMemberHead (nI k) (b2 m) u = some (0, u1) ∧ f_X7_member (nI k) (b2 m) v = some (nI pos, v1) ∧ EE True u0 v0 u1 v1) := by
  have hn := hE.1.1
  have n10 : ¬ (1 : Int32) = 0 := by decide
  have r1 := h.2.2.1.1
  have r5 := h.2.2.1.2.2.2.2.1
  have j58N : ∀ (v1 : St) (z : Int32), ¬ v1 7 0 = 0 → f_X7_member_j58 (nI k) (b2 m) (nI pos) z v1 = some (nI pos, v1) := by
    intro v1 z hv
    unfold f_X7_member_j58
    rw [if_neg hv, M_j80N hv]
  unfold f_X2_readMemberHead f_X7_member
  rcases rd2 hE h with ⟨a1, e1, e2, h1, w, e3⟩ | ⟨a1, e1, v1, e2, h1⟩
  rotate_left
  · right
    have es : f_X7_several 0 v1 = some (bI (¬ acc 0)) := M_several (w := 0) (by omega)
    simp only [e1, e2, Option.bind_some, if_true, es, r5]
    unfold f_X7_member_j53 f_X7_member_j57
    simp only [j58N v1 _ h1.n, ite_self]
    exact ⟨_, _, rfl, rfl, h1⟩
  have hP1 : PQ b n N kd pl (up u 4 0 (nI (pos + 2))) (up v 3 0 (nI (pos + 2))) := hP
  have eF : (if b2 m = 0 then (f_X2_fieldFlagsFit (nI (w2 b pos)) (up u 4 0 (nI (pos + 2)))).bind (fun q5 => if q5 = 0 then f_X2_readMemberHead_j54 (nI pos) (up u 4 0 (nI (pos + 2))) else f_X2_readMemberHead_j65 (nI k) (b2 m) (nI pos) (up u 4 0 (nI (pos + 2)))) else (f_X2_methodFlagsFit (nI (w2 b pos)) (up u 4 0 (nI (pos + 2)))).bind (fun q33 => if q33 = 0 then f_X2_readMemberHead_j54 (nI pos) (up u 4 0 (nI (pos + 2))) else f_X2_readMemberHead_j65 (nI k) (b2 m) (nI pos) (up u 4 0 (nI (pos + 2))))) = @ite _ (fOK m (w2 b pos)) (Classical.propDecidable _) (f_X2_readMemberHead_j65 (nI k) (b2 m) (nI pos) (up u 4 0 (nI (pos + 2)))) (f_X2_readMemberHead_j54 (nI pos) (up u 4 0 (nI (pos + 2)))) := by
    cases m with
    | false =>
      rw [if_pos (show b2 false = 0 from rfl), bd_some (X_fieldFlags w)]
      by_cases q : fOK false (w2 b pos)
      · rw [if_neg (fun z => bI_0.mp z q), if_pos q]
      · rw [if_pos (bI_0.mpr q), if_neg q]
    | true =>
      rw [if_neg (show ¬ b2 true = 0 by decide), bd_some (X_methodFlags w)]
      by_cases q : fOK true (w2 b pos)
      · rw [if_neg (fun z => bI_0.mp z q), if_pos q]
      · rw [if_pos (bI_0.mpr q), if_neg q]
  simp only [e1, e2, Option.bind_some, if_neg n10, r1, r5, e3]
  rw [eF, M_flags m w]
  by_cases qf : fOK m (w2 b pos)
  rotate_left
  · right
    rw [if_neg qf, if_neg qf]
    unfold f_X2_readMemberHead_j54 f_X7_member_j53 f_X7_member_j58
    have h2 := h1.err (r := 14) (by omega) (by omega) (nI pos)
    have e4 : f_X7_member_j80 (nI k) (b2 m) (nI pos) (up (up (up v 3 0 (nI (pos + 2))) 7 0 14) 8 0 (nI pos)) = _ := M_j80N h2.n _ _ _
    simp only [X_broken, Option.bind_some, bchk_0, h1.r0, if_true, if_neg n10, M_fail h1.z, e4]
    exact ⟨_, _, rfl, rfl, h2⟩
  rw [if_pos qf, if_pos qf]
  unfold f_X7_member_j57 f_X7_member_j58
  simp only [h1.r0, if_true]
  -- the name
  rcases rd2 hE h1 with ⟨a2, e4, e5, h2, w2', e6⟩ | ⟨a2, e4, v1, e5, h2⟩
  rotate_left
  · right
    unfold f_X2_readMemberHead_j65 f_X7_member_j80
    simp only [e4, e5, Option.bind_some, if_true, h2.nz, if_false, M_j143N h2.n]
    exact ⟨_, _, rfl, rfl, h2⟩
  have hP2 : PQ b n N kd pl (up (up u 4 0 (nI (pos + 2))) 4 0 (nI (pos + 2 + 2))) (up (up v 3 0 (nI (pos + 2))) 3 0 (nI (pos + 2 + 2))) := hP
  rw [X_nm m (nI k) hP2 (hE.bx h2.1) e4 e6 w2', M_nm m (nI k) (nI pos) (nI (pos + 2)) hP2 (hE.bm h2.2.1) (hE.cm h2.2.1) h2.z e5 rfl w2']
  by_cases qn : nmP b kd pl m (w2 b (pos + 2))
  rotate_left
  · right
    rw [if_neg qn, if_neg qn]
    unfold f_X2_readMemberHead_j121 f_X7_member_j134
    have h3 := h2.err (r := 15) (by omega) (by omega) (nI (pos + 2))
    have e7 : ∀ x7, f_X7_member_j143 (nI k) (b2 m) (nI pos) (nI (pos + 2)) x7 (up (up (up (up v 3 0 (nI (pos + 2))) 3 0 (nI (pos + 2 + 2))) 7 0 15) 8 0 (nI (pos + 2))) = _ := fun x7 => M_j143N h3.n _ _ _ _ _
    simp only [X_broken, Option.bind_some, bchk_0, M_fail h2.z, e7, L2, nI_add]
    exact ⟨_, _, rfl, rfl, h3⟩
  rw [if_pos qn, if_pos qn]
  -- the type
  rcases rd2 hE h2 with ⟨a3, e7, e8, h3, w3', e9⟩ | ⟨a3, e7, v1, e8, h3⟩
  rotate_left
  · right
    unfold f_X2_readMemberHead_j134 f_X7_member_j143
    simp only [e7, e8, Option.bind_some, if_true, h3.nz, if_false, M_j206N h3.n]
    exact ⟨_, _, rfl, rfl, h3⟩
  have hP3 : PQ b n N kd pl (up (up (up u 4 0 (nI (pos + 2))) 4 0 (nI (pos + 2 + 2))) 4 0 (nI (pos + 2 + 2 + 2))) (up (up (up v 3 0 (nI (pos + 2))) 3 0 (nI (pos + 2 + 2))) 3 0 (nI (pos + 2 + 2 + 2))) := hP
  have e9 : f_X1_u2 (nI (pos + 4)) (up (up (up u 4 0 (nI (pos + 2))) 4 0 (nI (pos + 2 + 2))) 4 0 (nI (pos + 2 + 2 + 2))) = some (nI (w2 b (pos + 4))) := e9
  have e8 : f_X7_u2 (up (up v 3 0 (nI (pos + 2))) 3 0 (nI (pos + 2 + 2))) = some (nI (w2 b (pos + 4)), up (up (up v 3 0 (nI (pos + 2))) 3 0 (nI (pos + 2 + 2))) 3 0 (nI (pos + 2 + 2 + 2))) := e8
  have w3' : w2 b (pos + 4) < 65536 := w3'
  rw [X_ty m (nI k) hP3 (hE.bx h3.1) e7 e9 w3', M_ty m (nI k) (nI pos) (nI (pos + 2)) (nI (w2 b (pos + 2))) (nI (pos + 2 + 2)) hP3 (hE.bm h3.2.1) (hE.cm h3.2.1) h3.z e8 rfl w3']
  by_cases qt : tyP b kd pl m (w2 b (pos + 4))
  rotate_left
  · right
    rw [if_neg qt, if_neg qt]
    unfold f_X2_readMemberHead_j190 f_X7_member_j197
    have h4 := h3.err (r := 16) (by omega) (by omega) (nI (pos + 4))
    have e10 : ∀ x9, f_X7_member_j206 (nI k) (b2 m) (nI pos) (nI (pos + 2)) (nI (w2 b (pos + 2))) x9 (up (up (up (up (up v 3 0 (nI (pos + 2))) 3 0 (nI (pos + 2 + 2))) 3 0 (nI (pos + 2 + 2 + 2))) 7 0 16) 8 0 (nI (pos + 2 + 2))) = _ := fun x9 => M_j206N h4.n _ _ _ _ _ _
    simp only [X_broken, Option.bind_some, bchk_0, M_fail h3.z, e10, L4, nI_add]
    exact ⟨_, _, rfl, rfl, h4⟩
  rw [if_pos qt, if_pos qt]
  obtain ⟨u4, v4, f1, f2, h4, hP4, g1, g2, g3⟩ := st_brk m hE h3 hP3 qt.1 (nI k) (nI pos) (nI k) (nI pos) (nI (pos + 2)) (nI (w2 b (pos + 2)))
  rw [f1, f2]
  have hM4 : MB b kd n k u4 v4 := hM.fr g1 g2 g3
  rcases st_add hE h4 hP4 hM4 hk rfl rfl qn.1 qt.1 with ⟨u5, v5, t1, t2, t3, t4, t5, t6, t7⟩ | ⟨u5, v5, t1, t2, t3⟩
  · exact Or.inl ⟨u5, v5, t1, t2, t3, t4, t5, t6, t7, qt⟩
  · exact Or.inr ⟨u5, v5, t1, t2, t3⟩
