theorem ny_and (a c : Nat) : nI a &&& nI c = nI (a &&& c) := by
  unfold nI
  rw [← Int32.toBitVec_inj, Int32.toBitVec_and]
  show BitVec.ofNat 32 a &&& BitVec.ofNat 32 c = BitVec.ofNat 32 (a &&& c)
  exact BitVec.ofNat_and.symm
theorem nd_lo (w c : Nat) (k : Nat) (hc : c &&& (2 ^ k - 1) = c) : w &&& c = (w % 2 ^ k) &&& c := by
  rw [← Nat.and_two_pow_sub_one_eq_mod, Nat.and_assoc, Nat.and_comm (2 ^ k - 1) c, hc]
/-- the access flags -/
def acc (w : Nat) : Prop := w % 2 + w / 2 % 2 + w / 4 % 2 ≤ 1
theorem bc_8 : ∀ x, x < 8 → f_X8_bitCount (nI x) (fun _ _ => 0) = some (nI (x % 2 + x / 2 % 2 + x / 4 % 2)) := by decide +kernel
theorem X_access {u : St} {w : Nat} (hw : w < 65536) : f_X2_hasAtMostOneAccess (nI w) u = some (bI (acc w)) := by
  unfold f_X2_hasAtMostOneAccess f_X2_hasAtMostOneAccess_j16
  rw [pk_andN (by omega) 3 (by decide)]
  have e : f_X8_bitCount (nI (w % 2 ^ 3)) u = some (nI (w % 2 + w / 2 % 2 + w / 4 % 2)) := by
    have := bc_8 (w % 8) (by omega)
    rw [show w % 8 % 2 + w % 8 / 2 % 2 + w % 8 / 4 % 2 = w % 2 + w / 2 % 2 + w / 4 % 2 by omega] at this
    exact this
  rw [bd_some e]
  simp (disch := omega) only [L1, ltN]
  by_cases q : acc w
  · rw [if_neg (by unfold acc at q; omega), ← L1, bchk_1, bI_t q]
  · rw [if_pos (by unfold acc at q; omega), bchk_0, bI_f q]
theorem M_several {v : St} {w : Nat} (hw : w < 65536) : f_X7_several (nI w) v = some (bI (¬ acc w)) := by
  unfold f_X7_several f_X7_several_j26
  rw [pk_shrN (by omega) _ 1 (by decide), pk_shrN (by omega) _ 2 (by decide), pk_andN (by omega) 1 (by decide), pk_andN (by omega) 1 (by decide), pk_andN (by omega) 1 (by decide), nI_add, nI_add]
  simp (disch := omega) only [L1, leN]
  by_cases q : acc w
  · rw [if_pos (by unfold acc at q; omega), bchk_0, bI_f (fun z => z q)]
  · rw [if_neg (by unfold acc at q; omega), ← L1, bchk_1, bI_t q]
theorem fl80 {w : Nat} (hw : w < 65536) : (nI w &&& 80 = 80) ↔ ¬ (nI w &&& 16 = 0) ∧ ¬ (nI w &&& 64 = 0) := by
  rw [L80, L16, L64, L0, ny_and, ny_and, ny_and]
  have key : ∀ x, x < 128 → ((x &&& 80 = 80) ↔ ¬ (x &&& 16 = 0) ∧ ¬ (x &&& 64 = 0)) := by decide +kernel
  have hb : ∀ c, w &&& c ≤ w := fun c => Nat.and_le_left
  have b1 := hb 80
  have b2 := hb 16
  have b3 := hb 64
  rw [nI_eq (by omega) (by omega), nI_eq (by omega) (by omega), nI_eq (by omega) (by omega)]
  rw [nd_lo w 80 7 (by decide), nd_lo w 16 7 (by decide), nd_lo w 64 7 (by decide)]
  exact key (w % 128) (by omega)
/-- a member's flags -/
def fOK (m : Bool) (w : Nat) : Prop := acc w ∧ if m = true then (nI w &&& 1024 = 0 ∨ nI w &&& 26 = 0) else (nI w &&& 16 = 0 ∨ nI w &&& 64 = 0)
theorem X_fieldFlags {u : St} {w : Nat} (hw : w < 65536) : f_X2_fieldFlagsFit (nI w) u = some (bI (fOK false w)) := by
  unfold f_X2_fieldFlagsFit f_X2_fieldFlagsFit_j18 f_X2_fieldFlagsFit_j19 f_X2_fieldFlagsFit_j35 f_X2_fieldFlagsFit_j36
  have n10 : ¬ (1 : Int32) = 0 := by decide
  simp only [X_access hw, Option.bind_some, bchk_0, bchk_1, if_true, if_neg n10]
  by_cases q : acc w
  · rw [if_neg (fun z => bI_0.mp z q)]
    rw [if_neg (fun z => bI_0.mp z q)]
    by_cases c1 : nI w &&& 16 = 0
    · rw [if_pos c1, bI_t (show fOK false w from ⟨q, Or.inl c1⟩)]
    · rw [if_neg c1]
      by_cases c2 : nI w &&& 64 = 0
      · rw [if_pos c2, bI_t (show fOK false w from ⟨q, Or.inr c2⟩)]
      · rw [if_neg c2, bI_f (show ¬ fOK false w from fun z => by rcases z.2 with z | z; exact c1 z; exact c2 z)]
  · rw [if_pos (bI_0.mpr q), if_pos (bI_0.mpr q), ite_self, ite_self, bI_f (fun z => q z.1)]
theorem X_methodFlags {u : St} {w : Nat} (hw : w < 65536) : f_X2_methodFlagsFit (nI w) u = some (bI (fOK true w)) := by
  unfold f_X2_methodFlagsFit f_X2_methodFlagsFit_j12 f_X2_methodFlagsFit_j32 f_X2_methodFlagsFit_j36 f_X2_methodFlagsFit_j37
  have n10 : ¬ (1 : Int32) = 0 := by decide
  simp only [X_access hw, Option.bind_some, bchk_0, bchk_1, if_true, if_neg n10]
  by_cases q : acc w
  · rw [if_neg (fun z => bI_0.mp z q)]
    rw [if_neg (fun z => bI_0.mp z q)]
    by_cases c1 : nI w &&& 1024 = 0
    · rw [if_pos c1, if_pos c1, ite_self, bI_t (show fOK true w from ⟨q, Or.inl c1⟩)]
    · rw [if_neg c1, if_neg c1]
      by_cases c2 : nI w &&& 26 = 0
      · rw [if_pos c2, bI_t (show fOK true w from ⟨q, Or.inr c2⟩)]
      · rw [if_neg c2, bI_f (show ¬ fOK true w from fun z => by rcases z.2 with z | z; exact c1 z; exact c2 z)]
  · rw [if_pos (bI_0.mpr q), if_pos (bI_0.mpr q), ite_self, bI_f (fun z => q z.1)]
/-- the same letters -/
def eqT (b pl : Nat → Nat) (x y : Nat) : Prop := w2 b (pl x + 1) = w2 b (pl y + 1) ∧ ∀ i, i < w2 b (pl x + 1) → b (pl x + 3 + i) = b (pl y + 3 + i)
theorem X_same {b : Nat → Nat} {n N : Nat} {kd pl : Nat → Nat} {u v : St} (h : PQ b n N kd pl u v) (hB : BX u b n) {x y : Nat} (hx : kd x = 1) (hy : kd y = 1) : f_X4_sameTexts (nI x) (nI y) u = some (bI (eqT b pl x y)) := by
  have hn := hB.1
  obtain ⟨a1, a2⟩ := h.te hx
  obtain ⟨a3, a4⟩ := h.te hy
  unfold tE at a1 a3
  unfold f_X4_sameTexts
  rw [bd_some (X_first h hB (Or.inl hx)), bd_some (X_first h hB (Or.inl hy))]
  simp (disch := omega) only [eqN]
  by_cases q : w2 b (pl x + 1) = w2 b (pl y + 1)
  · rw [if_pos q]
    have key : ∀ i, 0 ≤ i → i < w2 b (pl x + 1) → (b (pl x + 3 + i) = b (pl y + 3 + i) ∧ f_X4_sameTexts_b20 (nI x) (nI y) (nI (w2 b (pl x + 1))) u (nI i) = some (.inr (nI (i + 1)))) ∨ (¬ b (pl x + 3 + i) = b (pl y + 3 + i) ∧ f_X4_sameTexts_b20 (nI x) (nI y) (nI (w2 b (pl x + 1))) u (nI i) = some (.inl (.inl 0))) := by
      intro i _ i2
      obtain ⟨e1, e2⟩ := hB.2 (pl x + 3 + i) (by omega)
      obtain ⟨e3, e4⟩ := hB.2 (pl y + 3 + i) (by omega)
      unfold f_X4_sameTexts_b20
      simp only [if_neg (nI_ge i2 (show w2 b (pl x + 1) < 2 ^ 31 by omega)), X_textStart h hx, X_textStart h hy, Option.bind_some, nI_add, nI_1]
      simp (disch := omega) only [chkN, cl_nI, e1, e3, eqN]
      by_cases z : b (pl x + 3 + i) = b (pl y + 3 + i)
      · exact Or.inl ⟨z, by rw [if_pos z]⟩
      · exact Or.inr ⟨z, by rw [if_neg z]⟩
    have he : f_X4_sameTexts_b20 (nI x) (nI y) (nI (w2 b (pl x + 1))) u (nI (w2 b (pl x + 1))) = some (.inl (.inr ())) := by
      unfold f_X4_sameTexts_b20
      rw [if_pos (nI_le (Nat.le_refl _) (by omega))]
    rcases loop_up (β := Int32 ⊕ Unit) (fun i => b (pl x + 3 + i) = b (pl y + 3 + i)) (fun _ => .inl 0) (.inr ()) (Nat.zero_le _) (by omega) key he with ⟨e, hh⟩ | ⟨k, k1, k2, k3, k4, e⟩
    · rw [show (0 : Int32) = nI 0 from rfl, bd_some e]
      show some 1 = _
      rw [bI_t ⟨q, fun i hi => hh i (Nat.zero_le _) hi⟩]
    · rw [show (0 : Int32) = nI 0 from rfl, bd_some e]
      show some 0 = _
      rw [bI_f (fun z => k3 (z.2 k k2))]
  · rw [if_neg q, bI_f (fun z => q z.1)]
theorem M_same {b : Nat → Nat} {n N : Nat} {kd pl : Nat → Nat} {u v : St} (h : PQ b n N kd pl u v) (hB : BM v b n) {x y : Nat} (hx : kd x = 1) (hy : kd y = 1) : f_X7_equal (nI x) (nI y) v = some (bI (eqT b pl x y)) := by
  have hn := hB.1
  obtain ⟨a1, a2⟩ := h.te hx
  obtain ⟨a3, a4⟩ := h.te hy
  have hT1 := h.tm hB hx
  have hT2 := h.tm hB hy
  have e36x := (h.2.2.2.2.2.2.2.1 x hx).2.2
  have e36y := (h.2.2.2.2.2.2.2.1 y hy).2.2
  have hN := h.2.2.1
  have nx := h.2.2.2.2.1 x (by omega)
  have ny := h.2.2.2.2.1 y (by omega)
  unfold tE at a1 a3
  unfold f_X7_equal
  simp (disch := omega) only [chkN, cl_nI, e36x, e36y, eqN]
  by_cases q : w2 b (pl x + 1) = w2 b (pl y + 1)
  · rw [if_pos q]
    have key : ∀ i, 0 ≤ i → i < w2 b (pl x + 1) → (b (pl x + 3 + i) = b (pl y + 3 + i) ∧ f_X7_equal_b19 (nI x) (nI y) v (nI i) = some (.inr (nI (i + 1)))) ∨ (¬ b (pl x + 3 + i) = b (pl y + 3 + i) ∧ f_X7_equal_b19 (nI x) (nI y) v (nI i) = some (.inl (.inl 0))) := by
      intro i _ i2
      have e2 := (hB.2 (pl x + 3 + i) (by omega)).2
      have e4 := (hB.2 (pl y + 3 + i) (by omega)).2
      unfold f_X7_equal_b19
      simp (disch := omega) only [chkN, cl_nI, e36x]
      simp only [if_neg (nI_ge i2 (show w2 b (pl x + 1) < 2 ^ 31 by omega)), M_letter hT1 (show pl x + 3 + i < n by omega), M_letter hT2 (show pl y + 3 + i < n by omega), Option.bind_some, nI_1]
      simp (disch := omega) only [eqN]
      by_cases z : b (pl x + 3 + i) = b (pl y + 3 + i)
      · exact Or.inl ⟨z, by rw [if_pos z]⟩
      · exact Or.inr ⟨z, by rw [if_neg z]⟩
    have he : f_X7_equal_b19 (nI x) (nI y) v (nI (w2 b (pl x + 1))) = some (.inl (.inr ())) := by
      unfold f_X7_equal_b19
      simp (disch := omega) only [chkN, cl_nI, e36x]
      rw [if_pos (nI_le (Nat.le_refl _) (by omega))]
    rcases loop_up (β := Int32 ⊕ Unit) (fun i => b (pl x + 3 + i) = b (pl y + 3 + i)) (fun _ => .inl 0) (.inr ()) (Nat.zero_le _) (by omega) key he with ⟨e, hh⟩ | ⟨k, k1, k2, k3, k4, e⟩
    · rw [show (0 : Int32) = nI 0 from rfl, bd_some e]
      show some 1 = _
      rw [bI_t ⟨q, fun i hi => hh i (Nat.zero_le _) hi⟩]
    · rw [show (0 : Int32) = nI 0 from rfl, bd_some e]
      show some 0 = _
      rw [bI_f (fun z => k3 (z.2 k k2))]
  · rw [if_neg q, bI_f (fun z => q z.1)]
/-- a name or type of a field or method -/
def nmP (b kd pl : Nat → Nat) (m : Bool) (x : Nat) : Prop := kd x = 1 ∧ if m = true then MN b (pl x + 3) (tE b pl x) else FN b (pl x + 3) (tE b pl x)
def tyP (b kd pl : Nat → Nat) (m : Bool) (x : Nat) : Prop := kd x = 1 ∧ if m = true then MT b (pl x + 3) (tE b pl x) else tEnd b (pl x + 3) (tE b pl x) = some (tE b pl x)
theorem X_nm {b : Nat → Nat} {n N : Nat} {kd pl : Nat → Nat} {u v U2 : St} (m : Bool) (x1 : Int32) {pos w : Nat} (hP : PQ b n N kd pl U2 v) (hB : BX U2 b n) (e1 : f_X5_step 2 u = some (1, U2)) (e2 : f_X1_u2 (nI (pos + 2)) U2 = some (nI w)) (hw : w < 65536) : f_X2_readMemberHead_j65 x1 (b2 m) (nI pos) u = @ite _ (nmP b kd pl m w) (Classical.propDecidable _) (f_X2_readMemberHead_j134 x1 (b2 m) (nI pos) U2) (f_X2_readMemberHead_j121 (nI pos) U2) := by
  have n10 : ¬ (1 : Int32) = 0 := by decide
  unfold f_X2_readMemberHead_j65
  simp only [e1, Option.bind_some, if_neg n10]
  simp only [L2, nI_add, e2, Option.bind_some]
  cases m with
  | false =>
    rw [if_pos (show b2 false = 0 from rfl), bd_some (show f_X4_isFieldName (nI w) U2 = some (bI (nmP b kd pl false w)) from X_pField hP hB (by omega))]
    by_cases q : nmP b kd pl false w
    · rw [if_neg (fun z => bI_0.mp z q), if_pos q]
    · rw [if_pos (bI_0.mpr q), if_neg q]
  | true =>
    rw [if_neg (show ¬ b2 true = 0 by decide), bd_some (show f_X4_isMemberName (nI w) U2 = some (bI (nmP b kd pl true w)) from X_pName hP hB (by omega))]
    by_cases q : nmP b kd pl true w
    · rw [if_neg (fun z => bI_0.mp z q), if_pos q]
    · rw [if_pos (bI_0.mpr q), if_neg q]
theorem X_ty {b : Nat → Nat} {n N : Nat} {kd pl : Nat → Nat} {u v U2 : St} (m : Bool) (x1 : Int32) {pos w : Nat} (hP : PQ b n N kd pl U2 v) (hB : BX U2 b n) (e1 : f_X5_step 2 u = some (1, U2)) (e2 : f_X1_u2 (nI (pos + 4)) U2 = some (nI w)) (hw : w < 65536) : f_X2_readMemberHead_j134 x1 (b2 m) (nI pos) u = @ite _ (tyP b kd pl m w) (Classical.propDecidable _) (f_X2_readMemberHead_j203 x1 (b2 m) (nI pos) (nI w) U2) (f_X2_readMemberHead_j190 (nI pos) U2) := by
  have n10 : ¬ (1 : Int32) = 0 := by decide
  unfold f_X2_readMemberHead_j134
  simp only [e1, Option.bind_some, if_neg n10]
  simp only [L4, nI_add, e2, Option.bind_some]
  cases m with
  | false =>
    rw [if_pos (show b2 false = 0 from rfl), bd_some (show f_X4_isFieldType (nI w) U2 = some (bI (tyP b kd pl false w)) from X_pType hP hB (by omega))]
    by_cases q : tyP b kd pl false w
    · rw [if_neg (fun z => bI_0.mp z q), if_pos q]
    · rw [if_pos (bI_0.mpr q), if_neg q]
  | true =>
    rw [if_neg (show ¬ b2 true = 0 by decide), bd_some (show f_X4_isMethodType (nI w) U2 = some (bI (tyP b kd pl true w)) from X_pMeth hP hB (by omega))]
    by_cases q : tyP b kd pl true w
    · rw [if_neg (fun z => bI_0.mp z q), if_pos q]
    · rw [if_pos (bI_0.mpr q), if_neg q]
theorem M_nm {b : Nat → Nat} {n N : Nat} {kd pl : Nat → Nat} {u v V2 : St} (m : Bool) (x1 x3 x6 : Int32) {w : Nat} (hP : PQ b n N kd pl u V2) (hB : BM V2 b n) (hC : CM V2) (h7 : V2 7 0 = 0) (e1 : f_X7_u2 v = some (nI w, V2)) (e3 : v 3 0 = x6) (hw : w < 65536) : f_X7_member_j80 x1 (b2 m) x3 v = @ite _ (nmP b kd pl m w) (Classical.propDecidable _) (f_X7_member_j143 x1 (b2 m) x3 x6 (nI w) V2) (f_X7_member_j134 x1 (b2 m) x3 x6 (nI w) V2) := by
  unfold f_X7_member_j80
  have ei : f_X7_is (nI w) 1 V2 = some (bI (kd w = 1)) := M_is hP (t := 1) (by omega) (by omega) (by omega)
  simp only [e1, Option.bind_some, h7, if_true, ei, e3]
  by_cases q : kd w = 1
  rotate_left
  · rw [if_pos (bI_0.mpr q), if_neg (fun z => q z.1)]
  rw [if_neg (fun z => bI_0.mp z q)]
  have hT := hP.tm hB q
  cases m with
  | false =>
    rw [if_pos (show b2 false = 0 from rfl), bd_some (M_fieldName hT)]
    by_cases z : FN b (pl w + 3) (tE b pl w)
    · rw [if_neg (fun y => bI_0.mp y z), if_pos ⟨q, z⟩]
    · rw [if_pos (bI_0.mpr z), if_neg (fun y => z y.2)]
  | true =>
    rw [if_neg (show ¬ b2 true = 0 by decide), bd_some (M_memberName hC hT)]
    by_cases z : MN b (pl w + 3) (tE b pl w)
    · rw [if_neg (fun y => bI_0.mp y z), if_pos ⟨q, z⟩]
    · rw [if_pos (bI_0.mpr z), if_neg (fun y => z y.2)]
theorem M_ty {b : Nat → Nat} {n N : Nat} {kd pl : Nat → Nat} {u v V2 : St} (m : Bool) (x1 x3 x6 x7 x8 : Int32) {w : Nat} (hP : PQ b n N kd pl u V2) (hB : BM V2 b n) (hC : CM V2) (h7 : V2 7 0 = 0) (e1 : f_X7_u2 v = some (nI w, V2)) (e3 : v 3 0 = x8) (hw : w < 65536) : f_X7_member_j143 x1 (b2 m) x3 x6 x7 v = @ite _ (tyP b kd pl m w) (Classical.propDecidable _) (f_X7_member_j206 x1 (b2 m) x3 x6 x7 (nI w) V2) (f_X7_member_j197 x1 (b2 m) x3 x6 x7 x8 (nI w) V2) := by
  unfold f_X7_member_j143
  have ei : f_X7_is (nI w) 1 V2 = some (bI (kd w = 1)) := M_is hP (t := 1) (by omega) (by omega) (by omega)
  simp only [e1, Option.bind_some, h7, if_true, ei, e3]
  by_cases q : kd w = 1
  rotate_left
  · rw [if_pos (bI_0.mpr q), if_neg (fun z => q z.1)]
  rw [if_neg (fun z => bI_0.mp z q)]
  have hT := hP.tm hB q
  cases m with
  | false =>
    rw [if_pos (show b2 false = 0 from rfl), bd_some (M_fieldType hT)]
    by_cases z : tEnd b (pl w + 3) (tE b pl w) = some (tE b pl w)
    · rw [if_neg (fun y => bI_0.mp y z), if_pos ⟨q, z⟩]
    · rw [if_pos (bI_0.mpr z), if_neg (fun y => z y.2)]
  | true =>
    rw [if_neg (show ¬ b2 true = 0 by decide), bd_some (M_methodType hT)]
    by_cases z : MT b (pl w + 3) (tE b pl w)
    · rw [if_neg (fun y => bI_0.mp y z), if_pos ⟨q, z⟩]
    · rw [if_pos (bI_0.mpr z), if_neg (fun y => z y.2)]
theorem M_j206N {v : St} (h : ¬ v 7 0 = 0) (x1 x2 x3 x6 x7 x9 : Int32) : f_X7_member_j206 x1 x2 x3 x6 x7 x9 v = some (x3, v) := by
  unfold f_X7_member_j206
  rw [if_neg h]
theorem M_j143N {v : St} (h : ¬ v 7 0 = 0) (x1 x2 x3 x6 x7 : Int32) : f_X7_member_j143 x1 x2 x3 x6 x7 v = some (x3, v) := by
  unfold f_X7_member_j143
  simp only [M_u2N h, Option.bind_some, if_neg h, M_j206N h]
theorem M_j80N {v : St} (h : ¬ v 7 0 = 0) (x1 x2 x3 : Int32) : f_X7_member_j80 x1 x2 x3 v = some (x3, v) := by
  unfold f_X7_member_j80
  simp only [M_u2N h, Option.bind_some, if_neg h, M_j143N h]
