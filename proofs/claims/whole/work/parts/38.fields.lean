theorem tEnd_pl {b : Nat → Nat} {s t : Nat} (h : tEnd b s t = some t) (hp : plainT (b s)) : t = s + 1 := by
  have h1 := tEnd_lt h
  have hb : brE b s t = s := by
    unfold brE
    refine fstN_uniq (Nat.le_refl _) (by omega) (fun j a1 a2 => by omega) (fun _ z => ?_)
    unfold plainT at hp
    omega
  unfold tEnd at h
  rw [hb, if_neg (by omega), if_pos hp] at h
  cases h
  rfl
/-- a constant fits -/
def cfit (b kd pl : Nat → Nat) (ty p : Nat) : Prop := w4 b (p + 2) = 2 ∧ (((b (pl ty + 3) = 66 ∨ b (pl ty + 3) = 67 ∨ b (pl ty + 3) = 73 ∨ b (pl ty + 3) = 83 ∨ b (pl ty + 3) = 90) ∧ kd (w2 b (p + 6)) = 3) ∨ (b (pl ty + 3) = 74 ∧ kd (w2 b (p + 6)) = 5))
theorem X_pword2 {b : Nat → Nat} {n N : Nat} {kd pl : Nat → Nat} {u v : St} (h : PQ b n N kd pl u v) (hB : BX u b n) {x : Nat} (hx : kd x = 1) : f_X4_isWord_s2 (nI x) u = some (bI (WD b (pl x + 3) (tE b pl x) 2)) := by
  obtain ⟨a1, a2⟩ := h.te hx
  unfold f_X4_isWord_s2
  rw [bd_some (X_textStart h hx), bd_some (X_textEnd h hB hx), bd_some (X_isWord_s2 hB a2 a1), bchk_bI]
theorem X_pword3 {b : Nat → Nat} {n N : Nat} {kd pl : Nat → Nat} {u v : St} (h : PQ b n N kd pl u v) (hB : BX u b n) {x : Nat} (hx : kd x = 1) : f_X4_isWord_s3 (nI x) u = some (bI (WD b (pl x + 3) (tE b pl x) 3)) := by
  obtain ⟨a1, a2⟩ := h.te hx
  unfold f_X4_isWord_s3
  rw [bd_some (X_textStart h hx), bd_some (X_textEnd h hB hx), bd_some (X_isWord_s3 hB a2 a1), bchk_bI]
theorem w4_2 {x : Nat} (h : x < 2 ^ 32) : (nI x = (2 : Int32)) ↔ x = 2 := by
  constructor
  · intro z
    have h1 : (nI x).toBitVec.toNat = x := pk_tn h
    rw [z] at h1
    rw [← h1]
    decide
  · intro z
    rw [z]
    decide
theorem X_constFits {b : Nat → Nat} {n N : Nat} {kd pl : Nat → Nat} {u v : St} (h : PQ b n N kd pl u v) (hB : BX u b n) {ty p : Nat} (ht : tyP b kd pl false ty) (hp : p + 6 + w4 b (p + 2) ≤ n) : f_X2_constantFits (nI p) (nI ty) u = some (bI (cfit b kd pl ty p)) := by
  have hn := hB.1
  have hb : ∀ j, j < n → b j < 256 := fun j hj => (hB.2 j hj).2
  obtain ⟨a1, a2⟩ := h.te ht.1
  have a3 := tEnd_lt (show tEnd b (pl ty + 3) (tE b pl ty) = some (tE b pl ty) from ht.2)
  have hw4 := w4_lt (i := p + 2) hb (by omega)
  unfold f_X2_constantFits f_X2_constantFits_j118 f_X2_constantFits_j129
  have ad2 : nI p + 2 = nI (p + 2) := nI_add p 2
  simp only [ad2, X_u4 hB (show p + 2 + 3 < n by omega), Option.bind_some]
  by_cases q : w4 b (p + 2) = 2
  rotate_left
  · rw [if_neg (fun z => q ((w4_2 hw4).mp z)), bI_f (fun z => q z.1)]
  rw [if_pos ((w4_2 hw4).mpr q)]
  obtain ⟨g1, g2⟩ := hB.2 (pl ty + 3) (by omega)
  have hk := h.2.2.2.1 (w2 b (p + 6))
  have hw := w2_lt (i := p + 6) hb (by omega)
  simp only [L6, nI_add, X_u2 hB (show p + 6 + 1 < n by omega), Option.bind_some, X_kindOf h (show w2 b (p + 6) < 2 ^ 31 by omega), X_textStart h ht.1, chkN (show pl ty + 3 < 400 by omega) (show 400 < 2 ^ 31 by omega), cl_nI (show pl ty + 3 < 2 ^ 31 by omega), g1]
  simp (disch := omega) only [L66, L67, L73, L83, L90, L74, L3, L5, eqN]
  by_cases c1 : b (pl ty + 3) = 66 ∨ b (pl ty + 3) = 67 ∨ b (pl ty + 3) = 73 ∨ b (pl ty + 3) = 83 ∨ b (pl ty + 3) = 90
  · rw [if_pos c1]
    by_cases c2 : kd (w2 b (p + 6)) = 3
    · rw [if_pos c2, bchk_1, bI_t ⟨q, Or.inl ⟨c1, c2⟩⟩]
    · rw [if_neg c2, bchk_0, bI_f]
      rintro ⟨-, z | z⟩
      · exact c2 z.2
      · omega
  · rw [if_neg c1]
    by_cases c3 : b (pl ty + 3) = 74
    · rw [if_pos c3]
      by_cases c2 : kd (w2 b (p + 6)) = 5
      · rw [if_pos c2, bchk_1, bI_t ⟨q, Or.inr ⟨c3, c2⟩⟩]
      · rw [if_neg c2, bchk_0, bI_f]
        rintro ⟨-, z | z⟩
        · exact c1 z.1
        · exact c2 z.2
    · rw [if_neg c3, bI_f]
      rintro ⟨-, z | z⟩
      · exact c1 z.1
      · exact c3 z.1
theorem M_constFits {b : Nat → Nat} {n N : Nat} {kd pl : Nat → Nat} {u v : St} (h : PQ b n N kd pl u v) (hB : BM v b n) {ty p : Nat} (ht : tyP b kd pl false ty) (h2 : w4 b (p + 2) = 2) (hw : w2 b (p + 6) < 65536) : f_X7_constantFits (nI ty) (nI (w2 b (p + 6))) v = some (bI (cfit b kd pl ty p)) := by
  have hn := hB.1
  have hN := h.2.2.1
  have hx := h.2.2.2.2.1 ty (by have := ht.1; omega)
  have hT := h.tm hB ht.1
  obtain ⟨a1, a2⟩ := h.te ht.1
  have a3 := tEnd_lt (show tEnd b (pl ty + 3) (tE b pl ty) = some (tE b pl ty) from ht.2)
  have e36 := (h.2.2.2.2.2.2.2.1 ty ht.1).2.2
  have g2 := (hB.2 (pl ty + 3) (by omega)).2
  have e3 : f_X7_is (nI (w2 b (p + 6))) 3 v = some (bI (kd (w2 b (p + 6)) = 3)) := M_is h (t := 3) (by omega) (by omega) (by omega)
  have e5 : f_X7_is (nI (w2 b (p + 6))) 5 v = some (bI (kd (w2 b (p + 6)) = 5)) := M_is h (t := 5) (by omega) (by omega) (by omega)
  have el : f_X7_letter (nI ty) 0 v = some (nI (b (pl ty + 3))) := M_letter (k := 0) hT (by omega)
  have te : tE b pl ty = pl ty + 3 + w2 b (pl ty + 1) := rfl
  unfold f_X7_constantFits f_X7_constantFits_j62 f_X7_constantFits_j75 f_X7_constantFits_j76
  simp (disch := omega) only [chkN, cl_nI, e36]
  simp only [el, e3, e5, Option.bind_some, bchk_bI, bchk_0, bchk_1]
  simp (disch := omega) only [L66, L67, L73, L83, L90, L74, L1, eqN]
  have s3 : (if bI (kd (w2 b (p + 6)) = 3) = 0 then some (0 : Int32) else some (nI 1)) = some (bI (kd (w2 b (p + 6)) = 3)) := by
    by_cases c : kd (w2 b (p + 6)) = 3
    · rw [if_neg (fun z => bI_0.mp z c), bI_t c]; rfl
    · rw [if_pos (bI_0.mpr c), bI_f c]
  have b1' : ∀ {α : Type} {k : Option α}, bchk (nI 1) k = k := fun {α k} => bchk_1
  simp only [b1', s3]
  by_cases q : w2 b (pl ty + 1) = 1
  · rw [if_pos q]
    by_cases c3 : b (pl ty + 3) = 74
    · rw [if_pos c3]
      exact congrArg some (bI_c ⟨fun z => ⟨h2, Or.inr ⟨c3, z⟩⟩, fun z => by rcases z.2 with y | y; omega; exact y.2⟩)
    · rw [if_neg c3]
      by_cases c1 : b (pl ty + 3) = 66 ∨ b (pl ty + 3) = 67 ∨ b (pl ty + 3) = 73 ∨ b (pl ty + 3) = 83 ∨ b (pl ty + 3) = 90
      · have e : bI (kd (w2 b (p + 6)) = 3) = bI (cfit b kd pl ty p) := bI_c ⟨fun z => ⟨h2, Or.inl ⟨c1, z⟩⟩, fun z => by rcases z.2 with y | y; exact y.2; omega⟩
        rw [e]
        rcases c1 with c | c | c | c | c <;> simp only [c] <;> rfl
      · rw [if_neg (by omega), if_neg (by omega), if_neg (by omega), if_neg (by omega), if_neg (by omega), bI_f]
        rintro ⟨-, y | y⟩
        · exact c1 y.1
        · exact c3 y.1
  · rw [if_neg q, bI_f]
    rintro ⟨-, y⟩
    have : plainT (b (pl ty + 3)) := by
      unfold plainT
      rcases y with y | y <;> omega
    have := tEnd_pl (show tEnd b (pl ty + 3) (tE b pl ty) = some (tE b pl ty) from ht.2) this
    omega
/-- a field's attributes -/
theorem st_fattrs {u0 v0 u v : St} {b : Nat → Nat} {n N pos k hd ty : Nat} {kd pl : Nat → Nat} (x1 : Int32) (hE : EV u0 v0 b n) (h : JS True u0 v0 n pos n 1 n u v) (hP : PQ b n N kd pl u v) (hk : k < 51) (h24 : u 24 k = nI hd) (hhd : hd + 6 ≤ n) (hty : ty = w2 b (hd + 4)) (ht : tyP b kd pl false ty) :
    ∃ c q1 p v1, f_X2_readNumber u = some (c, q1) ∧ loopF (f_X2_readFields_b31 x1 (nI k) c) FU (0, q1) = some p ∧ f_X7_fieldAttributes (nI ty) v = some v1 ∧
      ((¬ c = -1 ∧ ∃ u1 pos2, p = .inr u1 ∧ pos + 2 ≤ pos2 ∧ JS True u0 v0 n pos2 n 1 n u1 v1 ∧ GX u u1 ∧ GM v v1) ∨
       (c = -1 ∧ ∃ u1, p = .inr u1 ∧ EE True u0 v0 u1 v1) ∨ (∃ u1, p = .inl (0, u1) ∧ EE True u0 v0 u1 v1)) := by
  have hn := hE.1.1
  have n10 : ¬ (1 : Int32) = 0 := by decide
  have c5 : ∀ {α : Type} {x : Option α}, chk 7 5 x = x := fun {α x} => chkN (k := 5) (by omega) (by omega)
  have cz : Int32.toNatClampNeg 5 = 5 := rfl
  unfold f_X7_fieldAttributes f_X7_fieldAttributes_j157
  rcases st_num hE h with ⟨a1, w, e1, e2, h1⟩ | ⟨u1, v1, e1, e2, h1⟩
  rotate_left
  · have e3 : f_X2_readFields_b31 x1 (nI k) (-1) (0, u1) = some (.inl (.inr u1)) := by
      unfold f_X2_readFields_b31
      rw [if_pos (show (-1 : Int32) ≤ 0 by decide)]
    have e4 : f_X7_fieldAttributes_b7 (nI ty) 0 (0, v1) = some (.inl (.inr v1)) := by
      unfold f_X7_fieldAttributes_b7
      rw [if_pos (show (0 : Int32) ≤ 0 by decide)]
    refine ⟨-1, u1, .inr u1, v1, e1, ?_, ?_, Or.inr (Or.inl ⟨rfl, u1, rfl, h1⟩)⟩
    · rw [show FU = 999999 + 1 from rfl, loopF_s e3]
      rfl
    · simp only [e2, Option.bind_some]
      rw [show FU = 999999 + 1 from rfl, loopF_s e4]
      rfl
  obtain ⟨cnt, hcnt⟩ : ∃ cnt, cnt = w2 b pos := ⟨_, rfl⟩
  rw [← hcnt] at e1 e2 w
  have hne : ¬ nI cnt = (-1 : Int32) := fun z => by
    have := nI_pos (n := cnt) (by omega)
    rw [z] at this
    exact this (by decide)
  have key := loop2 (bx := f_X2_readFields_b31 x1 (nI k) (nI cnt)) (bm := f_X7_fieldAttributes_b7 (nI ty) (nI cnt))
    (fun k x y => ∃ u2 v2 p2, x = (nI k, u2) ∧ y = (nI k, v2) ∧ pos + 2 + 6 * k ≤ p2 ∧ JS True u0 v0 n p2 n 1 n u2 v2 ∧ GX u u2 ∧ GM v v2)
    (fun p q => (∃ u1 v1 pos2, p = .inr u1 ∧ q = .inr v1 ∧ pos + 2 ≤ pos2 ∧ JS True u0 v0 n pos2 n 1 n u1 v1 ∧ GX u u1 ∧ GM v v1) ∨ (∃ u1 v1, p = .inl (0, u1) ∧ (q = .inr v1 ∨ q = .inl v1) ∧ EE True u0 v0 u1 v1)) 400 (by omega) ?_ (x := (nI 0, up u 4 0 (nI (pos + 2)))) (y := (nI 0, up v 3 0 (nI (pos + 2)))) ⟨_, _, _, rfl, rfl, by omega, h1, GX.u4 _ _, GM.u3 _ _⟩
  · obtain ⟨p, q, e3, e4, hr⟩ := key
    have e4 : loopF (f_X7_fieldAttributes_b7 (nI ty) (nI cnt)) FU (0, up v 3 0 (nI (pos + 2))) = some q := e4
    rcases hr with ⟨u1, v1, pos2, rfl, rfl, hp2, hJ, hX, hM⟩ | ⟨u1, v1, rfl, hq, hEE⟩
    · refine ⟨nI cnt, _, _, v1, e1, e3, ?_, Or.inl ⟨hne, u1, pos2, rfl, hp2, hJ, hX, hM⟩⟩
      simp only [e2, Option.bind_some]
      rw [bd_some e4]
      rfl
    · refine ⟨nI cnt, _, _, v1, e1, e3, ?_, Or.inr (Or.inr ⟨u1, rfl, hEE⟩)⟩
      simp only [e2, Option.bind_some]
      rw [bd_some e4]
      rcases hq with rfl | rfl <;> rfl
  clear h1 e1 e2 h
  intro j x y hI
  obtain ⟨u2, v2, p2, rfl, rfl, hp2, h, hX, hM⟩ := hI
  have hpn := h.2.2.1.2.2.2.2.2.2.2.2.2.2.1
  refine ⟨by omega, ?_⟩
  by_cases q : cnt ≤ j
  · left
    have q' : nI cnt ≤ nI j := nI_le q (by omega)
    refine ⟨.inr u2, .inr v2, ?_, ?_, Or.inl ⟨u2, v2, p2, rfl, rfl, by omega, h, hX, hM⟩⟩
    · unfold f_X2_readFields_b31
      rw [if_pos q']
    · unfold f_X7_fieldAttributes_b7
      rw [if_pos q']
  have q' : ¬ nI cnt ≤ nI j := nI_ge (by omega) (by omega)
  have hEx : ∀ (v1 : St), ¬ v1 7 0 = 0 → f_X7_fieldAttributes_b7 (nI ty) (nI cnt) (nI (j + 1), v1) = some (.inl (.inr v1)) := by
    intro v1 hv
    unfold f_X7_fieldAttributes_b7
    simp only [if_neg hv, ite_self]
  have hP2 := hP.g hX hM
  have h24' : u2 24 k = nI hd := by rw [hX 24 (by omega) (by omega) (by omega) (by omega)]; exact h24
  have eX : ∀ {o : Option (((Int32 × St) ⊕ St) ⊕ (Int32 × St))}, f_X2_readFields_b31 x1 (nI k) (nI cnt) (nI j, u2) = o ↔ ((f_X2_readFieldAttribute (nI ty) u2).bind fun q9 => if q9.1 = 0 then some (.inl (.inl (0, q9.2))) else some (.inr (nI (j + 1), q9.2))) = o := by
    intro o
    unfold f_X2_readFields_b31
    simp only [if_neg q', chkN hk (show 51 < 2 ^ 31 by omega), cl_nI (show k < 2 ^ 31 by omega), h24', L4, nI_add, X_u2 (hE.bx h.1) (show hd + 4 + 1 < n by omega), Option.bind_some, ← hty, nI_1]
  have r1 := h.2.2.1.1
  have r5 := h.2.2.1.2.2.2.2.1
  simp only [eX]
  unfold f_X2_readFieldAttribute f_X2_readFieldAttribute_j22 f_X2_readFieldAttribute_j64 f_X7_fieldAttributes_b7
  simp only [if_neg q', h.r0, if_true, r1, r5, c5, cz]
  rcases st_name hE h hP2 with ⟨a2, k1, w1, e3, e4⟩ | ⟨u3, v3, x, e3, e4, h3⟩
  rotate_left
  · left
    simp only [e3, e4, Option.bind_some, if_true, M_lengthAtN h3.n, M_skipN h3.n, h3.nz, if_false]
    exact ⟨_, _, rfl, rfl, Or.inr ⟨_, _, rfl, Or.inr rfl, h3⟩⟩
  have h3 := h.adv (p2 + 2) a2
  rcases st_len hE h3 with ⟨a3, e5, e6, e7, h4⟩ | ⟨u4, L, v4, v5, e5, e6, e7, h4⟩
  rotate_left
  · left
    simp only [e3, e4, e5, e6, e7, Option.bind_some, if_neg n10, if_true, h4.nz, if_false]
    exact ⟨_, _, rfl, rfl, Or.inr ⟨_, _, rfl, Or.inr rfl, h4⟩⟩
  obtain ⟨U, hU⟩ : ∃ U, U = up (up (up u2 4 0 (nI (p2 + 2))) 4 0 (nI (p2 + 2 + 4))) 4 0 (nI (p2 + 2 + 4 + w4 b (p2 + 2))) := ⟨_, rfl⟩
  obtain ⟨V, hV⟩ : ∃ V, V = up (up (up v2 3 0 (nI (p2 + 2))) 3 0 (nI (p2 + 2 + 4))) 3 0 (nI (p2 + 2 + 4 + w4 b (p2 + 2))) := ⟨_, rfl⟩
  have hXU : GX u U := by rw [hU]; exact ((hX.trans (GX.u4 _ _)).trans (GX.u4 _ _)).trans (GX.u4 _ _)
  have hMV : GM v V := by rw [hV]; exact ((hM.trans (GM.u3 _ _)).trans (GM.u3 _ _)).trans (GM.u3 _ _)
  have e30 : (up (up v2 3 0 (nI (p2 + 2))) 3 0 (nI (p2 + 2 + 4))) 3 0 = nI (p2 + 6) := rfl
  simp only [e3, e4, e5, e6, e7, Option.bind_some, if_neg n10, if_true, h4.r0, e30]
  rw [← hU, ← hV]
  have hJ : JS True u0 v0 n (p2 + 2 + 4 + w4 b (p2 + 2)) n 1 n U V := by rw [hU, hV]; exact h4
  clear hU hV h4 e5 e6 e7 e3 e4
  have hQ := hP.g hXU hMV
  have hBX := hE.bx hJ.1
  have hBM := hE.bm hJ.2.1
  have hw4 := w4_lt (i := p2 + 2) hE.by (by omega)
  have fin : ∃ x2 y2, (some (Sum.inr (nI (j + 1), up U 23 5 (U 23 5 + 1))) : Option (((Int32 × St) ⊕ St) ⊕ (Int32 × St))) = some (.inr x2) ∧ f_X7_fieldAttributes_j134_7 (nI ty) (nI cnt) (nI j) V = some (.inr y2) ∧ ∃ u2 v2 p2, x2 = (nI (j + 1), u2) ∧ y2 = (nI (j + 1), v2) ∧ pos + 2 + 6 * (j + 1) ≤ p2 ∧ JS True u0 v0 n p2 n 1 n u2 v2 ∧ GX u u2 ∧ GM v v2 := by
    have h5 := hJ.tal 5 (by omega) (U 23 5 + 1) (V 32 5 + 1) (by rw [hJ.2.2.2.1 5 (by omega) (by omega)])
    refine ⟨_, _, rfl, ?_, _, _, _, rfl, rfl, ?_, h5, hXU.trans (GX.u23 _ _ _), hMV.trans (GM.u32 _ _ _)⟩
    · unfold f_X7_fieldAttributes_j134_7 f_X7_fieldAttributes_j151_7
      simp only [hJ.r0, if_true, c5, cz, nI_1]
    · omega
  simp only [X_u2 hBX (show p2 + 1 < n by omega), Option.bind_some, X_pword2 hQ hBX k1, M_spells_2 (hE.cm hJ.2.1) (hQ.tm hBM k1)]
  by_cases c1 : WD b (pl (w2 b p2) + 3) (tE b pl (w2 b p2)) 2
  rotate_left
  · right; left
    simp only [if_pos (bI_0.mpr c1), Option.bind_some, if_neg n10]
    exact fin
  have c1' : ¬ bI (WD b (pl (w2 b p2) + 3) (tE b pl (w2 b p2)) 2) = 0 := fun z => bI_0.mp z c1
  simp only [if_neg c1', X_constFits hQ hBX ht (show p2 + 6 + w4 b (p2 + 2) ≤ n by omega), Option.bind_some]
  have eM : (if lg_cmp (lN (w4 b (p2 + 2))) 2 = 0 then chk 400 (nI (p2 + 6)) (chk 400 (nI (p2 + 6) + 1) (f_X7_fieldAttributes_j104_7 (nI ty) (nI cnt) (nI j) (nI p2) (lN (w4 b (p2 + 2))) (256 * V 30 (Int32.toNatClampNeg (nI (p2 + 6))) + V 30 (Int32.toNatClampNeg (nI (p2 + 6) + 1))) V)) else f_X7_fieldAttributes_j104_7 (nI ty) (nI cnt) (nI j) (nI p2) (lN (w4 b (p2 + 2))) 0 V) = @ite _ (cfit b kd pl ty p2) (Classical.propDecidable _) (f_X7_fieldAttributes_j134_7 (nI ty) (nI cnt) (nI j) V) (f_X7_fieldAttributes_j125_7 (nI ty) (nI cnt) (nI j) (nI p2) V) := by
    unfold f_X7_fieldAttributes_j104_7
    have l2 : (lg_cmp (lN (w4 b (p2 + 2))) 2 = 0) = (w4 b (p2 + 2) = 2) := propext (lg0 (c := 2) (by omega) (by omega))
    simp only [l2]
    by_cases z : w4 b (p2 + 2) = 2
    · obtain ⟨g1, g2⟩ := hBM.2 (p2 + 6) (by omega)
      obtain ⟨g3, g4⟩ := hBM.2 (p2 + 6 + 1) (by omega)
      have hw6 := w2_lt (i := p2 + 6) hE.by (by omega)
      have ew : (256 : Int32) * nI (b (p2 + 6)) + nI (b (p2 + 6 + 1)) = nI (w2 b (p2 + 6)) := by
        rw [show (256 : Int32) = nI 256 from rfl, pk_mul, nI_add]
        rfl
      simp only [if_pos z, nI_1, chkN (show p2 + 6 < 400 by omega) (show 400 < 2 ^ 31 by omega), chkN (show p2 + 6 + 1 < 400 by omega) (show 400 < 2 ^ 31 by omega), cl_nI (show p2 + 6 < 2 ^ 31 by omega), cl_nI (show p2 + 6 + 1 < 2 ^ 31 by omega), g1, g3, ew, M_constFits hQ hBM ht z hw6, Option.bind_some]
      by_cases y : cfit b kd pl ty p2
      · rw [if_neg (fun t => bI_0.mp t y), if_pos y]
      · rw [if_pos (bI_0.mpr y), if_neg y]
    · rw [if_neg z, if_neg z, if_neg (fun y => z y.1)]
  rw [eM]
  by_cases y : cfit b kd pl ty p2
  · right; left
    have y' : ¬ bI (cfit b kd pl ty p2) = 0 := fun t => bI_0.mp t y
    simp only [if_neg y', if_pos y, Option.bind_some, if_neg n10]
    exact fin
  · right; right
    have h5 := hJ.err (r := 18) (by omega) (by omega) (nI p2)
    have h5z : ¬ (up (up V 7 0 18) 8 0 (nI p2)) 7 0 = 0 := h5.n
    simp only [if_pos (bI_0.mpr y), if_neg y, X_broken, Option.bind_some, bchk_0, if_true]
    refine ⟨_, (nI (j + 1), up (up V 7 0 18) 8 0 (nI p2)), _, rfl, ?_, hEx _ h5z, Or.inr ⟨_, _, rfl, Or.inl rfl, h5⟩⟩
    unfold f_X7_fieldAttributes_j125_7 f_X7_fieldAttributes_j134_7 f_X7_fieldAttributes_j151_7
    simp only [M_fail hJ.z, Option.bind_some, if_neg h5z, nI_1]
/-- fields -/
theorem st_fields {u0 v0 u v : St} {b : Nat → Nat} {n N pos : Nat} {kd pl : Nat → Nat} (hE : EV u0 v0 b n) (h : JS True u0 v0 n pos n 1 n u v) (hP : PQ b n N kd pl u v) (hp : 8 ≤ pos) : ∃ r u1 v1, f_X2_readFields u = some (r, u1) ∧ f_X7_fields v = some v1 ∧ ((r = 1 ∧ ∃ pos2, pos + 2 ≤ pos2 ∧ JS True u0 v0 n pos2 n 1 n u1 v1 ∧ PQ b n N kd pl u1 v1) ∨ (r = 0 ∧ EE True u0 v0 u1 v1)) := by
  have hn := hE.1.1
  have n10 : ¬ (1 : Int32) = 0 := by decide
  have c5 : ∀ {α : Type} {x : Option α}, chk 7 1 x = x := fun {α x} => chkN (k := 1) (by omega) (by omega)
  have cz : Int32.toNatClampNeg 1 = 1 := rfl
  unfold f_X2_readFields f_X2_readFields_j100 f_X7_fields f_X7_fields_j66
  simp only [bchk_0, bchk_1]
  rcases st_num hE h with ⟨a1, w, e1, e2, h1⟩ | ⟨u1, v1, e1, e2, h1⟩
  rotate_left
  · have e3 : f_X2_readFields_b7 (-1) (0, u1) = some (.inl (.inr u1)) := by
      unfold f_X2_readFields_b7
      rw [if_pos (show (-1 : Int32) ≤ 0 by decide)]
    have e4 : f_X7_fields_b7 0 (0, v1) = some (.inl (.inr v1)) := by
      unfold f_X7_fields_b7
      rw [if_pos (show (0 : Int32) ≤ 0 by decide)]
    simp only [e1, e2, Option.bind_some]
    rw [show FU = 999999 + 1 from rfl, loopF_s e3, loopF_s e4]
    simp only [Sum.elim_inl, Sum.elim_inr, Option.bind_some, if_true]
    exact ⟨0, _, _, rfl, rfl, Or.inr ⟨rfl, h1⟩⟩
  obtain ⟨cnt, hcnt⟩ : ∃ cnt, cnt = w2 b pos := ⟨_, rfl⟩
  rw [← hcnt] at e1 e2 w
  have hne : ¬ nI cnt = (-1 : Int32) := fun z => by
    have := nI_pos (n := cnt) (by omega)
    rw [z] at this
    exact this (by decide)
  simp only [e1, e2, Option.bind_some, if_neg hne]
  have key := loop2 (bx := f_X2_readFields_b7 (nI cnt)) (bm := f_X7_fields_b7 (nI cnt))
    (fun k x y => ∃ u2 v2 p2, x = (nI k, u2) ∧ y = (nI k, v2) ∧ pos + 2 + 8 * k ≤ p2 ∧ JS True u0 v0 n p2 n 1 n u2 v2 ∧ PQ b n N kd pl u2 v2 ∧ MB b kd n k u2 v2)
    (fun p q => (∃ u1 v1 pos2, p = .inr u1 ∧ q = .inr v1 ∧ pos + 2 ≤ pos2 ∧ JS True u0 v0 n pos2 n 1 n u1 v1 ∧ PQ b n N kd pl u1 v1) ∨ (∃ u1 v1, p = .inl (0, u1) ∧ q = .inr v1 ∧ EE True u0 v0 u1 v1)) 400 (by omega) ?_ (x := (nI 0, up u 4 0 (nI (pos + 2)))) (y := (nI 0, up v 3 0 (nI (pos + 2)))) ⟨_, _, _, rfl, rfl, by omega, h1, hP, fun i hi => by omega⟩
  · obtain ⟨p, q, e3, e4, hr⟩ := key
    have e3 : loopF (f_X2_readFields_b7 (nI cnt)) FU (0, up u 4 0 (nI (pos + 2))) = some p := e3
    have e4 : loopF (f_X7_fields_b7 (nI cnt)) FU (0, up v 3 0 (nI (pos + 2))) = some q := e4
    rw [bd_some e3, bd_some e4]
    rcases hr with ⟨u1, v1, pos2, rfl, rfl, hp2, hJ, hQ⟩ | ⟨u1, v1, rfl, rfl, hEE⟩
    · exact ⟨1, u1, v1, rfl, rfl, Or.inl ⟨rfl, pos2, hp2, hJ, hQ⟩⟩
    · exact ⟨0, u1, v1, rfl, rfl, Or.inr ⟨rfl, hEE⟩⟩
  clear h1 e1 e2 h hP
  intro k x y hI
  obtain ⟨u, v, p2, rfl, rfl, hp2, h, hP, hM⟩ := hI
  have hpn := h.2.2.1.2.2.2.2.2.2.2.2.2.2.1
  refine ⟨by omega, ?_⟩
  by_cases q : cnt ≤ k
  · left
    have q' : nI cnt ≤ nI k := nI_le q (by omega)
    refine ⟨.inr u, .inr v, ?_, ?_, Or.inl ⟨u, v, p2, rfl, rfl, by omega, h, hP⟩⟩
    · unfold f_X2_readFields_b7
      rw [if_pos q']
    · unfold f_X7_fields_b7
      rw [if_pos q']
  have q' : ¬ nI cnt ≤ nI k := nI_ge (by omega) (by omega)
  have hEx : ∀ (v1 : St), ¬ v1 7 0 = 0 → f_X7_fields_b7 (nI cnt) (nI (k + 1), v1) = some (.inl (.inr v1)) := by
    intro v1 hv
    unfold f_X7_fields_b7
    simp only [if_neg hv, ite_self]
  have j43N : ∀ (v1 : St), ¬ v1 7 0 = 0 → f_X7_fields_j43_7 (nI cnt) (nI k) v1 = some (.inr (nI (k + 1), v1)) := by
    intro v1 hv
    unfold f_X7_fields_j43_7 f_X7_fields_j60_7
    rw [if_neg hv, nI_1]
  unfold f_X2_readFields_b7 f_X7_fields_b7
  simp only [if_neg q', h.r0, if_true, c5, cz, nI_1]
  rcases st_member false hE h hP hM (by omega) with ⟨u1, v1, e3, e4, h1, hP1, hM1, g1, g2, g3⟩ | ⟨u1, v1, e3, e4, h1⟩
  rotate_left
  · right; right
    have e3 : f_X2_readMemberHead (nI k) 0 u = _ := e3
    have e4 : f_X7_member (nI k) 0 v = _ := e4
    simp only [e3, e4, Option.bind_some, if_true, h1.nz, if_false, j43N v1 h1.n]
    exact ⟨_, _, _, rfl, rfl, hEx v1 h1.n, Or.inr ⟨_, _, rfl, rfl, h1⟩⟩
  have e3 : f_X2_readMemberHead (nI k) 0 u = _ := e3
  have e4 : f_X7_member (nI k) 0 v = _ := e4
  have hpn1 := h1.2.2.1.2.2.2.2.2.2.2.2.2.2.1
  simp only [e3, e4, Option.bind_some, if_neg n10, h1.r0, if_true, chkN (show k < 60 by omega) (show 60 < 2 ^ 31 by omega), cl_nI (show k < 2 ^ 31 by omega), g2]
  obtain ⟨c, q1, p, v2, f1, f2, f3, hr⟩ := st_fattrs (k := k) (hd := p2) (nI cnt) hE h1 hP1 (by omega) g1 (by omega) rfl g3
  simp only [f1, f3, Option.bind_some]
  rw [bd_some f2]
  rcases hr with ⟨hc, u2, pos2, rfl, hp3, hJ, hX, hM2⟩ | ⟨hc, u2, rfl, hEE⟩ | ⟨u2, rfl, hEE⟩
  · right; left
    simp only [Sum.elim_inr, if_neg hc]
    have h5 := hJ.tal 1 (by omega) (u2 23 1 + 1) (v2 32 1 + 1) (by rw [hJ.2.2.2.1 1 (by omega) (by omega)])
    have hM3 : MB b kd n (k + 1) u2 v2 := hM1.fr (hX 24 (by omega) (by omega) (by omega) (by omega)) (hM2 38 (by omega) (by omega) (by omega) (by omega)) (hM2 39 (by omega) (by omega) (by omega) (by omega))
    refine ⟨_, _, rfl, ?_, _, _, pos2, rfl, rfl, by omega, h5, hP1.g (hX.trans (GX.u23 _ _ _)) (hM2.trans (GM.u32 _ _ _)), hM3⟩
    unfold f_X7_fields_j43_7 f_X7_fields_j60_7
    simp only [hJ.r0, if_true, c5, cz, nI_1]
  · right; right
    simp only [Sum.elim_inr, if_pos hc]
    exact ⟨_, _, _, rfl, j43N v2 hEE.n, hEx v2 hEE.n, Or.inr ⟨_, _, rfl, rfl, hEE⟩⟩
  · right; right
    simp only [Sum.elim_inl]
    exact ⟨_, _, _, rfl, j43N v2 hEE.n, hEx v2 hEE.n, Or.inr ⟨_, _, rfl, rfl, hEE⟩⟩
