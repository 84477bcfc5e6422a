set_option maxRecDepth 100000 in
set_option maxHeartbeats 4000000 in
theorem c_X6_judge (l : Launch) (D : va_G) (g : Gw) (u : St) (ret : Int32 × St) (h : f_X6_judge u = some ret) : metI l D g (wdX g) yX6_judge cX6_judge 2 .int rm_X6_judge [.ref (g.1 0)] u ret := by
  refine metI_of (own := RX6) (lv := [(0, .ref (g.1 0))]) (by decide) rfl rfl (Nat.le_of_ble_eq_true rfl) (fun K hl9 hD9 X => ?_)
  subst hl9
  subst hD9
  unfold f_X6_judge at h
  refine x_aload_n X dX6_judge_0 rfl 0 rfl ?_
  refine x_get (v := .ref (g.1 2)) X 0 1 in_X6 rfl rfl (by decide) m_X6_21 rfl dX6_judge_1 ?_
  obtain ⟨q1, e1, h⟩ := bd h
  refine x_callI X [] [] (c_X2_run K.l K.D g u q1 e1) ok_X2_run m_X6_59 2 rfl rfl rfl rfl (Nat.le_of_ble_eq_true rfl) ⟨Nat.zero_le _, Nat.zero_le _⟩ ⟨rfl, rfl, by decide, by decide⟩ dX6_judge_4 ?_
  refine x_istore_n (lv2 := [(1, .int q1.1), (0, .ref (g.1 0))]) X dX6_judge_7 rfl (by decide) rfl ?_
  refine x_aload_n X dX6_judge_8 rfl 1 rfl ?_
  refine x_get (v := .ref (g.1 6)) X 0 2 in_X6 rfl rfl (by decide) m_X6_25 rfl dX6_judge_9 ?_
  refine x_iload_n X dX6_judge_12 rfl 0 rfl ?_
  refine x_dup2 X dX6_judge_13 rfl rfl ?_
  obtain ⟨i2, h⟩ := chk_some h
  refine x_iald (f := (q1.2 20)) X 6 0 rfl rfl i2 dX6_judge_14 ?_
  refine x_iconst (v := 1) X dX6_judge_15 (by decide) ?_
  refine x_iadd X dX6_judge_16 ?_
  obtain ⟨i3, h⟩ := chk_some h
  refine x_iast (f := (q1.2 20)) (u2 := (up q1.2 20 (Int32.toNatClampNeg q1.1) (((q1.2 20) (Int32.toNatClampNeg q1.1)) + 1))) X 6 0 rfl rfl i3 (wdX_20 g q1.2 (Int32.toNatClampNeg q1.1) (((q1.2 20) (Int32.toNatClampNeg q1.1)) + 1)) dX6_judge_17 ?_
  refine x_aload_n X dX6_judge_18 rfl 1 rfl ?_
  refine x_dup X dX6_judge_19 rfl ?_
  refine x_get (v := .int (q1.2 0 0)) X 0 4 in_X6 rfl rfl (by decide) m_X6_63 rfl dX6_judge_20 ?_
  refine x_iconst (v := 1) X dX6_judge_23 (by decide) ?_
  refine x_iadd X dX6_judge_24 ?_
  refine x_put (ty := .int) (u2 := (up (up q1.2 20 (Int32.toNatClampNeg q1.1) (((q1.2 20) (Int32.toNatClampNeg q1.1)) + 1)) 0 0 ((q1.2 0 0) + 1))) X 0 4 in_X6 tk_X6 nk_X6 rfl rfl (by decide) m_X6_63 rfl rfl rfl rfl (Nat.le_of_ble_eq_true rfl) (wdX_0 g (up q1.2 20 (Int32.toNatClampNeg q1.1) (((q1.2 20) (Int32.toNatClampNeg q1.1)) + 1)) ((q1.2 0 0) + 1)) dX6_judge_25 ?_
  refine x_iload_n X dX6_judge_28 rfl 0 rfl ?_
  exact x_iret X (Option.some.inj h) dX6_judge_29
set_option maxRecDepth 100000 in
set_option maxHeartbeats 4000000 in
theorem w_X6_place_j27 {K : Cx} {g : Gw} (ret : Int32) (X : XC K g cX6_place 1 RX6 (some .int) rm_X6_place) (z0 : Int32) (u : St) (h : f_X6_place_j27 z0 u = some ret) : XW K 0 0 1 (QI K g (wdX g) (ret, u)) (wdX g) u 27 [] [.int z0] := by
  unfold f_X6_place_j27 at h
  exact x_iret X (roE (Option.some.inj h)) dX6_place_27
set_option maxRecDepth 100000 in
set_option maxHeartbeats 4000000 in
theorem c_X6_place (l : Launch) (D : va_G) (g : Gw) (u : St) (ret : Int32) (h : f_X6_place u = some ret) : metI l D g (wdX g) yX6_place cX6_place 1 .int rm_X6_place [.ref (g.1 0)] u (ret, u) := by
  refine metI_of (own := RX6) (lv := [(0, .ref (g.1 0))]) (by decide) rfl rfl (Nat.le_of_ble_eq_true rfl) (fun K hl9 hD9 X => ?_)
  subst hl9
  subst hD9
  unfold f_X6_place at h
  refine x_aload_n X dX6_place_0 rfl 0 rfl ?_
  refine x_get (v := .ref (g.1 2)) X 0 1 in_X6 rfl rfl (by decide) m_X6_21 rfl dX6_place_1 ?_
  refine x_get (v := .ref (g.1 3)) X 2 0 in_X2 rfl rfl (by decide) m_X6_66 rfl dX6_place_4 ?_
  refine x_get (v := .int (u 2 0)) X 3 1 in_X5 rfl rfl (by decide) m_X6_70 rfl dX6_place_7 ?_
  refine x_if_ne (tgt := 17) X dX6_place_10 (by decide) (fun c1 => ?_) (fun c1 => ?_)
  · replace h := if_f c1 h
    refine x_aload_n X dX6_place_17 rfl 0 rfl ?_
    refine x_get (v := .ref (g.1 2)) X 0 1 in_X6 rfl rfl (by decide) m_X6_21 rfl dX6_place_18 ?_
    refine x_get (v := .ref (g.1 3)) X 2 0 in_X2 rfl rfl (by decide) m_X6_66 rfl dX6_place_21 ?_
    refine x_get (v := .int (u 3 0)) X 3 2 in_X5 rfl rfl (by decide) m_X6_75 rfl dX6_place_24 ?_
    refine x_sub [] rfl ?_
    exact w_X6_place_j27 ret X (u 3 0) u h
  · replace h := if_t c1 h
    refine x_iconst (v := (-1)) X dX6_place_13 (by decide) ?_
    refine x_goto (tgt := 27) X dX6_place_14 (by decide) ?_
    refine x_sub [] rfl ?_
    exact w_X6_place_j27 ret X (-1) u h
abbrev H_X6_shrink_25 (x1 : Int32) (x2 : Int32) (K : Cx) (g : Gw) (ret : Int32 × St) (a : Int32 × St) : Prop := XW K 0 0 5 (QI K g (wdX g) ret) (wdX g) a.2 25 [(0, .ref (g.1 0)), (1, .int x1), (2, .int x2), (3, .int a.1)] []
abbrev E_X6_shrink_25 (x1 : Int32) (x2 : Int32) (K : Cx) (g : Gw) (ret : Int32 × St) (q : (Int32 × St) ⊕ (St)) : Prop := Sum.elim (fun q => q = ret) (fun q => XW K 0 0 5 (QI K g (wdX g) ret) (wdX g) q 142 [(0, .ref (g.1 0)), (1, .int x1)] []) q
abbrev H_X6_shrink_41 (x1 : Int32) (x2 : Int32) (x3 : Int32) (K : Cx) (g : Gw) (ret : Int32 × St) (a : Int32 × St) : Prop := XW K 0 0 5 (QI K g (wdX g) ret) (wdX g) a.2 41 [(0, .ref (g.1 0)), (1, .int x1), (2, .int x2), (3, .int x3), (4, .int a.1)] []
abbrev E_X6_shrink_41 (x1 : Int32) (x2 : Int32) (x3 : Int32) (K : Cx) (g : Gw) (ret : Int32 × St) (q : (Int32 × St) ⊕ (St)) : Prop := Sum.elim (fun q => q = ret) (fun q => XW K 0 0 5 (QI K g (wdX g) ret) (wdX g) q 135 [(0, .ref (g.1 0)), (1, .int x1), (2, .int x2), (3, .int x3)] []) q
set_option maxRecDepth 100000 in
set_option maxHeartbeats 4000000 in
theorem w_X6_shrink_j129_41 {K : Cx} {g : Gw} (ret : Int32 × St) (X : XC K g cX6_shrink 5 RX6 (some .int) rm_X6_shrink) (x1 : Int32) (x2 : Int32) (x3 : Int32) (x4 : Int32) (u : St) (r : ((Int32 × St) ⊕ (St)) ⊕ (Int32 × St)) (h : f_X6_shrink_j129_41 x1 x2 x3 x4 u = some r) (k0 : ∀ q, r = .inl q → E_X6_shrink_41 x1 x2 x3 K g ret q) (k1 : ∀ q, r = .inr q → H_X6_shrink_41 x1 x2 x3 K g ret q) : XW K 0 0 5 (QI K g (wdX g) ret) (wdX g) u 129 [(0, .ref (g.1 0)), (1, .int x1), (2, .int x2), (3, .int x3), (4, .int x4)] [] := by
  unfold f_X6_shrink_j129_41 at h
  refine x_iinc (v := (x4 + (-1))) (lv2 := [(4, .int (x4 + (-1))), (0, .ref (g.1 0)), (1, .int x1), (2, .int x2), (3, .int x3)]) X dX6_shrink_129 4 rfl rfl (by decide) rfl ?_
  refine x_goto (tgt := 41) X dX6_shrink_132 (by decide) ?_
  refine x_sub [1, 2, 3, 4, 0] rfl ?_
  have h9 := k1 _ (Option.some.inj h).symm
  exact h9
set_option maxRecDepth 100000 in
set_option maxHeartbeats 4000000 in
theorem w_X6_shrink_b41 {K : Cx} {g : Gw} (x1 : Int32) (x2 : Int32) (x3 : Int32) (ret : Int32 × St) (X : XC K g cX6_shrink 5 RX6 (some .int) rm_X6_shrink) (a : Int32 × St) (r : ((Int32 × St) ⊕ (St)) ⊕ (Int32 × St)) (h : f_X6_shrink_b41 x1 x2 x3 a = some r) (k0 : ∀ q, r = .inl q → E_X6_shrink_41 x1 x2 x3 K g ret q) (k1 : ∀ q, r = .inr q → H_X6_shrink_41 x1 x2 x3 K g ret q) : H_X6_shrink_41 x1 x2 x3 K g ret a := by
  unfold f_X6_shrink_b41 at h
  show XW K 0 0 5 (QI K g (wdX g) ret) (wdX g) a.2 41 [(0, .ref (g.1 0)), (1, .int x1), (2, .int x2), (3, .int x3), (4, .int a.1)] []
  refine x_iload X dX6_shrink_41 4 rfl ?_
  refine x_if_lt (tgt := 135) X dX6_shrink_43 (by decide) (fun c4 => ?_) (fun c4 => ?_)
  · replace h := if_t c4 h
    refine x_sub [0, 1, 2, 3] rfl ?_
    have h9 := k0 _ (Option.some.inj h).symm
    exact h9
  · replace h := if_f c4 h
    refine x_aload_n X dX6_shrink_46 rfl 0 rfl ?_
    refine x_get (v := .ref (g.1 1)) X 0 0 in_X6 rfl rfl (by decide) m_X6_10 rfl dX6_shrink_47 ?_
    refine x_iload X dX6_shrink_50 4 rfl ?_
    refine x_iload_n X dX6_shrink_52 rfl 3 rfl ?_
    obtain ⟨q5, e5, h⟩ := bd h
    refine x_callR X [.int a.1, .int x3] [] (c_X1_holds K.l K.D g a.1 x3 a.2 q5 e5) ok_X1_holds m_X6_46 1 rfl rfl rfl rfl (Nat.le_of_ble_eq_true rfl) ⟨Nat.zero_le _, Nat.zero_le _⟩ ⟨rfl, rfl, by decide, by decide⟩ dX6_shrink_53 ?_
    refine x_if_ne (tgt := 62) X dX6_shrink_56 (by decide) (fun c6 => ?_) (fun c6 => ?_)
    · replace h := if_f c6 h
      refine x_aload_n X dX6_shrink_62 rfl 0 rfl ?_
      refine x_get (v := .ref (g.1 1)) X 0 0 in_X6 rfl rfl (by decide) m_X6_10 rfl dX6_shrink_63 ?_
      refine x_get (v := .ref (g.1 8)) X 1 0 in_X1 rfl rfl (by decide) m_X6_50 rfl dX6_shrink_66 ?_
      refine x_iload X dX6_shrink_69 4 rfl ?_
      refine x_aload_n X dX6_shrink_71 rfl 0 rfl ?_
      refine x_get (v := .ref (g.1 7)) X 0 3 in_X6 rfl rfl (by decide) m_X6_29 rfl dX6_shrink_72 ?_
      refine x_iconst (v := 0) X dX6_shrink_75 (by decide) ?_
      refine x_iload_n X dX6_shrink_76 rfl 3 rfl ?_
      obtain ⟨i7, h⟩ := cchk_some h
      refine x_copyi (fa := (a.2 22)) (fb := (a.2 21)) (u2 := (upA a.2 21 (va_cpy (a.2 22) (a.2 21) (Int32.toNatClampNeg a.1) (Int32.toNatClampNeg 0) (Int32.toNatClampNeg x3)))) X 8 7 0 0 m_X6_78 m_acn m_acs m_aci rfl rfl rfl rfl i7 (by decide) (Nat.le_of_ble_eq_true rfl) (wdXA_21 g a.2 (va_cpy (a.2 22) (a.2 21) (Int32.toNatClampNeg a.1) (Int32.toNatClampNeg 0) (Int32.toNatClampNeg x3))) dX6_shrink_77 ?_
      refine x_aload_n X dX6_shrink_80 rfl 0 rfl ?_
      refine x_get (v := .ref (g.1 1)) X 0 0 in_X6 rfl rfl (by decide) m_X6_10 rfl dX6_shrink_81 ?_
      refine x_iload X dX6_shrink_84 4 rfl ?_
      refine x_iload_n X dX6_shrink_86 rfl 3 rfl ?_
      obtain ⟨q8, e8, h⟩ := bd h
      refine x_callV X [.int a.1, .int x3] [] (c_X1_close K.l K.D g a.1 x3 (upA a.2 21 (va_cpy (a.2 22) (a.2 21) (Int32.toNatClampNeg a.1) (Int32.toNatClampNeg 0) (Int32.toNatClampNeg x3))) q8 e8) ok_X1_close m_X6_53 1 rfl rfl rfl rfl (Nat.le_of_ble_eq_true rfl) ⟨Nat.zero_le _, Nat.zero_le _⟩ ⟨rfl, rfl, by decide, by decide⟩ dX6_shrink_87 ?_
      refine x_aload_n X dX6_shrink_90 rfl 0 rfl ?_
      refine x_get (v := .ref (g.1 2)) X 0 1 in_X6 rfl rfl (by decide) m_X6_21 rfl dX6_shrink_91 ?_
      obtain ⟨q9, e9, h⟩ := bd h
      refine x_callI X [] [] (c_X2_run K.l K.D g q8 q9 e9) ok_X2_run m_X6_59 2 rfl rfl rfl rfl (Nat.le_of_ble_eq_true rfl) ⟨Nat.zero_le _, Nat.zero_le _⟩ ⟨rfl, rfl, by decide, by decide⟩ dX6_shrink_94 ?_
      refine x_iload_n X dX6_shrink_97 rfl 2 rfl ?_
      refine x_icmp_eq (tgt := 129) X dX6_shrink_98 (by decide) (fun c10 => ?_) (fun c10 => ?_)
      · replace h := if_t c10 h
        exact w_X6_shrink_j129_41 ret X x1 x2 x3 a.1 q9.2 r h k0 k1
      · replace h := if_f c10 h
        refine x_aload_n X dX6_shrink_101 rfl 0 rfl ?_
        refine x_get (v := .ref (g.1 1)) X 0 0 in_X6 rfl rfl (by decide) m_X6_10 rfl dX6_shrink_102 ?_
        refine x_iload X dX6_shrink_105 4 rfl ?_
        refine x_iload_n X dX6_shrink_107 rfl 3 rfl ?_
        obtain ⟨q11, e11, h⟩ := bd h
        refine x_callV X [.int a.1, .int x3] [] (c_X1_open K.l K.D g a.1 x3 q9.2 q11 e11) ok_X1_open m_X6_56 1 rfl rfl rfl rfl (Nat.le_of_ble_eq_true rfl) ⟨Nat.zero_le _, Nat.zero_le _⟩ ⟨rfl, rfl, by decide, by decide⟩ dX6_shrink_108 ?_
        refine x_aload_n X dX6_shrink_111 rfl 0 rfl ?_
        refine x_get (v := .ref (g.1 7)) X 0 3 in_X6 rfl rfl (by decide) m_X6_29 rfl dX6_shrink_112 ?_
        refine x_iconst (v := 0) X dX6_shrink_115 (by decide) ?_
        refine x_aload_n X dX6_shrink_116 rfl 0 rfl ?_
        refine x_get (v := .ref (g.1 1)) X 0 0 in_X6 rfl rfl (by decide) m_X6_10 rfl dX6_shrink_117 ?_
        refine x_get (v := .ref (g.1 8)) X 1 0 in_X1 rfl rfl (by decide) m_X6_50 rfl dX6_shrink_120 ?_
        refine x_iload X dX6_shrink_123 4 rfl ?_
        refine x_iload_n X dX6_shrink_125 rfl 3 rfl ?_
        obtain ⟨i12, h⟩ := cchk_some h
        refine x_copyi (fa := (q11 21)) (fb := (q11 22)) (u2 := (upA q11 22 (va_cpy (q11 21) (q11 22) (Int32.toNatClampNeg 0) (Int32.toNatClampNeg a.1) (Int32.toNatClampNeg x3)))) X 7 8 0 0 m_X6_78 m_acn m_acs m_aci rfl rfl rfl rfl i12 (by decide) (Nat.le_of_ble_eq_true rfl) (wdXA_22 g q11 (va_cpy (q11 21) (q11 22) (Int32.toNatClampNeg 0) (Int32.toNatClampNeg a.1) (Int32.toNatClampNeg x3))) dX6_shrink_126 ?_
        exact w_X6_shrink_j129_41 ret X x1 x2 x3 a.1 (upA q11 22 (va_cpy (q11 21) (q11 22) (Int32.toNatClampNeg 0) (Int32.toNatClampNeg a.1) (Int32.toNatClampNeg x3))) r h k0 k1
    · replace h := if_t c6 h
      refine x_goto (tgt := 129) X dX6_shrink_59 (by decide) ?_
      exact w_X6_shrink_j129_41 ret X x1 x2 x3 a.1 a.2 r h k0 k1
set_option maxRecDepth 100000 in
set_option maxHeartbeats 4000000 in
theorem w_X6_shrink_b25 {K : Cx} {g : Gw} (x1 : Int32) (x2 : Int32) (ret : Int32 × St) (X : XC K g cX6_shrink 5 RX6 (some .int) rm_X6_shrink) (a : Int32 × St) (r : ((Int32 × St) ⊕ (St)) ⊕ (Int32 × St)) (h : f_X6_shrink_b25 x1 x2 a = some r) (k0 : ∀ q, r = .inl q → E_X6_shrink_25 x1 x2 K g ret q) (k1 : ∀ q, r = .inr q → H_X6_shrink_25 x1 x2 K g ret q) : H_X6_shrink_25 x1 x2 K g ret a := by
  unfold f_X6_shrink_b25 at h
  show XW K 0 0 5 (QI K g (wdX g) ret) (wdX g) a.2 25 [(0, .ref (g.1 0)), (1, .int x1), (2, .int x2), (3, .int a.1)] []
  refine x_iload_n X dX6_shrink_25 rfl 3 rfl ?_
  refine x_iconst (v := 1) X dX6_shrink_26 (by decide) ?_
  refine x_icmp_lt (tgt := 142) X dX6_shrink_27 (by decide) (fun c3 => ?_) (fun c3 => ?_)
  · replace h := if_t c3 h
    refine x_sub [0, 1] rfl ?_
    have h9 := k0 _ (Option.some.inj h).symm
    exact h9
  · replace h := if_f c3 h
    refine x_aload_n X dX6_shrink_30 rfl 0 rfl ?_
    refine x_get (v := .ref (g.1 1)) X 0 0 in_X6 rfl rfl (by decide) m_X6_10 rfl dX6_shrink_31 ?_
    refine x_get (v := .int (a.2 1 0)) X 1 1 in_X1 rfl rfl (by decide) m_X6_40 rfl dX6_shrink_34 ?_
    refine x_iload_n X dX6_shrink_37 rfl 3 rfl ?_
    refine x_isub X dX6_shrink_38 ?_
    refine x_istore (lv2 := [(4, .int ((a.2 1 0) - a.1)), (0, .ref (g.1 0)), (1, .int x1), (2, .int x2), (3, .int a.1)]) X dX6_shrink_39 (by decide) rfl ?_
    refine x_sub [1, 2, 3, 4, 0] rfl ?_
    obtain ⟨q130, e13, h⟩ := bd h
    refine loopF_w (WH := H_X6_shrink_41 x1 x2 a.1 K g ret) (KB := E_X6_shrink_41 x1 x2 a.1 K g ret) (fun a9 r9 h9 k8 k7 => w_X6_shrink_b41 x1 x2 a.1 ret X a9 r9 h9 k8 k7) FU (((a.2 1 0) - a.1), a.2) q130 e13 ?_
    rcases q130 with q13 | q13
    · replace h := sl h
      exact (k0 _ (Option.some.inj h).symm)
    · replace h := sr h
      show XW K 0 0 5 (QI K g (wdX g) ret) (wdX g) q13 135 [(0, .ref (g.1 0)), (1, .int x1), (2, .int x2), (3, .int a.1)] []
      refine x_iload_n X dX6_shrink_135 rfl 3 rfl ?_
      refine x_iconst (v := 2) X dX6_shrink_136 (by decide) ?_
      refine x_idiv X dX6_shrink_137 (by decide) ?_
      refine x_istore_n (lv2 := [(3, .int (a.1 / 2)), (0, .ref (g.1 0)), (1, .int x1), (2, .int x2)]) X dX6_shrink_138 rfl (by decide) rfl ?_
      refine x_goto (tgt := 25) X dX6_shrink_139 (by decide) ?_
      refine x_sub [1, 2, 3, 0] rfl ?_
      have h9 := k1 _ (Option.some.inj h).symm
      exact h9
set_option maxRecDepth 100000 in
set_option maxHeartbeats 4000000 in
theorem c_X6_shrink (l : Launch) (D : va_G) (g : Gw) (u : St) (ret : Int32 × St) (h : f_X6_shrink u = some ret) : metI l D g (wdX g) yX6_shrink cX6_shrink 5 .int rm_X6_shrink [.ref (g.1 0)] u ret := by
  refine metI_of (own := RX6) (lv := [(0, .ref (g.1 0))]) (by decide) rfl rfl (Nat.le_of_ble_eq_true rfl) (fun K hl9 hD9 X => ?_)
  subst hl9
  subst hD9
  unfold f_X6_shrink at h
  refine x_aload_n X dX6_shrink_0 rfl 0 rfl ?_
  refine x_get (v := .ref (g.1 1)) X 0 0 in_X6 rfl rfl (by decide) m_X6_10 rfl dX6_shrink_1 ?_
  refine x_get (v := .int (u 1 0)) X 1 1 in_X1 rfl rfl (by decide) m_X6_40 rfl dX6_shrink_4 ?_
  refine x_istore_n (lv2 := [(1, .int (u 1 0)), (0, .ref (g.1 0))]) X dX6_shrink_7 rfl (by decide) rfl ?_
  refine x_aload_n X dX6_shrink_8 rfl 1 rfl ?_
  refine x_get (v := .ref (g.1 2)) X 0 1 in_X6 rfl rfl (by decide) m_X6_21 rfl dX6_shrink_9 ?_
  obtain ⟨q1, e1, h⟩ := bd h
  refine x_callI X [] [] (c_X2_run K.l K.D g u q1 e1) ok_X2_run m_X6_59 2 rfl rfl rfl rfl (Nat.le_of_ble_eq_true rfl) ⟨Nat.zero_le _, Nat.zero_le _⟩ ⟨rfl, rfl, by decide, by decide⟩ dX6_shrink_12 ?_
  refine x_istore_n (lv2 := [(2, .int q1.1), (1, .int (u 1 0)), (0, .ref (g.1 0))]) X dX6_shrink_15 rfl (by decide) rfl ?_
  refine x_iload_n X dX6_shrink_16 rfl 0 rfl ?_
  refine x_if_ne (tgt := 22) X dX6_shrink_17 (by decide) (fun c2 => ?_) (fun c2 => ?_)
  · replace h := if_f c2 h
    refine x_bipush (v := 32) X dX6_shrink_22 (by decide) ?_
    refine x_istore_n (lv2 := [(3, .int 32), (2, .int q1.1), (1, .int (u 1 0)), (0, .ref (g.1 0))]) X dX6_shrink_24 rfl (by decide) rfl ?_
    refine x_sub [3, 2, 1, 0] rfl ?_
    obtain ⟨q140, e14, h⟩ := bd h
    refine loopF_w (WH := H_X6_shrink_25 (u 1 0) q1.1 K g ret) (KB := E_X6_shrink_25 (u 1 0) q1.1 K g ret) (fun a9 r9 h9 k8 k7 => w_X6_shrink_b25 (u 1 0) q1.1 ret X a9 r9 h9 k8 k7) FU (32, q1.2) q140 e14 ?_
    rcases q140 with q14 | q14
    · replace h := sl h
      exact (Option.some.inj h)
    · replace h := sr h
      show XW K 0 0 5 (QI K g (wdX g) ret) (wdX g) q14 142 [(0, .ref (g.1 0)), (1, .int (u 1 0))] []
      refine x_aload_n X dX6_shrink_142 rfl 0 rfl ?_
      refine x_get (v := .ref (g.1 2)) X 0 1 in_X6 rfl rfl (by decide) m_X6_21 rfl dX6_shrink_143 ?_
      obtain ⟨q15, e15, h⟩ := bd h
      refine x_callI X [] [] (c_X2_run K.l K.D g q14 q15 e15) ok_X2_run m_X6_59 2 rfl rfl rfl rfl (Nat.le_of_ble_eq_true rfl) ⟨Nat.zero_le _, Nat.zero_le _⟩ ⟨rfl, rfl, by decide, by decide⟩ dX6_shrink_146 ?_
      refine x_pop X dX6_shrink_149 rfl ?_
      refine x_iload_n X dX6_shrink_150 rfl 1 rfl ?_
      refine x_aload_n X dX6_shrink_151 rfl 0 rfl ?_
      refine x_get (v := .ref (g.1 1)) X 0 0 in_X6 rfl rfl (by decide) m_X6_10 rfl dX6_shrink_152 ?_
      refine x_get (v := .int (q15.2 1 0)) X 1 1 in_X1 rfl rfl (by decide) m_X6_40 rfl dX6_shrink_155 ?_
      refine x_isub X dX6_shrink_158 ?_
      exact x_iret X (Option.some.inj h) dX6_shrink_159
  · replace h := if_t c2 h
    refine x_iconst (v := 0) X dX6_shrink_20 (by decide) ?_
    exact x_iret X (Option.some.inj h) dX6_shrink_21
set_option maxRecDepth 100000 in
set_option maxHeartbeats 4000000 in
theorem w_X6_at_j25 {K : Cx} {g : Gw} (ret : Int32) (X : XC K g cX6_at 2 RX6 (some .int) rm_X6_at) (z0 : Int32) (u : St) (h : f_X6_at_j25 z0 u = some ret) : XW K 0 0 2 (QI K g (wdX g) (ret, u)) (wdX g) u 25 [] [.int z0] := by
  unfold f_X6_at_j25 at h
  exact x_iret X (roE (Option.some.inj h)) dX6_at_25
set_option maxRecDepth 100000 in
set_option maxHeartbeats 4000000 in
theorem c_X6_at (l : Launch) (D : va_G) (g : Gw) (p0 : Int32) (u : St) (ret : Int32) (h : f_X6_at p0 u = some ret) : metI l D g (wdX g) yX6_at cX6_at 2 .int rm_X6_at [.ref (g.1 0), .int p0] u (ret, u) := by
  refine metI_of (own := RX6) (lv := [(0, .ref (g.1 0)), (1, .int p0)]) (by decide) rfl rfl (Nat.le_of_ble_eq_true rfl) (fun K hl9 hD9 X => ?_)
  subst hl9
  subst hD9
  unfold f_X6_at at h
  refine x_aload_n X dX6_at_0 rfl 0 rfl ?_
  refine x_get (v := .ref (g.1 1)) X 0 0 in_X6 rfl rfl (by decide) m_X6_10 rfl dX6_at_1 ?_
  refine x_iload_n X dX6_at_4 rfl 1 rfl ?_
  refine x_iconst (v := 1) X dX6_at_5 (by decide) ?_
  obtain ⟨q1, e1, h⟩ := bd h
  refine x_callR X [.int p0, .int 1] [] (c_X1_holds K.l K.D g p0 1 u q1 e1) ok_X1_holds m_X6_46 1 rfl rfl rfl rfl (Nat.le_of_ble_eq_true rfl) ⟨Nat.zero_le _, Nat.zero_le _⟩ ⟨rfl, rfl, by decide, by decide⟩ dX6_at_6 ?_
  refine x_if_eq (tgt := 24) X dX6_at_9 (by decide) (fun c2 => ?_) (fun c2 => ?_)
  · replace h := if_t c2 h
    refine x_iconst (v := (-1)) X dX6_at_24 (by decide) ?_
    refine x_sub [] rfl ?_
    exact w_X6_at_j25 ret X (-1) u h
  · replace h := if_f c2 h
    refine x_aload_n X dX6_at_12 rfl 0 rfl ?_
    refine x_get (v := .ref (g.1 1)) X 0 0 in_X6 rfl rfl (by decide) m_X6_10 rfl dX6_at_13 ?_
    refine x_get (v := .ref (g.1 8)) X 1 0 in_X1 rfl rfl (by decide) m_X6_50 rfl dX6_at_16 ?_
    refine x_iload_n X dX6_at_19 rfl 1 rfl ?_
    obtain ⟨i3, h⟩ := chk_some h
    refine x_iald (f := (u 22)) X 8 0 rfl rfl i3 dX6_at_20 ?_
    refine x_goto (tgt := 25) X dX6_at_21 (by decide) ?_
    refine x_sub [] rfl ?_
    exact w_X6_at_j25 ret X ((u 22) (Int32.toNatClampNeg p0)) u h
set_option maxRecDepth 100000 in
set_option maxHeartbeats 4000000 in
theorem w_X6_read_j10 {K : Cx} {g : Gw} (ret : Int32) (X : XC K g cX6_read 2 RX6 (some .int) rm_X6_read) (u : St) (h : f_X6_read_j10 u = some ret) : XW K 0 0 2 (QI K g (wdX g) (ret, u)) (wdX g) u 10 [] [] := by
  unfold f_X6_read_j10 at h
  refine x_iconst (v := (-1)) X dX6_read_10 (by decide) ?_
  exact x_iret X (roE (Option.some.inj h)) dX6_read_11
set_option maxRecDepth 100000 in
set_option maxHeartbeats 4000000 in
theorem c_X6_read (l : Launch) (D : va_G) (g : Gw) (p0 : Int32) (u : St) (ret : Int32) (h : f_X6_read p0 u = some ret) : metI l D g (wdX g) yX6_read cX6_read 2 .int rm_X6_read [.ref (g.1 0), .int p0] u (ret, u) := by
  refine metI_of (own := RX6) (lv := [(0, .ref (g.1 0)), (1, .int p0)]) (by decide) rfl rfl (Nat.le_of_ble_eq_true rfl) (fun K hl9 hD9 X => ?_)
  subst hl9
  subst hD9
  unfold f_X6_read at h
  refine x_iload_n X dX6_read_0 rfl 1 rfl ?_
  refine x_if_lt (tgt := 10) X dX6_read_1 (by decide) (fun c1 => ?_) (fun c1 => ?_)
  · replace h := if_t c1 h
    refine x_sub [] rfl ?_
    exact w_X6_read_j10 ret X u h
  · replace h := if_f c1 h
    refine x_iload_n X dX6_read_4 rfl 1 rfl ?_
    refine x_bipush (v := 7) X dX6_read_5 (by decide) ?_
    refine x_icmp_lt (tgt := 12) X dX6_read_7 (by decide) (fun c2 => ?_) (fun c2 => ?_)
    · replace h := if_t c2 h
      refine x_aload_n X dX6_read_12 rfl 0 rfl ?_
      refine x_get (v := .ref (g.1 2)) X 0 1 in_X6 rfl rfl (by decide) m_X6_21 rfl dX6_read_13 ?_
      refine x_get (v := .ref (g.1 9)) X 2 1 in_X2 rfl rfl (by decide) m_X6_84 rfl dX6_read_16 ?_
      refine x_iload_n X dX6_read_19 rfl 1 rfl ?_
      obtain ⟨i3, h⟩ := chk_some h
      refine x_iald (f := (u 23)) X 9 0 rfl rfl i3 dX6_read_20 ?_
      exact x_iret X (roE (Option.some.inj h)) dX6_read_21
    · replace h := if_f c2 h
      refine x_sub [] rfl ?_
      exact w_X6_read_j10 ret X u h
set_option maxRecDepth 100000 in
set_option maxHeartbeats 4000000 in
theorem w_X6_found_j20 {K : Cx} {g : Gw} (ret : Int32) (X : XC K g cX6_found 2 RX6 (some .int) rm_X6_found) (z0 : Int32) (u : St) (h : f_X6_found_j20 z0 u = some ret) : XW K 0 0 2 (QI K g (wdX g) (ret, u)) (wdX g) u 20 [] [.int z0] := by
  unfold f_X6_found_j20 at h
  exact x_iret X (roE (Option.some.inj h)) dX6_found_20
set_option maxRecDepth 100000 in
set_option maxHeartbeats 4000000 in
theorem w_X6_found_j10 {K : Cx} {g : Gw} (ret : Int32) (X : XC K g cX6_found 2 RX6 (some .int) rm_X6_found) (u : St) (h : f_X6_found_j10 u = some ret) : XW K 0 0 2 (QI K g (wdX g) (ret, u)) (wdX g) u 10 [] [] := by
  unfold f_X6_found_j10 at h
  refine x_iconst (v := (-1)) X dX6_found_10 (by decide) ?_
  refine x_goto (tgt := 20) X dX6_found_11 (by decide) ?_
  exact w_X6_found_j20 ret X (-1) u h
set_option maxRecDepth 100000 in
set_option maxHeartbeats 4000000 in
theorem c_X6_found (l : Launch) (D : va_G) (g : Gw) (p0 : Int32) (u : St) (ret : Int32) (h : f_X6_found p0 u = some ret) : metI l D g (wdX g) yX6_found cX6_found 2 .int rm_X6_found [.ref (g.1 0), .int p0] u (ret, u) := by
  refine metI_of (own := RX6) (lv := [(0, .ref (g.1 0)), (1, .int p0)]) (by decide) rfl rfl (Nat.le_of_ble_eq_true rfl) (fun K hl9 hD9 X => ?_)
  subst hl9
  subst hD9
  unfold f_X6_found at h
  refine x_iload_n X dX6_found_0 rfl 1 rfl ?_
  refine x_if_lt (tgt := 10) X dX6_found_1 (by decide) (fun c1 => ?_) (fun c1 => ?_)
  · replace h := if_t c1 h
    refine x_sub [] rfl ?_
    exact w_X6_found_j10 ret X u h
  · replace h := if_f c1 h
    refine x_iload_n X dX6_found_4 rfl 1 rfl ?_
    refine x_bipush (v := 28) X dX6_found_5 (by decide) ?_
    refine x_icmp_le (tgt := 14) X dX6_found_7 (by decide) (fun c2 => ?_) (fun c2 => ?_)
    · replace h := if_t c2 h
      refine x_aload_n X dX6_found_14 rfl 0 rfl ?_
      refine x_get (v := .ref (g.1 6)) X 0 2 in_X6 rfl rfl (by decide) m_X6_25 rfl dX6_found_15 ?_
      refine x_iload_n X dX6_found_18 rfl 1 rfl ?_
      obtain ⟨i3, h⟩ := chk_some h
      refine x_iald (f := (u 20)) X 6 0 rfl rfl i3 dX6_found_19 ?_
      refine x_sub [] rfl ?_
      exact w_X6_found_j20 ret X ((u 20) (Int32.toNatClampNeg p0)) u h
    · replace h := if_f c2 h
      refine x_sub [] rfl ?_
      exact w_X6_found_j10 ret X u h
abbrev H_X6_rulesFound_4 (K : Cx) (g : Gw) (u : St) (ret : Int32) (a : Int32 × Int32) : Prop := XW K 0 0 3 (QI K g (wdX g) (ret, u)) (wdX g) u 4 [(0, .ref (g.1 0)), (1, .int a.1), (2, .int a.2)] []
abbrev E_X6_rulesFound_4 (K : Cx) (g : Gw) (u : St) (ret : Int32) (q : (Int32) ⊕ (Int32)) : Prop := Sum.elim (fun q => q = ret) (fun q => XW K 0 0 3 (QI K g (wdX g) (ret, u)) (wdX g) u 28 [(1, .int q)] []) q
set_option maxRecDepth 100000 in
set_option maxHeartbeats 4000000 in
theorem w_X6_rulesFound_j22_4 {K : Cx} {g : Gw} (ret : Int32) (X : XC K g cX6_rulesFound 3 RX6 (some .int) rm_X6_rulesFound) (x1 : Int32) (x2 : Int32) (u : St) (r : ((Int32) ⊕ (Int32)) ⊕ (Int32 × Int32)) (h : f_X6_rulesFound_j22_4 x1 x2 u = some r) (k0 : ∀ q, r = .inl q → E_X6_rulesFound_4 K g u ret q) (k1 : ∀ q, r = .inr q → H_X6_rulesFound_4 K g u ret q) : XW K 0 0 3 (QI K g (wdX g) (ret, u)) (wdX g) u 22 [(0, .ref (g.1 0)), (1, .int x1), (2, .int x2)] [] := by
  unfold f_X6_rulesFound_j22_4 at h
  refine x_iinc (v := (x2 + 1)) (lv2 := [(2, .int (x2 + 1)), (0, .ref (g.1 0)), (1, .int x1)]) X dX6_rulesFound_22 2 rfl rfl (by decide) rfl ?_
  refine x_goto (tgt := 4) X dX6_rulesFound_25 (by decide) ?_
  refine x_sub [1, 2, 0] rfl ?_
  have h9 := k1 _ (Option.some.inj h).symm
  exact h9
set_option maxRecDepth 100000 in
set_option maxHeartbeats 4000000 in
theorem w_X6_rulesFound_b4 {K : Cx} {g : Gw} (u : St) (ret : Int32) (X : XC K g cX6_rulesFound 3 RX6 (some .int) rm_X6_rulesFound) (a : Int32 × Int32) (r : ((Int32) ⊕ (Int32)) ⊕ (Int32 × Int32)) (h : f_X6_rulesFound_b4 u a = some r) (k0 : ∀ q, r = .inl q → E_X6_rulesFound_4 K g u ret q) (k1 : ∀ q, r = .inr q → H_X6_rulesFound_4 K g u ret q) : H_X6_rulesFound_4 K g u ret a := by
  unfold f_X6_rulesFound_b4 at h
  show XW K 0 0 3 (QI K g (wdX g) (ret, u)) (wdX g) u 4 [(0, .ref (g.1 0)), (1, .int a.1), (2, .int a.2)] []
  refine x_iload_n X dX6_rulesFound_4 rfl 2 rfl ?_
  refine x_bipush (v := 28) X dX6_rulesFound_5 (by decide) ?_
  refine x_icmp_gt (tgt := 28) X dX6_rulesFound_7 (by decide) (fun c1 => ?_) (fun c1 => ?_)
  · replace h := if_t c1 h
    refine x_sub [1] rfl ?_
    have h9 := k0 _ (Option.some.inj h).symm
    exact h9
  · replace h := if_f c1 h
    refine x_aload_n X dX6_rulesFound_10 rfl 0 rfl ?_
    refine x_get (v := .ref (g.1 6)) X 0 2 in_X6 rfl rfl (by decide) m_X6_25 rfl dX6_rulesFound_11 ?_
    refine x_iload_n X dX6_rulesFound_14 rfl 2 rfl ?_
    obtain ⟨i2, h⟩ := chk_some h
    refine x_iald (f := (u 20)) X 6 0 rfl rfl i2 dX6_rulesFound_15 ?_
    refine x_if_le (tgt := 22) X dX6_rulesFound_16 (by decide) (fun c3 => ?_) (fun c3 => ?_)
    · replace h := if_t c3 h
      exact w_X6_rulesFound_j22_4 ret X a.1 a.2 u r h k0 k1
    · replace h := if_f c3 h
      refine x_iinc (v := (a.1 + 1)) (lv2 := [(1, .int (a.1 + 1)), (0, .ref (g.1 0)), (2, .int a.2)]) X dX6_rulesFound_19 1 rfl rfl (by decide) rfl ?_
      refine x_sub [1, 0, 2] rfl ?_
      exact w_X6_rulesFound_j22_4 ret X (a.1 + 1) a.2 u r h k0 k1
set_option maxRecDepth 100000 in
set_option maxHeartbeats 4000000 in
theorem c_X6_rulesFound (l : Launch) (D : va_G) (g : Gw) (u : St) (ret : Int32) (h : f_X6_rulesFound u = some ret) : metI l D g (wdX g) yX6_rulesFound cX6_rulesFound 3 .int rm_X6_rulesFound [.ref (g.1 0)] u (ret, u) := by
  refine metI_of (own := RX6) (lv := [(0, .ref (g.1 0))]) (by decide) rfl rfl (Nat.le_of_ble_eq_true rfl) (fun K hl9 hD9 X => ?_)
  subst hl9
  subst hD9
  unfold f_X6_rulesFound at h
  refine x_iconst (v := 0) X dX6_rulesFound_0 (by decide) ?_
  refine x_istore_n (lv2 := [(1, .int 0), (0, .ref (g.1 0))]) X dX6_rulesFound_1 rfl (by decide) rfl ?_
  refine x_iconst (v := 1) X dX6_rulesFound_2 (by decide) ?_
  refine x_istore_n (lv2 := [(2, .int 1), (1, .int 0), (0, .ref (g.1 0))]) X dX6_rulesFound_3 rfl (by decide) rfl ?_
  refine x_sub [2, 1, 0] rfl ?_
  obtain ⟨q40, e4, h⟩ := bd h
  refine loopF_w (WH := H_X6_rulesFound_4 K g u ret) (KB := E_X6_rulesFound_4 K g u ret) (fun a9 r9 h9 k8 k7 => w_X6_rulesFound_b4 u ret X a9 r9 h9 k8 k7) FU (0, 1) q40 e4 ?_
  rcases q40 with q4 | q4
  · replace h := sl h
    exact (Option.some.inj h)
  · replace h := sr h
    show XW K 0 0 3 (QI K g (wdX g) (ret, u)) (wdX g) u 28 [(1, .int q4)] []
    refine x_iload_n X dX6_rulesFound_28 rfl 0 rfl ?_
    exact x_iret X (roE (Option.some.inj h)) dX6_rulesFound_29
set_option maxRecDepth 100000 in
set_option maxHeartbeats 4000000 in
theorem c_X6_count (l : Launch) (D : va_G) (g : Gw) (p0 : Int32) (u : St) (ret : Int32) (h : f_X6_count p0 u = some ret) : metI l D g (wdX g) yX6_count cX6_count 2 .int rm_X6_count [.ref (g.1 0), .int p0] u (ret, u) := by
  refine metI_of (own := RX6) (lv := [(0, .ref (g.1 0)), (1, .int p0)]) (by decide) rfl rfl (Nat.le_of_ble_eq_true rfl) (fun K hl9 hD9 X => ?_)
  subst hl9
  subst hD9
  unfold f_X6_count at h
  refine x_iload_n X dX6_count_0 rfl 1 rfl ?_
  by_cases c1_0 : p0 = 0
  · replace h := if_t c1_0 h
    have k9 : XW K 0 0 2 (QI K g (wdX g) (ret, u)) (wdX g) u 28 [(0, .ref (g.1 0)), (1, .int p0)] [] := by
      refine x_aload_n X dX6_count_28 rfl 0 rfl ?_
      refine x_get (v := .ref (g.1 1)) X 0 0 in_X6 rfl rfl (by decide) m_X6_10 rfl dX6_count_29 ?_
      refine x_get (v := .int (u 1 0)) X 1 1 in_X1 rfl rfl (by decide) m_X6_40 rfl dX6_count_32 ?_
      exact x_iret X (roE (Option.some.inj h)) dX6_count_35
    exact x_tableIn (off := 27) (tgt := 28) X dX6_count_1 (by rw [c1_0]; decide) (by rw [c1_0]; decide) (by rw [c1_0]; decide) (by decide) k9
  replace h := if_f c1_0 h
  by_cases c1_1 : p0 = 1
  · replace h := if_t c1_1 h
    have k9 : XW K 0 0 2 (QI K g (wdX g) (ret, u)) (wdX g) u 36 [(0, .ref (g.1 0)), (1, .int p0)] [] := by
      refine x_aload_n X dX6_count_36 rfl 0 rfl ?_
      obtain ⟨q2, e2, h⟩ := bd h
      refine x_callR X [] [] (c_X6_rulesFound K.l K.D g u q2 e2) ok_X6_rulesFound m_X6_87 0 rfl rfl rfl rfl (Nat.le_of_ble_eq_true rfl) ⟨Nat.zero_le _, Nat.zero_le _⟩ ⟨rfl, rfl, by decide, by decide⟩ dX6_count_37 ?_
      exact x_iret X (roE (Option.some.inj h)) dX6_count_40
    exact x_tableIn (off := 35) (tgt := 36) X dX6_count_1 (by rw [c1_1]; decide) (by rw [c1_1]; decide) (by rw [c1_1]; decide) (by decide) k9
  replace h := if_f c1_1 h
  by_cases c1_2 : p0 = 2
  · replace h := if_t c1_2 h
    have k9 : XW K 0 0 2 (QI K g (wdX g) (ret, u)) (wdX g) u 41 [(0, .ref (g.1 0)), (1, .int p0)] [] := by
      refine x_aload_n X dX6_count_41 rfl 0 rfl ?_
      refine x_get (v := .int (u 0 0)) X 0 4 in_X6 rfl rfl (by decide) m_X6_63 rfl dX6_count_42 ?_
      exact x_iret X (roE (Option.some.inj h)) dX6_count_45
    exact x_tableIn (off := 40) (tgt := 41) X dX6_count_1 (by rw [c1_2]; decide) (by rw [c1_2]; decide) (by rw [c1_2]; decide) (by decide) k9
  replace h := if_f c1_2 h
  have k9 : XW K 0 0 2 (QI K g (wdX g) (ret, u)) (wdX g) u 46 [(0, .ref (g.1 0)), (1, .int p0)] [] := by
    refine x_iconst (v := (-1)) X dX6_count_46 (by decide) ?_
    exact x_iret X (roE (Option.some.inj h)) dX6_count_47
  have n1_0 := lv_neT (a := 0) c1_0 (by decide)
  have n1_1 := lv_neT (a := 1) c1_1 (by decide)
  have n1_2 := lv_neT (a := 2) c1_2 (by decide)
  exact x_tableOut (tgt := 46) X dX6_count_1 (by omega) (by decide) k9
