abbrev H_X7_walk_2 (K : Cx) (g : Gw) (ret : St) (a : Int32 × St) : Prop := XW K 0 0 3 (QV K g (wdM g) ret) (wdM g) a.2 2 [(0, .ref (g.1 0)), (1, .int a.1)] []
abbrev E_X7_walk_2 (K : Cx) (g : Gw) (ret : St) (q : (St) ⊕ (St)) : Prop := Sum.elim (fun q => q = ret) (fun q => XW K 0 0 3 (QV K g (wdM g) ret) (wdM g) q 21 [(0, .ref (g.1 0))] []) q
set_option maxRecDepth 100000 in
set_option maxHeartbeats 4000000 in
theorem w_X7_walk_b2 {K : Cx} {g : Gw} (ret : St) (X : XC K g cX7_walk 3 RX7 none rm_X7_walk) (a : Int32 × St) (r : ((St) ⊕ (St)) ⊕ (Int32 × St)) (h : f_X7_walk_b2 a = some r) (k0 : ∀ q, r = .inl q → E_X7_walk_2 K g ret q) (k1 : ∀ q, r = .inr q → H_X7_walk_2 K g ret q) : H_X7_walk_2 K g ret a := by
  unfold f_X7_walk_b2 at h
  show XW K 0 0 3 (QV K g (wdM g) ret) (wdM g) a.2 2 [(0, .ref (g.1 0)), (1, .int a.1)] []
  refine x_iload_n X dX7_walk_2 rfl 1 rfl ?_
  refine x_bipush (v := 65) X dX7_walk_3 (by decide) ?_
  refine x_icmp_ge (tgt := 21) X dX7_walk_5 (by decide) (fun c1 => ?_) (fun c1 => ?_)
  · replace h := if_t c1 h
    refine x_sub [0] rfl ?_
    have h9 := k0 _ (Option.some.inj h).symm
    exact h9
  · replace h := if_f c1 h
    refine x_aload_n X dX7_walk_8 rfl 0 rfl ?_
    refine x_get (v := .ref (g.1 11)) X 0 20 in_X7 rfl rfl (by decide) m_X7_40 rfl dX7_walk_9 ?_
    refine x_iload_n X dX7_walk_12 rfl 1 rfl ?_
    refine x_iconst (v := 0) X dX7_walk_13 (by decide) ?_
    obtain ⟨i2, h⟩ := chk_some h
    refine x_zast (f := (a.2 40)) (u2 := (up a.2 40 (Int32.toNatClampNeg a.1) (vp_nar .boolean 0))) X 11 1 rfl rfl i2 (wdM_40 g a.2 (Int32.toNatClampNeg a.1) (vp_nar .boolean 0)) dX7_walk_14 ?_
    refine x_iinc (v := (a.1 + 1)) (lv2 := [(1, .int (a.1 + 1)), (0, .ref (g.1 0))]) X dX7_walk_15 1 rfl rfl (by decide) rfl ?_
    refine x_goto (tgt := 2) X dX7_walk_18 (by decide) ?_
    refine x_sub [1, 0] rfl ?_
    have h9 := k1 _ (Option.some.inj h).symm
    exact h9
abbrev H_X7_walk_28 (K : Cx) (g : Gw) (ret : St) (a : Int32 × St) : Prop := XW K 0 0 3 (QV K g (wdM g) ret) (wdM g) a.2 28 [(0, .ref (g.1 0)), (1, .int a.1)] []
abbrev E_X7_walk_28 (K : Cx) (g : Gw) (ret : St) (q : (St) ⊕ (St)) : Prop := Sum.elim (fun q => q = ret) (fun q => XW K 0 0 3 (QV K g (wdM g) ret) (wdM g) q 129 [] []) q
set_option maxRecDepth 100000 in
set_option maxHeartbeats 4000000 in
theorem w_X7_walk_j100_28 {K : Cx} {g : Gw} (ret : St) (X : XC K g cX7_walk 3 RX7 none rm_X7_walk) (x1 : Int32) (x2 : Int32) (u : St) (r : ((St) ⊕ (St)) ⊕ (Int32 × St)) (h : f_X7_walk_j100_28 x1 x2 u = some r) (k0 : ∀ q, r = .inl q → E_X7_walk_28 K g ret q) (k1 : ∀ q, r = .inr q → H_X7_walk_28 K g ret q) : XW K 0 0 3 (QV K g (wdM g) ret) (wdM g) u 100 [(0, .ref (g.1 0)), (1, .int x1), (2, .int x2)] [] := by
  unfold f_X7_walk_j100_28 at h
  refine x_aload_n X dX7_walk_100 rfl 0 rfl ?_
  refine x_get (v := .ref (g.1 11)) X 0 20 in_X7 rfl rfl (by decide) m_X7_40 rfl dX7_walk_101 ?_
  refine x_iload_n X dX7_walk_104 rfl 1 rfl ?_
  refine x_iconst (v := 1) X dX7_walk_105 (by decide) ?_
  obtain ⟨i9, h⟩ := chk_some h
  refine x_zast (f := (u 40)) (u2 := (up u 40 (Int32.toNatClampNeg x1) (vp_nar .boolean 1))) X 11 1 rfl rfl i9 (wdM_40 g u (Int32.toNatClampNeg x1) (vp_nar .boolean 1)) dX7_walk_106 ?_
  refine x_aload_n X dX7_walk_107 rfl 0 rfl ?_
  refine x_iload_n X dX7_walk_108 rfl 1 rfl ?_
  refine x_put (ty := .int) (u2 := (up (up u 40 (Int32.toNatClampNeg x1) (vp_nar .boolean 1)) 16 0 x1)) X 0 27 in_X7 tk_X7 nk_X7 rfl rfl (by decide) m_X7_250 rfl rfl rfl rfl (Nat.le_of_ble_eq_true rfl) (wdM_16 g (up u 40 (Int32.toNatClampNeg x1) (vp_nar .boolean 1)) x1) dX7_walk_109 ?_
  refine x_aload_n X dX7_walk_112 rfl 0 rfl ?_
  refine x_dup X dX7_walk_113 rfl ?_
  refine x_get (v := .int (u 15 0)) X 0 26 in_X7 rfl rfl (by decide) m_X7_226 rfl dX7_walk_114 ?_
  refine x_iconst (v := 1) X dX7_walk_117 (by decide) ?_
  refine x_iadd X dX7_walk_118 ?_
  refine x_put (ty := .int) (u2 := (up (up (up u 40 (Int32.toNatClampNeg x1) (vp_nar .boolean 1)) 16 0 x1) 15 0 ((u 15 0) + 1))) X 0 26 in_X7 tk_X7 nk_X7 rfl rfl (by decide) m_X7_226 rfl rfl rfl rfl (Nat.le_of_ble_eq_true rfl) (wdM_15 g (up (up u 40 (Int32.toNatClampNeg x1) (vp_nar .boolean 1)) 16 0 x1) ((u 15 0) + 1)) dX7_walk_119 ?_
  refine x_iload_n X dX7_walk_122 rfl 1 rfl ?_
  refine x_iload_n X dX7_walk_123 rfl 2 rfl ?_
  refine x_iadd X dX7_walk_124 ?_
  refine x_istore_n (lv2 := [(1, .int (x1 + x2)), (0, .ref (g.1 0)), (2, .int x2)]) X dX7_walk_125 rfl (by decide) rfl ?_
  refine x_goto (tgt := 28) X dX7_walk_126 (by decide) ?_
  refine x_sub [1, 0] rfl ?_
  have h9 := k1 _ (Option.some.inj h).symm
  exact h9
set_option maxRecDepth 100000 in
set_option maxHeartbeats 4000000 in
theorem w_X7_walk_j63_28 {K : Cx} {g : Gw} (ret : St) (X : XC K g cX7_walk 3 RX7 none rm_X7_walk) (x1 : Int32) (x2 : Int32) (u : St) (r : ((St) ⊕ (St)) ⊕ (Int32 × St)) (h : f_X7_walk_j63_28 x1 x2 u = some r) (k0 : ∀ q, r = .inl q → E_X7_walk_28 K g ret q) (k1 : ∀ q, r = .inr q → H_X7_walk_28 K g ret q) : XW K 0 0 3 (QV K g (wdM g) ret) (wdM g) u 63 [(0, .ref (g.1 0)), (1, .int x1), (2, .int x2)] [] := by
  unfold f_X7_walk_j63_28 at h
  refine x_aload_n X dX7_walk_63 rfl 0 rfl ?_
  refine x_bipush (v := 23) X dX7_walk_64 (by decide) ?_
  refine x_aload_n X dX7_walk_66 rfl 0 rfl ?_
  refine x_get (v := .int (u 10 0)) X 0 21 in_X7 rfl rfl (by decide) m_X7_209 rfl dX7_walk_67 ?_
  refine x_iload_n X dX7_walk_70 rfl 1 rfl ?_
  refine x_iadd X dX7_walk_71 ?_
  obtain ⟨q8, e8, h⟩ := bd h
  refine x_callI X [.int 23, .int ((u 10 0) + x1)] [] (c_X7_fail K.l K.D g 23 ((u 10 0) + x1) u q8 e8) ok_X7_fail m_X7_89 0 rfl rfl rfl rfl (Nat.le_of_ble_eq_true rfl) ⟨Nat.zero_le _, Nat.zero_le _⟩ ⟨rfl, rfl, by decide, by decide⟩ dX7_walk_72 ?_
  refine x_pop X dX7_walk_75 rfl ?_
  refine x_goto (tgt := 100) X dX7_walk_76 (by decide) ?_
  exact w_X7_walk_j100_28 ret X x1 x2 q8.2 r h k0 k1
set_option maxRecDepth 100000 in
set_option maxHeartbeats 4000000 in
theorem w_X7_walk_b28 {K : Cx} {g : Gw} (ret : St) (X : XC K g cX7_walk 3 RX7 none rm_X7_walk) (a : Int32 × St) (r : ((St) ⊕ (St)) ⊕ (Int32 × St)) (h : f_X7_walk_b28 a = some r) (k0 : ∀ q, r = .inl q → E_X7_walk_28 K g ret q) (k1 : ∀ q, r = .inr q → H_X7_walk_28 K g ret q) : H_X7_walk_28 K g ret a := by
  unfold f_X7_walk_b28 at h
  show XW K 0 0 3 (QV K g (wdM g) ret) (wdM g) a.2 28 [(0, .ref (g.1 0)), (1, .int a.1)] []
  refine x_iload_n X dX7_walk_28 rfl 1 rfl ?_
  refine x_aload_n X dX7_walk_29 rfl 0 rfl ?_
  refine x_get (v := .int (a.2 11 0)) X 0 22 in_X7 rfl rfl (by decide) m_X7_206 rfl dX7_walk_30 ?_
  refine x_icmp_ge (tgt := 129) X dX7_walk_33 (by decide) (fun c4 => ?_) (fun c4 => ?_)
  · replace h := if_t c4 h
    refine x_sub [] rfl ?_
    have h9 := k0 _ (Option.some.inj h).symm
    exact h9
  · replace h := if_f c4 h
    refine x_aload_n X dX7_walk_36 rfl 0 rfl ?_
    refine x_get (v := .int (a.2 7 0)) X 0 9 in_X7 rfl rfl (by decide) m_X7_71 rfl dX7_walk_37 ?_
    refine x_if_ne (tgt := 129) X dX7_walk_40 (by decide) (fun c5 => ?_) (fun c5 => ?_)
    · replace h := if_f c5 h
      refine x_sub [] rfl ?_
      have h9 := k0 _ (Option.some.inj h).symm
      exact h9
    · replace h := if_t c5 h
      refine x_aload_n X dX7_walk_43 rfl 0 rfl ?_
      refine x_iload_n X dX7_walk_44 rfl 1 rfl ?_
      obtain ⟨q6, e6, h⟩ := bd h
      refine x_callR X [.int a.1] [] (c_X7_size K.l K.D g a.1 a.2 q6 e6) ok_X7_size m_X7_244 0 rfl rfl rfl rfl (Nat.le_of_ble_eq_true rfl) ⟨Nat.zero_le _, Nat.zero_le _⟩ ⟨rfl, rfl, by decide, by decide⟩ dX7_walk_45 ?_
      refine x_istore_n (lv2 := [(2, .int q6), (0, .ref (g.1 0)), (1, .int a.1)]) X dX7_walk_48 rfl (by decide) rfl ?_
      refine x_iload_n X dX7_walk_49 rfl 0 rfl ?_
      refine x_if_lt (tgt := 63) X dX7_walk_50 (by decide) (fun c7 => ?_) (fun c7 => ?_)
      · replace h := if_t c7 h
        refine x_sub [1, 2, 0] rfl ?_
        exact w_X7_walk_j63_28 ret X a.1 q6 a.2 r h k0 k1
      · replace h := if_f c7 h
        refine x_iload_n X dX7_walk_53 rfl 2 rfl ?_
        refine x_iload_n X dX7_walk_54 rfl 0 rfl ?_
        refine x_iadd X dX7_walk_55 ?_
        refine x_aload_n X dX7_walk_56 rfl 1 rfl ?_
        refine x_get (v := .int (a.2 11 0)) X 0 22 in_X7 rfl rfl (by decide) m_X7_206 rfl dX7_walk_57 ?_
        refine x_icmp_le (tgt := 79) X dX7_walk_60 (by decide) (fun c10 => ?_) (fun c10 => ?_)
        · replace h := if_t c10 h
          refine x_aload_n X dX7_walk_79 rfl 1 rfl ?_
          refine x_iload_n X dX7_walk_80 rfl 2 rfl ?_
          obtain ⟨q11, e11, h⟩ := bd h
          refine x_callR X [.int a.1] [] (c_X7_operandFits K.l K.D g a.1 a.2 q11 e11) ok_X7_operandFits m_X7_247 0 rfl rfl rfl rfl (Nat.le_of_ble_eq_true rfl) ⟨Nat.zero_le _, Nat.zero_le _⟩ ⟨rfl, rfl, by decide, by decide⟩ dX7_walk_81 ?_
          refine x_if_ne (tgt := 100) X dX7_walk_84 (by decide) (fun c12 => ?_) (fun c12 => ?_)
          · replace h := if_f c12 h
            refine x_sub [1, 2, 0] rfl ?_
            exact w_X7_walk_j100_28 ret X a.1 q6 a.2 r h k0 k1
          · replace h := if_t c12 h
            refine x_aload_n X dX7_walk_87 rfl 1 rfl ?_
            refine x_bipush (v := 24) X dX7_walk_88 (by decide) ?_
            refine x_aload_n X dX7_walk_90 rfl 1 rfl ?_
            refine x_get (v := .int (a.2 10 0)) X 0 21 in_X7 rfl rfl (by decide) m_X7_209 rfl dX7_walk_91 ?_
            refine x_iload_n X dX7_walk_94 rfl 2 rfl ?_
            refine x_iadd X dX7_walk_95 ?_
            obtain ⟨q13, e13, h⟩ := bd h
            refine x_callI X [.int 24, .int ((a.2 10 0) + a.1)] [] (c_X7_fail K.l K.D g 24 ((a.2 10 0) + a.1) a.2 q13 e13) ok_X7_fail m_X7_89 0 rfl rfl rfl rfl (Nat.le_of_ble_eq_true rfl) ⟨Nat.zero_le _, Nat.zero_le _⟩ ⟨rfl, rfl, by decide, by decide⟩ dX7_walk_96 ?_
            refine x_pop X dX7_walk_99 rfl ?_
            refine x_sub [1, 2, 0] rfl ?_
            exact w_X7_walk_j100_28 ret X a.1 q6 q13.2 r h k0 k1
        · replace h := if_f c10 h
          refine x_sub [1, 2, 0] rfl ?_
          exact w_X7_walk_j63_28 ret X a.1 q6 a.2 r h k0 k1
set_option maxRecDepth 100000 in
set_option maxHeartbeats 4000000 in
theorem w_X7_walk_j129 {K : Cx} {g : Gw} (ret : St) (X : XC K g cX7_walk 3 RX7 none rm_X7_walk) (u : St) (h : f_X7_walk_j129 u = some ret) : XW K 0 0 3 (QV K g (wdM g) ret) (wdM g) u 129 [] [] := by
  unfold f_X7_walk_j129 at h
  exact x_vret X (Option.some.inj h) dX7_walk_129
set_option maxRecDepth 100000 in
set_option maxHeartbeats 4000000 in
theorem c_X7_walk (l : Launch) (D : va_G) (g : Gw) (u : St) (ret : St) (h : f_X7_walk u = some ret) : metV l D g (wdM g) yX7_walk cX7_walk 3 rm_X7_walk [.ref (g.1 0)] u ret := by
  refine metV_of (own := RX7) (lv := [(0, .ref (g.1 0))]) (by decide) rfl rfl (Nat.le_of_ble_eq_true rfl) (fun K hl9 hD9 X => ?_)
  subst hl9
  subst hD9
  unfold f_X7_walk at h
  refine x_iconst (v := 0) X dX7_walk_0 (by decide) ?_
  refine x_istore_n (lv2 := [(1, .int 0), (0, .ref (g.1 0))]) X dX7_walk_1 rfl (by decide) rfl ?_
  refine x_sub [1, 0] rfl ?_
  obtain ⟨q30, e3, h⟩ := bd h
  refine loopF_w (WH := H_X7_walk_2 K g ret) (KB := E_X7_walk_2 K g ret) (fun a9 r9 h9 k8 k7 => w_X7_walk_b2 ret X a9 r9 h9 k8 k7) FU (0, u) q30 e3 ?_
  rcases q30 with q3 | q3
  · replace h := sl h
    exact (Option.some.inj h)
  · replace h := sr h
    show XW K 0 0 3 (QV K g (wdM g) ret) (wdM g) q3 21 [(0, .ref (g.1 0))] []
    refine x_aload_n X dX7_walk_21 rfl 0 rfl ?_
    refine x_iconst (v := 0) X dX7_walk_22 (by decide) ?_
    refine x_put (ty := .int) (u2 := (up q3 15 0 0)) X 0 26 in_X7 tk_X7 nk_X7 rfl rfl (by decide) m_X7_226 rfl rfl rfl rfl (Nat.le_of_ble_eq_true rfl) (wdM_15 g q3 0) dX7_walk_23 ?_
    refine x_iconst (v := 0) X dX7_walk_26 (by decide) ?_
    refine x_istore_n (lv2 := [(1, .int 0), (0, .ref (g.1 0))]) X dX7_walk_27 rfl (by decide) rfl ?_
    refine x_sub [1, 0] rfl ?_
    obtain ⟨q140, e14, h⟩ := bd h
    refine loopF_w (WH := H_X7_walk_28 K g ret) (KB := E_X7_walk_28 K g ret) (fun a9 r9 h9 k8 k7 => w_X7_walk_b28 ret X a9 r9 h9 k8 k7) FU (0, (up q3 15 0 0)) q140 e14 ?_
    rcases q140 with q14 | q14
    · replace h := sl h
      exact (Option.some.inj h)
    · replace h := sr h
      show XW K 0 0 3 (QV K g (wdM g) ret) (wdM g) q14 129 [] []
      exact w_X7_walk_j129 ret X q14 h
set_option maxRecDepth 100000 in
set_option maxHeartbeats 4000000 in
theorem w_X7_isStart_j31 {K : Cx} {g : Gw} (ret : Int32) (X : XC K g cX7_isStart 3 RX7 (some .boolean) rm_X7_isStart) (z0 : Int32) (u : St) (h : f_X7_isStart_j31 z0 u = some ret) : XW K 0 0 3 (QI K g (wdM g) (ret, u)) (wdM g) u 31 [] [.int z0] := by
  unfold f_X7_isStart_j31 at h
  obtain ⟨b2, h⟩ := bchk_some h
  exact x_zret X b2 (roE (Option.some.inj h)) dX7_isStart_31
set_option maxRecDepth 100000 in
set_option maxHeartbeats 4000000 in
theorem w_X7_isStart_j30 {K : Cx} {g : Gw} (ret : Int32) (X : XC K g cX7_isStart 3 RX7 (some .boolean) rm_X7_isStart) (u : St) (h : f_X7_isStart_j30 u = some ret) : XW K 0 0 3 (QI K g (wdM g) (ret, u)) (wdM g) u 30 [] [] := by
  unfold f_X7_isStart_j30 at h
  refine x_iconst (v := 0) X dX7_isStart_30 (by decide) ?_
  exact w_X7_isStart_j31 ret X 0 u h
set_option maxRecDepth 100000 in
set_option maxHeartbeats 4000000 in
theorem c_X7_isStart (l : Launch) (D : va_G) (g : Gw) (p0 : Int64) (u : St) (ret : Int32) (h : f_X7_isStart p0 u = some ret) : metI l D g (wdM g) yX7_isStart cX7_isStart 3 .boolean rm_X7_isStart [.ref (g.1 0), .long p0] u (ret, u) := by
  refine metI_of (own := RX7) (lv := [(0, .ref (g.1 0)), (1, .long p0)]) (by decide) rfl rfl (Nat.le_of_ble_eq_true rfl) (fun K hl9 hD9 X => ?_)
  subst hl9
  subst hD9
  unfold f_X7_isStart at h
  refine x_lload_n X dX7_isStart_0 rfl 1 rfl ?_
  refine x_lconst (v := 0) X dX7_isStart_1 (by decide) ?_
  refine x_lcmp X dX7_isStart_2 ?_
  refine x_if_lt (tgt := 30) X dX7_isStart_3 (by decide) (fun c1 => ?_) (fun c1 => ?_)
  · replace h := if_t c1 h
    refine x_sub [] rfl ?_
    exact w_X7_isStart_j30 ret X u h
  · replace h := if_f c1 h
    refine x_lload_n X dX7_isStart_6 rfl 1 rfl ?_
    refine x_aload_n X dX7_isStart_7 rfl 0 rfl ?_
    refine x_get (v := .int (u 11 0)) X 0 22 in_X7 rfl rfl (by decide) m_X7_206 rfl dX7_isStart_8 ?_
    refine x_i2l X dX7_isStart_11 ?_
    refine x_lcmp X dX7_isStart_12 ?_
    refine x_if_ge (tgt := 30) X dX7_isStart_13 (by decide) (fun c3 => ?_) (fun c3 => ?_)
    · replace h := if_t c3 h
      refine x_sub [] rfl ?_
      exact w_X7_isStart_j30 ret X u h
    · replace h := if_f c3 h
      refine x_aload_n X dX7_isStart_16 rfl 0 rfl ?_
      refine x_get (v := .ref (g.1 11)) X 0 20 in_X7 rfl rfl (by decide) m_X7_40 rfl dX7_isStart_17 ?_
      refine x_lload_n X dX7_isStart_20 rfl 1 rfl ?_
      refine x_l2i X dX7_isStart_21 ?_
      obtain ⟨i4, h⟩ := chk_some h
      refine x_zald (f := (u 40)) X 11 1 rfl rfl i4 dX7_isStart_22 ?_
      refine x_if_eq (tgt := 30) X dX7_isStart_23 (by decide) (fun c5 => ?_) (fun c5 => ?_)
      · replace h := if_t c5 h
        refine x_sub [] rfl ?_
        exact w_X7_isStart_j30 ret X u h
      · replace h := if_f c5 h
        refine x_iconst (v := 1) X dX7_isStart_26 (by decide) ?_
        refine x_goto (tgt := 31) X dX7_isStart_27 (by decide) ?_
        refine x_sub [] rfl ?_
        exact w_X7_isStart_j31 ret X 1 u h
set_option maxRecDepth 100000 in
set_option maxHeartbeats 4000000 in
theorem w_X7_jumpsFit_j20 {K : Cx} {g : Gw} (ret : Int32) (X : XC K g cX7_jumpsFit 7 RX7 (some .boolean) rm_X7_jumpsFit) (x1 : Int32) (u : St) (h : f_X7_jumpsFit_j20 x1 u = some ret) : XW K 0 0 7 (QI K g (wdM g) (ret, u)) (wdM g) u 20 [(0, .ref (g.1 0)), (1, .int x1)] [] := by
  unfold f_X7_jumpsFit_j20 at h
  refine x_aload_n X dX7_jumpsFit_20 rfl 0 rfl ?_
  refine x_iload_n X dX7_jumpsFit_21 rfl 1 rfl ?_
  refine x_aload_n X dX7_jumpsFit_22 rfl 0 rfl ?_
  refine x_iload_n X dX7_jumpsFit_23 rfl 1 rfl ?_
  refine x_iconst (v := 1) X dX7_jumpsFit_24 (by decide) ?_
  refine x_iadd X dX7_jumpsFit_25 ?_
  obtain ⟨q3, e3, h⟩ := bd h
  refine x_callR X [.int (x1 + 1)] [.int x1, .ref (g.1 0)] (c_X7_shortAt K.l K.D g (x1 + 1) u q3 e3) ok_X7_shortAt m_X7_233 0 rfl rfl rfl rfl (Nat.le_of_ble_eq_true rfl) ⟨Nat.zero_le _, Nat.zero_le _⟩ ⟨rfl, rfl, by decide, by decide⟩ dX7_jumpsFit_26 ?_
  refine x_i2s X dX7_jumpsFit_29 ?_
  refine x_iadd X dX7_jumpsFit_30 ?_
  refine x_i2l X dX7_jumpsFit_31 ?_
  obtain ⟨q4, e4, h⟩ := bd h
  refine x_callR X [.long ((x1 + (q3.toInt16.toInt32)).toInt64)] [] (c_X7_isStart K.l K.D g ((x1 + (q3.toInt16.toInt32)).toInt64) u q4 e4) ok_X7_isStart m_X7_253 0 rfl rfl rfl rfl (Nat.le_of_ble_eq_true rfl) ⟨Nat.zero_le _, Nat.zero_le _⟩ ⟨rfl, rfl, by decide, by decide⟩ dX7_jumpsFit_32 ?_
  obtain ⟨b5, h⟩ := bchk_some h
  exact x_zret X b5 (roE (Option.some.inj h)) dX7_jumpsFit_35
abbrev H_X7_jumpsFit_88 (x1 : Int32) (x3 : Int32) (x4 : Int32) (K : Cx) (g : Gw) (u : St) (ret : Int32) (a : Int32 × Int32) : Prop := XW K 0 0 7 (QI K g (wdM g) (ret, u)) (wdM g) u 88 [(0, .ref (g.1 0)), (1, .int x1), (3, .int x3), (4, .int x4), (5, .int a.1), (6, .int a.2)] []
abbrev E_X7_jumpsFit_88 (x1 : Int32) (x3 : Int32) (x4 : Int32) (K : Cx) (g : Gw) (u : St) (ret : Int32) (q : (Int32) ⊕ (Int32)) : Prop := Sum.elim (fun q => q = ret) (fun q => XW K 0 0 7 (QI K g (wdM g) (ret, u)) (wdM g) u 128 [(5, .int q)] []) q
set_option maxRecDepth 100000 in
set_option maxHeartbeats 4000000 in
theorem w_X7_jumpsFit_j122_88 {K : Cx} {g : Gw} (ret : Int32) (X : XC K g cX7_jumpsFit 7 RX7 (some .boolean) rm_X7_jumpsFit) (x1 : Int32) (x3 : Int32) (x4 : Int32) (x5 : Int32) (x6 : Int32) (u : St) (r : ((Int32) ⊕ (Int32)) ⊕ (Int32 × Int32)) (h : f_X7_jumpsFit_j122_88 x1 x3 x4 x5 x6 u = some r) (k0 : ∀ q, r = .inl q → E_X7_jumpsFit_88 x1 x3 x4 K g u ret q) (k1 : ∀ q, r = .inr q → H_X7_jumpsFit_88 x1 x3 x4 K g u ret q) : XW K 0 0 7 (QI K g (wdM g) (ret, u)) (wdM g) u 122 [(0, .ref (g.1 0)), (1, .int x1), (3, .int x3), (4, .int x4), (5, .int x5), (6, .int x6)] [] := by
  unfold f_X7_jumpsFit_j122_88 at h
  refine x_iinc (v := (x6 + 1)) (lv2 := [(6, .int (x6 + 1)), (0, .ref (g.1 0)), (1, .int x1), (3, .int x3), (4, .int x4), (5, .int x5)]) X dX7_jumpsFit_122 5 rfl rfl (by decide) rfl ?_
  refine x_goto (tgt := 88) X dX7_jumpsFit_125 (by decide) ?_
  refine x_sub [1, 2, 3, 4, 5, 0] rfl ?_
  have h9 := k1 _ (Option.some.inj h).symm
  exact h9
set_option maxRecDepth 100000 in
set_option maxHeartbeats 4000000 in
theorem w_X7_jumpsFit_b88 {K : Cx} {g : Gw} (x1 : Int32) (x3 : Int32) (x4 : Int32) (u : St) (ret : Int32) (X : XC K g cX7_jumpsFit 7 RX7 (some .boolean) rm_X7_jumpsFit) (a : Int32 × Int32) (r : ((Int32) ⊕ (Int32)) ⊕ (Int32 × Int32)) (h : f_X7_jumpsFit_b88 x1 x3 x4 u a = some r) (k0 : ∀ q, r = .inl q → E_X7_jumpsFit_88 x1 x3 x4 K g u ret q) (k1 : ∀ q, r = .inr q → H_X7_jumpsFit_88 x1 x3 x4 K g u ret q) : H_X7_jumpsFit_88 x1 x3 x4 K g u ret a := by
  unfold f_X7_jumpsFit_b88 at h
  show XW K 0 0 7 (QI K g (wdM g) (ret, u)) (wdM g) u 88 [(0, .ref (g.1 0)), (1, .int x1), (3, .int x3), (4, .int x4), (5, .int a.1), (6, .int a.2)] []
  refine x_iload X dX7_jumpsFit_88 5 rfl ?_
  refine x_iload X dX7_jumpsFit_90 3 rfl ?_
  refine x_icmp_ge (tgt := 128) X dX7_jumpsFit_92 (by decide) (fun c13 => ?_) (fun c13 => ?_)
  · replace h := if_t c13 h
    refine x_sub [4] rfl ?_
    have h9 := k0 _ (Option.some.inj h).symm
    exact h9
  · replace h := if_f c13 h
    refine x_aload_n X dX7_jumpsFit_95 rfl 0 rfl ?_
    refine x_iload_n X dX7_jumpsFit_96 rfl 1 rfl ?_
    refine x_i2l X dX7_jumpsFit_97 ?_
    refine x_aload_n X dX7_jumpsFit_98 rfl 0 rfl ?_
    refine x_iload_n X dX7_jumpsFit_99 rfl 2 rfl ?_
    refine x_bipush (v := 12) X dX7_jumpsFit_100 (by decide) ?_
    refine x_iadd X dX7_jumpsFit_102 ?_
    refine x_iconst (v := 4) X dX7_jumpsFit_103 (by decide) ?_
    refine x_iload X dX7_jumpsFit_104 5 rfl ?_
    refine x_imul X dX7_jumpsFit_106 ?_
    refine x_iadd X dX7_jumpsFit_107 ?_
    obtain ⟨q14, e14, h⟩ := bd h
    refine x_callR X [.int ((x3 + 12) + (4 * a.2))] [.long (x1.toInt64), .ref (g.1 0)] (c_X7_wordAt K.l K.D g ((x3 + 12) + (4 * a.2)) u q14 e14) ok_X7_wordAt m_X7_239 0 rfl rfl rfl rfl (Nat.le_of_ble_eq_true rfl) ⟨Nat.zero_le _, Nat.zero_le _⟩ ⟨rfl, rfl, by decide, by decide⟩ dX7_jumpsFit_108 ?_
    refine x_i2l X dX7_jumpsFit_111 ?_
    refine x_ladd X dX7_jumpsFit_112 ?_
    obtain ⟨q15, e15, h⟩ := bd h
    refine x_callR X [.long ((x1.toInt64) + (q14.toInt64))] [] (c_X7_isStart K.l K.D g ((x1.toInt64) + (q14.toInt64)) u q15 e15) ok_X7_isStart m_X7_253 0 rfl rfl rfl rfl (Nat.le_of_ble_eq_true rfl) ⟨Nat.zero_le _, Nat.zero_le _⟩ ⟨rfl, rfl, by decide, by decide⟩ dX7_jumpsFit_113 ?_
    refine x_if_ne (tgt := 122) X dX7_jumpsFit_116 (by decide) (fun c16 => ?_) (fun c16 => ?_)
    · replace h := if_f c16 h
      exact w_X7_jumpsFit_j122_88 ret X x1 x3 x4 a.1 a.2 u r h k0 k1
    · replace h := if_t c16 h
      refine x_iconst (v := 0) X dX7_jumpsFit_119 (by decide) ?_
      refine x_istore (lv2 := [(5, .int 0), (0, .ref (g.1 0)), (1, .int x1), (3, .int x3), (4, .int x4), (6, .int a.2)]) X dX7_jumpsFit_120 (by decide) rfl ?_
      refine x_sub [1, 2, 3, 4, 0, 5] rfl ?_
      exact w_X7_jumpsFit_j122_88 ret X x1 x3 x4 0 a.2 u r h k0 k1
set_option maxRecDepth 100000 in
set_option maxHeartbeats 4000000 in
theorem c_X7_jumpsFit (l : Launch) (D : va_G) (g : Gw) (p0 : Int32) (u : St) (ret : Int32) (h : f_X7_jumpsFit p0 u = some ret) : metI l D g (wdM g) yX7_jumpsFit cX7_jumpsFit 7 .boolean rm_X7_jumpsFit [.ref (g.1 0), .int p0] u (ret, u) := by
  refine metI_of (own := RX7) (lv := [(0, .ref (g.1 0)), (1, .int p0)]) (by decide) rfl rfl (Nat.le_of_ble_eq_true rfl) (fun K hl9 hD9 X => ?_)
  subst hl9
  subst hD9
  unfold f_X7_jumpsFit at h
  refine x_aload_n X dX7_jumpsFit_0 rfl 0 rfl ?_
  refine x_iload_n X dX7_jumpsFit_1 rfl 1 rfl ?_
  obtain ⟨q1, e1, h⟩ := bd h
  refine x_callR X [.int p0] [] (c_X7_byteAt K.l K.D g p0 u q1 e1) ok_X7_byteAt m_X7_229 0 rfl rfl rfl rfl (Nat.le_of_ble_eq_true rfl) ⟨Nat.zero_le _, Nat.zero_le _⟩ ⟨rfl, rfl, by decide, by decide⟩ dX7_jumpsFit_2 ?_
  refine x_istore_n (lv2 := [(2, .int q1), (0, .ref (g.1 0)), (1, .int p0)]) X dX7_jumpsFit_5 rfl (by decide) rfl ?_
  refine x_iload_n X dX7_jumpsFit_6 rfl 0 rfl ?_
  refine x_sipush (v := 153) X dX7_jumpsFit_7 (by decide) ?_
  refine x_icmp_eq (tgt := 20) X dX7_jumpsFit_10 (by decide) (fun c2 => ?_) (fun c2 => ?_)
  · replace h := if_t c2 h
    refine x_sub [1, 2] rfl ?_
    exact w_X7_jumpsFit_j20 ret X p0 u h
  · replace h := if_f c2 h
    refine x_iload_n X dX7_jumpsFit_13 rfl 0 rfl ?_
    refine x_sipush (v := 167) X dX7_jumpsFit_14 (by decide) ?_
    refine x_icmp_ne (tgt := 36) X dX7_jumpsFit_17 (by decide) (fun c6 => ?_) (fun c6 => ?_)
    · replace h := if_f c6 h
      refine x_iload_n X dX7_jumpsFit_36 rfl 0 rfl ?_
      refine x_sipush (v := 170) X dX7_jumpsFit_37 (by decide) ?_
      refine x_icmp_eq (tgt := 45) X dX7_jumpsFit_40 (by decide) (fun c7 => ?_) (fun c7 => ?_)
      · replace h := if_t c7 h
        refine x_iload_n X dX7_jumpsFit_45 rfl 2 rfl ?_
        obtain ⟨q8, e8, h⟩ := bd h
        refine x_scallR X [.int p0] [] (c_X7_tableAt K.l K.D g p0 u q8 e8) ok_X7_tableAt m_X7_236 rfl rfl (Nat.le_of_ble_eq_true rfl) ⟨Nat.zero_le _, Nat.zero_le _⟩ ⟨rfl, rfl, by decide, by decide⟩ dX7_jumpsFit_46 ?_
        refine x_istore_n (lv2 := [(3, .int q8), (2, .int q1), (0, .ref (g.1 0)), (1, .int p0)]) X dX7_jumpsFit_49 rfl (by decide) rfl ?_
        refine x_aload_n X dX7_jumpsFit_50 rfl 2 rfl ?_
        refine x_iload_n X dX7_jumpsFit_51 rfl 0 rfl ?_
        refine x_bipush (v := 8) X dX7_jumpsFit_52 (by decide) ?_
        refine x_iadd X dX7_jumpsFit_54 ?_
        obtain ⟨q9, e9, h⟩ := bd h
        refine x_callR X [.int (q8 + 8)] [] (c_X7_wordAt K.l K.D g (q8 + 8) u q9 e9) ok_X7_wordAt m_X7_239 0 rfl rfl rfl rfl (Nat.le_of_ble_eq_true rfl) ⟨Nat.zero_le _, Nat.zero_le _⟩ ⟨rfl, rfl, by decide, by decide⟩ dX7_jumpsFit_55 ?_
        refine x_aload_n X dX7_jumpsFit_58 rfl 2 rfl ?_
        refine x_iload_n X dX7_jumpsFit_59 rfl 0 rfl ?_
        refine x_iconst (v := 4) X dX7_jumpsFit_60 (by decide) ?_
        refine x_iadd X dX7_jumpsFit_61 ?_
        obtain ⟨q10, e10, h⟩ := bd h
        refine x_callR X [.int (q8 + 4)] [.int q9] (c_X7_wordAt K.l K.D g (q8 + 4) u q10 e10) ok_X7_wordAt m_X7_239 0 rfl rfl rfl rfl (Nat.le_of_ble_eq_true rfl) ⟨Nat.zero_le _, Nat.zero_le _⟩ ⟨rfl, rfl, by decide, by decide⟩ dX7_jumpsFit_62 ?_
        refine x_isub X dX7_jumpsFit_65 ?_
        refine x_iconst (v := 1) X dX7_jumpsFit_66 (by decide) ?_
        refine x_iadd X dX7_jumpsFit_67 ?_
        refine x_istore (lv2 := [(4, .int ((q9 - q10) + 1)), (3, .int q8), (2, .int q1), (0, .ref (g.1 0)), (1, .int p0)]) X dX7_jumpsFit_68 (by decide) rfl ?_
        refine x_aload_n X dX7_jumpsFit_70 rfl 3 rfl ?_
        refine x_iload_n X dX7_jumpsFit_71 rfl 4 rfl ?_
        refine x_i2l X dX7_jumpsFit_72 ?_
        refine x_aload_n X dX7_jumpsFit_73 rfl 3 rfl ?_
        refine x_iload_n X dX7_jumpsFit_74 rfl 1 rfl ?_
        obtain ⟨q11, e11, h⟩ := bd h
        refine x_callR X [.int q8] [.long (p0.toInt64), .ref (g.1 0)] (c_X7_wordAt K.l K.D g q8 u q11 e11) ok_X7_wordAt m_X7_239 0 rfl rfl rfl rfl (Nat.le_of_ble_eq_true rfl) ⟨Nat.zero_le _, Nat.zero_le _⟩ ⟨rfl, rfl, by decide, by decide⟩ dX7_jumpsFit_75 ?_
        refine x_i2l X dX7_jumpsFit_78 ?_
        refine x_ladd X dX7_jumpsFit_79 ?_
        obtain ⟨q12, e12, h⟩ := bd h
        refine x_callR X [.long ((p0.toInt64) + (q11.toInt64))] [] (c_X7_isStart K.l K.D g ((p0.toInt64) + (q11.toInt64)) u q12 e12) ok_X7_isStart m_X7_253 0 rfl rfl rfl rfl (Nat.le_of_ble_eq_true rfl) ⟨Nat.zero_le _, Nat.zero_le _⟩ ⟨rfl, rfl, by decide, by decide⟩ dX7_jumpsFit_80 ?_
        refine x_istore (lv2 := [(5, .int q12), (4, .int ((q9 - q10) + 1)), (3, .int q8), (2, .int q1), (0, .ref (g.1 0)), (1, .int p0)]) X dX7_jumpsFit_83 (by decide) rfl ?_
        refine x_iconst (v := 0) X dX7_jumpsFit_85 (by decide) ?_
        refine x_istore (lv2 := [(6, .int 0), (5, .int q12), (4, .int ((q9 - q10) + 1)), (3, .int q8), (2, .int q1), (0, .ref (g.1 0)), (1, .int p0)]) X dX7_jumpsFit_86 (by decide) rfl ?_
        refine x_sub [5, 6, 3, 2, 1, 0] rfl ?_
        obtain ⟨q170, e17, h⟩ := bd h
        refine loopF_w (WH := H_X7_jumpsFit_88 p0 q8 ((q9 - q10) + 1) K g u ret) (KB := E_X7_jumpsFit_88 p0 q8 ((q9 - q10) + 1) K g u ret) (fun a9 r9 h9 k8 k7 => w_X7_jumpsFit_b88 p0 q8 ((q9 - q10) + 1) u ret X a9 r9 h9 k8 k7) FU (q12, 0) q170 e17 ?_
        rcases q170 with q17 | q17
        · replace h := sl h
          exact (Option.some.inj h)
        · replace h := sr h
          show XW K 0 0 7 (QI K g (wdM g) (ret, u)) (wdM g) u 128 [(5, .int q17)] []
          refine x_iload X dX7_jumpsFit_128 0 rfl ?_
          obtain ⟨b18, h⟩ := bchk_some h
          exact x_zret X b18 (roE (Option.some.inj h)) dX7_jumpsFit_130
      · replace h := if_f c7 h
        refine x_iconst (v := 1) X dX7_jumpsFit_43 (by decide) ?_
        exact x_zret X rfl (roE (Option.some.inj h)) dX7_jumpsFit_44
    · replace h := if_t c6 h
      refine x_sub [1, 2] rfl ?_
      exact w_X7_jumpsFit_j20 ret X p0 u h
set_option maxRecDepth 100000 in
set_option maxHeartbeats 4000000 in
theorem w_X7_handlerFits_j178 {K : Cx} {g : Gw} (ret : Int32) (X : XC K g cX7_handlerFits 8 RX7 (some .boolean) rm_X7_handlerFits) (z0 : Int32) (u : St) (h : f_X7_handlerFits_j178 z0 u = some ret) : XW K 0 0 8 (QI K g (wdM g) (ret, u)) (wdM g) u 178 [] [.int z0] := by
  unfold f_X7_handlerFits_j178 at h
  obtain ⟨b12, h⟩ := bchk_some h
  exact x_zret X b12 (roE (Option.some.inj h)) dX7_handlerFits_178
set_option maxRecDepth 100000 in
set_option maxHeartbeats 4000000 in
theorem w_X7_handlerFits_j177 {K : Cx} {g : Gw} (ret : Int32) (X : XC K g cX7_handlerFits 8 RX7 (some .boolean) rm_X7_handlerFits) (u : St) (h : f_X7_handlerFits_j177 u = some ret) : XW K 0 0 8 (QI K g (wdM g) (ret, u)) (wdM g) u 177 [] [] := by
  unfold f_X7_handlerFits_j177 at h
  refine x_iconst (v := 0) X dX7_handlerFits_177 (by decide) ?_
  exact w_X7_handlerFits_j178 ret X 0 u h
set_option maxRecDepth 100000 in
set_option maxHeartbeats 4000000 in
theorem w_X7_handlerFits_j173 {K : Cx} {g : Gw} (ret : Int32) (X : XC K g cX7_handlerFits 8 RX7 (some .boolean) rm_X7_handlerFits) (u : St) (h : f_X7_handlerFits_j173 u = some ret) : XW K 0 0 8 (QI K g (wdM g) (ret, u)) (wdM g) u 173 [] [] := by
  unfold f_X7_handlerFits_j173 at h
  refine x_iconst (v := 1) X dX7_handlerFits_173 (by decide) ?_
  refine x_goto (tgt := 178) X dX7_handlerFits_174 (by decide) ?_
  exact w_X7_handlerFits_j178 ret X 1 u h
set_option maxRecDepth 100000 in
set_option maxHeartbeats 4000000 in
theorem w_X7_handlerFits_j150 {K : Cx} {g : Gw} (ret : Int32) (X : XC K g cX7_handlerFits 8 RX7 (some .boolean) rm_X7_handlerFits) (x6 : Int32) (z0 : Int32) (u : St) (h : f_X7_handlerFits_j150 x6 z0 u = some ret) : XW K 0 0 8 (QI K g (wdM g) (ret, u)) (wdM g) u 150 [(0, .ref (g.1 0)), (6, .int x6)] [.int z0] := by
  unfold f_X7_handlerFits_j150 at h
  refine x_istore (lv2 := [(7, .int z0), (0, .ref (g.1 0)), (6, .int x6)]) X dX7_handlerFits_150 (by decide) rfl ?_
  refine x_iload X dX7_handlerFits_152 0 rfl ?_
  refine x_if_eq (tgt := 177) X dX7_handlerFits_154 (by decide) (fun c11 => ?_) (fun c11 => ?_)
  · replace h := if_t c11 h
    refine x_sub [] rfl ?_
    exact w_X7_handlerFits_j177 ret X u h
  · replace h := if_f c11 h
    refine x_iload X dX7_handlerFits_157 2 rfl ?_
    refine x_if_eq (tgt := 173) X dX7_handlerFits_159 (by decide) (fun c13 => ?_) (fun c13 => ?_)
    · replace h := if_t c13 h
      refine x_sub [] rfl ?_
      exact w_X7_handlerFits_j173 ret X u h
    · replace h := if_f c13 h
      refine x_aload_n X dX7_handlerFits_162 rfl 1 rfl ?_
      refine x_iload X dX7_handlerFits_163 2 rfl ?_
      refine x_bipush (v := 7) X dX7_handlerFits_165 (by decide) ?_
      obtain ⟨q14, e14, h⟩ := bd h
      refine x_callR X [.int x6, .int 7] [] (c_X7_is K.l K.D g x6 7 u q14 e14) ok_X7_is m_X7_143 0 rfl rfl rfl rfl (Nat.le_of_ble_eq_true rfl) ⟨Nat.zero_le _, Nat.zero_le _⟩ ⟨rfl, rfl, by decide, by decide⟩ dX7_handlerFits_167 ?_
      refine x_if_eq (tgt := 177) X dX7_handlerFits_170 (by decide) (fun c15 => ?_) (fun c15 => ?_)
      · replace h := if_t c15 h
        refine x_sub [] rfl ?_
        exact w_X7_handlerFits_j177 ret X u h
      · replace h := if_f c15 h
        refine x_sub [] rfl ?_
        exact w_X7_handlerFits_j173 ret X u h
set_option maxRecDepth 100000 in
set_option maxHeartbeats 4000000 in
theorem w_X7_handlerFits_j149 {K : Cx} {g : Gw} (ret : Int32) (X : XC K g cX7_handlerFits 8 RX7 (some .boolean) rm_X7_handlerFits) (x6 : Int32) (u : St) (h : f_X7_handlerFits_j149 x6 u = some ret) : XW K 0 0 8 (QI K g (wdM g) (ret, u)) (wdM g) u 149 [(0, .ref (g.1 0)), (6, .int x6)] [] := by
  unfold f_X7_handlerFits_j149 at h
  refine x_iconst (v := 0) X dX7_handlerFits_149 (by decide) ?_
  exact w_X7_handlerFits_j150 ret X x6 0 u h
set_option maxRecDepth 100000 in
set_option maxHeartbeats 4000000 in
theorem w_X7_handlerFits_j129 {K : Cx} {g : Gw} (ret : Int32) (X : XC K g cX7_handlerFits 8 RX7 (some .boolean) rm_X7_handlerFits) (x3 : Int32) (x4 : Int32) (x5 : Int32) (x6 : Int32) (u : St) (h : f_X7_handlerFits_j129 x3 x4 x5 x6 u = some ret) : XW K 0 0 8 (QI K g (wdM g) (ret, u)) (wdM g) u 129 [(0, .ref (g.1 0)), (3, .int x3), (4, .int x4), (5, .int x5), (6, .int x6)] [] := by
  unfold f_X7_handlerFits_j129 at h
  refine x_aload_n X dX7_handlerFits_129 rfl 0 rfl ?_
  refine x_iload X dX7_handlerFits_130 3 rfl ?_
  refine x_i2l X dX7_handlerFits_132 ?_
  obtain ⟨q17, e17, h⟩ := bd h
  refine x_callR X [.long (x5.toInt64)] [] (c_X7_isStart K.l K.D g (x5.toInt64) u q17 e17) ok_X7_isStart m_X7_253 0 rfl rfl rfl rfl (Nat.le_of_ble_eq_true rfl) ⟨Nat.zero_le _, Nat.zero_le _⟩ ⟨rfl, rfl, by decide, by decide⟩ dX7_handlerFits_133 ?_
  refine x_if_eq (tgt := 149) X dX7_handlerFits_136 (by decide) (fun c18 => ?_) (fun c18 => ?_)
  · replace h := if_t c18 h
    refine x_sub [0, 4] rfl ?_
    exact w_X7_handlerFits_j149 ret X x6 u h
  · replace h := if_f c18 h
    refine x_iload_n X dX7_handlerFits_139 rfl 1 rfl ?_
    refine x_iload X dX7_handlerFits_140 2 rfl ?_
    refine x_icmp_ge (tgt := 149) X dX7_handlerFits_142 (by decide) (fun c19 => ?_) (fun c19 => ?_)
    · replace h := if_t c19 h
      refine x_sub [0, 4] rfl ?_
      exact w_X7_handlerFits_j149 ret X x6 u h
    · replace h := if_f c19 h
      refine x_iconst (v := 1) X dX7_handlerFits_145 (by decide) ?_
      refine x_goto (tgt := 150) X dX7_handlerFits_146 (by decide) ?_
      refine x_sub [0, 4] rfl ?_
      exact w_X7_handlerFits_j150 ret X x6 1 u h
set_option maxRecDepth 100000 in
set_option maxHeartbeats 4000000 in
theorem c_X7_handlerFits (l : Launch) (D : va_G) (g : Gw) (p0 : Int32) (u : St) (ret : Int32) (h : f_X7_handlerFits p0 u = some ret) : metI l D g (wdM g) yX7_handlerFits cX7_handlerFits 8 .boolean rm_X7_handlerFits [.ref (g.1 0), .int p0] u (ret, u) := by
  refine metI_of (own := RX7) (lv := [(0, .ref (g.1 0)), (1, .int p0)]) (by decide) rfl rfl (Nat.le_of_ble_eq_true rfl) (fun K hl9 hD9 X => ?_)
  subst hl9
  subst hD9
  unfold f_X7_handlerFits at h
  refine x_aload_n X dX7_handlerFits_0 rfl 0 rfl ?_
  refine x_get (v := .int (u 13 0)) X 0 24 in_X7 rfl rfl (by decide) m_X7_215 rfl dX7_handlerFits_1 ?_
  refine x_bipush (v := 8) X dX7_handlerFits_4 (by decide) ?_
  refine x_iload_n X dX7_handlerFits_6 rfl 1 rfl ?_
  refine x_imul X dX7_handlerFits_7 ?_
  refine x_iadd X dX7_handlerFits_8 ?_
  refine x_istore_n (lv2 := [(2, .int ((u 13 0) + (8 * p0))), (0, .ref (g.1 0)), (1, .int p0)]) X dX7_handlerFits_9 rfl (by decide) rfl ?_
  refine x_sipush (v := 256) X dX7_handlerFits_10 (by decide) ?_
  refine x_aload_n X dX7_handlerFits_13 rfl 1 rfl ?_
  refine x_get (v := .ref (g.1 1)) X 0 0 in_X7 rfl rfl (by decide) m_X7_7 rfl dX7_handlerFits_14 ?_
  refine x_iload_n X dX7_handlerFits_17 rfl 0 rfl ?_
  obtain ⟨i1, h⟩ := chk_some h
  refine x_iald (f := (u 30)) X 1 0 rfl rfl i1 dX7_handlerFits_18 ?_
  refine x_imul X dX7_handlerFits_19 ?_
  refine x_aload_n X dX7_handlerFits_20 rfl 1 rfl ?_
  refine x_get (v := .ref (g.1 1)) X 0 0 in_X7 rfl rfl (by decide) m_X7_7 rfl dX7_handlerFits_21 ?_
  refine x_iload_n X dX7_handlerFits_24 rfl 0 rfl ?_
  refine x_iconst (v := 1) X dX7_handlerFits_25 (by decide) ?_
  refine x_iadd X dX7_handlerFits_26 ?_
  obtain ⟨i2, h⟩ := chk_some h
  refine x_iald (f := (u 30)) X 1 0 rfl rfl i2 dX7_handlerFits_27 ?_
  refine x_iadd X dX7_handlerFits_28 ?_
  refine x_istore_n (lv2 := [(3, .int ((256 * ((u 30) (Int32.toNatClampNeg ((u 13 0) + (8 * p0))))) + ((u 30) (Int32.toNatClampNeg (((u 13 0) + (8 * p0)) + 1))))), (2, .int ((u 13 0) + (8 * p0))), (0, .ref (g.1 0)), (1, .int p0)]) X dX7_handlerFits_29 rfl (by decide) rfl ?_
  refine x_sipush (v := 256) X dX7_handlerFits_30 (by decide) ?_
  refine x_aload_n X dX7_handlerFits_33 rfl 2 rfl ?_
  refine x_get (v := .ref (g.1 1)) X 0 0 in_X7 rfl rfl (by decide) m_X7_7 rfl dX7_handlerFits_34 ?_
  refine x_iload_n X dX7_handlerFits_37 rfl 1 rfl ?_
  refine x_iconst (v := 2) X dX7_handlerFits_38 (by decide) ?_
  refine x_iadd X dX7_handlerFits_39 ?_
  obtain ⟨i3, h⟩ := chk_some h
  refine x_iald (f := (u 30)) X 1 0 rfl rfl i3 dX7_handlerFits_40 ?_
  refine x_imul X dX7_handlerFits_41 ?_
  refine x_aload_n X dX7_handlerFits_42 rfl 2 rfl ?_
  refine x_get (v := .ref (g.1 1)) X 0 0 in_X7 rfl rfl (by decide) m_X7_7 rfl dX7_handlerFits_43 ?_
  refine x_iload_n X dX7_handlerFits_46 rfl 1 rfl ?_
  refine x_iconst (v := 3) X dX7_handlerFits_47 (by decide) ?_
  refine x_iadd X dX7_handlerFits_48 ?_
  obtain ⟨i4, h⟩ := chk_some h
  refine x_iald (f := (u 30)) X 1 0 rfl rfl i4 dX7_handlerFits_49 ?_
  refine x_iadd X dX7_handlerFits_50 ?_
  refine x_istore (lv2 := [(4, .int ((256 * ((u 30) (Int32.toNatClampNeg (((u 13 0) + (8 * p0)) + 2)))) + ((u 30) (Int32.toNatClampNeg (((u 13 0) + (8 * p0)) + 3))))), (3, .int ((256 * ((u 30) (Int32.toNatClampNeg ((u 13 0) + (8 * p0))))) + ((u 30) (Int32.toNatClampNeg (((u 13 0) + (8 * p0)) + 1))))), (2, .int ((u 13 0) + (8 * p0))), (0, .ref (g.1 0)), (1, .int p0)]) X dX7_handlerFits_51 (by decide) rfl ?_
  refine x_sipush (v := 256) X dX7_handlerFits_53 (by decide) ?_
  refine x_aload_n X dX7_handlerFits_56 rfl 3 rfl ?_
  refine x_get (v := .ref (g.1 1)) X 0 0 in_X7 rfl rfl (by decide) m_X7_7 rfl dX7_handlerFits_57 ?_
  refine x_iload_n X dX7_handlerFits_60 rfl 2 rfl ?_
  refine x_iconst (v := 4) X dX7_handlerFits_61 (by decide) ?_
  refine x_iadd X dX7_handlerFits_62 ?_
  obtain ⟨i5, h⟩ := chk_some h
  refine x_iald (f := (u 30)) X 1 0 rfl rfl i5 dX7_handlerFits_63 ?_
  refine x_imul X dX7_handlerFits_64 ?_
  refine x_aload_n X dX7_handlerFits_65 rfl 3 rfl ?_
  refine x_get (v := .ref (g.1 1)) X 0 0 in_X7 rfl rfl (by decide) m_X7_7 rfl dX7_handlerFits_66 ?_
  refine x_iload_n X dX7_handlerFits_69 rfl 2 rfl ?_
  refine x_iconst (v := 5) X dX7_handlerFits_70 (by decide) ?_
  refine x_iadd X dX7_handlerFits_71 ?_
  obtain ⟨i6, h⟩ := chk_some h
  refine x_iald (f := (u 30)) X 1 0 rfl rfl i6 dX7_handlerFits_72 ?_
  refine x_iadd X dX7_handlerFits_73 ?_
  refine x_istore (lv2 := [(5, .int ((256 * ((u 30) (Int32.toNatClampNeg (((u 13 0) + (8 * p0)) + 4)))) + ((u 30) (Int32.toNatClampNeg (((u 13 0) + (8 * p0)) + 5))))), (4, .int ((256 * ((u 30) (Int32.toNatClampNeg (((u 13 0) + (8 * p0)) + 2)))) + ((u 30) (Int32.toNatClampNeg (((u 13 0) + (8 * p0)) + 3))))), (3, .int ((256 * ((u 30) (Int32.toNatClampNeg ((u 13 0) + (8 * p0))))) + ((u 30) (Int32.toNatClampNeg (((u 13 0) + (8 * p0)) + 1))))), (2, .int ((u 13 0) + (8 * p0))), (0, .ref (g.1 0)), (1, .int p0)]) X dX7_handlerFits_74 (by decide) rfl ?_
  refine x_sipush (v := 256) X dX7_handlerFits_76 (by decide) ?_
  refine x_aload_n X dX7_handlerFits_79 rfl 4 rfl ?_
  refine x_get (v := .ref (g.1 1)) X 0 0 in_X7 rfl rfl (by decide) m_X7_7 rfl dX7_handlerFits_80 ?_
  refine x_iload_n X dX7_handlerFits_83 rfl 3 rfl ?_
  refine x_bipush (v := 6) X dX7_handlerFits_84 (by decide) ?_
  refine x_iadd X dX7_handlerFits_86 ?_
  obtain ⟨i7, h⟩ := chk_some h
  refine x_iald (f := (u 30)) X 1 0 rfl rfl i7 dX7_handlerFits_87 ?_
  refine x_imul X dX7_handlerFits_88 ?_
  refine x_aload_n X dX7_handlerFits_89 rfl 4 rfl ?_
  refine x_get (v := .ref (g.1 1)) X 0 0 in_X7 rfl rfl (by decide) m_X7_7 rfl dX7_handlerFits_90 ?_
  refine x_iload_n X dX7_handlerFits_93 rfl 3 rfl ?_
  refine x_bipush (v := 7) X dX7_handlerFits_94 (by decide) ?_
  refine x_iadd X dX7_handlerFits_96 ?_
  obtain ⟨i8, h⟩ := chk_some h
  refine x_iald (f := (u 30)) X 1 0 rfl rfl i8 dX7_handlerFits_97 ?_
  refine x_iadd X dX7_handlerFits_98 ?_
  refine x_istore (lv2 := [(6, .int ((256 * ((u 30) (Int32.toNatClampNeg (((u 13 0) + (8 * p0)) + 6)))) + ((u 30) (Int32.toNatClampNeg (((u 13 0) + (8 * p0)) + 7))))), (5, .int ((256 * ((u 30) (Int32.toNatClampNeg (((u 13 0) + (8 * p0)) + 4)))) + ((u 30) (Int32.toNatClampNeg (((u 13 0) + (8 * p0)) + 5))))), (4, .int ((256 * ((u 30) (Int32.toNatClampNeg (((u 13 0) + (8 * p0)) + 2)))) + ((u 30) (Int32.toNatClampNeg (((u 13 0) + (8 * p0)) + 3))))), (3, .int ((256 * ((u 30) (Int32.toNatClampNeg ((u 13 0) + (8 * p0))))) + ((u 30) (Int32.toNatClampNeg (((u 13 0) + (8 * p0)) + 1))))), (2, .int ((u 13 0) + (8 * p0))), (0, .ref (g.1 0)), (1, .int p0)]) X dX7_handlerFits_99 (by decide) rfl ?_
  refine x_aload_n X dX7_handlerFits_101 rfl 5 rfl ?_
  refine x_iload_n X dX7_handlerFits_102 rfl 3 rfl ?_
  refine x_i2l X dX7_handlerFits_103 ?_
  obtain ⟨q9, e9, h⟩ := bd h
  refine x_callR X [.long (((256 * ((u 30) (Int32.toNatClampNeg ((u 13 0) + (8 * p0))))) + ((u 30) (Int32.toNatClampNeg (((u 13 0) + (8 * p0)) + 1)))).toInt64)] [] (c_X7_isStart K.l K.D g (((256 * ((u 30) (Int32.toNatClampNeg ((u 13 0) + (8 * p0))))) + ((u 30) (Int32.toNatClampNeg (((u 13 0) + (8 * p0)) + 1)))).toInt64) u q9 e9) ok_X7_isStart m_X7_253 0 rfl rfl rfl rfl (Nat.le_of_ble_eq_true rfl) ⟨Nat.zero_le _, Nat.zero_le _⟩ ⟨rfl, rfl, by decide, by decide⟩ dX7_handlerFits_104 ?_
  refine x_if_eq (tgt := 149) X dX7_handlerFits_107 (by decide) (fun c10 => ?_) (fun c10 => ?_)
  · replace h := if_t c10 h
    refine x_sub [5, 0] rfl ?_
    exact w_X7_handlerFits_j149 ret X ((256 * ((u 30) (Int32.toNatClampNeg (((u 13 0) + (8 * p0)) + 6)))) + ((u 30) (Int32.toNatClampNeg (((u 13 0) + (8 * p0)) + 7)))) u h
  · replace h := if_f c10 h
    refine x_iload X dX7_handlerFits_110 2 rfl ?_
    refine x_aload_n X dX7_handlerFits_112 rfl 5 rfl ?_
    refine x_get (v := .int (u 11 0)) X 0 22 in_X7 rfl rfl (by decide) m_X7_206 rfl dX7_handlerFits_113 ?_
    refine x_icmp_eq (tgt := 129) X dX7_handlerFits_116 (by decide) (fun c16 => ?_) (fun c16 => ?_)
    · replace h := if_t c16 h
      refine x_sub [5, 3, 2, 1, 0] rfl ?_
      exact w_X7_handlerFits_j129 ret X ((256 * ((u 30) (Int32.toNatClampNeg ((u 13 0) + (8 * p0))))) + ((u 30) (Int32.toNatClampNeg (((u 13 0) + (8 * p0)) + 1)))) ((256 * ((u 30) (Int32.toNatClampNeg (((u 13 0) + (8 * p0)) + 2)))) + ((u 30) (Int32.toNatClampNeg (((u 13 0) + (8 * p0)) + 3)))) ((256 * ((u 30) (Int32.toNatClampNeg (((u 13 0) + (8 * p0)) + 4)))) + ((u 30) (Int32.toNatClampNeg (((u 13 0) + (8 * p0)) + 5)))) ((256 * ((u 30) (Int32.toNatClampNeg (((u 13 0) + (8 * p0)) + 6)))) + ((u 30) (Int32.toNatClampNeg (((u 13 0) + (8 * p0)) + 7)))) u h
    · replace h := if_f c16 h
      refine x_aload_n X dX7_handlerFits_119 rfl 5 rfl ?_
      refine x_iload X dX7_handlerFits_120 2 rfl ?_
      refine x_i2l X dX7_handlerFits_122 ?_
      obtain ⟨q20, e20, h⟩ := bd h
      refine x_callR X [.long (((256 * ((u 30) (Int32.toNatClampNeg (((u 13 0) + (8 * p0)) + 2)))) + ((u 30) (Int32.toNatClampNeg (((u 13 0) + (8 * p0)) + 3)))).toInt64)] [] (c_X7_isStart K.l K.D g (((256 * ((u 30) (Int32.toNatClampNeg (((u 13 0) + (8 * p0)) + 2)))) + ((u 30) (Int32.toNatClampNeg (((u 13 0) + (8 * p0)) + 3)))).toInt64) u q20 e20) ok_X7_isStart m_X7_253 0 rfl rfl rfl rfl (Nat.le_of_ble_eq_true rfl) ⟨Nat.zero_le _, Nat.zero_le _⟩ ⟨rfl, rfl, by decide, by decide⟩ dX7_handlerFits_123 ?_
      refine x_if_eq (tgt := 149) X dX7_handlerFits_126 (by decide) (fun c21 => ?_) (fun c21 => ?_)
      · replace h := if_t c21 h
        refine x_sub [5, 0] rfl ?_
        exact w_X7_handlerFits_j149 ret X ((256 * ((u 30) (Int32.toNatClampNeg (((u 13 0) + (8 * p0)) + 6)))) + ((u 30) (Int32.toNatClampNeg (((u 13 0) + (8 * p0)) + 7)))) u h
      · replace h := if_f c21 h
        refine x_sub [5, 3, 2, 1, 0] rfl ?_
        exact w_X7_handlerFits_j129 ret X ((256 * ((u 30) (Int32.toNatClampNeg ((u 13 0) + (8 * p0))))) + ((u 30) (Int32.toNatClampNeg (((u 13 0) + (8 * p0)) + 1)))) ((256 * ((u 30) (Int32.toNatClampNeg (((u 13 0) + (8 * p0)) + 2)))) + ((u 30) (Int32.toNatClampNeg (((u 13 0) + (8 * p0)) + 3)))) ((256 * ((u 30) (Int32.toNatClampNeg (((u 13 0) + (8 * p0)) + 4)))) + ((u 30) (Int32.toNatClampNeg (((u 13 0) + (8 * p0)) + 5)))) ((256 * ((u 30) (Int32.toNatClampNeg (((u 13 0) + (8 * p0)) + 6)))) + ((u 30) (Int32.toNatClampNeg (((u 13 0) + (8 * p0)) + 7)))) u h
