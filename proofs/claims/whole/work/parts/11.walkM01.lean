set_option maxRecDepth 100000 in
set_option maxHeartbeats 4000000 in
theorem c_X7_clear (l : Launch) (D : va_G) (g : Gw) (u : St) (ret : Int32 × St) (h : f_X7_clear u = some ret) : metI l D g (wdM g) yX7_clear cX7_clear 2 .int rm_X7_clear [.ref (g.1 0)] u ret := by
  refine metI_of (own := RX7) (lv := [(0, .ref (g.1 0))]) (by decide) rfl rfl (Nat.le_of_ble_eq_true rfl) (fun K hl9 hD9 X => ?_)
  subst hl9
  subst hD9
  unfold f_X7_clear at h
  refine x_aload_n X dX7_clear_0 rfl 0 rfl ?_
  refine x_get (v := .int (u 0 0)) X 0 1 in_X7 rfl rfl (by decide) m_X7_59 rfl dX7_clear_1 ?_
  refine x_istore_n (lv2 := [(1, .int (u 0 0)), (0, .ref (g.1 0))]) X dX7_clear_4 rfl (by decide) rfl ?_
  refine x_aload_n X dX7_clear_5 rfl 1 rfl ?_
  refine x_iconst (v := 0) X dX7_clear_6 (by decide) ?_
  refine x_put (ty := .int) (u2 := (up u 0 0 0)) X 0 1 in_X7 tk_X7 nk_X7 rfl rfl (by decide) m_X7_59 rfl rfl rfl rfl (Nat.le_of_ble_eq_true rfl) (wdM_0 g u 0) dX7_clear_7 ?_
  refine x_iload_n X dX7_clear_10 rfl 0 rfl ?_
  exact x_iret X (Option.some.inj h) dX7_clear_11
set_option maxRecDepth 100000 in
set_option maxHeartbeats 4000000 in
theorem w_X7_fail_j17 {K : Cx} {g : Gw} (ret : Int32 × St) (X : XC K g cX7_fail 3 RX7 (some .boolean) rm_X7_fail) (u : St) (h : f_X7_fail_j17 u = some ret) : XW K 0 0 3 (QI K g (wdM g) ret) (wdM g) u 17 [] [] := by
  unfold f_X7_fail_j17 at h
  refine x_iconst (v := 0) X dX7_fail_17 (by decide) ?_
  exact x_zret X rfl (Option.some.inj h) dX7_fail_18
set_option maxRecDepth 100000 in
set_option maxHeartbeats 4000000 in
theorem c_X7_fail (l : Launch) (D : va_G) (g : Gw) (p0 : Int32) (p1 : Int32) (u : St) (ret : Int32 × St) (h : f_X7_fail p0 p1 u = some ret) : metI l D g (wdM g) yX7_fail cX7_fail 3 .boolean rm_X7_fail [.ref (g.1 0), .int p0, .int p1] u ret := by
  refine metI_of (own := RX7) (lv := [(0, .ref (g.1 0)), (1, .int p0), (2, .int p1)]) (by decide) rfl rfl (Nat.le_of_ble_eq_true rfl) (fun K hl9 hD9 X => ?_)
  subst hl9
  subst hD9
  unfold f_X7_fail at h
  refine x_aload_n X dX7_fail_0 rfl 0 rfl ?_
  refine x_get (v := .int (u 7 0)) X 0 9 in_X7 rfl rfl (by decide) m_X7_71 rfl dX7_fail_1 ?_
  refine x_if_ne (tgt := 17) X dX7_fail_4 (by decide) (fun c1 => ?_) (fun c1 => ?_)
  · replace h := if_f c1 h
    refine x_sub [] rfl ?_
    exact w_X7_fail_j17 ret X u h
  · replace h := if_t c1 h
    refine x_aload_n X dX7_fail_7 rfl 0 rfl ?_
    refine x_iload_n X dX7_fail_8 rfl 1 rfl ?_
    refine x_put (ty := .int) (u2 := (up u 7 0 p0)) X 0 9 in_X7 tk_X7 nk_X7 rfl rfl (by decide) m_X7_71 rfl rfl rfl rfl (Nat.le_of_ble_eq_true rfl) (wdM_7 g u p0) dX7_fail_9 ?_
    refine x_aload_n X dX7_fail_12 rfl 0 rfl ?_
    refine x_iload_n X dX7_fail_13 rfl 2 rfl ?_
    refine x_put (ty := .int) (u2 := (up (up u 7 0 p0) 8 0 p1)) X 0 10 in_X7 tk_X7 nk_X7 rfl rfl (by decide) m_X7_74 rfl rfl rfl rfl (Nat.le_of_ble_eq_true rfl) (wdM_8 g (up u 7 0 p0) p1) dX7_fail_14 ?_
    refine x_sub [] rfl ?_
    exact w_X7_fail_j17 ret X (up (up u 7 0 p0) 8 0 p1) h
abbrev H_X7_u_5 (x1 : Int32) (K : Cx) (g : Gw) (ret : Int64 × St) (a : Int64 × Int32 × St) : Prop := XW K 0 0 5 (QL K g (wdM g) ret) (wdM g) a.2.2 5 [(0, .ref (g.1 0)), (1, .int x1), (2, .long a.1), (4, .int a.2.1)] []
abbrev E_X7_u_5 (x1 : Int32) (K : Cx) (g : Gw) (ret : Int64 × St) (q : (Int64 × St) ⊕ (Int64 × St)) : Prop := Sum.elim (fun q => q = ret) (fun q => XW K 0 0 5 (QL K g (wdM g) ret) (wdM g) q.2 77 [(0, .ref (g.1 0)), (2, .long q.1)] []) q
set_option maxRecDepth 100000 in
set_option maxHeartbeats 4000000 in
theorem w_X7_u_b5 {K : Cx} {g : Gw} (x1 : Int32) (ret : Int64 × St) (X : XC K g cX7_u 5 RX7 (some .long) rm_X7_u) (a : Int64 × Int32 × St) (r : ((Int64 × St) ⊕ (Int64 × St)) ⊕ (Int64 × Int32 × St)) (h : f_X7_u_b5 x1 a = some r) (k0 : ∀ q, r = .inl q → E_X7_u_5 x1 K g ret q) (k1 : ∀ q, r = .inr q → H_X7_u_5 x1 K g ret q) : H_X7_u_5 x1 K g ret a := by
  unfold f_X7_u_b5 at h
  show XW K 0 0 5 (QL K g (wdM g) ret) (wdM g) a.2.2 5 [(0, .ref (g.1 0)), (1, .int x1), (2, .long a.1), (4, .int a.2.1)] []
  refine x_iload X dX7_u_5 3 rfl ?_
  refine x_iload_n X dX7_u_7 rfl 1 rfl ?_
  refine x_icmp_ge (tgt := 77) X dX7_u_8 (by decide) (fun c1 => ?_) (fun c1 => ?_)
  · replace h := if_t c1 h
    refine x_sub [0, 2] rfl ?_
    have h9 := k0 _ (Option.some.inj h).symm
    exact h9
  · replace h := if_f c1 h
    refine x_aload_n X dX7_u_11 rfl 0 rfl ?_
    refine x_get (v := .int (a.2.2 7 0)) X 0 9 in_X7 rfl rfl (by decide) m_X7_71 rfl dX7_u_12 ?_
    refine x_if_ne (tgt := 77) X dX7_u_15 (by decide) (fun c2 => ?_) (fun c2 => ?_)
    · replace h := if_f c2 h
      refine x_sub [0, 2] rfl ?_
      have h9 := k0 _ (Option.some.inj h).symm
      exact h9
    · replace h := if_t c2 h
      refine x_aload_n X dX7_u_18 rfl 0 rfl ?_
      refine x_get (v := .int (a.2.2 3 0)) X 0 5 in_X7 rfl rfl (by decide) m_X7_77 rfl dX7_u_19 ?_
      refine x_aload_n X dX7_u_22 rfl 0 rfl ?_
      refine x_get (v := .int (a.2.2 4 0)) X 0 6 in_X7 rfl rfl (by decide) m_X7_80 rfl dX7_u_23 ?_
      refine x_icmp_lt (tgt := 44) X dX7_u_26 (by decide) (fun c3 => ?_) (fun c3 => ?_)
      · replace h := if_t c3 h
        refine x_ldc2 (v := 256) X m_X7_92 dX7_u_44 ?_
        refine x_lload_n X dX7_u_47 rfl 2 rfl ?_
        refine x_lmul X dX7_u_48 ?_
        refine x_aload_n X dX7_u_49 rfl 0 rfl ?_
        refine x_get (v := .ref (g.1 1)) X 0 0 in_X7 rfl rfl (by decide) m_X7_7 rfl dX7_u_50 ?_
        refine x_aload_n X dX7_u_53 rfl 0 rfl ?_
        refine x_get (v := .int (a.2.2 3 0)) X 0 5 in_X7 rfl rfl (by decide) m_X7_77 rfl dX7_u_54 ?_
        obtain ⟨i4, h⟩ := chk_some h
        refine x_iald (f := (a.2.2 30)) X 1 0 rfl rfl i4 dX7_u_57 ?_
        refine x_i2l X dX7_u_58 ?_
        refine x_ladd X dX7_u_59 ?_
        refine x_lstore_n (lv2 := [(2, .long ((256 * a.1) + (((a.2.2 30) (Int32.toNatClampNeg (a.2.2 3 0))).toInt64))), (0, .ref (g.1 0)), (1, .int x1), (4, .int a.2.1)]) X dX7_u_60 rfl (by decide) rfl ?_
        refine x_aload_n X dX7_u_61 rfl 1 rfl ?_
        refine x_dup X dX7_u_62 rfl ?_
        refine x_get (v := .int (a.2.2 3 0)) X 0 5 in_X7 rfl rfl (by decide) m_X7_77 rfl dX7_u_63 ?_
        refine x_iconst (v := 1) X dX7_u_66 (by decide) ?_
        refine x_iadd X dX7_u_67 ?_
        refine x_put (ty := .int) (u2 := (up a.2.2 3 0 ((a.2.2 3 0) + 1))) X 0 5 in_X7 tk_X7 nk_X7 rfl rfl (by decide) m_X7_77 rfl rfl rfl rfl (Nat.le_of_ble_eq_true rfl) (wdM_3 g a.2.2 ((a.2.2 3 0) + 1)) dX7_u_68 ?_
        refine x_iinc (v := (a.2.1 + 1)) (lv2 := [(4, .int (a.2.1 + 1)), (2, .long ((256 * a.1) + (((a.2.2 30) (Int32.toNatClampNeg (a.2.2 3 0))).toInt64))), (0, .ref (g.1 0)), (1, .int x1)]) X dX7_u_71 3 rfl rfl (by decide) rfl ?_
        refine x_goto (tgt := 5) X dX7_u_74 (by decide) ?_
        refine x_sub [2, 3, 1, 0] rfl ?_
        have h9 := k1 _ (Option.some.inj h).symm
        exact h9
      · replace h := if_f c3 h
        refine x_aload_n X dX7_u_29 rfl 0 rfl ?_
        refine x_aload_n X dX7_u_30 rfl 0 rfl ?_
        refine x_get (v := .int (a.2.2 5 0)) X 0 7 in_X7 rfl rfl (by decide) m_X7_83 rfl dX7_u_31 ?_
        refine x_aload_n X dX7_u_34 rfl 0 rfl ?_
        refine x_get (v := .int (a.2.2 6 0)) X 0 8 in_X7 rfl rfl (by decide) m_X7_86 rfl dX7_u_35 ?_
        obtain ⟨q5, e5, h⟩ := bd h
        refine x_callI X [.int (a.2.2 5 0), .int (a.2.2 6 0)] [] (c_X7_fail K.l K.D g (a.2.2 5 0) (a.2.2 6 0) a.2.2 q5 e5) ok_X7_fail m_X7_89 0 rfl rfl rfl rfl (Nat.le_of_ble_eq_true rfl) ⟨Nat.zero_le _, Nat.zero_le _⟩ ⟨rfl, rfl, by decide, by decide⟩ dX7_u_38 ?_
        refine x_pop X dX7_u_41 rfl ?_
        refine x_lconst (v := 0) X dX7_u_42 (by decide) ?_
        exact x_lret X (k0 _ (Option.some.inj h).symm) dX7_u_43
set_option maxRecDepth 100000 in
set_option maxHeartbeats 4000000 in
theorem w_X7_u_j89 {K : Cx} {g : Gw} (ret : Int64 × St) (X : XC K g cX7_u 5 RX7 (some .long) rm_X7_u) (z0 : Int64) (u : St) (h : f_X7_u_j89 z0 u = some ret) : XW K 0 0 5 (QL K g (wdM g) ret) (wdM g) u 89 [] [.long z0] := by
  unfold f_X7_u_j89 at h
  exact x_lret X (Option.some.inj h) dX7_u_89
set_option maxRecDepth 100000 in
set_option maxHeartbeats 4000000 in
theorem w_X7_u_j77 {K : Cx} {g : Gw} (ret : Int64 × St) (X : XC K g cX7_u 5 RX7 (some .long) rm_X7_u) (x2 : Int64) (u : St) (h : f_X7_u_j77 x2 u = some ret) : XW K 0 0 5 (QL K g (wdM g) ret) (wdM g) u 77 [(0, .ref (g.1 0)), (2, .long x2)] [] := by
  unfold f_X7_u_j77 at h
  refine x_aload_n X dX7_u_77 rfl 0 rfl ?_
  refine x_get (v := .int (u 7 0)) X 0 9 in_X7 rfl rfl (by decide) m_X7_71 rfl dX7_u_78 ?_
  refine x_if_ne (tgt := 88) X dX7_u_81 (by decide) (fun c7 => ?_) (fun c7 => ?_)
  · replace h := if_f c7 h
    refine x_lconst (v := 0) X dX7_u_88 (by decide) ?_
    refine x_sub [] rfl ?_
    exact w_X7_u_j89 ret X 0 u h
  · replace h := if_t c7 h
    refine x_lload_n X dX7_u_84 rfl 1 rfl ?_
    refine x_goto (tgt := 89) X dX7_u_85 (by decide) ?_
    refine x_sub [] rfl ?_
    exact w_X7_u_j89 ret X x2 u h
set_option maxRecDepth 100000 in
set_option maxHeartbeats 4000000 in
theorem c_X7_u (l : Launch) (D : va_G) (g : Gw) (p0 : Int32) (u : St) (ret : Int64 × St) (h : f_X7_u p0 u = some ret) : metL l D g (wdM g) yX7_u cX7_u 5 rm_X7_u [.ref (g.1 0), .int p0] u ret := by
  refine metL_of (own := RX7) (lv := [(0, .ref (g.1 0)), (1, .int p0)]) (by decide) rfl rfl (Nat.le_of_ble_eq_true rfl) (fun K hl9 hD9 X => ?_)
  subst hl9
  subst hD9
  unfold f_X7_u at h
  refine x_lconst (v := 0) X dX7_u_0 (by decide) ?_
  refine x_lstore_n (lv2 := [(2, .long 0), (0, .ref (g.1 0)), (1, .int p0)]) X dX7_u_1 rfl (by decide) rfl ?_
  refine x_iconst (v := 0) X dX7_u_2 (by decide) ?_
  refine x_istore (lv2 := [(4, .int 0), (2, .long 0), (0, .ref (g.1 0)), (1, .int p0)]) X dX7_u_3 (by decide) rfl ?_
  refine x_sub [2, 3, 1, 0] rfl ?_
  obtain ⟨q60, e6, h⟩ := bd h
  refine loopF_w (WH := H_X7_u_5 p0 K g ret) (KB := E_X7_u_5 p0 K g ret) (fun a9 r9 h9 k8 k7 => w_X7_u_b5 p0 ret X a9 r9 h9 k8 k7) FU (0, 0, u) q60 e6 ?_
  rcases q60 with q6 | q6
  · replace h := sl h
    exact (Option.some.inj h)
  · replace h := sr h
    show XW K 0 0 5 (QL K g (wdM g) ret) (wdM g) q6.2 77 [(0, .ref (g.1 0)), (2, .long q6.1)] []
    exact w_X7_u_j77 ret X q6.1 q6.2 h
set_option maxRecDepth 100000 in
set_option maxHeartbeats 4000000 in
theorem c_X7_u1 (l : Launch) (D : va_G) (g : Gw) (u : St) (ret : Int32 × St) (h : f_X7_u1 u = some ret) : metI l D g (wdM g) yX7_u1 cX7_u1 1 .int rm_X7_u1 [.ref (g.1 0)] u ret := by
  refine metI_of (own := RX7) (lv := [(0, .ref (g.1 0))]) (by decide) rfl rfl (Nat.le_of_ble_eq_true rfl) (fun K hl9 hD9 X => ?_)
  subst hl9
  subst hD9
  unfold f_X7_u1 at h
  refine x_aload_n X dX7_u1_0 rfl 0 rfl ?_
  refine x_iconst (v := 1) X dX7_u1_1 (by decide) ?_
  obtain ⟨q1, e1, h⟩ := bd h
  refine x_callL X [.int 1] [] (c_X7_u K.l K.D g 1 u q1 e1) ok_X7_u m_X7_94 0 rfl rfl rfl rfl (Nat.le_of_ble_eq_true rfl) ⟨Nat.zero_le _, Nat.zero_le _⟩ ⟨rfl, rfl, by decide, by decide⟩ dX7_u1_2 ?_
  refine x_l2i X dX7_u1_5 ?_
  exact x_iret X (Option.some.inj h) dX7_u1_6
set_option maxRecDepth 100000 in
set_option maxHeartbeats 4000000 in
theorem c_X7_u2 (l : Launch) (D : va_G) (g : Gw) (u : St) (ret : Int32 × St) (h : f_X7_u2 u = some ret) : metI l D g (wdM g) yX7_u2 cX7_u2 1 .int rm_X7_u2 [.ref (g.1 0)] u ret := by
  refine metI_of (own := RX7) (lv := [(0, .ref (g.1 0))]) (by decide) rfl rfl (Nat.le_of_ble_eq_true rfl) (fun K hl9 hD9 X => ?_)
  subst hl9
  subst hD9
  unfold f_X7_u2 at h
  refine x_aload_n X dX7_u2_0 rfl 0 rfl ?_
  refine x_iconst (v := 2) X dX7_u2_1 (by decide) ?_
  obtain ⟨q1, e1, h⟩ := bd h
  refine x_callL X [.int 2] [] (c_X7_u K.l K.D g 2 u q1 e1) ok_X7_u m_X7_94 0 rfl rfl rfl rfl (Nat.le_of_ble_eq_true rfl) ⟨Nat.zero_le _, Nat.zero_le _⟩ ⟨rfl, rfl, by decide, by decide⟩ dX7_u2_2 ?_
  refine x_l2i X dX7_u2_5 ?_
  exact x_iret X (Option.some.inj h) dX7_u2_6
set_option maxRecDepth 100000 in
set_option maxHeartbeats 4000000 in
theorem w_X7_skip_j56 {K : Cx} {g : Gw} (ret : St) (X : XC K g cX7_skip 3 RX7 none rm_X7_skip) (u : St) (h : f_X7_skip_j56 u = some ret) : XW K 0 0 3 (QV K g (wdM g) ret) (wdM g) u 56 [] [] := by
  unfold f_X7_skip_j56 at h
  exact x_vret X (Option.some.inj h) dX7_skip_56
set_option maxRecDepth 100000 in
set_option maxHeartbeats 4000000 in
theorem w_X7_skip_j38 {K : Cx} {g : Gw} (ret : St) (X : XC K g cX7_skip 3 RX7 none rm_X7_skip) (x1 : Int64) (u : St) (h : f_X7_skip_j38 x1 u = some ret) : XW K 0 0 3 (QV K g (wdM g) ret) (wdM g) u 38 [(0, .ref (g.1 0)), (1, .long x1)] [] := by
  unfold f_X7_skip_j38 at h
  refine x_aload_n X dX7_skip_38 rfl 0 rfl ?_
  refine x_get (v := .int (u 7 0)) X 0 9 in_X7 rfl rfl (by decide) m_X7_71 rfl dX7_skip_39 ?_
  refine x_if_ne (tgt := 56) X dX7_skip_42 (by decide) (fun c2 => ?_) (fun c2 => ?_)
  · replace h := if_f c2 h
    refine x_sub [] rfl ?_
    exact w_X7_skip_j56 ret X u h
  · replace h := if_t c2 h
    refine x_aload_n X dX7_skip_45 rfl 0 rfl ?_
    refine x_dup X dX7_skip_46 rfl ?_
    refine x_get (v := .int (u 3 0)) X 0 5 in_X7 rfl rfl (by decide) m_X7_77 rfl dX7_skip_47 ?_
    refine x_lload_n X dX7_skip_50 rfl 1 rfl ?_
    refine x_l2i X dX7_skip_51 ?_
    refine x_iadd X dX7_skip_52 ?_
    refine x_put (ty := .int) (u2 := (up u 3 0 ((u 3 0) + (x1.toInt32)))) X 0 5 in_X7 tk_X7 nk_X7 rfl rfl (by decide) m_X7_77 rfl rfl rfl rfl (Nat.le_of_ble_eq_true rfl) (wdM_3 g u ((u 3 0) + (x1.toInt32))) dX7_skip_53 ?_
    refine x_sub [] rfl ?_
    exact w_X7_skip_j56 ret X (up u 3 0 ((u 3 0) + (x1.toInt32))) h
set_option maxRecDepth 100000 in
set_option maxHeartbeats 4000000 in
theorem c_X7_skip (l : Launch) (D : va_G) (g : Gw) (p0 : Int64) (u : St) (ret : St) (h : f_X7_skip p0 u = some ret) : metV l D g (wdM g) yX7_skip cX7_skip 3 rm_X7_skip [.ref (g.1 0), .long p0] u ret := by
  refine metV_of (own := RX7) (lv := [(0, .ref (g.1 0)), (1, .long p0)]) (by decide) rfl rfl (Nat.le_of_ble_eq_true rfl) (fun K hl9 hD9 X => ?_)
  subst hl9
  subst hD9
  unfold f_X7_skip at h
  refine x_aload_n X dX7_skip_0 rfl 0 rfl ?_
  refine x_get (v := .int (u 7 0)) X 0 9 in_X7 rfl rfl (by decide) m_X7_71 rfl dX7_skip_1 ?_
  refine x_if_ne (tgt := 38) X dX7_skip_4 (by decide) (fun c1 => ?_) (fun c1 => ?_)
  · replace h := if_f c1 h
    exact w_X7_skip_j38 ret X p0 u h
  · replace h := if_t c1 h
    refine x_lload_n X dX7_skip_7 rfl 1 rfl ?_
    refine x_aload_n X dX7_skip_8 rfl 0 rfl ?_
    refine x_get (v := .int (u 4 0)) X 0 6 in_X7 rfl rfl (by decide) m_X7_80 rfl dX7_skip_9 ?_
    refine x_aload_n X dX7_skip_12 rfl 0 rfl ?_
    refine x_get (v := .int (u 3 0)) X 0 5 in_X7 rfl rfl (by decide) m_X7_77 rfl dX7_skip_13 ?_
    refine x_isub X dX7_skip_16 ?_
    refine x_i2l X dX7_skip_17 ?_
    refine x_lcmp X dX7_skip_18 ?_
    refine x_if_le (tgt := 38) X dX7_skip_19 (by decide) (fun c3 => ?_) (fun c3 => ?_)
    · replace h := if_t c3 h
      exact w_X7_skip_j38 ret X p0 u h
    · replace h := if_f c3 h
      refine x_aload_n X dX7_skip_22 rfl 0 rfl ?_
      refine x_aload_n X dX7_skip_23 rfl 0 rfl ?_
      refine x_get (v := .int (u 5 0)) X 0 7 in_X7 rfl rfl (by decide) m_X7_83 rfl dX7_skip_24 ?_
      refine x_aload_n X dX7_skip_27 rfl 0 rfl ?_
      refine x_get (v := .int (u 6 0)) X 0 8 in_X7 rfl rfl (by decide) m_X7_86 rfl dX7_skip_28 ?_
      obtain ⟨q4, e4, h⟩ := bd h
      refine x_callI X [.int (u 5 0), .int (u 6 0)] [] (c_X7_fail K.l K.D g (u 5 0) (u 6 0) u q4 e4) ok_X7_fail m_X7_89 0 rfl rfl rfl rfl (Nat.le_of_ble_eq_true rfl) ⟨Nat.zero_le _, Nat.zero_le _⟩ ⟨rfl, rfl, by decide, by decide⟩ dX7_skip_31 ?_
      refine x_pop X dX7_skip_34 rfl ?_
      refine x_goto (tgt := 56) X dX7_skip_35 (by decide) ?_
      refine x_sub [] rfl ?_
      exact w_X7_skip_j56 ret X q4.2 h
set_option maxRecDepth 100000 in
set_option maxHeartbeats 4000000 in
theorem w_X7_is_j27 {K : Cx} {g : Gw} (ret : Int32) (X : XC K g cX7_is 3 RX7 (some .boolean) rm_X7_is) (z0 : Int32) (u : St) (h : f_X7_is_j27 z0 u = some ret) : XW K 0 0 3 (QI K g (wdM g) (ret, u)) (wdM g) u 27 [] [.int z0] := by
  unfold f_X7_is_j27 at h
  obtain ⟨b2, h⟩ := bchk_some h
  exact x_zret X b2 (roE (Option.some.inj h)) dX7_is_27
set_option maxRecDepth 100000 in
set_option maxHeartbeats 4000000 in
theorem w_X7_is_j26 {K : Cx} {g : Gw} (ret : Int32) (X : XC K g cX7_is 3 RX7 (some .boolean) rm_X7_is) (u : St) (h : f_X7_is_j26 u = some ret) : XW K 0 0 3 (QI K g (wdM g) (ret, u)) (wdM g) u 26 [] [] := by
  unfold f_X7_is_j26 at h
  refine x_iconst (v := 0) X dX7_is_26 (by decide) ?_
  exact w_X7_is_j27 ret X 0 u h
set_option maxRecDepth 100000 in
set_option maxHeartbeats 4000000 in
theorem c_X7_is (l : Launch) (D : va_G) (g : Gw) (p0 : Int32) (p1 : Int32) (u : St) (ret : Int32) (h : f_X7_is p0 p1 u = some ret) : metI l D g (wdM g) yX7_is cX7_is 3 .boolean rm_X7_is [.ref (g.1 0), .int p0, .int p1] u (ret, u) := by
  refine metI_of (own := RX7) (lv := [(0, .ref (g.1 0)), (1, .int p0), (2, .int p1)]) (by decide) rfl rfl (Nat.le_of_ble_eq_true rfl) (fun K hl9 hD9 X => ?_)
  subst hl9
  subst hD9
  unfold f_X7_is at h
  refine x_iload_n X dX7_is_0 rfl 1 rfl ?_
  refine x_if_le (tgt := 26) X dX7_is_1 (by decide) (fun c1 => ?_) (fun c1 => ?_)
  · replace h := if_t c1 h
    refine x_sub [] rfl ?_
    exact w_X7_is_j26 ret X u h
  · replace h := if_f c1 h
    refine x_iload_n X dX7_is_4 rfl 1 rfl ?_
    refine x_aload_n X dX7_is_5 rfl 0 rfl ?_
    refine x_get (v := .int (u 9 0)) X 0 16 in_X7 rfl rfl (by decide) m_X7_98 rfl dX7_is_6 ?_
    refine x_icmp_ge (tgt := 26) X dX7_is_9 (by decide) (fun c3 => ?_) (fun c3 => ?_)
    · replace h := if_t c3 h
      refine x_sub [] rfl ?_
      exact w_X7_is_j26 ret X u h
    · replace h := if_f c3 h
      refine x_aload_n X dX7_is_12 rfl 0 rfl ?_
      refine x_get (v := .ref (g.1 4)) X 0 12 in_X7 rfl rfl (by decide) m_X7_19 rfl dX7_is_13 ?_
      refine x_iload_n X dX7_is_16 rfl 1 rfl ?_
      obtain ⟨i4, h⟩ := chk_some h
      refine x_iald (f := (u 33)) X 4 0 rfl rfl i4 dX7_is_17 ?_
      refine x_iload_n X dX7_is_18 rfl 2 rfl ?_
      refine x_icmp_ne (tgt := 26) X dX7_is_19 (by decide) (fun c5 => ?_) (fun c5 => ?_)
      · replace h := if_f c5 h
        refine x_sub [] rfl ?_
        exact w_X7_is_j26 ret X u h
      · replace h := if_t c5 h
        refine x_iconst (v := 1) X dX7_is_22 (by decide) ?_
        refine x_goto (tgt := 27) X dX7_is_23 (by decide) ?_
        refine x_sub [] rfl ?_
        exact w_X7_is_j27 ret X 1 u h
set_option maxRecDepth 100000 in
set_option maxHeartbeats 4000000 in
theorem c_X7_letter (l : Launch) (D : va_G) (g : Gw) (p0 : Int32) (p1 : Int32) (u : St) (ret : Int32) (h : f_X7_letter p0 p1 u = some ret) : metI l D g (wdM g) yX7_letter cX7_letter 3 .int rm_X7_letter [.ref (g.1 0), .int p0, .int p1] u (ret, u) := by
  refine metI_of (own := RX7) (lv := [(0, .ref (g.1 0)), (1, .int p0), (2, .int p1)]) (by decide) rfl rfl (Nat.le_of_ble_eq_true rfl) (fun K hl9 hD9 X => ?_)
  subst hl9
  subst hD9
  unfold f_X7_letter at h
  refine x_aload_n X dX7_letter_0 rfl 0 rfl ?_
  refine x_get (v := .ref (g.1 1)) X 0 0 in_X7 rfl rfl (by decide) m_X7_7 rfl dX7_letter_1 ?_
  refine x_aload_n X dX7_letter_4 rfl 0 rfl ?_
  refine x_get (v := .ref (g.1 6)) X 0 14 in_X7 rfl rfl (by decide) m_X7_25 rfl dX7_letter_5 ?_
  refine x_iload_n X dX7_letter_8 rfl 1 rfl ?_
  obtain ⟨i1, h⟩ := chk_some h
  refine x_iald (f := (u 35)) X 6 0 rfl rfl i1 dX7_letter_9 ?_
  refine x_iload_n X dX7_letter_10 rfl 2 rfl ?_
  refine x_iadd X dX7_letter_11 ?_
  obtain ⟨i2, h⟩ := chk_some h
  refine x_iald (f := (u 30)) X 1 0 rfl rfl i2 dX7_letter_12 ?_
  exact x_iret X (roE (Option.some.inj h)) dX7_letter_13
abbrev H_X7_equal_19 (x1 : Int32) (x2 : Int32) (K : Cx) (g : Gw) (u : St) (ret : Int32) (a : Int32) : Prop := XW K 0 0 4 (QI K g (wdM g) (ret, u)) (wdM g) u 19 [(0, .ref (g.1 0)), (1, .int x1), (2, .int x2), (3, .int a)] []
abbrev E_X7_equal_19 (x1 : Int32) (x2 : Int32) (K : Cx) (g : Gw) (u : St) (ret : Int32) (q : (Int32) ⊕ (Unit)) : Prop := Sum.elim (fun q => q = ret) (fun q => XW K 0 0 4 (QI K g (wdM g) (ret, u)) (wdM g) u 52 [] []) q
set_option maxRecDepth 100000 in
set_option maxHeartbeats 4000000 in
theorem w_X7_equal_b19 {K : Cx} {g : Gw} (x1 : Int32) (x2 : Int32) (u : St) (ret : Int32) (X : XC K g cX7_equal 4 RX7 (some .boolean) rm_X7_equal) (a : Int32) (r : ((Int32) ⊕ (Unit)) ⊕ (Int32)) (h : f_X7_equal_b19 x1 x2 u a = some r) (k0 : ∀ q, r = .inl q → E_X7_equal_19 x1 x2 K g u ret q) (k1 : ∀ q, r = .inr q → H_X7_equal_19 x1 x2 K g u ret q) : H_X7_equal_19 x1 x2 K g u ret a := by
  unfold f_X7_equal_b19 at h
  show XW K 0 0 4 (QI K g (wdM g) (ret, u)) (wdM g) u 19 [(0, .ref (g.1 0)), (1, .int x1), (2, .int x2), (3, .int a)] []
  refine x_iload_n X dX7_equal_19 rfl 3 rfl ?_
  refine x_aload_n X dX7_equal_20 rfl 0 rfl ?_
  refine x_get (v := .ref (g.1 7)) X 0 15 in_X7 rfl rfl (by decide) m_X7_28 rfl dX7_equal_21 ?_
  refine x_iload_n X dX7_equal_24 rfl 1 rfl ?_
  obtain ⟨i4, h⟩ := chk_some h
  refine x_iald (f := (u 36)) X 7 0 rfl rfl i4 dX7_equal_25 ?_
  refine x_icmp_ge (tgt := 52) X dX7_equal_26 (by decide) (fun c5 => ?_) (fun c5 => ?_)
  · replace h := if_t c5 h
    refine x_sub [] rfl ?_
    have h9 := k0 _ (Option.some.inj h).symm
    exact h9
  · replace h := if_f c5 h
    refine x_aload_n X dX7_equal_29 rfl 0 rfl ?_
    refine x_iload_n X dX7_equal_30 rfl 1 rfl ?_
    refine x_iload_n X dX7_equal_31 rfl 3 rfl ?_
    obtain ⟨q6, e6, h⟩ := bd h
    refine x_callR X [.int x1, .int a] [] (c_X7_letter K.l K.D g x1 a u q6 e6) ok_X7_letter m_X7_101 0 rfl rfl rfl rfl (Nat.le_of_ble_eq_true rfl) ⟨Nat.zero_le _, Nat.zero_le _⟩ ⟨rfl, rfl, by decide, by decide⟩ dX7_equal_32 ?_
    refine x_aload_n X dX7_equal_35 rfl 0 rfl ?_
    refine x_iload_n X dX7_equal_36 rfl 2 rfl ?_
    refine x_iload_n X dX7_equal_37 rfl 3 rfl ?_
    obtain ⟨q7, e7, h⟩ := bd h
    refine x_callR X [.int x2, .int a] [.int q6] (c_X7_letter K.l K.D g x2 a u q7 e7) ok_X7_letter m_X7_101 0 rfl rfl rfl rfl (Nat.le_of_ble_eq_true rfl) ⟨Nat.zero_le _, Nat.zero_le _⟩ ⟨rfl, rfl, by decide, by decide⟩ dX7_equal_38 ?_
    refine x_icmp_eq (tgt := 46) X dX7_equal_41 (by decide) (fun c8 => ?_) (fun c8 => ?_)
    · replace h := if_t c8 h
      refine x_iinc (v := (a + 1)) (lv2 := [(3, .int (a + 1)), (0, .ref (g.1 0)), (1, .int x1), (2, .int x2)]) X dX7_equal_46 3 rfl rfl (by decide) rfl ?_
      refine x_goto (tgt := 19) X dX7_equal_49 (by decide) ?_
      refine x_sub [1, 2, 3, 0] rfl ?_
      have h9 := k1 _ (Option.some.inj h).symm
      exact h9
    · replace h := if_f c8 h
      refine x_iconst (v := 0) X dX7_equal_44 (by decide) ?_
      exact x_zret X rfl (roE (k0 _ (Option.some.inj h).symm)) dX7_equal_45
set_option maxRecDepth 100000 in
set_option maxHeartbeats 4000000 in
theorem c_X7_equal (l : Launch) (D : va_G) (g : Gw) (p0 : Int32) (p1 : Int32) (u : St) (ret : Int32) (h : f_X7_equal p0 p1 u = some ret) : metI l D g (wdM g) yX7_equal cX7_equal 4 .boolean rm_X7_equal [.ref (g.1 0), .int p0, .int p1] u (ret, u) := by
  refine metI_of (own := RX7) (lv := [(0, .ref (g.1 0)), (1, .int p0), (2, .int p1)]) (by decide) rfl rfl (Nat.le_of_ble_eq_true rfl) (fun K hl9 hD9 X => ?_)
  subst hl9
  subst hD9
  unfold f_X7_equal at h
  refine x_aload_n X dX7_equal_0 rfl 0 rfl ?_
  refine x_get (v := .ref (g.1 7)) X 0 15 in_X7 rfl rfl (by decide) m_X7_28 rfl dX7_equal_1 ?_
  refine x_iload_n X dX7_equal_4 rfl 1 rfl ?_
  obtain ⟨i1, h⟩ := chk_some h
  refine x_iald (f := (u 36)) X 7 0 rfl rfl i1 dX7_equal_5 ?_
  refine x_aload_n X dX7_equal_6 rfl 0 rfl ?_
  refine x_get (v := .ref (g.1 7)) X 0 15 in_X7 rfl rfl (by decide) m_X7_28 rfl dX7_equal_7 ?_
  refine x_iload_n X dX7_equal_10 rfl 2 rfl ?_
  obtain ⟨i2, h⟩ := chk_some h
  refine x_iald (f := (u 36)) X 7 0 rfl rfl i2 dX7_equal_11 ?_
  refine x_icmp_eq (tgt := 17) X dX7_equal_12 (by decide) (fun c3 => ?_) (fun c3 => ?_)
  · replace h := if_t c3 h
    refine x_iconst (v := 0) X dX7_equal_17 (by decide) ?_
    refine x_istore_n (lv2 := [(3, .int 0), (0, .ref (g.1 0)), (1, .int p0), (2, .int p1)]) X dX7_equal_18 rfl (by decide) rfl ?_
    refine x_sub [1, 2, 3, 0] rfl ?_
    obtain ⟨q90, e9, h⟩ := bd h
    refine loopF_w (WH := H_X7_equal_19 p0 p1 K g u ret) (KB := E_X7_equal_19 p0 p1 K g u ret) (fun a9 r9 h9 k8 k7 => w_X7_equal_b19 p0 p1 u ret X a9 r9 h9 k8 k7) FU 0 q90 e9 ?_
    rcases q90 with q9 | q9
    · replace h := sl h
      exact (Option.some.inj h)
    · replace h := sr h
      show XW K 0 0 4 (QI K g (wdM g) (ret, u)) (wdM g) u 52 [] []
      refine x_iconst (v := 1) X dX7_equal_52 (by decide) ?_
      exact x_zret X rfl (roE (Option.some.inj h)) dX7_equal_53
  · replace h := if_f c3 h
    refine x_iconst (v := 0) X dX7_equal_15 (by decide) ?_
    exact x_zret X rfl (roE (Option.some.inj h)) dX7_equal_16
abbrev H_X7_fieldName_2 (x1 : Int32) (K : Cx) (g : Gw) (u : St) (ret : Int32) (a : Int32) : Prop := XW K 0 0 4 (QI K g (wdM g) (ret, u)) (wdM g) u 2 [(0, .ref (g.1 0)), (1, .int x1), (2, .int a)] []
abbrev E_X7_fieldName_2 (x1 : Int32) (K : Cx) (g : Gw) (u : St) (ret : Int32) (q : (Int32) ⊕ (Unit)) : Prop := Sum.elim (fun q => q = ret) (fun q => XW K 0 0 4 (QI K g (wdM g) (ret, u)) (wdM g) u 51 [(0, .ref (g.1 0)), (1, .int x1)] []) q
set_option maxRecDepth 100000 in
set_option maxHeartbeats 4000000 in
theorem w_X7_fieldName_j43_2 {K : Cx} {g : Gw} (ret : Int32) (X : XC K g cX7_fieldName 4 RX7 (some .boolean) rm_X7_fieldName) (x1 : Int32) (u : St) (r : ((Int32) ⊕ (Unit)) ⊕ (Int32)) (h : f_X7_fieldName_j43_2 x1 u = some r) (k0 : ∀ q, r = .inl q → E_X7_fieldName_2 x1 K g u ret q) (k1 : ∀ q, r = .inr q → H_X7_fieldName_2 x1 K g u ret q) : XW K 0 0 4 (QI K g (wdM g) (ret, u)) (wdM g) u 43 [(1, .int x1)] [] := by
  unfold f_X7_fieldName_j43_2 at h
  refine x_iconst (v := 0) X dX7_fieldName_43 (by decide) ?_
  exact x_zret X rfl (roE (k0 _ (Option.some.inj h).symm)) dX7_fieldName_44
set_option maxRecDepth 100000 in
set_option maxHeartbeats 4000000 in
theorem w_X7_fieldName_b2 {K : Cx} {g : Gw} (x1 : Int32) (u : St) (ret : Int32) (X : XC K g cX7_fieldName 4 RX7 (some .boolean) rm_X7_fieldName) (a : Int32) (r : ((Int32) ⊕ (Unit)) ⊕ (Int32)) (h : f_X7_fieldName_b2 x1 u a = some r) (k0 : ∀ q, r = .inl q → E_X7_fieldName_2 x1 K g u ret q) (k1 : ∀ q, r = .inr q → H_X7_fieldName_2 x1 K g u ret q) : H_X7_fieldName_2 x1 K g u ret a := by
  unfold f_X7_fieldName_b2 at h
  show XW K 0 0 4 (QI K g (wdM g) (ret, u)) (wdM g) u 2 [(0, .ref (g.1 0)), (1, .int x1), (2, .int a)] []
  refine x_iload_n X dX7_fieldName_2 rfl 2 rfl ?_
  refine x_aload_n X dX7_fieldName_3 rfl 0 rfl ?_
  refine x_get (v := .ref (g.1 7)) X 0 15 in_X7 rfl rfl (by decide) m_X7_28 rfl dX7_fieldName_4 ?_
  refine x_iload_n X dX7_fieldName_7 rfl 1 rfl ?_
  obtain ⟨i1, h⟩ := chk_some h
  refine x_iald (f := (u 36)) X 7 0 rfl rfl i1 dX7_fieldName_8 ?_
  refine x_icmp_ge (tgt := 51) X dX7_fieldName_9 (by decide) (fun c2 => ?_) (fun c2 => ?_)
  · replace h := if_t c2 h
    refine x_sub [0, 1] rfl ?_
    have h9 := k0 _ (Option.some.inj h).symm
    exact h9
  · replace h := if_f c2 h
    refine x_aload_n X dX7_fieldName_12 rfl 0 rfl ?_
    refine x_iload_n X dX7_fieldName_13 rfl 1 rfl ?_
    refine x_iload_n X dX7_fieldName_14 rfl 2 rfl ?_
    obtain ⟨q3, e3, h⟩ := bd h
    refine x_callR X [.int x1, .int a] [] (c_X7_letter K.l K.D g x1 a u q3 e3) ok_X7_letter m_X7_101 0 rfl rfl rfl rfl (Nat.le_of_ble_eq_true rfl) ⟨Nat.zero_le _, Nat.zero_le _⟩ ⟨rfl, rfl, by decide, by decide⟩ dX7_fieldName_15 ?_
    refine x_istore_n (lv2 := [(3, .int q3), (0, .ref (g.1 0)), (1, .int x1), (2, .int a)]) X dX7_fieldName_18 rfl (by decide) rfl ?_
    refine x_iload_n X dX7_fieldName_19 rfl 0 rfl ?_
    refine x_bipush (v := 46) X dX7_fieldName_20 (by decide) ?_
    refine x_icmp_eq (tgt := 43) X dX7_fieldName_22 (by decide) (fun c4 => ?_) (fun c4 => ?_)
    · replace h := if_t c4 h
      refine x_sub [2] rfl ?_
      exact w_X7_fieldName_j43_2 ret X x1 u r h k0 k1
    · replace h := if_f c4 h
      refine x_iload_n X dX7_fieldName_25 rfl 0 rfl ?_
      refine x_bipush (v := 59) X dX7_fieldName_26 (by decide) ?_
      refine x_icmp_eq (tgt := 43) X dX7_fieldName_28 (by decide) (fun c5 => ?_) (fun c5 => ?_)
      · replace h := if_t c5 h
        refine x_sub [2] rfl ?_
        exact w_X7_fieldName_j43_2 ret X x1 u r h k0 k1
      · replace h := if_f c5 h
        refine x_iload_n X dX7_fieldName_31 rfl 0 rfl ?_
        refine x_bipush (v := 91) X dX7_fieldName_32 (by decide) ?_
        refine x_icmp_eq (tgt := 43) X dX7_fieldName_34 (by decide) (fun c6 => ?_) (fun c6 => ?_)
        · replace h := if_t c6 h
          refine x_sub [2] rfl ?_
          exact w_X7_fieldName_j43_2 ret X x1 u r h k0 k1
        · replace h := if_f c6 h
          refine x_iload_n X dX7_fieldName_37 rfl 0 rfl ?_
          refine x_bipush (v := 47) X dX7_fieldName_38 (by decide) ?_
          refine x_icmp_ne (tgt := 45) X dX7_fieldName_40 (by decide) (fun c7 => ?_) (fun c7 => ?_)
          · replace h := if_f c7 h
            refine x_iinc (v := (a + 1)) (lv2 := [(2, .int (a + 1)), (3, .int q3), (0, .ref (g.1 0)), (1, .int x1)]) X dX7_fieldName_45 3 rfl rfl (by decide) rfl ?_
            refine x_goto (tgt := 2) X dX7_fieldName_48 (by decide) ?_
            refine x_sub [2, 3, 0] rfl ?_
            have h9 := k1 _ (Option.some.inj h).symm
            exact h9
          · replace h := if_t c7 h
            refine x_sub [2] rfl ?_
            exact w_X7_fieldName_j43_2 ret X x1 u r h k0 k1
set_option maxRecDepth 100000 in
set_option maxHeartbeats 4000000 in
theorem w_X7_fieldName_j65 {K : Cx} {g : Gw} (ret : Int32) (X : XC K g cX7_fieldName 4 RX7 (some .boolean) rm_X7_fieldName) (z0 : Int32) (u : St) (h : f_X7_fieldName_j65 z0 u = some ret) : XW K 0 0 4 (QI K g (wdM g) (ret, u)) (wdM g) u 65 [] [.int z0] := by
  unfold f_X7_fieldName_j65 at h
  obtain ⟨b11, h⟩ := bchk_some h
  exact x_zret X b11 (roE (Option.some.inj h)) dX7_fieldName_65
set_option maxRecDepth 100000 in
set_option maxHeartbeats 4000000 in
theorem c_X7_fieldName (l : Launch) (D : va_G) (g : Gw) (p0 : Int32) (u : St) (ret : Int32) (h : f_X7_fieldName p0 u = some ret) : metI l D g (wdM g) yX7_fieldName cX7_fieldName 4 .boolean rm_X7_fieldName [.ref (g.1 0), .int p0] u (ret, u) := by
  refine metI_of (own := RX7) (lv := [(0, .ref (g.1 0)), (1, .int p0)]) (by decide) rfl rfl (Nat.le_of_ble_eq_true rfl) (fun K hl9 hD9 X => ?_)
  subst hl9
  subst hD9
  unfold f_X7_fieldName at h
  refine x_iconst (v := 0) X dX7_fieldName_0 (by decide) ?_
  refine x_istore_n (lv2 := [(2, .int 0), (0, .ref (g.1 0)), (1, .int p0)]) X dX7_fieldName_1 rfl (by decide) rfl ?_
  refine x_sub [1, 2, 0] rfl ?_
  obtain ⟨q80, e8, h⟩ := bd h
  refine loopF_w (WH := H_X7_fieldName_2 p0 K g u ret) (KB := E_X7_fieldName_2 p0 K g u ret) (fun a9 r9 h9 k8 k7 => w_X7_fieldName_b2 p0 u ret X a9 r9 h9 k8 k7) FU 0 q80 e8 ?_
  rcases q80 with q8 | q8
  · replace h := sl h
    exact (Option.some.inj h)
  · replace h := sr h
    show XW K 0 0 4 (QI K g (wdM g) (ret, u)) (wdM g) u 51 [(0, .ref (g.1 0)), (1, .int p0)] []
    refine x_aload_n X dX7_fieldName_51 rfl 0 rfl ?_
    refine x_get (v := .ref (g.1 7)) X 0 15 in_X7 rfl rfl (by decide) m_X7_28 rfl dX7_fieldName_52 ?_
    refine x_iload_n X dX7_fieldName_55 rfl 1 rfl ?_
    obtain ⟨i9, h⟩ := chk_some h
    refine x_iald (f := (u 36)) X 7 0 rfl rfl i9 dX7_fieldName_56 ?_
    refine x_if_le (tgt := 64) X dX7_fieldName_57 (by decide) (fun c10 => ?_) (fun c10 => ?_)
    · replace h := if_t c10 h
      refine x_iconst (v := 0) X dX7_fieldName_64 (by decide) ?_
      refine x_sub [] rfl ?_
      exact w_X7_fieldName_j65 ret X 0 u h
    · replace h := if_f c10 h
      refine x_iconst (v := 1) X dX7_fieldName_60 (by decide) ?_
      refine x_goto (tgt := 65) X dX7_fieldName_61 (by decide) ?_
      refine x_sub [] rfl ?_
      exact w_X7_fieldName_j65 ret X 1 u h
