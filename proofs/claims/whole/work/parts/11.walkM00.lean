abbrev H_X7_put_36 (x2 : Int32) (K : Cx) (g : Gw) (ret : Int32 × St) (a : Int32 × St) : Prop := XW K 0 0 4 (QI K g (wdM g) ret) (wdM g) a.2 36 [(0, .ref (g.1 0)), (2, .int x2), (3, .int a.1)] []
abbrev E_X7_put_36 (x2 : Int32) (K : Cx) (g : Gw) (ret : Int32 × St) (q : (Int32 × St) ⊕ (St)) : Prop := Sum.elim (fun q => q = ret) (fun q => XW K 0 0 4 (QI K g (wdM g) ret) (wdM g) q 75 [(0, .ref (g.1 0))] []) q
set_option maxRecDepth 100000 in
set_option maxHeartbeats 4000000 in
theorem w_X7_put_b36 {K : Cx} {g : Gw} (x2 : Int32) (ret : Int32 × St) (X : XC K g cX7_put 4 RX7 (some .int) rm_X7_put) (a : Int32 × St) (r : ((Int32 × St) ⊕ (St)) ⊕ (Int32 × St)) (h : f_X7_put_b36 x2 a = some r) (k0 : ∀ q, r = .inl q → E_X7_put_36 x2 K g ret q) (k1 : ∀ q, r = .inr q → H_X7_put_36 x2 K g ret q) : H_X7_put_36 x2 K g ret a := by
  unfold f_X7_put_b36 at h
  show XW K 0 0 4 (QI K g (wdM g) ret) (wdM g) a.2 36 [(0, .ref (g.1 0)), (2, .int x2), (3, .int a.1)] []
  refine x_iload_n X dX7_put_36 rfl 2 rfl ?_
  refine x_if_lt (tgt := 75) X dX7_put_37 (by decide) (fun c3 => ?_) (fun c3 => ?_)
  · replace h := if_t c3 h
    refine x_sub [0] rfl ?_
    have h9 := k0 _ (Option.some.inj h).symm
    exact h9
  · replace h := if_f c3 h
    refine x_aload_n X dX7_put_40 rfl 0 rfl ?_
    refine x_get (v := .ref (g.1 1)) X 0 0 in_X7 rfl rfl (by decide) m_X7_7 rfl dX7_put_41 ?_
    refine x_aload_n X dX7_put_44 rfl 0 rfl ?_
    refine x_get (v := .int (a.2 0 0)) X 0 1 in_X7 rfl rfl (by decide) m_X7_59 rfl dX7_put_45 ?_
    refine x_iload_n X dX7_put_48 rfl 1 rfl ?_
    refine x_bipush (v := 8) X dX7_put_49 (by decide) ?_
    refine x_iload_n X dX7_put_51 rfl 2 rfl ?_
    refine x_imul X dX7_put_52 ?_
    refine x_ishr X dX7_put_53 ?_
    refine x_sipush (v := 255) X dX7_put_54 (by decide) ?_
    refine x_iand X dX7_put_57 ?_
    obtain ⟨i4, h⟩ := chk_some h
    refine x_iast (f := (a.2 30)) (u2 := (up a.2 30 (Int32.toNatClampNeg (a.2 0 0)) ((x2 >>> (((8 * a.1) : Int32) &&& 31)) &&& 255))) X 1 0 rfl rfl i4 (wdM_30 g a.2 (Int32.toNatClampNeg (a.2 0 0)) ((x2 >>> (((8 * a.1) : Int32) &&& 31)) &&& 255)) dX7_put_58 ?_
    refine x_aload_n X dX7_put_59 rfl 0 rfl ?_
    refine x_dup X dX7_put_60 rfl ?_
    refine x_get (v := .int (a.2 0 0)) X 0 1 in_X7 rfl rfl (by decide) m_X7_59 rfl dX7_put_61 ?_
    refine x_iconst (v := 1) X dX7_put_64 (by decide) ?_
    refine x_iadd X dX7_put_65 ?_
    refine x_put (ty := .int) (u2 := (up (up a.2 30 (Int32.toNatClampNeg (a.2 0 0)) ((x2 >>> (((8 * a.1) : Int32) &&& 31)) &&& 255)) 0 0 ((a.2 0 0) + 1))) X 0 1 in_X7 tk_X7 nk_X7 rfl rfl (by decide) m_X7_59 rfl rfl rfl rfl (Nat.le_of_ble_eq_true rfl) (wdM_0 g (up a.2 30 (Int32.toNatClampNeg (a.2 0 0)) ((x2 >>> (((8 * a.1) : Int32) &&& 31)) &&& 255)) ((a.2 0 0) + 1)) dX7_put_66 ?_
    refine x_iinc (v := (a.1 + (-1))) (lv2 := [(3, .int (a.1 + (-1))), (0, .ref (g.1 0)), (2, .int x2)]) X dX7_put_69 2 rfl rfl (by decide) rfl ?_
    refine x_goto (tgt := 36) X dX7_put_72 (by decide) ?_
    refine x_sub [1, 2, 0] rfl ?_
    have h9 := k1 _ (Option.some.inj h).symm
    exact h9
set_option maxRecDepth 100000 in
set_option maxHeartbeats 4000000 in
theorem w_X7_put_j17 {K : Cx} {g : Gw} (ret : Int32 × St) (X : XC K g cX7_put 4 RX7 (some .int) rm_X7_put) (x1 : Int32) (x2 : Int32) (u : St) (h : f_X7_put_j17 x1 x2 u = some ret) : XW K 0 0 4 (QI K g (wdM g) ret) (wdM g) u 17 [(0, .ref (g.1 0)), (1, .int x1), (2, .int x2)] [] := by
  unfold f_X7_put_j17 at h
  refine x_aload_n X dX7_put_17 rfl 0 rfl ?_
  refine x_get (v := .int (u 0 0)) X 0 1 in_X7 rfl rfl (by decide) m_X7_59 rfl dX7_put_18 ?_
  refine x_iload_n X dX7_put_21 rfl 1 rfl ?_
  refine x_iadd X dX7_put_22 ?_
  refine x_sipush (v := 400) X dX7_put_23 (by decide) ?_
  refine x_icmp_le (tgt := 32) X dX7_put_26 (by decide) (fun c2 => ?_) (fun c2 => ?_)
  · replace h := if_t c2 h
    refine x_iload_n X dX7_put_32 rfl 1 rfl ?_
    refine x_iconst (v := 1) X dX7_put_33 (by decide) ?_
    refine x_isub X dX7_put_34 ?_
    refine x_istore_n (lv2 := [(3, .int (x1 - 1)), (0, .ref (g.1 0)), (1, .int x1), (2, .int x2)]) X dX7_put_35 rfl (by decide) rfl ?_
    refine x_sub [1, 3, 0] rfl ?_
    obtain ⟨q50, e5, h⟩ := bd h
    refine loopF_w (WH := H_X7_put_36 x2 K g ret) (KB := E_X7_put_36 x2 K g ret) (fun a9 r9 h9 k8 k7 => w_X7_put_b36 x2 ret X a9 r9 h9 k8 k7) FU ((x1 - 1), u) q50 e5 ?_
    rcases q50 with q5 | q5
    · replace h := sl h
      exact (Option.some.inj h)
    · replace h := sr h
      show XW K 0 0 4 (QI K g (wdM g) ret) (wdM g) q5 75 [(0, .ref (g.1 0))] []
      refine x_aload_n X dX7_put_75 rfl 0 rfl ?_
      refine x_get (v := .int (q5 0 0)) X 0 1 in_X7 rfl rfl (by decide) m_X7_59 rfl dX7_put_76 ?_
      exact x_iret X (Option.some.inj h) dX7_put_79
  · replace h := if_f c2 h
    refine x_bipush (v := (-2)) X dX7_put_29 (by decide) ?_
    exact x_iret X (Option.some.inj h) dX7_put_31
set_option maxRecDepth 100000 in
set_option maxHeartbeats 4000000 in
theorem c_X7_put (l : Launch) (D : va_G) (g : Gw) (p0 : Int32) (p1 : Int32) (u : St) (ret : Int32 × St) (h : f_X7_put p0 p1 u = some ret) : metI l D g (wdM g) yX7_put cX7_put 4 .int rm_X7_put [.ref (g.1 0), .int p0, .int p1] u ret := by
  refine metI_of (own := RX7) (lv := [(0, .ref (g.1 0)), (1, .int p0), (2, .int p1)]) (by decide) rfl rfl (Nat.le_of_ble_eq_true rfl) (fun K hl9 hD9 X => ?_)
  subst hl9
  subst hD9
  unfold f_X7_put at h
  refine x_iload_n X dX7_put_0 rfl 1 rfl ?_
  refine x_iconst (v := 1) X dX7_put_1 (by decide) ?_
  refine x_icmp_eq (tgt := 17) X dX7_put_2 (by decide) (fun c1 => ?_) (fun c1 => ?_)
  · replace h := if_t c1 h
    exact w_X7_put_j17 ret X p0 p1 u h
  · replace h := if_f c1 h
    refine x_iload_n X dX7_put_5 rfl 1 rfl ?_
    refine x_iconst (v := 2) X dX7_put_6 (by decide) ?_
    refine x_icmp_eq (tgt := 17) X dX7_put_7 (by decide) (fun c6 => ?_) (fun c6 => ?_)
    · replace h := if_t c6 h
      exact w_X7_put_j17 ret X p0 p1 u h
    · replace h := if_f c6 h
      refine x_iload_n X dX7_put_10 rfl 1 rfl ?_
      refine x_iconst (v := 4) X dX7_put_11 (by decide) ?_
      refine x_icmp_eq (tgt := 17) X dX7_put_12 (by decide) (fun c7 => ?_) (fun c7 => ?_)
      · replace h := if_t c7 h
        exact w_X7_put_j17 ret X p0 p1 u h
      · replace h := if_f c7 h
        refine x_iconst (v := (-1)) X dX7_put_15 (by decide) ?_
        exact x_iret X (Option.some.inj h) dX7_put_16
set_option maxRecDepth 100000 in
set_option maxHeartbeats 4000000 in
theorem w_X7_text_j10 {K : Cx} {g : Gw} (ret : Int32 × St) (X : XC K g cX7_text 5 RX7 (some .int) rm_X7_text) (u : St) (h : f_X7_text_j10 u = some ret) : XW K 0 0 5 (QI K g (wdM g) ret) (wdM g) u 10 [] [] := by
  unfold f_X7_text_j10 at h
  refine x_iconst (v := (-1)) X dX7_text_10 (by decide) ?_
  exact x_iret X (Option.some.inj h) dX7_text_11
abbrev H_X7_text_66 (x1 : Int32) (x2 : Int64) (K : Cx) (g : Gw) (ret : Int32 × St) (a : Int32 × St) : Prop := XW K 0 0 5 (QI K g (wdM g) ret) (wdM g) a.2 66 [(0, .ref (g.1 0)), (1, .int x1), (2, .long x2), (4, .int a.1)] []
abbrev E_X7_text_66 (x1 : Int32) (x2 : Int64) (K : Cx) (g : Gw) (ret : Int32 × St) (q : (Int32 × St) ⊕ (St)) : Prop := Sum.elim (fun q => q = ret) (fun q => XW K 0 0 5 (QI K g (wdM g) ret) (wdM g) q 104 [(0, .ref (g.1 0)), (1, .int x1)] []) q
set_option maxRecDepth 100000 in
set_option maxHeartbeats 4000000 in
theorem w_X7_text_b66 {K : Cx} {g : Gw} (x1 : Int32) (x2 : Int64) (ret : Int32 × St) (X : XC K g cX7_text 5 RX7 (some .int) rm_X7_text) (a : Int32 × St) (r : ((Int32 × St) ⊕ (St)) ⊕ (Int32 × St)) (h : f_X7_text_b66 x1 x2 a = some r) (k0 : ∀ q, r = .inl q → E_X7_text_66 x1 x2 K g ret q) (k1 : ∀ q, r = .inr q → H_X7_text_66 x1 x2 K g ret q) : H_X7_text_66 x1 x2 K g ret a := by
  unfold f_X7_text_b66 at h
  show XW K 0 0 5 (QI K g (wdM g) ret) (wdM g) a.2 66 [(0, .ref (g.1 0)), (1, .int x1), (2, .long x2), (4, .int a.1)] []
  refine x_iload X dX7_text_66 3 rfl ?_
  refine x_iload_n X dX7_text_68 rfl 1 rfl ?_
  refine x_icmp_ge (tgt := 104) X dX7_text_69 (by decide) (fun c7 => ?_) (fun c7 => ?_)
  · replace h := if_t c7 h
    refine x_sub [0, 1] rfl ?_
    have h9 := k0 _ (Option.some.inj h).symm
    exact h9
  · replace h := if_f c7 h
    refine x_aload_n X dX7_text_72 rfl 0 rfl ?_
    refine x_get (v := .ref (g.1 1)) X 0 0 in_X7 rfl rfl (by decide) m_X7_7 rfl dX7_text_73 ?_
    refine x_aload_n X dX7_text_76 rfl 0 rfl ?_
    refine x_get (v := .int (a.2 0 0)) X 0 1 in_X7 rfl rfl (by decide) m_X7_59 rfl dX7_text_77 ?_
    refine x_iconst (v := 3) X dX7_text_80 (by decide) ?_
    refine x_iadd X dX7_text_81 ?_
    refine x_iload X dX7_text_82 3 rfl ?_
    refine x_iadd X dX7_text_84 ?_
    refine x_lload_n X dX7_text_85 rfl 2 rfl ?_
    refine x_bipush (v := 8) X dX7_text_86 (by decide) ?_
    refine x_iload X dX7_text_88 3 rfl ?_
    refine x_imul X dX7_text_90 ?_
    refine x_lshr X dX7_text_91 ?_
    refine x_l2i X dX7_text_92 ?_
    refine x_sipush (v := 255) X dX7_text_93 (by decide) ?_
    refine x_iand X dX7_text_96 ?_
    obtain ⟨i8, h⟩ := chk_some h
    refine x_iast (f := (a.2 30)) (u2 := (up a.2 30 (Int32.toNatClampNeg (((a.2 0 0) + 3) + a.1)) (((x2 >>> ((Int32.toInt64 (8 * a.1)) &&& 63)).toInt32) &&& 255))) X 1 0 rfl rfl i8 (wdM_30 g a.2 (Int32.toNatClampNeg (((a.2 0 0) + 3) + a.1)) (((x2 >>> ((Int32.toInt64 (8 * a.1)) &&& 63)).toInt32) &&& 255)) dX7_text_97 ?_
    refine x_iinc (v := (a.1 + 1)) (lv2 := [(4, .int (a.1 + 1)), (0, .ref (g.1 0)), (1, .int x1), (2, .long x2)]) X dX7_text_98 3 rfl rfl (by decide) rfl ?_
    refine x_goto (tgt := 66) X dX7_text_101 (by decide) ?_
    refine x_sub [1, 2, 3, 0] rfl ?_
    have h9 := k1 _ (Option.some.inj h).symm
    exact h9
set_option maxRecDepth 100000 in
set_option maxHeartbeats 4000000 in
theorem c_X7_text (l : Launch) (D : va_G) (g : Gw) (p0 : Int32) (p1 : Int64) (u : St) (ret : Int32 × St) (h : f_X7_text p0 p1 u = some ret) : metI l D g (wdM g) yX7_text cX7_text 5 .int rm_X7_text [.ref (g.1 0), .int p0, .long p1] u ret := by
  refine metI_of (own := RX7) (lv := [(0, .ref (g.1 0)), (1, .int p0), (2, .long p1)]) (by decide) rfl rfl (Nat.le_of_ble_eq_true rfl) (fun K hl9 hD9 X => ?_)
  subst hl9
  subst hD9
  unfold f_X7_text at h
  refine x_iload_n X dX7_text_0 rfl 1 rfl ?_
  refine x_if_lt (tgt := 10) X dX7_text_1 (by decide) (fun c1 => ?_) (fun c1 => ?_)
  · replace h := if_t c1 h
    refine x_sub [] rfl ?_
    exact w_X7_text_j10 ret X u h
  · replace h := if_f c1 h
    refine x_iload_n X dX7_text_4 rfl 1 rfl ?_
    refine x_bipush (v := 8) X dX7_text_5 (by decide) ?_
    refine x_icmp_le (tgt := 12) X dX7_text_7 (by decide) (fun c2 => ?_) (fun c2 => ?_)
    · replace h := if_t c2 h
      refine x_aload_n X dX7_text_12 rfl 0 rfl ?_
      refine x_get (v := .int (u 0 0)) X 0 1 in_X7 rfl rfl (by decide) m_X7_59 rfl dX7_text_13 ?_
      refine x_iconst (v := 3) X dX7_text_16 (by decide) ?_
      refine x_iadd X dX7_text_17 ?_
      refine x_iload_n X dX7_text_18 rfl 1 rfl ?_
      refine x_iadd X dX7_text_19 ?_
      refine x_sipush (v := 400) X dX7_text_20 (by decide) ?_
      refine x_icmp_le (tgt := 29) X dX7_text_23 (by decide) (fun c3 => ?_) (fun c3 => ?_)
      · replace h := if_t c3 h
        refine x_aload_n X dX7_text_29 rfl 0 rfl ?_
        refine x_get (v := .ref (g.1 1)) X 0 0 in_X7 rfl rfl (by decide) m_X7_7 rfl dX7_text_30 ?_
        refine x_aload_n X dX7_text_33 rfl 0 rfl ?_
        refine x_get (v := .int (u 0 0)) X 0 1 in_X7 rfl rfl (by decide) m_X7_59 rfl dX7_text_34 ?_
        refine x_iconst (v := 1) X dX7_text_37 (by decide) ?_
        obtain ⟨i4, h⟩ := chk_some h
        refine x_iast (f := (u 30)) (u2 := (up u 30 (Int32.toNatClampNeg (u 0 0)) 1)) X 1 0 rfl rfl i4 (wdM_30 g u (Int32.toNatClampNeg (u 0 0)) 1) dX7_text_38 ?_
        refine x_aload_n X dX7_text_39 rfl 0 rfl ?_
        refine x_get (v := .ref (g.1 1)) X 0 0 in_X7 rfl rfl (by decide) m_X7_7 rfl dX7_text_40 ?_
        refine x_aload_n X dX7_text_43 rfl 0 rfl ?_
        refine x_get (v := .int (u 0 0)) X 0 1 in_X7 rfl rfl (by decide) m_X7_59 rfl dX7_text_44 ?_
        refine x_iconst (v := 1) X dX7_text_47 (by decide) ?_
        refine x_iadd X dX7_text_48 ?_
        refine x_iconst (v := 0) X dX7_text_49 (by decide) ?_
        obtain ⟨i5, h⟩ := chk_some h
        refine x_iast (f := ((up u 30 (Int32.toNatClampNeg (u 0 0)) 1) 30)) (u2 := (up (up u 30 (Int32.toNatClampNeg (u 0 0)) 1) 30 (Int32.toNatClampNeg ((u 0 0) + 1)) 0)) X 1 0 rfl rfl i5 (wdM_30 g (up u 30 (Int32.toNatClampNeg (u 0 0)) 1) (Int32.toNatClampNeg ((u 0 0) + 1)) 0) dX7_text_50 ?_
        refine x_aload_n X dX7_text_51 rfl 0 rfl ?_
        refine x_get (v := .ref (g.1 1)) X 0 0 in_X7 rfl rfl (by decide) m_X7_7 rfl dX7_text_52 ?_
        refine x_aload_n X dX7_text_55 rfl 0 rfl ?_
        refine x_get (v := .int (u 0 0)) X 0 1 in_X7 rfl rfl (by decide) m_X7_59 rfl dX7_text_56 ?_
        refine x_iconst (v := 2) X dX7_text_59 (by decide) ?_
        refine x_iadd X dX7_text_60 ?_
        refine x_iload_n X dX7_text_61 rfl 1 rfl ?_
        obtain ⟨i6, h⟩ := chk_some h
        refine x_iast (f := ((up (up u 30 (Int32.toNatClampNeg (u 0 0)) 1) 30 (Int32.toNatClampNeg ((u 0 0) + 1)) 0) 30)) (u2 := (up (up (up u 30 (Int32.toNatClampNeg (u 0 0)) 1) 30 (Int32.toNatClampNeg ((u 0 0) + 1)) 0) 30 (Int32.toNatClampNeg ((u 0 0) + 2)) p0)) X 1 0 rfl rfl i6 (wdM_30 g (up (up u 30 (Int32.toNatClampNeg (u 0 0)) 1) 30 (Int32.toNatClampNeg ((u 0 0) + 1)) 0) (Int32.toNatClampNeg ((u 0 0) + 2)) p0) dX7_text_62 ?_
        refine x_iconst (v := 0) X dX7_text_63 (by decide) ?_
        refine x_istore (lv2 := [(4, .int 0), (0, .ref (g.1 0)), (1, .int p0), (2, .long p1)]) X dX7_text_64 (by decide) rfl ?_
        refine x_sub [1, 2, 3, 0] rfl ?_
        obtain ⟨q90, e9, h⟩ := bd h
        refine loopF_w (WH := H_X7_text_66 p0 p1 K g ret) (KB := E_X7_text_66 p0 p1 K g ret) (fun a9 r9 h9 k8 k7 => w_X7_text_b66 p0 p1 ret X a9 r9 h9 k8 k7) FU (0, (up (up (up u 30 (Int32.toNatClampNeg (u 0 0)) 1) 30 (Int32.toNatClampNeg ((u 0 0) + 1)) 0) 30 (Int32.toNatClampNeg ((u 0 0) + 2)) p0)) q90 e9 ?_
        rcases q90 with q9 | q9
        · replace h := sl h
          exact (Option.some.inj h)
        · replace h := sr h
          show XW K 0 0 5 (QI K g (wdM g) ret) (wdM g) q9 104 [(0, .ref (g.1 0)), (1, .int p0)] []
          refine x_aload_n X dX7_text_104 rfl 0 rfl ?_
          refine x_dup X dX7_text_105 rfl ?_
          refine x_get (v := .int (q9 0 0)) X 0 1 in_X7 rfl rfl (by decide) m_X7_59 rfl dX7_text_106 ?_
          refine x_iconst (v := 3) X dX7_text_109 (by decide) ?_
          refine x_iload_n X dX7_text_110 rfl 1 rfl ?_
          refine x_iadd X dX7_text_111 ?_
          refine x_iadd X dX7_text_112 ?_
          refine x_put (ty := .int) (u2 := (up q9 0 0 ((q9 0 0) + (3 + p0)))) X 0 1 in_X7 tk_X7 nk_X7 rfl rfl (by decide) m_X7_59 rfl rfl rfl rfl (Nat.le_of_ble_eq_true rfl) (wdM_0 g q9 ((q9 0 0) + (3 + p0))) dX7_text_113 ?_
          refine x_aload_n X dX7_text_116 rfl 0 rfl ?_
          refine x_get (v := .int ((q9 0 0) + (3 + p0))) X 0 1 in_X7 rfl rfl (by decide) m_X7_59 rfl dX7_text_117 ?_
          exact x_iret X (Option.some.inj h) dX7_text_120
      · replace h := if_f c3 h
        refine x_bipush (v := (-2)) X dX7_text_26 (by decide) ?_
        exact x_iret X (Option.some.inj h) dX7_text_28
    · replace h := if_f c2 h
      refine x_sub [] rfl ?_
      exact w_X7_text_j10 ret X u h
set_option maxRecDepth 100000 in
set_option maxHeartbeats 4000000 in
theorem w_X7_patch_j12 {K : Cx} {g : Gw} (ret : Int32 × St) (X : XC K g cX7_patch 4 RX7 (some .int) rm_X7_patch) (u : St) (h : f_X7_patch_j12 u = some ret) : XW K 0 0 4 (QI K g (wdM g) ret) (wdM g) u 12 [] [] := by
  unfold f_X7_patch_j12 at h
  refine x_iconst (v := (-1)) X dX7_patch_12 (by decide) ?_
  exact x_iret X (Option.some.inj h) dX7_patch_13
set_option maxRecDepth 100000 in
set_option maxHeartbeats 4000000 in
theorem c_X7_patch (l : Launch) (D : va_G) (g : Gw) (p0 : Int32) (p1 : Int32) (u : St) (ret : Int32 × St) (h : f_X7_patch p0 p1 u = some ret) : metI l D g (wdM g) yX7_patch cX7_patch 4 .int rm_X7_patch [.ref (g.1 0), .int p0, .int p1] u ret := by
  refine metI_of (own := RX7) (lv := [(0, .ref (g.1 0)), (1, .int p0), (2, .int p1)]) (by decide) rfl rfl (Nat.le_of_ble_eq_true rfl) (fun K hl9 hD9 X => ?_)
  subst hl9
  subst hD9
  unfold f_X7_patch at h
  refine x_iload_n X dX7_patch_0 rfl 1 rfl ?_
  refine x_if_lt (tgt := 12) X dX7_patch_1 (by decide) (fun c1 => ?_) (fun c1 => ?_)
  · replace h := if_t c1 h
    refine x_sub [] rfl ?_
    exact w_X7_patch_j12 ret X u h
  · replace h := if_f c1 h
    refine x_iload_n X dX7_patch_4 rfl 1 rfl ?_
    refine x_aload_n X dX7_patch_5 rfl 0 rfl ?_
    refine x_get (v := .int (u 0 0)) X 0 1 in_X7 rfl rfl (by decide) m_X7_59 rfl dX7_patch_6 ?_
    refine x_icmp_lt (tgt := 14) X dX7_patch_9 (by decide) (fun c2 => ?_) (fun c2 => ?_)
    · replace h := if_t c2 h
      refine x_aload_n X dX7_patch_14 rfl 0 rfl ?_
      refine x_get (v := .ref (g.1 1)) X 0 0 in_X7 rfl rfl (by decide) m_X7_7 rfl dX7_patch_15 ?_
      refine x_iload_n X dX7_patch_18 rfl 1 rfl ?_
      obtain ⟨i3, h⟩ := chk_some h
      refine x_iald (f := (u 30)) X 1 0 rfl rfl i3 dX7_patch_19 ?_
      refine x_istore_n (lv2 := [(3, .int ((u 30) (Int32.toNatClampNeg p0))), (0, .ref (g.1 0)), (1, .int p0), (2, .int p1)]) X dX7_patch_20 rfl (by decide) rfl ?_
      refine x_aload_n X dX7_patch_21 rfl 1 rfl ?_
      refine x_get (v := .ref (g.1 1)) X 0 0 in_X7 rfl rfl (by decide) m_X7_7 rfl dX7_patch_22 ?_
      refine x_iload_n X dX7_patch_25 rfl 2 rfl ?_
      refine x_iload_n X dX7_patch_26 rfl 3 rfl ?_
      refine x_sipush (v := 255) X dX7_patch_27 (by decide) ?_
      refine x_iand X dX7_patch_30 ?_
      obtain ⟨i4, h⟩ := chk_some h
      refine x_iast (f := (u 30)) (u2 := (up u 30 (Int32.toNatClampNeg p0) (p1 &&& 255))) X 1 0 rfl rfl i4 (wdM_30 g u (Int32.toNatClampNeg p0) (p1 &&& 255)) dX7_patch_31 ?_
      refine x_iload_n X dX7_patch_32 rfl 0 rfl ?_
      exact x_iret X (Option.some.inj h) dX7_patch_33
    · replace h := if_f c2 h
      refine x_sub [] rfl ?_
      exact w_X7_patch_j12 ret X u h
set_option maxRecDepth 100000 in
set_option maxHeartbeats 4000000 in
theorem w_X7_missing_j24 {K : Cx} {g : Gw} (ret : Int32) (X : XC K g cX7_missing 3 RX7 (some .boolean) rm_X7_missing) (z0 : Int32) (u : St) (h : f_X7_missing_j24 z0 u = some ret) : XW K 0 0 3 (QI K g (wdM g) (ret, u)) (wdM g) u 24 [] [.int z0] := by
  unfold f_X7_missing_j24 at h
  obtain ⟨b2, h⟩ := bchk_some h
  exact x_zret X b2 (roE (Option.some.inj h)) dX7_missing_24
set_option maxRecDepth 100000 in
set_option maxHeartbeats 4000000 in
theorem w_X7_missing_j19 {K : Cx} {g : Gw} (ret : Int32) (X : XC K g cX7_missing 3 RX7 (some .boolean) rm_X7_missing) (u : St) (h : f_X7_missing_j19 u = some ret) : XW K 0 0 3 (QI K g (wdM g) (ret, u)) (wdM g) u 19 [] [] := by
  unfold f_X7_missing_j19 at h
  refine x_iconst (v := 1) X dX7_missing_19 (by decide) ?_
  refine x_goto (tgt := 24) X dX7_missing_20 (by decide) ?_
  exact w_X7_missing_j24 ret X 1 u h
set_option maxRecDepth 100000 in
set_option maxHeartbeats 4000000 in
theorem c_X7_missing (l : Launch) (D : va_G) (g : Gw) (p0 : Int32) (p1 : Int32) (u : St) (ret : Int32) (h : f_X7_missing p0 p1 u = some ret) : metI l D g (wdM g) yX7_missing cX7_missing 3 .boolean rm_X7_missing [.ref (g.1 0), .int p0, .int p1] u (ret, u) := by
  refine metI_of (own := RX7) (lv := [(0, .ref (g.1 0)), (1, .int p0), (2, .int p1)]) (by decide) rfl rfl (Nat.le_of_ble_eq_true rfl) (fun K hl9 hD9 X => ?_)
  subst hl9
  subst hD9
  unfold f_X7_missing at h
  refine x_iload_n X dX7_missing_0 rfl 1 rfl ?_
  refine x_if_lt (tgt := 19) X dX7_missing_1 (by decide) (fun c1 => ?_) (fun c1 => ?_)
  · replace h := if_t c1 h
    refine x_sub [] rfl ?_
    exact w_X7_missing_j19 ret X u h
  · replace h := if_f c1 h
    refine x_iload_n X dX7_missing_4 rfl 2 rfl ?_
    refine x_iconst (v := 1) X dX7_missing_5 (by decide) ?_
    refine x_icmp_lt (tgt := 19) X dX7_missing_6 (by decide) (fun c3 => ?_) (fun c3 => ?_)
    · replace h := if_t c3 h
      refine x_sub [] rfl ?_
      exact w_X7_missing_j19 ret X u h
    · replace h := if_f c3 h
      refine x_iload_n X dX7_missing_9 rfl 1 rfl ?_
      refine x_aload_n X dX7_missing_10 rfl 0 rfl ?_
      refine x_get (v := .int (u 0 0)) X 0 1 in_X7 rfl rfl (by decide) m_X7_59 rfl dX7_missing_11 ?_
      refine x_iload_n X dX7_missing_14 rfl 2 rfl ?_
      refine x_isub X dX7_missing_15 ?_
      refine x_icmp_le (tgt := 23) X dX7_missing_16 (by decide) (fun c4 => ?_) (fun c4 => ?_)
      · replace h := if_t c4 h
        refine x_iconst (v := 0) X dX7_missing_23 (by decide) ?_
        refine x_sub [] rfl ?_
        exact w_X7_missing_j24 ret X 0 u h
      · replace h := if_f c4 h
        refine x_sub [] rfl ?_
        exact w_X7_missing_j19 ret X u h
abbrev H_X7_take_12 (x2 : Int32) (K : Cx) (g : Gw) (ret : St) (a : Int32 × St) : Prop := XW K 0 0 4 (QV K g (wdM g) ret) (wdM g) a.2 12 [(0, .ref (g.1 0)), (2, .int x2), (3, .int a.1)] []
abbrev E_X7_take_12 (x2 : Int32) (K : Cx) (g : Gw) (ret : St) (q : (St) ⊕ (St)) : Prop := Sum.elim (fun q => q = ret) (fun q => XW K 0 0 4 (QV K g (wdM g) ret) (wdM g) q 40 [] []) q
set_option maxRecDepth 100000 in
set_option maxHeartbeats 4000000 in
theorem w_X7_take_b12 {K : Cx} {g : Gw} (x2 : Int32) (ret : St) (X : XC K g cX7_take 4 RX7 none rm_X7_take) (a : Int32 × St) (r : ((St) ⊕ (St)) ⊕ (Int32 × St)) (h : f_X7_take_b12 x2 a = some r) (k0 : ∀ q, r = .inl q → E_X7_take_12 x2 K g ret q) (k1 : ∀ q, r = .inr q → H_X7_take_12 x2 K g ret q) : H_X7_take_12 x2 K g ret a := by
  unfold f_X7_take_b12 at h
  show XW K 0 0 4 (QV K g (wdM g) ret) (wdM g) a.2 12 [(0, .ref (g.1 0)), (2, .int x2), (3, .int a.1)] []
  refine x_iload_n X dX7_take_12 rfl 2 rfl ?_
  refine x_aload_n X dX7_take_13 rfl 0 rfl ?_
  refine x_get (v := .int (a.2 0 0)) X 0 1 in_X7 rfl rfl (by decide) m_X7_59 rfl dX7_take_14 ?_
  refine x_icmp_ge (tgt := 40) X dX7_take_17 (by decide) (fun c1 => ?_) (fun c1 => ?_)
  · replace h := if_t c1 h
    refine x_sub [] rfl ?_
    have h9 := k0 _ (Option.some.inj h).symm
    exact h9
  · replace h := if_f c1 h
    refine x_aload_n X dX7_take_20 rfl 0 rfl ?_
    refine x_get (v := .ref (g.1 1)) X 0 0 in_X7 rfl rfl (by decide) m_X7_7 rfl dX7_take_21 ?_
    refine x_iload_n X dX7_take_24 rfl 2 rfl ?_
    refine x_aload_n X dX7_take_25 rfl 0 rfl ?_
    refine x_get (v := .ref (g.1 1)) X 0 0 in_X7 rfl rfl (by decide) m_X7_7 rfl dX7_take_26 ?_
    refine x_iload_n X dX7_take_29 rfl 2 rfl ?_
    refine x_iload_n X dX7_take_30 rfl 1 rfl ?_
    refine x_iadd X dX7_take_31 ?_
    obtain ⟨i2, h⟩ := chk_some h
    refine x_iald (f := (a.2 30)) X 1 0 rfl rfl i2 dX7_take_32 ?_
    obtain ⟨i3, h⟩ := chk_some h
    refine x_iast (f := (a.2 30)) (u2 := (up a.2 30 (Int32.toNatClampNeg a.1) ((a.2 30) (Int32.toNatClampNeg (a.1 + x2))))) X 1 0 rfl rfl i3 (wdM_30 g a.2 (Int32.toNatClampNeg a.1) ((a.2 30) (Int32.toNatClampNeg (a.1 + x2)))) dX7_take_33 ?_
    refine x_iinc (v := (a.1 + 1)) (lv2 := [(3, .int (a.1 + 1)), (0, .ref (g.1 0)), (2, .int x2)]) X dX7_take_34 2 rfl rfl (by decide) rfl ?_
    refine x_goto (tgt := 12) X dX7_take_37 (by decide) ?_
    refine x_sub [1, 2, 0] rfl ?_
    have h9 := k1 _ (Option.some.inj h).symm
    exact h9
set_option maxRecDepth 100000 in
set_option maxHeartbeats 4000000 in
theorem c_X7_take (l : Launch) (D : va_G) (g : Gw) (p0 : Int32) (p1 : Int32) (u : St) (ret : St) (h : f_X7_take p0 p1 u = some ret) : metV l D g (wdM g) yX7_take cX7_take 4 rm_X7_take [.ref (g.1 0), .int p0, .int p1] u ret := by
  refine metV_of (own := RX7) (lv := [(0, .ref (g.1 0)), (1, .int p0), (2, .int p1)]) (by decide) rfl rfl (Nat.le_of_ble_eq_true rfl) (fun K hl9 hD9 X => ?_)
  subst hl9
  subst hD9
  unfold f_X7_take at h
  refine x_aload_n X dX7_take_0 rfl 0 rfl ?_
  refine x_dup X dX7_take_1 rfl ?_
  refine x_get (v := .int (u 0 0)) X 0 1 in_X7 rfl rfl (by decide) m_X7_59 rfl dX7_take_2 ?_
  refine x_iload_n X dX7_take_5 rfl 2 rfl ?_
  refine x_isub X dX7_take_6 ?_
  refine x_put (ty := .int) (u2 := (up u 0 0 ((u 0 0) - p1))) X 0 1 in_X7 tk_X7 nk_X7 rfl rfl (by decide) m_X7_59 rfl rfl rfl rfl (Nat.le_of_ble_eq_true rfl) (wdM_0 g u ((u 0 0) - p1)) dX7_take_7 ?_
  refine x_iload_n X dX7_take_10 rfl 1 rfl ?_
  refine x_istore_n (lv2 := [(3, .int p0), (0, .ref (g.1 0)), (1, .int p0), (2, .int p1)]) X dX7_take_11 rfl (by decide) rfl ?_
  refine x_sub [1, 3, 0] rfl ?_
  obtain ⟨q40, e4, h⟩ := bd h
  refine loopF_w (WH := H_X7_take_12 p1 K g ret) (KB := E_X7_take_12 p1 K g ret) (fun a9 r9 h9 k8 k7 => w_X7_take_b12 p1 ret X a9 r9 h9 k8 k7) FU (p0, (up u 0 0 ((u 0 0) - p1))) q40 e4 ?_
  rcases q40 with q4 | q4
  · replace h := sl h
    exact (Option.some.inj h)
  · replace h := sr h
    show XW K 0 0 4 (QV K g (wdM g) ret) (wdM g) q4 40 [] []
    exact x_vret X (Option.some.inj h) dX7_take_40
set_option maxRecDepth 100000 in
set_option maxHeartbeats 4000000 in
theorem c_X7_cut (l : Launch) (D : va_G) (g : Gw) (p0 : Int32) (p1 : Int32) (u : St) (ret : Int32 × St) (h : f_X7_cut p0 p1 u = some ret) : metI l D g (wdM g) yX7_cut cX7_cut 3 .int rm_X7_cut [.ref (g.1 0), .int p0, .int p1] u ret := by
  refine metI_of (own := RX7) (lv := [(0, .ref (g.1 0)), (1, .int p0), (2, .int p1)]) (by decide) rfl rfl (Nat.le_of_ble_eq_true rfl) (fun K hl9 hD9 X => ?_)
  subst hl9
  subst hD9
  unfold f_X7_cut at h
  refine x_aload_n X dX7_cut_0 rfl 0 rfl ?_
  refine x_iload_n X dX7_cut_1 rfl 1 rfl ?_
  refine x_iload_n X dX7_cut_2 rfl 2 rfl ?_
  obtain ⟨q1, e1, h⟩ := bd h
  refine x_callR X [.int p0, .int p1] [] (c_X7_missing K.l K.D g p0 p1 u q1 e1) ok_X7_missing m_X7_63 0 rfl rfl rfl rfl (Nat.le_of_ble_eq_true rfl) ⟨Nat.zero_le _, Nat.zero_le _⟩ ⟨rfl, rfl, by decide, by decide⟩ dX7_cut_3 ?_
  refine x_if_eq (tgt := 11) X dX7_cut_6 (by decide) (fun c2 => ?_) (fun c2 => ?_)
  · replace h := if_t c2 h
    refine x_aload_n X dX7_cut_11 rfl 0 rfl ?_
    refine x_iload_n X dX7_cut_12 rfl 1 rfl ?_
    refine x_iload_n X dX7_cut_13 rfl 2 rfl ?_
    obtain ⟨q3, e3, h⟩ := bd h
    refine x_callV X [.int p0, .int p1] [] (c_X7_take K.l K.D g p0 p1 u q3 e3) ok_X7_take m_X7_67 0 rfl rfl rfl rfl (Nat.le_of_ble_eq_true rfl) ⟨Nat.zero_le _, Nat.zero_le _⟩ ⟨rfl, rfl, by decide, by decide⟩ dX7_cut_14 ?_
    refine x_aload_n X dX7_cut_17 rfl 0 rfl ?_
    refine x_get (v := .int (q3 0 0)) X 0 1 in_X7 rfl rfl (by decide) m_X7_59 rfl dX7_cut_18 ?_
    exact x_iret X (Option.some.inj h) dX7_cut_21
  · replace h := if_f c2 h
    refine x_iconst (v := (-1)) X dX7_cut_9 (by decide) ?_
    exact x_iret X (Option.some.inj h) dX7_cut_10
abbrev H_X7_twice_33 (x1 : Int32) (x2 : Int32) (K : Cx) (g : Gw) (ret : Int32 × St) (a : Int32 × St) : Prop := XW K 0 0 4 (QI K g (wdM g) ret) (wdM g) a.2 33 [(0, .ref (g.1 0)), (1, .int x1), (2, .int x2), (3, .int a.1)] []
abbrev E_X7_twice_33 (x1 : Int32) (x2 : Int32) (K : Cx) (g : Gw) (ret : Int32 × St) (q : (Int32 × St) ⊕ (St)) : Prop := Sum.elim (fun q => q = ret) (fun q => XW K 0 0 4 (QI K g (wdM g) ret) (wdM g) q 60 [(0, .ref (g.1 0)), (1, .int x1), (2, .int x2)] []) q
set_option maxRecDepth 100000 in
set_option maxHeartbeats 4000000 in
theorem w_X7_twice_b33 {K : Cx} {g : Gw} (x1 : Int32) (x2 : Int32) (ret : Int32 × St) (X : XC K g cX7_twice 4 RX7 (some .int) rm_X7_twice) (a : Int32 × St) (r : ((Int32 × St) ⊕ (St)) ⊕ (Int32 × St)) (h : f_X7_twice_b33 x1 x2 a = some r) (k0 : ∀ q, r = .inl q → E_X7_twice_33 x1 x2 K g ret q) (k1 : ∀ q, r = .inr q → H_X7_twice_33 x1 x2 K g ret q) : H_X7_twice_33 x1 x2 K g ret a := by
  unfold f_X7_twice_b33 at h
  show XW K 0 0 4 (QI K g (wdM g) ret) (wdM g) a.2 33 [(0, .ref (g.1 0)), (1, .int x1), (2, .int x2), (3, .int a.1)] []
  refine x_iload_n X dX7_twice_33 rfl 3 rfl ?_
  refine x_iload_n X dX7_twice_34 rfl 1 rfl ?_
  refine x_iload_n X dX7_twice_35 rfl 2 rfl ?_
  refine x_iadd X dX7_twice_36 ?_
  refine x_icmp_lt (tgt := 60) X dX7_twice_37 (by decide) (fun c4 => ?_) (fun c4 => ?_)
  · replace h := if_t c4 h
    refine x_sub [0, 1, 2] rfl ?_
    have h9 := k0 _ (Option.some.inj h).symm
    exact h9
  · replace h := if_f c4 h
    refine x_aload_n X dX7_twice_40 rfl 0 rfl ?_
    refine x_get (v := .ref (g.1 1)) X 0 0 in_X7 rfl rfl (by decide) m_X7_7 rfl dX7_twice_41 ?_
    refine x_iload_n X dX7_twice_44 rfl 3 rfl ?_
    refine x_iload_n X dX7_twice_45 rfl 2 rfl ?_
    refine x_iadd X dX7_twice_46 ?_
    refine x_aload_n X dX7_twice_47 rfl 0 rfl ?_
    refine x_get (v := .ref (g.1 1)) X 0 0 in_X7 rfl rfl (by decide) m_X7_7 rfl dX7_twice_48 ?_
    refine x_iload_n X dX7_twice_51 rfl 3 rfl ?_
    obtain ⟨i5, h⟩ := chk_some h
    refine x_iald (f := (a.2 30)) X 1 0 rfl rfl i5 dX7_twice_52 ?_
    obtain ⟨i6, h⟩ := chk_some h
    refine x_iast (f := (a.2 30)) (u2 := (up a.2 30 (Int32.toNatClampNeg (a.1 + x2)) ((a.2 30) (Int32.toNatClampNeg a.1)))) X 1 0 rfl rfl i6 (wdM_30 g a.2 (Int32.toNatClampNeg (a.1 + x2)) ((a.2 30) (Int32.toNatClampNeg a.1))) dX7_twice_53 ?_
    refine x_iinc (v := (a.1 + (-1))) (lv2 := [(3, .int (a.1 + (-1))), (0, .ref (g.1 0)), (1, .int x1), (2, .int x2)]) X dX7_twice_54 3 rfl rfl (by decide) rfl ?_
    refine x_goto (tgt := 33) X dX7_twice_57 (by decide) ?_
    refine x_sub [1, 2, 3, 0] rfl ?_
    have h9 := k1 _ (Option.some.inj h).symm
    exact h9
abbrev H_X7_twice_62 (x1 : Int32) (x2 : Int32) (K : Cx) (g : Gw) (ret : Int32 × St) (a : Int32 × St) : Prop := XW K 0 0 4 (QI K g (wdM g) ret) (wdM g) a.2 62 [(0, .ref (g.1 0)), (1, .int x1), (2, .int x2), (3, .int a.1)] []
abbrev E_X7_twice_62 (x1 : Int32) (x2 : Int32) (K : Cx) (g : Gw) (ret : Int32 × St) (q : (Int32 × St) ⊕ (St)) : Prop := Sum.elim (fun q => q = ret) (fun q => XW K 0 0 4 (QI K g (wdM g) ret) (wdM g) q 91 [(0, .ref (g.1 0)), (2, .int x2)] []) q
set_option maxRecDepth 100000 in
set_option maxHeartbeats 4000000 in
theorem w_X7_twice_b62 {K : Cx} {g : Gw} (x1 : Int32) (x2 : Int32) (ret : Int32 × St) (X : XC K g cX7_twice 4 RX7 (some .int) rm_X7_twice) (a : Int32 × St) (r : ((Int32 × St) ⊕ (St)) ⊕ (Int32 × St)) (h : f_X7_twice_b62 x1 x2 a = some r) (k0 : ∀ q, r = .inl q → E_X7_twice_62 x1 x2 K g ret q) (k1 : ∀ q, r = .inr q → H_X7_twice_62 x1 x2 K g ret q) : H_X7_twice_62 x1 x2 K g ret a := by
  unfold f_X7_twice_b62 at h
  show XW K 0 0 4 (QI K g (wdM g) ret) (wdM g) a.2 62 [(0, .ref (g.1 0)), (1, .int x1), (2, .int x2), (3, .int a.1)] []
  refine x_iload_n X dX7_twice_62 rfl 3 rfl ?_
  refine x_iload_n X dX7_twice_63 rfl 2 rfl ?_
  refine x_icmp_ge (tgt := 91) X dX7_twice_64 (by decide) (fun c8 => ?_) (fun c8 => ?_)
  · replace h := if_t c8 h
    refine x_sub [0, 2] rfl ?_
    have h9 := k0 _ (Option.some.inj h).symm
    exact h9
  · replace h := if_f c8 h
    refine x_aload_n X dX7_twice_67 rfl 0 rfl ?_
    refine x_get (v := .ref (g.1 1)) X 0 0 in_X7 rfl rfl (by decide) m_X7_7 rfl dX7_twice_68 ?_
    refine x_iload_n X dX7_twice_71 rfl 1 rfl ?_
    refine x_iload_n X dX7_twice_72 rfl 2 rfl ?_
    refine x_iadd X dX7_twice_73 ?_
    refine x_iload_n X dX7_twice_74 rfl 3 rfl ?_
    refine x_iadd X dX7_twice_75 ?_
    refine x_aload_n X dX7_twice_76 rfl 0 rfl ?_
    refine x_get (v := .ref (g.1 1)) X 0 0 in_X7 rfl rfl (by decide) m_X7_7 rfl dX7_twice_77 ?_
    refine x_iload_n X dX7_twice_80 rfl 1 rfl ?_
    refine x_iload_n X dX7_twice_81 rfl 3 rfl ?_
    refine x_iadd X dX7_twice_82 ?_
    obtain ⟨i9, h⟩ := chk_some h
    refine x_iald (f := (a.2 30)) X 1 0 rfl rfl i9 dX7_twice_83 ?_
    obtain ⟨i10, h⟩ := chk_some h
    refine x_iast (f := (a.2 30)) (u2 := (up a.2 30 (Int32.toNatClampNeg ((x1 + x2) + a.1)) ((a.2 30) (Int32.toNatClampNeg (x1 + a.1))))) X 1 0 rfl rfl i10 (wdM_30 g a.2 (Int32.toNatClampNeg ((x1 + x2) + a.1)) ((a.2 30) (Int32.toNatClampNeg (x1 + a.1)))) dX7_twice_84 ?_
    refine x_iinc (v := (a.1 + 1)) (lv2 := [(3, .int (a.1 + 1)), (0, .ref (g.1 0)), (1, .int x1), (2, .int x2)]) X dX7_twice_85 3 rfl rfl (by decide) rfl ?_
    refine x_goto (tgt := 62) X dX7_twice_88 (by decide) ?_
    refine x_sub [1, 2, 3, 0] rfl ?_
    have h9 := k1 _ (Option.some.inj h).symm
    exact h9
set_option maxRecDepth 100000 in
set_option maxHeartbeats 4000000 in
theorem c_X7_twice (l : Launch) (D : va_G) (g : Gw) (p0 : Int32) (p1 : Int32) (u : St) (ret : Int32 × St) (h : f_X7_twice p0 p1 u = some ret) : metI l D g (wdM g) yX7_twice cX7_twice 4 .int rm_X7_twice [.ref (g.1 0), .int p0, .int p1] u ret := by
  refine metI_of (own := RX7) (lv := [(0, .ref (g.1 0)), (1, .int p0), (2, .int p1)]) (by decide) rfl rfl (Nat.le_of_ble_eq_true rfl) (fun K hl9 hD9 X => ?_)
  subst hl9
  subst hD9
  unfold f_X7_twice at h
  refine x_aload_n X dX7_twice_0 rfl 0 rfl ?_
  refine x_iload_n X dX7_twice_1 rfl 1 rfl ?_
  refine x_iload_n X dX7_twice_2 rfl 2 rfl ?_
  obtain ⟨q1, e1, h⟩ := bd h
  refine x_callR X [.int p0, .int p1] [] (c_X7_missing K.l K.D g p0 p1 u q1 e1) ok_X7_missing m_X7_63 0 rfl rfl rfl rfl (Nat.le_of_ble_eq_true rfl) ⟨Nat.zero_le _, Nat.zero_le _⟩ ⟨rfl, rfl, by decide, by decide⟩ dX7_twice_3 ?_
  refine x_if_eq (tgt := 11) X dX7_twice_6 (by decide) (fun c2 => ?_) (fun c2 => ?_)
  · replace h := if_t c2 h
    refine x_aload_n X dX7_twice_11 rfl 0 rfl ?_
    refine x_get (v := .int (u 0 0)) X 0 1 in_X7 rfl rfl (by decide) m_X7_59 rfl dX7_twice_12 ?_
    refine x_iload_n X dX7_twice_15 rfl 2 rfl ?_
    refine x_iadd X dX7_twice_16 ?_
    refine x_sipush (v := 400) X dX7_twice_17 (by decide) ?_
    refine x_icmp_le (tgt := 26) X dX7_twice_20 (by decide) (fun c3 => ?_) (fun c3 => ?_)
    · replace h := if_t c3 h
      refine x_aload_n X dX7_twice_26 rfl 0 rfl ?_
      refine x_get (v := .int (u 0 0)) X 0 1 in_X7 rfl rfl (by decide) m_X7_59 rfl dX7_twice_27 ?_
      refine x_iconst (v := 1) X dX7_twice_30 (by decide) ?_
      refine x_isub X dX7_twice_31 ?_
      refine x_istore_n (lv2 := [(3, .int ((u 0 0) - 1)), (0, .ref (g.1 0)), (1, .int p0), (2, .int p1)]) X dX7_twice_32 rfl (by decide) rfl ?_
      refine x_sub [1, 2, 3, 0] rfl ?_
      obtain ⟨q70, e7, h⟩ := bd h
      refine loopF_w (WH := H_X7_twice_33 p0 p1 K g ret) (KB := E_X7_twice_33 p0 p1 K g ret) (fun a9 r9 h9 k8 k7 => w_X7_twice_b33 p0 p1 ret X a9 r9 h9 k8 k7) FU (((u 0 0) - 1), u) q70 e7 ?_
      rcases q70 with q7 | q7
      · replace h := sl h
        exact (Option.some.inj h)
      · replace h := sr h
        show XW K 0 0 4 (QI K g (wdM g) ret) (wdM g) q7 60 [(0, .ref (g.1 0)), (1, .int p0), (2, .int p1)] []
        refine x_iconst (v := 0) X dX7_twice_60 (by decide) ?_
        refine x_istore_n (lv2 := [(3, .int 0), (0, .ref (g.1 0)), (1, .int p0), (2, .int p1)]) X dX7_twice_61 rfl (by decide) rfl ?_
        refine x_sub [1, 2, 3, 0] rfl ?_
        obtain ⟨q110, e11, h⟩ := bd h
        refine loopF_w (WH := H_X7_twice_62 p0 p1 K g ret) (KB := E_X7_twice_62 p0 p1 K g ret) (fun a9 r9 h9 k8 k7 => w_X7_twice_b62 p0 p1 ret X a9 r9 h9 k8 k7) FU (0, q7) q110 e11 ?_
        rcases q110 with q11 | q11
        · replace h := sl h
          exact (Option.some.inj h)
        · replace h := sr h
          show XW K 0 0 4 (QI K g (wdM g) ret) (wdM g) q11 91 [(0, .ref (g.1 0)), (2, .int p1)] []
          refine x_aload_n X dX7_twice_91 rfl 0 rfl ?_
          refine x_dup X dX7_twice_92 rfl ?_
          refine x_get (v := .int (q11 0 0)) X 0 1 in_X7 rfl rfl (by decide) m_X7_59 rfl dX7_twice_93 ?_
          refine x_iload_n X dX7_twice_96 rfl 1 rfl ?_
          refine x_iadd X dX7_twice_97 ?_
          refine x_put (ty := .int) (u2 := (up q11 0 0 ((q11 0 0) + p1))) X 0 1 in_X7 tk_X7 nk_X7 rfl rfl (by decide) m_X7_59 rfl rfl rfl rfl (Nat.le_of_ble_eq_true rfl) (wdM_0 g q11 ((q11 0 0) + p1)) dX7_twice_98 ?_
          refine x_aload_n X dX7_twice_101 rfl 0 rfl ?_
          refine x_get (v := .int ((q11 0 0) + p1)) X 0 1 in_X7 rfl rfl (by decide) m_X7_59 rfl dX7_twice_102 ?_
          exact x_iret X (Option.some.inj h) dX7_twice_105
    · replace h := if_f c3 h
      refine x_bipush (v := (-2)) X dX7_twice_23 (by decide) ?_
      exact x_iret X (Option.some.inj h) dX7_twice_25
  · replace h := if_f c2 h
    refine x_iconst (v := (-1)) X dX7_twice_9 (by decide) ?_
    exact x_iret X (Option.some.inj h) dX7_twice_10
