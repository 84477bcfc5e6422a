set_option maxRecDepth 100000 in
set_option maxHeartbeats 4000000 in
theorem w_X1_hasRoomFor_j17 {K : Cx} {g : Gw} (ret : Int32) (X : XC K g cX1_hasRoomFor 2 RX1 (some .boolean) rm_X1_hasRoomFor) (z0 : Int32) (u : St) (h : f_X1_hasRoomFor_j17 z0 u = some ret) : XW K 0 0 2 (QI K g (wdX g) (ret, u)) (wdX g) u 17 [] [.int z0] := by
  unfold f_X1_hasRoomFor_j17 at h
  obtain ⟨b2, h⟩ := bchk_some h
  exact x_zret X b2 (roE (Option.some.inj h)) dX1_hasRoomFor_17
set_option maxRecDepth 100000 in
set_option maxHeartbeats 4000000 in
theorem c_X1_hasRoomFor (l : Launch) (D : va_G) (g : Gw) (p0 : Int32) (u : St) (ret : Int32) (h : f_X1_hasRoomFor p0 u = some ret) : metI l D g (wdX g) yX1_hasRoomFor cX1_hasRoomFor 2 .boolean rm_X1_hasRoomFor [.ref (g.1 1), .int p0] u (ret, u) := by
  refine metI_of (own := RX1) (lv := [(0, .ref (g.1 1)), (1, .int p0)]) (by decide) rfl rfl (Nat.le_of_ble_eq_true rfl) (fun K hl9 hD9 X => ?_)
  subst hl9
  subst hD9
  unfold f_X1_hasRoomFor at h
  refine x_iload_n X dX1_hasRoomFor_0 rfl 1 rfl ?_
  refine x_sipush (v := 400) X dX1_hasRoomFor_1 (by decide) ?_
  refine x_aload_n X dX1_hasRoomFor_4 rfl 0 rfl ?_
  refine x_get (v := .int (u 1 0)) X 1 1 in_X1 rfl rfl (by decide) m_X1_13 rfl dX1_hasRoomFor_5 ?_
  refine x_isub X dX1_hasRoomFor_8 ?_
  refine x_icmp_gt (tgt := 16) X dX1_hasRoomFor_9 (by decide) (fun c1 => ?_) (fun c1 => ?_)
  · replace h := if_t c1 h
    refine x_iconst (v := 0) X dX1_hasRoomFor_16 (by decide) ?_
    refine x_sub [] rfl ?_
    exact w_X1_hasRoomFor_j17 ret X 0 u h
  · replace h := if_f c1 h
    refine x_iconst (v := 1) X dX1_hasRoomFor_12 (by decide) ?_
    refine x_goto (tgt := 17) X dX1_hasRoomFor_13 (by decide) ?_
    refine x_sub [] rfl ?_
    exact w_X1_hasRoomFor_j17 ret X 1 u h
abbrev H_X1_append_7 (x2 : Int32) (K : Cx) (g : Gw) (ret : St) (a : Int32 × St) : Prop := XW K 0 0 4 (QV K g (wdX g) ret) (wdX g) a.2 7 [(0, .ref (g.1 1)), (2, .int x2), (3, .int a.1)] []
abbrev E_X1_append_7 (x2 : Int32) (K : Cx) (g : Gw) (ret : St) (q : (St) ⊕ (St)) : Prop := Sum.elim (fun q => q = ret) (fun q => XW K 0 0 4 (QV K g (wdX g) ret) (wdX g) q 43 [] []) q
set_option maxRecDepth 100000 in
set_option maxHeartbeats 4000000 in
theorem w_X1_append_b7 {K : Cx} {g : Gw} (x2 : Int32) (ret : St) (X : XC K g cX1_append 4 RX1 none rm_X1_append) (a : Int32 × St) (r : ((St) ⊕ (St)) ⊕ (Int32 × St)) (h : f_X1_append_b7 x2 a = some r) (k0 : ∀ q, r = .inl q → E_X1_append_7 x2 K g ret q) (k1 : ∀ q, r = .inr q → H_X1_append_7 x2 K g ret q) : H_X1_append_7 x2 K g ret a := by
  unfold f_X1_append_b7 at h
  show XW K 0 0 4 (QV K g (wdX g) ret) (wdX g) a.2 7 [(0, .ref (g.1 1)), (2, .int x2), (3, .int a.1)] []
  refine x_iload_n X dX1_append_7 rfl 2 rfl ?_
  refine x_if_lt (tgt := 43) X dX1_append_8 (by decide) (fun c1 => ?_) (fun c1 => ?_)
  · replace h := if_t c1 h
    refine x_sub [] rfl ?_
    have h9 := k0 _ (Option.some.inj h).symm
    exact h9
  · replace h := if_f c1 h
    refine x_aload_n X dX1_append_11 rfl 0 rfl ?_
    refine x_get (v := .ref (g.1 8)) X 1 0 in_X1 rfl rfl (by decide) m_X1_9 rfl dX1_append_12 ?_
    refine x_aload_n X dX1_append_15 rfl 0 rfl ?_
    refine x_get (v := .int (a.2 1 0)) X 1 1 in_X1 rfl rfl (by decide) m_X1_13 rfl dX1_append_16 ?_
    refine x_iload_n X dX1_append_19 rfl 1 rfl ?_
    refine x_iload_n X dX1_append_20 rfl 2 rfl ?_
    refine x_iushr X dX1_append_21 ?_
    refine x_sipush (v := 255) X dX1_append_22 (by decide) ?_
    refine x_iand X dX1_append_25 ?_
    obtain ⟨i2, h⟩ := chk_some h
    refine x_iast (f := (a.2 22)) (u2 := (up a.2 22 (Int32.toNatClampNeg (a.2 1 0)) (((Int32.toUInt32 x2 >>> (Int32.toUInt32 a.1 &&& Int32.toUInt32 31)).toInt32) &&& 255))) X 8 0 rfl rfl i2 (wdX_22 g a.2 (Int32.toNatClampNeg (a.2 1 0)) (((Int32.toUInt32 x2 >>> (Int32.toUInt32 a.1 &&& Int32.toUInt32 31)).toInt32) &&& 255)) dX1_append_26 ?_
    refine x_aload_n X dX1_append_27 rfl 0 rfl ?_
    refine x_dup X dX1_append_28 rfl ?_
    refine x_get (v := .int (a.2 1 0)) X 1 1 in_X1 rfl rfl (by decide) m_X1_13 rfl dX1_append_29 ?_
    refine x_iconst (v := 1) X dX1_append_32 (by decide) ?_
    refine x_iadd X dX1_append_33 ?_
    refine x_put (ty := .int) (u2 := (up (up a.2 22 (Int32.toNatClampNeg (a.2 1 0)) (((Int32.toUInt32 x2 >>> (Int32.toUInt32 a.1 &&& Int32.toUInt32 31)).toInt32) &&& 255)) 1 0 ((a.2 1 0) + 1))) X 1 1 in_X1 tk_X1 nk_X1 rfl rfl (by decide) m_X1_13 rfl rfl rfl rfl (Nat.le_of_ble_eq_true rfl) (wdX_1 g (up a.2 22 (Int32.toNatClampNeg (a.2 1 0)) (((Int32.toUInt32 x2 >>> (Int32.toUInt32 a.1 &&& Int32.toUInt32 31)).toInt32) &&& 255)) ((a.2 1 0) + 1)) dX1_append_34 ?_
    refine x_iinc (v := (a.1 + (-8))) (lv2 := [(3, .int (a.1 + (-8))), (0, .ref (g.1 1)), (2, .int x2)]) X dX1_append_37 2 rfl rfl (by decide) rfl ?_
    refine x_goto (tgt := 7) X dX1_append_40 (by decide) ?_
    refine x_sub [1, 2, 0] rfl ?_
    have h9 := k1 _ (Option.some.inj h).symm
    exact h9
set_option maxRecDepth 100000 in
set_option maxHeartbeats 4000000 in
theorem c_X1_append (l : Launch) (D : va_G) (g : Gw) (p0 : Int32) (p1 : Int32) (u : St) (ret : St) (h : f_X1_append p0 p1 u = some ret) : metV l D g (wdX g) yX1_append cX1_append 4 rm_X1_append [.ref (g.1 1), .int p0, .int p1] u ret := by
  refine metV_of (own := RX1) (lv := [(0, .ref (g.1 1)), (1, .int p0), (2, .int p1)]) (by decide) rfl rfl (Nat.le_of_ble_eq_true rfl) (fun K hl9 hD9 X => ?_)
  subst hl9
  subst hD9
  unfold f_X1_append at h
  refine x_bipush (v := 8) X dX1_append_0 (by decide) ?_
  refine x_iload_n X dX1_append_2 rfl 1 rfl ?_
  refine x_iconst (v := 1) X dX1_append_3 (by decide) ?_
  refine x_isub X dX1_append_4 ?_
  refine x_imul X dX1_append_5 ?_
  refine x_istore_n (lv2 := [(3, .int (8 * (p0 - 1))), (0, .ref (g.1 1)), (1, .int p0), (2, .int p1)]) X dX1_append_6 rfl (by decide) rfl ?_
  refine x_sub [1, 3, 0] rfl ?_
  obtain ⟨q30, e3, h⟩ := bd h
  refine loopF_w (WH := H_X1_append_7 p1 K g ret) (KB := E_X1_append_7 p1 K g ret) (fun a9 r9 h9 k8 k7 => w_X1_append_b7 p1 ret X a9 r9 h9 k8 k7) FU ((8 * (p0 - 1)), u) q30 e3 ?_
  rcases q30 with q3 | q3
  · replace h := sl h
    exact (Option.some.inj h)
  · replace h := sr h
    show XW K 0 0 4 (QV K g (wdX g) ret) (wdX g) q3 43 [] []
    exact x_vret X (Option.some.inj h) dX1_append_43
set_option maxRecDepth 100000 in
set_option maxHeartbeats 4000000 in
theorem w_X6_put_j17 {K : Cx} {g : Gw} (ret : Int32 × St) (X : XC K g cX6_put 3 RX6 (some .int) rm_X6_put) (x1 : Int32) (x2 : Int32) (u : St) (h : f_X6_put_j17 x1 x2 u = some ret) : XW K 0 0 3 (QI K g (wdX g) ret) (wdX g) u 17 [(0, .ref (g.1 0)), (1, .int x1), (2, .int x2)] [] := by
  unfold f_X6_put_j17 at h
  refine x_aload_n X dX6_put_17 rfl 0 rfl ?_
  refine x_get (v := .ref (g.1 1)) X 0 0 in_X6 rfl rfl (by decide) m_X6_10 rfl dX6_put_18 ?_
  refine x_iload_n X dX6_put_21 rfl 1 rfl ?_
  obtain ⟨q2, e2, h⟩ := bd h
  refine x_callR X [.int x1] [] (c_X1_hasRoomFor K.l K.D g x1 u q2 e2) ok_X1_hasRoomFor m_X6_32 1 rfl rfl rfl rfl (Nat.le_of_ble_eq_true rfl) ⟨Nat.zero_le _, Nat.zero_le _⟩ ⟨rfl, rfl, by decide, by decide⟩ dX6_put_22 ?_
  refine x_if_ne (tgt := 31) X dX6_put_25 (by decide) (fun c3 => ?_) (fun c3 => ?_)
  · replace h := if_f c3 h
    refine x_aload_n X dX6_put_31 rfl 0 rfl ?_
    refine x_get (v := .ref (g.1 1)) X 0 0 in_X6 rfl rfl (by decide) m_X6_10 rfl dX6_put_32 ?_
    refine x_iload_n X dX6_put_35 rfl 1 rfl ?_
    refine x_iload_n X dX6_put_36 rfl 2 rfl ?_
    obtain ⟨q4, e4, h⟩ := bd h
    refine x_callV X [.int x1, .int x2] [] (c_X1_append K.l K.D g x1 x2 u q4 e4) ok_X1_append m_X6_36 1 rfl rfl rfl rfl (Nat.le_of_ble_eq_true rfl) ⟨Nat.zero_le _, Nat.zero_le _⟩ ⟨rfl, rfl, by decide, by decide⟩ dX6_put_37 ?_
    refine x_aload_n X dX6_put_40 rfl 0 rfl ?_
    refine x_get (v := .ref (g.1 1)) X 0 0 in_X6 rfl rfl (by decide) m_X6_10 rfl dX6_put_41 ?_
    refine x_get (v := .int (q4 1 0)) X 1 1 in_X1 rfl rfl (by decide) m_X6_40 rfl dX6_put_44 ?_
    exact x_iret X (Option.some.inj h) dX6_put_47
  · replace h := if_t c3 h
    refine x_bipush (v := (-2)) X dX6_put_28 (by decide) ?_
    exact x_iret X (Option.some.inj h) dX6_put_30
set_option maxRecDepth 100000 in
set_option maxHeartbeats 4000000 in
theorem c_X6_put (l : Launch) (D : va_G) (g : Gw) (p0 : Int32) (p1 : Int32) (u : St) (ret : Int32 × St) (h : f_X6_put p0 p1 u = some ret) : metI l D g (wdX g) yX6_put cX6_put 3 .int rm_X6_put [.ref (g.1 0), .int p0, .int p1] u ret := by
  refine metI_of (own := RX6) (lv := [(0, .ref (g.1 0)), (1, .int p0), (2, .int p1)]) (by decide) rfl rfl (Nat.le_of_ble_eq_true rfl) (fun K hl9 hD9 X => ?_)
  subst hl9
  subst hD9
  unfold f_X6_put at h
  refine x_iload_n X dX6_put_0 rfl 1 rfl ?_
  refine x_iconst (v := 1) X dX6_put_1 (by decide) ?_
  refine x_icmp_eq (tgt := 17) X dX6_put_2 (by decide) (fun c1 => ?_) (fun c1 => ?_)
  · replace h := if_t c1 h
    exact w_X6_put_j17 ret X p0 p1 u h
  · replace h := if_f c1 h
    refine x_iload_n X dX6_put_5 rfl 1 rfl ?_
    refine x_iconst (v := 2) X dX6_put_6 (by decide) ?_
    refine x_icmp_eq (tgt := 17) X dX6_put_7 (by decide) (fun c5 => ?_) (fun c5 => ?_)
    · replace h := if_t c5 h
      exact w_X6_put_j17 ret X p0 p1 u h
    · replace h := if_f c5 h
      refine x_iload_n X dX6_put_10 rfl 1 rfl ?_
      refine x_iconst (v := 4) X dX6_put_11 (by decide) ?_
      refine x_icmp_eq (tgt := 17) X dX6_put_12 (by decide) (fun c6 => ?_) (fun c6 => ?_)
      · replace h := if_t c6 h
        exact w_X6_put_j17 ret X p0 p1 u h
      · replace h := if_f c6 h
        refine x_iconst (v := (-1)) X dX6_put_15 (by decide) ?_
        exact x_iret X (Option.some.inj h) dX6_put_16
set_option maxRecDepth 100000 in
set_option maxHeartbeats 4000000 in
theorem w_X6_text_j10 {K : Cx} {g : Gw} (ret : Int32 × St) (X : XC K g cX6_text 5 RX6 (some .int) rm_X6_text) (u : St) (h : f_X6_text_j10 u = some ret) : XW K 0 0 5 (QI K g (wdX g) ret) (wdX g) u 10 [] [] := by
  unfold f_X6_text_j10 at h
  refine x_iconst (v := (-1)) X dX6_text_10 (by decide) ?_
  exact x_iret X (Option.some.inj h) dX6_text_11
abbrev H_X6_text_49 (x1 : Int32) (x2 : Int64) (K : Cx) (g : Gw) (ret : Int32 × St) (a : Int32 × St) : Prop := XW K 0 0 5 (QI K g (wdX g) ret) (wdX g) a.2 49 [(0, .ref (g.1 0)), (1, .int x1), (2, .long x2), (4, .int a.1)] []
abbrev E_X6_text_49 (x1 : Int32) (x2 : Int64) (K : Cx) (g : Gw) (ret : Int32 × St) (q : (Int32 × St) ⊕ (St)) : Prop := Sum.elim (fun q => q = ret) (fun q => XW K 0 0 5 (QI K g (wdX g) ret) (wdX g) q 77 [(0, .ref (g.1 0))] []) q
set_option maxRecDepth 100000 in
set_option maxHeartbeats 4000000 in
theorem w_X6_text_b49 {K : Cx} {g : Gw} (x1 : Int32) (x2 : Int64) (ret : Int32 × St) (X : XC K g cX6_text 5 RX6 (some .int) rm_X6_text) (a : Int32 × St) (r : ((Int32 × St) ⊕ (St)) ⊕ (Int32 × St)) (h : f_X6_text_b49 x1 x2 a = some r) (k0 : ∀ q, r = .inl q → E_X6_text_49 x1 x2 K g ret q) (k1 : ∀ q, r = .inr q → H_X6_text_49 x1 x2 K g ret q) : H_X6_text_49 x1 x2 K g ret a := by
  unfold f_X6_text_b49 at h
  show XW K 0 0 5 (QI K g (wdX g) ret) (wdX g) a.2 49 [(0, .ref (g.1 0)), (1, .int x1), (2, .long x2), (4, .int a.1)] []
  refine x_iload X dX6_text_49 3 rfl ?_
  refine x_iload_n X dX6_text_51 rfl 1 rfl ?_
  refine x_icmp_ge (tgt := 77) X dX6_text_52 (by decide) (fun c7 => ?_) (fun c7 => ?_)
  · replace h := if_t c7 h
    refine x_sub [0] rfl ?_
    have h9 := k0 _ (Option.some.inj h).symm
    exact h9
  · replace h := if_f c7 h
    refine x_aload_n X dX6_text_55 rfl 0 rfl ?_
    refine x_get (v := .ref (g.1 1)) X 0 0 in_X6 rfl rfl (by decide) m_X6_10 rfl dX6_text_56 ?_
    refine x_iconst (v := 1) X dX6_text_59 (by decide) ?_
    refine x_lload_n X dX6_text_60 rfl 2 rfl ?_
    refine x_bipush (v := 8) X dX6_text_61 (by decide) ?_
    refine x_iload X dX6_text_63 3 rfl ?_
    refine x_imul X dX6_text_65 ?_
    refine x_lushr X dX6_text_66 ?_
    refine x_l2i X dX6_text_67 ?_
    obtain ⟨q8, e8, h⟩ := bd h
    refine x_callV X [.int 1, .int (((Int64.toUInt64 x2 >>> ((Int32.toInt64 (8 * a.1)).toUInt64 &&& Int64.toUInt64 63)).toInt64).toInt32)] [] (c_X1_append K.l K.D g 1 (((Int64.toUInt64 x2 >>> ((Int32.toInt64 (8 * a.1)).toUInt64 &&& Int64.toUInt64 63)).toInt64).toInt32) a.2 q8 e8) ok_X1_append m_X6_36 1 rfl rfl rfl rfl (Nat.le_of_ble_eq_true rfl) ⟨Nat.zero_le _, Nat.zero_le _⟩ ⟨rfl, rfl, by decide, by decide⟩ dX6_text_68 ?_
    refine x_iinc (v := (a.1 + 1)) (lv2 := [(4, .int (a.1 + 1)), (0, .ref (g.1 0)), (1, .int x1), (2, .long x2)]) X dX6_text_71 3 rfl rfl (by decide) rfl ?_
    refine x_goto (tgt := 49) X dX6_text_74 (by decide) ?_
    refine x_sub [1, 2, 3, 0] rfl ?_
    have h9 := k1 _ (Option.some.inj h).symm
    exact h9
set_option maxRecDepth 100000 in
set_option maxHeartbeats 4000000 in
theorem c_X6_text (l : Launch) (D : va_G) (g : Gw) (p0 : Int32) (p1 : Int64) (u : St) (ret : Int32 × St) (h : f_X6_text p0 p1 u = some ret) : metI l D g (wdX g) yX6_text cX6_text 5 .int rm_X6_text [.ref (g.1 0), .int p0, .long p1] u ret := by
  refine metI_of (own := RX6) (lv := [(0, .ref (g.1 0)), (1, .int p0), (2, .long p1)]) (by decide) rfl rfl (Nat.le_of_ble_eq_true rfl) (fun K hl9 hD9 X => ?_)
  subst hl9
  subst hD9
  unfold f_X6_text at h
  refine x_iload_n X dX6_text_0 rfl 1 rfl ?_
  refine x_if_lt (tgt := 10) X dX6_text_1 (by decide) (fun c1 => ?_) (fun c1 => ?_)
  · replace h := if_t c1 h
    refine x_sub [] rfl ?_
    exact w_X6_text_j10 ret X u h
  · replace h := if_f c1 h
    refine x_iload_n X dX6_text_4 rfl 1 rfl ?_
    refine x_bipush (v := 8) X dX6_text_5 (by decide) ?_
    refine x_icmp_le (tgt := 12) X dX6_text_7 (by decide) (fun c2 => ?_) (fun c2 => ?_)
    · replace h := if_t c2 h
      refine x_aload_n X dX6_text_12 rfl 0 rfl ?_
      refine x_get (v := .ref (g.1 1)) X 0 0 in_X6 rfl rfl (by decide) m_X6_10 rfl dX6_text_13 ?_
      refine x_iconst (v := 3) X dX6_text_16 (by decide) ?_
      refine x_iload_n X dX6_text_17 rfl 1 rfl ?_
      refine x_iadd X dX6_text_18 ?_
      obtain ⟨q3, e3, h⟩ := bd h
      refine x_callR X [.int (3 + p0)] [] (c_X1_hasRoomFor K.l K.D g (3 + p0) u q3 e3) ok_X1_hasRoomFor m_X6_32 1 rfl rfl rfl rfl (Nat.le_of_ble_eq_true rfl) ⟨Nat.zero_le _, Nat.zero_le _⟩ ⟨rfl, rfl, by decide, by decide⟩ dX6_text_19 ?_
      refine x_if_ne (tgt := 28) X dX6_text_22 (by decide) (fun c4 => ?_) (fun c4 => ?_)
      · replace h := if_f c4 h
        refine x_aload_n X dX6_text_28 rfl 0 rfl ?_
        refine x_get (v := .ref (g.1 1)) X 0 0 in_X6 rfl rfl (by decide) m_X6_10 rfl dX6_text_29 ?_
        refine x_iconst (v := 1) X dX6_text_32 (by decide) ?_
        refine x_iconst (v := 1) X dX6_text_33 (by decide) ?_
        obtain ⟨q5, e5, h⟩ := bd h
        refine x_callV X [.int 1, .int 1] [] (c_X1_append K.l K.D g 1 1 u q5 e5) ok_X1_append m_X6_36 1 rfl rfl rfl rfl (Nat.le_of_ble_eq_true rfl) ⟨Nat.zero_le _, Nat.zero_le _⟩ ⟨rfl, rfl, by decide, by decide⟩ dX6_text_34 ?_
        refine x_aload_n X dX6_text_37 rfl 0 rfl ?_
        refine x_get (v := .ref (g.1 1)) X 0 0 in_X6 rfl rfl (by decide) m_X6_10 rfl dX6_text_38 ?_
        refine x_iconst (v := 2) X dX6_text_41 (by decide) ?_
        refine x_iload_n X dX6_text_42 rfl 1 rfl ?_
        obtain ⟨q6, e6, h⟩ := bd h
        refine x_callV X [.int 2, .int p0] [] (c_X1_append K.l K.D g 2 p0 q5 q6 e6) ok_X1_append m_X6_36 1 rfl rfl rfl rfl (Nat.le_of_ble_eq_true rfl) ⟨Nat.zero_le _, Nat.zero_le _⟩ ⟨rfl, rfl, by decide, by decide⟩ dX6_text_43 ?_
        refine x_iconst (v := 0) X dX6_text_46 (by decide) ?_
        refine x_istore (lv2 := [(4, .int 0), (0, .ref (g.1 0)), (1, .int p0), (2, .long p1)]) X dX6_text_47 (by decide) rfl ?_
        refine x_sub [1, 2, 3, 0] rfl ?_
        obtain ⟨q90, e9, h⟩ := bd h
        refine loopF_w (WH := H_X6_text_49 p0 p1 K g ret) (KB := E_X6_text_49 p0 p1 K g ret) (fun a9 r9 h9 k8 k7 => w_X6_text_b49 p0 p1 ret X a9 r9 h9 k8 k7) FU (0, q6) q90 e9 ?_
        rcases q90 with q9 | q9
        · replace h := sl h
          exact (Option.some.inj h)
        · replace h := sr h
          show XW K 0 0 5 (QI K g (wdX g) ret) (wdX g) q9 77 [(0, .ref (g.1 0))] []
          refine x_aload_n X dX6_text_77 rfl 0 rfl ?_
          refine x_get (v := .ref (g.1 1)) X 0 0 in_X6 rfl rfl (by decide) m_X6_10 rfl dX6_text_78 ?_
          refine x_get (v := .int (q9 1 0)) X 1 1 in_X1 rfl rfl (by decide) m_X6_40 rfl dX6_text_81 ?_
          exact x_iret X (Option.some.inj h) dX6_text_84
      · replace h := if_t c4 h
        refine x_bipush (v := (-2)) X dX6_text_25 (by decide) ?_
        exact x_iret X (Option.some.inj h) dX6_text_27
    · replace h := if_f c2 h
      refine x_sub [] rfl ?_
      exact w_X6_text_j10 ret X u h
set_option maxRecDepth 100000 in
set_option maxHeartbeats 4000000 in
theorem w_X1_holds_j19 {K : Cx} {g : Gw} (ret : Int32) (X : XC K g cX1_holds 3 RX1 (some .boolean) rm_X1_holds) (z0 : Int32) (u : St) (h : f_X1_holds_j19 z0 u = some ret) : XW K 0 0 3 (QI K g (wdX g) (ret, u)) (wdX g) u 19 [] [.int z0] := by
  unfold f_X1_holds_j19 at h
  obtain ⟨b2, h⟩ := bchk_some h
  exact x_zret X b2 (roE (Option.some.inj h)) dX1_holds_19
set_option maxRecDepth 100000 in
set_option maxHeartbeats 4000000 in
theorem w_X1_holds_j18 {K : Cx} {g : Gw} (ret : Int32) (X : XC K g cX1_holds 3 RX1 (some .boolean) rm_X1_holds) (u : St) (h : f_X1_holds_j18 u = some ret) : XW K 0 0 3 (QI K g (wdX g) (ret, u)) (wdX g) u 18 [] [] := by
  unfold f_X1_holds_j18 at h
  refine x_iconst (v := 0) X dX1_holds_18 (by decide) ?_
  exact w_X1_holds_j19 ret X 0 u h
set_option maxRecDepth 100000 in
set_option maxHeartbeats 4000000 in
theorem c_X1_holds (l : Launch) (D : va_G) (g : Gw) (p0 : Int32) (p1 : Int32) (u : St) (ret : Int32) (h : f_X1_holds p0 p1 u = some ret) : metI l D g (wdX g) yX1_holds cX1_holds 3 .boolean rm_X1_holds [.ref (g.1 1), .int p0, .int p1] u (ret, u) := by
  refine metI_of (own := RX1) (lv := [(0, .ref (g.1 1)), (1, .int p0), (2, .int p1)]) (by decide) rfl rfl (Nat.le_of_ble_eq_true rfl) (fun K hl9 hD9 X => ?_)
  subst hl9
  subst hD9
  unfold f_X1_holds at h
  refine x_iload_n X dX1_holds_0 rfl 1 rfl ?_
  refine x_if_lt (tgt := 18) X dX1_holds_1 (by decide) (fun c1 => ?_) (fun c1 => ?_)
  · replace h := if_t c1 h
    refine x_sub [] rfl ?_
    exact w_X1_holds_j18 ret X u h
  · replace h := if_f c1 h
    refine x_iload_n X dX1_holds_4 rfl 2 rfl ?_
    refine x_aload_n X dX1_holds_5 rfl 0 rfl ?_
    refine x_get (v := .int (u 1 0)) X 1 1 in_X1 rfl rfl (by decide) m_X1_13 rfl dX1_holds_6 ?_
    refine x_iload_n X dX1_holds_9 rfl 1 rfl ?_
    refine x_isub X dX1_holds_10 ?_
    refine x_icmp_gt (tgt := 18) X dX1_holds_11 (by decide) (fun c3 => ?_) (fun c3 => ?_)
    · replace h := if_t c3 h
      refine x_sub [] rfl ?_
      exact w_X1_holds_j18 ret X u h
    · replace h := if_f c3 h
      refine x_iconst (v := 1) X dX1_holds_14 (by decide) ?_
      refine x_goto (tgt := 19) X dX1_holds_15 (by decide) ?_
      refine x_sub [] rfl ?_
      exact w_X1_holds_j19 ret X 1 u h
set_option maxRecDepth 100000 in
set_option maxHeartbeats 4000000 in
theorem c_X6_patch (l : Launch) (D : va_G) (g : Gw) (p0 : Int32) (p1 : Int32) (u : St) (ret : Int32 × St) (h : f_X6_patch p0 p1 u = some ret) : metI l D g (wdX g) yX6_patch cX6_patch 4 .int rm_X6_patch [.ref (g.1 0), .int p0, .int p1] u ret := by
  refine metI_of (own := RX6) (lv := [(0, .ref (g.1 0)), (1, .int p0), (2, .int p1)]) (by decide) rfl rfl (Nat.le_of_ble_eq_true rfl) (fun K hl9 hD9 X => ?_)
  subst hl9
  subst hD9
  unfold f_X6_patch at h
  refine x_aload_n X dX6_patch_0 rfl 0 rfl ?_
  refine x_get (v := .ref (g.1 1)) X 0 0 in_X6 rfl rfl (by decide) m_X6_10 rfl dX6_patch_1 ?_
  refine x_iload_n X dX6_patch_4 rfl 1 rfl ?_
  refine x_iconst (v := 1) X dX6_patch_5 (by decide) ?_
  obtain ⟨q1, e1, h⟩ := bd h
  refine x_callR X [.int p0, .int 1] [] (c_X1_holds K.l K.D g p0 1 u q1 e1) ok_X1_holds m_X6_46 1 rfl rfl rfl rfl (Nat.le_of_ble_eq_true rfl) ⟨Nat.zero_le _, Nat.zero_le _⟩ ⟨rfl, rfl, by decide, by decide⟩ dX6_patch_6 ?_
  refine x_if_ne (tgt := 14) X dX6_patch_9 (by decide) (fun c2 => ?_) (fun c2 => ?_)
  · replace h := if_f c2 h
    refine x_aload_n X dX6_patch_14 rfl 0 rfl ?_
    refine x_get (v := .ref (g.1 1)) X 0 0 in_X6 rfl rfl (by decide) m_X6_10 rfl dX6_patch_15 ?_
    refine x_get (v := .ref (g.1 8)) X 1 0 in_X1 rfl rfl (by decide) m_X6_50 rfl dX6_patch_18 ?_
    refine x_iload_n X dX6_patch_21 rfl 1 rfl ?_
    obtain ⟨i3, h⟩ := chk_some h
    refine x_iald (f := (u 22)) X 8 0 rfl rfl i3 dX6_patch_22 ?_
    refine x_istore_n (lv2 := [(3, .int ((u 22) (Int32.toNatClampNeg p0))), (0, .ref (g.1 0)), (1, .int p0), (2, .int p1)]) X dX6_patch_23 rfl (by decide) rfl ?_
    refine x_aload_n X dX6_patch_24 rfl 1 rfl ?_
    refine x_get (v := .ref (g.1 1)) X 0 0 in_X6 rfl rfl (by decide) m_X6_10 rfl dX6_patch_25 ?_
    refine x_get (v := .ref (g.1 8)) X 1 0 in_X1 rfl rfl (by decide) m_X6_50 rfl dX6_patch_28 ?_
    refine x_iload_n X dX6_patch_31 rfl 2 rfl ?_
    refine x_iload_n X dX6_patch_32 rfl 3 rfl ?_
    refine x_sipush (v := 255) X dX6_patch_33 (by decide) ?_
    refine x_iand X dX6_patch_36 ?_
    obtain ⟨i4, h⟩ := chk_some h
    refine x_iast (f := (u 22)) (u2 := (up u 22 (Int32.toNatClampNeg p0) (p1 &&& 255))) X 8 0 rfl rfl i4 (wdX_22 g u (Int32.toNatClampNeg p0) (p1 &&& 255)) dX6_patch_37 ?_
    refine x_iload_n X dX6_patch_38 rfl 0 rfl ?_
    exact x_iret X (Option.some.inj h) dX6_patch_39
  · replace h := if_t c2 h
    refine x_iconst (v := (-1)) X dX6_patch_12 (by decide) ?_
    exact x_iret X (Option.some.inj h) dX6_patch_13
set_option maxRecDepth 100000 in
set_option maxHeartbeats 4000000 in
theorem c_X1_close (l : Launch) (D : va_G) (g : Gw) (p0 : Int32) (p1 : Int32) (u : St) (ret : St) (h : f_X1_close p0 p1 u = some ret) : metV l D g (wdX g) yX1_close cX1_close 3 rm_X1_close [.ref (g.1 1), .int p0, .int p1] u ret := by
  refine metV_of (own := RX1) (lv := [(0, .ref (g.1 1)), (1, .int p0), (2, .int p1)]) (by decide) rfl rfl (Nat.le_of_ble_eq_true rfl) (fun K hl9 hD9 X => ?_)
  subst hl9
  subst hD9
  unfold f_X1_close at h
  refine x_aload_n X dX1_close_0 rfl 0 rfl ?_
  refine x_get (v := .ref (g.1 8)) X 1 0 in_X1 rfl rfl (by decide) m_X1_9 rfl dX1_close_1 ?_
  refine x_iload_n X dX1_close_4 rfl 1 rfl ?_
  refine x_iload_n X dX1_close_5 rfl 2 rfl ?_
  refine x_iadd X dX1_close_6 ?_
  refine x_aload_n X dX1_close_7 rfl 0 rfl ?_
  refine x_get (v := .ref (g.1 8)) X 1 0 in_X1 rfl rfl (by decide) m_X1_9 rfl dX1_close_8 ?_
  refine x_iload_n X dX1_close_11 rfl 1 rfl ?_
  refine x_aload_n X dX1_close_12 rfl 0 rfl ?_
  refine x_get (v := .int (u 1 0)) X 1 1 in_X1 rfl rfl (by decide) m_X1_13 rfl dX1_close_13 ?_
  refine x_iload_n X dX1_close_16 rfl 1 rfl ?_
  refine x_isub X dX1_close_17 ?_
  refine x_iload_n X dX1_close_18 rfl 2 rfl ?_
  refine x_isub X dX1_close_19 ?_
  obtain ⟨i1, h⟩ := cchk_some h
  refine x_copyi (fa := (u 22)) (fb := (u 22)) (u2 := (upA u 22 (va_cpy (u 22) (u 22) (Int32.toNatClampNeg (p0 + p1)) (Int32.toNatClampNeg p0) (Int32.toNatClampNeg (((u 1 0) - p0) - p1))))) X 8 8 0 0 m_X1_17 m_acn m_acs m_aci rfl rfl rfl rfl i1 (by decide) (Nat.le_of_ble_eq_true rfl) (wdXA_22 g u (va_cpy (u 22) (u 22) (Int32.toNatClampNeg (p0 + p1)) (Int32.toNatClampNeg p0) (Int32.toNatClampNeg (((u 1 0) - p0) - p1)))) dX1_close_20 ?_
  refine x_aload_n X dX1_close_23 rfl 0 rfl ?_
  refine x_dup X dX1_close_24 rfl ?_
  refine x_get (v := .int (u 1 0)) X 1 1 in_X1 rfl rfl (by decide) m_X1_13 rfl dX1_close_25 ?_
  refine x_iload_n X dX1_close_28 rfl 2 rfl ?_
  refine x_isub X dX1_close_29 ?_
  refine x_put (ty := .int) (u2 := (up (upA u 22 (va_cpy (u 22) (u 22) (Int32.toNatClampNeg (p0 + p1)) (Int32.toNatClampNeg p0) (Int32.toNatClampNeg (((u 1 0) - p0) - p1)))) 1 0 ((u 1 0) - p1))) X 1 1 in_X1 tk_X1 nk_X1 rfl rfl (by decide) m_X1_13 rfl rfl rfl rfl (Nat.le_of_ble_eq_true rfl) (wdX_1 g (upA u 22 (va_cpy (u 22) (u 22) (Int32.toNatClampNeg (p0 + p1)) (Int32.toNatClampNeg p0) (Int32.toNatClampNeg (((u 1 0) - p0) - p1)))) ((u 1 0) - p1)) dX1_close_30 ?_
  exact x_vret X (Option.some.inj h) dX1_close_33
set_option maxRecDepth 100000 in
set_option maxHeartbeats 4000000 in
theorem w_X6_cut_j17 {K : Cx} {g : Gw} (ret : Int32 × St) (X : XC K g cX6_cut 3 RX6 (some .int) rm_X6_cut) (u : St) (h : f_X6_cut_j17 u = some ret) : XW K 0 0 3 (QI K g (wdX g) ret) (wdX g) u 17 [] [] := by
  unfold f_X6_cut_j17 at h
  refine x_iconst (v := (-1)) X dX6_cut_17 (by decide) ?_
  exact x_iret X (Option.some.inj h) dX6_cut_18
set_option maxRecDepth 100000 in
set_option maxHeartbeats 4000000 in
theorem c_X6_cut (l : Launch) (D : va_G) (g : Gw) (p0 : Int32) (p1 : Int32) (u : St) (ret : Int32 × St) (h : f_X6_cut p0 p1 u = some ret) : metI l D g (wdX g) yX6_cut cX6_cut 3 .int rm_X6_cut [.ref (g.1 0), .int p0, .int p1] u ret := by
  refine metI_of (own := RX6) (lv := [(0, .ref (g.1 0)), (1, .int p0), (2, .int p1)]) (by decide) rfl rfl (Nat.le_of_ble_eq_true rfl) (fun K hl9 hD9 X => ?_)
  subst hl9
  subst hD9
  unfold f_X6_cut at h
  refine x_iload_n X dX6_cut_0 rfl 2 rfl ?_
  refine x_iconst (v := 1) X dX6_cut_1 (by decide) ?_
  refine x_icmp_lt (tgt := 17) X dX6_cut_2 (by decide) (fun c1 => ?_) (fun c1 => ?_)
  · replace h := if_t c1 h
    refine x_sub [] rfl ?_
    exact w_X6_cut_j17 ret X u h
  · replace h := if_f c1 h
    refine x_aload_n X dX6_cut_5 rfl 0 rfl ?_
    refine x_get (v := .ref (g.1 1)) X 0 0 in_X6 rfl rfl (by decide) m_X6_10 rfl dX6_cut_6 ?_
    refine x_iload_n X dX6_cut_9 rfl 1 rfl ?_
    refine x_iload_n X dX6_cut_10 rfl 2 rfl ?_
    obtain ⟨q2, e2, h⟩ := bd h
    refine x_callR X [.int p0, .int p1] [] (c_X1_holds K.l K.D g p0 p1 u q2 e2) ok_X1_holds m_X6_46 1 rfl rfl rfl rfl (Nat.le_of_ble_eq_true rfl) ⟨Nat.zero_le _, Nat.zero_le _⟩ ⟨rfl, rfl, by decide, by decide⟩ dX6_cut_11 ?_
    refine x_if_ne (tgt := 19) X dX6_cut_14 (by decide) (fun c3 => ?_) (fun c3 => ?_)
    · replace h := if_f c3 h
      refine x_aload_n X dX6_cut_19 rfl 0 rfl ?_
      refine x_get (v := .ref (g.1 1)) X 0 0 in_X6 rfl rfl (by decide) m_X6_10 rfl dX6_cut_20 ?_
      refine x_iload_n X dX6_cut_23 rfl 1 rfl ?_
      refine x_iload_n X dX6_cut_24 rfl 2 rfl ?_
      obtain ⟨q4, e4, h⟩ := bd h
      refine x_callV X [.int p0, .int p1] [] (c_X1_close K.l K.D g p0 p1 u q4 e4) ok_X1_close m_X6_53 1 rfl rfl rfl rfl (Nat.le_of_ble_eq_true rfl) ⟨Nat.zero_le _, Nat.zero_le _⟩ ⟨rfl, rfl, by decide, by decide⟩ dX6_cut_25 ?_
      refine x_aload_n X dX6_cut_28 rfl 0 rfl ?_
      refine x_get (v := .ref (g.1 1)) X 0 0 in_X6 rfl rfl (by decide) m_X6_10 rfl dX6_cut_29 ?_
      refine x_get (v := .int (q4 1 0)) X 1 1 in_X1 rfl rfl (by decide) m_X6_40 rfl dX6_cut_32 ?_
      exact x_iret X (Option.some.inj h) dX6_cut_35
    · replace h := if_t c3 h
      refine x_sub [] rfl ?_
      exact w_X6_cut_j17 ret X u h
set_option maxRecDepth 100000 in
set_option maxHeartbeats 4000000 in
theorem c_X1_open (l : Launch) (D : va_G) (g : Gw) (p0 : Int32) (p1 : Int32) (u : St) (ret : St) (h : f_X1_open p0 p1 u = some ret) : metV l D g (wdX g) yX1_open cX1_open 3 rm_X1_open [.ref (g.1 1), .int p0, .int p1] u ret := by
  refine metV_of (own := RX1) (lv := [(0, .ref (g.1 1)), (1, .int p0), (2, .int p1)]) (by decide) rfl rfl (Nat.le_of_ble_eq_true rfl) (fun K hl9 hD9 X => ?_)
  subst hl9
  subst hD9
  unfold f_X1_open at h
  refine x_aload_n X dX1_open_0 rfl 0 rfl ?_
  refine x_get (v := .ref (g.1 8)) X 1 0 in_X1 rfl rfl (by decide) m_X1_9 rfl dX1_open_1 ?_
  refine x_iload_n X dX1_open_4 rfl 1 rfl ?_
  refine x_aload_n X dX1_open_5 rfl 0 rfl ?_
  refine x_get (v := .ref (g.1 8)) X 1 0 in_X1 rfl rfl (by decide) m_X1_9 rfl dX1_open_6 ?_
  refine x_iload_n X dX1_open_9 rfl 1 rfl ?_
  refine x_iload_n X dX1_open_10 rfl 2 rfl ?_
  refine x_iadd X dX1_open_11 ?_
  refine x_aload_n X dX1_open_12 rfl 0 rfl ?_
  refine x_get (v := .int (u 1 0)) X 1 1 in_X1 rfl rfl (by decide) m_X1_13 rfl dX1_open_13 ?_
  refine x_iload_n X dX1_open_16 rfl 1 rfl ?_
  refine x_isub X dX1_open_17 ?_
  obtain ⟨i1, h⟩ := cchk_some h
  refine x_copyi (fa := (u 22)) (fb := (u 22)) (u2 := (upA u 22 (va_cpy (u 22) (u 22) (Int32.toNatClampNeg p0) (Int32.toNatClampNeg (p0 + p1)) (Int32.toNatClampNeg ((u 1 0) - p0))))) X 8 8 0 0 m_X1_17 m_acn m_acs m_aci rfl rfl rfl rfl i1 (by decide) (Nat.le_of_ble_eq_true rfl) (wdXA_22 g u (va_cpy (u 22) (u 22) (Int32.toNatClampNeg p0) (Int32.toNatClampNeg (p0 + p1)) (Int32.toNatClampNeg ((u 1 0) - p0)))) dX1_open_18 ?_
  refine x_aload_n X dX1_open_21 rfl 0 rfl ?_
  refine x_dup X dX1_open_22 rfl ?_
  refine x_get (v := .int (u 1 0)) X 1 1 in_X1 rfl rfl (by decide) m_X1_13 rfl dX1_open_23 ?_
  refine x_iload_n X dX1_open_26 rfl 2 rfl ?_
  refine x_iadd X dX1_open_27 ?_
  refine x_put (ty := .int) (u2 := (up (upA u 22 (va_cpy (u 22) (u 22) (Int32.toNatClampNeg p0) (Int32.toNatClampNeg (p0 + p1)) (Int32.toNatClampNeg ((u 1 0) - p0)))) 1 0 ((u 1 0) + p1))) X 1 1 in_X1 tk_X1 nk_X1 rfl rfl (by decide) m_X1_13 rfl rfl rfl rfl (Nat.le_of_ble_eq_true rfl) (wdX_1 g (upA u 22 (va_cpy (u 22) (u 22) (Int32.toNatClampNeg p0) (Int32.toNatClampNeg (p0 + p1)) (Int32.toNatClampNeg ((u 1 0) - p0)))) ((u 1 0) + p1)) dX1_open_28 ?_
  exact x_vret X (Option.some.inj h) dX1_open_31
set_option maxRecDepth 100000 in
set_option maxHeartbeats 4000000 in
theorem w_X6_twice_j17 {K : Cx} {g : Gw} (ret : Int32 × St) (X : XC K g cX6_twice 3 RX6 (some .int) rm_X6_twice) (u : St) (h : f_X6_twice_j17 u = some ret) : XW K 0 0 3 (QI K g (wdX g) ret) (wdX g) u 17 [] [] := by
  unfold f_X6_twice_j17 at h
  refine x_iconst (v := (-1)) X dX6_twice_17 (by decide) ?_
  exact x_iret X (Option.some.inj h) dX6_twice_18
set_option maxRecDepth 100000 in
set_option maxHeartbeats 4000000 in
theorem c_X6_twice (l : Launch) (D : va_G) (g : Gw) (p0 : Int32) (p1 : Int32) (u : St) (ret : Int32 × St) (h : f_X6_twice p0 p1 u = some ret) : metI l D g (wdX g) yX6_twice cX6_twice 3 .int rm_X6_twice [.ref (g.1 0), .int p0, .int p1] u ret := by
  refine metI_of (own := RX6) (lv := [(0, .ref (g.1 0)), (1, .int p0), (2, .int p1)]) (by decide) rfl rfl (Nat.le_of_ble_eq_true rfl) (fun K hl9 hD9 X => ?_)
  subst hl9
  subst hD9
  unfold f_X6_twice at h
  refine x_iload_n X dX6_twice_0 rfl 2 rfl ?_
  refine x_iconst (v := 1) X dX6_twice_1 (by decide) ?_
  refine x_icmp_lt (tgt := 17) X dX6_twice_2 (by decide) (fun c1 => ?_) (fun c1 => ?_)
  · replace h := if_t c1 h
    refine x_sub [] rfl ?_
    exact w_X6_twice_j17 ret X u h
  · replace h := if_f c1 h
    refine x_aload_n X dX6_twice_5 rfl 0 rfl ?_
    refine x_get (v := .ref (g.1 1)) X 0 0 in_X6 rfl rfl (by decide) m_X6_10 rfl dX6_twice_6 ?_
    refine x_iload_n X dX6_twice_9 rfl 1 rfl ?_
    refine x_iload_n X dX6_twice_10 rfl 2 rfl ?_
    obtain ⟨q2, e2, h⟩ := bd h
    refine x_callR X [.int p0, .int p1] [] (c_X1_holds K.l K.D g p0 p1 u q2 e2) ok_X1_holds m_X6_46 1 rfl rfl rfl rfl (Nat.le_of_ble_eq_true rfl) ⟨Nat.zero_le _, Nat.zero_le _⟩ ⟨rfl, rfl, by decide, by decide⟩ dX6_twice_11 ?_
    refine x_if_ne (tgt := 19) X dX6_twice_14 (by decide) (fun c3 => ?_) (fun c3 => ?_)
    · replace h := if_f c3 h
      refine x_aload_n X dX6_twice_19 rfl 0 rfl ?_
      refine x_get (v := .ref (g.1 1)) X 0 0 in_X6 rfl rfl (by decide) m_X6_10 rfl dX6_twice_20 ?_
      refine x_iload_n X dX6_twice_23 rfl 2 rfl ?_
      obtain ⟨q4, e4, h⟩ := bd h
      refine x_callR X [.int p1] [] (c_X1_hasRoomFor K.l K.D g p1 u q4 e4) ok_X1_hasRoomFor m_X6_32 1 rfl rfl rfl rfl (Nat.le_of_ble_eq_true rfl) ⟨Nat.zero_le _, Nat.zero_le _⟩ ⟨rfl, rfl, by decide, by decide⟩ dX6_twice_24 ?_
      refine x_if_ne (tgt := 33) X dX6_twice_27 (by decide) (fun c5 => ?_) (fun c5 => ?_)
      · replace h := if_f c5 h
        refine x_aload_n X dX6_twice_33 rfl 0 rfl ?_
        refine x_get (v := .ref (g.1 1)) X 0 0 in_X6 rfl rfl (by decide) m_X6_10 rfl dX6_twice_34 ?_
        refine x_iload_n X dX6_twice_37 rfl 1 rfl ?_
        refine x_iload_n X dX6_twice_38 rfl 2 rfl ?_
        obtain ⟨q6, e6, h⟩ := bd h
        refine x_callV X [.int p0, .int p1] [] (c_X1_open K.l K.D g p0 p1 u q6 e6) ok_X1_open m_X6_56 1 rfl rfl rfl rfl (Nat.le_of_ble_eq_true rfl) ⟨Nat.zero_le _, Nat.zero_le _⟩ ⟨rfl, rfl, by decide, by decide⟩ dX6_twice_39 ?_
        refine x_aload_n X dX6_twice_42 rfl 0 rfl ?_
        refine x_get (v := .ref (g.1 1)) X 0 0 in_X6 rfl rfl (by decide) m_X6_10 rfl dX6_twice_43 ?_
        refine x_get (v := .int (q6 1 0)) X 1 1 in_X1 rfl rfl (by decide) m_X6_40 rfl dX6_twice_46 ?_
        exact x_iret X (Option.some.inj h) dX6_twice_49
      · replace h := if_t c5 h
        refine x_bipush (v := (-2)) X dX6_twice_30 (by decide) ?_
        exact x_iret X (Option.some.inj h) dX6_twice_32
    · replace h := if_t c3 h
      refine x_sub [] rfl ?_
      exact w_X6_twice_j17 ret X u h
