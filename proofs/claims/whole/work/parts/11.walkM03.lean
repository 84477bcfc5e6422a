set_option maxRecDepth 100000 in
set_option maxHeartbeats 4000000 in
theorem w_X7_typeEnd_j35 {K : Cx} {g : Gw} (ret : Int32) (X : XC K g cX7_typeEnd 7 RX7 (some .int) rm_X7_typeEnd) (u : St) (h : f_X7_typeEnd_j35 u = some ret) : XW K 0 0 7 (QI K g (wdM g) (ret, u)) (wdM g) u 35 [] [] := by
  unfold f_X7_typeEnd_j35 at h
  refine x_iconst (v := (-1)) X dX7_typeEnd_35 (by decide) ?_
  exact x_iret X (roE (Option.some.inj h)) dX7_typeEnd_36
abbrev H_X7_typeEnd_75 (x1 : Int32) (x3 : Int32) (x5 : Int32) (K : Cx) (g : Gw) (u : St) (ret : Int32) (a : Int32) : Prop := XW K 0 0 7 (QI K g (wdM g) (ret, u)) (wdM g) u 75 [(0, .ref (g.1 0)), (1, .int x1), (3, .int x3), (5, .int x5), (6, .int a)] []
abbrev E_X7_typeEnd_75 (x1 : Int32) (x3 : Int32) (x5 : Int32) (K : Cx) (g : Gw) (u : St) (ret : Int32) (q : (Int32) ⊕ (Int32)) : Prop := Sum.elim (fun q => q = ret) (fun q => XW K 0 0 7 (QI K g (wdM g) (ret, u)) (wdM g) u 99 [(0, .ref (g.1 0)), (1, .int x1), (3, .int x3), (5, .int x5), (6, .int q)] []) q
set_option maxRecDepth 100000 in
set_option maxHeartbeats 4000000 in
theorem w_X7_typeEnd_b75 {K : Cx} {g : Gw} (x1 : Int32) (x3 : Int32) (x5 : Int32) (u : St) (ret : Int32) (X : XC K g cX7_typeEnd 7 RX7 (some .int) rm_X7_typeEnd) (a : Int32) (r : ((Int32) ⊕ (Int32)) ⊕ (Int32)) (h : f_X7_typeEnd_b75 x1 x3 x5 u a = some r) (k0 : ∀ q, r = .inl q → E_X7_typeEnd_75 x1 x3 x5 K g u ret q) (k1 : ∀ q, r = .inr q → H_X7_typeEnd_75 x1 x3 x5 K g u ret q) : H_X7_typeEnd_75 x1 x3 x5 K g u ret a := by
  unfold f_X7_typeEnd_b75 at h
  show XW K 0 0 7 (QI K g (wdM g) (ret, u)) (wdM g) u 75 [(0, .ref (g.1 0)), (1, .int x1), (3, .int x3), (5, .int x5), (6, .int a)] []
  refine x_iload X dX7_typeEnd_75 4 rfl ?_
  refine x_iload_n X dX7_typeEnd_77 rfl 2 rfl ?_
  refine x_icmp_ge (tgt := 99) X dX7_typeEnd_78 (by decide) (fun c10 => ?_) (fun c10 => ?_)
  · replace h := if_t c10 h
    have h9 := k0 _ (Option.some.inj h).symm
    exact h9
  · replace h := if_f c10 h
    refine x_aload_n X dX7_typeEnd_81 rfl 0 rfl ?_
    refine x_iload_n X dX7_typeEnd_82 rfl 1 rfl ?_
    refine x_iload X dX7_typeEnd_83 4 rfl ?_
    obtain ⟨q11, e11, h⟩ := bd h
    refine x_callR X [.int x1, .int a] [] (c_X7_letter K.l K.D g x1 a u q11 e11) ok_X7_letter m_X7_101 0 rfl rfl rfl rfl (Nat.le_of_ble_eq_true rfl) ⟨Nat.zero_le _, Nat.zero_le _⟩ ⟨rfl, rfl, by decide, by decide⟩ dX7_typeEnd_85 ?_
    refine x_bipush (v := 59) X dX7_typeEnd_88 (by decide) ?_
    refine x_icmp_eq (tgt := 99) X dX7_typeEnd_90 (by decide) (fun c12 => ?_) (fun c12 => ?_)
    · replace h := if_t c12 h
      have h9 := k0 _ (Option.some.inj h).symm
      exact h9
    · replace h := if_f c12 h
      refine x_iinc (v := (a + 1)) (lv2 := [(6, .int (a + 1)), (0, .ref (g.1 0)), (1, .int x1), (3, .int x3), (5, .int x5)]) X dX7_typeEnd_93 4 rfl rfl (by decide) rfl ?_
      refine x_goto (tgt := 75) X dX7_typeEnd_96 (by decide) ?_
      refine x_sub [1, 2, 3, 4, 0] rfl ?_
      have h9 := k1 _ (Option.some.inj h).symm
      exact h9
set_option maxRecDepth 100000 in
set_option maxHeartbeats 4000000 in
theorem w_X7_typeEnd_j127 {K : Cx} {g : Gw} (ret : Int32) (X : XC K g cX7_typeEnd 7 RX7 (some .int) rm_X7_typeEnd) (z0 : Int32) (u : St) (h : f_X7_typeEnd_j127 z0 u = some ret) : XW K 0 0 7 (QI K g (wdM g) (ret, u)) (wdM g) u 127 [] [.int z0] := by
  unfold f_X7_typeEnd_j127 at h
  exact x_iret X (roE (Option.some.inj h)) dX7_typeEnd_127
set_option maxRecDepth 100000 in
set_option maxHeartbeats 4000000 in
theorem w_X7_typeEnd_j126 {K : Cx} {g : Gw} (ret : Int32) (X : XC K g cX7_typeEnd 7 RX7 (some .int) rm_X7_typeEnd) (u : St) (h : f_X7_typeEnd_j126 u = some ret) : XW K 0 0 7 (QI K g (wdM g) (ret, u)) (wdM g) u 126 [] [] := by
  unfold f_X7_typeEnd_j126 at h
  refine x_iconst (v := (-1)) X dX7_typeEnd_126 (by decide) ?_
  exact w_X7_typeEnd_j127 ret X (-1) u h
set_option maxRecDepth 100000 in
set_option maxHeartbeats 4000000 in
theorem w_X7_typeEnd_j99 {K : Cx} {g : Gw} (ret : Int32) (X : XC K g cX7_typeEnd 7 RX7 (some .int) rm_X7_typeEnd) (x1 : Int32) (x3 : Int32) (x5 : Int32) (x6 : Int32) (u : St) (h : f_X7_typeEnd_j99 x1 x3 x5 x6 u = some ret) : XW K 0 0 7 (QI K g (wdM g) (ret, u)) (wdM g) u 99 [(0, .ref (g.1 0)), (1, .int x1), (3, .int x3), (5, .int x5), (6, .int x6)] [] := by
  unfold f_X7_typeEnd_j99 at h
  refine x_iload X dX7_typeEnd_99 4 rfl ?_
  refine x_iload_n X dX7_typeEnd_101 rfl 2 rfl ?_
  refine x_icmp_ge (tgt := 126) X dX7_typeEnd_102 (by decide) (fun c14 => ?_) (fun c14 => ?_)
  · replace h := if_t c14 h
    refine x_sub [] rfl ?_
    exact w_X7_typeEnd_j126 ret X u h
  · replace h := if_f c14 h
    refine x_aload_n X dX7_typeEnd_105 rfl 0 rfl ?_
    refine x_iload_n X dX7_typeEnd_106 rfl 1 rfl ?_
    refine x_iload X dX7_typeEnd_107 3 rfl ?_
    refine x_iconst (v := 1) X dX7_typeEnd_109 (by decide) ?_
    refine x_iadd X dX7_typeEnd_110 ?_
    refine x_iload X dX7_typeEnd_111 4 rfl ?_
    obtain ⟨q15, e15, h⟩ := bd h
    refine x_callR X [.int x1, .int (x5 + 1), .int x6] [] (c_X7_className K.l K.D g x1 (x5 + 1) x6 u q15 e15) ok_X7_className m_X7_119 0 rfl rfl rfl rfl (Nat.le_of_ble_eq_true rfl) ⟨Nat.zero_le _, Nat.zero_le _⟩ ⟨rfl, rfl, by decide, by decide⟩ dX7_typeEnd_113 ?_
    refine x_if_eq (tgt := 126) X dX7_typeEnd_116 (by decide) (fun c16 => ?_) (fun c16 => ?_)
    · replace h := if_t c16 h
      refine x_sub [] rfl ?_
      exact w_X7_typeEnd_j126 ret X u h
    · replace h := if_f c16 h
      refine x_iload X dX7_typeEnd_119 4 rfl ?_
      refine x_iconst (v := 1) X dX7_typeEnd_121 (by decide) ?_
      refine x_iadd X dX7_typeEnd_122 ?_
      refine x_goto (tgt := 127) X dX7_typeEnd_123 (by decide) ?_
      refine x_sub [] rfl ?_
      exact w_X7_typeEnd_j127 ret X (x6 + 1) u h
set_option maxRecDepth 100000 in
set_option maxHeartbeats 4000000 in
theorem c_X7_typeEnd (l : Launch) (D : va_G) (g : Gw) (p0 : Int32) (p1 : Int32) (u : St) (ret : Int32) (h : f_X7_typeEnd p0 p1 u = some ret) : metI l D g (wdM g) yX7_typeEnd cX7_typeEnd 7 .int rm_X7_typeEnd [.ref (g.1 0), .int p0, .int p1] u (ret, u) := by
  refine metI_of (own := RX7) (lv := [(0, .ref (g.1 0)), (1, .int p0), (2, .int p1)]) (by decide) rfl rfl (Nat.le_of_ble_eq_true rfl) (fun K hl9 hD9 X => ?_)
  subst hl9
  subst hD9
  unfold f_X7_typeEnd at h
  refine x_aload_n X dX7_typeEnd_0 rfl 0 rfl ?_
  refine x_get (v := .ref (g.1 7)) X 0 15 in_X7 rfl rfl (by decide) m_X7_28 rfl dX7_typeEnd_1 ?_
  refine x_iload_n X dX7_typeEnd_4 rfl 1 rfl ?_
  obtain ⟨i1, h⟩ := chk_some h
  refine x_iald (f := (u 36)) X 7 0 rfl rfl i1 dX7_typeEnd_5 ?_
  refine x_istore_n (lv2 := [(3, .int ((u 36) (Int32.toNatClampNeg p0))), (0, .ref (g.1 0)), (1, .int p0), (2, .int p1)]) X dX7_typeEnd_6 rfl (by decide) rfl ?_
  refine x_aload_n X dX7_typeEnd_7 rfl 1 rfl ?_
  refine x_iload_n X dX7_typeEnd_8 rfl 2 rfl ?_
  refine x_iload_n X dX7_typeEnd_9 rfl 3 rfl ?_
  obtain ⟨q2, e2, h⟩ := bd h
  refine x_callR X [.int p0, .int p1] [] (c_X7_brackets K.l K.D g p0 p1 u q2 e2) ok_X7_brackets m_X7_113 0 rfl rfl rfl rfl (Nat.le_of_ble_eq_true rfl) ⟨Nat.zero_le _, Nat.zero_le _⟩ ⟨rfl, rfl, by decide, by decide⟩ dX7_typeEnd_10 ?_
  refine x_istore (lv2 := [(4, .int q2), (3, .int ((u 36) (Int32.toNatClampNeg p0))), (0, .ref (g.1 0)), (1, .int p0), (2, .int p1)]) X dX7_typeEnd_13 (by decide) rfl ?_
  refine x_iload_n X dX7_typeEnd_15 rfl 4 rfl ?_
  refine x_iload X dX7_typeEnd_16 0 rfl ?_
  refine x_iadd X dX7_typeEnd_18 ?_
  refine x_istore (lv2 := [(5, .int (p1 + q2)), (4, .int q2), (3, .int ((u 36) (Int32.toNatClampNeg p0))), (0, .ref (g.1 0)), (1, .int p0), (2, .int p1)]) X dX7_typeEnd_19 (by decide) rfl ?_
  refine x_iload X dX7_typeEnd_21 1 rfl ?_
  refine x_sipush (v := 255) X dX7_typeEnd_23 (by decide) ?_
  refine x_icmp_gt (tgt := 35) X dX7_typeEnd_26 (by decide) (fun c3 => ?_) (fun c3 => ?_)
  · replace h := if_t c3 h
    refine x_sub [] rfl ?_
    exact w_X7_typeEnd_j35 ret X u h
  · replace h := if_f c3 h
    refine x_iload X dX7_typeEnd_29 0 rfl ?_
    refine x_iload_n X dX7_typeEnd_31 rfl 2 rfl ?_
    refine x_icmp_lt (tgt := 37) X dX7_typeEnd_32 (by decide) (fun c4 => ?_) (fun c4 => ?_)
    · replace h := if_t c4 h
      refine x_aload_n X dX7_typeEnd_37 rfl 3 rfl ?_
      refine x_iload_n X dX7_typeEnd_38 rfl 4 rfl ?_
      refine x_iload X dX7_typeEnd_39 0 rfl ?_
      obtain ⟨q5, e5, h⟩ := bd h
      refine x_callR X [.int p0, .int (p1 + q2)] [] (c_X7_letter K.l K.D g p0 (p1 + q2) u q5 e5) ok_X7_letter m_X7_101 0 rfl rfl rfl rfl (Nat.le_of_ble_eq_true rfl) ⟨Nat.zero_le _, Nat.zero_le _⟩ ⟨rfl, rfl, by decide, by decide⟩ dX7_typeEnd_41 ?_
      obtain ⟨q6, e6, h⟩ := bd h
      refine x_scallR X [.int q5] [] (c_X7_base K.l K.D g q5 u q6 e6) ok_X7_base m_X7_116 rfl rfl (Nat.le_of_ble_eq_true rfl) ⟨Nat.zero_le _, Nat.zero_le _⟩ ⟨rfl, rfl, by decide, by decide⟩ dX7_typeEnd_44 ?_
      refine x_if_eq (tgt := 55) X dX7_typeEnd_47 (by decide) (fun c7 => ?_) (fun c7 => ?_)
      · replace h := if_t c7 h
        refine x_aload_n X dX7_typeEnd_55 rfl 3 rfl ?_
        refine x_iload_n X dX7_typeEnd_56 rfl 4 rfl ?_
        refine x_iload X dX7_typeEnd_57 0 rfl ?_
        obtain ⟨q8, e8, h⟩ := bd h
        refine x_callR X [.int p0, .int (p1 + q2)] [] (c_X7_letter K.l K.D g p0 (p1 + q2) u q8 e8) ok_X7_letter m_X7_101 0 rfl rfl rfl rfl (Nat.le_of_ble_eq_true rfl) ⟨Nat.zero_le _, Nat.zero_le _⟩ ⟨rfl, rfl, by decide, by decide⟩ dX7_typeEnd_59 ?_
        refine x_bipush (v := 76) X dX7_typeEnd_62 (by decide) ?_
        refine x_icmp_eq (tgt := 69) X dX7_typeEnd_64 (by decide) (fun c9 => ?_) (fun c9 => ?_)
        · replace h := if_t c9 h
          refine x_iload X dX7_typeEnd_69 0 rfl ?_
          refine x_iconst (v := 1) X dX7_typeEnd_71 (by decide) ?_
          refine x_iadd X dX7_typeEnd_72 ?_
          refine x_istore (lv2 := [(6, .int ((p1 + q2) + 1)), (5, .int (p1 + q2)), (4, .int q2), (3, .int ((u 36) (Int32.toNatClampNeg p0))), (0, .ref (g.1 0)), (1, .int p0), (2, .int p1)]) X dX7_typeEnd_73 (by decide) rfl ?_
          refine x_sub [4, 5, 3, 1, 0] rfl ?_
          obtain ⟨q130, e13, h⟩ := bd h
          refine loopF_w (WH := H_X7_typeEnd_75 p0 ((u 36) (Int32.toNatClampNeg p0)) (p1 + q2) K g u ret) (KB := E_X7_typeEnd_75 p0 ((u 36) (Int32.toNatClampNeg p0)) (p1 + q2) K g u ret) (fun a9 r9 h9 k8 k7 => w_X7_typeEnd_b75 p0 ((u 36) (Int32.toNatClampNeg p0)) (p1 + q2) u ret X a9 r9 h9 k8 k7) FU ((p1 + q2) + 1) q130 e13 ?_
          rcases q130 with q13 | q13
          · replace h := sl h
            exact (Option.some.inj h)
          · replace h := sr h
            show XW K 0 0 7 (QI K g (wdM g) (ret, u)) (wdM g) u 99 [(0, .ref (g.1 0)), (1, .int p0), (3, .int ((u 36) (Int32.toNatClampNeg p0))), (5, .int (p1 + q2)), (6, .int q13)] []
            exact w_X7_typeEnd_j99 ret X p0 ((u 36) (Int32.toNatClampNeg p0)) (p1 + q2) q13 u h
        · replace h := if_f c9 h
          refine x_iconst (v := (-1)) X dX7_typeEnd_67 (by decide) ?_
          exact x_iret X (roE (Option.some.inj h)) dX7_typeEnd_68
      · replace h := if_f c7 h
        refine x_iload X dX7_typeEnd_50 0 rfl ?_
        refine x_iconst (v := 1) X dX7_typeEnd_52 (by decide) ?_
        refine x_iadd X dX7_typeEnd_53 ?_
        exact x_iret X (roE (Option.some.inj h)) dX7_typeEnd_54
    · replace h := if_f c4 h
      refine x_sub [] rfl ?_
      exact w_X7_typeEnd_j35 ret X u h
set_option maxRecDepth 100000 in
set_option maxHeartbeats 4000000 in
theorem w_X7_fieldType_j20 {K : Cx} {g : Gw} (ret : Int32) (X : XC K g cX7_fieldType 2 RX7 (some .boolean) rm_X7_fieldType) (z0 : Int32) (u : St) (h : f_X7_fieldType_j20 z0 u = some ret) : XW K 0 0 2 (QI K g (wdM g) (ret, u)) (wdM g) u 20 [] [.int z0] := by
  unfold f_X7_fieldType_j20 at h
  obtain ⟨b4, h⟩ := bchk_some h
  exact x_zret X b4 (roE (Option.some.inj h)) dX7_fieldType_20
set_option maxRecDepth 100000 in
set_option maxHeartbeats 4000000 in
theorem c_X7_fieldType (l : Launch) (D : va_G) (g : Gw) (p0 : Int32) (u : St) (ret : Int32) (h : f_X7_fieldType p0 u = some ret) : metI l D g (wdM g) yX7_fieldType cX7_fieldType 2 .boolean rm_X7_fieldType [.ref (g.1 0), .int p0] u (ret, u) := by
  refine metI_of (own := RX7) (lv := [(0, .ref (g.1 0)), (1, .int p0)]) (by decide) rfl rfl (Nat.le_of_ble_eq_true rfl) (fun K hl9 hD9 X => ?_)
  subst hl9
  subst hD9
  unfold f_X7_fieldType at h
  refine x_aload_n X dX7_fieldType_0 rfl 0 rfl ?_
  refine x_iload_n X dX7_fieldType_1 rfl 1 rfl ?_
  refine x_iconst (v := 0) X dX7_fieldType_2 (by decide) ?_
  obtain ⟨q1, e1, h⟩ := bd h
  refine x_callR X [.int p0, .int 0] [] (c_X7_typeEnd K.l K.D g p0 0 u q1 e1) ok_X7_typeEnd m_X7_123 0 rfl rfl rfl rfl (Nat.le_of_ble_eq_true rfl) ⟨Nat.zero_le _, Nat.zero_le _⟩ ⟨rfl, rfl, by decide, by decide⟩ dX7_fieldType_3 ?_
  refine x_aload_n X dX7_fieldType_6 rfl 0 rfl ?_
  refine x_get (v := .ref (g.1 7)) X 0 15 in_X7 rfl rfl (by decide) m_X7_28 rfl dX7_fieldType_7 ?_
  refine x_iload_n X dX7_fieldType_10 rfl 1 rfl ?_
  obtain ⟨i2, h⟩ := chk_some h
  refine x_iald (f := (u 36)) X 7 0 rfl rfl i2 dX7_fieldType_11 ?_
  refine x_icmp_ne (tgt := 19) X dX7_fieldType_12 (by decide) (fun c3 => ?_) (fun c3 => ?_)
  · replace h := if_f c3 h
    refine x_iconst (v := 0) X dX7_fieldType_19 (by decide) ?_
    refine x_sub [] rfl ?_
    exact w_X7_fieldType_j20 ret X 0 u h
  · replace h := if_t c3 h
    refine x_iconst (v := 1) X dX7_fieldType_15 (by decide) ?_
    refine x_goto (tgt := 20) X dX7_fieldType_16 (by decide) ?_
    refine x_sub [] rfl ?_
    exact w_X7_fieldType_j20 ret X 1 u h
set_option maxRecDepth 100000 in
set_option maxHeartbeats 4000000 in
theorem w_X7_methodType_j22 {K : Cx} {g : Gw} (ret : Int32) (X : XC K g cX7_methodType 4 RX7 (some .boolean) rm_X7_methodType) (u : St) (h : f_X7_methodType_j22 u = some ret) : XW K 0 0 4 (QI K g (wdM g) (ret, u)) (wdM g) u 22 [] [] := by
  unfold f_X7_methodType_j22 at h
  refine x_iconst (v := 0) X dX7_methodType_22 (by decide) ?_
  exact x_zret X rfl (roE (Option.some.inj h)) dX7_methodType_23
abbrev H_X7_methodType_26 (x1 : Int32) (x2 : Int32) (K : Cx) (g : Gw) (u : St) (ret : Int32) (a : Int32) : Prop := XW K 0 0 4 (QI K g (wdM g) (ret, u)) (wdM g) u 26 [(0, .ref (g.1 0)), (1, .int x1), (2, .int x2), (3, .int a)] []
abbrev E_X7_methodType_26 (x1 : Int32) (x2 : Int32) (K : Cx) (g : Gw) (u : St) (ret : Int32) (q : (Int32) ⊕ (Int32)) : Prop := Sum.elim (fun q => q = ret) (fun q => XW K 0 0 4 (QI K g (wdM g) (ret, u)) (wdM g) u 56 [(0, .ref (g.1 0)), (1, .int x1), (2, .int x2), (3, .int q)] []) q
set_option maxRecDepth 100000 in
set_option maxHeartbeats 4000000 in
theorem w_X7_methodType_b26 {K : Cx} {g : Gw} (x1 : Int32) (x2 : Int32) (u : St) (ret : Int32) (X : XC K g cX7_methodType 4 RX7 (some .boolean) rm_X7_methodType) (a : Int32) (r : ((Int32) ⊕ (Int32)) ⊕ (Int32)) (h : f_X7_methodType_b26 x1 x2 u a = some r) (k0 : ∀ q, r = .inl q → E_X7_methodType_26 x1 x2 K g u ret q) (k1 : ∀ q, r = .inr q → H_X7_methodType_26 x1 x2 K g u ret q) : H_X7_methodType_26 x1 x2 K g u ret a := by
  unfold f_X7_methodType_b26 at h
  show XW K 0 0 4 (QI K g (wdM g) (ret, u)) (wdM g) u 26 [(0, .ref (g.1 0)), (1, .int x1), (2, .int x2), (3, .int a)] []
  refine x_iload_n X dX7_methodType_26 rfl 3 rfl ?_
  refine x_if_lt (tgt := 56) X dX7_methodType_27 (by decide) (fun c5 => ?_) (fun c5 => ?_)
  · replace h := if_t c5 h
    have h9 := k0 _ (Option.some.inj h).symm
    exact h9
  · replace h := if_f c5 h
    refine x_iload_n X dX7_methodType_30 rfl 3 rfl ?_
    refine x_iload_n X dX7_methodType_31 rfl 2 rfl ?_
    refine x_icmp_ge (tgt := 56) X dX7_methodType_32 (by decide) (fun c6 => ?_) (fun c6 => ?_)
    · replace h := if_t c6 h
      have h9 := k0 _ (Option.some.inj h).symm
      exact h9
    · replace h := if_f c6 h
      refine x_aload_n X dX7_methodType_35 rfl 0 rfl ?_
      refine x_iload_n X dX7_methodType_36 rfl 1 rfl ?_
      refine x_iload_n X dX7_methodType_37 rfl 3 rfl ?_
      obtain ⟨q7, e7, h⟩ := bd h
      refine x_callR X [.int x1, .int a] [] (c_X7_letter K.l K.D g x1 a u q7 e7) ok_X7_letter m_X7_101 0 rfl rfl rfl rfl (Nat.le_of_ble_eq_true rfl) ⟨Nat.zero_le _, Nat.zero_le _⟩ ⟨rfl, rfl, by decide, by decide⟩ dX7_methodType_38 ?_
      refine x_bipush (v := 41) X dX7_methodType_41 (by decide) ?_
      refine x_icmp_eq (tgt := 56) X dX7_methodType_43 (by decide) (fun c8 => ?_) (fun c8 => ?_)
      · replace h := if_t c8 h
        have h9 := k0 _ (Option.some.inj h).symm
        exact h9
      · replace h := if_f c8 h
        refine x_aload_n X dX7_methodType_46 rfl 0 rfl ?_
        refine x_iload_n X dX7_methodType_47 rfl 1 rfl ?_
        refine x_iload_n X dX7_methodType_48 rfl 3 rfl ?_
        obtain ⟨q9, e9, h⟩ := bd h
        refine x_callR X [.int x1, .int a] [] (c_X7_typeEnd K.l K.D g x1 a u q9 e9) ok_X7_typeEnd m_X7_123 0 rfl rfl rfl rfl (Nat.le_of_ble_eq_true rfl) ⟨Nat.zero_le _, Nat.zero_le _⟩ ⟨rfl, rfl, by decide, by decide⟩ dX7_methodType_49 ?_
        refine x_istore_n (lv2 := [(3, .int q9), (0, .ref (g.1 0)), (1, .int x1), (2, .int x2)]) X dX7_methodType_52 rfl (by decide) rfl ?_
        refine x_goto (tgt := 26) X dX7_methodType_53 (by decide) ?_
        refine x_sub [1, 2, 3, 0] rfl ?_
        have h9 := k1 _ (Option.some.inj h).symm
        exact h9
set_option maxRecDepth 100000 in
set_option maxHeartbeats 4000000 in
theorem w_X7_methodType_j65 {K : Cx} {g : Gw} (ret : Int32) (X : XC K g cX7_methodType 4 RX7 (some .boolean) rm_X7_methodType) (u : St) (h : f_X7_methodType_j65 u = some ret) : XW K 0 0 4 (QI K g (wdM g) (ret, u)) (wdM g) u 65 [] [] := by
  unfold f_X7_methodType_j65 at h
  refine x_iconst (v := 0) X dX7_methodType_65 (by decide) ?_
  exact x_zret X rfl (roE (Option.some.inj h)) dX7_methodType_66
set_option maxRecDepth 100000 in
set_option maxHeartbeats 4000000 in
theorem w_X7_methodType_j105 {K : Cx} {g : Gw} (ret : Int32) (X : XC K g cX7_methodType 4 RX7 (some .boolean) rm_X7_methodType) (z0 : Int32) (u : St) (h : f_X7_methodType_j105 z0 u = some ret) : XW K 0 0 4 (QI K g (wdM g) (ret, u)) (wdM g) u 105 [] [.int z0] := by
  unfold f_X7_methodType_j105 at h
  obtain ⟨b16, h⟩ := bchk_some h
  exact x_zret X b16 (roE (Option.some.inj h)) dX7_methodType_105
set_option maxRecDepth 100000 in
set_option maxHeartbeats 4000000 in
theorem w_X7_methodType_j90 {K : Cx} {g : Gw} (ret : Int32) (X : XC K g cX7_methodType 4 RX7 (some .boolean) rm_X7_methodType) (x1 : Int32) (x2 : Int32) (x3 : Int32) (u : St) (h : f_X7_methodType_j90 x1 x2 x3 u = some ret) : XW K 0 0 4 (QI K g (wdM g) (ret, u)) (wdM g) u 90 [(0, .ref (g.1 0)), (1, .int x1), (2, .int x2), (3, .int x3)] [] := by
  unfold f_X7_methodType_j90 at h
  refine x_aload_n X dX7_methodType_90 rfl 0 rfl ?_
  refine x_iload_n X dX7_methodType_91 rfl 1 rfl ?_
  refine x_iload_n X dX7_methodType_92 rfl 3 rfl ?_
  obtain ⟨q14, e14, h⟩ := bd h
  refine x_callR X [.int x1, .int x3] [] (c_X7_typeEnd K.l K.D g x1 x3 u q14 e14) ok_X7_typeEnd m_X7_123 0 rfl rfl rfl rfl (Nat.le_of_ble_eq_true rfl) ⟨Nat.zero_le _, Nat.zero_le _⟩ ⟨rfl, rfl, by decide, by decide⟩ dX7_methodType_93 ?_
  refine x_iload_n X dX7_methodType_96 rfl 2 rfl ?_
  refine x_icmp_ne (tgt := 104) X dX7_methodType_97 (by decide) (fun c15 => ?_) (fun c15 => ?_)
  · replace h := if_f c15 h
    refine x_iconst (v := 0) X dX7_methodType_104 (by decide) ?_
    refine x_sub [] rfl ?_
    exact w_X7_methodType_j105 ret X 0 u h
  · replace h := if_t c15 h
    refine x_iconst (v := 1) X dX7_methodType_100 (by decide) ?_
    refine x_goto (tgt := 105) X dX7_methodType_101 (by decide) ?_
    refine x_sub [] rfl ?_
    exact w_X7_methodType_j105 ret X 1 u h
set_option maxRecDepth 100000 in
set_option maxHeartbeats 4000000 in
theorem w_X7_methodType_j56 {K : Cx} {g : Gw} (ret : Int32) (X : XC K g cX7_methodType 4 RX7 (some .boolean) rm_X7_methodType) (x1 : Int32) (x2 : Int32) (x3 : Int32) (u : St) (h : f_X7_methodType_j56 x1 x2 x3 u = some ret) : XW K 0 0 4 (QI K g (wdM g) (ret, u)) (wdM g) u 56 [(0, .ref (g.1 0)), (1, .int x1), (2, .int x2), (3, .int x3)] [] := by
  unfold f_X7_methodType_j56 at h
  refine x_iload_n X dX7_methodType_56 rfl 3 rfl ?_
  refine x_if_lt (tgt := 65) X dX7_methodType_57 (by decide) (fun c11 => ?_) (fun c11 => ?_)
  · replace h := if_t c11 h
    refine x_sub [] rfl ?_
    exact w_X7_methodType_j65 ret X u h
  · replace h := if_f c11 h
    refine x_iload_n X dX7_methodType_60 rfl 3 rfl ?_
    refine x_iload_n X dX7_methodType_61 rfl 2 rfl ?_
    refine x_icmp_lt (tgt := 67) X dX7_methodType_62 (by decide) (fun c12 => ?_) (fun c12 => ?_)
    · replace h := if_t c12 h
      refine x_iinc (v := (x3 + 1)) (lv2 := [(3, .int (x3 + 1)), (0, .ref (g.1 0)), (1, .int x1), (2, .int x2)]) X dX7_methodType_67 3 rfl rfl (by decide) rfl ?_
      refine x_iload_n X dX7_methodType_70 rfl 0 rfl ?_
      refine x_iload_n X dX7_methodType_71 rfl 3 rfl ?_
      refine x_iconst (v := 1) X dX7_methodType_72 (by decide) ?_
      refine x_isub X dX7_methodType_73 ?_
      refine x_icmp_ne (tgt := 90) X dX7_methodType_74 (by decide) (fun c13 => ?_) (fun c13 => ?_)
      · replace h := if_f c13 h
        refine x_sub [1, 2, 3, 0] rfl ?_
        exact w_X7_methodType_j90 ret X x1 x2 (x3 + 1) u h
      · replace h := if_t c13 h
        refine x_aload_n X dX7_methodType_77 rfl 1 rfl ?_
        refine x_iload_n X dX7_methodType_78 rfl 2 rfl ?_
        refine x_iload_n X dX7_methodType_79 rfl 0 rfl ?_
        obtain ⟨q17, e17, h⟩ := bd h
        refine x_callR X [.int x1, .int (x3 + 1)] [] (c_X7_letter K.l K.D g x1 (x3 + 1) u q17 e17) ok_X7_letter m_X7_101 0 rfl rfl rfl rfl (Nat.le_of_ble_eq_true rfl) ⟨Nat.zero_le _, Nat.zero_le _⟩ ⟨rfl, rfl, by decide, by decide⟩ dX7_methodType_80 ?_
        refine x_bipush (v := 86) X dX7_methodType_83 (by decide) ?_
        refine x_icmp_ne (tgt := 90) X dX7_methodType_85 (by decide) (fun c18 => ?_) (fun c18 => ?_)
        · replace h := if_f c18 h
          refine x_sub [1, 2, 3, 0] rfl ?_
          exact w_X7_methodType_j90 ret X x1 x2 (x3 + 1) u h
        · replace h := if_t c18 h
          refine x_iconst (v := 1) X dX7_methodType_88 (by decide) ?_
          exact x_zret X rfl (roE (Option.some.inj h)) dX7_methodType_89
    · replace h := if_f c12 h
      refine x_sub [] rfl ?_
      exact w_X7_methodType_j65 ret X u h
set_option maxRecDepth 100000 in
set_option maxHeartbeats 4000000 in
theorem c_X7_methodType (l : Launch) (D : va_G) (g : Gw) (p0 : Int32) (u : St) (ret : Int32) (h : f_X7_methodType p0 u = some ret) : metI l D g (wdM g) yX7_methodType cX7_methodType 4 .boolean rm_X7_methodType [.ref (g.1 0), .int p0] u (ret, u) := by
  refine metI_of (own := RX7) (lv := [(0, .ref (g.1 0)), (1, .int p0)]) (by decide) rfl rfl (Nat.le_of_ble_eq_true rfl) (fun K hl9 hD9 X => ?_)
  subst hl9
  subst hD9
  unfold f_X7_methodType at h
  refine x_aload_n X dX7_methodType_0 rfl 0 rfl ?_
  refine x_get (v := .ref (g.1 7)) X 0 15 in_X7 rfl rfl (by decide) m_X7_28 rfl dX7_methodType_1 ?_
  refine x_iload_n X dX7_methodType_4 rfl 1 rfl ?_
  obtain ⟨i1, h⟩ := chk_some h
  refine x_iald (f := (u 36)) X 7 0 rfl rfl i1 dX7_methodType_5 ?_
  refine x_istore_n (lv2 := [(2, .int ((u 36) (Int32.toNatClampNeg p0))), (0, .ref (g.1 0)), (1, .int p0)]) X dX7_methodType_6 rfl (by decide) rfl ?_
  refine x_iload_n X dX7_methodType_7 rfl 0 rfl ?_
  refine x_if_eq (tgt := 22) X dX7_methodType_8 (by decide) (fun c2 => ?_) (fun c2 => ?_)
  · replace h := if_t c2 h
    refine x_sub [] rfl ?_
    exact w_X7_methodType_j22 ret X u h
  · replace h := if_f c2 h
    refine x_aload_n X dX7_methodType_11 rfl 1 rfl ?_
    refine x_iload_n X dX7_methodType_12 rfl 2 rfl ?_
    refine x_iconst (v := 0) X dX7_methodType_13 (by decide) ?_
    obtain ⟨q3, e3, h⟩ := bd h
    refine x_callR X [.int p0, .int 0] [] (c_X7_letter K.l K.D g p0 0 u q3 e3) ok_X7_letter m_X7_101 0 rfl rfl rfl rfl (Nat.le_of_ble_eq_true rfl) ⟨Nat.zero_le _, Nat.zero_le _⟩ ⟨rfl, rfl, by decide, by decide⟩ dX7_methodType_14 ?_
    refine x_bipush (v := 40) X dX7_methodType_17 (by decide) ?_
    refine x_icmp_eq (tgt := 24) X dX7_methodType_19 (by decide) (fun c4 => ?_) (fun c4 => ?_)
    · replace h := if_t c4 h
      refine x_iconst (v := 1) X dX7_methodType_24 (by decide) ?_
      refine x_istore_n (lv2 := [(3, .int 1), (2, .int ((u 36) (Int32.toNatClampNeg p0))), (0, .ref (g.1 0)), (1, .int p0)]) X dX7_methodType_25 rfl (by decide) rfl ?_
      refine x_sub [2, 3, 1, 0] rfl ?_
      obtain ⟨q100, e10, h⟩ := bd h
      refine loopF_w (WH := H_X7_methodType_26 p0 ((u 36) (Int32.toNatClampNeg p0)) K g u ret) (KB := E_X7_methodType_26 p0 ((u 36) (Int32.toNatClampNeg p0)) K g u ret) (fun a9 r9 h9 k8 k7 => w_X7_methodType_b26 p0 ((u 36) (Int32.toNatClampNeg p0)) u ret X a9 r9 h9 k8 k7) FU 1 q100 e10 ?_
      rcases q100 with q10 | q10
      · replace h := sl h
        exact (Option.some.inj h)
      · replace h := sr h
        show XW K 0 0 4 (QI K g (wdM g) (ret, u)) (wdM g) u 56 [(0, .ref (g.1 0)), (1, .int p0), (2, .int ((u 36) (Int32.toNatClampNeg p0))), (3, .int q10)] []
        exact w_X7_methodType_j56 ret X p0 ((u 36) (Int32.toNatClampNeg p0)) q10 u h
    · replace h := if_f c4 h
      refine x_sub [] rfl ?_
      exact w_X7_methodType_j22 ret X u h
abbrev H_X7_characters_2 (x1 : Int32) (x2 : Int32) (K : Cx) (g : Gw) (ret : St) (a : Int32 × St) : Prop := XW K 0 0 8 (QV K g (wdM g) ret) (wdM g) a.2 2 [(0, .ref (g.1 0)), (1, .int x1), (2, .int x2), (3, .int a.1)] []
abbrev E_X7_characters_2 (x1 : Int32) (x2 : Int32) (K : Cx) (g : Gw) (ret : St) (q : (St) ⊕ (St)) : Prop := Sum.elim (fun q => q = ret) (fun q => XW K 0 0 8 (QV K g (wdM g) ret) (wdM g) q 185 [] []) q
abbrev H_X7_characters_106 (x1 : Int32) (x2 : Int32) (x3 : Int32) (x5 : Int32) (K : Cx) (g : Gw) (ret : St) (a : Int32 × Int32 × St) : Prop := XW K 0 0 8 (QV K g (wdM g) ret) (wdM g) a.2.2 106 [(0, .ref (g.1 0)), (1, .int x1), (2, .int x2), (3, .int x3), (5, .int x5), (6, .int a.1), (7, .int a.2.1)] []
abbrev E_X7_characters_106 (x1 : Int32) (x2 : Int32) (x3 : Int32) (x5 : Int32) (K : Cx) (g : Gw) (ret : St) (q : (St) ⊕ (Int32 × St)) : Prop := Sum.elim (fun q => q = ret) (fun q => XW K 0 0 8 (QV K g (wdM g) ret) (wdM g) q.2 161 [(0, .ref (g.1 0)), (1, .int x1), (2, .int x2), (3, .int x3), (5, .int x5), (6, .int q.1)] []) q
set_option maxRecDepth 100000 in
set_option maxHeartbeats 4000000 in
theorem w_X7_characters_j153_106 {K : Cx} {g : Gw} (ret : St) (X : XC K g cX7_characters 8 RX7 none rm_X7_characters) (x1 : Int32) (x2 : Int32) (x3 : Int32) (x5 : Int32) (x7 : Int32) (z0 : Int32) (u : St) (r : ((St) ⊕ (Int32 × St)) ⊕ (Int32 × Int32 × St)) (h : f_X7_characters_j153_106 x1 x2 x3 x5 x7 z0 u = some r) (k0 : ∀ q, r = .inl q → E_X7_characters_106 x1 x2 x3 x5 K g ret q) (k1 : ∀ q, r = .inr q → H_X7_characters_106 x1 x2 x3 x5 K g ret q) : XW K 0 0 8 (QV K g (wdM g) ret) (wdM g) u 153 [(0, .ref (g.1 0)), (1, .int x1), (2, .int x2), (3, .int x3), (5, .int x5), (7, .int x7)] [.int z0] := by
  unfold f_X7_characters_j153_106 at h
  refine x_istore (lv2 := [(6, .int z0), (0, .ref (g.1 0)), (1, .int x1), (2, .int x2), (3, .int x3), (5, .int x5), (7, .int x7)]) X dX7_characters_153 (by decide) rfl ?_
  refine x_iinc (v := (x7 + 1)) (lv2 := [(7, .int (x7 + 1)), (6, .int z0), (0, .ref (g.1 0)), (1, .int x1), (2, .int x2), (3, .int x3), (5, .int x5)]) X dX7_characters_155 6 rfl rfl (by decide) rfl ?_
  refine x_goto (tgt := 106) X dX7_characters_158 (by decide) ?_
  refine x_sub [2, 3, 4, 5, 6, 1, 0] rfl ?_
  have h9 := k1 _ (Option.some.inj h).symm
  exact h9
set_option maxRecDepth 100000 in
set_option maxHeartbeats 4000000 in
theorem w_X7_characters_j152_106 {K : Cx} {g : Gw} (ret : St) (X : XC K g cX7_characters 8 RX7 none rm_X7_characters) (x1 : Int32) (x2 : Int32) (x3 : Int32) (x5 : Int32) (x7 : Int32) (u : St) (r : ((St) ⊕ (Int32 × St)) ⊕ (Int32 × Int32 × St)) (h : f_X7_characters_j152_106 x1 x2 x3 x5 x7 u = some r) (k0 : ∀ q, r = .inl q → E_X7_characters_106 x1 x2 x3 x5 K g ret q) (k1 : ∀ q, r = .inr q → H_X7_characters_106 x1 x2 x3 x5 K g ret q) : XW K 0 0 8 (QV K g (wdM g) ret) (wdM g) u 152 [(0, .ref (g.1 0)), (1, .int x1), (2, .int x2), (3, .int x3), (5, .int x5), (7, .int x7)] [] := by
  unfold f_X7_characters_j152_106 at h
  refine x_iconst (v := 0) X dX7_characters_152 (by decide) ?_
  exact w_X7_characters_j153_106 ret X x1 x2 x3 x5 x7 0 u r h k0 k1
set_option maxRecDepth 100000 in
set_option maxHeartbeats 4000000 in
theorem w_X7_characters_b106 {K : Cx} {g : Gw} (x1 : Int32) (x2 : Int32) (x3 : Int32) (x5 : Int32) (ret : St) (X : XC K g cX7_characters 8 RX7 none rm_X7_characters) (a : Int32 × Int32 × St) (r : ((St) ⊕ (Int32 × St)) ⊕ (Int32 × Int32 × St)) (h : f_X7_characters_b106 x1 x2 x3 x5 a = some r) (k0 : ∀ q, r = .inl q → E_X7_characters_106 x1 x2 x3 x5 K g ret q) (k1 : ∀ q, r = .inr q → H_X7_characters_106 x1 x2 x3 x5 K g ret q) : H_X7_characters_106 x1 x2 x3 x5 K g ret a := by
  unfold f_X7_characters_b106 at h
  show XW K 0 0 8 (QV K g (wdM g) ret) (wdM g) a.2.2 106 [(0, .ref (g.1 0)), (1, .int x1), (2, .int x2), (3, .int x3), (5, .int x5), (6, .int a.1), (7, .int a.2.1)] []
  refine x_iload X dX7_characters_106 6 rfl ?_
  refine x_iload X dX7_characters_108 4 rfl ?_
  refine x_icmp_gt (tgt := 161) X dX7_characters_110 (by decide) (fun c7 => ?_) (fun c7 => ?_)
  · replace h := if_t c7 h
    refine x_sub [0, 1, 2, 3, 4, 5] rfl ?_
    have h9 := k0 _ (Option.some.inj h).symm
    exact h9
  · replace h := if_f c7 h
    refine x_iload X dX7_characters_113 5 rfl ?_
    refine x_if_eq (tgt := 161) X dX7_characters_115 (by decide) (fun c8 => ?_) (fun c8 => ?_)
    · replace h := if_t c8 h
      refine x_sub [0, 1, 2, 3, 4, 5] rfl ?_
      have h9 := k0 _ (Option.some.inj h).symm
      exact h9
    · replace h := if_f c8 h
      refine x_aload_n X dX7_characters_118 rfl 0 rfl ?_
      refine x_get (v := .ref (g.1 1)) X 0 0 in_X7 rfl rfl (by decide) m_X7_7 rfl dX7_characters_119 ?_
      refine x_iload_n X dX7_characters_122 rfl 3 rfl ?_
      refine x_iload X dX7_characters_123 6 rfl ?_
      refine x_iadd X dX7_characters_125 ?_
      obtain ⟨i9, h⟩ := chk_some h
      refine x_iald (f := (a.2.2 30)) X 1 0 rfl rfl i9 dX7_characters_126 ?_
      refine x_sipush (v := 128) X dX7_characters_127 (by decide) ?_
      refine x_icmp_lt (tgt := 152) X dX7_characters_130 (by decide) (fun c10 => ?_) (fun c10 => ?_)
      · replace h := if_t c10 h
        refine x_sub [0, 1, 2, 3, 4, 6] rfl ?_
        exact w_X7_characters_j152_106 ret X x1 x2 x3 x5 a.2.1 a.2.2 r h k0 k1
      · replace h := if_f c10 h
        refine x_aload_n X dX7_characters_133 rfl 0 rfl ?_
        refine x_get (v := .ref (g.1 1)) X 0 0 in_X7 rfl rfl (by decide) m_X7_7 rfl dX7_characters_134 ?_
        refine x_iload_n X dX7_characters_137 rfl 3 rfl ?_
        refine x_iload X dX7_characters_138 6 rfl ?_
        refine x_iadd X dX7_characters_140 ?_
        obtain ⟨i11, h⟩ := chk_some h
        refine x_iald (f := (a.2.2 30)) X 1 0 rfl rfl i11 dX7_characters_141 ?_
        refine x_sipush (v := 192) X dX7_characters_142 (by decide) ?_
        refine x_icmp_ge (tgt := 152) X dX7_characters_145 (by decide) (fun c12 => ?_) (fun c12 => ?_)
        · replace h := if_t c12 h
          refine x_sub [0, 1, 2, 3, 4, 6] rfl ?_
          exact w_X7_characters_j152_106 ret X x1 x2 x3 x5 a.2.1 a.2.2 r h k0 k1
        · replace h := if_f c12 h
          refine x_iconst (v := 1) X dX7_characters_148 (by decide) ?_
          refine x_goto (tgt := 153) X dX7_characters_149 (by decide) ?_
          refine x_sub [0, 1, 2, 3, 4, 6] rfl ?_
          exact w_X7_characters_j153_106 ret X x1 x2 x3 x5 a.2.1 1 a.2.2 r h k0 k1
set_option maxRecDepth 100000 in
set_option maxHeartbeats 4000000 in
theorem w_X7_characters_j161_2 {K : Cx} {g : Gw} (ret : St) (X : XC K g cX7_characters 8 RX7 none rm_X7_characters) (x1 : Int32) (x2 : Int32) (x3 : Int32) (x5 : Int32) (x6 : Int32) (u : St) (r : ((St) ⊕ (St)) ⊕ (Int32 × St)) (h : f_X7_characters_j161_2 x1 x2 x3 x5 x6 u = some r) (k0 : ∀ q, r = .inl q → E_X7_characters_2 x1 x2 K g ret q) (k1 : ∀ q, r = .inr q → H_X7_characters_2 x1 x2 K g ret q) : XW K 0 0 8 (QV K g (wdM g) ret) (wdM g) u 161 [(0, .ref (g.1 0)), (1, .int x1), (2, .int x2), (3, .int x3), (5, .int x5), (6, .int x6)] [] := by
  unfold f_X7_characters_j161_2 at h
  refine x_iload X dX7_characters_161 5 rfl ?_
  refine x_if_ne (tgt := 175) X dX7_characters_163 (by decide) (fun c14 => ?_) (fun c14 => ?_)
  · replace h := if_f c14 h
    refine x_iload_n X dX7_characters_175 rfl 3 rfl ?_
    refine x_iconst (v := 1) X dX7_characters_176 (by decide) ?_
    refine x_iload X dX7_characters_177 4 rfl ?_
    refine x_iadd X dX7_characters_179 ?_
    refine x_iadd X dX7_characters_180 ?_
    refine x_istore_n (lv2 := [(3, .int (x3 + (1 + x5))), (0, .ref (g.1 0)), (1, .int x1), (2, .int x2), (5, .int x5), (6, .int x6)]) X dX7_characters_181 rfl (by decide) rfl ?_
    refine x_goto (tgt := 2) X dX7_characters_182 (by decide) ?_
    refine x_sub [1, 2, 3, 0] rfl ?_
    have h9 := k1 _ (Option.some.inj h).symm
    exact h9
  · replace h := if_t c14 h
    refine x_aload_n X dX7_characters_166 rfl 0 rfl ?_
    refine x_bipush (v := 6) X dX7_characters_167 (by decide) ?_
    refine x_iload_n X dX7_characters_169 rfl 3 rfl ?_
    obtain ⟨q15, e15, h⟩ := bd h
    refine x_callI X [.int 6, .int x3] [] (c_X7_fail K.l K.D g 6 x3 u q15 e15) ok_X7_fail m_X7_89 0 rfl rfl rfl rfl (Nat.le_of_ble_eq_true rfl) ⟨Nat.zero_le _, Nat.zero_le _⟩ ⟨rfl, rfl, by decide, by decide⟩ dX7_characters_170 ?_
    refine x_pop X dX7_characters_173 rfl ?_
    exact x_vret X (k0 _ (Option.some.inj h).symm) dX7_characters_174
set_option maxRecDepth 100000 in
set_option maxHeartbeats 4000000 in
theorem w_X7_characters_j101_2 {K : Cx} {g : Gw} (ret : St) (X : XC K g cX7_characters 8 RX7 none rm_X7_characters) (x1 : Int32) (x2 : Int32) (x3 : Int32) (x5 : Int32) (z0 : Int32) (u : St) (r : ((St) ⊕ (St)) ⊕ (Int32 × St)) (h : f_X7_characters_j101_2 x1 x2 x3 x5 z0 u = some r) (k0 : ∀ q, r = .inl q → E_X7_characters_2 x1 x2 K g ret q) (k1 : ∀ q, r = .inr q → H_X7_characters_2 x1 x2 K g ret q) : XW K 0 0 8 (QV K g (wdM g) ret) (wdM g) u 101 [(0, .ref (g.1 0)), (1, .int x1), (2, .int x2), (3, .int x3), (5, .int x5)] [.int z0] := by
  unfold f_X7_characters_j101_2 at h
  refine x_istore (lv2 := [(6, .int z0), (0, .ref (g.1 0)), (1, .int x1), (2, .int x2), (3, .int x3), (5, .int x5)]) X dX7_characters_101 (by decide) rfl ?_
  refine x_iconst (v := 1) X dX7_characters_103 (by decide) ?_
  refine x_istore (lv2 := [(7, .int 1), (6, .int z0), (0, .ref (g.1 0)), (1, .int x1), (2, .int x2), (3, .int x3), (5, .int x5)]) X dX7_characters_104 (by decide) rfl ?_
  refine x_sub [2, 3, 4, 5, 6, 1, 0] rfl ?_
  obtain ⟨q130, e13, h⟩ := bd h
  refine loopF_w (WH := H_X7_characters_106 x1 x2 x3 x5 K g ret) (KB := E_X7_characters_106 x1 x2 x3 x5 K g ret) (fun a9 r9 h9 k8 k7 => w_X7_characters_b106 x1 x2 x3 x5 ret X a9 r9 h9 k8 k7) FU (z0, 1, u) q130 e13 ?_
  rcases q130 with q13 | q13
  · replace h := sl h
    exact (k0 _ (Option.some.inj h).symm)
  · replace h := sr h
    show XW K 0 0 8 (QV K g (wdM g) ret) (wdM g) q13.2 161 [(0, .ref (g.1 0)), (1, .int x1), (2, .int x2), (3, .int x3), (5, .int x5), (6, .int q13.1)] []
    exact w_X7_characters_j161_2 ret X x1 x2 x3 x5 q13.1 q13.2 r h k0 k1
set_option maxRecDepth 100000 in
set_option maxHeartbeats 4000000 in
theorem w_X7_characters_j100_2 {K : Cx} {g : Gw} (ret : St) (X : XC K g cX7_characters 8 RX7 none rm_X7_characters) (x1 : Int32) (x2 : Int32) (x3 : Int32) (x5 : Int32) (u : St) (r : ((St) ⊕ (St)) ⊕ (Int32 × St)) (h : f_X7_characters_j100_2 x1 x2 x3 x5 u = some r) (k0 : ∀ q, r = .inl q → E_X7_characters_2 x1 x2 K g ret q) (k1 : ∀ q, r = .inr q → H_X7_characters_2 x1 x2 K g ret q) : XW K 0 0 8 (QV K g (wdM g) ret) (wdM g) u 100 [(0, .ref (g.1 0)), (1, .int x1), (2, .int x2), (3, .int x3), (5, .int x5)] [] := by
  unfold f_X7_characters_j100_2 at h
  refine x_iconst (v := 0) X dX7_characters_100 (by decide) ?_
  exact w_X7_characters_j101_2 ret X x1 x2 x3 x5 0 u r h k0 k1
set_option maxRecDepth 100000 in
set_option maxHeartbeats 4000000 in
theorem w_X7_characters_j77_2 {K : Cx} {g : Gw} (ret : St) (X : XC K g cX7_characters 8 RX7 none rm_X7_characters) (x1 : Int32) (x2 : Int32) (x3 : Int32) (z0 : Int32) (u : St) (r : ((St) ⊕ (St)) ⊕ (Int32 × St)) (h : f_X7_characters_j77_2 x1 x2 x3 z0 u = some r) (k0 : ∀ q, r = .inl q → E_X7_characters_2 x1 x2 K g ret q) (k1 : ∀ q, r = .inr q → H_X7_characters_2 x1 x2 K g ret q) : XW K 0 0 8 (QV K g (wdM g) ret) (wdM g) u 77 [(0, .ref (g.1 0)), (1, .int x1), (2, .int x2), (3, .int x3)] [.int z0] := by
  unfold f_X7_characters_j77_2 at h
  refine x_istore (lv2 := [(5, .int z0), (0, .ref (g.1 0)), (1, .int x1), (2, .int x2), (3, .int x3)]) X dX7_characters_77 (by decide) rfl ?_
  refine x_iload X dX7_characters_79 0 rfl ?_
  refine x_bipush (v := 9) X dX7_characters_81 (by decide) ?_
  refine x_icmp_ge (tgt := 100) X dX7_characters_83 (by decide) (fun c6 => ?_) (fun c6 => ?_)
  · replace h := if_t c6 h
    refine x_sub [1, 2, 3, 4, 0] rfl ?_
    exact w_X7_characters_j100_2 ret X x1 x2 x3 z0 u r h k0 k1
  · replace h := if_f c6 h
    refine x_iload_n X dX7_characters_86 rfl 4 rfl ?_
    refine x_iload X dX7_characters_87 0 rfl ?_
    refine x_iadd X dX7_characters_89 ?_
    refine x_iload_n X dX7_characters_90 rfl 2 rfl ?_
    refine x_iload_n X dX7_characters_91 rfl 3 rfl ?_
    refine x_iadd X dX7_characters_92 ?_
    refine x_icmp_ge (tgt := 100) X dX7_characters_93 (by decide) (fun c16 => ?_) (fun c16 => ?_)
    · replace h := if_t c16 h
      refine x_sub [1, 2, 3, 4, 0] rfl ?_
      exact w_X7_characters_j100_2 ret X x1 x2 x3 z0 u r h k0 k1
    · replace h := if_f c16 h
      refine x_iconst (v := 1) X dX7_characters_96 (by decide) ?_
      refine x_goto (tgt := 101) X dX7_characters_97 (by decide) ?_
      refine x_sub [1, 2, 3, 4, 0] rfl ?_
      exact w_X7_characters_j101_2 ret X x1 x2 x3 z0 1 u r h k0 k1
set_option maxRecDepth 100000 in
set_option maxHeartbeats 4000000 in
theorem w_X7_characters_j75_2 {K : Cx} {g : Gw} (ret : St) (X : XC K g cX7_characters 8 RX7 none rm_X7_characters) (x1 : Int32) (x2 : Int32) (x3 : Int32) (u : St) (r : ((St) ⊕ (St)) ⊕ (Int32 × St)) (h : f_X7_characters_j75_2 x1 x2 x3 u = some r) (k0 : ∀ q, r = .inl q → E_X7_characters_2 x1 x2 K g ret q) (k1 : ∀ q, r = .inr q → H_X7_characters_2 x1 x2 K g ret q) : XW K 0 0 8 (QV K g (wdM g) ret) (wdM g) u 75 [(0, .ref (g.1 0)), (1, .int x1), (2, .int x2), (3, .int x3)] [] := by
  unfold f_X7_characters_j75_2 at h
  refine x_bipush (v := 9) X dX7_characters_75 (by decide) ?_
  exact w_X7_characters_j77_2 ret X x1 x2 x3 9 u r h k0 k1
set_option maxRecDepth 100000 in
set_option maxHeartbeats 4000000 in
theorem w_X7_characters_j55_2 {K : Cx} {g : Gw} (ret : St) (X : XC K g cX7_characters 8 RX7 none rm_X7_characters) (x1 : Int32) (x2 : Int32) (x3 : Int32) (x4 : Int32) (u : St) (r : ((St) ⊕ (St)) ⊕ (Int32 × St)) (h : f_X7_characters_j55_2 x1 x2 x3 x4 u = some r) (k0 : ∀ q, r = .inl q → E_X7_characters_2 x1 x2 K g ret q) (k1 : ∀ q, r = .inr q → H_X7_characters_2 x1 x2 K g ret q) : XW K 0 0 8 (QV K g (wdM g) ret) (wdM g) u 55 [(0, .ref (g.1 0)), (1, .int x1), (2, .int x2), (3, .int x3), (4, .int x4)] [] := by
  unfold f_X7_characters_j55_2 at h
  refine x_iload X dX7_characters_55 4 rfl ?_
  refine x_sipush (v := 224) X dX7_characters_57 (by decide) ?_
  refine x_icmp_lt (tgt := 75) X dX7_characters_60 (by decide) (fun c5 => ?_) (fun c5 => ?_)
  · replace h := if_t c5 h
    refine x_sub [0, 1, 2, 3] rfl ?_
    exact w_X7_characters_j75_2 ret X x1 x2 x3 u r h k0 k1
  · replace h := if_f c5 h
    refine x_iload X dX7_characters_63 4 rfl ?_
    refine x_sipush (v := 240) X dX7_characters_65 (by decide) ?_
    refine x_icmp_ge (tgt := 75) X dX7_characters_68 (by decide) (fun c17 => ?_) (fun c17 => ?_)
    · replace h := if_t c17 h
      refine x_sub [0, 1, 2, 3] rfl ?_
      exact w_X7_characters_j75_2 ret X x1 x2 x3 u r h k0 k1
    · replace h := if_f c17 h
      refine x_iconst (v := 2) X dX7_characters_71 (by decide) ?_
      refine x_goto (tgt := 77) X dX7_characters_72 (by decide) ?_
      refine x_sub [0, 1, 2, 3] rfl ?_
      exact w_X7_characters_j77_2 ret X x1 x2 x3 2 u r h k0 k1
set_option maxRecDepth 100000 in
set_option maxHeartbeats 4000000 in
theorem w_X7_characters_j35_2 {K : Cx} {g : Gw} (ret : St) (X : XC K g cX7_characters 8 RX7 none rm_X7_characters) (x1 : Int32) (x2 : Int32) (x3 : Int32) (x4 : Int32) (u : St) (r : ((St) ⊕ (St)) ⊕ (Int32 × St)) (h : f_X7_characters_j35_2 x1 x2 x3 x4 u = some r) (k0 : ∀ q, r = .inl q → E_X7_characters_2 x1 x2 K g ret q) (k1 : ∀ q, r = .inr q → H_X7_characters_2 x1 x2 K g ret q) : XW K 0 0 8 (QV K g (wdM g) ret) (wdM g) u 35 [(0, .ref (g.1 0)), (1, .int x1), (2, .int x2), (3, .int x3), (4, .int x4)] [] := by
  unfold f_X7_characters_j35_2 at h
  refine x_iload X dX7_characters_35 4 rfl ?_
  refine x_sipush (v := 192) X dX7_characters_37 (by decide) ?_
  refine x_icmp_lt (tgt := 55) X dX7_characters_40 (by decide) (fun c4 => ?_) (fun c4 => ?_)
  · replace h := if_t c4 h
    exact w_X7_characters_j55_2 ret X x1 x2 x3 x4 u r h k0 k1
  · replace h := if_f c4 h
    refine x_iload X dX7_characters_43 4 rfl ?_
    refine x_sipush (v := 224) X dX7_characters_45 (by decide) ?_
    refine x_icmp_ge (tgt := 55) X dX7_characters_48 (by decide) (fun c18 => ?_) (fun c18 => ?_)
    · replace h := if_t c18 h
      exact w_X7_characters_j55_2 ret X x1 x2 x3 x4 u r h k0 k1
    · replace h := if_f c18 h
      refine x_iconst (v := 1) X dX7_characters_51 (by decide) ?_
      refine x_goto (tgt := 77) X dX7_characters_52 (by decide) ?_
      refine x_sub [0, 1, 2, 3] rfl ?_
      exact w_X7_characters_j77_2 ret X x1 x2 x3 1 u r h k0 k1
set_option maxRecDepth 100000 in
set_option maxHeartbeats 4000000 in
theorem w_X7_characters_b2 {K : Cx} {g : Gw} (x1 : Int32) (x2 : Int32) (ret : St) (X : XC K g cX7_characters 8 RX7 none rm_X7_characters) (a : Int32 × St) (r : ((St) ⊕ (St)) ⊕ (Int32 × St)) (h : f_X7_characters_b2 x1 x2 a = some r) (k0 : ∀ q, r = .inl q → E_X7_characters_2 x1 x2 K g ret q) (k1 : ∀ q, r = .inr q → H_X7_characters_2 x1 x2 K g ret q) : H_X7_characters_2 x1 x2 K g ret a := by
  unfold f_X7_characters_b2 at h
  show XW K 0 0 8 (QV K g (wdM g) ret) (wdM g) a.2 2 [(0, .ref (g.1 0)), (1, .int x1), (2, .int x2), (3, .int a.1)] []
  refine x_iload_n X dX7_characters_2 rfl 3 rfl ?_
  refine x_iload_n X dX7_characters_3 rfl 1 rfl ?_
  refine x_iload_n X dX7_characters_4 rfl 2 rfl ?_
  refine x_iadd X dX7_characters_5 ?_
  refine x_icmp_ge (tgt := 185) X dX7_characters_6 (by decide) (fun c1 => ?_) (fun c1 => ?_)
  · replace h := if_t c1 h
    refine x_sub [] rfl ?_
    have h9 := k0 _ (Option.some.inj h).symm
    exact h9
  · replace h := if_f c1 h
    refine x_aload_n X dX7_characters_9 rfl 0 rfl ?_
    refine x_get (v := .ref (g.1 1)) X 0 0 in_X7 rfl rfl (by decide) m_X7_7 rfl dX7_characters_10 ?_
    refine x_iload_n X dX7_characters_13 rfl 3 rfl ?_
    obtain ⟨i2, h⟩ := chk_some h
    refine x_iald (f := (a.2 30)) X 1 0 rfl rfl i2 dX7_characters_14 ?_
    refine x_istore (lv2 := [(4, .int ((a.2 30) (Int32.toNatClampNeg a.1))), (0, .ref (g.1 0)), (1, .int x1), (2, .int x2), (3, .int a.1)]) X dX7_characters_15 (by decide) rfl ?_
    refine x_iload X dX7_characters_17 0 rfl ?_
    refine x_iconst (v := 1) X dX7_characters_19 (by decide) ?_
    refine x_icmp_lt (tgt := 35) X dX7_characters_20 (by decide) (fun c3 => ?_) (fun c3 => ?_)
    · replace h := if_t c3 h
      refine x_sub [1, 2, 3, 4, 0] rfl ?_
      exact w_X7_characters_j35_2 ret X x1 x2 a.1 ((a.2 30) (Int32.toNatClampNeg a.1)) a.2 r h k0 k1
    · replace h := if_f c3 h
      refine x_iload X dX7_characters_23 0 rfl ?_
      refine x_sipush (v := 128) X dX7_characters_25 (by decide) ?_
      refine x_icmp_ge (tgt := 35) X dX7_characters_28 (by decide) (fun c19 => ?_) (fun c19 => ?_)
      · replace h := if_t c19 h
        refine x_sub [1, 2, 3, 4, 0] rfl ?_
        exact w_X7_characters_j35_2 ret X x1 x2 a.1 ((a.2 30) (Int32.toNatClampNeg a.1)) a.2 r h k0 k1
      · replace h := if_f c19 h
        refine x_iconst (v := 0) X dX7_characters_31 (by decide) ?_
        refine x_goto (tgt := 77) X dX7_characters_32 (by decide) ?_
        refine x_sub [1, 2, 3, 4] rfl ?_
        exact w_X7_characters_j77_2 ret X x1 x2 a.1 0 a.2 r h k0 k1
set_option maxRecDepth 100000 in
set_option maxHeartbeats 4000000 in
theorem c_X7_characters (l : Launch) (D : va_G) (g : Gw) (p0 : Int32) (p1 : Int32) (u : St) (ret : St) (h : f_X7_characters p0 p1 u = some ret) : metV l D g (wdM g) yX7_characters cX7_characters 8 rm_X7_characters [.ref (g.1 0), .int p0, .int p1] u ret := by
  refine metV_of (own := RX7) (lv := [(0, .ref (g.1 0)), (1, .int p0), (2, .int p1)]) (by decide) rfl rfl (Nat.le_of_ble_eq_true rfl) (fun K hl9 hD9 X => ?_)
  subst hl9
  subst hD9
  unfold f_X7_characters at h
  refine x_iload_n X dX7_characters_0 rfl 1 rfl ?_
  refine x_istore_n (lv2 := [(3, .int p0), (0, .ref (g.1 0)), (1, .int p0), (2, .int p1)]) X dX7_characters_1 rfl (by decide) rfl ?_
  refine x_sub [1, 2, 3, 0] rfl ?_
  obtain ⟨q200, e20, h⟩ := bd h
  refine loopF_w (WH := H_X7_characters_2 p0 p1 K g ret) (KB := E_X7_characters_2 p0 p1 K g ret) (fun a9 r9 h9 k8 k7 => w_X7_characters_b2 p0 p1 ret X a9 r9 h9 k8 k7) FU (p0, u) q200 e20 ?_
  rcases q200 with q20 | q20
  · replace h := sl h
    exact (Option.some.inj h)
  · replace h := sr h
    show XW K 0 0 8 (QV K g (wdM g) ret) (wdM g) q20 185 [] []
    exact x_vret X (Option.some.inj h) dX7_characters_185
